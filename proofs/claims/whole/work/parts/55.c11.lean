/-! buying and selling -/
section C11
variable {d : Nat} {K : Ps} {E : Nat → Prop} {R : Nat → Nat → Value} {I : Nat → Nat → Int32} {J : Nat → Nat → Int64} {a : Nat → Int32} {b : Nat → Int64} {M X n : Nat} {B : Nat → Nat}
/-- a market counts a bale bought -/
theorem Rel.bale {p g : Nat} (hr : Rel R X I J a b M) (hp1 : 1 ≤ p) (hp : p < 5) (hg : g < 4) : Rel R X (ua I (rc 2 (X + 4 * p + g)) (k_bought (I (rc 2 (X + 4 * p + g))))) J (m_bale a p g) b M := by
  have e1 := hr.mk2 (k := 1) (by decide) hp1 hp hg
  have e2 := hr.mk2 (k := 2) (by decide) hp1 hp hg
  have m1 := mp_mk' (k := 1) (by decide) hp1 hp hg
  have m2 := mp_mk' (k := 2) (by decide) hp1 hp hg
  simp only [Nat.reduceMul, Nat.reduceAdd] at e1 e2 m1 m2
  have pp := pl_base p hp g hg
  unfold k_bought m_bale
  rw [e1, e2, ← Nat.add_assoc, ← Nat.add_assoc]
  split
  next z =>
    have r := (hr.up (v := a (70 + 4 * p + g) + 1) m2 (rcX3 p g X) pp.2.2.2.1).up (v := a (50 + 4 * p + g) + 1) m1 (rcX3 p g X) pp.2.1
    rw [ua_eq, ua_ua] at r
    exact r
  next z => exact hr.up m2 (rcX3 p g X) pp.2.2.2.1
/-- a market counts a bale sold -/
def m_sold (a : Nat → Int32) (p g : Nat) : Nat → Int32 :=
  if irm (a (90 + (4 * p + g)) + 1) 10 = 0 ∧ 1 < a (50 + (4 * p + g)) then upd (upd a (90 + (4 * p + g)) (a (90 + (4 * p + g)) + 1)) (50 + (4 * p + g)) (a (50 + (4 * p + g)) - 1) else upd a (90 + (4 * p + g)) (a (90 + (4 * p + g)) + 1)
theorem Rel.sold {p g : Nat} (hr : Rel R X I J a b M) (hp1 : 1 ≤ p) (hp : p < 5) (hg : g < 4) : Rel R X (ua I (rc 2 (X + 4 * p + g)) (k_sold (I (rc 2 (X + 4 * p + g))))) J (m_sold a p g) b M := by
  have e1 := hr.mk2 (k := 1) (by decide) hp1 hp hg
  have e2 := hr.mk2 (k := 3) (by decide) hp1 hp hg
  have m1 := mp_mk' (k := 1) (by decide) hp1 hp hg
  have m2 := mp_mk' (k := 3) (by decide) hp1 hp hg
  simp only [Nat.reduceMul, Nat.reduceAdd] at e1 e2 m1 m2
  have pp := pl_base p hp g hg
  unfold k_sold m_sold
  rw [e1, e2, ← Nat.add_assoc, ← Nat.add_assoc]
  split
  next z =>
    have r := (hr.up (v := a (90 + 4 * p + g) + 1) m2 (rcX3 p g X) pp.2.2.2.2).up (v := a (50 + 4 * p + g) - 1) m1 (rcX3 p g X) pp.2.1
    rw [ua_eq, ua_ua] at r
    exact r
  next z => exact hr.up m2 (rcX3 p g X) pp.2.2.2.2
theorem m_bale_upd {p g i : Nat} {v : Int32} (h1 : i ≠ 70 + (4 * p + g)) (h2 : i ≠ 50 + (4 * p + g)) : m_bale (upd a i v) p g = upd (m_bale a p g) i v := by
  unfold m_bale
  rw [upd_ne h1.symm, upd_ne h2.symm]
  split
  · rw [upd_comm h1, upd_comm h2]
  · rw [upd_comm h1]
theorem m_buy1_eq {p g : Nat} (hp1 : 1 ≤ p) (hp : p < 5) (hg1 : 1 ≤ g) (hg : g < 4) : m_bale (upd (upd a (10 + 4 * p + 0) (a (10 + 4 * p + 0) - a (50 + 4 * p + g))) (10 + 4 * p + g) (a (10 + 4 * p + g) + 1)) p g = m_buy1 a p g := by
  unfold m_buy1
  rw [m_bale_upd (by omega) (by omega), m_bale_upd (by omega) (by omega), upd_ne (by omega), m_bale_ne (by omega) (by omega), m_bale_ne (by omega) (by omega), Nat.add_zero, Nat.add_assoc 50]
theorem m_sell1_eq {p g : Nat} (hp1 : 1 ≤ p) (hp : p < 5) (hg1 : 1 ≤ g) (hg : g < 4) : m_sold (upd (upd a (10 + 4 * p + g) (a (10 + 4 * p + g) - 1)) (10 + 4 * p + 0) (a (10 + 4 * p + 0) + a (50 + 4 * p + g))) p g = m_sell1 a p g := by
  unfold m_sell1 m_sold
  rw [upd_ne (by omega), upd_ne (by omega), upd_ne (by omega), upd_ne (by omega), Nat.add_zero, Nat.add_assoc 50, Nat.add_assoc 10]
theorem Rel.buy1 {p g : Nat} {c : Int32} (hr : Rel R X I J a b M) (hp1 : 1 ≤ p) (hp : p < 5) (hg1 : 1 ≤ g) (hg : g < 4) (hc : c = a (50 + 4 * p + g)) (I2 : Nat → Nat → Int32) (hI2 : I2 = ua I (rc 27 (X + p)) (upd (upd (I (rc 27 (X + p))) 0 (a (10 + 4 * p + 0) - c)) g (a (10 + 4 * p + g) + 1))) : Rel R X (ua I2 (rc 2 (X + 4 * p + g)) (k_bought (I2 (rc 2 (X + 4 * p + g))))) (ua J (rc 15 X) (vp_updL (vp_updL (J (rc 15 X)) 3 (J (rc 15 X) 3 + c.toInt64)) (g * 7) (J (rc 15 X) (g * 7) + 1))) (m_buy1 a p g) (m_buyb b g (a (50 + (4 * p + g)))) M := by
  have pp := pl_base p hp
  have r := (hr.up (v := a (10 + 4 * p + 0) - a (50 + 4 * p + g)) (mp_store p hp 0 (by decide)) (rcX 27 p X) (pp 0 (by decide)).2.2.1).up (v := a (10 + 4 * p + g) + 1) (mp_store p hp g hg) (rcX 27 p X) (pp g hg).2.2.1
  rw [ua_eq, ua_ua, ← hc, ← hI2] at r
  have r2 := r.bale hp1 hp hg
  rw [hc, m_buy1_eq hp1 hp hg1 hg] at r2
  have e3 := hr.jb 0 (by decide) 1 (by decide)
  have e0 := hr.jb g hg 0 (by decide)
  rw [show qk 1 = 3 from rfl] at e3
  rw [show qk 0 = 0 from rfl] at e0
  have r3 := (r2.upJ (v := b 1 + c.toInt64) (g := 0) (q := 1) (k := 3) (by decide) (by decide) rfl).upJ (v := b (8 * g) + 1) (g := g) (q := 0) (k := 0) hg (by decide) rfl
  rw [ua_eq, ua_ua] at r3
  simp only [Nat.zero_mul, Nat.mul_zero, Nat.zero_add, Nat.add_zero] at r3 e3 e0
  rw [e3, e0]
  unfold m_buyb
  have e4 : vp_updL (vp_updL b 1 (b 1 + c.toInt64)) (8 * g) (b (8 * g) + 1) = vp_updL (vp_updL b (8 * g) (b (8 * g) + 1)) 1 (b 1 + (a (50 + (4 * p + g))).toInt64) := by
    rw [hc, Nat.add_assoc 50]
    funext i
    unfold vp_updL
    repeat' split
    all_goals first | rfl | omega
  rw [e4] at r3
  exact r3
theorem Rel.sell1 {p g : Nat} {c : Int32} (hr : Rel R X I J a b M) (hp1 : 1 ≤ p) (hp : p < 5) (hg1 : 1 ≤ g) (hg : g < 4) (hc : c = a (50 + 4 * p + g)) (I2 : Nat → Nat → Int32) (hI2 : I2 = ua I (rc 27 (X + p)) (upd (upd (I (rc 27 (X + p))) g (a (10 + 4 * p + g) - 1)) 0 (a (10 + 4 * p + 0) + c))) : Rel R X (ua I2 (rc 2 (X + 4 * p + g)) (k_sold (I2 (rc 2 (X + 4 * p + g))))) (ua J (rc 15 X) (vp_updL (vp_updL (J (rc 15 X)) (g * 7 + 3) (J (rc 15 X) (g * 7 + 3) + 1)) 0 (J (rc 15 X) 0 + c.toInt64))) (m_sell1 a p g) (m_sellb b g (a (50 + (4 * p + g)))) M := by
  have pp := pl_base p hp
  have r := (hr.up (v := a (10 + 4 * p + g) - 1) (mp_store p hp g hg) (rcX 27 p X) (pp g hg).2.2.1).up (v := a (10 + 4 * p + 0) + a (50 + 4 * p + g)) (mp_store p hp 0 (by decide)) (rcX 27 p X) (pp 0 (by decide)).2.2.1
  rw [ua_eq, ua_ua, ← hc, ← hI2] at r
  have r2 := r.sold hp1 hp hg
  rw [hc, m_sell1_eq hp1 hp hg1 hg] at r2
  have e3 := hr.jb g hg 1 (by decide)
  have e0 := hr.jb 0 (by decide) 0 (by decide)
  rw [show qk 1 = 3 from rfl] at e3
  rw [show qk 0 = 0 from rfl] at e0
  have r3 := (r2.upJ (v := b (8 * g + 1) + 1) (g := g) (q := 1) (k := 3) hg (by decide) rfl).upJ (v := b 0 + c.toInt64) (g := 0) (q := 0) (k := 0) (by decide) (by decide) rfl
  rw [ua_eq, ua_ua] at r3
  simp only [Nat.zero_mul, Nat.mul_zero, Nat.zero_add, Nat.add_zero] at r3 e3 e0
  rw [e3, e0]
  unfold m_sellb
  rw [← Nat.add_assoc 50, ← hc]
  exact r3
end C11
