theorem sp_ask_end {w : Nat → Nat} {bb : Int} {x nh B hd : Nat} (hw : ∀ y, w y ≤ 10) (hbb : bb = sp_ab 268435456 w x) (hx0 : x = 0 ∨ (0 < hd ∧ ¬ B = 0)) (he : x = nh ∨ B = 0 ∨ hd = 0) : bb = (if B = 0 ∨ hd = 0 then -1 else sp_ab 11 w nh) := by
  by_cases h : B = 0 ∨ hd = 0
  · rw [if_pos h, hbb, show x = 0 by omega]
    rfl
  · rw [if_neg h, hbb, show x = nh by omega]
    exact (sp_af_eq hw (by decide) (by decide) nh).1
theorem sp_bcd {c d SH SL : Nat → Int} {n : Nat} (hS : ∀ x, x < n → 0 ≤ SH x ∧ SH x ≤ 9 ∧ 0 ≤ SL x ∧ SL x ≤ 9) (hc : ∀ j, j < n → c j = SH j) (hd : ∀ j, j < n → d j = SL j) : ∀ x, x < n → 0 ≤ c x ∧ c x ≤ 9 ∧ 0 ≤ d x ∧ d x ≤ 9 := by
  intro x hx
  rw [hc x hx, hd x hx]
  exact hS x hx
