/-! What the reference's own ways come to. -/
theorem sp_sum_congr {a b c d : Nat → Int} : ∀ {n : Nat}, (∀ j, j < n → a j = c j) → (∀ j, j < n → b j = d j) → sp_sum a b n = sp_sum c d n
  | 0, _, _ => rfl
  | n + 1, h1, h2 => by
    show sp_add (sp_sum a b n) (a n) (b n) = sp_add (sp_sum c d n) (c n) (d n)
    rw [sp_sum_congr (n := n) (fun j hj => h1 j (by omega)) (fun j hj => h2 j (by omega)), h1 n (by omega), h2 n (by omega)]
theorem sp_sum_think {c d SH SL : Nat → Int} {n : Nat} {a l : Int} (hc : ∀ j, j < n → c j = SH j) (hd : ∀ j, j < n → d j = SL j) : sp_sum (va_up c n a) (va_up d n l) (n + 1) = sp_add (sp_sum SH SL n) a l := by
  show sp_add (sp_sum (va_up c n a) (va_up d n l) n) (va_up c n a n) (va_up d n l n) = _
  rw [va_up_self, va_up_self, sp_sum_congr (n := n) (c := SH) (d := SL) (fun j hj => by rw [va_up_ne _ _ (by omega)]; exact hc j hj) (fun j hj => by rw [va_up_ne _ _ (by omega)]; exact hd j hj)]
theorem sp_think_b {c d SH SL : Nat → Int} {n : Nat} {a l : Int} (hS : ∀ x, x < n → 0 ≤ SH x ∧ SH x ≤ 9 ∧ 0 ≤ SL x ∧ SL x ≤ 9) (hc : ∀ j, j < n → c j = SH j) (hd : ∀ j, j < n → d j = SL j) (ha : 0 ≤ a ∧ a ≤ 9) (hl : 0 ≤ l ∧ l ≤ 9) : ∀ x, x < n + 1 → 0 ≤ va_up c n a x ∧ va_up c n a x ≤ 9 ∧ 0 ≤ va_up d n l x ∧ va_up d n l x ≤ 9 := by
  intro x hx
  by_cases e : x = n
  · subst e
    rw [va_up_self, va_up_self]
    omega
  · rw [va_up_ne _ _ e, va_up_ne _ _ e, hc x (by omega), hd x (by omega)]
    exact hS x (by omega)
theorem sp_keep {c f : Nat → Int} {n : Nat} {v : Int} (h : ∀ j, j < n → c j = f j) : ∀ j, j < n → va_up c n v j = f j := by
  intro j hj
  rw [va_up_ne _ _ (by omega)]
  exact h j hj
theorem sp_cnt3 (kd lv : Int) (R : Nat → Int) : ∀ n : Nat, sp_cnt (sp_is kd lv R 0) n + sp_cnt (sp_is kd lv R 1) n + sp_cnt (sp_is kd lv R 2) n = n
  | 0 => rfl
  | n + 1 => by
    have ih := sp_cnt3 kd lv R n
    have hb := sp_hw_b kd lv R n
    have e : ∀ c : Int, sp_cnt (sp_is kd lv R c) (n + 1) = sp_cnt (sp_is kd lv R c) n + (if sp_hw kd lv R n = c then 1 else 0) := by
      intro c
      by_cases h : sp_hw kd lv R n = c
      · rw [if_pos h]
        exact sp_cnt_t (s := sp_is kd lv R c) (decide_eq_true h)
      · rw [if_neg h]
        exact sp_cnt_f (s := sp_is kd lv R c) (fun q => h (of_decide_eq_true q))
    rw [e 0, e 1, e 2]
    (repeat' split) <;> omega
theorem sp_all3 (K V R : Nat → Int) : ∀ n : Nat, sp_all K V R 0 n + sp_all K V R 1 n + sp_all K V R 2 n = 12 * n
  | 0 => rfl
  | n + 1 => by
    have ih := sp_all3 K V R n
    have h := sp_cnt3 (K n) (V n) R 12
    show sp_all K V R 0 n + sp_ho (K n) (V n) R 0 + (sp_all K V R 1 n + sp_ho (K n) (V n) R 1) + (sp_all K V R 2 n + sp_ho (K n) (V n) R 2) = 12 * (n + 1)
    unfold sp_ho
    omega
theorem jI_or0 (x : Int32) : x ||| jI 0 = x := by
  show x ||| 0 = x
  simp
theorem sp_gr0 : ∀ n : Nat, sp_gr sp_zero n = 0
  | 0 => rfl
  | n + 1 => by
    show (if sp_gr sp_zero n < sp_cap 0 then sp_cap 0 else sp_gr sp_zero n) = 0
    rw [sp_gr0 n]
    decide
def sp_c6 (f g : Nat → Int) : Nat → Int := fun j => if j < 6 then f j else g j
theorem sp_c6_step {n : Nat} {c f g : Nat → Int} {i : Nat} (hi : i < 6) (hc : ∀ j, c j = if j < i then f j else g j) : ∀ j, va_up c i (f i) j = if j < i + 1 then f j else g j := by
  intro j
  by_cases e : j = i
  · subst e
    rw [va_up_self, if_pos (by omega)]
  · rw [va_up_ne _ _ e, hc j]
    by_cases h : j < i
    · rw [if_pos h, if_pos (by omega)]
    · rw [if_neg h, if_neg (by omega)]
theorem jL_mask {x : Int} (h : 0 ≤ x ∧ x < 9223372036854775808) : jL x &&& jL 2147483647 = jL (x % 2147483648) := by
  obtain ⟨n, rfl⟩ : ∃ n : Nat, x = ((n : Nat) : Int) := ⟨x.toNat, by omega⟩
  have e : ∀ m : Nat, jL ((m : Nat) : Int) = Int64.ofNat m := fun m => Int64.ofInt_eq_ofNat
  have e3 : (((n : Nat) : Int) % 2147483648) = ((n % 2147483648 : Nat) : Int) := by omega
  rw [e3, e n, e (n % 2147483648), show jL 2147483647 = Int64.ofNat 2147483647 from e 2147483647]
  apply Int64.toBitVec_inj.mp
  show BitVec.ofNat 64 n &&& BitVec.ofNat 64 2147483647 = BitVec.ofNat 64 (n % 2147483648)
  rw [← BitVec.ofNat_and, show (2147483647 : Nat) = 2 ^ 31 - 1 by decide, Nat.and_two_pow_sub_one_eq_mod]
/-! reading a page -/
def sp_fg (P : Nat → Int) (n k : Nat) : Int := if k < n then P k - 48 else -1
theorem sp_fg_b {P : Nat → Int} {n : Nat} (hP : ∀ k, k < n → 32 ≤ P k ∧ P k ≤ 126) (k : Nat) : -16 ≤ sp_fg P n k ∧ sp_fg P n k ≤ 78 := by
  unfold sp_fg
  split
  · have := hP k (by assumption)
    omega
  · omega
theorem sp_fg_d {P : Nat → Int} {n k : Nat} (h : 0 ≤ sp_fg P n k) : k < n ∧ sp_fg P n k = P k - 48 := by
  unfold sp_fg at *
  split at h
  · exact ⟨by assumption, by rw [if_pos (by assumption)]⟩
  · omega
theorem sp_fg_in {P : Nat → Int} {n k : Nat} (h : k < n) : sp_fg P n k = P k - 48 := if_pos h
theorem sp_pa_out' (P : Nat → Int) {n : Nat} {z : Int} (h : ((n : Nat) : Int) ≤ z) : sp_pa P n z = -1 := by
  unfold sp_pa
  rw [if_neg (by omega)]
theorem sp_hs_none {P : Nat → Int} {n q : Nat} (hq : n ≤ q) (hn : ∀ y, 2 ≤ y → 3 * y - 1 < q → 3 * y - 1 < n → ¬ P (3 * y - 1) = 59) : sp_hs P n = -1 := by
  have k : ∀ y : Nat, 2 ≤ y → y ≤ 5 → ¬ sp_pa P n ((3 * y - 1 : Nat) : Int) = 59 := by
    intro y h1 h2
    by_cases h : 3 * y - 1 < n
    · rw [sp_pa_nat P h]
      exact hn y h1 (by omega) h
    · rw [sp_pa_out P h]
      omega
  have k2 : ¬ sp_pa P n 5 = 59 := k 2 (by omega) (by omega)
  have k3 : ¬ sp_pa P n 8 = 59 := k 3 (by omega) (by omega)
  have k4 : ¬ sp_pa P n 11 = 59 := k 4 (by omega) (by omega)
  have k5 : ¬ sp_pa P n 14 = 59 := k 5 (by omega) (by omega)
  unfold sp_hs
  rw [if_neg k2, if_neg k3, if_neg k4, if_neg k5]
/-- the first ';' in a house's place, if there is one behind no earlier than q -/
theorem sp_he_ge {P : Nat → Int} {n q : Nat} (hq : q ≤ n) (hn : ∀ y, 2 ≤ y → 3 * y - 1 < q → ¬ P (3 * y - 1) = 59) : ((q : Nat) : Int) ≤ sp_he P n ∧ (q < n → ¬ ((q : Nat) : Int) = sp_he P n) := by
  have k : ∀ y : Nat, 2 ≤ y → y ≤ 5 → sp_pa P n ((3 * y - 1 : Nat) : Int) = 59 → q ≤ 3 * y - 1 := by
    intro y h1 h2 h3
    by_cases h : 3 * y - 1 < n
    · rw [sp_pa_nat P h] at h3
      rcases Nat.lt_or_ge (3 * y - 1) q with g | g
      · exact absurd h3 (hn y h1 g)
      · exact g
    · rw [sp_pa_out P h] at h3
      omega
  have k2 := k 2 (by omega) (by omega)
  have k3 := k 3 (by omega) (by omega)
  have k4 := k 4 (by omega) (by omega)
  have k5 := k 5 (by omega) (by omega)
  unfold sp_he sp_hs
  by_cases a2 : sp_pa P n 5 = 59
  · have := k2 a2
    rw [if_pos a2, if_neg (by omega)]
    omega
  · rw [if_neg a2]
    by_cases a3 : sp_pa P n 8 = 59
    · have := k3 a3
      rw [if_pos a3, if_neg (by omega)]
      omega
    · rw [if_neg a3]
      by_cases a4 : sp_pa P n 11 = 59
      · have := k4 a4
        rw [if_pos a4, if_neg (by omega)]
        omega
      · rw [if_neg a4]
        by_cases a5 : sp_pa P n 14 = 59
        · have := k5 a5
          rw [if_pos a5, if_neg (by omega)]
          omega
        · rw [if_neg a5, if_pos rfl]
          omega
theorem sp_rd1 {P : Nat → Int} {n q : Nat} (hq : q ≤ n) (hs : ∀ j, j < q → sp_sh j (P j) = true) (hn : ∀ y, 2 ≤ y → 3 * y - 1 < q → ¬ P (3 * y - 1) = 59) (he : q = n ∨ ¬ sp_sh q (P q) = true) : sp_fault P n = q ∧ ¬ sp_whole P n = true := by
  obtain ⟨h1, h2⟩ := sp_he_ge hq hn
  have hf : sp_fault P n = q := by
    refine sp_first_eq hq (fun j hj => ?_) ?_
    · unfold sp_snd
      rw [if_pos (by omega)]
      exact hs j hj
    · rcases Nat.lt_or_ge q n with g | g
      · refine Or.inr ?_
        have h3 := h2 g
        unfold sp_snd
        rw [if_pos (by omega)]
        rcases he with e | e
        · omega
        · exact e
      · exact Or.inl (by omega)
  refine ⟨hf, fun hw => ?_⟩
  obtain ⟨a1, a2, a3, a4⟩ := sp_whole_iff.mp hw
  have e : q = n := by omega
  exact a1 (sp_hs_none (q := q) (by omega) (fun y b1 b2 _ => hn y b1 b2))
theorem sp_hs_x {P : Nat → Int} {n x : Nat} (hx : 2 ≤ x ∧ x ≤ 5) (hk : 3 * x ≤ n) (h59 : P (3 * x - 1) = 59) (hn : ∀ y, 2 ≤ y → y < x → ¬ P (3 * y - 1) = 59) : sp_hs P n = ((x : Nat) : Int) := by
  have g : ∀ y : Nat, y ≤ x → 2 ≤ y → sp_pa P n ((3 * y - 1 : Nat) : Int) = P (3 * y - 1) := fun y h h2 => sp_pa_nat P (by omega)
  unfold sp_hs
  obtain ⟨h1, h2⟩ := hx
  have c : x = 2 ∨ x = 3 ∨ x = 4 ∨ x = 5 := by omega
  rcases c with rfl | rfl | rfl | rfl
  · rw [if_pos (by rw [show (5 : Int) = ((3 * 2 - 1 : Nat) : Int) by decide, g 2 (by omega) (by omega)]; exact h59)]
    rfl
  · rw [if_neg (by rw [show (5 : Int) = ((3 * 2 - 1 : Nat) : Int) by decide, g 2 (by omega) (by omega)]; exact hn 2 (by omega) (by omega)), if_pos (by rw [show (8 : Int) = ((3 * 3 - 1 : Nat) : Int) by decide, g 3 (by omega) (by omega)]; exact h59)]
    rfl
  · rw [if_neg (by rw [show (5 : Int) = ((3 * 2 - 1 : Nat) : Int) by decide, g 2 (by omega) (by omega)]; exact hn 2 (by omega) (by omega)), if_neg (by rw [show (8 : Int) = ((3 * 3 - 1 : Nat) : Int) by decide, g 3 (by omega) (by omega)]; exact hn 3 (by omega) (by omega)), if_pos (by rw [show (11 : Int) = ((3 * 4 - 1 : Nat) : Int) by decide, g 4 (by omega) (by omega)]; exact h59)]
    rfl
  · rw [if_neg (by rw [show (5 : Int) = ((3 * 2 - 1 : Nat) : Int) by decide, g 2 (by omega) (by omega)]; exact hn 2 (by omega) (by omega)), if_neg (by rw [show (8 : Int) = ((3 * 3 - 1 : Nat) : Int) by decide, g 3 (by omega) (by omega)]; exact hn 3 (by omega) (by omega)), if_neg (by rw [show (11 : Int) = ((3 * 4 - 1 : Nat) : Int) by decide, g 4 (by omega) (by omega)]; exact hn 4 (by omega) (by omega)), if_pos (by rw [show (14 : Int) = ((3 * 5 - 1 : Nat) : Int) by decide, g 5 (by omega) (by omega)]; exact h59)]
    rfl
theorem sp_rd2 {P : Nat → Int} {n x q : Nat} (hx : sp_hs P n = ((x : Nat) : Int)) (hq : q ≤ n) (hxq : 3 * x ≤ q) (hs : ∀ j, j < 3 * x → sp_sh j (P j) = true) (ht : ∀ j, j < q - 3 * x → sp_ss j (P (3 * x + j)) = true) (he : q = n ∨ ¬ sp_ss (q - 3 * x) (P q) = true) : sp_fault P n = q ∧ (sp_whole P n = true ↔ (q = n ∧ 0 < q - 3 * x ∧ (q - 3 * x) % 2 = 0)) := by
  have e1 : sp_he P n = 3 * ((x : Nat) : Int) := by
    unfold sp_he
    rw [if_neg (by omega), hx]
  have e2 : (sp_he P n).toNat = 3 * x := by omega
  have hf : sp_fault P n = q := by
    refine sp_first_eq hq (fun j hj => ?_) ?_
    · unfold sp_snd
      by_cases g : j < 3 * x
      · rw [if_pos (by omega)]
        exact hs j g
      · rw [if_neg (by omega), e2]
        have := ht (j - 3 * x) (by omega)
        rw [show 3 * x + (j - 3 * x) = j by omega] at this
        exact this
    · rcases he with e | e
      · exact Or.inl e
      · refine Or.inr ?_
        unfold sp_snd
        rw [if_neg (by omega), e2]
        exact e
  refine ⟨hf, sp_whole_iff.trans ?_⟩
  rw [hf, hx]
  omega
theorem sp_sn_x {P : Nat → Int} {n x : Nat} (hx : sp_hs P n = ((x : Nat) : Int)) : sp_hn P n = x ∧ sp_sn P n = (n - 3 * x) / 2 := by
  have e : sp_hn P n = x := by
    unfold sp_hn
    omega
  refine ⟨e, ?_⟩
  unfold sp_sn
  rw [e]
/-- the houses' part of a digest, in one count -/
def sp_in (A : Int → Int) (hv : Int64) (w : Nat) : Int64 := if w ≤ 5 then sp_mf (fun k => A ((k : Nat) : Int)) w hv else if w ≤ 10 then sp_mf (fun k => A ((k : Nat) : Int)) 5 hv else sp_mf (fun j => A (10 + ((j : Nat) : Int))) (w - 10) (sp_mf (fun k => A ((k : Nat) : Int)) 5 hv)
theorem sp_in_t {A : Int → Int} {hv : Int64} {w : Nat} (h : w < 5 ∨ 9 < w) : sp_in A hv (w + 1) = sp_mix (sp_in A hv w) (A ((w : Nat) : Int)) := by
  unfold sp_in
  rcases h with h | h
  · rw [if_pos (by omega), if_pos (by omega)]
    rfl
  · rw [if_neg (by omega), if_neg (by omega), if_neg (by omega), show w + 1 - 10 = (w - 10) + 1 by omega]
    have e : A ((w : Nat) : Int) = A (10 + ((w - 10 : Nat) : Int)) := by
      congr 1
      omega
    rw [e]
    by_cases g : w ≤ 10
    · rw [if_pos g, show w - 10 = 0 by omega]
      rfl
    · rw [if_neg g]
      rfl
theorem sp_in_f {A : Int → Int} {hv : Int64} {w : Nat} (h : ¬ (w < 5 ∨ 9 < w)) : sp_in A hv (w + 1) = sp_in A hv w := by
  unfold sp_in
  rw [if_neg (show ¬ w + 1 ≤ 5 by omega), if_pos (show w + 1 ≤ 10 by omega)]
  by_cases g : w ≤ 5
  · rw [if_pos g, show w = 5 by omega]
  · rw [if_neg g, if_pos (by omega)]
theorem jI_i2b {c : Int} (h : 32 ≤ c ∧ c ≤ 126) : (jI c).toInt8.toInt32 = jI c := by
  obtain ⟨n, rfl⟩ : ∃ n : Nat, c = ((n : Nat) : Int) := ⟨c.toNat, by omega⟩
  have k : ∀ m, m < 128 → (nI m).toInt8.toInt32 = nI m := by decide +kernel
  rw [jI_nat]
  exact k n (by omega)
