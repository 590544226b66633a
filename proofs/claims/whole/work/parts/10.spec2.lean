/-! Manners, counts, bits, draws. -/
theorem jI_nat (n : Nat) : jI ((n : Nat) : Int) = nI n := Int32.ofInt_eq_ofNat
theorem jI_shl1 : ∀ n, n < 31 → jI 1 <<< (jI ((n : Nat) : Int) &&& 31) = jI ((2 ^ n : Nat) : Int) := by decide +kernel
theorem jI_sl : ∀ n, n < 32 → ((nI n &&& 31).toBitVec.smod 32).toNat = n := by decide +kernel
theorem jI_shr {b e : Nat} (hb : b < 2 ^ 31) (he : e < 32) : jI ((b : Nat) : Int) >>> (jI ((e : Nat) : Int) &&& 31) = jI ((b / 2 ^ e : Nat) : Int) := by
  rw [jI_nat, jI_nat, jI_nat]
  exact pk_shrN hb _ e (jI_sl e he)
theorem jI_and1 {b : Nat} (hb : b < 2 ^ 31) : jI ((b : Nat) : Int) &&& jI 1 = jI ((b % 2 : Nat) : Int) := by
  rw [jI_nat, jI_nat]
  exact pk_andN (m := jI 1) (by omega) 1 (by decide)
theorem jI_or {a b : Nat} (h : a < 2 ^ b) : jI ((a : Nat) : Int) ||| jI ((2 ^ b : Nat) : Int) = jI ((a + 2 ^ b : Nat) : Int) := by
  have e : a + 2 ^ b = a ||| 2 ^ b := by
    have h1 := Nat.two_pow_add_eq_or_of_lt h 1
    rw [Nat.mul_one] at h1
    rw [Nat.add_comm, h1, Nat.or_comm]
  rw [jI_nat, jI_nat, jI_nat, e]
  apply Int32.toBitVec_inj.mp
  show BitVec.ofNat 32 a ||| BitVec.ofNat 32 (2 ^ b) = BitVec.ofNat 32 (a ||| 2 ^ b)
  rw [BitVec.ofNat_or]
def sp_bit (b e : Nat) : Nat := b / 2 ^ e % 2
theorem sp_bit_b (b e : Nat) : sp_bit b e ≤ 1 := by
  unfold sp_bit
  omega
def sp_mann (kd lv : Int) (R : Nat → Int) (h : Nat) : Int :=
  if kd = 1 then sp_less (sp_cap (R h)) (sp_less lv 3)
  else if kd = 4 then sp_less (sp_at R (((h : Nat) : Int) - 1)) (sp_less lv 3)
  else if kd = 2 then sp_less (if sp_at R (((h : Nat) : Int) - 1) < sp_cap (R h) then sp_at R (((h : Nat) : Int) - 1) else sp_cap (R h)) lv
  else if kd = 3 then (if h % 2 = 0 then 3 else 0)
  else sp_less (sp_cap (R h)) lv
theorem sp_less_b {a b : Int} (ha : 0 ≤ a ∧ a ≤ 20) (hb : 0 ≤ b) : 0 ≤ sp_less a b ∧ sp_less a b ≤ 20 := by
  unfold sp_less
  split <;> omega
theorem sp_less_n (a b : Int) : 0 ≤ sp_less a b := by
  unfold sp_less
  split <;> omega
theorem sp_mann_b {kd lv : Int} {R : Nat → Int} {h : Nat} (hR : ∀ k, k < 12 → 0 ≤ R k ∧ R k ≤ 99) (hh : h < 12) (hl : 0 ≤ lv ∧ lv ≤ 9) : 0 ≤ sp_mann kd lv R h ∧ sp_mann kd lv R h ≤ 20 := by
  have h1 := sp_cap_b (hR h hh).1
  have h2 := sp_at_b hR (z := ((h : Nat) : Int) - 1) (by omega)
  have h3 := sp_less_n lv 3
  unfold sp_mann
  split
  · exact sp_less_b h1 h3
  · split
    · exact sp_less_b h2 h3
    · split
      · split
        · exact sp_less_b h2 hl.1
        · exact sp_less_b h1 hl.1
      · split
        · split <;> omega
        · exact sp_less_b h1 hl.1
def sp_hw (kd lv : Int) (R : Nat → Int) (h : Nat) : Int := sp_how (sp_mann kd lv R h)
theorem sp_hw_b (kd lv : Int) (R : Nat → Int) (h : Nat) : 0 ≤ sp_hw kd lv R h ∧ sp_hw kd lv R h ≤ 2 := sp_how_b _
def sp_cnt (s : Nat → Bool) : Nat → Nat
  | 0 => 0
  | n + 1 => sp_cnt s n + (if s n = true then 1 else 0)
theorem sp_cnt_t {s : Nat → Bool} {n : Nat} (h : s n = true) : sp_cnt s (n + 1) = sp_cnt s n + 1 := by
  show sp_cnt s n + (if s n = true then 1 else 0) = _
  rw [if_pos h]
theorem sp_cnt_f {s : Nat → Bool} {n : Nat} (h : ¬ s n = true) : sp_cnt s (n + 1) = sp_cnt s n := by
  show sp_cnt s n + (if s n = true then 1 else 0) = _
  rw [if_neg h]
  rfl
theorem sp_cnt_b (s : Nat → Bool) : ∀ n : Nat, sp_cnt s n ≤ n
  | 0 => Nat.le_refl 0
  | n + 1 => by
    have ih := sp_cnt_b s n
    show sp_cnt s n + (if s n = true then 1 else 0) ≤ n + 1
    split <;> omega
def sp_is (kd lv : Int) (R : Nat → Int) (c : Int) : Nat → Bool := fun h => decide (sp_hw kd lv R h = c)
def sp_ho (kd lv : Int) (R : Nat → Int) (c : Int) : Nat := sp_cnt (sp_is kd lv R c) 12
theorem sp_ho_b (kd lv : Int) (R : Nat → Int) (c : Int) : sp_ho kd lv R c ≤ 12 := sp_cnt_b _ 12
def sp_all (K V R : Nat → Int) (c : Int) : Nat → Nat
  | 0 => 0
  | n + 1 => sp_all K V R c n + sp_ho (K n) (V n) R c
theorem sp_all_b (K V R : Nat → Int) (c : Int) : ∀ n : Nat, sp_all K V R c n ≤ 12 * n
  | 0 => Nat.le_refl 0
  | n + 1 => by
    have ih := sp_all_b K V R c n
    have h := sp_ho_b (K n) (V n) R c
    show sp_all K V R c n + sp_ho (K n) (V n) R c ≤ 12 * (n + 1)
    omega
def sp_gh (kd lv : Int) (R : Nat → Int) : Nat → Nat
  | 0 => 0
  | n + 1 => if sp_mann kd lv R (sp_gh kd lv R n) < sp_mann kd lv R (n + 1) then n + 1 else sp_gh kd lv R n
theorem sp_gh_t {kd lv : Int} {R : Nat → Int} {i : Nat} (hi : 1 ≤ i) (h : sp_mann kd lv R (sp_gh kd lv R (i - 1)) < sp_mann kd lv R i) : sp_gh kd lv R i = i := by
  obtain ⟨n, rfl⟩ : ∃ n, i = n + 1 := ⟨i - 1, by omega⟩
  exact if_pos h
theorem sp_gh_f {kd lv : Int} {R : Nat → Int} {i : Nat} (hi : 1 ≤ i) (h : ¬ sp_mann kd lv R (sp_gh kd lv R (i - 1)) < sp_mann kd lv R i) : sp_gh kd lv R i = sp_gh kd lv R (i - 1) := by
  obtain ⟨n, rfl⟩ : ∃ n, i = n + 1 := ⟨i - 1, by omega⟩
  exact if_neg h
theorem sp_gh_b (kd lv : Int) (R : Nat → Int) : ∀ n : Nat, sp_gh kd lv R n ≤ n
  | 0 => Nat.le_refl 0
  | n + 1 => by
    have ih := sp_gh_b kd lv R n
    show (if sp_mann kd lv R (sp_gh kd lv R n) < sp_mann kd lv R (n + 1) then n + 1 else sp_gh kd lv R n) ≤ n + 1
    split <;> omega
/-- DINNER: for the houses in b, no truth from hour s up to e -/
def sp_din (K V R : Nat → Int) (b s e nh : Nat) : Bool := decide (∀ x, x < nh → sp_bit b x = 1 → ∀ h, h < e → s ≤ h → ¬ sp_hw (K x) (V x) R h = 0)
theorem sp_din_iff {K V R : Nat → Int} {b s e nh : Nat} : sp_din K V R b s e nh = true ↔ ∀ x, x < nh → sp_bit b x = 1 → ∀ h, h < e → s ≤ h → ¬ sp_hw (K x) (V x) R h = 0 := decide_eq_true_iff
/-- what is heard agrees with one more stroke at hour a -/
def sp_agr (K V R HH HO HL HW : Nat → Int) (m a : Nat) : Bool := decide (∀ i, i < m → sp_hw (K (HH i).toNat) (V (HH i).toNat) (sp_add R ((a : Nat) : Int) (HL i)) (HO i).toNat = HW i)
theorem sp_agr_iff {K V R HH HO HL HW : Nat → Int} {m a : Nat} : sp_agr K V R HH HO HL HW m a = true ↔ ∀ i, i < m → sp_hw (K (HH i).toNat) (V (HH i).toNat) (sp_add R ((a : Nat) : Int) (HL i)) (HO i).toNat = HW i := decide_eq_true_iff
/-- how many of the hours in b leave it so (c) -/
def sp_lc (kd lv : Int) (R : Nat → Int) (b : Nat) (l : Int) (h : Nat) (c : Int) : Nat → Bool := fun a => decide (sp_bit b a = 1 ∧ sp_hw kd lv (sp_add R ((a : Nat) : Int) l) h = c)
def sp_left (kd lv : Int) (R : Nat → Int) (b : Nat) (l : Int) (h : Nat) (c : Int) : Nat := sp_cnt (sp_lc kd lv R b l h c) 10
def sp_mx (a b : Nat) : Nat := if a < b then b else a
def sp_worst (kd lv : Int) (R : Nat → Int) (b : Nat) (l : Int) (h : Nat) : Nat := sp_mx (sp_left kd lv R b l h 0) (sp_mx (sp_left kd lv R b l h 1) (sp_left kd lv R b l h 2))
theorem sp_worst_b (kd lv : Int) (R : Nat → Int) (b : Nat) (l : Int) (h : Nat) : sp_worst kd lv R b l h ≤ 10 := by
  have h0 : sp_left kd lv R b l h 0 ≤ 10 := sp_cnt_b _ 10
  have h1 : sp_left kd lv R b l h 1 ≤ 10 := sp_cnt_b _ 10
  have h2 : sp_left kd lv R b l h 2 ≤ 10 := sp_cnt_b _ 10
  unfold sp_worst sp_mx
  (repeat' split) <;> omega
theorem sp_add_b {R : Nat → Int} {a l : Int} {M : Int} (hR : ∀ k, k < 12 → 0 ≤ R k ∧ R k ≤ M) (hl : 0 ≤ l ∧ l ≤ 9) : ∀ k, k < 12 → 0 ≤ sp_add R a l k ∧ sp_add R a l k ≤ M + 9 := by
  intro k hk
  have h1 := hR k hk
  have h2 := sp_con_b (a := a) hl k
  unfold sp_add
  omega
theorem sp_add_99 {R : Nat → Int} {a l : Int} (hR : ∀ k, k < 12 → 0 ≤ R k ∧ R k ≤ 54) (hl : 0 ≤ l ∧ l ≤ 9) : ∀ k, k < 12 → 0 ≤ sp_add R a l k ∧ sp_add R a l k ≤ 99 := by
  intro k hk
  have h1 := sp_add_b (a := a) hR hl k hk
  omega
theorem sp_99 {R : Nat → Int} (hR : ∀ k, k < 12 → 0 ≤ R k ∧ R k ≤ 54) : ∀ k, k < 12 → 0 ≤ R k ∧ R k ≤ 99 := by
  intro k hk
  have h1 := hR k hk
  omega
theorem sp_sum_99 {SH SL : Nat → Int} {n : Nat} (hn : n ≤ 6) (hl : ∀ k, k < n → 0 ≤ SL k ∧ SL k ≤ 9) : ∀ k, k < 12 → 0 ≤ sp_sum SH SL n k ∧ sp_sum SH SL n k ≤ 54 := by
  intro k hk
  have h1 := sp_sum_b (SH := SH) n hl k
  omega
/-! draws -/
def jL (z : Int) : Int64 := Int64.ofInt z
theorem jL_i {z : Int} (h : -2147483648 ≤ z ∧ z < 2147483648) : (jI z).toInt64 = jL z := by
  rw [← Int64.ofInt_int32ToInt, jI_t h]
  rfl
theorem jL_t {z : Int} (h : -9223372036854775808 ≤ z ∧ z < 9223372036854775808) : (jL z).toInt = z := Int64.toInt_ofInt_of_le (by omega) (by omega)
theorem jL_add (a b : Int) : jL a + jL b = jL (a + b) := (Int64.ofInt_add a b).symm
theorem jL_sub (a b : Int) : jL a - jL b = jL (a - b) := (Int64.ofInt_sub a b).symm
theorem jL_mul (a b : Int) : jL a * jL b = jL (a * b) := (Int64.ofInt_mul a b).symm
theorem jL_32 (z : Int) : (jL z).toInt32 = jI z := Int64.toInt32_ofInt
theorem jL_div {x d : Int} (hx : 0 ≤ x ∧ x < 9223372036854775808) (hd : 0 < d ∧ d < 9223372036854775808) : jL x / jL d = jL (x / d) := by
  have h1 : 0 ≤ x / d := Int.ediv_nonneg hx.1 (by omega)
  have h2 : x / d ≤ x := Int.ediv_le_self d hx.1
  apply Int64.toInt_inj.mp
  rw [Int64.toInt_div_of_ne_right _ _ (fun q => by
    have e := congrArg Int64.toInt q
    rw [jL_t (by omega), show (-1 : Int64).toInt = -1 by decide] at e
    omega), jL_t (by omega), jL_t (by omega), jL_t (by omega), Int.tdiv_eq_ediv_of_nonneg hx.1]
theorem jL_rem {x d : Int} (hx : 0 ≤ x ∧ x < 9223372036854775808) (hd : 0 < d ∧ d < 9223372036854775808) : jL x - jL x / jL d * jL d = jL (x % d) := by
  rw [jL_div hx hd, jL_mul, jL_sub, Int.emod_def, Int.mul_comm]
theorem jL_ne0 {d : Int} (hd : 0 < d ∧ d < 9223372036854775808) : ¬ jL d = 0 := fun q => by
  have e := congrArg Int64.toInt q
  rw [jL_t (by omega), Int64.toInt_zero] at e
  omega
def sp_nx (s : Int) : Int := (1103515245 * s + 12345) % 2147483648
theorem sp_nx_b (s : Int) : 0 ≤ sp_nx s ∧ sp_nx s < 2147483648 := ⟨Int.emod_nonneg _ (by decide), Int.emod_lt_of_pos _ (by decide)⟩
def sp_sd (s : Int) : Nat → Int
  | 0 => s
  | n + 1 => sp_nx (sp_sd s n)
theorem sp_sd_b {s : Int} (h : 0 ≤ s ∧ s < 2147483648) : ∀ n : Nat, 0 ≤ sp_sd s n ∧ sp_sd s n < 2147483648
  | 0 => h
  | _ + 1 => sp_nx_b _
def sp_dr (s : Int) : Nat → Int := fun k => sp_sd s (k + 1) / 65536 % 10
theorem sp_dr_b (s : Int) (k : Nat) : 0 ≤ sp_dr s k ∧ sp_dr s k ≤ 9 := by
  unfold sp_dr
  omega
def sp_wsd (s : Int) (ns : Nat) : Nat → Int
  | 0 => s
  | d + 1 => sp_sd (sp_wsd s ns d) ns
theorem sp_wsd_b {s : Int} (h : 0 ≤ s ∧ s < 2147483648) (ns : Nat) : ∀ n : Nat, 0 ≤ sp_wsd s ns n ∧ sp_wsd s ns n < 2147483648
  | 0 => h
  | n + 1 => sp_sd_b (sp_wsd_b h ns n) ns
def sp_wR (s : Int) (SL : Nat → Int) (ns d : Nat) : Nat → Int := sp_sum (sp_dr (sp_wsd s ns d)) SL ns
def sp_wout (K V : Nat → Int) (nh : Nat) (s : Int) (SL : Nat → Int) (ns : Nat) : Nat → Nat
  | 0 => 0
  | d + 1 => sp_wout K V nh s SL ns d + sp_all K V (sp_wR s SL ns d) 0 nh
def sp_whi (s : Int) (SL : Nat → Int) (ns : Nat) : Nat → Int
  | 0 => 0
  | d + 1 => sp_whi s SL ns d + sp_cap (sp_wR s SL ns d 11)
