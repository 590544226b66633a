/-! What the page's letters are: the place of the first fault, whether it tells a colony. -/
theorem jb_i1 {c : Prop} [Decidable c] (h : c) : 1 = jb c := (jb_t h).symm
theorem jb_i0 {c : Prop} [Decidable c] (h : ¬ c) : 0 = jb c := (jb_f h).symm
theorem jb_cg {c d : Prop} [Decidable c] [Decidable d] (h : c ↔ d) : jb c = jb d := by
  unfold jb
  by_cases hc : c
  · rw [if_pos hc, if_pos (h.mp hc)]
  · rw [if_neg hc, if_neg (fun q => hc (h.mpr q))]
theorem jb_is0 {c : Prop} [Decidable c] {b : Int} (h : b = jb c) (h0 : b = 0) : ¬ c := fun q => by
  rw [jb_t q] at h
  omega
theorem jb_is1 {c : Prop} [Decidable c] {b : Int} (h : b = jb c) (h0 : ¬ b = 0) : c := Decidable.of_not_not (fun q => by
  rw [jb_f q] at h
  omega)
def sp_pa (P : Nat → Int) (n : Nat) (z : Int) : Int := if 0 ≤ z ∧ z ≤ ((n : Nat) : Int) - 1 then P z.toNat else -1
theorem sp_pa_nat (P : Nat → Int) {n i : Nat} (h : i < n) : sp_pa P n ((i : Nat) : Int) = P i := by
  unfold sp_pa
  rw [if_pos (by omega), Int.toNat_natCast]
theorem sp_pa_out (P : Nat → Int) {n i : Nat} (h : ¬ i < n) : sp_pa P n ((i : Nat) : Int) = -1 := by
  unfold sp_pa
  rw [if_neg (by omega)]
theorem sp_pa_b {P : Nat → Int} {n : Nat} (hP : ∀ k, k < n → 32 ≤ P k ∧ P k ≤ 126) (z : Int) : -1 ≤ sp_pa P n z ∧ sp_pa P n z ≤ 126 := by
  unfold sp_pa
  split
  · have := hP z.toNat (by omega)
    omega
  · omega
def sp_hs (P : Nat → Int) (n : Nat) : Int := if sp_pa P n 5 = 59 then 2 else if sp_pa P n 8 = 59 then 3 else if sp_pa P n 11 = 59 then 4 else if sp_pa P n 14 = 59 then 5 else -1
theorem sp_hs_b (P : Nat → Int) (n : Nat) : sp_hs P n = -1 ∨ (2 ≤ sp_hs P n ∧ sp_hs P n ≤ 5) := by
  unfold sp_hs
  (repeat' split) <;> omega
def sp_he (P : Nat → Int) (n : Nat) : Int := if sp_hs P n = -1 then ((n : Nat) : Int) else 3 * sp_hs P n
def sp_sh (p : Nat) (c : Int) : Bool := decide ((p % 3 = 0 ∧ sp_kind c ≠ -1) ∨ (p % 3 = 1 ∧ 48 ≤ c ∧ c ≤ 57) ∨ (p % 3 = 2 ∧ ((c = 44 ∧ p / 3 < 4) ∨ (c = 59 ∧ 1 ≤ p / 3))))
theorem sp_sh_iff {p : Nat} {c : Int} : sp_sh p c = true ↔ (p % 3 = 0 ∧ sp_kind c ≠ -1) ∨ (p % 3 = 1 ∧ 48 ≤ c ∧ c ≤ 57) ∨ (p % 3 = 2 ∧ ((c = 44 ∧ p / 3 < 4) ∨ (c = 59 ∧ 1 ≤ p / 3))) := decide_eq_true_iff
def sp_ss (p : Nat) (c : Int) : Bool := decide (p < 8 ∧ ((p % 2 = 0 ∧ 48 ≤ c) ∨ (p % 2 = 1 ∧ 49 ≤ c)) ∧ c ≤ 57)
theorem sp_ss_iff {p : Nat} {c : Int} : sp_ss p c = true ↔ p < 8 ∧ ((p % 2 = 0 ∧ 48 ≤ c) ∨ (p % 2 = 1 ∧ 49 ≤ c)) ∧ c ≤ 57 := decide_eq_true_iff
def sp_snd (P : Nat → Int) (n p : Nat) : Bool := if ((p : Nat) : Int) < sp_he P n then sp_sh p (P p) else sp_ss (p - (sp_he P n).toNat) (P p)
def sp_first (s : Nat → Bool) : Nat → Nat
  | 0 => 0
  | n + 1 => if sp_first s n < n then sp_first s n else if s n = true then n + 1 else n
theorem sp_first_eq {s : Nat → Bool} : ∀ {n p : Nat}, p ≤ n → (∀ j, j < p → s j = true) → (p = n ∨ ¬ s p = true) → sp_first s n = p
  | 0, p, h, _, _ => by
    show 0 = p
    omega
  | n + 1, p, h, hs, he => by
    show (if sp_first s n < n then sp_first s n else if s n = true then n + 1 else n) = p
    by_cases hp : p ≤ n
    · have ih : sp_first s n = p := sp_first_eq hp hs (by
        rcases he with e | e
        · omega
        · exact Or.inr e)
      rw [ih]
      by_cases hlt : p < n
      · rw [if_pos hlt]
      · have e : p = n := by omega
        subst e
        rw [if_neg hlt, if_neg (by
          rcases he with q | q
          · omega
          · exact q)]
    · have e : p = n + 1 := by omega
      subst e
      have ih : sp_first s n = n := sp_first_eq (Nat.le_refl n) (fun j hj => hs j (by omega)) (Or.inl rfl)
      rw [ih, if_neg (Nat.lt_irrefl n), if_pos (hs n (by omega))]
theorem sp_first_le (s : Nat → Bool) : ∀ n : Nat, sp_first s n ≤ n
  | 0 => Nat.le_refl 0
  | n + 1 => by
    have ih := sp_first_le s n
    show (if sp_first s n < n then sp_first s n else if s n = true then n + 1 else n) ≤ n + 1
    (repeat' split) <;> omega
theorem sp_first_all {s : Nat → Bool} : ∀ {n : Nat}, sp_first s n = n → ∀ j, j < n → s j = true
  | 0, _, j, hj => absurd hj (Nat.not_lt_zero j)
  | n + 1, h, j, hj => by
    have hl := sp_first_le s n
    have h' : (if sp_first s n < n then sp_first s n else if s n = true then n + 1 else n) = n + 1 := h
    by_cases hlt : sp_first s n < n
    · rw [if_pos hlt] at h'
      omega
    · rw [if_neg hlt] at h'
      by_cases hn : s n = true
      · by_cases e : j = n
        · subst e
          exact hn
        · exact sp_first_all (n := n) (by omega) j (by omega)
      · rw [if_neg hn] at h'
        omega
def sp_fault (P : Nat → Int) (n : Nat) : Nat := sp_first (sp_snd P n) n
def sp_whole (P : Nat → Int) (n : Nat) : Bool := decide (sp_hs P n ≠ -1 ∧ sp_fault P n = n ∧ 0 < ((n : Nat) : Int) - 3 * sp_hs P n ∧ (((n : Nat) : Int) - 3 * sp_hs P n) % 2 = 0)
theorem sp_whole_iff {P : Nat → Int} {n : Nat} : sp_whole P n = true ↔ sp_hs P n ≠ -1 ∧ sp_fault P n = n ∧ 0 < ((n : Nat) : Int) - 3 * sp_hs P n ∧ (((n : Nat) : Int) - 3 * sp_hs P n) % 2 = 0 := decide_eq_true_iff
theorem sp_fault_le (P : Nat → Int) (n : Nat) : sp_fault P n ≤ n := sp_first_le _ _
