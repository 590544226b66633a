/-! What the colony's numbers are, as plain functions (both sides are tied to them); and rows on division and arrays. -/
theorem jI_div {x d : Int} (hx : 0 ≤ x ∧ x < 2147483648) (hd : 0 < d ∧ d < 2147483648) : jI x / jI d = jI (x / d) := by
  have h1 : 0 ≤ x / d := Int.ediv_nonneg hx.1 (by omega)
  have h2 : x / d ≤ x := Int.ediv_le_self d hx.1
  apply Int32.toInt_inj.mp
  rw [Int32.toInt_div_of_ne_right _ _ (fun q => by
    have e := congrArg Int32.toInt q
    rw [jI_t (by omega), show (-1 : Int32).toInt = -1 by decide] at e
    omega), jI_t (by omega), jI_t (by omega), jI_t (by omega), Int.tdiv_eq_ediv_of_nonneg hx.1]
theorem jI_rem {x d : Int} (hx : 0 ≤ x ∧ x < 2147483648) (hd : 0 < d ∧ d < 2147483648) : jI x - jI x / jI d * jI d = jI (x % d) := by
  rw [jI_div hx hd, jI_mul, jI_sub, Int.emod_def, Int.mul_comm]
theorem jI_ne0 {d : Int} (hd : 0 < d ∧ d < 2147483648) : ¬ jI d = 0 := fun q => by
  have e := congrArg Int32.toInt q
  rw [jI_t (by omega), Int32.toInt_zero] at e
  omega
theorem arrV_ext (cA : ClassId) (n : Nat) {f g : Nat → Int} (h : ∀ j, j < n → f j = g j) : vp_cell cA (n, .inl (fun j => jI (f j))) = vp_cell cA (n, .inl (fun j => jI (g j))) := by
  show arrV cA n (fun j => .int (jI (f j))) = arrV cA n (fun j => .int (jI (g j)))
  unfold arrV
  congr 1
  apply Array.ext
  · simp
  · intro i h1 h2
    simp only [Array.getElem_ofFn]
    rw [h i (by simpa using h1)]
/-- an array's places by another function that agrees on them -/
theorem jw_arr {X : jX} {pc : Nat} {lv : List (Nat × Value)} {st : List Value} {ws : va_W} {a n : Nat} {cA : ClassId} {f g : Nat → Int} {ws' : va_W} (q0 : Nat) (ha : ws[q0]? = some (a, .inl (cA, n, .inl (fun j => jI (f j))))) (h : ∀ j, j < n → f j = g j) (hw : ws.set q0 (a, .inl (cA, n, .inl (fun j => jI (g j)))) = ws') (k : jW X pc lv st ws') : jW X pc lv st ws := by
  subst hw
  obtain ⟨p, l', e, R, s, m, args, below, meth, c, nL', D', A, ro', cells, slots, Q⟩ := X
  intro H locs ls hP h1 h2 hl
  refine k H locs ls (fun j q hj => ?_) (fun hro => ⟨(h1 hro).1.set ha, (h1 hro).2⟩) h2 hl
  by_cases e : q0 = j
  · subst e
    have hlt : q0 < ws.length := (List.getElem?_eq_some_iff.mp ha).1
    rw [List.getElem?_set_self hlt] at hj
    cases hj
    have := hP q0 _ ha
    show H[a]? = some (vp_cell cA (n, .inl (fun j => jI (g j))))
    rw [← arrV_ext cA n h]
    exact this
  · rw [List.getElem?_set_ne e] at hj
    exact hP j q hj
def sp_zero : Nat → Int := fun _ => 0
def sp_con (a l : Int) (h : Nat) : Int := if (h : Int) < a then 0 else if 0 < l - 2 * ((h : Int) - a) then l - 2 * ((h : Int) - a) else 0
def sp_add (R : Nat → Int) (a l : Int) : Nat → Int := fun h => R h + sp_con a l h
def sp_sum (SH SL : Nat → Int) : Nat → Nat → Int
  | 0 => sp_zero
  | n + 1 => sp_add (sp_sum SH SL n) (SH n) (SL n)
def sp_cap (x : Int) : Int := if 20 < x then 20 else x
def sp_at (R : Nat → Int) (z : Int) : Int := if z < 0 then 0 else sp_cap (R z.toNat)
theorem sp_at_nat (R : Nat → Int) (i : Nat) : sp_at R ((i : Nat) : Int) = sp_cap (R i) := by
  unfold sp_at
  rw [if_neg (by omega), Int.toNat_natCast]
def sp_gr (R : Nat → Int) : Nat → Int
  | 0 => 0
  | n + 1 => if sp_gr R n < sp_cap (R n) then sp_cap (R n) else sp_gr R n
theorem sp_con_b {a l : Int} (hl : 0 ≤ l ∧ l ≤ 9) (h : Nat) : 0 ≤ sp_con a l h ∧ sp_con a l h ≤ 9 := by
  unfold sp_con
  (repeat' split) <;> omega
theorem sp_sum_b {SH SL : Nat → Int} (n : Nat) (hl : ∀ k, k < n → 0 ≤ SL k ∧ SL k ≤ 9) (h : Nat) : 0 ≤ sp_sum SH SL n h ∧ sp_sum SH SL n h ≤ 9 * (n : Int) := by
  induction n with
  | zero => simp [sp_sum, sp_zero]
  | succ n ih =>
    have h1 := ih (fun k hk => hl k (by omega))
    have h2 := sp_con_b (a := SH n) (hl n (by omega)) h
    show 0 ≤ sp_sum SH SL n h + sp_con (SH n) (SL n) h ∧ sp_sum SH SL n h + sp_con (SH n) (SL n) h ≤ _
    omega
theorem sp_cap_b {x : Int} (h : 0 ≤ x) : 0 ≤ sp_cap x ∧ sp_cap x ≤ 20 := by
  unfold sp_cap
  split <;> omega
theorem sp_at_b {R : Nat → Int} (hf : ∀ k, k < 12 → 0 ≤ R k ∧ R k ≤ 99) {z : Int} (hz : -1 ≤ z ∧ z ≤ 11) : 0 ≤ sp_at R z ∧ sp_at R z ≤ 20 := by
  unfold sp_at
  split
  · omega
  · exact sp_cap_b (hf _ (by omega)).1
theorem sp_add_step {f c : Nat → Int} {a l left : Int} {i : Nat} (hl : left = l - 2 * ((i : Int) - a)) (ha : a ≤ i) (hp : 0 < left) (hi : i < 12) (hc : ∀ j, j < 12 → c j = f j + (if j < i then sp_con a l j else 0)) : ∀ j, j < 12 → va_up c i (c i + left) j = f j + (if j < i + 1 then sp_con a l j else 0) := by
  intro j hj
  by_cases e : j = i
  · subst e
    rw [va_up_self, hc j hj, if_neg (by omega), if_pos (by omega)]
    unfold sp_con
    rw [if_neg (by omega), if_pos (by omega)]
    omega
  · rw [va_up_ne _ _ e, hc j hj]
    by_cases g : j < i
    · rw [if_pos g, if_pos (by omega)]
    · rw [if_neg g, if_neg (by omega)]
theorem sp_add_end {f c : Nat → Int} {a l left : Int} {i : Nat} (hl : left = l - 2 * ((i : Int) - a)) (h : 12 ≤ i ∨ left ≤ 0) (hc : ∀ j, j < 12 → c j = f j + (if j < i then sp_con a l j else 0)) : ∀ j, j < 12 → c j = sp_add f a l j := by
  intro j hj
  rw [hc j hj]
  unfold sp_add
  by_cases g : j < i
  · rw [if_pos g]
  · rw [if_neg g]
    unfold sp_con
    (repeat' split) <;> omega
theorem sp_add_start {f : Nat → Int} {a l : Int} {i : Nat} (hi : a = i) : ∀ j, j < 12 → f j = f j + (if j < i then sp_con a l j else 0) := by
  intro j hj
  unfold sp_con
  (repeat' split) <;> omega
/-- the steps of a copy, or of a fill -/
theorem sp_cpy_step {n : Nat} {c g : Nat → Int} {i : Nat} {v : Int} (hv : v = g i) (hc : ∀ j, j < i → c j = g j) : ∀ j, j < i + 1 → va_up c i v j = g j := by
  intro j hj
  by_cases e : j = i
  · subst e
    rw [va_up_self, hv]
  · rw [va_up_ne _ _ e]
    exact hc j (by omega)
def sp_gone (a l : Int) : Int := if a + (l + 1) / 2 < 12 then a + (l + 1) / 2 else -1
def sp_less (a b : Int) : Int := if b < a then a - b else 0
def sp_how (m : Int) : Int := if m = 0 then 0 else if m < 5 then 1 else 2
def sp_kind (c : Int) : Int := if c = 104 then 0 else if c = 108 then 1 else if c = 111 then 2 else if c = 100 then 3 else if c = 99 then 4 else -1
theorem sp_how_b (m : Int) : 0 ≤ sp_how m ∧ sp_how m ≤ 2 := by
  unfold sp_how
  (repeat' split) <;> omega
theorem sp_kind_b (m : Int) : -1 ≤ sp_kind m ∧ sp_kind m ≤ 4 := by
  unfold sp_kind
  (repeat' split) <;> omega
