/-! What each call answers. -/
def sp_hn (P : Nat → Int) (pn : Nat) : Nat := (sp_hs P pn).toNat
def sp_sn (P : Nat → Int) (pn : Nat) : Nat := (pn - 3 * sp_hn P pn) / 2
def sp_nk (K P : Nat → Int) (nh : Nat) : Nat → Int := fun j => if j < nh then sp_kind (P (3 * j)) else K j
def sp_nv (V P : Nat → Int) (nh : Nat) : Nat → Int := fun j => if j < nh then P (3 * j + 1) - 48 else V j
def sp_nsh (S P : Nat → Int) (nh ns : Nat) : Nat → Int := fun j => if j < ns then P (3 * nh + 2 * j) - 48 else S j
def sp_nsl (S P : Nat → Int) (nh ns : Nat) : Nat → Int := fun j => if j < ns then P (3 * nh + 2 * j + 1) - 48 else S j
theorem sp_fill0 {S g : Nat → Int} (j : Nat) : S j = (if j < 0 then g j else S j) := (if_neg (Nat.not_lt_zero j)).symm
theorem sp_fill {S g : Nat → Int} {n : Nat} {v : Int} (hv : v = g n) (j : Nat) : va_up (fun j => if j < n then g j else S j) n v j = (if j < n + 1 then g j else S j) := by
  by_cases e : j = n
  · subst e
    rw [va_up_self, hv, if_pos (by omega)]
  · rw [va_up_ne _ _ e]
    by_cases h : j < n
    · rw [if_pos h, if_pos (by omega)]
    · rw [if_neg h, if_neg (by omega)]
theorem sp_whole_facts {P : Nat → Int} {pn : Nat} (hpn : pn ≤ 25) (h : sp_whole P pn = true) :
    sp_hs P pn = ((sp_hn P pn : Nat) : Int) ∧ 2 ≤ sp_hn P pn ∧ sp_hn P pn ≤ 5 ∧ pn = 3 * sp_hn P pn + 2 * sp_sn P pn ∧ 1 ≤ sp_sn P pn ∧ sp_sn P pn ≤ 4 ∧ (∀ x, x < sp_hn P pn → 0 ≤ sp_kind (P (3 * x)) ∧ sp_kind (P (3 * x)) ≤ 4 ∧ 48 ≤ P (3 * x + 1) ∧ P (3 * x + 1) ≤ 57) ∧ (∀ y, y < sp_sn P pn → 48 ≤ P (3 * sp_hn P pn + 2 * y) ∧ P (3 * sp_hn P pn + 2 * y) ≤ 57 ∧ 49 ≤ P (3 * sp_hn P pn + 2 * y + 1) ∧ P (3 * sp_hn P pn + 2 * y + 1) ≤ 57) := by
  obtain ⟨h1, h2, h3, h4⟩ := sp_whole_iff.mp h
  have hb := sp_hs_b P pn
  have hall : ∀ j, j < pn → sp_snd P pn j = true := sp_first_all h2
  have e1 : sp_hs P pn = ((sp_hn P pn : Nat) : Int) := by
    unfold sp_hn
    omega
  have he : sp_he P pn = 3 * ((sp_hn P pn : Nat) : Int) := by
    unfold sp_he
    rw [if_neg h1, e1]
  have het : (sp_he P pn).toNat = 3 * sp_hn P pn := by omega
  have hhn : 2 ≤ sp_hn P pn ∧ sp_hn P pn ≤ 5 := by omega
  have e2 : pn = 3 * sp_hn P pn + 2 * sp_sn P pn := by
    unfold sp_sn
    omega
  have hs : ∀ j, j < pn - 3 * sp_hn P pn → sp_ss j (P (3 * sp_hn P pn + j)) = true := by
    intro j hj
    have q := hall (3 * sp_hn P pn + j) (by omega)
    unfold sp_snd at q
    rw [if_neg (by omega), het, show 3 * sp_hn P pn + j - 3 * sp_hn P pn = j by omega] at q
    exact q
  have hh : ∀ j, j < 3 * sp_hn P pn → sp_sh j (P j) = true := by
    intro j hj
    have q := hall j (by omega)
    unfold sp_snd at q
    rw [if_pos (by omega)] at q
    exact q
  refine ⟨e1, hhn.1, hhn.2, e2, by omega, ?_, fun x hx => ?_, fun y hy => ?_⟩
  · rcases Nat.lt_or_ge 4 (sp_sn P pn) with q | q
    · have := sp_ss_iff.mp (hs 8 (by omega))
      omega
    · exact q
  · have a1 := sp_sh_iff.mp (hh (3 * x) (by omega))
    have a2 := sp_sh_iff.mp (hh (3 * x + 1) (by omega))
    have a3 := sp_kind_b (P (3 * x))
    omega
  · have a1 := sp_ss_iff.mp (hs (2 * y) (by omega))
    have a2 := sp_ss_iff.mp (hs (2 * y + 1) (by omega))
    rw [show 3 * sp_hn P pn + (2 * y + 1) = 3 * sp_hn P pn + 2 * y + 1 by omega] at a2
    omega
def sp_house (kd lv : Int) (R : Nat → Int) (w : Int) : Int :=
  if w = 0 then kd else if w = 1 then lv else if w = 2 then ((sp_ho kd lv R 0 : Nat) : Int)
  else if w = 3 then sp_mann kd lv R (sp_gh kd lv R 11) else if w = 4 then ((sp_gh kd lv R 11 : Nat) : Int) else sp_mann kd lv R (w - 10).toNat
def sp_about (nh : Nat) (K V R : Nat → Int) (z w : Int) : Int :=
  if 0 ≤ z ∧ z ≤ ((nh : Nat) : Int) - 1 then (if (0 ≤ w ∧ w ≤ 4) ∨ (10 ≤ w ∧ w ≤ 21) then sp_house (K z.toNat) (V z.toNat) R w else -102) else -101
def sp_as (nh : Nat) (K : Nat → Int) (z k : Int) : Int :=
  if 0 ≤ z ∧ z ≤ ((nh : Nat) : Int) - 1 then (if 0 ≤ k ∧ k ≤ 4 then (if k = 0 ∨ k = K z.toNat ∨ (k = 1 ∧ K z.toNat = 4) then z else -1) else -102) else -101
def sp_tide (nh : Nat) (R : Nat → Int) (z : Int) : Int := if 0 ≤ z ∧ z ≤ 11 then (if 0 < nh then sp_cap (R z.toNat) else -103) else -102
def sp_strk (a l w : Int) : Int := if w = 0 then a else if w = 1 then l else if w = 2 then sp_gone a l else -102
def sp_stroke (ns : Nat) (SH SL : Nat → Int) (z w : Int) : Int := if 0 ≤ z ∧ z ≤ ((ns : Nat) : Int) - 1 then sp_strk (SH z.toNat) (SL z.toNat) w else -101
/-- the first s below n with p s; -1 -/
def sp_find (p : Nat → Bool) : Nat → Int
  | 0 => -1
  | n + 1 => if sp_find p n = -1 then (if p n = true then ((n : Nat) : Int) else -1) else sp_find p n
theorem sp_find_none {p : Nat → Bool} : ∀ {n : Nat}, (∀ j, j < n → ¬ p j = true) → sp_find p n = -1
  | 0, _ => rfl
  | n + 1, h => by
    show (if sp_find p n = -1 then (if p n = true then ((n : Nat) : Int) else -1) else sp_find p n) = -1
    rw [if_pos (sp_find_none (n := n) (fun j hj => h j (by omega))), if_neg (h n (by omega))]
theorem sp_find_at {p : Nat → Bool} : ∀ {n s : Nat}, s < n → p s = true → (∀ j, j < s → ¬ p j = true) → sp_find p n = ((s : Nat) : Int)
  | 0, s, h, _, _ => absurd h (Nat.not_lt_zero s)
  | n + 1, s, h, hs, hn => by
    show (if sp_find p n = -1 then (if p n = true then ((n : Nat) : Int) else -1) else sp_find p n) = _
    by_cases e : s = n
    · subst e
      rw [if_pos (sp_find_none hn), if_pos hs]
    · have ih : sp_find p n = ((s : Nat) : Int) := sp_find_at (by omega) hs hn
      rw [ih, if_neg (by omega)]
def sp_dnp (K V R : Nat → Int) (nh b h : Nat) : Nat → Bool := fun s => sp_din K V R b s (s + h) nh
def sp_dn (K V R : Nat → Int) (nh b h : Nat) : Int := sp_find (sp_dnp K V R nh b h) (13 - h)
def sp_dinner (nh : Nat) (K V R : Nat → Int) (b h : Int) : Int := if (1 ≤ b ∧ b ≤ ((2 ^ nh : Nat) : Int) - 1) ∧ (1 ≤ h ∧ h ≤ 6) then sp_dn K V R nh b.toNat h.toNat else -102
def sp_q (K V R : Nat → Int) (nh : Nat) (l : Int) (a : Nat) : Int := 12 * ((nh : Nat) : Int) - ((sp_all K V (sp_add R ((a : Nat) : Int) l) 0 nh : Nat) : Int)
def sp_bm (K V R : Nat → Int) (nh : Nat) (l : Int) : Nat → Int
  | 0 => -1
  | n + 1 => if sp_bm K V R nh l n < sp_q K V R nh l n then sp_q K V R nh l n else sp_bm K V R nh l n
def sp_bh (K V R : Nat → Int) (nh : Nat) (l : Int) : Nat → Int
  | 0 => -1
  | n + 1 => if sp_bm K V R nh l n < sp_q K V R nh l n then ((n : Nat) : Int) else sp_bh K V R nh l n
def sp_best (nh : Nat) (K V R : Nat → Int) (l w : Int) : Int := if (1 ≤ l ∧ l ≤ 9) ∧ (0 ≤ w ∧ w ≤ 1) then (if 0 < nh then (if w = 0 then sp_bh K V R nh l 10 else sp_bm K V R nh l 10) else -103) else -102
def sp_bits (s : Nat → Bool) : Nat → Nat
  | 0 => 0
  | n + 1 => sp_bits s n + (if s n = true then 2 ^ n else 0)
theorem sp_bits_b (s : Nat → Bool) : ∀ n : Nat, sp_bits s n < 2 ^ n
  | 0 => Nat.one_pos
  | n + 1 => by
    have ih := sp_bits_b s n
    show sp_bits s n + (if s n = true then 2 ^ n else 0) < 2 ^ (n + 1)
    rw [Nat.pow_succ]
    split <;> omega
theorem sp_bits_t {s : Nat → Bool} {n : Nat} (h : s n = true) : sp_bits s (n + 1) = sp_bits s n + 2 ^ n := by
  show sp_bits s n + (if s n = true then 2 ^ n else 0) = _
  rw [if_pos h]
theorem sp_bits_f {s : Nat → Bool} {n : Nat} (h : ¬ s n = true) : sp_bits s (n + 1) = sp_bits s n := by
  show sp_bits s n + (if s n = true then 2 ^ n else 0) = _
  rw [if_neg h]
  rfl
def sp_hrs (K V R HH HO HL HW : Nat → Int) (m : Nat) : Nat := sp_bits (sp_agr K V R HH HO HL HW m) 10
theorem sp_hrs_b (K V R HH HO HL HW : Nat → Int) (m : Nat) : sp_hrs K V R HH HO HL HW m < 1024 := sp_bits_b _ 10
def sp_hours (nh : Nat) (K V R HH HO HL HW : Nat → Int) (m : Nat) : Int := if 0 < nh then ((sp_hrs K V R HH HO HL HW m : Nat) : Int) else -103
def sp_af (F : Nat) (w : Nat → Nat) : Nat → Nat
  | 0 => F
  | n + 1 => if w n < sp_af F w n then w n else sp_af F w n
def sp_ab (F : Nat) (w : Nat → Nat) : Nat → Int
  | 0 => -1
  | n + 1 => if w n < sp_af F w n then ((n : Nat) : Int) else sp_ab F w n
theorem sp_af_b {F : Nat} {w : Nat → Nat} (hw : ∀ x, w x ≤ 10) : ∀ n : Nat, sp_af F w n ≤ F
  | 0 => Nat.le_refl F
  | n + 1 => by
    have ih := sp_af_b (F := F) hw n
    show (if w n < sp_af F w n then w n else sp_af F w n) ≤ F
    split <;> omega
theorem sp_ab_b (F : Nat) (w : Nat → Nat) : ∀ n : Nat, -1 ≤ sp_ab F w n ∧ sp_ab F w n < ((n : Nat) : Int)
  | 0 => by
    show -1 ≤ (-1 : Int) ∧ (-1 : Int) < _
    omega
  | n + 1 => by
    have ih := sp_ab_b F w n
    show -1 ≤ (if w n < sp_af F w n then ((n : Nat) : Int) else sp_ab F w n) ∧ (if w n < sp_af F w n then ((n : Nat) : Int) else sp_ab F w n) < _
    split <;> omega
theorem sp_af_eq {F G : Nat} {w : Nat → Nat} (hw : ∀ x, w x ≤ 10) (hF : 10 < F) (hG : 10 < G) : ∀ n : Nat, sp_ab F w n = sp_ab G w n ∧ (0 < n → sp_af F w n = sp_af G w n)
  | 0 => ⟨rfl, fun h => absurd h (Nat.lt_irrefl 0)⟩
  | n + 1 => by
    have ih := sp_af_eq hw hF hG n
    show (if w n < sp_af F w n then ((n : Nat) : Int) else sp_ab F w n) = (if w n < sp_af G w n then ((n : Nat) : Int) else sp_ab G w n) ∧ (0 < n + 1 → (if w n < sp_af F w n then w n else sp_af F w n) = (if w n < sp_af G w n then w n else sp_af G w n))
    cases n with
    | zero =>
      have h := hw 0
      have e1 : sp_af F w 0 = F := rfl
      have e2 : sp_af G w 0 = G := rfl
      rw [e1, e2, if_pos (by omega), if_pos (by omega), if_pos (by omega), if_pos (by omega)]
      exact ⟨rfl, fun _ => rfl⟩
    | succ k =>
      have h := ih.2 (Nat.succ_pos k)
      rw [h, ih.1]
      exact ⟨rfl, fun _ => rfl⟩
def sp_wr (K V R : Nat → Int) (b : Nat) (l : Int) (i : Nat) : Nat → Nat := fun x => sp_worst (K x) (V x) R b l i
def sp_askv (K V R : Nat → Int) (nh b m : Nat) (l : Int) (i : Nat) : Int := if b = 0 ∨ m = 0 then -1 else sp_ab 11 (sp_wr K V R b l i) nh
def sp_ask (nh : Nat) (K V R HH HO HL HW : Nat → Int) (m : Nat) (z : Int) : Int := if 0 ≤ z ∧ z ≤ 11 then (if 0 < nh then sp_askv K V R nh (sp_hrs K V R HH HO HL HW m) m (HL (m - 1)) z.toNat else -103) else -102
def sp_weeksv (K V : Nat → Int) (nh : Nat) (SL : Nat → Int) (ns d : Nat) (s w : Int) : Int := if w = 0 then ((sp_wout K V nh s SL ns d : Nat) : Int) else if w = 1 then sp_whi s SL ns d else sp_wsd s ns d
def sp_weeks (nh : Nat) (K V : Nat → Int) (SL : Nat → Int) (ns : Nat) (d s w : Int) : Int := if (1 ≤ d ∧ d ≤ 30) ∧ 0 ≤ s ∧ (0 ≤ w ∧ w ≤ 2) then (if 0 < nh then sp_weeksv K V nh SL ns d.toNat s w else -103) else -102
theorem sp_wout_b (K V : Nat → Int) (nh : Nat) (s : Int) (SL : Nat → Int) (ns : Nat) : ∀ d : Nat, sp_wout K V nh s SL ns d ≤ d * (12 * nh)
  | 0 => Nat.zero_le _
  | d + 1 => by
    have ih := sp_wout_b K V nh s SL ns d
    have h := sp_all_b K V (sp_wR s SL ns d) 0 nh
    show sp_wout K V nh s SL ns d + sp_all K V (sp_wR s SL ns d) 0 nh ≤ (d + 1) * (12 * nh)
    rw [Nat.succ_mul]
    omega
def sp_count (nh ns : Nat) (K V R : Nat → Int) (ch : Int) (m pn : Nat) (rd w : Int) : Int :=
  if w = 0 then ((nh : Nat) : Int) else if w = 1 then ((ns : Nat) : Int) else if w = 2 then sp_gr R 12 else if w = 3 then ((sp_all K V R 0 nh : Nat) : Int) else if w = 4 then ((sp_all K V R 2 nh : Nat) : Int)
  else if w = 5 then ch else if w = 6 then ((m : Nat) : Int) else if w = 7 then ((pn : Nat) : Int) else if w = 8 then rd else -102
def sp_mix (h : Int64) (z : Int) : Int64 := 31 * h + (jI z).toInt64
def sp_mf (a : Nat → Int) : Nat → Int64 → Int64
  | 0, h => h
  | n + 1, h => sp_mix (sp_mf a n h) (a n)
def sp_dgh (A : Nat → Int → Int) : Nat → Int64 → Int64
  | 0, h => h
  | n + 1, h => sp_mf (fun j => A n (10 + ((j : Nat) : Int))) 12 (sp_mf (fun w => A n ((w : Nat) : Int)) 5 (sp_dgh A n h))
def sp_dgs (A : Nat → Int → Int) : Nat → Int64 → Int64
  | 0, h => h
  | n + 1, h => sp_mf (fun w => A n ((w : Nat) : Int)) 3 (sp_dgs A n h)
def sp_hA (K V R : Nat → Int) : Nat → Int → Int := fun e w => sp_house (K e) (V e) R w
def sp_sA (SH SL : Nat → Int) : Nat → Int → Int := fun k w => sp_strk (SH k) (SL k) w
def sp_dg1 (nh ns : Nat) (K V R SH SL : Nat → Int) : Int64 := sp_dgs (sp_sA SH SL) ns (sp_dgh (sp_hA K V R) nh 1091)
def sp_dg2 (nh : Nat) (K V R HH HO HL HW : Nat → Int) (m : Nat) (h : Int64) : Int64 :=
  sp_mix (sp_mix (sp_mix (sp_mix (sp_mix (sp_mf (fun i => sp_cap (R i)) 12 h) (sp_dn K V R nh (2 ^ nh - 1) 2)) (sp_bh K V R nh 5 10)) (sp_bm K V R nh 5 10)) ((sp_hrs K V R HH HO HL HW m : Nat) : Int)) (sp_askv K V R nh (sp_hrs K V R HH HO HL HW m) m (HL (m - 1)) 4)
def sp_digest (nh ns : Nat) (K V R SH SL HH HO HL HW : Nat → Int) (m : Nat) (ch : Int) (pn : Nat) (P : Nat → Int) (rd : Int) : Int64 :=
  sp_mf (fun w => sp_count nh ns K V R ch m pn rd ((w : Nat) : Int)) 9 (sp_mf P pn (if 0 < nh then sp_dg2 nh K V R HH HO HL HW m (sp_dg1 nh ns K V R SH SL) else sp_dg1 nh ns K V R SH SL))
def sp_letF (c : Int) : Int := if 32 ≤ c ∧ c ≤ 126 then -104 else -102
def sp_ref (n : Nat) (z : Int) : Int := if 0 ≤ z ∧ z ≤ ((n : Nat) : Int) - 1 then -102 else -101
def sp_strF (nh : Nat) (x l : Int) : Int := if (0 ≤ x ∧ x ≤ 9) ∧ (1 ≤ l ∧ l ≤ 9) then (if nh = 0 then -103 else -104) else -102
def sp_hearF (nh : Nat) (z x l w : Int) : Int := if 0 ≤ z ∧ z ≤ ((nh : Nat) : Int) - 1 then (if (0 ≤ x ∧ x ≤ 11) ∧ (1 ≤ l ∧ l ≤ 9) ∧ (0 ≤ w ∧ w ≤ 2) then -104 else -102) else -101
theorem sp_p2 {n : Nat} (h : n ≤ 5) : 2 ^ n ≤ 32 := Nat.pow_le_pow_right (by decide) (show n ≤ 5 from h)
theorem sp_p1 (n : Nat) : 1 ≤ 2 ^ n := Nat.one_le_two_pow
theorem sp_p2' {n : Nat} (h : 0 < n) : 2 ≤ 2 ^ n := by
  have := Nat.pow_le_pow_right (n := 2) (by decide) (show 1 ≤ n from h)
  omega
