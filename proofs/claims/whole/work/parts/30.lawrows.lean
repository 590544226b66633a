/-! the law: its script, its branches, and what the two sides' readings agree on -/
def jXS (X : jX) (b L : Nat) (xs : Nat → Int32) : Prop := match X with
  | (_, _, _, _, s, _, _, _, _, _, _, _, A, _, _, _, _) => va_X b L xs s s.heap ∧ b < s.heap.size ∧ ¬ A b
section JLAW
variable {X : jX} {l : Launch} {cc : ByteArray} {own : String} {Ts : List Cond} {rm : Room} {nL : Nat} {D : va_G} {cI cB : ClassId} {pc : Nat} {lv : List (Nat × Value)} {st : List Value} {ws : va_W}
theorem jw_sld (C : jC X l cc own Ts rm nL D cI cB false) {b L : Nat} {xs : Nat → Int32} (HX : jXS X b L xs) {z v : Int} (k : Nat) (hk : z = (k : Int)) (hlt : k < L) (hL : L ≤ 320) (hv : (xs k).toInt = v) (d : decode cc pc = .ok (.iaload, 1)) (kk : jW X (pc + 1) lv (.int (jI v) :: st) ws) : jW X pc lv (.int (jI z) :: .ref b :: st) ws := by
  obtain ⟨p, l', e, R, s, m, args, below, meth, c, nL', D', A, ro', cells, slots, Q⟩ := X
  intro H locs ls hP h1 h2 hl
  obtain ⟨rfl, rfl, rfl, rfl, hro, hx, hb, hml, hown, hts, hK, hA, hcs, hss⟩ := id C
  obtain ⟨g1, g2, g3⟩ := HX
  refine va_sld hx hb g1 g2 g3 (h1 hro).2 (jI_in hk hlt (by omega)) d ?_
  rw [jI_clamp hk (by omega), jI_of (xs k), hv]
  exact kk H locs ls hP h1 h2 hl
theorem jw_slen (C : jC X l cc own Ts rm nL D cI cB false) {b L : Nat} {xs : Nat → Int32} (HX : jXS X b L xs) (d : decode cc pc = .ok (.arraylength, 1)) (kk : jW X (pc + 1) lv (.int (jI ((L : Nat) : Int)) :: st) ws) : jW X pc lv (.ref b :: st) ws := by
  obtain ⟨p, l', e, R, s, m, args, below, meth, c, nL', D', A, ro', cells, slots, Q⟩ := X
  intro H locs ls hP h1 h2 hl
  obtain ⟨rfl, rfl, rfl, rfl, hro, hx, hb, hml, hown, hts, hK, hA, hcs, hss⟩ := id C
  obtain ⟨g1, g2, g3⟩ := HX
  refine va_slen hx hb g1 g2 g3 (h1 hro).2 d ?_
  rw [show Int32.ofNat L = jI ((L : Nat) : Int) from Int32.ofInt_eq_ofNat.symm]
  exact kk H locs ls hP h1 h2 hl
theorem jw_icmp_eqE (C : jC X l cc own Ts rm nL D cI cB false) {x y : Int32} {off : Int} {tgt : Nat} (d : decode cc pc = .ok (.if_icmp .eq off, 3)) (ht : (pc : Int) + off = (tgt : Int)) (he : x = y) (kt : jW X tgt lv st ws) : jW X pc lv (.int y :: .int x :: st) ws := by
  obtain ⟨p, l', e, R, s, m, args, below, meth, c, nL', D', A, ro', cells, slots, Q⟩ := X
  intro H locs ls hP h1 h2 hl
  exact lv_icmp_eq C.2.2.2.2.2.1 C.2.2.2.2.2.2.1 d ht (fun _ => kt H locs ls hP h1 h2 hl) (fun q => absurd he q)
theorem jw_lcmpE (C : jC X l cc own Ts rm nL D cI cB false) {x y : Int64} (d : decode cc pc = .ok (.lcmp, 1)) (he : x = y) (kk : jW X (pc + 1) lv (.int (jI 0) :: st) ws) : jW X pc lv (.long y :: .long x :: st) ws := by
  subst he
  obtain ⟨p, l', e, R, s, m, args, below, meth, c, nL', D', A, ro', cells, slots, Q⟩ := X
  intro H locs ls hP h1 h2 hl
  refine W.lcmp C.2.2.2.2.2.1 C.2.2.2.2.2.2.1 d ?_
  rw [show lg_cmp x x = jI 0 by unfold lg_cmp; simp [Int64.lt_irrefl]; rfl]
  exact kk H locs ls hP h1 h2 hl
theorem jw_switch (C : jC X l cc own Ts rm nL D cI cB false) {dflt : Int} {offs : Array Int} {len n tgtD : Nat} {x : Int32} (d : decode cc pc = .ok (.tableswitch dflt 0 (n : Int) offs, len)) (hd : (pc : Int) + dflt = (tgtD : Int)) (kd : jW X tgtD lv st ws) (kc : ∀ k, k ≤ n → ∃ (off : Int) (tgt : Nat), offs[k]? = some off ∧ (pc : Int) + off = (tgt : Int) ∧ jW X tgt lv st ws) : jW X pc lv (.int x :: st) ws := by
  obtain ⟨p, l', e, R, s, m, args, below, meth, c, nL', D', A, ro', cells, slots, Q⟩ := X
  intro H locs ls hP h1 h2 hl
  by_cases h : x.toInt < 0 ∨ (n : Int) < x.toInt
  · exact lv_tableOut C.2.2.2.2.2.1 C.2.2.2.2.2.2.1 d h hd (kd H locs ls hP h1 h2 hl)
  · obtain ⟨off, tgt, g1, g2, g3⟩ := kc x.toInt.toNat (by omega)
    exact lv_tableIn C.2.2.2.2.2.1 C.2.2.2.2.2.2.1 d (fun q => h (Or.inl q)) (fun q => h (Or.inr q)) (by rw [show (x.toInt - 0).toNat = x.toInt.toNat by simp]; exact g1) g2 (g3 H locs ls hP h1 h2 hl)
end JLAW
theorem sp_stroke_congr {n : Nat} {SH SL c d : Nat → Int} (hc : ∀ y, y < n → c y = SH y) (hd : ∀ y, y < n → d y = SL y) (z w : Int) : sp_stroke n c d z w = sp_stroke n SH SL z w := by
  unfold sp_stroke
  by_cases h : 0 ≤ z ∧ z ≤ ((n : Nat) : Int) - 1
  · rw [if_pos h, if_pos h, hc _ (by omega), hd _ (by omega)]
  · rw [if_neg h, if_neg h]
theorem sp_wR_congr {s : Int} {SL d : Nat → Int} {n : Nat} (hd : ∀ y, y < n → d y = SL y) (k : Nat) : sp_wR s d n k = sp_wR s SL n k := sp_sum_congr (fun _ _ => rfl) hd
theorem sp_wout_congr (K V : Nat → Int) (nh : Nat) (s : Int) {SL d : Nat → Int} {n : Nat} (hd : ∀ y, y < n → d y = SL y) : ∀ k : Nat, sp_wout K V nh s d n k = sp_wout K V nh s SL n k
  | 0 => rfl
  | k + 1 => by
    show sp_wout K V nh s d n k + sp_all K V (sp_wR s d n k) 0 nh = sp_wout K V nh s SL n k + sp_all K V (sp_wR s SL n k) 0 nh
    rw [sp_wout_congr K V nh s hd k, sp_wR_congr hd k]
theorem sp_whi_congr (s : Int) {SL d : Nat → Int} {n : Nat} (hd : ∀ y, y < n → d y = SL y) : ∀ k : Nat, sp_whi s d n k = sp_whi s SL n k
  | 0 => rfl
  | k + 1 => by
    show sp_whi s d n k + sp_cap (sp_wR s d n k 11) = sp_whi s SL n k + sp_cap (sp_wR s SL n k 11)
    rw [sp_whi_congr s hd k, sp_wR_congr hd k]
theorem sp_weeks_congr (nh : Nat) (K V : Nat → Int) {SL d : Nat → Int} {n : Nat} (hd : ∀ y, y < n → d y = SL y) (dd s w : Int) : sp_weeks nh K V d n dd s w = sp_weeks nh K V SL n dd s w := by
  unfold sp_weeks sp_weeksv
  rw [sp_wout_congr K V nh s hd, sp_whi_congr s hd]
theorem sp_dgs_congr {SH SL c d : Nat → Int} : ∀ {n : Nat} (_ : ∀ y, y < n → c y = SH y) (_ : ∀ y, y < n → d y = SL y) (h : Int64), sp_dgs (sp_sA c d) n h = sp_dgs (sp_sA SH SL) n h
  | 0, _, _, _ => rfl
  | n + 1, hc, hd, h => by
    show sp_mf (fun w => sp_strk (c n) (d n) ((w : Nat) : Int)) 3 (sp_dgs (sp_sA c d) n h) = sp_mf (fun w => sp_strk (SH n) (SL n) ((w : Nat) : Int)) 3 (sp_dgs (sp_sA SH SL) n h)
    rw [sp_dgs_congr (fun y hy => hc y (by omega)) (fun y hy => hd y (by omega)) h, hc n (by omega), hd n (by omega)]
theorem sp_digest_congr (nh : Nat) {n : Nat} (K V R : Nat → Int) {SH SL c d : Nat → Int} (hc : ∀ y, y < n → c y = SH y) (hd : ∀ y, y < n → d y = SL y) (HH HO HL HW : Nat → Int) (m : Nat) (ch : Int) (pn : Nat) (P : Nat → Int) (rd : Int) : sp_digest nh n K V R c d HH HO HL HW m ch pn P rd = sp_digest nh n K V R SH SL HH HO HL HW m ch pn P rd := by
  unfold sp_digest sp_dg1
  rw [sp_dgs_congr hc hd]
theorem va_up_all {f : Nat → Int} {p : Int → Prop} {N : Nat} (h : ∀ y, y < N → p (f y)) {k : Nat} {v : Int} (hv : p v) : ∀ y, y < N → p (va_up f k v y) := fun y hy => by
  by_cases e : y = k
  · subst e
    rw [va_up_self]
    exact hv
  · rw [va_up_ne _ _ e]
    exact h y hy
theorem va_up_ag {f g : Nat → Int} {N : Nat} (h : ∀ y, y < N → f y = g y) (v : Int) : ∀ y, y < N + 1 → va_up f N v y = va_up g N v y := fun y hy => by
  by_cases e : y = N
  · subst e
    rw [va_up_self, va_up_self]
  · rw [va_up_ne _ _ e, va_up_ne _ _ e]
    exact h y (by omega)
theorem va_up_ag2 {f g : Nat → Int} {N : Nat} (h : ∀ y, y < N → f y = g y) (k : Nat) (v : Int) : ∀ y, y < N → va_up f k v y = va_up g k v y := fun y hy => by
  by_cases e : y = k
  · subst e
    rw [va_up_self, va_up_self]
  · rw [va_up_ne _ _ e, va_up_ne _ _ e]
    exact h y hy
/-- the bounds of a row of strokes, of what was heard -/
def iS (n : Nat) (SH SL : Nat → Int) : Prop := ∀ x, x < n → 0 ≤ SH x ∧ SH x ≤ 9 ∧ 0 ≤ SL x ∧ SL x ≤ 9
def iH (n : Nat) (HH HO HL HW : Nat → Int) : Prop := ∀ x, x < n → 0 ≤ HH x ∧ HH x < 5 ∧ 0 ≤ HO x ∧ HO x ≤ 11 ∧ 1 ≤ HL x ∧ HL x ≤ 9 ∧ 0 ≤ HW x ∧ HW x ≤ 2
theorem iS.up {n : Nat} {SH SL : Nat → Int} (h : iS n SH SL) {a l : Int} (ha : 0 ≤ a ∧ a ≤ 9) (hl : 0 ≤ l ∧ l ≤ 9) : iS (n + 1) (va_up SH n a) (va_up SL n l) := fun x hx => by
  by_cases e : x = n
  · subst e
    rw [va_up_self, va_up_self]
    omega
  · rw [va_up_ne _ _ e, va_up_ne _ _ e]
    exact h x (by omega)
theorem iS.up2 {n : Nat} {SH SL : Nat → Int} (h : iS n SH SL) {l : Int} (k : Nat) (hl : 0 ≤ l ∧ l ≤ 9) : iS n SH (va_up SL k l) := fun x hx => by
  have hb := h x hx
  by_cases e : x = k
  · subst e
    rw [va_up_self]
    omega
  · rw [va_up_ne _ _ e]
    exact hb
theorem iH.up {n : Nat} {HH HO HL HW : Nat → Int} (h : iH n HH HO HL HW) {a o l w : Int} (ha : 0 ≤ a ∧ a < 5) (ho : 0 ≤ o ∧ o ≤ 11) (hl : 1 ≤ l ∧ l ≤ 9) (hw : 0 ≤ w ∧ w ≤ 2) : iH (n + 1) (va_up HH n a) (va_up HO n o) (va_up HL n l) (va_up HW n w) := fun x hx => by
  by_cases e : x = n
  · subst e
    rw [va_up_self, va_up_self, va_up_self, va_up_self]
    omega
  · rw [va_up_ne _ _ e, va_up_ne _ _ e, va_up_ne _ _ e, va_up_ne _ _ e]
    exact h x (by omega)
theorem sp_nk_b {P K : Nat → Int} {pn : Nat} (hpn : pn ≤ 25) (h : sp_whole P pn = true) (hK : ∀ x, x < 5 → 0 ≤ K x ∧ K x ≤ 4) : ∀ x, x < 5 → 0 ≤ sp_nk K P (sp_hn P pn) x ∧ sp_nk K P (sp_hn P pn) x ≤ 4 := fun x hx => by
  obtain ⟨-, -, -, -, -, -, w7, -⟩ := sp_whole_facts hpn h
  unfold sp_nk
  split
  · have := w7 x (by omega)
    omega
  · exact hK x hx
theorem sp_nv_b {P V : Nat → Int} {pn : Nat} (hpn : pn ≤ 25) (h : sp_whole P pn = true) (hV : ∀ x, x < 5 → 0 ≤ V x ∧ V x ≤ 9) : ∀ x, x < 5 → 0 ≤ sp_nv V P (sp_hn P pn) x ∧ sp_nv V P (sp_hn P pn) x ≤ 9 := fun x hx => by
  obtain ⟨-, -, -, -, -, -, w7, -⟩ := sp_whole_facts hpn h
  unfold sp_nv
  split
  · have := w7 x (by omega)
    omega
  · exact hV x hx
theorem sp_ns_b {P SH SL : Nat → Int} {pn : Nat} (hpn : pn ≤ 25) (h : sp_whole P pn = true) : iS (sp_sn P pn) (sp_nsh SH P (sp_hn P pn) (sp_sn P pn)) (sp_nsl SL P (sp_hn P pn) (sp_sn P pn)) := fun x hx => by
  obtain ⟨-, -, -, -, -, -, -, w8⟩ := sp_whole_facts hpn h
  have := w8 x hx
  unfold sp_nsh sp_nsl
  rw [if_pos hx, if_pos hx]
  omega
theorem sp_nsh_ag {P SH c : Nat → Int} {hn sn : Nat} : ∀ y, y < sn → sp_nsh c P hn sn y = sp_nsh SH P hn sn y := fun y hy => by
  unfold sp_nsh
  rw [if_pos hy, if_pos hy]
theorem sp_nsl_ag {P SL c : Nat → Int} {hn sn : Nat} : ∀ y, y < sn → sp_nsl c P hn sn y = sp_nsl SL P hn sn y := fun y hy => by
  unfold sp_nsl
  rw [if_pos hy, if_pos hy]
theorem sp_c6_ag {f g k : Nat → Int} {n : Nat} (hn : n ≤ 6) (h : ∀ y, y < n → f y = k y) : ∀ y, y < n → sp_c6 f g y = k y := fun y hy => by
  unfold sp_c6
  rw [if_pos (by omega)]
  exact h y hy
