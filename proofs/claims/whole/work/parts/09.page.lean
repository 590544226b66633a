theorem fl_X2_size_15 : Cond.fieldLink RX2 15 "GongTide$Page" "size" "I" ∈ wsX2_size := by decide +kernel
theorem hi_X2_size_X2 : ∀ w ∈ wsX20, w ∈ wsX2_size := fun w h => List.mem_cons_of_mem _ (List.mem_append_right _ h)
def rmX2_size : Room := { frames := 0, cells := 0, slots := 0, locals := 0 }
set_option maxHeartbeats 4000000 in
set_option maxRecDepth 100000 in
theorem con_X2_size (lau : Launch) (D : va_G) (cI cB : ClassId) (p : Nat) (q : Nat) (n : Nat)  : jMR lau yX2_size wsX2_size rmX2_size D cI cB [.ref p] [oP p q ((n : Nat) : Int)] (.int (jI ((n : Nat) : Int))) := by
  refine jMR.of (own := RX2) (cc := cX2_size) (maxL := 1) (ret := (some .int)) rfl (by decide) rfl (Nat.le_of_ble_eq_true rfl) ?_
  intro X C E
  refine jw_lv (lv' := [(0, .ref p)]) [0] rfl ?_
  refine jw_aload_n (pc := 0) C dX2_size_0 0 rfl ?_
  refine jw_get (pc := 1) C hi_X2_size_X2 0 rfl rfl 1 (by decide) fl_X2_size_15 rfl rfl dX2_size_1 ?_
  exact jw_iretR (pc := 4) C E dX2_size_4 rfl
theorem fl_X2_wipe_15 : Cond.fieldLink RX2 15 "GongTide$Page" "size" "I" ∈ wsX2_wipe := by decide +kernel
theorem hi_X2_wipe_X2 : ∀ w ∈ wsX20, w ∈ wsX2_wipe := fun w h => List.mem_cons_of_mem _ (List.mem_append_right _ h)
def rmX2_wipe : Room := { frames := 0, cells := 0, slots := 0, locals := 0 }
set_option maxHeartbeats 4000000 in
set_option maxRecDepth 100000 in
theorem con_X2_wipe (lau : Launch) (D : va_G) (cI cB : ClassId) (p : Nat) (q : Nat) (n : Nat)  : jMW (S := Unit) lau yX2_wipe wsX2_wipe rmX2_wipe D cI cB [.ref p] [oP p q ((n : Nat) : Int)] (fun u => some (.int (jI ((n : Nat) : Int)))) (fun u => True) (fun u => [oP p q ((0 : Nat) : Int)]) := by
  refine jMW.of (own := RX2) (cc := cX2_wipe) (maxL := 2) (ret := (some .int)) rfl (by decide) rfl (Nat.le_of_ble_eq_true rfl) ?_
  intro X C E
  refine jw_lv (lv' := [(0, .ref p)]) [0] rfl ?_
  refine jw_aload_n (pc := 0) C dX2_wipe_0 0 rfl ?_
  refine jw_get (pc := 1) C hi_X2_wipe_X2 0 rfl rfl 1 (by decide) fl_X2_wipe_15 rfl rfl dX2_wipe_1 ?_
  refine jw_istore_n (pc := 4) (lv' := [(1, .int (jI ((n : Nat) : Int))), (0, .ref p)]) C dX2_wipe_4 (by decide) rfl ?_
  refine jw_aload_n (pc := 5) C dX2_wipe_5 1 rfl ?_
  refine jw_iconst (pc := 6) C dX2_wipe_6 ?_
  refine jw_put (pc := 7) (ty := .int) (ws' := [oP p q 0]) C hi_X2_wipe_X2 tyX2 tyX2_ok nmX2 0 rfl rfl 1 (by decide) fl_X2_wipe_15 rfl rfl (by decide +kernel) rfl rfl (Nat.le_of_ble_eq_true rfl) rfl dX2_wipe_7 ?_
  refine jw_iload_n (pc := 10) C dX2_wipe_10 0 rfl ?_
  exact jw_iretW (pc := 11) C E dX2_wipe_11 (()) rfl trivial rfl
theorem fl_X2_write_9 : Cond.fieldLink RX2 9 "GongTide$Page" "codes" "[I" ∈ wsX2_write := by decide +kernel
theorem fl_X2_write_15 : Cond.fieldLink RX2 15 "GongTide$Page" "size" "I" ∈ wsX2_write := by decide +kernel
theorem hi_X2_write_X2 : ∀ w ∈ wsX20, w ∈ wsX2_write := fun w h => List.mem_cons_of_mem _ (List.mem_append_right _ h)
def rmX2_write : Room := { frames := 0, cells := 0, slots := 0, locals := 0 }
set_option maxHeartbeats 4000000 in
set_option maxRecDepth 100000 in
theorem con_X2_write (lau : Launch) (D : va_G) (cI cB : ClassId) (p : Nat) (q : Nat) (n : Nat) (P : Nat → Int) (c : Int) (hn : n < 25) : jMW (S := Unit) lau yX2_write wsX2_write rmX2_write D cI cB [.ref p, .int (jI c)] [oP p q ((n : Nat) : Int), aI cI q 25 P] (fun u => some (.int (jI 1))) (fun u => True) (fun u => [oP p q ((n + 1 : Nat) : Int), aI cI q 25 (va_up P n c)]) := by
  refine jMW.of (own := RX2) (cc := cX2_write) (maxL := 2) (ret := (some .boolean)) rfl (by decide) rfl (Nat.le_of_ble_eq_true rfl) ?_
  intro X C E
  refine jw_lv (lv' := [(0, .ref p), (1, .int (jI c))]) [0, 1] rfl ?_
  refine jw_aload_n (pc := 0) C dX2_write_0 0 rfl ?_
  refine jw_get (pc := 1) C hi_X2_write_X2 0 rfl rfl 1 (by decide) fl_X2_write_15 rfl rfl dX2_write_1 ?_
  refine jw_bipush (pc := 4) C dX2_write_4 (by decide +kernel) ?_
  refine jw_icmp_lt (pc := 6) (tgt := 11) C dX2_write_6 (by decide) (by omega) (by omega) (fun c_6 => ?_) (fun c_6 => ?_)
  · -- 6 t
    refine jw_aload_n (pc := 11) C dX2_write_11 0 rfl ?_
    refine jw_get (pc := 12) C hi_X2_write_X2 0 rfl rfl 0 (by decide) fl_X2_write_9 rfl rfl dX2_write_12 ?_
    refine jw_aload_n (pc := 15) C dX2_write_15 0 rfl ?_
    refine jw_get (pc := 16) C hi_X2_write_X2 0 rfl rfl 1 (by decide) fl_X2_write_15 rfl rfl dX2_write_16 ?_
    refine jw_iload_n (pc := 19) C dX2_write_19 1 rfl ?_
    refine jw_iast (pc := 20) C (f := P) 1 n rfl rfl (by omega) (by decide) (ws' := [oP p q ((n : Nat) : Int), aI cI q 25 (va_up P n c)]) rfl dX2_write_20 ?_
    refine jw_aload_n (pc := 21) C dX2_write_21 0 rfl ?_
    refine jw_dup (pc := 22) C dX2_write_22 rfl ?_
    refine jw_get (pc := 23) C hi_X2_write_X2 0 rfl rfl 1 (by decide) fl_X2_write_15 rfl rfl dX2_write_23 ?_
    refine jw_iconst (pc := 26) C dX2_write_26 ?_
    refine jw_iadd (pc := 27) (z := ((n + 1 : Nat) : Int)) C dX2_write_27 (by omega) ?_
    refine jw_put (pc := 28) (ty := .int) (ws' := [oP p q ((n + 1 : Nat) : Int), aI cI q 25 (va_up P n c)]) C hi_X2_write_X2 tyX2 tyX2_ok nmX2 0 rfl rfl 1 (by decide) fl_X2_write_15 rfl rfl (by decide +kernel) rfl rfl (Nat.le_of_ble_eq_true rfl) rfl dX2_write_28 ?_
    refine jw_iconst (pc := 31) C dX2_write_31 ?_
    exact jw_zretW (pc := 32) C E dX2_write_32 (()) rfl trivial rfl rfl
  · exfalso; omega
set_option maxHeartbeats 4000000 in
set_option maxRecDepth 100000 in
theorem con_X2_writeF (lau : Launch) (D : va_G) (cI cB : ClassId) (p : Nat) (q : Nat) (n : Nat) (P : Nat → Int) (c : Int) (hn : n = 25) : jMW (S := Unit) lau yX2_write wsX2_write rmX2_write D cI cB [.ref p, .int (jI c)] [oP p q ((n : Nat) : Int), aI cI q 25 P] (fun u => some (.int (jI 0))) (fun u => True) (fun u => [oP p q ((n : Nat) : Int), aI cI q 25 P]) := by
  refine jMW.of (own := RX2) (cc := cX2_write) (maxL := 2) (ret := (some .boolean)) rfl (by decide) rfl (Nat.le_of_ble_eq_true rfl) ?_
  intro X C E
  refine jw_lv (lv' := [(0, .ref p), (1, .int (jI c))]) [0, 1] rfl ?_
  refine jw_aload_n (pc := 0) C dX2_write_0 0 rfl ?_
  refine jw_get (pc := 1) C hi_X2_write_X2 0 rfl rfl 1 (by decide) fl_X2_write_15 rfl rfl dX2_write_1 ?_
  refine jw_bipush (pc := 4) C dX2_write_4 (by decide +kernel) ?_
  refine jw_icmp_lt (pc := 6) (tgt := 11) C dX2_write_6 (by decide) (by omega) (by omega) (fun c_6 => ?_) (fun c_6 => ?_)
  · exfalso; omega
  · -- 6 f
    refine jw_iconst (pc := 9) C dX2_write_9 ?_
    exact jw_zretW (pc := 10) C E dX2_write_10 (()) rfl trivial rfl rfl
theorem fl_X2_at_9 : Cond.fieldLink RX2 9 "GongTide$Page" "codes" "[I" ∈ wsX2_at := by decide +kernel
theorem fl_X2_at_15 : Cond.fieldLink RX2 15 "GongTide$Page" "size" "I" ∈ wsX2_at := by decide +kernel
theorem hi_X2_at_X2 : ∀ w ∈ wsX20, w ∈ wsX2_at := fun w h => List.mem_cons_of_mem _ (List.mem_append_right _ h)
theorem ni_X2_at_X5_isWithin : Cond.initialized RX5 ∈ wsX2_at := by decide +kernel
theorem ns_X2_at_X5_isWithin : Cond.static yX5_isWithin ∈ wsX2_at := by decide +kernel
def rmX2_at : Room := { frames := 1, cells := 0, slots := 0, locals := 22 }
set_option maxHeartbeats 4000000 in
set_option maxRecDepth 100000 in
theorem con_X2_at (lau : Launch) (D : va_G) (cI cB : ClassId) (p : Nat) (q : Nat) (n : Nat) (P : Nat → Int) (z : Int) (h1 : -2147483648 ≤ z ∧ z < 2147483648) (hn : n ≤ 25) (hP : ∀ k, k < n → 32 ≤ P k ∧ P k ≤ 126) : jMR lau yX2_at wsX2_at rmX2_at D cI cB [.ref p, .int (jI z)] [oP p q ((n : Nat) : Int), aI cI q 25 P] (.int (jI (sp_pa P n z))) := by
  refine jMR.of (own := RX2) (cc := cX2_at) (maxL := 2) (ret := (some .int)) rfl (by decide) rfl (Nat.le_of_ble_eq_true rfl) ?_
  intro X C E
  refine jw_lv (lv' := [(0, .ref p), (1, .int (jI z))]) [0, 1] rfl ?_
  refine jw_iload_n (pc := 0) C dX2_at_0 1 rfl ?_
  refine jw_iconst (pc := 1) C dX2_at_1 ?_
  refine jw_aload_n (pc := 2) C dX2_at_2 0 rfl ?_
  refine jw_get (pc := 3) C hi_X2_at_X2 0 rfl rfl 1 (by decide) fl_X2_at_15 rfl rfl dX2_at_3 ?_
  refine jw_iconst (pc := 6) C dX2_at_6 ?_
  refine jw_isub (pc := 7) (z := (((n : Nat) : Int) - 1)) C dX2_at_7 rfl ?_
  refine jw_callRN (pc := 8) C [.int (jI z), .int (jI 0), .int (jI (((((n : Nat) : Int) - 1))))] [] 3 (con_X5_isWithin lau D cI cB z 0 ((((n : Nat) : Int) - 1)) (by omega) (by omega) (by omega)) gX2_at_X5_isWithin_n19 rfl rfl rfl (fun U h => h.2.2.2.2.2.2.1) ni_X2_at_X5_isWithin ns_X2_at_X5_isWithin (by decide +kernel) ⟨Nat.le_of_ble_eq_true rfl, Nat.le_of_ble_eq_true rfl⟩ [] rfl rfl (Nat.le_of_ble_eq_true rfl) rfl dX2_at_8 ?_
  refine jw_ifb_eq (pc := 11) (tgt := 23) C dX2_at_11 (by decide) (fun c_11 => ?_) (fun c_11 => ?_)
  · -- 11 t
    refine jw_iconst (pc := 23) C dX2_at_23 ?_
    exact jw_iretR (pc := 24) C E dX2_at_24 (congrArg jI (by unfold sp_pa; first | rw [if_pos c_11] | rw [if_neg c_11]))
  · -- 11 f
    refine jw_aload_n (pc := 14) C dX2_at_14 0 rfl ?_
    refine jw_get (pc := 15) C hi_X2_at_X2 0 rfl rfl 0 (by decide) fl_X2_at_9 rfl rfl dX2_at_15 ?_
    refine jw_iload_n (pc := 18) C dX2_at_18 1 rfl ?_
    refine jw_iald (pc := 19) C (f := P) 1 ((z).toNat) rfl (by omega) (by omega) (by decide) dX2_at_19 ?_
    refine jw_goto (pc := 20) (tgt := 24) C dX2_at_20 (by decide) ?_
    exact jw_iretR (pc := 24) C E dX2_at_24 (congrArg jI (by unfold sp_pa; first | rw [if_pos c_11] | rw [if_neg c_11]))
def rmX2_digitAt : Room := { frames := 2, cells := 0, slots := 0, locals := 43 }
set_option maxHeartbeats 4000000 in
set_option maxRecDepth 100000 in
theorem con_X2_digitAt (lau : Launch) (D : va_G) (cI cB : ClassId) (p : Nat) (q : Nat) (n : Nat) (P : Nat → Int) (z : Int) (h1 : -2147483648 ≤ z ∧ z < 2147483648) (hn : n ≤ 25) (hP : ∀ k, k < n → 32 ≤ P k ∧ P k ≤ 126) : jMR lau yX2_digitAt wsX2_digitAt rmX2_digitAt D cI cB [.ref p, .int (jI z)] [oP p q ((n : Nat) : Int), aI cI q 25 P] (.int (jI (sp_pa P n z - 48))) := by
  refine jMR.of (own := RX2) (cc := cX2_digitAt) (maxL := 2) (ret := (some .int)) rfl (by decide) rfl (Nat.le_of_ble_eq_true rfl) ?_
  intro X C E
  refine jw_lv (lv' := [(0, .ref p), (1, .int (jI z))]) [0, 1] rfl ?_
  refine jw_aload_n (pc := 0) C dX2_digitAt_0 0 rfl ?_
  refine jw_iload_n (pc := 1) C dX2_digitAt_1 1 rfl ?_
  refine jw_callRV (pc := 2) C [.int (jI z)] [] 1 (con_X2_at lau D cI cB p q n P z (by omega) (by omega) hP) gX2_digitAt_X2_at rfl rfl rfl (by decide +kernel) ⟨Nat.le_of_ble_eq_true rfl, Nat.le_of_ble_eq_true rfl⟩ 0 rfl rfl [0, 1] rfl rfl (Nat.le_of_ble_eq_true rfl) rfl dX2_digitAt_2 ?_
  have b_2_0 := sp_pa_b hP z
  refine jw_bipush (pc := 5) C dX2_digitAt_5 (by decide +kernel) ?_
  refine jw_isub (pc := 7) (z := ((sp_pa P n z) - 48)) C dX2_digitAt_7 rfl ?_
  exact jw_iretR (pc := 8) C E dX2_digitAt_8 rfl
def rmX2_houses : Room := { frames := 2, cells := 0, slots := 0, locals := 43 }
set_option maxHeartbeats 4000000 in
set_option maxRecDepth 100000 in
theorem con_X2_houses (lau : Launch) (D : va_G) (cI cB : ClassId) (p : Nat) (q : Nat) (n : Nat) (P : Nat → Int) (hn : n ≤ 25) (hP : ∀ k, k < n → 32 ≤ P k ∧ P k ≤ 126) : jMR lau yX2_houses wsX2_houses rmX2_houses D cI cB [.ref p] [oP p q ((n : Nat) : Int), aI cI q 25 P] (.int (jI (sp_hs P n))) := by
  refine jMR.of (own := RX2) (cc := cX2_houses) (maxL := 2) (ret := (some .int)) rfl (by decide) rfl (Nat.le_of_ble_eq_true rfl) ?_
  intro X C E
  refine jw_lv (lv' := [(0, .ref p)]) [0] rfl ?_
  refine jw_iconst (pc := 0) C dX2_houses_0 ?_
  refine jw_istore_n (pc := 1) (lv' := [(1, .int (jI 2)), (0, .ref p)]) C dX2_houses_1 (by decide) rfl ?_
  refine jw_iload_n (pc := 2) C dX2_houses_2 0 rfl ?_
  refine jw_iconst (pc := 3) C dX2_houses_3 ?_
  refine jw_icmp_gt (pc := 4) (tgt := 29) C dX2_houses_4 (by decide) (by omega) (by omega) (fun c_4 => (by exfalso; omega)) (fun c_4 => ?_)
  refine jw_aload_n (pc := 7) C dX2_houses_7 1 rfl ?_
  refine jw_iconst (pc := 8) C dX2_houses_8 ?_
  refine jw_iload_n (pc := 9) C dX2_houses_9 0 rfl ?_
  refine jw_imul (pc := 10) (z := 6) C dX2_houses_10 (by decide) ?_
  refine jw_iconst (pc := 11) C dX2_houses_11 ?_
  refine jw_isub (pc := 12) (z := 5) C dX2_houses_12 (by decide) ?_
  refine jw_callRV (pc := 13) C [.int (jI 5)] [] 1 (con_X2_at lau D cI cB p q n P 5 (by omega) (by omega) hP) gX2_houses_X2_at rfl rfl rfl (by decide +kernel) ⟨Nat.le_of_ble_eq_true rfl, Nat.le_of_ble_eq_true rfl⟩ 0 rfl rfl [0, 1] rfl rfl (Nat.le_of_ble_eq_true rfl) rfl dX2_houses_13 ?_
  have b_13_0 := sp_pa_b hP 5
  refine jw_bipush (pc := 16) C dX2_houses_16 (by decide +kernel) ?_
  refine jw_icmp_ne (pc := 18) (tgt := 23) C dX2_houses_18 (by decide) (by omega) (by omega) (fun c_18 => ?_) (fun c_18 => ?_)
  · -- 18 t
    refine jw_iinc (pc := 23) (z := 3) (lv' := [(1, .int (jI 3)), (0, .ref p)]) C dX2_houses_23 0 rfl (by decide) (by decide) rfl ?_
    refine jw_goto (pc := 26) (tgt := 2) C dX2_houses_26 (by decide) ?_
    refine jw_iload_n (pc := 2) C dX2_houses_2 0 rfl ?_
    refine jw_iconst (pc := 3) C dX2_houses_3 ?_
    refine jw_icmp_gt (pc := 4) (tgt := 29) C dX2_houses_4 (by decide) (by omega) (by omega) (fun c_4 => (by exfalso; omega)) (fun c_4 => ?_)
    refine jw_aload_n (pc := 7) C dX2_houses_7 1 rfl ?_
    refine jw_iconst (pc := 8) C dX2_houses_8 ?_
    refine jw_iload_n (pc := 9) C dX2_houses_9 0 rfl ?_
    refine jw_imul (pc := 10) (z := 9) C dX2_houses_10 (by decide) ?_
    refine jw_iconst (pc := 11) C dX2_houses_11 ?_
    refine jw_isub (pc := 12) (z := 8) C dX2_houses_12 (by decide) ?_
    refine jw_callRV (pc := 13) C [.int (jI 8)] [] 1 (con_X2_at lau D cI cB p q n P 8 (by omega) (by omega) hP) gX2_houses_X2_at rfl rfl rfl (by decide +kernel) ⟨Nat.le_of_ble_eq_true rfl, Nat.le_of_ble_eq_true rfl⟩ 0 rfl rfl [0, 1] rfl rfl (Nat.le_of_ble_eq_true rfl) rfl dX2_houses_13 ?_
    have b_13_0 := sp_pa_b hP 8
    refine jw_bipush (pc := 16) C dX2_houses_16 (by decide +kernel) ?_
    refine jw_icmp_ne (pc := 18) (tgt := 23) C dX2_houses_18 (by decide) (by omega) (by omega) (fun c_18 => ?_) (fun c_18 => ?_)
    · -- 18 t
      refine jw_iinc (pc := 23) (z := 4) (lv' := [(1, .int (jI 4)), (0, .ref p)]) C dX2_houses_23 0 rfl (by decide) (by decide) rfl ?_
      refine jw_goto (pc := 26) (tgt := 2) C dX2_houses_26 (by decide) ?_
      refine jw_iload_n (pc := 2) C dX2_houses_2 0 rfl ?_
      refine jw_iconst (pc := 3) C dX2_houses_3 ?_
      refine jw_icmp_gt (pc := 4) (tgt := 29) C dX2_houses_4 (by decide) (by omega) (by omega) (fun c_4 => (by exfalso; omega)) (fun c_4 => ?_)
      refine jw_aload_n (pc := 7) C dX2_houses_7 1 rfl ?_
      refine jw_iconst (pc := 8) C dX2_houses_8 ?_
      refine jw_iload_n (pc := 9) C dX2_houses_9 0 rfl ?_
      refine jw_imul (pc := 10) (z := 12) C dX2_houses_10 (by decide) ?_
      refine jw_iconst (pc := 11) C dX2_houses_11 ?_
      refine jw_isub (pc := 12) (z := 11) C dX2_houses_12 (by decide) ?_
      refine jw_callRV (pc := 13) C [.int (jI 11)] [] 1 (con_X2_at lau D cI cB p q n P 11 (by omega) (by omega) hP) gX2_houses_X2_at rfl rfl rfl (by decide +kernel) ⟨Nat.le_of_ble_eq_true rfl, Nat.le_of_ble_eq_true rfl⟩ 0 rfl rfl [0, 1] rfl rfl (Nat.le_of_ble_eq_true rfl) rfl dX2_houses_13 ?_
      have b_13_0 := sp_pa_b hP 11
      refine jw_bipush (pc := 16) C dX2_houses_16 (by decide +kernel) ?_
      refine jw_icmp_ne (pc := 18) (tgt := 23) C dX2_houses_18 (by decide) (by omega) (by omega) (fun c_18 => ?_) (fun c_18 => ?_)
      · -- 18 t
        refine jw_iinc (pc := 23) (z := 5) (lv' := [(1, .int (jI 5)), (0, .ref p)]) C dX2_houses_23 0 rfl (by decide) (by decide) rfl ?_
        refine jw_goto (pc := 26) (tgt := 2) C dX2_houses_26 (by decide) ?_
        refine jw_iload_n (pc := 2) C dX2_houses_2 0 rfl ?_
        refine jw_iconst (pc := 3) C dX2_houses_3 ?_
        refine jw_icmp_gt (pc := 4) (tgt := 29) C dX2_houses_4 (by decide) (by omega) (by omega) (fun c_4 => (by exfalso; omega)) (fun c_4 => ?_)
        refine jw_aload_n (pc := 7) C dX2_houses_7 1 rfl ?_
        refine jw_iconst (pc := 8) C dX2_houses_8 ?_
        refine jw_iload_n (pc := 9) C dX2_houses_9 0 rfl ?_
        refine jw_imul (pc := 10) (z := 15) C dX2_houses_10 (by decide) ?_
        refine jw_iconst (pc := 11) C dX2_houses_11 ?_
        refine jw_isub (pc := 12) (z := 14) C dX2_houses_12 (by decide) ?_
        refine jw_callRV (pc := 13) C [.int (jI 14)] [] 1 (con_X2_at lau D cI cB p q n P 14 (by omega) (by omega) hP) gX2_houses_X2_at rfl rfl rfl (by decide +kernel) ⟨Nat.le_of_ble_eq_true rfl, Nat.le_of_ble_eq_true rfl⟩ 0 rfl rfl [0, 1] rfl rfl (Nat.le_of_ble_eq_true rfl) rfl dX2_houses_13 ?_
        have b_13_0 := sp_pa_b hP 14
        refine jw_bipush (pc := 16) C dX2_houses_16 (by decide +kernel) ?_
        refine jw_icmp_ne (pc := 18) (tgt := 23) C dX2_houses_18 (by decide) (by omega) (by omega) (fun c_18 => ?_) (fun c_18 => ?_)
        · -- 18 t
          refine jw_iinc (pc := 23) (z := 6) (lv' := [(1, .int (jI 6)), (0, .ref p)]) C dX2_houses_23 0 rfl (by decide) (by decide) rfl ?_
          refine jw_goto (pc := 26) (tgt := 2) C dX2_houses_26 (by decide) ?_
          refine jw_iload_n (pc := 2) C dX2_houses_2 0 rfl ?_
          refine jw_iconst (pc := 3) C dX2_houses_3 ?_
          refine jw_icmp_gt (pc := 4) (tgt := 29) C dX2_houses_4 (by decide) (by omega) (by omega) (fun c_4 => ?_) (fun c_4 => (by exfalso; omega))
          refine jw_iconst (pc := 29) C dX2_houses_29 ?_
          exact jw_iretR (pc := 30) C E dX2_houses_30 (congrArg jI (by unfold sp_hs; (repeat' split) <;> omega))
        · -- 18 f
          refine jw_iload_n (pc := 21) C dX2_houses_21 0 rfl ?_
          exact jw_iretR (pc := 22) C E dX2_houses_22 (congrArg jI (by unfold sp_hs; (repeat' split) <;> omega))
      · -- 18 f
        refine jw_iload_n (pc := 21) C dX2_houses_21 0 rfl ?_
        exact jw_iretR (pc := 22) C E dX2_houses_22 (congrArg jI (by unfold sp_hs; (repeat' split) <;> omega))
    · -- 18 f
      refine jw_iload_n (pc := 21) C dX2_houses_21 0 rfl ?_
      exact jw_iretR (pc := 22) C E dX2_houses_22 (congrArg jI (by unfold sp_hs; (repeat' split) <;> omega))
  · -- 18 f
    refine jw_iload_n (pc := 21) C dX2_houses_21 0 rfl ?_
    exact jw_iretR (pc := 22) C E dX2_houses_22 (congrArg jI (by unfold sp_hs; (repeat' split) <;> omega))
theorem ni_X2_suitsHouses_X5_isWithin : Cond.initialized RX5 ∈ wsX2_suitsHouses := by decide +kernel
theorem ns_X2_suitsHouses_X5_isWithin : Cond.static yX5_isWithin ∈ wsX2_suitsHouses := by decide +kernel
theorem ni_X2_suitsHouses_X5_kindOf : Cond.initialized RX5 ∈ wsX2_suitsHouses := by decide +kernel
theorem ns_X2_suitsHouses_X5_kindOf : Cond.static yX5_kindOf ∈ wsX2_suitsHouses := by decide +kernel
def rmX2_suitsHouses : Room := { frames := 1, cells := 0, slots := 0, locals := 22 }
set_option maxHeartbeats 4000000 in
set_option maxRecDepth 100000 in
theorem con_X2_suitsHouses (lau : Launch) (D : va_G) (cI cB : ClassId) (k : Nat) (c : Int) (hk : k < 99) (hc : -1 ≤ c ∧ c ≤ 126) : jMR lau yX2_suitsHouses wsX2_suitsHouses rmX2_suitsHouses D cI cB [.int (jI ((k : Nat) : Int)), .int (jI c)] [] (.int (jI (jb (sp_sh k c = true)))) := by
  refine jMR.of (own := RX2) (cc := cX2_suitsHouses) (maxL := 3) (ret := (some .boolean)) rfl (by decide) rfl (Nat.le_of_ble_eq_true rfl) ?_
  intro X C E
  refine jw_lv (lv' := [(0, .int (jI ((k : Nat) : Int))), (1, .int (jI c))]) [0, 1] rfl ?_
  refine jw_iload_n (pc := 0) C dX2_suitsHouses_0 0 rfl ?_
  refine jw_iconst (pc := 1) C dX2_suitsHouses_1 ?_
  refine jw_idiv (pc := 2) C (jI ((k / 3 : Nat) : Int)) dX2_suitsHouses_2 (jI_ne0 (by omega)) (by rw [jI_div (by omega) (by omega)]; exact congrArg jI (by omega)) ?_
  refine jw_istore_n (pc := 3) (lv' := [(2, .int (jI ((k / 3 : Nat) : Int))), (0, .int (jI ((k : Nat) : Int))), (1, .int (jI c))]) C dX2_suitsHouses_3 (by decide) rfl ?_
  refine jw_iload_n (pc := 4) C dX2_suitsHouses_4 1 rfl ?_
  refine jw_iconst (pc := 5) C dX2_suitsHouses_5 ?_
  refine jw_irem (pc := 6) C (jI ((k % 3 : Nat) : Int)) dX2_suitsHouses_6 (jI_ne0 (by omega)) (by rw [jI_rem (by omega) (by omega)]; exact congrArg jI (by omega)) ?_
  by_cases sw_7_0 : ((k % 3 : Nat) : Int) = 0
  · -- case 0
    refine jw_lookup (pc := 7) (tgt := 32) C dX2_suitsHouses_7 (by decide) (by omega) (by rw [sw_7_0] <;> rfl) (by decide) ?_
    refine jw_iload_n (pc := 32) C dX2_suitsHouses_32 2 rfl ?_
    refine jw_callRN (pc := 33) C [.int (jI c)] [] 1 (con_X5_kindOf lau D cI cB c (by omega)) gX2_suitsHouses_X5_kindOf_n41 rfl rfl rfl (fun U h => h.2.2.2.2.2.2.2.1) ni_X2_suitsHouses_X5_kindOf ns_X2_suitsHouses_X5_kindOf (by decide +kernel) ⟨Nat.le_of_ble_eq_true rfl, Nat.le_of_ble_eq_true rfl⟩ [] rfl rfl (Nat.le_of_ble_eq_true rfl) rfl dX2_suitsHouses_33 ?_
    have b_33_0 := sp_kind_b c
    refine jw_iconst (pc := 36) C dX2_suitsHouses_36 ?_
    refine jw_icmp_eq (pc := 37) (tgt := 44) C dX2_suitsHouses_37 (by decide) (by omega) (by omega) (fun c_37 => ?_) (fun c_37 => ?_)
    · -- 37 t
      refine jw_iconst (pc := 44) C dX2_suitsHouses_44 ?_
      exact jw_zretR (pc := 45) C E dX2_suitsHouses_45 (congrArg jI (by first | exact jb_i1 (sp_sh_iff.mpr (by omega)) | exact jb_i0 (fun h => absurd (sp_sh_iff.mp h) (by omega)) | exact jb_cg ⟨fun h => sp_sh_iff.mpr (by omega), fun h => by have := sp_sh_iff.mp h; omega⟩)) (jb_n _)
    · -- 37 f
      refine jw_iconst (pc := 40) C dX2_suitsHouses_40 ?_
      refine jw_goto (pc := 41) (tgt := 45) C dX2_suitsHouses_41 (by decide) ?_
      exact jw_zretR (pc := 45) C E dX2_suitsHouses_45 (congrArg jI (by first | exact jb_i1 (sp_sh_iff.mpr (by omega)) | exact jb_i0 (fun h => absurd (sp_sh_iff.mp h) (by omega)) | exact jb_cg ⟨fun h => sp_sh_iff.mpr (by omega), fun h => by have := sp_sh_iff.mp h; omega⟩)) (jb_n _)
  ·
    by_cases sw_7_1 : ((k % 3 : Nat) : Int) = 1
    · -- case 1
      refine jw_lookup (pc := 7) (tgt := 46) C dX2_suitsHouses_7 (by decide) (by omega) (by rw [sw_7_1] <;> rfl) (by decide) ?_
      refine jw_iload_n (pc := 46) C dX2_suitsHouses_46 2 rfl ?_
      refine jw_bipush (pc := 47) C dX2_suitsHouses_47 (by decide +kernel) ?_
      refine jw_bipush (pc := 49) C dX2_suitsHouses_49 (by decide +kernel) ?_
      refine jw_callRN (pc := 51) C [.int (jI c), .int (jI 48), .int (jI 57)] [] 3 (con_X5_isWithin lau D cI cB c 48 57 (by omega) (by omega) (by omega)) gX2_suitsHouses_X5_isWithin_n19 rfl rfl rfl (fun U h => h.2.2.2.2.2.2.1) ni_X2_suitsHouses_X5_isWithin ns_X2_suitsHouses_X5_isWithin (by decide +kernel) ⟨Nat.le_of_ble_eq_true rfl, Nat.le_of_ble_eq_true rfl⟩ [] rfl rfl (Nat.le_of_ble_eq_true rfl) rfl dX2_suitsHouses_51 ?_
      exact jw_zretR (pc := 54) C E dX2_suitsHouses_54 (congrArg jI (by first | exact jb_i1 (sp_sh_iff.mpr (by omega)) | exact jb_i0 (fun h => absurd (sp_sh_iff.mp h) (by omega)) | exact jb_cg ⟨fun h => sp_sh_iff.mpr (by omega), fun h => by have := sp_sh_iff.mp h; omega⟩)) (jb_n _)
    ·
      refine jw_lookup (pc := 7) (tgt := 55) (off := 48) C dX2_suitsHouses_7 (by decide) (by omega) (by first | (simp only [Op.lookupswitch.offset]; (repeat' split) <;> omega) | (simp [Op.lookupswitch.offset]; omega)) (by decide) ?_
      refine jw_iload_n (pc := 55) C dX2_suitsHouses_55 2 rfl ?_
      refine jw_bipush (pc := 56) C dX2_suitsHouses_56 (by decide +kernel) ?_
      refine jw_icmp_ne (pc := 58) (tgt := 66) C dX2_suitsHouses_58 (by decide) (by omega) (by omega) (fun c_58 => ?_) (fun c_58 => ?_)
      · -- 58 t
        refine jw_iload_n (pc := 66) C dX2_suitsHouses_66 2 rfl ?_
        refine jw_bipush (pc := 67) C dX2_suitsHouses_67 (by decide +kernel) ?_
        refine jw_icmp_ne (pc := 69) (tgt := 81) C dX2_suitsHouses_69 (by decide) (by omega) (by omega) (fun c_69 => ?_) (fun c_69 => ?_)
        · -- 69 t
          refine jw_iconst (pc := 81) C dX2_suitsHouses_81 ?_
          exact jw_zretR (pc := 82) C E dX2_suitsHouses_82 (congrArg jI (by first | exact jb_i1 (sp_sh_iff.mpr (by omega)) | exact jb_i0 (fun h => absurd (sp_sh_iff.mp h) (by omega)) | exact jb_cg ⟨fun h => sp_sh_iff.mpr (by omega), fun h => by have := sp_sh_iff.mp h; omega⟩)) (jb_n _)
        · -- 69 f
          refine jw_iload_n (pc := 72) C dX2_suitsHouses_72 0 rfl ?_
          refine jw_iconst (pc := 73) C dX2_suitsHouses_73 ?_
          refine jw_icmp_lt (pc := 74) (tgt := 81) C dX2_suitsHouses_74 (by decide) (by omega) (by omega) (fun c_74 => ?_) (fun c_74 => ?_)
          · -- 74 t
            refine jw_iconst (pc := 81) C dX2_suitsHouses_81 ?_
            exact jw_zretR (pc := 82) C E dX2_suitsHouses_82 (congrArg jI (by first | exact jb_i1 (sp_sh_iff.mpr (by omega)) | exact jb_i0 (fun h => absurd (sp_sh_iff.mp h) (by omega)) | exact jb_cg ⟨fun h => sp_sh_iff.mpr (by omega), fun h => by have := sp_sh_iff.mp h; omega⟩)) (jb_n _)
          · -- 74 f
            refine jw_iconst (pc := 77) C dX2_suitsHouses_77 ?_
            refine jw_goto (pc := 78) (tgt := 82) C dX2_suitsHouses_78 (by decide) ?_
            exact jw_zretR (pc := 82) C E dX2_suitsHouses_82 (congrArg jI (by first | exact jb_i1 (sp_sh_iff.mpr (by omega)) | exact jb_i0 (fun h => absurd (sp_sh_iff.mp h) (by omega)) | exact jb_cg ⟨fun h => sp_sh_iff.mpr (by omega), fun h => by have := sp_sh_iff.mp h; omega⟩)) (jb_n _)
      · -- 58 f
        refine jw_iload_n (pc := 61) C dX2_suitsHouses_61 0 rfl ?_
        refine jw_iconst (pc := 62) C dX2_suitsHouses_62 ?_
        refine jw_icmp_lt (pc := 63) (tgt := 77) C dX2_suitsHouses_63 (by decide) (by omega) (by omega) (fun c_63 => ?_) (fun c_63 => ?_)
        · -- 63 t
          refine jw_iconst (pc := 77) C dX2_suitsHouses_77 ?_
          refine jw_goto (pc := 78) (tgt := 82) C dX2_suitsHouses_78 (by decide) ?_
          exact jw_zretR (pc := 82) C E dX2_suitsHouses_82 (congrArg jI (by first | exact jb_i1 (sp_sh_iff.mpr (by omega)) | exact jb_i0 (fun h => absurd (sp_sh_iff.mp h) (by omega)) | exact jb_cg ⟨fun h => sp_sh_iff.mpr (by omega), fun h => by have := sp_sh_iff.mp h; omega⟩)) (jb_n _)
        · -- 63 f
          refine jw_iload_n (pc := 66) C dX2_suitsHouses_66 2 rfl ?_
          refine jw_bipush (pc := 67) C dX2_suitsHouses_67 (by decide +kernel) ?_
          refine jw_icmp_ne (pc := 69) (tgt := 81) C dX2_suitsHouses_69 (by decide) (by omega) (by omega) (fun c_69 => ?_) (fun c_69 => ?_)
          · -- 69 t
            refine jw_iconst (pc := 81) C dX2_suitsHouses_81 ?_
            exact jw_zretR (pc := 82) C E dX2_suitsHouses_82 (congrArg jI (by first | exact jb_i1 (sp_sh_iff.mpr (by omega)) | exact jb_i0 (fun h => absurd (sp_sh_iff.mp h) (by omega)) | exact jb_cg ⟨fun h => sp_sh_iff.mpr (by omega), fun h => by have := sp_sh_iff.mp h; omega⟩)) (jb_n _)
          · -- 69 f
            refine jw_iload_n (pc := 72) C dX2_suitsHouses_72 0 rfl ?_
            refine jw_iconst (pc := 73) C dX2_suitsHouses_73 ?_
            refine jw_icmp_lt (pc := 74) (tgt := 81) C dX2_suitsHouses_74 (by decide) (by omega) (by omega) (fun c_74 => ?_) (fun c_74 => ?_)
            · -- 74 t
              refine jw_iconst (pc := 81) C dX2_suitsHouses_81 ?_
              exact jw_zretR (pc := 82) C E dX2_suitsHouses_82 (congrArg jI (by first | exact jb_i1 (sp_sh_iff.mpr (by omega)) | exact jb_i0 (fun h => absurd (sp_sh_iff.mp h) (by omega)) | exact jb_cg ⟨fun h => sp_sh_iff.mpr (by omega), fun h => by have := sp_sh_iff.mp h; omega⟩)) (jb_n _)
            · -- 74 f
              refine jw_iconst (pc := 77) C dX2_suitsHouses_77 ?_
              refine jw_goto (pc := 78) (tgt := 82) C dX2_suitsHouses_78 (by decide) ?_
              exact jw_zretR (pc := 82) C E dX2_suitsHouses_82 (congrArg jI (by first | exact jb_i1 (sp_sh_iff.mpr (by omega)) | exact jb_i0 (fun h => absurd (sp_sh_iff.mp h) (by omega)) | exact jb_cg ⟨fun h => sp_sh_iff.mpr (by omega), fun h => by have := sp_sh_iff.mp h; omega⟩)) (jb_n _)
theorem ni_X2_suitsStrokes_X5_isWithin : Cond.initialized RX5 ∈ wsX2_suitsStrokes := by decide +kernel
theorem ns_X2_suitsStrokes_X5_isWithin : Cond.static yX5_isWithin ∈ wsX2_suitsStrokes := by decide +kernel
def rmX2_suitsStrokes : Room := { frames := 1, cells := 0, slots := 0, locals := 22 }
set_option maxHeartbeats 4000000 in
set_option maxRecDepth 100000 in
theorem con_X2_suitsStrokes (lau : Launch) (D : va_G) (cI cB : ClassId) (k : Nat) (c : Int) (hk : k < 99) (hc : -1 ≤ c ∧ c ≤ 126) : jMR lau yX2_suitsStrokes wsX2_suitsStrokes rmX2_suitsStrokes D cI cB [.int (jI ((k : Nat) : Int)), .int (jI c)] [] (.int (jI (jb (sp_ss k c = true)))) := by
  refine jMR.of (own := RX2) (cc := cX2_suitsStrokes) (maxL := 3) (ret := (some .boolean)) rfl (by decide) rfl (Nat.le_of_ble_eq_true rfl) ?_
  intro X C E
  refine jw_lv (lv' := [(0, .int (jI ((k : Nat) : Int))), (1, .int (jI c))]) [0, 1] rfl ?_
  refine jw_iload_n (pc := 0) C dX2_suitsStrokes_0 0 rfl ?_
  refine jw_bipush (pc := 1) C dX2_suitsStrokes_1 (by decide +kernel) ?_
  refine jw_icmp_lt (pc := 3) (tgt := 8) C dX2_suitsStrokes_3 (by decide) (by omega) (by omega) (fun c_3 => ?_) (fun c_3 => ?_)
  · -- 3 t
    refine jw_iload_n (pc := 8) C dX2_suitsStrokes_8 0 rfl ?_
    refine jw_iconst (pc := 9) C dX2_suitsStrokes_9 ?_
    refine jw_irem (pc := 10) C (jI ((k % 2 : Nat) : Int)) dX2_suitsStrokes_10 (jI_ne0 (by omega)) (by rw [jI_rem (by omega) (by omega)]; exact congrArg jI (by omega)) ?_
    refine jw_if_ne (pc := 11) (tgt := 19) C dX2_suitsStrokes_11 (by decide) (by omega) (fun c_11 => ?_) (fun c_11 => ?_)
    · -- 11 t
      refine jw_bipush (pc := 19) C dX2_suitsStrokes_19 (by decide +kernel) ?_
      refine jw_istore_n (pc := 21) (lv' := [(2, .int (jI 49)), (0, .int (jI ((k : Nat) : Int))), (1, .int (jI c))]) C dX2_suitsStrokes_21 (by decide) rfl ?_
      refine jw_iload_n (pc := 22) C dX2_suitsStrokes_22 2 rfl ?_
      refine jw_iload_n (pc := 23) C dX2_suitsStrokes_23 0 rfl ?_
      refine jw_bipush (pc := 24) C dX2_suitsStrokes_24 (by decide +kernel) ?_
      refine jw_callRN (pc := 26) C [.int (jI c), .int (jI 49), .int (jI 57)] [] 3 (con_X5_isWithin lau D cI cB c 49 57 (by omega) (by omega) (by omega)) gX2_suitsStrokes_X5_isWithin_n19 rfl rfl rfl (fun U h => h.2.2.2.2.2.2.1) ni_X2_suitsStrokes_X5_isWithin ns_X2_suitsStrokes_X5_isWithin (by decide +kernel) ⟨Nat.le_of_ble_eq_true rfl, Nat.le_of_ble_eq_true rfl⟩ [] rfl rfl (Nat.le_of_ble_eq_true rfl) rfl dX2_suitsStrokes_26 ?_
      exact jw_zretR (pc := 29) C E dX2_suitsStrokes_29 (congrArg jI (by first | exact jb_i1 (sp_ss_iff.mpr (by omega)) | exact jb_i0 (fun h => absurd (sp_ss_iff.mp h) (by omega)) | exact jb_cg ⟨fun h => sp_ss_iff.mpr (by omega), fun h => by have := sp_ss_iff.mp h; omega⟩)) (jb_n _)
    · -- 11 f
      refine jw_bipush (pc := 14) C dX2_suitsStrokes_14 (by decide +kernel) ?_
      refine jw_goto (pc := 16) (tgt := 21) C dX2_suitsStrokes_16 (by decide) ?_
      refine jw_istore_n (pc := 21) (lv' := [(2, .int (jI 48)), (0, .int (jI ((k : Nat) : Int))), (1, .int (jI c))]) C dX2_suitsStrokes_21 (by decide) rfl ?_
      refine jw_iload_n (pc := 22) C dX2_suitsStrokes_22 2 rfl ?_
      refine jw_iload_n (pc := 23) C dX2_suitsStrokes_23 0 rfl ?_
      refine jw_bipush (pc := 24) C dX2_suitsStrokes_24 (by decide +kernel) ?_
      refine jw_callRN (pc := 26) C [.int (jI c), .int (jI 48), .int (jI 57)] [] 3 (con_X5_isWithin lau D cI cB c 48 57 (by omega) (by omega) (by omega)) gX2_suitsStrokes_X5_isWithin_n19 rfl rfl rfl (fun U h => h.2.2.2.2.2.2.1) ni_X2_suitsStrokes_X5_isWithin ns_X2_suitsStrokes_X5_isWithin (by decide +kernel) ⟨Nat.le_of_ble_eq_true rfl, Nat.le_of_ble_eq_true rfl⟩ [] rfl rfl (Nat.le_of_ble_eq_true rfl) rfl dX2_suitsStrokes_26 ?_
      exact jw_zretR (pc := 29) C E dX2_suitsStrokes_29 (congrArg jI (by first | exact jb_i1 (sp_ss_iff.mpr (by omega)) | exact jb_i0 (fun h => absurd (sp_ss_iff.mp h) (by omega)) | exact jb_cg ⟨fun h => sp_ss_iff.mpr (by omega), fun h => by have := sp_ss_iff.mp h; omega⟩)) (jb_n _)
  · -- 3 f
    refine jw_iconst (pc := 6) C dX2_suitsStrokes_6 ?_
    exact jw_zretR (pc := 7) C E dX2_suitsStrokes_7 (congrArg jI (by first | exact jb_i1 (sp_ss_iff.mpr (by omega)) | exact jb_i0 (fun h => absurd (sp_ss_iff.mp h) (by omega)) | exact jb_cg ⟨fun h => sp_ss_iff.mpr (by omega), fun h => by have := sp_ss_iff.mp h; omega⟩)) (jb_n _)
theorem fl_X2_soundLetters_15 : Cond.fieldLink RX2 15 "GongTide$Page" "size" "I" ∈ wsX2_soundLetters := by decide +kernel
theorem hi_X2_soundLetters_X2 : ∀ w ∈ wsX20, w ∈ wsX2_soundLetters := fun w h => List.mem_cons_of_mem _ (List.mem_append_right _ h)
def rmX2_soundLetters : Room := { frames := 3, cells := 0, slots := 0, locals := 64 }
set_option maxHeartbeats 4000000 in
set_option maxRecDepth 100000 in
theorem con_X2_soundLetters (lau : Launch) (D : va_G) (cI cB : ClassId) (p : Nat) (q : Nat) (n : Nat) (P : Nat → Int) (hn : n ≤ 25) (hP : ∀ k, k < n → 32 ≤ P k ∧ P k ≤ 126) : jMR lau yX2_soundLetters wsX2_soundLetters rmX2_soundLetters D cI cB [.ref p] [oP p q ((n : Nat) : Int), aI cI q 25 P] (.int (jI ((sp_fault P n : Nat) : Int))) := by
  refine jMR.of (own := RX2) (cc := cX2_soundLetters) (maxL := 5) (ret := (some .int)) rfl (by decide) rfl (Nat.le_of_ble_eq_true rfl) ?_
  intro X C E
  refine jw_lv (lv' := [(0, .ref p)]) [0] rfl ?_
  refine jw_aload_n (pc := 0) C dX2_soundLetters_0 0 rfl ?_
  refine jw_callRV (pc := 1) C [] [] 0 (con_X2_houses lau D cI cB p q n P (by omega) hP) gX2_soundLetters_X2_houses rfl rfl rfl (by decide +kernel) ⟨Nat.le_of_ble_eq_true rfl, Nat.le_of_ble_eq_true rfl⟩ 0 rfl rfl [0, 1] rfl rfl (Nat.le_of_ble_eq_true rfl) rfl dX2_soundLetters_1 ?_
  have b_1_0 := sp_hs_b P n
  refine jw_istore_n (pc := 4) (lv' := [(1, .int (jI (sp_hs P n))), (0, .ref p)]) C dX2_soundLetters_4 (by decide) rfl ?_
  have jn_20_1 : ∀ (v : Int), (v = sp_he P n) → (0 ≤ v ∧ v ≤ 25) → jW X 20 [(0, .ref p), (1, .int (jI (sp_hs P n)))] [.int (jI v)] [oP p q ((n : Nat) : Int), aI cI q 25 P] := by
    intro v hv hv0
    refine jw_istore_n (pc := 20) (lv' := [(2, .int (jI v)), (0, .ref p), (1, .int (jI (sp_hs P n)))]) C dX2_soundLetters_20 (by decide) rfl ?_
    refine jw_iconst (pc := 21) C dX2_soundLetters_21 ?_
    refine jw_istore_n (pc := 22) (lv' := [(3, .int (jI 0)), (2, .int (jI v)), (0, .ref p), (1, .int (jI (sp_hs P n)))]) C dX2_soundLetters_22 (by decide) rfl ?_
    have lp_23_2 : ∀ (fu : Nat) (i : Nat), (i ≤ n) → (∀ j, j < i → sp_snd P n j = true) → n - i < fu → jW X 23 [(0, .ref p), (1, .int (jI (sp_hs P n))), (2, .int (jI v)), (3, .int (jI ((i : Nat) : Int)))] [] [oP p q ((n : Nat) : Int), aI cI q 25 P] := by
      intro fu
      induction fu with
      | zero => intro i hi hs hm; exact absurd hm (Nat.not_lt_zero _)
      | succ fu ih_3 =>
        intro i hi hs hm
        refine jw_iload_n (pc := 23) C dX2_soundLetters_23 3 rfl ?_
        refine jw_aload_n (pc := 24) C dX2_soundLetters_24 0 rfl ?_
        refine jw_get (pc := 25) C hi_X2_soundLetters_X2 0 rfl rfl 1 (by decide) fl_X2_soundLetters_15 rfl rfl dX2_soundLetters_25 ?_
        refine jw_icmp_ge (pc := 28) (tgt := 74) C dX2_soundLetters_28 (by decide) (by omega) (by omega) (fun c_28 => ?_) (fun c_28 => ?_)
        · -- 28 t
          refine jw_aload_n (pc := 74) C dX2_soundLetters_74 0 rfl ?_
          refine jw_get (pc := 75) C hi_X2_soundLetters_X2 0 rfl rfl 1 (by decide) fl_X2_soundLetters_15 rfl rfl dX2_soundLetters_75 ?_
          exact jw_iretR (pc := 78) C E dX2_soundLetters_78 (congrArg (fun k : Nat => jI ((k : Nat) : Int)) (sp_first_eq (s := sp_snd P n) (Nat.le_refl n) (fun j hj => hs j (by omega)) (Or.inl rfl)).symm)
        · -- 28 f
          have jn_59_4 : ∀ (b : Int), (b = jb (sp_snd P n i = true)) → (0 ≤ b ∧ b ≤ 1) → jW X 59 [(0, .ref p), (1, .int (jI (sp_hs P n))), (2, .int (jI v)), (3, .int (jI ((i : Nat) : Int)))] [.int (jI b)] [oP p q ((n : Nat) : Int), aI cI q 25 P] := by
            intro b hb hb1
            refine jw_istore (pc := 59) (lv' := [(4, .int (jI b)), (0, .ref p), (1, .int (jI (sp_hs P n))), (2, .int (jI v)), (3, .int (jI ((i : Nat) : Int)))]) C dX2_soundLetters_59 (by decide) rfl ?_
            refine jw_iload (pc := 61) C dX2_soundLetters_61 0 rfl ?_
            refine jw_if_ne (pc := 63) (tgt := 68) C dX2_soundLetters_63 (by decide) (by omega) (fun c_63 => ?_) (fun c_63 => ?_)
            · -- 63 t
              refine jw_iinc (pc := 68) (z := ((i + 1 : Nat) : Int)) (lv' := [(3, .int (jI ((i + 1 : Nat) : Int))), (4, .int (jI b)), (0, .ref p), (1, .int (jI (sp_hs P n))), (2, .int (jI v))]) C dX2_soundLetters_68 4 rfl (by omega) (by decide) rfl ?_
              refine jw_goto (pc := 71) (tgt := 23) C dX2_soundLetters_71 (by decide) ?_
              refine jw_lv [2, 3, 4, 0] rfl ?_
              exact ih_3 (i + 1) (by omega) (fun j hj => by
                    by_cases e : j = i
                    · subst e; exact jb_is1 hb c_63
                    · exact hs j (by omega)) (by omega)
            · -- 63 f
              refine jw_iload_n (pc := 66) C dX2_soundLetters_66 4 rfl ?_
              exact jw_iretR (pc := 67) C E dX2_soundLetters_67 (congrArg (fun k : Nat => jI ((k : Nat) : Int)) (sp_first_eq (s := sp_snd P n) (by omega) hs (Or.inr (jb_is0 hb c_63))).symm)
          refine jw_iload_n (pc := 31) C dX2_soundLetters_31 3 rfl ?_
          refine jw_iload_n (pc := 32) C dX2_soundLetters_32 2 rfl ?_
          refine jw_icmp_ge (pc := 33) (tgt := 48) C dX2_soundLetters_33 (by decide) (by omega) (by omega) (fun c_33 => ?_) (fun c_33 => ?_)
          · -- 33 t
            refine jw_iload_n (pc := 48) C dX2_soundLetters_48 3 rfl ?_
            refine jw_iload_n (pc := 49) C dX2_soundLetters_49 2 rfl ?_
            refine jw_isub (pc := 50) (z := ((i - (sp_he P n).toNat : Nat) : Int)) C dX2_soundLetters_50 (by omega) ?_
            refine jw_aload_n (pc := 51) C dX2_soundLetters_51 0 rfl ?_
            refine jw_iload_n (pc := 52) C dX2_soundLetters_52 3 rfl ?_
            refine jw_callRV (pc := 53) C [.int (jI ((((i : Nat) : Int))))] [.int (jI ((i - (sp_he P n).toNat : Nat) : Int))] 1 (con_X2_at lau D cI cB p q n P (((i : Nat) : Int)) (by omega) (by omega) hP) gX2_soundLetters_X2_at rfl rfl rfl (by decide +kernel) ⟨Nat.le_of_ble_eq_true rfl, Nat.le_of_ble_eq_true rfl⟩ 0 rfl rfl [0, 1] rfl rfl (Nat.le_of_ble_eq_true rfl) rfl dX2_soundLetters_53 ?_
            have b_53_0 := sp_pa_b hP (((i : Nat) : Int))
            refine jw_top (y := jI (P i)) (congrArg jI (sp_pa_nat P (by omega))) ?_
            rw [sp_pa_nat P (by omega)] at b_53_0
            refine jw_callRS (pc := 56) C [.int (jI (((i - (sp_he P n).toNat) : Nat) : Int)), .int (jI (((P i))))] [] 2 (con_X2_suitsStrokes lau D cI cB (i - (sp_he P n).toNat) ((P i)) (by omega) (by omega)) gX2_soundLetters_X2_suitsStrokes rfl rfl rfl (by decide +kernel) ⟨Nat.le_of_ble_eq_true rfl, Nat.le_of_ble_eq_true rfl⟩ [] rfl rfl (Nat.le_of_ble_eq_true rfl) rfl dX2_soundLetters_56 ?_
            refine jw_lv [0, 1, 2, 3] rfl ?_
            exact jn_59_4 ((jb (sp_ss (i - (sp_he P n).toNat) ((P i)) = true))) (by unfold sp_snd; first | (rw [if_pos (by omega)]; done) | (rw [if_neg (by omega)]; done)) (jb_01 _)
          · -- 33 f
            refine jw_iload_n (pc := 36) C dX2_soundLetters_36 3 rfl ?_
            refine jw_aload_n (pc := 37) C dX2_soundLetters_37 0 rfl ?_
            refine jw_iload_n (pc := 38) C dX2_soundLetters_38 3 rfl ?_
            refine jw_callRV (pc := 39) C [.int (jI ((((i : Nat) : Int))))] [.int (jI ((i : Nat) : Int))] 1 (con_X2_at lau D cI cB p q n P (((i : Nat) : Int)) (by omega) (by omega) hP) gX2_soundLetters_X2_at rfl rfl rfl (by decide +kernel) ⟨Nat.le_of_ble_eq_true rfl, Nat.le_of_ble_eq_true rfl⟩ 0 rfl rfl [0, 1] rfl rfl (Nat.le_of_ble_eq_true rfl) rfl dX2_soundLetters_39 ?_
            have b_39_0 := sp_pa_b hP (((i : Nat) : Int))
            refine jw_top (y := jI (P i)) (congrArg jI (sp_pa_nat P (by omega))) ?_
            rw [sp_pa_nat P (by omega)] at b_39_0
            refine jw_callRS (pc := 42) C [.int (jI ((i : Nat) : Int)), .int (jI (((P i))))] [] 2 (con_X2_suitsHouses lau D cI cB i ((P i)) (by omega) (by omega)) gX2_soundLetters_X2_suitsHouses rfl rfl rfl (by decide +kernel) ⟨Nat.le_of_ble_eq_true rfl, Nat.le_of_ble_eq_true rfl⟩ [] rfl rfl (Nat.le_of_ble_eq_true rfl) rfl dX2_soundLetters_42 ?_
            refine jw_goto (pc := 45) (tgt := 59) C dX2_soundLetters_45 (by decide) ?_
            refine jw_lv [0, 1, 2, 3] rfl ?_
            exact jn_59_4 ((jb (sp_sh i ((P i)) = true))) (by unfold sp_snd; first | (rw [if_pos (by omega)]; done) | (rw [if_neg (by omega)]; done)) (jb_01 _)
    refine jw_lv [2, 3, 1, 0] rfl ?_
    exact lp_23_2 ((n - 0) + 1) 0 (by omega) (fun j hj => absurd hj (Nat.not_lt_zero _)) (Nat.lt_succ_self _)
  refine jw_iload_n (pc := 5) C dX2_soundLetters_5 0 rfl ?_
  refine jw_iconst (pc := 6) C dX2_soundLetters_6 ?_
  refine jw_icmp_ne (pc := 7) (tgt := 17) C dX2_soundLetters_7 (by decide) (by omega) (by omega) (fun c_7 => ?_) (fun c_7 => ?_)
  · -- 7 t
    refine jw_iconst (pc := 17) C dX2_soundLetters_17 ?_
    refine jw_iload_n (pc := 18) C dX2_soundLetters_18 0 rfl ?_
    refine jw_imul (pc := 19) (z := (3 * (sp_hs P n))) C dX2_soundLetters_19 rfl ?_
    refine jw_lv [1, 0] rfl ?_
    exact jn_20_1 ((3 * (sp_hs P n))) (by unfold sp_he; split <;> omega) (by omega)
  · -- 7 f
    refine jw_aload_n (pc := 10) C dX2_soundLetters_10 1 rfl ?_
    refine jw_get (pc := 11) C hi_X2_soundLetters_X2 0 rfl rfl 1 (by decide) fl_X2_soundLetters_15 rfl rfl dX2_soundLetters_11 ?_
    refine jw_goto (pc := 14) (tgt := 20) C dX2_soundLetters_14 (by decide) ?_
    refine jw_lv [1, 0] rfl ?_
    exact jn_20_1 (((n : Nat) : Int)) (by unfold sp_he; split <;> omega) (by omega)
theorem fl_X2_tellsColony_15 : Cond.fieldLink RX2 15 "GongTide$Page" "size" "I" ∈ wsX2_tellsColony := by decide +kernel
theorem hi_X2_tellsColony_X2 : ∀ w ∈ wsX20, w ∈ wsX2_tellsColony := fun w h => List.mem_cons_of_mem _ (List.mem_append_right _ h)
def rmX2_tellsColony : Room := { frames := 4, cells := 0, slots := 0, locals := 88 }
set_option maxHeartbeats 4000000 in
set_option maxRecDepth 100000 in
theorem con_X2_tellsColony (lau : Launch) (D : va_G) (cI cB : ClassId) (p : Nat) (q : Nat) (n : Nat) (P : Nat → Int) (hn : n ≤ 25) (hP : ∀ k, k < n → 32 ≤ P k ∧ P k ≤ 126) : jMR lau yX2_tellsColony wsX2_tellsColony rmX2_tellsColony D cI cB [.ref p] [oP p q ((n : Nat) : Int), aI cI q 25 P] (.int (jI (jb (sp_whole P n = true)))) := by
  refine jMR.of (own := RX2) (cc := cX2_tellsColony) (maxL := 3) (ret := (some .boolean)) rfl (by decide) rfl (Nat.le_of_ble_eq_true rfl) ?_
  intro X C E
  refine jw_lv (lv' := [(0, .ref p)]) [0] rfl ?_
  refine jw_aload_n (pc := 0) C dX2_tellsColony_0 0 rfl ?_
  refine jw_callRV (pc := 1) C [] [] 0 (con_X2_houses lau D cI cB p q n P (by omega) hP) gX2_tellsColony_X2_houses rfl rfl rfl (by decide +kernel) ⟨Nat.le_of_ble_eq_true rfl, Nat.le_of_ble_eq_true rfl⟩ 0 rfl rfl [0, 1] rfl rfl (Nat.le_of_ble_eq_true rfl) rfl dX2_tellsColony_1 ?_
  have b_1_0 := sp_hs_b P n
  refine jw_istore_n (pc := 4) (lv' := [(1, .int (jI (sp_hs P n))), (0, .ref p)]) C dX2_tellsColony_4 (by decide) rfl ?_
  refine jw_iload_n (pc := 5) C dX2_tellsColony_5 0 rfl ?_
  refine jw_iconst (pc := 6) C dX2_tellsColony_6 ?_
  refine jw_icmp_eq (pc := 7) (tgt := 21) C dX2_tellsColony_7 (by decide) (by omega) (by omega) (fun c_7 => ?_) (fun c_7 => ?_)
  · -- 7 t
    refine jw_iconst (pc := 21) C dX2_tellsColony_21 ?_
    exact jw_zretR (pc := 22) C E dX2_tellsColony_22 (congrArg jI (by first | exact jb_i1 (sp_whole_iff.mpr (by omega)) | exact jb_i0 (fun h => absurd ((sp_whole_iff (P := P) (n := n)).mp h) (by omega)))) (jb_n _)
  · -- 7 f
    refine jw_aload_n (pc := 10) C dX2_tellsColony_10 1 rfl ?_
    refine jw_callRV (pc := 11) C [] [] 0 (con_X2_soundLetters lau D cI cB p q n P (by omega) hP) gX2_tellsColony_X2_soundLetters rfl rfl rfl (by decide +kernel) ⟨Nat.le_of_ble_eq_true rfl, Nat.le_of_ble_eq_true rfl⟩ 0 rfl rfl [0, 1] rfl rfl (Nat.le_of_ble_eq_true rfl) rfl dX2_tellsColony_11 ?_
    have b_11_0 := sp_fault_le P n
    refine jw_aload_n (pc := 14) C dX2_tellsColony_14 1 rfl ?_
    refine jw_get (pc := 15) C hi_X2_tellsColony_X2 0 rfl rfl 1 (by decide) fl_X2_tellsColony_15 rfl rfl dX2_tellsColony_15 ?_
    refine jw_icmp_ge (pc := 18) (tgt := 23) C dX2_tellsColony_18 (by decide) (by omega) (by omega) (fun c_18 => ?_) (fun c_18 => ?_)
    · -- 18 t
      refine jw_aload_n (pc := 23) C dX2_tellsColony_23 1 rfl ?_
      refine jw_get (pc := 24) C hi_X2_tellsColony_X2 0 rfl rfl 1 (by decide) fl_X2_tellsColony_15 rfl rfl dX2_tellsColony_24 ?_
      refine jw_iconst (pc := 27) C dX2_tellsColony_27 ?_
      refine jw_iload_n (pc := 28) C dX2_tellsColony_28 0 rfl ?_
      refine jw_imul (pc := 29) (z := (3 * (sp_hs P n))) C dX2_tellsColony_29 rfl ?_
      refine jw_isub (pc := 30) (z := (((n : Nat) : Int) - (3 * (sp_hs P n)))) C dX2_tellsColony_30 rfl ?_
      refine jw_istore_n (pc := 31) (lv' := [(2, .int (jI (((n : Nat) : Int) - (3 * (sp_hs P n))))), (1, .int (jI (sp_hs P n))), (0, .ref p)]) C dX2_tellsColony_31 (by decide) rfl ?_
      refine jw_iload_n (pc := 32) C dX2_tellsColony_32 0 rfl ?_
      refine jw_if_le (pc := 33) (tgt := 46) C dX2_tellsColony_33 (by decide) (by omega) (fun c_33 => ?_) (fun c_33 => ?_)
      · -- 33 t
        refine jw_iconst (pc := 46) C dX2_tellsColony_46 ?_
        exact jw_zretR (pc := 47) C E dX2_tellsColony_47 (congrArg jI (by first | exact jb_i1 (sp_whole_iff.mpr (by omega)) | exact jb_i0 (fun h => absurd ((sp_whole_iff (P := P) (n := n)).mp h) (by omega)))) (jb_n _)
      · -- 33 f
        refine jw_iload_n (pc := 36) C dX2_tellsColony_36 0 rfl ?_
        refine jw_iconst (pc := 37) C dX2_tellsColony_37 ?_
        refine jw_irem (pc := 38) C (jI ((((n : Nat) : Int) - (3 * (sp_hs P n))) % 2)) dX2_tellsColony_38 (jI_ne0 (by omega)) (jI_rem (by omega) (by omega)) ?_
        refine jw_if_ne (pc := 39) (tgt := 46) C dX2_tellsColony_39 (by decide) (by omega) (fun c_39 => ?_) (fun c_39 => ?_)
        · -- 39 t
          refine jw_iconst (pc := 46) C dX2_tellsColony_46 ?_
          exact jw_zretR (pc := 47) C E dX2_tellsColony_47 (congrArg jI (by first | exact jb_i1 (sp_whole_iff.mpr (by omega)) | exact jb_i0 (fun h => absurd ((sp_whole_iff (P := P) (n := n)).mp h) (by omega)))) (jb_n _)
        · -- 39 f
          refine jw_iconst (pc := 42) C dX2_tellsColony_42 ?_
          refine jw_goto (pc := 43) (tgt := 47) C dX2_tellsColony_43 (by decide) ?_
          exact jw_zretR (pc := 47) C E dX2_tellsColony_47 (congrArg jI (by first | exact jb_i1 (sp_whole_iff.mpr (by omega)) | exact jb_i0 (fun h => absurd ((sp_whole_iff (P := P) (n := n)).mp h) (by omega)))) (jb_n _)
    · -- 18 f
      refine jw_iconst (pc := 21) C dX2_tellsColony_21 ?_
      exact jw_zretR (pc := 22) C E dX2_tellsColony_22 (congrArg jI (by first | exact jb_i1 (sp_whole_iff.mpr (by omega)) | exact jb_i0 (fun h => absurd ((sp_whole_iff (P := P) (n := n)).mp h) (by omega)))) (jb_n _)
