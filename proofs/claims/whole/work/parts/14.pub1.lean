theorem fl_X5_letter_10 : Cond.fieldLink RX5 10 "GongTide" "page" "LGongTide$Page;" ∈ wsX5_letter := by decide +kernel
theorem hi_X5_letter_X5 : ∀ w ∈ wsX50, w ∈ wsX5_letter := fun w h => List.mem_cons_of_mem _ (List.mem_append_left _ (List.mem_append_right _ h))
def rmX5_letter : Room := { frames := 1, cells := 0, slots := 0, locals := 22 }
set_option maxHeartbeats 4000000 in
set_option maxRecDepth 100000 in
theorem con_X5_letter (lau : Launch) (D : va_G) (cI cB : ClassId) (g : Nat) (pg : Nat) (ki : Nat) (nh : Nat) (rd : Int) (a : Nat) (kp : Nat) (ik : Int) (no : Nat) (su : Nat) (pq : Nat) (pn : Nat) (P : Nat → Int) (c : Int) (hc : 32 ≤ c ∧ c ≤ 126) (hpn : pn < 25) : jMW (S := Unit) lau yX5_letter wsX5_letter rmX5_letter D cI cB [.ref g, .int (jI c)] [oG g pg ki ((nh : Nat) : Int) rd a kp ik no su, oP pg pq ((pn : Nat) : Int), aI cI pq 25 P] (fun u => some (.int (jI ((pn + 1 : Nat) : Int)))) (fun u => True) (fun u => [oG g pg ki ((nh : Nat) : Int) rd a kp ik no su, oP pg pq ((pn + 1 : Nat) : Int), aI cI pq 25 (va_up P pn c)]) := by
  refine jMW.of (own := RX5) (cc := cX5_letter) (maxL := 2) (ret := (some .int)) rfl (by decide) rfl (Nat.le_of_ble_eq_true rfl) ?_
  intro X C E
  refine jw_lv (lv' := [(0, .ref g), (1, .int (jI c))]) [0, 1] rfl ?_
  refine jw_iload_n (pc := 0) C dX5_letter_0 1 rfl ?_
  refine jw_bipush (pc := 1) C dX5_letter_1 (by decide +kernel) ?_
  refine jw_bipush (pc := 3) C dX5_letter_3 (by decide +kernel) ?_
  refine jw_callRS (pc := 5) C [.int (jI c), .int (jI 32), .int (jI 126)] [] 3 (con_X5_isWithin lau D cI cB c 32 126 (by omega) (by omega) (by omega)) gX5_letter_X5_isWithin rfl rfl rfl (by decide +kernel) ⟨Nat.le_of_ble_eq_true rfl, Nat.le_of_ble_eq_true rfl⟩ [] rfl rfl (Nat.le_of_ble_eq_true rfl) rfl dX5_letter_5 ?_
  refine jw_ifb_ne (pc := 8) (tgt := 14) C dX5_letter_8 (by decide) (fun c_8 => ?_) (fun c_8 => ?_)
  · -- 8 t
    refine jw_aload_n (pc := 14) C dX5_letter_14 0 rfl ?_
    refine jw_get (pc := 15) C hi_X5_letter_X5 0 rfl rfl 0 (by decide) fl_X5_letter_10 rfl rfl dX5_letter_15 ?_
    refine jw_iload_n (pc := 18) C dX5_letter_18 1 rfl ?_
    refine jw_callWV (pc := 19) C [.int (jI c)] [] 1 (con_X2_write lau D cI cB pg pq pn P c (by omega)) gX5_letter_X2_write rfl rfl rfl (by decide +kernel) ⟨Nat.le_of_ble_eq_true rfl, Nat.le_of_ble_eq_true rfl⟩ 1 rfl rfl [1, 2] [0] [0, 1, 2] (wr := [oG g pg ki ((nh : Nat) : Int) rd a kp ik no su]) rfl rfl (by decide) (by decide) (fun _ => rfl) (wN := fun u_19_1 => [oG g pg ki ((nh : Nat) : Int) rd a kp ik no su, oP pg pq ((pn + 1 : Nat) : Int), aI cI pq 25 (va_up P pn c)]) (fun _ => rfl) (stN := fun u_19_1 => [.int (jI 1)]) (fun _ => rfl) rfl (Nat.le_of_ble_eq_true rfl) rfl dX5_letter_19 (fun u_19_1 hu_19_1 => ?_)
    refine jw_if_eq (pc := 22) (tgt := 35) C dX5_letter_22 (by decide) (by omega) (fun c_22 => (by exfalso; omega)) (fun c_22 => ?_)
    refine jw_aload_n (pc := 25) C dX5_letter_25 0 rfl ?_
    refine jw_get (pc := 26) C hi_X5_letter_X5 0 rfl rfl 0 (by decide) fl_X5_letter_10 rfl rfl dX5_letter_26 ?_
    refine jw_callRV (pc := 29) C [] [] 0 (con_X2_size lau D cI cB pg pq (pn + 1) ) gX5_letter_X2_size rfl rfl rfl (by decide +kernel) ⟨Nat.le_of_ble_eq_true rfl, Nat.le_of_ble_eq_true rfl⟩ 1 rfl rfl [1] rfl rfl (Nat.le_of_ble_eq_true rfl) rfl dX5_letter_29 ?_
    refine jw_goto (pc := 32) (tgt := 37) C dX5_letter_32 (by decide) ?_
    exact jw_iretW (pc := 37) C E dX5_letter_37 (()) rfl trivial rfl
  · exfalso; omega
set_option maxHeartbeats 4000000 in
set_option maxRecDepth 100000 in
theorem con_X5_letterF (lau : Launch) (D : va_G) (cI cB : ClassId) (g : Nat) (pg : Nat) (ki : Nat) (nh : Nat) (rd : Int) (a : Nat) (kp : Nat) (ik : Int) (no : Nat) (su : Nat) (pq : Nat) (pn : Nat) (P : Nat → Int) (c : Int) (hc : -2147483648 ≤ c ∧ c < 2147483648) (hpn : pn ≤ 25) (hrf : ¬ (32 ≤ c ∧ c ≤ 126) ∨ pn = 25) : jMW (S := Unit) lau yX5_letter wsX5_letter rmX5_letter D cI cB [.ref g, .int (jI c)] [oG g pg ki ((nh : Nat) : Int) rd a kp ik no su, oP pg pq ((pn : Nat) : Int), aI cI pq 25 P] (fun u => some (.int (jI (sp_letF c)))) (fun u => True) (fun u => [oG g pg ki ((nh : Nat) : Int) rd a kp ik no su, oP pg pq ((pn : Nat) : Int), aI cI pq 25 P]) := by
  refine jMW.of (own := RX5) (cc := cX5_letter) (maxL := 2) (ret := (some .int)) rfl (by decide) rfl (Nat.le_of_ble_eq_true rfl) ?_
  intro X C E
  refine jw_lv (lv' := [(0, .ref g), (1, .int (jI c))]) [0, 1] rfl ?_
  refine jw_iload_n (pc := 0) C dX5_letter_0 1 rfl ?_
  refine jw_bipush (pc := 1) C dX5_letter_1 (by decide +kernel) ?_
  refine jw_bipush (pc := 3) C dX5_letter_3 (by decide +kernel) ?_
  refine jw_callRS (pc := 5) C [.int (jI c), .int (jI 32), .int (jI 126)] [] 3 (con_X5_isWithin lau D cI cB c 32 126 (by omega) (by omega) (by omega)) gX5_letter_X5_isWithin rfl rfl rfl (by decide +kernel) ⟨Nat.le_of_ble_eq_true rfl, Nat.le_of_ble_eq_true rfl⟩ [] rfl rfl (Nat.le_of_ble_eq_true rfl) rfl dX5_letter_5 ?_
  refine jw_ifb_ne (pc := 8) (tgt := 14) C dX5_letter_8 (by decide) (fun c_8 => ?_) (fun c_8 => ?_)
  · -- 8 t
    refine jw_aload_n (pc := 14) C dX5_letter_14 0 rfl ?_
    refine jw_get (pc := 15) C hi_X5_letter_X5 0 rfl rfl 0 (by decide) fl_X5_letter_10 rfl rfl dX5_letter_15 ?_
    refine jw_iload_n (pc := 18) C dX5_letter_18 1 rfl ?_
    refine jw_callWV (pc := 19) C [.int (jI c)] [] 1 (con_X2_writeF lau D cI cB pg pq pn P c (by omega)) gX5_letter_X2_write rfl rfl rfl (by decide +kernel) ⟨Nat.le_of_ble_eq_true rfl, Nat.le_of_ble_eq_true rfl⟩ 1 rfl rfl [1, 2] [0] [0, 1, 2] (wr := [oG g pg ki ((nh : Nat) : Int) rd a kp ik no su]) rfl rfl (by decide) (by decide) (fun _ => rfl) (wN := fun u_19_1 => [oG g pg ki ((nh : Nat) : Int) rd a kp ik no su, oP pg pq ((pn : Nat) : Int), aI cI pq 25 P]) (fun _ => rfl) (stN := fun u_19_1 => [.int (jI 0)]) (fun _ => rfl) rfl (Nat.le_of_ble_eq_true rfl) rfl dX5_letter_19 (fun u_19_1 hu_19_1 => ?_)
    refine jw_if_eq (pc := 22) (tgt := 35) C dX5_letter_22 (by decide) (by omega) (fun c_22 => ?_) (fun c_22 => (by exfalso; omega))
    refine jw_bipush (pc := 35) C dX5_letter_35 (by decide +kernel) ?_
    exact jw_iretW (pc := 37) C E dX5_letter_37 (()) (congrArg (fun z => some (Value.int (jI z))) (by unfold sp_letF; (repeat' split) <;> omega)) trivial rfl
  · -- 8 f
    refine jw_bipush (pc := 11) C dX5_letter_11 (by decide +kernel) ?_
    exact jw_iretW (pc := 13) C E dX5_letter_13 (()) (congrArg (fun z => some (Value.int (jI z))) (by unfold sp_letF; (repeat' split) <;> omega)) trivial rfl
theorem fl_X5_blank_10 : Cond.fieldLink RX5 10 "GongTide" "page" "LGongTide$Page;" ∈ wsX5_blank := by decide +kernel
theorem hi_X5_blank_X5 : ∀ w ∈ wsX50, w ∈ wsX5_blank := fun w h => List.mem_cons_of_mem _ (List.mem_append_left _ (List.mem_append_right _ h))
def rmX5_blank : Room := { frames := 1, cells := 0, slots := 0, locals := 21 }
set_option maxHeartbeats 4000000 in
set_option maxRecDepth 100000 in
theorem con_X5_blank (lau : Launch) (D : va_G) (cI cB : ClassId) (g : Nat) (pg : Nat) (ki : Nat) (nh : Nat) (rd : Int) (a : Nat) (kp : Nat) (ik : Int) (no : Nat) (su : Nat) (pq : Nat) (pn : Nat)  : jMW (S := Unit) lau yX5_blank wsX5_blank rmX5_blank D cI cB [.ref g] [oG g pg ki ((nh : Nat) : Int) rd a kp ik no su, oP pg pq ((pn : Nat) : Int)] (fun u => some (.int (jI ((pn : Nat) : Int)))) (fun u => True) (fun u => [oG g pg ki ((nh : Nat) : Int) rd a kp ik no su, oP pg pq ((0 : Nat) : Int)]) := by
  refine jMW.of (own := RX5) (cc := cX5_blank) (maxL := 1) (ret := (some .int)) rfl (by decide) rfl (Nat.le_of_ble_eq_true rfl) ?_
  intro X C E
  refine jw_lv (lv' := [(0, .ref g)]) [0] rfl ?_
  refine jw_aload_n (pc := 0) C dX5_blank_0 0 rfl ?_
  refine jw_get (pc := 1) C hi_X5_blank_X5 0 rfl rfl 0 (by decide) fl_X5_blank_10 rfl rfl dX5_blank_1 ?_
  refine jw_callWV (pc := 4) C [] [] 0 (con_X2_wipe lau D cI cB pg pq pn ) gX5_blank_X2_wipe rfl rfl rfl (by decide +kernel) ⟨Nat.le_of_ble_eq_true rfl, Nat.le_of_ble_eq_true rfl⟩ 1 rfl rfl [1] [0] [0, 1] (wr := [oG g pg ki ((nh : Nat) : Int) rd a kp ik no su]) rfl rfl (by decide) (by decide) (fun _ => rfl) (wN := fun u_4_1 => [oG g pg ki ((nh : Nat) : Int) rd a kp ik no su, oP pg pq ((0 : Nat) : Int)]) (fun _ => rfl) (stN := fun u_4_1 => [.int (jI ((pn : Nat) : Int))]) (fun _ => rfl) rfl (Nat.le_of_ble_eq_true rfl) rfl dX5_blank_4 (fun u_4_1 hu_4_1 => ?_)
  exact jw_iretW (pc := 7) C E dX5_blank_7 (()) rfl trivial rfl
theorem fl_X5_fault_10 : Cond.fieldLink RX5 10 "GongTide" "page" "LGongTide$Page;" ∈ wsX5_fault := by decide +kernel
theorem hi_X5_fault_X5 : ∀ w ∈ wsX50, w ∈ wsX5_fault := fun w h => List.mem_cons_of_mem _ (List.mem_append_left _ (List.mem_append_right _ h))
def rmX5_fault : Room := { frames := 4, cells := 0, slots := 0, locals := 88 }
set_option maxHeartbeats 4000000 in
set_option maxRecDepth 100000 in
theorem con_X5_fault (lau : Launch) (D : va_G) (cI cB : ClassId) (g : Nat) (pg : Nat) (ki : Nat) (nh : Nat) (rd : Int) (a : Nat) (kp : Nat) (ik : Int) (no : Nat) (su : Nat) (pq : Nat) (pn : Nat) (P : Nat → Int) (hpn : pn ≤ 25) (hP : ∀ k, k < pn → 32 ≤ P k ∧ P k ≤ 126) : jMR lau yX5_fault wsX5_fault rmX5_fault D cI cB [.ref g] [oG g pg ki ((nh : Nat) : Int) rd a kp ik no su, oP pg pq ((pn : Nat) : Int), aI cI pq 25 P] (.int (jI ((sp_fault P pn : Nat) : Int))) := by
  refine jMR.of (own := RX5) (cc := cX5_fault) (maxL := 1) (ret := (some .int)) rfl (by decide) rfl (Nat.le_of_ble_eq_true rfl) ?_
  intro X C E
  refine jw_lv (lv' := [(0, .ref g)]) [0] rfl ?_
  refine jw_aload_n (pc := 0) C dX5_fault_0 0 rfl ?_
  refine jw_get (pc := 1) C hi_X5_fault_X5 0 rfl rfl 0 (by decide) fl_X5_fault_10 rfl rfl dX5_fault_1 ?_
  refine jw_callRV (pc := 4) C [] [] 0 (con_X2_soundLetters lau D cI cB pg pq pn P (by omega) hP) gX5_fault_X2_soundLetters rfl rfl rfl (by decide +kernel) ⟨Nat.le_of_ble_eq_true rfl, Nat.le_of_ble_eq_true rfl⟩ 1 rfl rfl [1, 2] rfl rfl (Nat.le_of_ble_eq_true rfl) rfl dX5_fault_4 ?_
  have b_4_0 := sp_fault_le P pn
  exact jw_iretR (pc := 7) C E dX5_fault_7 rfl
theorem fl_X5_colony_10 : Cond.fieldLink RX5 10 "GongTide" "page" "LGongTide$Page;" ∈ wsX5_colony := by decide +kernel
theorem fl_X5_colony_16 : Cond.fieldLink RX5 16 "GongTide" "kinds" "[I" ∈ wsX5_colony := by decide +kernel
theorem fl_X5_colony_23 : Cond.fieldLink RX5 23 "GongTide" "affairs" "LGongTide$Affairs;" ∈ wsX5_colony := by decide +kernel
theorem fl_X5_colony_65 : Cond.fieldLink RX5 65 "GongTide" "houseCount" "I" ∈ wsX5_colony := by decide +kernel
theorem fl_X5_colony_86 : Cond.fieldLink RX5 86 "GongTide$Affairs" "strokes" "LGongTide$Strokes;" ∈ wsX5_colony := by decide +kernel
theorem fl_X5_colony_96 : Cond.fieldLink RX5 96 "GongTide" "isKept" "Z" ∈ wsX5_colony := by decide +kernel
theorem fl_X5_colony_100 : Cond.fieldLink RX5 100 "GongTide" "readings" "I" ∈ wsX5_colony := by decide +kernel
theorem hi_X5_colony_X0 : ∀ w ∈ wsX00, w ∈ wsX5_colony := fun w h => List.mem_cons_of_mem _ (List.mem_append_left _ (List.mem_append_left _ (List.mem_append_left _ (List.mem_append_right _ h))))
theorem hi_X5_colony_X5 : ∀ w ∈ wsX50, w ∈ wsX5_colony := fun w h => List.mem_cons_of_mem _ (List.mem_append_left _ (List.mem_append_left _ (List.mem_append_left _ (List.mem_append_left _ (List.mem_append_right _ h)))))
def rmX5_colony : Room := { frames := 5, cells := 0, slots := 0, locals := 110 }
set_option maxHeartbeats 4000000 in
set_option maxRecDepth 100000 in
theorem con_X5_colony (lau : Launch) (D : va_G) (cI cB : ClassId) (g : Nat) (pg : Nat) (ki : Nat) (nh : Nat) (rd : Int) (a : Nat) (kp : Nat) (ik : Int) (no : Nat) (su : Nat) (pq : Nat) (pn : Nat) (P : Nat → Int) (K : Nat → Int) (le : Nat) (s : Nat) (h : Nat) (ch : Int) (V : Nat → Int) (hr : Nat) (lo : Nat) (n : Nat) (SH : Nat → Int) (SL : Nat → Int) (hh : Nat) (hq : Nat) (hl : Nat) (hw : Nat) (m : Nat) (hpn : pn ≤ 25) (hP : ∀ k, k < pn → 32 ≤ P k ∧ P k ≤ 126) (hwh : sp_whole P pn = true) : jMW (S := Unit) lau yX5_colony wsX5_colony rmX5_colony D cI cB [.ref g] [oG g pg ki ((nh : Nat) : Int) rd a kp ik no su, oP pg pq ((pn : Nat) : Int), aI cI pq 25 P, aI cI ki 5 K, oA a le s h ch, aI cI le 5 V, oS s hr lo ((n : Nat) : Int), aI cI hr 6 SH, aI cI lo 6 SL, oH h hh hq hl hw ((m : Nat) : Int)] (fun u => some (.int (jI ((sp_hn P pn : Nat) : Int)))) (fun u => True) (fun u => [oG g pg ki ((sp_hn P pn : Nat) : Int) (rd + 1) a kp 0 no su, oP pg pq ((0 : Nat) : Int), aI cI pq 25 P, aI cI ki 5 (sp_nk K P (sp_hn P pn)), oA a le s h 0, aI cI le 5 (sp_nv V P (sp_hn P pn)), oS s hr lo ((sp_sn P pn : Nat) : Int), aI cI hr 6 (sp_nsh SH P (sp_hn P pn) (sp_sn P pn)), aI cI lo 6 (sp_nsl SL P (sp_hn P pn) (sp_sn P pn)), oH h hh hq hl hw ((0 : Nat) : Int)]) := by
  refine jMW.of (own := RX5) (cc := cX5_colony) (maxL := 3) (ret := (some .int)) rfl (by decide) rfl (Nat.le_of_ble_eq_true rfl) ?_
  intro X C E
  refine jw_lv (lv' := [(0, .ref g)]) [0] rfl ?_
  obtain ⟨w1, w2, w3, w4, w5, w6, w7, w8⟩ := sp_whole_facts hpn hwh
  refine jw_aload_n (pc := 0) C dX5_colony_0 0 rfl ?_
  refine jw_get (pc := 1) C hi_X5_colony_X5 0 rfl rfl 0 (by decide) fl_X5_colony_10 rfl rfl dX5_colony_1 ?_
  refine jw_callRV (pc := 4) C [] [] 0 (con_X2_tellsColony lau D cI cB pg pq pn P (by omega) hP) gX5_colony_X2_tellsColony rfl rfl rfl (by decide +kernel) ⟨Nat.le_of_ble_eq_true rfl, Nat.le_of_ble_eq_true rfl⟩ 1 rfl rfl [1, 2] rfl rfl (Nat.le_of_ble_eq_true rfl) rfl dX5_colony_4 ?_
  refine jw_ifb_ne (pc := 7) (tgt := 13) C dX5_colony_7 (by decide) (fun c_7 => ?_) (fun c_7 => ?_)
  · -- 7 t
    refine jw_aload_n (pc := 13) C dX5_colony_13 0 rfl ?_
    refine jw_aload_n (pc := 14) C dX5_colony_14 0 rfl ?_
    refine jw_get (pc := 15) C hi_X5_colony_X5 0 rfl rfl 0 (by decide) fl_X5_colony_10 rfl rfl dX5_colony_15 ?_
    refine jw_callRV (pc := 18) C [] [.ref g] 0 (con_X2_houses lau D cI cB pg pq pn P (by omega) hP) gX5_colony_X2_houses rfl rfl rfl (by decide +kernel) ⟨Nat.le_of_ble_eq_true rfl, Nat.le_of_ble_eq_true rfl⟩ 1 rfl rfl [1, 2] rfl rfl (Nat.le_of_ble_eq_true rfl) rfl dX5_colony_18 ?_
    have b_18_0 := sp_hs_b P pn
    refine jw_top (y := jI ((sp_hn P pn : Nat) : Int)) (congrArg jI w1) ?_
    refine jw_put (pc := 21) (ty := .int) (ws' := [oG g pg ki ((sp_hn P pn : Nat) : Int) rd a kp ik no su, oP pg pq ((pn : Nat) : Int), aI cI pq 25 P, aI cI ki 5 K, oA a le s h ch, aI cI le 5 V, oS s hr lo ((n : Nat) : Int), aI cI hr 6 SH, aI cI lo 6 SL, oH h hh hq hl hw ((m : Nat) : Int)]) C hi_X5_colony_X5 tyX5 tyX5_ok nmX5 0 rfl rfl 2 (by decide) fl_X5_colony_65 rfl rfl (by decide +kernel) rfl rfl (Nat.le_of_ble_eq_true rfl) rfl dX5_colony_21 ?_
    refine jw_aload_n (pc := 24) C dX5_colony_24 0 rfl ?_
    refine jw_get (pc := 25) C hi_X5_colony_X5 0 rfl rfl 4 (by decide) fl_X5_colony_23 rfl rfl dX5_colony_25 ?_
    refine jw_callWV (pc := 28) C [] [] 0 (con_X0_clear lau D cI cB a le s h ch hr lo n hh hq hl hw m ) gX5_colony_X0_clear rfl rfl rfl (by decide +kernel) ⟨Nat.le_of_ble_eq_true rfl, Nat.le_of_ble_eq_true rfl⟩ 4 rfl rfl [4, 6, 9] [0, 1, 2, 3, 5, 7, 8] [0, 1, 2, 3, 7, 4, 8, 5, 6, 9] (wr := [oG g pg ki ((sp_hn P pn : Nat) : Int) rd a kp ik no su, oP pg pq ((pn : Nat) : Int), aI cI pq 25 P, aI cI ki 5 K, aI cI le 5 V, aI cI hr 6 SH, aI cI lo 6 SL]) rfl rfl (by decide) (by decide) (fun _ => rfl) (wN := fun u_28_1 => [oG g pg ki ((sp_hn P pn : Nat) : Int) rd a kp ik no su, oP pg pq ((pn : Nat) : Int), aI cI pq 25 P, aI cI ki 5 K, oA a le s h 0, aI cI le 5 V, oS s hr lo ((0 : Nat) : Int), aI cI hr 6 SH, aI cI lo 6 SL, oH h hh hq hl hw ((0 : Nat) : Int)]) (fun _ => rfl) (stN := fun u_28_1 => []) (fun _ => rfl) rfl (Nat.le_of_ble_eq_true rfl) rfl dX5_colony_28 (fun u_28_1 hu_28_1 => ?_)
    refine jw_arr (f := K) (g := sp_nk K P 0) (ws' := [oG g pg ki ((sp_hn P pn : Nat) : Int) rd a kp ik no su, oP pg pq ((pn : Nat) : Int), aI cI pq 25 P, aI cI ki 5 (sp_nk K P 0), oA a le s h 0, aI cI le 5 V, oS s hr lo ((0 : Nat) : Int), aI cI hr 6 SH, aI cI lo 6 SL, oH h hh hq hl hw ((0 : Nat) : Int)]) 3 rfl (by exact fun j _ => sp_fill0 (S := K) (g := fun j => sp_kind (P (3 * j))) j) rfl ?_
    refine jw_arr (f := V) (g := sp_nv V P 0) (ws' := [oG g pg ki ((sp_hn P pn : Nat) : Int) rd a kp ik no su, oP pg pq ((pn : Nat) : Int), aI cI pq 25 P, aI cI ki 5 (sp_nk K P 0), oA a le s h 0, aI cI le 5 (sp_nv V P 0), oS s hr lo ((0 : Nat) : Int), aI cI hr 6 SH, aI cI lo 6 SL, oH h hh hq hl hw ((0 : Nat) : Int)]) 5 rfl (by exact fun j _ => sp_fill0 (S := V) (g := fun j => P (3 * j + 1) - 48) j) rfl ?_
    refine jw_arr (f := SH) (g := sp_nsh SH P (sp_hn P pn) 0) (ws' := [oG g pg ki ((sp_hn P pn : Nat) : Int) rd a kp ik no su, oP pg pq ((pn : Nat) : Int), aI cI pq 25 P, aI cI ki 5 (sp_nk K P 0), oA a le s h 0, aI cI le 5 (sp_nv V P 0), oS s hr lo ((0 : Nat) : Int), aI cI hr 6 (sp_nsh SH P (sp_hn P pn) 0), aI cI lo 6 SL, oH h hh hq hl hw ((0 : Nat) : Int)]) 7 rfl (by exact fun j _ => sp_fill0 (S := SH) (g := fun j => P (3 * (sp_hn P pn) + 2 * j) - 48) j) rfl ?_
    refine jw_arr (f := SL) (g := sp_nsl SL P (sp_hn P pn) 0) (ws' := [oG g pg ki ((sp_hn P pn : Nat) : Int) rd a kp ik no su, oP pg pq ((pn : Nat) : Int), aI cI pq 25 P, aI cI ki 5 (sp_nk K P 0), oA a le s h 0, aI cI le 5 (sp_nv V P 0), oS s hr lo ((0 : Nat) : Int), aI cI hr 6 (sp_nsh SH P (sp_hn P pn) 0), aI cI lo 6 (sp_nsl SL P (sp_hn P pn) 0), oH h hh hq hl hw ((0 : Nat) : Int)]) 8 rfl (by exact fun j _ => sp_fill0 (S := SL) (g := fun j => P (3 * (sp_hn P pn) + 2 * j + 1) - 48) j) rfl ?_
    refine jw_iconst (pc := 31) C dX5_colony_31 ?_
    refine jw_istore_n (pc := 32) (lv' := [(1, .int (jI 0)), (0, .ref g)]) C dX5_colony_32 (by decide) rfl ?_
    have lp_33_2 : ∀ (fu : Nat) (x : Nat), (x ≤ sp_hn P pn) → sp_hn P pn - x < fu → jW X 33 [(0, .ref g), (1, .int (jI ((x : Nat) : Int)))] [] [oG g pg ki ((sp_hn P pn : Nat) : Int) rd a kp ik no su, oP pg pq ((pn : Nat) : Int), aI cI pq 25 P, aI cI ki 5 (sp_nk K P x), oA a le s h 0, aI cI le 5 (sp_nv V P x), oS s hr lo ((0 : Nat) : Int), aI cI hr 6 (sp_nsh SH P (sp_hn P pn) 0), aI cI lo 6 (sp_nsl SL P (sp_hn P pn) 0), oH h hh hq hl hw ((0 : Nat) : Int)] := by
      intro fu
      induction fu with
      | zero => intro x hx hm; exact absurd hm (Nat.not_lt_zero _)
      | succ fu ih_3 =>
        intro x hx hm
        refine jw_iload_n (pc := 33) C dX5_colony_33 1 rfl ?_
        refine jw_aload_n (pc := 34) C dX5_colony_34 0 rfl ?_
        refine jw_get (pc := 35) C hi_X5_colony_X5 0 rfl rfl 2 (by decide) fl_X5_colony_65 rfl rfl dX5_colony_35 ?_
        refine jw_icmp_ge (pc := 38) (tgt := 91) C dX5_colony_38 (by decide) (by omega) (by omega) (fun c_38 => ?_) (fun c_38 => ?_)
        · -- 38 t
          refine jw_arr (f := sp_nk K P x) (g := sp_nk K P (sp_hn P pn)) (ws' := [oG g pg ki ((sp_hn P pn : Nat) : Int) rd a kp ik no su, oP pg pq ((pn : Nat) : Int), aI cI pq 25 P, aI cI ki 5 (sp_nk K P (sp_hn P pn)), oA a le s h 0, aI cI le 5 (sp_nv V P x), oS s hr lo ((0 : Nat) : Int), aI cI hr 6 (sp_nsh SH P (sp_hn P pn) 0), aI cI lo 6 (sp_nsl SL P (sp_hn P pn) 0), oH h hh hq hl hw ((0 : Nat) : Int)]) 3 rfl (by rw [show x = sp_hn P pn by omega]; exact fun j _ => rfl) rfl ?_
          refine jw_arr (f := sp_nv V P x) (g := sp_nv V P (sp_hn P pn)) (ws' := [oG g pg ki ((sp_hn P pn : Nat) : Int) rd a kp ik no su, oP pg pq ((pn : Nat) : Int), aI cI pq 25 P, aI cI ki 5 (sp_nk K P (sp_hn P pn)), oA a le s h 0, aI cI le 5 (sp_nv V P (sp_hn P pn)), oS s hr lo ((0 : Nat) : Int), aI cI hr 6 (sp_nsh SH P (sp_hn P pn) 0), aI cI lo 6 (sp_nsl SL P (sp_hn P pn) 0), oH h hh hq hl hw ((0 : Nat) : Int)]) 5 rfl (by rw [show x = sp_hn P pn by omega]; exact fun j _ => rfl) rfl ?_
          refine jw_iconst (pc := 91) C dX5_colony_91 ?_
          refine jw_aload_n (pc := 92) C dX5_colony_92 0 rfl ?_
          refine jw_get (pc := 93) C hi_X5_colony_X5 0 rfl rfl 2 (by decide) fl_X5_colony_65 rfl rfl dX5_colony_93 ?_
          refine jw_imul (pc := 96) (z := ((3 * (sp_hn P pn) : Nat) : Int)) C dX5_colony_96 (by omega) ?_
          refine jw_istore_n (pc := 97) (lv' := [(1, .int (jI ((3 * (sp_hn P pn) : Nat) : Int))), (0, .ref g)]) C dX5_colony_97 (by decide) rfl ?_
          refine jw_iload_n (pc := 98) C dX5_colony_98 0 rfl ?_
          refine jw_istore_n (pc := 99) (lv' := [(2, .int (jI ((3 * (sp_hn P pn) : Nat) : Int))), (1, .int (jI ((3 * (sp_hn P pn) : Nat) : Int))), (0, .ref g)]) C dX5_colony_99 (by decide) rfl ?_
          have lp_100_4 : ∀ (fu : Nat) (p : Nat) (y : Nat), (p = 3 * (sp_hn P pn) + 2 * y) → (y ≤ sp_sn P pn) → pn - p < fu → jW X 100 [(0, .ref g), (2, .int (jI ((p : Nat) : Int)))] [] [oG g pg ki ((sp_hn P pn : Nat) : Int) rd a kp ik no su, oP pg pq ((pn : Nat) : Int), aI cI pq 25 P, aI cI ki 5 (sp_nk K P (sp_hn P pn)), oA a le s h 0, aI cI le 5 (sp_nv V P (sp_hn P pn)), oS s hr lo ((y : Nat) : Int), aI cI hr 6 (sp_nsh SH P (sp_hn P pn) y), aI cI lo 6 (sp_nsl SL P (sp_hn P pn) y), oH h hh hq hl hw ((0 : Nat) : Int)] := by
            intro fu
            induction fu with
            | zero => intro p y hp hy hm; exact absurd hm (Nat.not_lt_zero _)
            | succ fu ih_5 =>
              intro p y hp hy hm
              refine jw_iload_n (pc := 100) C dX5_colony_100 1 rfl ?_
              refine jw_iconst (pc := 101) C dX5_colony_101 ?_
              refine jw_iadd (pc := 102) (z := ((p + 1 : Nat) : Int)) C dX5_colony_102 (by omega) ?_
              refine jw_aload_n (pc := 103) C dX5_colony_103 0 rfl ?_
              refine jw_get (pc := 104) C hi_X5_colony_X5 0 rfl rfl 0 (by decide) fl_X5_colony_10 rfl rfl dX5_colony_104 ?_
              refine jw_callRV (pc := 107) C [] [.int (jI ((p + 1 : Nat) : Int))] 0 (con_X2_size lau D cI cB pg pq pn ) gX5_colony_X2_size rfl rfl rfl (by decide +kernel) ⟨Nat.le_of_ble_eq_true rfl, Nat.le_of_ble_eq_true rfl⟩ 1 rfl rfl [1] rfl rfl (Nat.le_of_ble_eq_true rfl) rfl dX5_colony_107 ?_
              refine jw_icmp_ge (pc := 110) (tgt := 148) C dX5_colony_110 (by decide) (by omega) (by omega) (fun c_110 => ?_) (fun c_110 => ?_)
              · -- 110 t
                rw [show y = sp_sn P pn by omega]
                refine jw_aload_n (pc := 148) C dX5_colony_148 0 rfl ?_
                refine jw_iconst (pc := 149) C dX5_colony_149 ?_
                refine jw_put (pc := 150) (ty := .boolean) (ws' := [oG g pg ki ((sp_hn P pn : Nat) : Int) rd a kp 0 no su, oP pg pq ((pn : Nat) : Int), aI cI pq 25 P, aI cI ki 5 (sp_nk K P (sp_hn P pn)), oA a le s h 0, aI cI le 5 (sp_nv V P (sp_hn P pn)), oS s hr lo (((sp_sn P pn) : Nat) : Int), aI cI hr 6 (sp_nsh SH P (sp_hn P pn) (sp_sn P pn)), aI cI lo 6 (sp_nsl SL P (sp_hn P pn) (sp_sn P pn)), oH h hh hq hl hw ((0 : Nat) : Int)]) C hi_X5_colony_X5 tyX5 tyX5_ok nmX5 0 rfl rfl 6 (by decide) fl_X5_colony_96 rfl rfl (by decide +kernel) rfl rfl (Nat.le_of_ble_eq_true rfl) rfl dX5_colony_150 ?_
                refine jw_aload_n (pc := 153) C dX5_colony_153 0 rfl ?_
                refine jw_dup (pc := 154) C dX5_colony_154 rfl ?_
                refine jw_get (pc := 155) C hi_X5_colony_X5 0 rfl rfl 3 (by decide) fl_X5_colony_100 rfl rfl dX5_colony_155 ?_
                refine jw_iconst (pc := 158) C dX5_colony_158 ?_
                refine jw_iadd (pc := 159) (z := (rd + 1)) C dX5_colony_159 rfl ?_
                refine jw_put (pc := 160) (ty := .int) (ws' := [oG g pg ki ((sp_hn P pn : Nat) : Int) (rd + 1) a kp 0 no su, oP pg pq ((pn : Nat) : Int), aI cI pq 25 P, aI cI ki 5 (sp_nk K P (sp_hn P pn)), oA a le s h 0, aI cI le 5 (sp_nv V P (sp_hn P pn)), oS s hr lo (((sp_sn P pn) : Nat) : Int), aI cI hr 6 (sp_nsh SH P (sp_hn P pn) (sp_sn P pn)), aI cI lo 6 (sp_nsl SL P (sp_hn P pn) (sp_sn P pn)), oH h hh hq hl hw ((0 : Nat) : Int)]) C hi_X5_colony_X5 tyX5 tyX5_ok nmX5 0 rfl rfl 3 (by decide) fl_X5_colony_100 rfl rfl (by decide +kernel) rfl rfl (Nat.le_of_ble_eq_true rfl) rfl dX5_colony_160 ?_
                refine jw_aload_n (pc := 163) C dX5_colony_163 0 rfl ?_
                refine jw_get (pc := 164) C hi_X5_colony_X5 0 rfl rfl 0 (by decide) fl_X5_colony_10 rfl rfl dX5_colony_164 ?_
                refine jw_callWV (pc := 167) C [] [] 0 (con_X2_wipe lau D cI cB pg pq pn ) gX5_colony_X2_wipe rfl rfl rfl (by decide +kernel) ⟨Nat.le_of_ble_eq_true rfl, Nat.le_of_ble_eq_true rfl⟩ 1 rfl rfl [1] [0, 2, 3, 4, 5, 6, 7, 8, 9] [0, 9, 1, 2, 3, 4, 5, 6, 7, 8] (wr := [oG g pg ki ((sp_hn P pn : Nat) : Int) (rd + 1) a kp 0 no su, aI cI pq 25 P, aI cI ki 5 (sp_nk K P (sp_hn P pn)), oA a le s h 0, aI cI le 5 (sp_nv V P (sp_hn P pn)), oS s hr lo (((sp_sn P pn) : Nat) : Int), aI cI hr 6 (sp_nsh SH P (sp_hn P pn) (sp_sn P pn)), aI cI lo 6 (sp_nsl SL P (sp_hn P pn) (sp_sn P pn)), oH h hh hq hl hw ((0 : Nat) : Int)]) rfl rfl (by decide) (by decide) (fun _ => rfl) (wN := fun u_167_6 => [oG g pg ki ((sp_hn P pn : Nat) : Int) (rd + 1) a kp 0 no su, oP pg pq ((0 : Nat) : Int), aI cI pq 25 P, aI cI ki 5 (sp_nk K P (sp_hn P pn)), oA a le s h 0, aI cI le 5 (sp_nv V P (sp_hn P pn)), oS s hr lo (((sp_sn P pn) : Nat) : Int), aI cI hr 6 (sp_nsh SH P (sp_hn P pn) (sp_sn P pn)), aI cI lo 6 (sp_nsl SL P (sp_hn P pn) (sp_sn P pn)), oH h hh hq hl hw ((0 : Nat) : Int)]) (fun _ => rfl) (stN := fun u_167_6 => [.int (jI ((pn : Nat) : Int))]) (fun _ => rfl) rfl (Nat.le_of_ble_eq_true rfl) rfl dX5_colony_167 (fun u_167_6 hu_167_6 => ?_)
                refine jw_pop (pc := 170) C dX5_colony_170 rfl ?_
                refine jw_aload_n (pc := 171) C dX5_colony_171 0 rfl ?_
                refine jw_get (pc := 172) C hi_X5_colony_X5 0 rfl rfl 2 (by decide) fl_X5_colony_65 rfl rfl dX5_colony_172 ?_
                exact jw_iretW (pc := 175) C E dX5_colony_175 (()) rfl trivial rfl
              · -- 110 f
                refine jw_aload_n (pc := 113) C dX5_colony_113 0 rfl ?_
                refine jw_get (pc := 114) C hi_X5_colony_X5 0 rfl rfl 4 (by decide) fl_X5_colony_23 rfl rfl dX5_colony_114 ?_
                refine jw_get (pc := 117) C hi_X5_colony_X0 4 rfl rfl 1 (by decide) fl_X5_colony_86 rfl rfl dX5_colony_117 ?_
                refine jw_aload_n (pc := 120) C dX5_colony_120 0 rfl ?_
                refine jw_get (pc := 121) C hi_X5_colony_X5 0 rfl rfl 0 (by decide) fl_X5_colony_10 rfl rfl dX5_colony_121 ?_
                refine jw_iload_n (pc := 124) C dX5_colony_124 1 rfl ?_
                refine jw_callRV (pc := 125) C [.int (jI ((((p : Nat) : Int))))] [.ref s] 1 (con_X2_digitAt lau D cI cB pg pq pn P (((p : Nat) : Int)) (by omega) (by omega) hP) gX5_colony_X2_digitAt rfl rfl rfl (by decide +kernel) ⟨Nat.le_of_ble_eq_true rfl, Nat.le_of_ble_eq_true rfl⟩ 1 rfl rfl [1, 2] rfl rfl (Nat.le_of_ble_eq_true rfl) rfl dX5_colony_125 ?_
                have b_125_0 := sp_pa_b hP (((p : Nat) : Int))
                refine jw_top (y := jI (P p - 48)) (congrArg jI (by rw [sp_pa_nat P (by omega)])) ?_
                refine jw_aload_n (pc := 128) C dX5_colony_128 0 rfl ?_
                refine jw_get (pc := 129) C hi_X5_colony_X5 0 rfl rfl 0 (by decide) fl_X5_colony_10 rfl rfl dX5_colony_129 ?_
                refine jw_iload_n (pc := 132) C dX5_colony_132 1 rfl ?_
                refine jw_iconst (pc := 133) C dX5_colony_133 ?_
                refine jw_iadd (pc := 134) (z := ((p + 1 : Nat) : Int)) C dX5_colony_134 (by omega) ?_
                refine jw_callRV (pc := 135) C [.int (jI ((((p + 1 : Nat) : Int))))] [.int (jI (P p - 48)), .ref s] 1 (con_X2_digitAt lau D cI cB pg pq pn P (((p + 1 : Nat) : Int)) (by omega) (by omega) hP) gX5_colony_X2_digitAt rfl rfl rfl (by decide +kernel) ⟨Nat.le_of_ble_eq_true rfl, Nat.le_of_ble_eq_true rfl⟩ 1 rfl rfl [1, 2] rfl rfl (Nat.le_of_ble_eq_true rfl) rfl dX5_colony_135 ?_
                have b_135_0 := sp_pa_b hP (((p + 1 : Nat) : Int))
                refine jw_top (y := jI (P (p + 1) - 48)) (congrArg jI (by rw [sp_pa_nat P (by omega)])) ?_
                refine jw_callWV (pc := 138) C [.int (jI (((P p - 48)))), .int (jI (((P (p + 1) - 48))))] [] 2 (con_X3_add lau D cI cB s hr lo y (sp_nsh SH P (sp_hn P pn) y) (sp_nsl SL P (sp_hn P pn) y) ((P p - 48)) ((P (p + 1) - 48)) (by omega)) gX5_colony_X3_add rfl rfl rfl (by decide +kernel) ⟨Nat.le_of_ble_eq_true rfl, Nat.le_of_ble_eq_true rfl⟩ 6 rfl rfl [6, 7, 8] [0, 1, 2, 3, 4, 5, 9] [0, 1, 2, 3, 4, 5, 7, 8, 9, 6] (wr := [oG g pg ki ((sp_hn P pn : Nat) : Int) rd a kp ik no su, oP pg pq ((pn : Nat) : Int), aI cI pq 25 P, aI cI ki 5 (sp_nk K P (sp_hn P pn)), oA a le s h 0, aI cI le 5 (sp_nv V P (sp_hn P pn)), oH h hh hq hl hw ((0 : Nat) : Int)]) rfl rfl (by decide) (by decide) (fun _ => rfl) (wN := fun u_138_7 => [oG g pg ki ((sp_hn P pn : Nat) : Int) rd a kp ik no su, oP pg pq ((pn : Nat) : Int), aI cI pq 25 P, aI cI ki 5 (sp_nk K P (sp_hn P pn)), oA a le s h 0, aI cI le 5 (sp_nv V P (sp_hn P pn)), oS s hr lo ((y + 1 : Nat) : Int), aI cI hr 6 (va_up (sp_nsh SH P (sp_hn P pn) y) y ((P p - 48))), aI cI lo 6 (va_up (sp_nsl SL P (sp_hn P pn) y) y ((P (p + 1) - 48))), oH h hh hq hl hw ((0 : Nat) : Int)]) (fun _ => rfl) (stN := fun u_138_7 => [.int (jI 1)]) (fun _ => rfl) rfl (Nat.le_of_ble_eq_true rfl) rfl dX5_colony_138 (fun u_138_7 hu_138_7 => ?_)
                refine jw_pop (pc := 141) C dX5_colony_141 rfl ?_
                refine jw_arr (f := va_up (sp_nsh SH P (sp_hn P pn) y) y ((P p - 48))) (g := sp_nsh SH P (sp_hn P pn) (y + 1)) (ws' := [oG g pg ki ((sp_hn P pn : Nat) : Int) rd a kp ik no su, oP pg pq ((pn : Nat) : Int), aI cI pq 25 P, aI cI ki 5 (sp_nk K P (sp_hn P pn)), oA a le s h 0, aI cI le 5 (sp_nv V P (sp_hn P pn)), oS s hr lo ((y + 1 : Nat) : Int), aI cI hr 6 (sp_nsh SH P (sp_hn P pn) (y + 1)), aI cI lo 6 (va_up (sp_nsl SL P (sp_hn P pn) y) y ((P (p + 1) - 48))), oH h hh hq hl hw ((0 : Nat) : Int)]) 7 rfl (by rw [hp]; exact fun j _ => sp_fill (S := SH) (g := fun j => P (3 * (sp_hn P pn) + 2 * j) - 48) rfl j) rfl ?_
                refine jw_arr (f := va_up (sp_nsl SL P (sp_hn P pn) y) y ((P (p + 1) - 48))) (g := sp_nsl SL P (sp_hn P pn) (y + 1)) (ws' := [oG g pg ki ((sp_hn P pn : Nat) : Int) rd a kp ik no su, oP pg pq ((pn : Nat) : Int), aI cI pq 25 P, aI cI ki 5 (sp_nk K P (sp_hn P pn)), oA a le s h 0, aI cI le 5 (sp_nv V P (sp_hn P pn)), oS s hr lo ((y + 1 : Nat) : Int), aI cI hr 6 (sp_nsh SH P (sp_hn P pn) (y + 1)), aI cI lo 6 (sp_nsl SL P (sp_hn P pn) (y + 1)), oH h hh hq hl hw ((0 : Nat) : Int)]) 8 rfl (by rw [hp]; exact fun j _ => sp_fill (S := SL) (g := fun j => P (3 * (sp_hn P pn) + 2 * j + 1) - 48) rfl j) rfl ?_
                refine jw_iinc (pc := 142) (z := ((p + 2 : Nat) : Int)) (lv' := [(2, .int (jI ((p + 2 : Nat) : Int))), (0, .ref g)]) C dX5_colony_142 1 rfl (by omega) (by decide) rfl ?_
                refine jw_goto (pc := 145) (tgt := 100) C dX5_colony_145 (by decide) ?_
                refine jw_lv [1, 0] rfl ?_
                exact ih_5 (p + 2) (y + 1) (by omega) (by omega) (by omega)
          refine jw_lv [2, 0] rfl ?_
          exact lp_100_4 ((pn - (3 * (sp_hn P pn))) + 1) (3 * (sp_hn P pn)) 0 (by omega) (by omega) (Nat.lt_succ_self _)
        · -- 38 f
          refine jw_iload_n (pc := 41) C dX5_colony_41 1 rfl ?_
          refine jw_iconst (pc := 42) C dX5_colony_42 ?_
          refine jw_icmp_ge (pc := 43) (tgt := 91) C dX5_colony_43 (by decide) (by omega) (by omega) (fun c_43 => ?_) (fun c_43 => ?_)
          · exfalso; omega
          · -- 43 f
            refine jw_aload_n (pc := 46) C dX5_colony_46 0 rfl ?_
            refine jw_get (pc := 47) C hi_X5_colony_X5 0 rfl rfl 1 (by decide) fl_X5_colony_16 rfl rfl dX5_colony_47 ?_
            refine jw_iload_n (pc := 50) C dX5_colony_50 1 rfl ?_
            refine jw_aload_n (pc := 51) C dX5_colony_51 0 rfl ?_
            refine jw_get (pc := 52) C hi_X5_colony_X5 0 rfl rfl 0 (by decide) fl_X5_colony_10 rfl rfl dX5_colony_52 ?_
            refine jw_iconst (pc := 55) C dX5_colony_55 ?_
            refine jw_iload_n (pc := 56) C dX5_colony_56 1 rfl ?_
            refine jw_imul (pc := 57) (z := ((3 * x : Nat) : Int)) C dX5_colony_57 (by omega) ?_
            refine jw_callRV (pc := 58) C [.int (jI ((((3 * x : Nat) : Int))))] [.int (jI ((x : Nat) : Int)), .ref ki] 1 (con_X2_at lau D cI cB pg pq pn P (((3 * x : Nat) : Int)) (by omega) (by omega) hP) gX5_colony_X2_at rfl rfl rfl (by decide +kernel) ⟨Nat.le_of_ble_eq_true rfl, Nat.le_of_ble_eq_true rfl⟩ 1 rfl rfl [1, 2] rfl rfl (Nat.le_of_ble_eq_true rfl) rfl dX5_colony_58 ?_
            have b_58_0 := sp_pa_b hP (((3 * x : Nat) : Int))
            refine jw_top (y := jI (P (3 * x))) (congrArg jI (sp_pa_nat P (by omega))) ?_
            rw [sp_pa_nat P (by omega)] at b_58_0
            refine jw_callRS (pc := 61) C [.int (jI (((P (3 * x)))))] [.int (jI ((x : Nat) : Int)), .ref ki] 1 (con_X5_kindOf lau D cI cB ((P (3 * x))) (by omega)) gX5_colony_X5_kindOf rfl rfl rfl (by decide +kernel) ⟨Nat.le_of_ble_eq_true rfl, Nat.le_of_ble_eq_true rfl⟩ [] rfl rfl (Nat.le_of_ble_eq_true rfl) rfl dX5_colony_61 ?_
            have b_61_0 := sp_kind_b ((P (3 * x)))
            refine jw_iast (pc := 64) C (f := sp_nk K P x) 3 x rfl rfl (by omega) (by decide) (ws' := [oG g pg ki ((sp_hn P pn : Nat) : Int) rd a kp ik no su, oP pg pq ((pn : Nat) : Int), aI cI pq 25 P, aI cI ki 5 (va_up (sp_nk K P x) x (sp_kind ((P (3 * x))))), oA a le s h 0, aI cI le 5 (sp_nv V P x), oS s hr lo ((0 : Nat) : Int), aI cI hr 6 (sp_nsh SH P (sp_hn P pn) 0), aI cI lo 6 (sp_nsl SL P (sp_hn P pn) 0), oH h hh hq hl hw ((0 : Nat) : Int)]) rfl dX5_colony_64 ?_
            refine jw_aload_n (pc := 65) C dX5_colony_65 0 rfl ?_
            refine jw_get (pc := 66) C hi_X5_colony_X5 0 rfl rfl 4 (by decide) fl_X5_colony_23 rfl rfl dX5_colony_66 ?_
            refine jw_iload_n (pc := 69) C dX5_colony_69 1 rfl ?_
            refine jw_aload_n (pc := 70) C dX5_colony_70 0 rfl ?_
            refine jw_get (pc := 71) C hi_X5_colony_X5 0 rfl rfl 0 (by decide) fl_X5_colony_10 rfl rfl dX5_colony_71 ?_
            refine jw_iconst (pc := 74) C dX5_colony_74 ?_
            refine jw_iload_n (pc := 75) C dX5_colony_75 1 rfl ?_
            refine jw_imul (pc := 76) (z := ((3 * x : Nat) : Int)) C dX5_colony_76 (by omega) ?_
            refine jw_iconst (pc := 77) C dX5_colony_77 ?_
            refine jw_iadd (pc := 78) (z := ((3 * x + 1 : Nat) : Int)) C dX5_colony_78 (by omega) ?_
            refine jw_callRV (pc := 79) C [.int (jI ((((3 * x + 1 : Nat) : Int))))] [.int (jI ((x : Nat) : Int)), .ref a] 1 (con_X2_digitAt lau D cI cB pg pq pn P (((3 * x + 1 : Nat) : Int)) (by omega) (by omega) hP) gX5_colony_X2_digitAt rfl rfl rfl (by decide +kernel) ⟨Nat.le_of_ble_eq_true rfl, Nat.le_of_ble_eq_true rfl⟩ 1 rfl rfl [1, 2] rfl rfl (Nat.le_of_ble_eq_true rfl) rfl dX5_colony_79 ?_
            have b_79_0 := sp_pa_b hP (((3 * x + 1 : Nat) : Int))
            refine jw_top (y := jI (P (3 * x + 1) - 48)) (congrArg jI (by rw [sp_pa_nat P (by omega)])) ?_
            refine jw_callWV (pc := 82) C [.int (jI ((x : Nat) : Int)), .int (jI (((P (3 * x + 1) - 48))))] [] 2 (con_X0_setLevel lau D cI cB a le s h 0 (sp_nv V P x) x ((P (3 * x + 1) - 48)) (by omega)) gX5_colony_X0_setLevel rfl rfl rfl (by decide +kernel) ⟨Nat.le_of_ble_eq_true rfl, Nat.le_of_ble_eq_true rfl⟩ 4 rfl rfl [4, 5] [0, 1, 2, 3, 6, 7, 8, 9] [0, 1, 2, 3, 8, 9, 4, 5, 6, 7] (wr := [oG g pg ki ((sp_hn P pn : Nat) : Int) rd a kp ik no su, oP pg pq ((pn : Nat) : Int), aI cI pq 25 P, aI cI ki 5 (va_up (sp_nk K P x) x (sp_kind ((P (3 * x))))), oS s hr lo ((0 : Nat) : Int), aI cI hr 6 (sp_nsh SH P (sp_hn P pn) 0), aI cI lo 6 (sp_nsl SL P (sp_hn P pn) 0), oH h hh hq hl hw ((0 : Nat) : Int)]) rfl rfl (by decide) (by decide) (fun _ => rfl) (wN := fun u_82_8 => [oG g pg ki ((sp_hn P pn : Nat) : Int) rd a kp ik no su, oP pg pq ((pn : Nat) : Int), aI cI pq 25 P, aI cI ki 5 (va_up (sp_nk K P x) x (sp_kind ((P (3 * x))))), oA a le s h 0, aI cI le 5 (va_up (sp_nv V P x) x ((P (3 * x + 1) - 48))), oS s hr lo ((0 : Nat) : Int), aI cI hr 6 (sp_nsh SH P (sp_hn P pn) 0), aI cI lo 6 (sp_nsl SL P (sp_hn P pn) 0), oH h hh hq hl hw ((0 : Nat) : Int)]) (fun _ => rfl) (stN := fun u_82_8 => []) (fun _ => rfl) rfl (Nat.le_of_ble_eq_true rfl) rfl dX5_colony_82 (fun u_82_8 hu_82_8 => ?_)
            refine jw_arr (f := va_up (sp_nk K P x) x (sp_kind ((P (3 * x))))) (g := sp_nk K P (x + 1)) (ws' := [oG g pg ki ((sp_hn P pn : Nat) : Int) rd a kp ik no su, oP pg pq ((pn : Nat) : Int), aI cI pq 25 P, aI cI ki 5 (sp_nk K P (x + 1)), oA a le s h 0, aI cI le 5 (va_up (sp_nv V P x) x ((P (3 * x + 1) - 48))), oS s hr lo ((0 : Nat) : Int), aI cI hr 6 (sp_nsh SH P (sp_hn P pn) 0), aI cI lo 6 (sp_nsl SL P (sp_hn P pn) 0), oH h hh hq hl hw ((0 : Nat) : Int)]) 3 rfl (by exact fun j _ => sp_fill (S := K) (g := fun j => sp_kind (P (3 * j))) rfl j) rfl ?_
            refine jw_arr (f := va_up (sp_nv V P x) x ((P (3 * x + 1) - 48))) (g := sp_nv V P (x + 1)) (ws' := [oG g pg ki ((sp_hn P pn : Nat) : Int) rd a kp ik no su, oP pg pq ((pn : Nat) : Int), aI cI pq 25 P, aI cI ki 5 (sp_nk K P (x + 1)), oA a le s h 0, aI cI le 5 (sp_nv V P (x + 1)), oS s hr lo ((0 : Nat) : Int), aI cI hr 6 (sp_nsh SH P (sp_hn P pn) 0), aI cI lo 6 (sp_nsl SL P (sp_hn P pn) 0), oH h hh hq hl hw ((0 : Nat) : Int)]) 5 rfl (by exact fun j _ => sp_fill (S := V) (g := fun j => P (3 * j + 1) - 48) rfl j) rfl ?_
            refine jw_iinc (pc := 85) (z := ((x + 1 : Nat) : Int)) (lv' := [(1, .int (jI ((x + 1 : Nat) : Int))), (0, .ref g)]) C dX5_colony_85 1 rfl (by omega) (by decide) rfl ?_
            refine jw_goto (pc := 88) (tgt := 33) C dX5_colony_88 (by decide) ?_
            refine jw_lv [1, 0] rfl ?_
            exact ih_3 (x + 1) (by omega) (by omega)
    refine jw_lv [1, 0] rfl ?_
    exact lp_33_2 ((sp_hn P pn - 0) + 1) 0 (by omega) (Nat.lt_succ_self _)
  · exact absurd hwh c_7
set_option maxHeartbeats 4000000 in
set_option maxRecDepth 100000 in
theorem con_X5_colonyF (lau : Launch) (D : va_G) (cI cB : ClassId) (g : Nat) (pg : Nat) (ki : Nat) (nh : Nat) (rd : Int) (a : Nat) (kp : Nat) (ik : Int) (no : Nat) (su : Nat) (pq : Nat) (pn : Nat) (P : Nat → Int) (hpn : pn ≤ 25) (hP : ∀ k, k < pn → 32 ≤ P k ∧ P k ≤ 126) (hwh : ¬ sp_whole P pn = true) : jMR lau yX5_colony wsX5_colony rmX5_colony D cI cB [.ref g] [oG g pg ki ((nh : Nat) : Int) rd a kp ik no su, oP pg pq ((pn : Nat) : Int), aI cI pq 25 P] (.int (jI (-103))) := by
  refine jMR.of (own := RX5) (cc := cX5_colony) (maxL := 3) (ret := (some .int)) rfl (by decide) rfl (Nat.le_of_ble_eq_true rfl) ?_
  intro X C E
  refine jw_lv (lv' := [(0, .ref g)]) [0] rfl ?_
  refine jw_aload_n (pc := 0) C dX5_colony_0 0 rfl ?_
  refine jw_get (pc := 1) C hi_X5_colony_X5 0 rfl rfl 0 (by decide) fl_X5_colony_10 rfl rfl dX5_colony_1 ?_
  refine jw_callRV (pc := 4) C [] [] 0 (con_X2_tellsColony lau D cI cB pg pq pn P (by omega) hP) gX5_colony_X2_tellsColony rfl rfl rfl (by decide +kernel) ⟨Nat.le_of_ble_eq_true rfl, Nat.le_of_ble_eq_true rfl⟩ 1 rfl rfl [1, 2] rfl rfl (Nat.le_of_ble_eq_true rfl) rfl dX5_colony_4 ?_
  refine jw_ifb_ne (pc := 7) (tgt := 13) C dX5_colony_7 (by decide) (fun c_7 => ?_) (fun c_7 => ?_)
  · exact absurd c_7 hwh
  · -- 7 f
    refine jw_bipush (pc := 10) C dX5_colony_10 (by decide +kernel) ?_
    exact jw_iretR (pc := 12) C E dX5_colony_12 rfl
