theorem fl_X5_image_23 : Cond.fieldLink RX5 23 "GongTide" "affairs" "LGongTide$Affairs;" ∈ wsX5_image := by decide +kernel
theorem fl_X5_image_27 : Cond.fieldLink RX5 27 "GongTide" "kept" "LGongTide$Affairs;" ∈ wsX5_image := by decide +kernel
theorem fl_X5_image_96 : Cond.fieldLink RX5 96 "GongTide" "isKept" "Z" ∈ wsX5_image := by decide +kernel
theorem fl_X5_image_128 : Cond.fieldLink RX5 128 "GongTide$Affairs" "changes" "I" ∈ wsX5_image := by decide +kernel
theorem hi_X5_image_X0 : ∀ w ∈ wsX00, w ∈ wsX5_image := fun w h => List.mem_cons_of_mem _ (List.mem_append_left _ (List.mem_append_left _ (List.mem_append_right _ h)))
theorem hi_X5_image_X5 : ∀ w ∈ wsX50, w ∈ wsX5_image := fun w h => List.mem_cons_of_mem _ (List.mem_append_left _ (List.mem_append_left _ (List.mem_append_left _ (List.mem_append_right _ h))))
def rmX5_image : Room := { frames := 2, cells := 0, slots := 0, locals := 44 }
set_option maxHeartbeats 4000000 in
set_option maxRecDepth 100000 in
theorem con_X5_image (lau : Launch) (D : va_G) (cI cB : ClassId) (g : Nat) (pg : Nat) (ki : Nat) (nh : Nat) (rd : Int) (a : Nat) (kp : Nat) (ik : Int) (no : Nat) (su : Nat) (le : Nat) (s : Nat) (h : Nat) (hr : Nat) (lo : Nat) (hh : Nat) (hq : Nat) (hl : Nat) (hw : Nat) (ch : Int) (V : Nat → Int) (n : Nat) (SH : Nat → Int) (SL : Nat → Int) (m : Nat) (HH : Nat → Int) (HO : Nat → Int) (HL : Nat → Int) (HW : Nat → Int) (lek : Nat) (sk : Nat) (hk : Nat) (hrk : Nat) (lok : Nat) (hhk : Nat) (hqk : Nat) (hlk : Nat) (hwk : Nat) (chk : Int) (Vk : Nat → Int) (nk : Nat) (SHk : Nat → Int) (SLk : Nat → Int) (mk : Nat) (HHk : Nat → Int) (HOk : Nat → Int) (HLk : Nat → Int) (HWk : Nat → Int) (h0 : 0 < nh) (hnh : nh ≤ 5) : jMW (S := Unit) lau yX5_image wsX5_image rmX5_image D cI cB [.ref g] [oG g pg ki ((nh : Nat) : Int) rd a kp ik no su, oA kp lek sk hk chk, aI cI lek 5 Vk, oS sk hrk lok ((nk : Nat) : Int), aI cI hrk 6 SHk, aI cI lok 6 SLk, oH hk hhk hqk hlk hwk ((mk : Nat) : Int), aI cI hhk 6 HHk, aI cI hqk 6 HOk, aI cI hlk 6 HLk, aI cI hwk 6 HWk, oA a le s h ch, aI cI le 5 V, oS s hr lo ((n : Nat) : Int), aI cI hr 6 SH, aI cI lo 6 SL, oH h hh hq hl hw ((m : Nat) : Int), aI cI hh 6 HH, aI cI hq 6 HO, aI cI hl 6 HL, aI cI hw 6 HW] (fun u => some (.int (jI ch))) (fun u => True) (fun u => [oG g pg ki ((nh : Nat) : Int) rd a kp 1 no su, oA kp lek sk hk ch, aI cI lek 5 V, oS sk hrk lok ((n : Nat) : Int), aI cI hrk 6 SH, aI cI lok 6 SL, oH hk hhk hqk hlk hwk ((m : Nat) : Int), aI cI hhk 6 HH, aI cI hqk 6 HO, aI cI hlk 6 HL, aI cI hwk 6 HW, oA a le s h ch, aI cI le 5 V, oS s hr lo ((n : Nat) : Int), aI cI hr 6 SH, aI cI lo 6 SL, oH h hh hq hl hw ((m : Nat) : Int), aI cI hh 6 HH, aI cI hq 6 HO, aI cI hl 6 HL, aI cI hw 6 HW]) := by
  refine jMW.of (own := RX5) (cc := cX5_image) (maxL := 1) (ret := (some .int)) rfl (by decide) rfl (Nat.le_of_ble_eq_true rfl) ?_
  intro X C E
  refine jw_lv (lv' := [(0, .ref g)]) [0] rfl ?_
  refine jw_aload_n (pc := 0) C dX5_image_0 0 rfl ?_
  refine jw_callRV (pc := 1) C [] [] 0 (con_X5_hasColony lau D cI cB g pg ki nh rd a kp ik no su (by omega)) gX5_image_X5_hasColony rfl rfl rfl (by decide +kernel) ⟨Nat.le_of_ble_eq_true rfl, Nat.le_of_ble_eq_true rfl⟩ 0 rfl rfl [0] rfl rfl (Nat.le_of_ble_eq_true rfl) rfl dX5_image_1 ?_
  refine jw_ifb_ne (pc := 4) (tgt := 10) C dX5_image_4 (by decide) (fun c_4 => ?_) (fun c_4 => ?_)
  · -- 4 t
    refine jw_aload_n (pc := 10) C dX5_image_10 0 rfl ?_
    refine jw_get (pc := 11) C hi_X5_image_X5 0 rfl rfl 5 (by decide) fl_X5_image_27 rfl rfl dX5_image_11 ?_
    refine jw_aload_n (pc := 14) C dX5_image_14 0 rfl ?_
    refine jw_get (pc := 15) C hi_X5_image_X5 0 rfl rfl 4 (by decide) fl_X5_image_23 rfl rfl dX5_image_15 ?_
    refine jw_callWV (pc := 18) C [.ref a] [] 1 (con_X0_copyFrom lau D cI cB kp lek sk hk hrk lok hhk hqk hlk hwk chk Vk nk SHk SLk mk HHk HOk HLk HWk a le s h hr lo hh hq hl hw ch V n SH SL m HH HO HL HW ) gX5_image_X0_copyFrom rfl rfl rfl (by decide +kernel) ⟨Nat.le_of_ble_eq_true rfl, Nat.le_of_ble_eq_true rfl⟩ 1 rfl rfl [1, 2, 3, 4, 5, 6, 7, 8, 9, 10, 11, 12, 13, 14, 15, 16, 17, 18, 19, 20] [0] [0, 1, 2, 3, 4, 5, 6, 7, 8, 9, 10, 11, 12, 13, 14, 15, 16, 17, 18, 19, 20] (wr := [oG g pg ki ((nh : Nat) : Int) rd a kp ik no su]) rfl rfl (by decide) (by decide) (fun _ => rfl) (wN := fun u_18_1 => [oG g pg ki ((nh : Nat) : Int) rd a kp ik no su, oA kp lek sk hk ch, aI cI lek 5 V, oS sk hrk lok ((n : Nat) : Int), aI cI hrk 6 SH, aI cI lok 6 SL, oH hk hhk hqk hlk hwk ((m : Nat) : Int), aI cI hhk 6 HH, aI cI hqk 6 HO, aI cI hlk 6 HL, aI cI hwk 6 HW, oA a le s h ch, aI cI le 5 V, oS s hr lo ((n : Nat) : Int), aI cI hr 6 SH, aI cI lo 6 SL, oH h hh hq hl hw ((m : Nat) : Int), aI cI hh 6 HH, aI cI hq 6 HO, aI cI hl 6 HL, aI cI hw 6 HW]) (fun _ => rfl) (stN := fun u_18_1 => []) (fun _ => rfl) rfl (Nat.le_of_ble_eq_true rfl) rfl dX5_image_18 (fun u_18_1 hu_18_1 => ?_)
    refine jw_aload_n (pc := 21) C dX5_image_21 0 rfl ?_
    refine jw_iconst (pc := 22) C dX5_image_22 ?_
    refine jw_put (pc := 23) (ty := .boolean) (ws' := [oG g pg ki ((nh : Nat) : Int) rd a kp 1 no su, oA kp lek sk hk ch, aI cI lek 5 V, oS sk hrk lok ((n : Nat) : Int), aI cI hrk 6 SH, aI cI lok 6 SL, oH hk hhk hqk hlk hwk ((m : Nat) : Int), aI cI hhk 6 HH, aI cI hqk 6 HO, aI cI hlk 6 HL, aI cI hwk 6 HW, oA a le s h ch, aI cI le 5 V, oS s hr lo ((n : Nat) : Int), aI cI hr 6 SH, aI cI lo 6 SL, oH h hh hq hl hw ((m : Nat) : Int), aI cI hh 6 HH, aI cI hq 6 HO, aI cI hl 6 HL, aI cI hw 6 HW]) C hi_X5_image_X5 tyX5 tyX5_ok nmX5 0 rfl rfl 6 (by decide) fl_X5_image_96 rfl rfl (by decide +kernel) rfl rfl (Nat.le_of_ble_eq_true rfl) rfl dX5_image_23 ?_
    refine jw_aload_n (pc := 26) C dX5_image_26 0 rfl ?_
    refine jw_get (pc := 27) C hi_X5_image_X5 0 rfl rfl 4 (by decide) fl_X5_image_23 rfl rfl dX5_image_27 ?_
    refine jw_get (pc := 30) C hi_X5_image_X0 11 rfl rfl 3 (by decide) fl_X5_image_128 rfl rfl dX5_image_30 ?_
    exact jw_iretW (pc := 33) C E dX5_image_33 (()) rfl trivial rfl
  · exfalso; omega
set_option maxHeartbeats 4000000 in
set_option maxRecDepth 100000 in
theorem con_X5_imageF (lau : Launch) (D : va_G) (cI cB : ClassId) (g : Nat) (pg : Nat) (ki : Nat) (nh : Nat) (rd : Int) (a : Nat) (kp : Nat) (ik : Int) (no : Nat) (su : Nat) (h0 : nh = 0) : jMR lau yX5_image wsX5_image rmX5_image D cI cB [.ref g] [oG g pg ki ((nh : Nat) : Int) rd a kp ik no su] (.int (jI (-103))) := by
  refine jMR.of (own := RX5) (cc := cX5_image) (maxL := 1) (ret := (some .int)) rfl (by decide) rfl (Nat.le_of_ble_eq_true rfl) ?_
  intro X C E
  refine jw_lv (lv' := [(0, .ref g)]) [0] rfl ?_
  refine jw_aload_n (pc := 0) C dX5_image_0 0 rfl ?_
  refine jw_callRV (pc := 1) C [] [] 0 (con_X5_hasColony lau D cI cB g pg ki nh rd a kp ik no su (by omega)) gX5_image_X5_hasColony rfl rfl rfl (by decide +kernel) ⟨Nat.le_of_ble_eq_true rfl, Nat.le_of_ble_eq_true rfl⟩ 0 rfl rfl [0] rfl rfl (Nat.le_of_ble_eq_true rfl) rfl dX5_image_1 ?_
  refine jw_ifb_ne (pc := 4) (tgt := 10) C dX5_image_4 (by decide) (fun c_4 => ?_) (fun c_4 => ?_)
  · exfalso; omega
  · -- 4 f
    refine jw_bipush (pc := 7) C dX5_image_7 (by decide +kernel) ?_
    exact jw_iretR (pc := 9) C E dX5_image_9 rfl
theorem fl_X5_restore_23 : Cond.fieldLink RX5 23 "GongTide" "affairs" "LGongTide$Affairs;" ∈ wsX5_restore := by decide +kernel
theorem fl_X5_restore_27 : Cond.fieldLink RX5 27 "GongTide" "kept" "LGongTide$Affairs;" ∈ wsX5_restore := by decide +kernel
theorem fl_X5_restore_96 : Cond.fieldLink RX5 96 "GongTide" "isKept" "Z" ∈ wsX5_restore := by decide +kernel
theorem fl_X5_restore_128 : Cond.fieldLink RX5 128 "GongTide$Affairs" "changes" "I" ∈ wsX5_restore := by decide +kernel
theorem hi_X5_restore_X0 : ∀ w ∈ wsX00, w ∈ wsX5_restore := fun w h => List.mem_cons_of_mem _ (List.mem_append_left _ (List.mem_append_left _ (List.mem_append_right _ h)))
theorem hi_X5_restore_X5 : ∀ w ∈ wsX50, w ∈ wsX5_restore := fun w h => List.mem_cons_of_mem _ (List.mem_append_left _ (List.mem_append_left _ (List.mem_append_left _ (List.mem_append_right _ h))))
def rmX5_restore : Room := { frames := 2, cells := 0, slots := 0, locals := 44 }
set_option maxHeartbeats 4000000 in
set_option maxRecDepth 100000 in
theorem con_X5_restore (lau : Launch) (D : va_G) (cI cB : ClassId) (g : Nat) (pg : Nat) (ki : Nat) (nh : Nat) (rd : Int) (a : Nat) (kp : Nat) (ik : Int) (no : Nat) (su : Nat) (le : Nat) (s : Nat) (h : Nat) (hr : Nat) (lo : Nat) (hh : Nat) (hq : Nat) (hl : Nat) (hw : Nat) (ch : Int) (V : Nat → Int) (n : Nat) (SH : Nat → Int) (SL : Nat → Int) (m : Nat) (HH : Nat → Int) (HO : Nat → Int) (HL : Nat → Int) (HW : Nat → Int) (lek : Nat) (sk : Nat) (hk : Nat) (hrk : Nat) (lok : Nat) (hhk : Nat) (hqk : Nat) (hlk : Nat) (hwk : Nat) (chk : Int) (Vk : Nat → Int) (nk : Nat) (SHk : Nat → Int) (SLk : Nat → Int) (mk : Nat) (HHk : Nat → Int) (HOk : Nat → Int) (HLk : Nat → Int) (HWk : Nat → Int) (h0 : ik = 1) : jMW (S := Unit) lau yX5_restore wsX5_restore rmX5_restore D cI cB [.ref g] [oG g pg ki ((nh : Nat) : Int) rd a kp ik no su, oA a le s h ch, aI cI le 5 V, oS s hr lo ((n : Nat) : Int), aI cI hr 6 SH, aI cI lo 6 SL, oH h hh hq hl hw ((m : Nat) : Int), aI cI hh 6 HH, aI cI hq 6 HO, aI cI hl 6 HL, aI cI hw 6 HW, oA kp lek sk hk chk, aI cI lek 5 Vk, oS sk hrk lok ((nk : Nat) : Int), aI cI hrk 6 SHk, aI cI lok 6 SLk, oH hk hhk hqk hlk hwk ((mk : Nat) : Int), aI cI hhk 6 HHk, aI cI hqk 6 HOk, aI cI hlk 6 HLk, aI cI hwk 6 HWk] (fun u => some (.int (jI chk))) (fun u => True) (fun u => [oG g pg ki ((nh : Nat) : Int) rd a kp ik no su, oA a le s h chk, aI cI le 5 Vk, oS s hr lo ((nk : Nat) : Int), aI cI hr 6 SHk, aI cI lo 6 SLk, oH h hh hq hl hw ((mk : Nat) : Int), aI cI hh 6 HHk, aI cI hq 6 HOk, aI cI hl 6 HLk, aI cI hw 6 HWk, oA kp lek sk hk chk, aI cI lek 5 Vk, oS sk hrk lok ((nk : Nat) : Int), aI cI hrk 6 SHk, aI cI lok 6 SLk, oH hk hhk hqk hlk hwk ((mk : Nat) : Int), aI cI hhk 6 HHk, aI cI hqk 6 HOk, aI cI hlk 6 HLk, aI cI hwk 6 HWk]) := by
  refine jMW.of (own := RX5) (cc := cX5_restore) (maxL := 1) (ret := (some .int)) rfl (by decide) rfl (Nat.le_of_ble_eq_true rfl) ?_
  intro X C E
  refine jw_lv (lv' := [(0, .ref g)]) [0] rfl ?_
  refine jw_aload_n (pc := 0) C dX5_restore_0 0 rfl ?_
  refine jw_get (pc := 1) C hi_X5_restore_X5 0 rfl rfl 6 (by decide) fl_X5_restore_96 rfl rfl dX5_restore_1 ?_
  refine jw_if_ne (pc := 4) (tgt := 10) C dX5_restore_4 (by decide) (by omega) (fun c_4 => ?_) (fun c_4 => ?_)
  · -- 4 t
    refine jw_aload_n (pc := 10) C dX5_restore_10 0 rfl ?_
    refine jw_get (pc := 11) C hi_X5_restore_X5 0 rfl rfl 4 (by decide) fl_X5_restore_23 rfl rfl dX5_restore_11 ?_
    refine jw_aload_n (pc := 14) C dX5_restore_14 0 rfl ?_
    refine jw_get (pc := 15) C hi_X5_restore_X5 0 rfl rfl 5 (by decide) fl_X5_restore_27 rfl rfl dX5_restore_15 ?_
    refine jw_callWV (pc := 18) C [.ref kp] [] 1 (con_X0_copyFrom lau D cI cB a le s h hr lo hh hq hl hw ch V n SH SL m HH HO HL HW kp lek sk hk hrk lok hhk hqk hlk hwk chk Vk nk SHk SLk mk HHk HOk HLk HWk ) gX5_restore_X0_copyFrom rfl rfl rfl (by decide +kernel) ⟨Nat.le_of_ble_eq_true rfl, Nat.le_of_ble_eq_true rfl⟩ 1 rfl rfl [1, 2, 3, 4, 5, 6, 7, 8, 9, 10, 11, 12, 13, 14, 15, 16, 17, 18, 19, 20] [0] [0, 1, 2, 3, 4, 5, 6, 7, 8, 9, 10, 11, 12, 13, 14, 15, 16, 17, 18, 19, 20] (wr := [oG g pg ki ((nh : Nat) : Int) rd a kp ik no su]) rfl rfl (by decide) (by decide) (fun _ => rfl) (wN := fun u_18_1 => [oG g pg ki ((nh : Nat) : Int) rd a kp ik no su, oA a le s h chk, aI cI le 5 Vk, oS s hr lo ((nk : Nat) : Int), aI cI hr 6 SHk, aI cI lo 6 SLk, oH h hh hq hl hw ((mk : Nat) : Int), aI cI hh 6 HHk, aI cI hq 6 HOk, aI cI hl 6 HLk, aI cI hw 6 HWk, oA kp lek sk hk chk, aI cI lek 5 Vk, oS sk hrk lok ((nk : Nat) : Int), aI cI hrk 6 SHk, aI cI lok 6 SLk, oH hk hhk hqk hlk hwk ((mk : Nat) : Int), aI cI hhk 6 HHk, aI cI hqk 6 HOk, aI cI hlk 6 HLk, aI cI hwk 6 HWk]) (fun _ => rfl) (stN := fun u_18_1 => []) (fun _ => rfl) rfl (Nat.le_of_ble_eq_true rfl) rfl dX5_restore_18 (fun u_18_1 hu_18_1 => ?_)
    refine jw_aload_n (pc := 21) C dX5_restore_21 0 rfl ?_
    refine jw_get (pc := 22) C hi_X5_restore_X5 0 rfl rfl 4 (by decide) fl_X5_restore_23 rfl rfl dX5_restore_22 ?_
    refine jw_get (pc := 25) C hi_X5_restore_X0 1 rfl rfl 3 (by decide) fl_X5_restore_128 rfl rfl dX5_restore_25 ?_
    exact jw_iretW (pc := 28) C E dX5_restore_28 (()) rfl trivial rfl
  · exfalso; omega
set_option maxHeartbeats 4000000 in
set_option maxRecDepth 100000 in
theorem con_X5_restoreF (lau : Launch) (D : va_G) (cI cB : ClassId) (g : Nat) (pg : Nat) (ki : Nat) (nh : Nat) (rd : Int) (a : Nat) (kp : Nat) (ik : Int) (no : Nat) (su : Nat) (h0 : ik = 0) : jMR lau yX5_restore wsX5_restore rmX5_restore D cI cB [.ref g] [oG g pg ki ((nh : Nat) : Int) rd a kp ik no su] (.int (jI (-103))) := by
  refine jMR.of (own := RX5) (cc := cX5_restore) (maxL := 1) (ret := (some .int)) rfl (by decide) rfl (Nat.le_of_ble_eq_true rfl) ?_
  intro X C E
  refine jw_lv (lv' := [(0, .ref g)]) [0] rfl ?_
  refine jw_aload_n (pc := 0) C dX5_restore_0 0 rfl ?_
  refine jw_get (pc := 1) C hi_X5_restore_X5 0 rfl rfl 6 (by decide) fl_X5_restore_96 rfl rfl dX5_restore_1 ?_
  refine jw_if_ne (pc := 4) (tgt := 10) C dX5_restore_4 (by decide) (by omega) (fun c_4 => ?_) (fun c_4 => ?_)
  · exfalso; omega
  · -- 4 f
    refine jw_bipush (pc := 7) C dX5_restore_7 (by decide +kernel) ?_
    exact jw_iretR (pc := 9) C E dX5_restore_9 rfl
theorem fl_X5_digestHouses_65 : Cond.fieldLink RX5 65 "GongTide" "houseCount" "I" ∈ wsX5_digestHouses := by decide +kernel
theorem hi_X5_digestHouses_X5 : ∀ w ∈ wsX50, w ∈ wsX5_digestHouses := fun w h => List.mem_cons_of_mem _ (List.mem_append_left _ (List.mem_append_left _ (List.mem_append_left _ (List.mem_append_right _ h))))
def rmX5_digestHouses : Room := { frames := 5, cells := 0, slots := 0, locals := 116 }
set_option maxHeartbeats 4000000 in
set_option maxRecDepth 100000 in
theorem con_X5_digestHouses (lau : Launch) (D : va_G) (cI cB : ClassId) (g : Nat) (pg : Nat) (ki : Nat) (nh : Nat) (rd : Int) (a : Nat) (kp : Nat) (ik : Int) (no : Nat) (su : Nat) (K : Nat → Int) (le : Nat) (s : Nat) (h : Nat) (ch : Int) (V : Nat → Int) (hr : Nat) (lo : Nat) (n : Nat) (SH : Nat → Int) (SL : Nat → Int) (qn : Nat) (f0 : Nat → Int) (hx0 : Int64) (hnh : nh ≤ 5) (h2 : n ≤ 6) (hS : ∀ x, x < n → 0 ≤ SH x ∧ SH x ≤ 9 ∧ 0 ≤ SL x ∧ SL x ≤ 9) (hK : ∀ x, x < 5 → 0 ≤ K x ∧ K x ≤ 4) (hV : ∀ x, x < 5 → 0 ≤ V x ∧ V x ≤ 9) : jMW (S := Nat → Int) lau yX5_digestHouses wsX5_digestHouses rmX5_digestHouses D cI cB [.ref g, .long hx0] [oG g pg ki ((nh : Nat) : Int) rd a kp ik no su, aI cI ki 5 K, oA a le s h ch, aI cI le 5 V, oS s hr lo ((n : Nat) : Int), aI cI hr 6 SH, aI cI lo 6 SL, oT no qn, aI cI qn 12 f0] (fun u => some (.long (sp_dgh (sp_hA K V (sp_sum SH SL n)) nh hx0))) (fun u => True) (fun u => [oG g pg ki ((nh : Nat) : Int) rd a kp ik no su, aI cI ki 5 K, oA a le s h ch, aI cI le 5 V, oS s hr lo ((n : Nat) : Int), aI cI hr 6 SH, aI cI lo 6 SL, oT no qn, aI cI qn 12 u]) := by
  refine jMW.of (own := RX5) (cc := cX5_digestHouses) (maxL := 7) (ret := (some .long)) rfl (by decide) rfl (Nat.le_of_ble_eq_true rfl) ?_
  intro X C E
  refine jw_lv (lv' := [(0, .ref g), (1, .long hx0)]) [0, 1] rfl ?_
  refine jw_lload_n (pc := 0) C dX5_digestHouses_0 1 rfl ?_
  refine jw_lstore_n (pc := 1) (lv' := [(3, .long hx0), (0, .ref g), (1, .long hx0)]) C dX5_digestHouses_1 (by decide) rfl ?_
  refine jw_iconst (pc := 2) C dX5_digestHouses_2 ?_
  refine jw_istore (pc := 3) (lv' := [(5, .int (jI 0)), (3, .long hx0), (0, .ref g), (1, .long hx0)]) C dX5_digestHouses_3 (by decide) rfl ?_
  have lp_5_1 : ∀ (fu : Nat) (e : Nat) (hv : Int64) (c : Nat → Int), (e ≤ nh) → (hv = sp_dgh (sp_hA K V (sp_sum SH SL n)) e hx0) → nh - e < fu → jW X 5 [(0, .ref g), (3, .long hv), (5, .int (jI ((e : Nat) : Int)))] [] [oG g pg ki ((nh : Nat) : Int) rd a kp ik no su, aI cI ki 5 K, oA a le s h ch, aI cI le 5 V, oS s hr lo ((n : Nat) : Int), aI cI hr 6 SH, aI cI lo 6 SL, oT no qn, aI cI qn 12 c] := by
    intro fu
    induction fu with
    | zero => intro e hv c he hhv hm; exact absurd hm (Nat.not_lt_zero _)
    | succ fu ih_2 =>
      intro e hv c he hhv hm
      refine jw_iload (pc := 5) C dX5_digestHouses_5 2 rfl ?_
      refine jw_aload_n (pc := 7) C dX5_digestHouses_7 0 rfl ?_
      refine jw_get (pc := 8) C hi_X5_digestHouses_X5 0 rfl rfl 2 (by decide) fl_X5_digestHouses_65 rfl rfl dX5_digestHouses_8 ?_
      refine jw_icmp_ge (pc := 11) (tgt := 82) C dX5_digestHouses_11 (by decide) (by omega) (by omega) (fun c_11 => ?_) (fun c_11 => ?_)
      · -- 11 t
        refine jw_lload_n (pc := 82) C dX5_digestHouses_82 1 rfl ?_
        exact jw_lretW (pc := 83) C E dX5_digestHouses_83 ((c)) (by rw [hhv, show e = nh by omega]) trivial rfl
      · -- 11 f
        refine jw_iconst (pc := 14) C dX5_digestHouses_14 ?_
        refine jw_istore (pc := 15) (lv' := [(6, .int (jI 0)), (0, .ref g), (3, .long hv), (5, .int (jI ((e : Nat) : Int)))]) C dX5_digestHouses_15 (by decide) rfl ?_
        have lp_17_3 : ∀ (fu : Nat) (j1 : Nat) (h1 : Int64) (c1 : Nat → Int), (j1 ≤ 5) → (h1 = sp_mf (fun w => sp_hA K V (sp_sum SH SL n) e ((w : Nat) : Int)) j1 hv) → 5 - j1 < fu → jW X 17 [(0, .ref g), (3, .long h1), (5, .int (jI ((e : Nat) : Int))), (6, .int (jI ((j1 : Nat) : Int)))] [] [oG g pg ki ((nh : Nat) : Int) rd a kp ik no su, aI cI ki 5 K, oA a le s h ch, aI cI le 5 V, oS s hr lo ((n : Nat) : Int), aI cI hr 6 SH, aI cI lo 6 SL, oT no qn, aI cI qn 12 c1] := by
          intro fu
          induction fu with
          | zero => intro j1 h1 c1 hj1 hh1 hm; exact absurd hm (Nat.not_lt_zero _)
          | succ fu ih_4 =>
            intro j1 h1 c1 hj1 hh1 hm
            refine jw_iload (pc := 17) C dX5_digestHouses_17 3 rfl ?_
            refine jw_iconst (pc := 19) C dX5_digestHouses_19 ?_
            refine jw_icmp_gt (pc := 20) (tgt := 43) C dX5_digestHouses_20 (by decide) (by omega) (by omega) (fun c_20 => ?_) (fun c_20 => ?_)
            · -- 20 t
              refine jw_iconst (pc := 43) C dX5_digestHouses_43 ?_
              refine jw_istore (pc := 44) (lv' := [(6, .int (jI 0)), (0, .ref g), (3, .long h1), (5, .int (jI ((e : Nat) : Int)))]) C dX5_digestHouses_44 (by decide) rfl ?_
              have lp_46_5 : ∀ (fu : Nat) (j2 : Nat) (h2x : Int64) (c2 : Nat → Int), (j2 ≤ 12) → (h2x = sp_mf (fun j => sp_hA K V (sp_sum SH SL n) e (10 + ((j : Nat) : Int))) j2 h1) → 12 - j2 < fu → jW X 46 [(0, .ref g), (3, .long h2x), (5, .int (jI ((e : Nat) : Int))), (6, .int (jI ((j2 : Nat) : Int)))] [] [oG g pg ki ((nh : Nat) : Int) rd a kp ik no su, aI cI ki 5 K, oA a le s h ch, aI cI le 5 V, oS s hr lo ((n : Nat) : Int), aI cI hr 6 SH, aI cI lo 6 SL, oT no qn, aI cI qn 12 c2] := by
                intro fu
                induction fu with
                | zero => intro j2 h2x c2 hj2 hh2 hm; exact absurd hm (Nat.not_lt_zero _)
                | succ fu ih_6 =>
                  intro j2 h2x c2 hj2 hh2 hm
                  refine jw_iload (pc := 46) C dX5_digestHouses_46 3 rfl ?_
                  refine jw_bipush (pc := 48) C dX5_digestHouses_48 (by decide +kernel) ?_
                  refine jw_icmp_ge (pc := 50) (tgt := 76) C dX5_digestHouses_50 (by decide) (by omega) (by omega) (fun c_50 => ?_) (fun c_50 => ?_)
                  · -- 50 t
                    refine jw_iinc (pc := 76) (z := ((e + 1 : Nat) : Int)) (lv' := [(5, .int (jI ((e + 1 : Nat) : Int))), (0, .ref g), (3, .long h2x), (6, .int (jI ((j2 : Nat) : Int)))]) C dX5_digestHouses_76 2 rfl (by omega) (by decide) rfl ?_
                    refine jw_goto (pc := 79) (tgt := 5) C dX5_digestHouses_79 (by decide) ?_
                    refine jw_lv [1, 2, 0] rfl ?_
                    exact ih_2 (e + 1) h2x c2 (by omega) (by rw [hh2, show j2 = 12 by omega, hh1, show j1 = 5 by omega, hhv]; rfl) (by omega)
                  · -- 50 f
                    refine jw_lload_n (pc := 53) C dX5_digestHouses_53 1 rfl ?_
                    refine jw_aload_n (pc := 54) C dX5_digestHouses_54 0 rfl ?_
                    refine jw_iload (pc := 55) C dX5_digestHouses_55 2 rfl ?_
                    refine jw_bipush (pc := 57) C dX5_digestHouses_57 (by decide +kernel) ?_
                    refine jw_iload (pc := 59) C dX5_digestHouses_59 3 rfl ?_
                    refine jw_iadd (pc := 61) (z := (10 + ((j2 : Nat) : Int))) C dX5_digestHouses_61 rfl ?_
                    refine jw_callWV (pc := 62) C [.int (jI ((((e : Nat) : Int)))), .int (jI (((10 + ((j2 : Nat) : Int)))))] [.long h2x] 2 (con_X5_about lau D cI cB g pg ki nh rd a kp ik no su K le s h ch V hr lo n SH SL qn c2 (((e : Nat) : Int)) ((10 + ((j2 : Nat) : Int))) (by omega) (by omega) hS hK hV (by omega) (by omega)) gX5_digestHouses_X5_about rfl rfl rfl (by decide +kernel) ⟨Nat.le_of_ble_eq_true rfl, Nat.le_of_ble_eq_true rfl⟩ 0 rfl rfl [0, 1, 2, 3, 4, 5, 6, 7, 8] [] [0, 1, 2, 3, 4, 5, 6, 7, 8] (wr := []) rfl rfl (by decide) (by decide) (fun _ => rfl) (wN := fun u_62_7 => [oG g pg ki ((nh : Nat) : Int) rd a kp ik no su, aI cI ki 5 K, oA a le s h ch, aI cI le 5 V, oS s hr lo ((n : Nat) : Int), aI cI hr 6 SH, aI cI lo 6 SL, oT no qn, aI cI qn 12 u_62_7]) (fun _ => rfl) (stN := fun u_62_7 => [.int (jI (sp_about nh K V (sp_sum SH SL n) (((e : Nat) : Int)) ((10 + ((j2 : Nat) : Int))))), .long h2x]) (fun _ => rfl) rfl (Nat.le_of_ble_eq_true rfl) rfl dX5_digestHouses_62 (fun u_62_7 hu_62_7 => ?_)
                    refine jw_top (y := jI (sp_hA K V (sp_sum SH SL n) e (10 + ((j2 : Nat) : Int)))) (congrArg jI (by unfold sp_about sp_hA; rw [if_pos (by omega), if_pos (by omega)]; simp only [Int.toNat_natCast])) ?_
                    refine jw_i2l (pc := 65) C ((jI (sp_hA K V (sp_sum SH SL n) e (10 + ((j2 : Nat) : Int)))).toInt64) dX5_digestHouses_65 rfl ?_
                    refine jw_callRS (pc := 66) C [.long h2x, .long (((jI (sp_hA K V (sp_sum SH SL n) e (10 + ((j2 : Nat) : Int)))).toInt64))] [] 2 (con_X5_mix lau D cI cB h2x ((jI (sp_hA K V (sp_sum SH SL n) e (10 + ((j2 : Nat) : Int)))).toInt64) ) gX5_digestHouses_X5_mix rfl rfl rfl (by decide +kernel) ⟨Nat.le_of_ble_eq_true rfl, Nat.le_of_ble_eq_true rfl⟩ [] rfl rfl (Nat.le_of_ble_eq_true rfl) rfl dX5_digestHouses_66 ?_
                    refine jw_lstore_n (pc := 69) (lv' := [(3, .long (31 * h2x + ((jI (sp_hA K V (sp_sum SH SL n) e (10 + ((j2 : Nat) : Int)))).toInt64))), (0, .ref g), (5, .int (jI ((e : Nat) : Int))), (6, .int (jI ((j2 : Nat) : Int)))]) C dX5_digestHouses_69 (by decide) rfl ?_
                    refine jw_iinc (pc := 70) (z := ((j2 + 1 : Nat) : Int)) (lv' := [(6, .int (jI ((j2 + 1 : Nat) : Int))), (3, .long (31 * h2x + ((jI (sp_hA K V (sp_sum SH SL n) e (10 + ((j2 : Nat) : Int)))).toInt64))), (0, .ref g), (5, .int (jI ((e : Nat) : Int)))]) C dX5_digestHouses_70 3 rfl (by omega) (by decide) rfl ?_
                    refine jw_goto (pc := 73) (tgt := 46) C dX5_digestHouses_73 (by decide) ?_
                    refine jw_lv [2, 1, 3, 0] rfl ?_
                    exact ih_6 (j2 + 1) (31 * h2x + ((jI (sp_hA K V (sp_sum SH SL n) e (10 + ((j2 : Nat) : Int)))).toInt64)) u_62_7 (by omega) (by rw [hh2]; rfl) (by omega)
              refine jw_lv [1, 2, 3, 0] rfl ?_
              exact lp_46_5 ((12 - 0) + 1) 0 h1 c1 (by omega) rfl (Nat.lt_succ_self _)
            · -- 20 f
              refine jw_lload_n (pc := 23) C dX5_digestHouses_23 1 rfl ?_
              refine jw_aload_n (pc := 24) C dX5_digestHouses_24 0 rfl ?_
              refine jw_iload (pc := 25) C dX5_digestHouses_25 2 rfl ?_
              refine jw_iload (pc := 27) C dX5_digestHouses_27 3 rfl ?_
              refine jw_callWV (pc := 29) C [.int (jI ((((e : Nat) : Int)))), .int (jI ((((j1 : Nat) : Int))))] [.long h1] 2 (con_X5_about lau D cI cB g pg ki nh rd a kp ik no su K le s h ch V hr lo n SH SL qn c1 (((e : Nat) : Int)) (((j1 : Nat) : Int)) (by omega) (by omega) hS hK hV (by omega) (by omega)) gX5_digestHouses_X5_about rfl rfl rfl (by decide +kernel) ⟨Nat.le_of_ble_eq_true rfl, Nat.le_of_ble_eq_true rfl⟩ 0 rfl rfl [0, 1, 2, 3, 4, 5, 6, 7, 8] [] [0, 1, 2, 3, 4, 5, 6, 7, 8] (wr := []) rfl rfl (by decide) (by decide) (fun _ => rfl) (wN := fun u_29_8 => [oG g pg ki ((nh : Nat) : Int) rd a kp ik no su, aI cI ki 5 K, oA a le s h ch, aI cI le 5 V, oS s hr lo ((n : Nat) : Int), aI cI hr 6 SH, aI cI lo 6 SL, oT no qn, aI cI qn 12 u_29_8]) (fun _ => rfl) (stN := fun u_29_8 => [.int (jI (sp_about nh K V (sp_sum SH SL n) (((e : Nat) : Int)) (((j1 : Nat) : Int)))), .long h1]) (fun _ => rfl) rfl (Nat.le_of_ble_eq_true rfl) rfl dX5_digestHouses_29 (fun u_29_8 hu_29_8 => ?_)
              refine jw_top (y := jI (sp_hA K V (sp_sum SH SL n) e ((j1 : Nat) : Int))) (congrArg jI (by unfold sp_about sp_hA; rw [if_pos (by omega), if_pos (by omega)]; simp only [Int.toNat_natCast])) ?_
              refine jw_i2l (pc := 32) C ((jI (sp_hA K V (sp_sum SH SL n) e ((j1 : Nat) : Int))).toInt64) dX5_digestHouses_32 rfl ?_
              refine jw_callRS (pc := 33) C [.long h1, .long (((jI (sp_hA K V (sp_sum SH SL n) e ((j1 : Nat) : Int))).toInt64))] [] 2 (con_X5_mix lau D cI cB h1 ((jI (sp_hA K V (sp_sum SH SL n) e ((j1 : Nat) : Int))).toInt64) ) gX5_digestHouses_X5_mix rfl rfl rfl (by decide +kernel) ⟨Nat.le_of_ble_eq_true rfl, Nat.le_of_ble_eq_true rfl⟩ [] rfl rfl (Nat.le_of_ble_eq_true rfl) rfl dX5_digestHouses_33 ?_
              refine jw_lstore_n (pc := 36) (lv' := [(3, .long (31 * h1 + ((jI (sp_hA K V (sp_sum SH SL n) e ((j1 : Nat) : Int))).toInt64))), (0, .ref g), (5, .int (jI ((e : Nat) : Int))), (6, .int (jI ((j1 : Nat) : Int)))]) C dX5_digestHouses_36 (by decide) rfl ?_
              refine jw_iinc (pc := 37) (z := ((j1 + 1 : Nat) : Int)) (lv' := [(6, .int (jI ((j1 + 1 : Nat) : Int))), (3, .long (31 * h1 + ((jI (sp_hA K V (sp_sum SH SL n) e ((j1 : Nat) : Int))).toInt64))), (0, .ref g), (5, .int (jI ((e : Nat) : Int)))]) C dX5_digestHouses_37 3 rfl (by omega) (by decide) rfl ?_
              refine jw_goto (pc := 40) (tgt := 17) C dX5_digestHouses_40 (by decide) ?_
              refine jw_lv [2, 1, 3, 0] rfl ?_
              exact ih_4 (j1 + 1) (31 * h1 + ((jI (sp_hA K V (sp_sum SH SL n) e ((j1 : Nat) : Int))).toInt64)) u_29_8 (by omega) (by rw [hh1]; rfl) (by omega)
        refine jw_lv [1, 2, 3, 0] rfl ?_
        exact lp_17_3 ((5 - 0) + 1) 0 hv c (by omega) rfl (Nat.lt_succ_self _)
  refine jw_lv [2, 1, 0] rfl ?_
  exact lp_5_1 ((nh - 0) + 1) 0 hx0 f0 (by omega) rfl (Nat.lt_succ_self _)
theorem fl_X5_digestStrokes_23 : Cond.fieldLink RX5 23 "GongTide" "affairs" "LGongTide$Affairs;" ∈ wsX5_digestStrokes := by decide +kernel
theorem fl_X5_digestStrokes_86 : Cond.fieldLink RX5 86 "GongTide$Affairs" "strokes" "LGongTide$Strokes;" ∈ wsX5_digestStrokes := by decide +kernel
theorem hi_X5_digestStrokes_X0 : ∀ w ∈ wsX00, w ∈ wsX5_digestStrokes := fun w h => List.mem_cons_of_mem _ (List.mem_append_left _ (List.mem_append_right _ h))
theorem hi_X5_digestStrokes_X5 : ∀ w ∈ wsX50, w ∈ wsX5_digestStrokes := fun w h => List.mem_cons_of_mem _ (List.mem_append_left _ (List.mem_append_left _ (List.mem_append_right _ h)))
def rmX5_digestStrokes : Room := { frames := 5, cells := 0, slots := 0, locals := 108 }
set_option maxHeartbeats 4000000 in
set_option maxRecDepth 100000 in
theorem con_X5_digestStrokes (lau : Launch) (D : va_G) (cI cB : ClassId) (g : Nat) (pg : Nat) (ki : Nat) (nh : Nat) (rd : Int) (a : Nat) (kp : Nat) (ik : Int) (no : Nat) (su : Nat) (le : Nat) (s : Nat) (h : Nat) (ch : Int) (hr : Nat) (lo : Nat) (n : Nat) (SH : Nat → Int) (SL : Nat → Int) (hx0 : Int64) (h2 : n ≤ 6) (hS : ∀ x, x < n → 0 ≤ SH x ∧ SH x ≤ 9 ∧ 0 ≤ SL x ∧ SL x ≤ 9) : jMR lau yX5_digestStrokes wsX5_digestStrokes rmX5_digestStrokes D cI cB [.ref g, .long hx0] [oG g pg ki ((nh : Nat) : Int) rd a kp ik no su, oA a le s h ch, oS s hr lo ((n : Nat) : Int), aI cI hr 6 SH, aI cI lo 6 SL] (.long (sp_dgs (sp_sA SH SL) n hx0)) := by
  refine jMR.of (own := RX5) (cc := cX5_digestStrokes) (maxL := 7) (ret := (some .long)) rfl (by decide) rfl (Nat.le_of_ble_eq_true rfl) ?_
  intro X C E
  refine jw_lv (lv' := [(0, .ref g), (1, .long hx0)]) [0, 1] rfl ?_
  refine jw_lload_n (pc := 0) C dX5_digestStrokes_0 1 rfl ?_
  refine jw_lstore_n (pc := 1) (lv' := [(3, .long hx0), (0, .ref g), (1, .long hx0)]) C dX5_digestStrokes_1 (by decide) rfl ?_
  refine jw_iconst (pc := 2) C dX5_digestStrokes_2 ?_
  refine jw_istore (pc := 3) (lv' := [(5, .int (jI 0)), (3, .long hx0), (0, .ref g), (1, .long hx0)]) C dX5_digestStrokes_3 (by decide) rfl ?_
  have lp_5_1 : ∀ (fu : Nat) (e : Nat) (hv : Int64), (e ≤ n) → (hv = sp_dgs (sp_sA SH SL) e hx0) → n - e < fu → jW X 5 [(0, .ref g), (3, .long hv), (5, .int (jI ((e : Nat) : Int)))] [] [oG g pg ki ((nh : Nat) : Int) rd a kp ik no su, oA a le s h ch, oS s hr lo ((n : Nat) : Int), aI cI hr 6 SH, aI cI lo 6 SL] := by
    intro fu
    induction fu with
    | zero => intro e hv he hhv hm; exact absurd hm (Nat.not_lt_zero _)
    | succ fu ih_2 =>
      intro e hv he hhv hm
      refine jw_iload (pc := 5) C dX5_digestStrokes_5 2 rfl ?_
      refine jw_aload_n (pc := 7) C dX5_digestStrokes_7 0 rfl ?_
      refine jw_get (pc := 8) C hi_X5_digestStrokes_X5 0 rfl rfl 4 (by decide) fl_X5_digestStrokes_23 rfl rfl dX5_digestStrokes_8 ?_
      refine jw_get (pc := 11) C hi_X5_digestStrokes_X0 1 rfl rfl 1 (by decide) fl_X5_digestStrokes_86 rfl rfl dX5_digestStrokes_11 ?_
      refine jw_callRV (pc := 14) C [] [.int (jI ((e : Nat) : Int))] 0 (con_X3_size lau D cI cB s hr lo n ) gX5_digestStrokes_X3_size rfl rfl rfl (by decide +kernel) ⟨Nat.le_of_ble_eq_true rfl, Nat.le_of_ble_eq_true rfl⟩ 2 rfl rfl [2] rfl rfl (Nat.le_of_ble_eq_true rfl) rfl dX5_digestStrokes_14 ?_
      refine jw_icmp_ge (pc := 17) (tgt := 55) C dX5_digestStrokes_17 (by decide) (by omega) (by omega) (fun c_17 => ?_) (fun c_17 => ?_)
      · -- 17 t
        refine jw_lload_n (pc := 55) C dX5_digestStrokes_55 1 rfl ?_
        exact jw_lretR (pc := 56) C E dX5_digestStrokes_56 (by rw [hhv, show e = n by omega])
      · -- 17 f
        refine jw_iconst (pc := 20) C dX5_digestStrokes_20 ?_
        refine jw_istore (pc := 21) (lv' := [(6, .int (jI 0)), (0, .ref g), (3, .long hv), (5, .int (jI ((e : Nat) : Int)))]) C dX5_digestStrokes_21 (by decide) rfl ?_
        have lp_23_3 : ∀ (fu : Nat) (j1 : Nat) (h1 : Int64), (j1 ≤ 3) → (h1 = sp_mf (fun w => sp_sA SH SL e ((w : Nat) : Int)) j1 hv) → 3 - j1 < fu → jW X 23 [(0, .ref g), (3, .long h1), (5, .int (jI ((e : Nat) : Int))), (6, .int (jI ((j1 : Nat) : Int)))] [] [oG g pg ki ((nh : Nat) : Int) rd a kp ik no su, oA a le s h ch, oS s hr lo ((n : Nat) : Int), aI cI hr 6 SH, aI cI lo 6 SL] := by
          intro fu
          induction fu with
          | zero => intro j1 h1 hj1 hh1 hm; exact absurd hm (Nat.not_lt_zero _)
          | succ fu ih_4 =>
            intro j1 h1 hj1 hh1 hm
            refine jw_iload (pc := 23) C dX5_digestStrokes_23 3 rfl ?_
            refine jw_iconst (pc := 25) C dX5_digestStrokes_25 ?_
            refine jw_icmp_gt (pc := 26) (tgt := 49) C dX5_digestStrokes_26 (by decide) (by omega) (by omega) (fun c_26 => ?_) (fun c_26 => ?_)
            · -- 26 t
              refine jw_iinc (pc := 49) (z := ((e + 1 : Nat) : Int)) (lv' := [(5, .int (jI ((e + 1 : Nat) : Int))), (0, .ref g), (3, .long h1), (6, .int (jI ((j1 : Nat) : Int)))]) C dX5_digestStrokes_49 2 rfl (by omega) (by decide) rfl ?_
              refine jw_goto (pc := 52) (tgt := 5) C dX5_digestStrokes_52 (by decide) ?_
              refine jw_lv [1, 2, 0] rfl ?_
              exact ih_2 (e + 1) h1 (by omega) (by rw [hh1, show j1 = 3 by omega, hhv]; rfl) (by omega)
            · -- 26 f
              refine jw_lload_n (pc := 29) C dX5_digestStrokes_29 1 rfl ?_
              refine jw_aload_n (pc := 30) C dX5_digestStrokes_30 0 rfl ?_
              refine jw_iload (pc := 31) C dX5_digestStrokes_31 2 rfl ?_
              refine jw_iload (pc := 33) C dX5_digestStrokes_33 3 rfl ?_
              refine jw_callRV (pc := 35) C [.int (jI ((((e : Nat) : Int)))), .int (jI ((((j1 : Nat) : Int))))] [.long h1] 2 (con_X5_stroke lau D cI cB g pg ki nh rd a kp ik no su le s h ch hr lo n SH SL (((e : Nat) : Int)) (((j1 : Nat) : Int)) (by omega) hS (by omega) (by omega)) gX5_digestStrokes_X5_stroke rfl rfl rfl (by decide +kernel) ⟨Nat.le_of_ble_eq_true rfl, Nat.le_of_ble_eq_true rfl⟩ 0 rfl rfl [0, 1, 2, 3, 4] rfl rfl (Nat.le_of_ble_eq_true rfl) rfl dX5_digestStrokes_35 ?_
              refine jw_top (y := jI (sp_sA SH SL e ((j1 : Nat) : Int))) (congrArg jI (by unfold sp_stroke sp_sA; rw [if_pos (by omega)]; simp only [Int.toNat_natCast])) ?_
              refine jw_i2l (pc := 38) C ((jI (sp_sA SH SL e ((j1 : Nat) : Int))).toInt64) dX5_digestStrokes_38 rfl ?_
              refine jw_callRS (pc := 39) C [.long h1, .long (((jI (sp_sA SH SL e ((j1 : Nat) : Int))).toInt64))] [] 2 (con_X5_mix lau D cI cB h1 ((jI (sp_sA SH SL e ((j1 : Nat) : Int))).toInt64) ) gX5_digestStrokes_X5_mix rfl rfl rfl (by decide +kernel) ⟨Nat.le_of_ble_eq_true rfl, Nat.le_of_ble_eq_true rfl⟩ [] rfl rfl (Nat.le_of_ble_eq_true rfl) rfl dX5_digestStrokes_39 ?_
              refine jw_lstore_n (pc := 42) (lv' := [(3, .long (31 * h1 + ((jI (sp_sA SH SL e ((j1 : Nat) : Int))).toInt64))), (0, .ref g), (5, .int (jI ((e : Nat) : Int))), (6, .int (jI ((j1 : Nat) : Int)))]) C dX5_digestStrokes_42 (by decide) rfl ?_
              refine jw_iinc (pc := 43) (z := ((j1 + 1 : Nat) : Int)) (lv' := [(6, .int (jI ((j1 + 1 : Nat) : Int))), (3, .long (31 * h1 + ((jI (sp_sA SH SL e ((j1 : Nat) : Int))).toInt64))), (0, .ref g), (5, .int (jI ((e : Nat) : Int)))]) C dX5_digestStrokes_43 3 rfl (by omega) (by decide) rfl ?_
              refine jw_goto (pc := 46) (tgt := 23) C dX5_digestStrokes_46 (by decide) ?_
              refine jw_lv [2, 1, 3, 0] rfl ?_
              exact ih_4 (j1 + 1) (31 * h1 + ((jI (sp_sA SH SL e ((j1 : Nat) : Int))).toInt64)) (by omega) (by rw [hh1]; rfl) (by omega)
        refine jw_lv [1, 2, 3, 0] rfl ?_
        exact lp_23_3 ((3 - 0) + 1) 0 hv (by omega) rfl (Nat.lt_succ_self _)
  refine jw_lv [2, 1, 0] rfl ?_
  exact lp_5_1 ((n - 0) + 1) 0 hx0 (by omega) rfl (Nat.lt_succ_self _)
theorem fl_X5_digest_10 : Cond.fieldLink RX5 10 "GongTide" "page" "LGongTide$Page;" ∈ wsX5_digest := by decide +kernel
theorem hi_X5_digest_X5 : ∀ w ∈ wsX50, w ∈ wsX5_digest := fun w h => List.mem_cons_of_mem _ (List.mem_append_left _ (List.mem_append_left _ (List.mem_append_left _ (List.mem_append_left _ (List.mem_append_left _ (List.mem_append_right _ h))))))
theorem cn_X5_digest_204 : Cond.constantLong RX5 204 (1091) ∈ wsX5_digest := by decide +kernel
def rmX5_digest : Room := { frames := 6, cells := 0, slots := 0, locals := 144 }
set_option maxHeartbeats 8000000 in
set_option maxRecDepth 100000 in
theorem con_X5_digest (lau : Launch) (D : va_G) (cI cB : ClassId) (g : Nat) (pg : Nat) (ki : Nat) (nh : Nat) (rd : Int) (a : Nat) (kp : Nat) (ik : Int) (no : Nat) (su : Nat) (K : Nat → Int) (le : Nat) (s : Nat) (h : Nat) (ch : Int) (V : Nat → Int) (hr : Nat) (lo : Nat) (n : Nat) (SH : Nat → Int) (SL : Nat → Int) (pq : Nat) (pn : Nat) (P : Nat → Int) (hh : Nat) (hq : Nat) (hl : Nat) (hw : Nat) (m : Nat) (HH : Nat → Int) (HO : Nat → Int) (HL : Nat → Int) (HW : Nat → Int) (qn : Nat) (f0 : Nat → Int) (qs : Nat) (g0 : Nat → Int) (hnh : nh ≤ 5) (h2 : n ≤ 6) (hS : ∀ x, x < n → 0 ≤ SH x ∧ SH x ≤ 9 ∧ 0 ≤ SL x ∧ SL x ≤ 9) (hK : ∀ x, x < 5 → 0 ≤ K x ∧ K x ≤ 4) (hV : ∀ x, x < 5 → 0 ≤ V x ∧ V x ≤ 9) (hm6 : m ≤ 6) (hH : ∀ x, x < m → 0 ≤ HH x ∧ HH x < 5 ∧ 0 ≤ HO x ∧ HO x ≤ 11 ∧ 1 ≤ HL x ∧ HL x ≤ 9 ∧ 0 ≤ HW x ∧ HW x ≤ 2) (hpn : pn ≤ 25) (hP : ∀ k, k < pn → 32 ≤ P k ∧ P k ≤ 126) : jMW (S := (Nat → Int) × (Nat → Int)) lau yX5_digest wsX5_digest rmX5_digest D cI cB [.ref g] [oG g pg ki ((nh : Nat) : Int) rd a kp ik no su, aI cI ki 5 K, oA a le s h ch, aI cI le 5 V, oS s hr lo ((n : Nat) : Int), aI cI hr 6 SH, aI cI lo 6 SL, oP pg pq ((pn : Nat) : Int), aI cI pq 25 P, oH h hh hq hl hw ((m : Nat) : Int), aI cI hh 6 HH, aI cI hq 6 HO, aI cI hl 6 HL, aI cI hw 6 HW, oT no qn, aI cI qn 12 f0, oT su qs, aI cI qs 12 g0] (fun u => some (.long (sp_digest nh n K V (sp_sum SH SL n) SH SL HH HO HL HW m ch pn P rd))) (fun u => True) (fun u => [oG g pg ki ((nh : Nat) : Int) rd a kp ik no su, aI cI ki 5 K, oA a le s h ch, aI cI le 5 V, oS s hr lo ((n : Nat) : Int), aI cI hr 6 SH, aI cI lo 6 SL, oP pg pq ((pn : Nat) : Int), aI cI pq 25 P, oH h hh hq hl hw ((m : Nat) : Int), aI cI hh 6 HH, aI cI hq 6 HO, aI cI hl 6 HL, aI cI hw 6 HW, oT no qn, aI cI qn 12 u.1, oT su qs, aI cI qs 12 u.2]) := by
  refine jMW.of (own := RX5) (cc := cX5_digest) (maxL := 4) (ret := (some .long)) rfl (by decide) rfl (Nat.le_of_ble_eq_true rfl) ?_
  intro X C E
  refine jw_lv (lv' := [(0, .ref g)]) [0] rfl ?_
  have hR54 := sp_sum_99 (SH := SH) (SL := SL) (n := n) h2 (fun x hx => (hS x hx).2.2)
  have hR99 := sp_99 hR54
  have hp2 := sp_p2 hnh
  have hp1 := sp_p1 nh
  have hhb := sp_hrs_b K V (sp_sum SH SL n) HH HO HL HW m
  refine jw_aload_n (pc := 0) C dX5_digest_0 0 rfl ?_
  refine jw_ldc2 (pc := 1) C dX5_digest_1 cn_X5_digest_204 ?_
  refine jw_callWV (pc := 4) C [.long 1091] [] 1 (con_X5_digestHouses lau D cI cB g pg ki nh rd a kp ik no su K le s h ch V hr lo n SH SL qn f0 1091 (by omega) (by omega) hS hK hV) gX5_digest_X5_digestHouses rfl rfl rfl (by decide +kernel) ⟨Nat.le_of_ble_eq_true rfl, Nat.le_of_ble_eq_true rfl⟩ 0 rfl rfl [0, 1, 2, 3, 4, 5, 6, 14, 15] [7, 8, 9, 10, 11, 12, 13, 16, 17] [9, 10, 11, 12, 13, 14, 15, 0, 1, 2, 3, 4, 5, 6, 16, 17, 7, 8] (wr := [oP pg pq ((pn : Nat) : Int), aI cI pq 25 P, oH h hh hq hl hw ((m : Nat) : Int), aI cI hh 6 HH, aI cI hq 6 HO, aI cI hl 6 HL, aI cI hw 6 HW, oT su qs, aI cI qs 12 g0]) rfl rfl (by decide) (by decide) (fun _ => rfl) (wN := fun u_4_1 => [oG g pg ki ((nh : Nat) : Int) rd a kp ik no su, aI cI ki 5 K, oA a le s h ch, aI cI le 5 V, oS s hr lo ((n : Nat) : Int), aI cI hr 6 SH, aI cI lo 6 SL, oP pg pq ((pn : Nat) : Int), aI cI pq 25 P, oH h hh hq hl hw ((m : Nat) : Int), aI cI hh 6 HH, aI cI hq 6 HO, aI cI hl 6 HL, aI cI hw 6 HW, oT no qn, aI cI qn 12 u_4_1, oT su qs, aI cI qs 12 g0]) (fun _ => rfl) (stN := fun u_4_1 => [.long (sp_dgh (sp_hA K V (sp_sum SH SL n)) nh 1091)]) (fun _ => rfl) rfl (Nat.le_of_ble_eq_true rfl) rfl dX5_digest_4 (fun u_4_1 hu_4_1 => ?_)
  refine jw_lstore_n (pc := 7) (lv' := [(1, .long (sp_dgh (sp_hA K V (sp_sum SH SL n)) nh 1091)), (0, .ref g)]) C dX5_digest_7 (by decide) rfl ?_
  refine jw_aload_n (pc := 8) C dX5_digest_8 1 rfl ?_
  refine jw_lload_n (pc := 9) C dX5_digest_9 0 rfl ?_
  refine jw_callRV (pc := 10) C [.long ((sp_dgh (sp_hA K V (sp_sum SH SL n)) nh 1091))] [] 1 (con_X5_digestStrokes lau D cI cB g pg ki nh rd a kp ik no su le s h ch hr lo n SH SL (sp_dgh (sp_hA K V (sp_sum SH SL n)) nh 1091) (by omega) hS) gX5_digest_X5_digestStrokes rfl rfl rfl (by decide +kernel) ⟨Nat.le_of_ble_eq_true rfl, Nat.le_of_ble_eq_true rfl⟩ 0 rfl rfl [0, 2, 4, 5, 6] rfl rfl (Nat.le_of_ble_eq_true rfl) rfl dX5_digest_10 ?_
  refine jw_lstore_n (pc := 13) (lv' := [(1, .long (sp_dgs (sp_sA SH SL) n (sp_dgh (sp_hA K V (sp_sum SH SL n)) nh 1091))), (0, .ref g)]) C dX5_digest_13 (by decide) rfl ?_
  refine jw_aload_n (pc := 14) C dX5_digest_14 1 rfl ?_
  refine jw_callRV (pc := 15) C [] [] 0 (con_X5_hasColony lau D cI cB g pg ki nh rd a kp ik no su (by omega)) gX5_digest_X5_hasColony rfl rfl rfl (by decide +kernel) ⟨Nat.le_of_ble_eq_true rfl, Nat.le_of_ble_eq_true rfl⟩ 0 rfl rfl [0] rfl rfl (Nat.le_of_ble_eq_true rfl) rfl dX5_digest_15 ?_
  refine jw_ifb_eq (pc := 18) (tgt := 106) C dX5_digest_18 (by decide) (fun c_18 => ?_) (fun c_18 => ?_)
  · -- 18 t
    refine jw_iconst (pc := 106) C dX5_digest_106 ?_
    refine jw_istore_n (pc := 107) (lv' := [(3, .int (jI 0)), (1, .long (sp_dgs (sp_sA SH SL) n (sp_dgh (sp_hA K V (sp_sum SH SL n)) nh 1091))), (0, .ref g)]) C dX5_digest_107 (by decide) rfl ?_
    have lp_108_2 : ∀ (fu : Nat) (j : Nat) (hv2 : Int64), (j ≤ pn) → (hv2 = sp_mf P j (if 0 < nh then sp_dg2 nh K V (sp_sum SH SL n) HH HO HL HW m (sp_dg1 nh n K V (sp_sum SH SL n) SH SL) else sp_dg1 nh n K V (sp_sum SH SL n) SH SL)) → pn - j < fu → jW X 108 [(0, .ref g), (1, .long hv2), (3, .int (jI ((j : Nat) : Int)))] [] [oG g pg ki ((nh : Nat) : Int) rd a kp ik no su, aI cI ki 5 K, oA a le s h ch, aI cI le 5 V, oS s hr lo ((n : Nat) : Int), aI cI hr 6 SH, aI cI lo 6 SL, oP pg pq ((pn : Nat) : Int), aI cI pq 25 P, oH h hh hq hl hw ((m : Nat) : Int), aI cI hh 6 HH, aI cI hq 6 HO, aI cI hl 6 HL, aI cI hw 6 HW, oT no qn, aI cI qn 12 u_4_1, oT su qs, aI cI qs 12 g0] := by
      intro fu
      induction fu with
      | zero => intro j hv2 hj hh2 hm; exact absurd hm (Nat.not_lt_zero _)
      | succ fu ih_3 =>
        intro j hv2 hj hh2 hm
        refine jw_iload_n (pc := 108) C dX5_digest_108 2 rfl ?_
        refine jw_aload_n (pc := 109) C dX5_digest_109 0 rfl ?_
        refine jw_get (pc := 110) C hi_X5_digest_X5 0 rfl rfl 0 (by decide) fl_X5_digest_10 rfl rfl dX5_digest_110 ?_
        refine jw_callRV (pc := 113) C [] [.int (jI ((j : Nat) : Int))] 0 (con_X2_size lau D cI cB pg pq pn ) gX5_digest_X2_size rfl rfl rfl (by decide +kernel) ⟨Nat.le_of_ble_eq_true rfl, Nat.le_of_ble_eq_true rfl⟩ 7 rfl rfl [7] rfl rfl (Nat.le_of_ble_eq_true rfl) rfl dX5_digest_113 ?_
        refine jw_icmp_ge (pc := 116) (tgt := 139) C dX5_digest_116 (by decide) (by omega) (by omega) (fun c_116 => ?_) (fun c_116 => ?_)
        · -- 116 t
          refine jw_iconst (pc := 139) C dX5_digest_139 ?_
          refine jw_istore_n (pc := 140) (lv' := [(3, .int (jI 0)), (0, .ref g), (1, .long hv2)]) C dX5_digest_140 (by decide) rfl ?_
          have lp_141_4 : ∀ (fu : Nat) (w : Nat) (hv3 : Int64) (c3 : Nat → Int), (w ≤ 9) → (hv3 = sp_mf (fun w => sp_count nh n K V (sp_sum SH SL n) ch m pn rd ((w : Nat) : Int)) w (sp_mf P pn (if 0 < nh then sp_dg2 nh K V (sp_sum SH SL n) HH HO HL HW m (sp_dg1 nh n K V (sp_sum SH SL n) SH SL) else sp_dg1 nh n K V (sp_sum SH SL n) SH SL))) → 9 - w < fu → jW X 141 [(0, .ref g), (1, .long hv3), (3, .int (jI ((w : Nat) : Int)))] [] [oG g pg ki ((nh : Nat) : Int) rd a kp ik no su, aI cI ki 5 K, oA a le s h ch, aI cI le 5 V, oS s hr lo ((n : Nat) : Int), aI cI hr 6 SH, aI cI lo 6 SL, oP pg pq ((pn : Nat) : Int), aI cI pq 25 P, oH h hh hq hl hw ((m : Nat) : Int), aI cI hh 6 HH, aI cI hq 6 HO, aI cI hl 6 HL, aI cI hw 6 HW, oT no qn, aI cI qn 12 c3, oT su qs, aI cI qs 12 g0] := by
            intro fu
            induction fu with
            | zero => intro w hv3 c3 hw9 hh3 hm; exact absurd hm (Nat.not_lt_zero _)
            | succ fu ih_5 =>
              intro w hv3 c3 hw9 hh3 hm
              refine jw_iload_n (pc := 141) C dX5_digest_141 2 rfl ?_
              refine jw_bipush (pc := 142) C dX5_digest_142 (by decide +kernel) ?_
              refine jw_icmp_gt (pc := 144) (tgt := 164) C dX5_digest_144 (by decide) (by omega) (by omega) (fun c_144 => ?_) (fun c_144 => ?_)
              · -- 144 t
                refine jw_lload_n (pc := 164) C dX5_digest_164 1 rfl ?_
                exact jw_lretW (pc := 165) C E dX5_digest_165 (((c3), (g0))) (by rw [hh3, show w = 9 by omega]; rfl) trivial rfl
              · -- 144 f
                refine jw_lload_n (pc := 147) C dX5_digest_147 1 rfl ?_
                refine jw_aload_n (pc := 148) C dX5_digest_148 0 rfl ?_
                refine jw_iload_n (pc := 149) C dX5_digest_149 2 rfl ?_
                refine jw_callWV (pc := 150) C [.int (jI ((((w : Nat) : Int))))] [.long hv3] 1 (con_X5_count lau D cI cB g pg ki nh rd a kp ik no su K le s h ch V hr lo n SH SL pq pn hh hq hl hw m qn c3 (((w : Nat) : Int)) (by omega) (by omega) hS hK hV (by omega)) gX5_digest_X5_count rfl rfl rfl (by decide +kernel) ⟨Nat.le_of_ble_eq_true rfl, Nat.le_of_ble_eq_true rfl⟩ 0 rfl rfl [0, 1, 2, 3, 4, 5, 6, 7, 9, 14, 15] [8, 10, 11, 12, 13, 16, 17] [7, 8, 9, 10, 11, 12, 13, 14, 0, 15, 1, 2, 3, 4, 16, 17, 5, 6] (wr := [aI cI pq 25 P, aI cI hh 6 HH, aI cI hq 6 HO, aI cI hl 6 HL, aI cI hw 6 HW, oT su qs, aI cI qs 12 g0]) rfl rfl (by decide) (by decide) (fun _ => rfl) (wN := fun u_150_6 => [oG g pg ki ((nh : Nat) : Int) rd a kp ik no su, aI cI ki 5 K, oA a le s h ch, aI cI le 5 V, oS s hr lo ((n : Nat) : Int), aI cI hr 6 SH, aI cI lo 6 SL, oP pg pq ((pn : Nat) : Int), aI cI pq 25 P, oH h hh hq hl hw ((m : Nat) : Int), aI cI hh 6 HH, aI cI hq 6 HO, aI cI hl 6 HL, aI cI hw 6 HW, oT no qn, aI cI qn 12 u_150_6, oT su qs, aI cI qs 12 g0]) (fun _ => rfl) (stN := fun u_150_6 => [.int (jI (sp_count nh n K V (sp_sum SH SL n) ch m pn rd (((w : Nat) : Int)))), .long hv3]) (fun _ => rfl) rfl (Nat.le_of_ble_eq_true rfl) rfl dX5_digest_150 (fun u_150_6 hu_150_6 => ?_)
                refine jw_i2l (pc := 153) C ((jI (sp_count nh n K V (sp_sum SH SL n) ch m pn rd (((w : Nat) : Int)))).toInt64) dX5_digest_153 rfl ?_
                refine jw_callRS (pc := 154) C [.long hv3, .long (((jI (sp_count nh n K V (sp_sum SH SL n) ch m pn rd (((w : Nat) : Int)))).toInt64))] [] 2 (con_X5_mix lau D cI cB hv3 ((jI (sp_count nh n K V (sp_sum SH SL n) ch m pn rd (((w : Nat) : Int)))).toInt64) ) gX5_digest_X5_mix rfl rfl rfl (by decide +kernel) ⟨Nat.le_of_ble_eq_true rfl, Nat.le_of_ble_eq_true rfl⟩ [] rfl rfl (Nat.le_of_ble_eq_true rfl) rfl dX5_digest_154 ?_
                refine jw_lstore_n (pc := 157) (lv' := [(1, .long (31 * hv3 + ((jI (sp_count nh n K V (sp_sum SH SL n) ch m pn rd (((w : Nat) : Int)))).toInt64))), (0, .ref g), (3, .int (jI ((w : Nat) : Int)))]) C dX5_digest_157 (by decide) rfl ?_
                refine jw_iinc (pc := 158) (z := ((w + 1 : Nat) : Int)) (lv' := [(3, .int (jI ((w + 1 : Nat) : Int))), (1, .long (31 * hv3 + ((jI (sp_count nh n K V (sp_sum SH SL n) ch m pn rd (((w : Nat) : Int)))).toInt64))), (0, .ref g)]) C dX5_digest_158 2 rfl (by omega) (by decide) rfl ?_
                refine jw_goto (pc := 161) (tgt := 141) C dX5_digest_161 (by decide) ?_
                refine jw_lv [2, 1, 0] rfl ?_
                exact ih_5 (w + 1) (31 * hv3 + ((jI (sp_count nh n K V (sp_sum SH SL n) ch m pn rd (((w : Nat) : Int)))).toInt64)) u_150_6 (by omega) (by rw [hh3]; rfl) (by omega)
          refine jw_lv [1, 2, 0] rfl ?_
          exact lp_141_4 ((9 - 0) + 1) 0 hv2 u_4_1 (by omega) (by rw [hh2, show j = pn by omega]; rfl) (Nat.lt_succ_self _)
        · -- 116 f
          refine jw_lload_n (pc := 119) C dX5_digest_119 1 rfl ?_
          refine jw_aload_n (pc := 120) C dX5_digest_120 0 rfl ?_
          refine jw_get (pc := 121) C hi_X5_digest_X5 0 rfl rfl 0 (by decide) fl_X5_digest_10 rfl rfl dX5_digest_121 ?_
          refine jw_iload_n (pc := 124) C dX5_digest_124 2 rfl ?_
          refine jw_callRV (pc := 125) C [.int (jI ((((j : Nat) : Int))))] [.long hv2] 1 (con_X2_at lau D cI cB pg pq pn P (((j : Nat) : Int)) (by omega) (by omega) hP) gX5_digest_X2_at rfl rfl rfl (by decide +kernel) ⟨Nat.le_of_ble_eq_true rfl, Nat.le_of_ble_eq_true rfl⟩ 7 rfl rfl [7, 8] rfl rfl (Nat.le_of_ble_eq_true rfl) rfl dX5_digest_125 ?_
          have b_125_0 := sp_pa_b hP (((j : Nat) : Int))
          refine jw_top (y := jI (P j)) (congrArg jI (sp_pa_nat P (by omega))) ?_
          refine jw_i2l (pc := 128) C ((jI (P j)).toInt64) dX5_digest_128 rfl ?_
          refine jw_callRS (pc := 129) C [.long hv2, .long (((jI (P j)).toInt64))] [] 2 (con_X5_mix lau D cI cB hv2 ((jI (P j)).toInt64) ) gX5_digest_X5_mix rfl rfl rfl (by decide +kernel) ⟨Nat.le_of_ble_eq_true rfl, Nat.le_of_ble_eq_true rfl⟩ [] rfl rfl (Nat.le_of_ble_eq_true rfl) rfl dX5_digest_129 ?_
          refine jw_lstore_n (pc := 132) (lv' := [(1, .long (31 * hv2 + ((jI (P j)).toInt64))), (0, .ref g), (3, .int (jI ((j : Nat) : Int)))]) C dX5_digest_132 (by decide) rfl ?_
          refine jw_iinc (pc := 133) (z := ((j + 1 : Nat) : Int)) (lv' := [(3, .int (jI ((j + 1 : Nat) : Int))), (1, .long (31 * hv2 + ((jI (P j)).toInt64))), (0, .ref g)]) C dX5_digest_133 2 rfl (by omega) (by decide) rfl ?_
          refine jw_goto (pc := 136) (tgt := 108) C dX5_digest_136 (by decide) ?_
          refine jw_lv [2, 1, 0] rfl ?_
          exact ih_3 (j + 1) (31 * hv2 + ((jI (P j)).toInt64)) (by omega) (by rw [hh2]; rfl) (by omega)
    refine jw_lv [2, 1, 0] rfl ?_
    exact lp_108_2 ((pn - 0) + 1) 0 (sp_dgs (sp_sA SH SL) n (sp_dgh (sp_hA K V (sp_sum SH SL n)) nh 1091)) (by omega) (by first | (rw [if_pos (by omega), hhv, show i = 12 by omega]; rfl) | (rw [if_neg (by omega)]; rfl)) (Nat.lt_succ_self _)
  · -- 18 f
    refine jw_iconst (pc := 21) C dX5_digest_21 ?_
    refine jw_istore_n (pc := 22) (lv' := [(3, .int (jI 0)), (1, .long (sp_dgs (sp_sA SH SL) n (sp_dgh (sp_hA K V (sp_sum SH SL n)) nh 1091))), (0, .ref g)]) C dX5_digest_22 (by decide) rfl ?_
    have lp_23_7 : ∀ (fu : Nat) (i : Nat) (hv : Int64) (c : Nat → Int), (i ≤ 12) → (hv = sp_mf (fun i => sp_cap ((sp_sum SH SL n) i)) i (sp_dg1 nh n K V (sp_sum SH SL n) SH SL)) → 12 - i < fu → jW X 23 [(0, .ref g), (1, .long hv), (3, .int (jI ((i : Nat) : Int)))] [] [oG g pg ki ((nh : Nat) : Int) rd a kp ik no su, aI cI ki 5 K, oA a le s h ch, aI cI le 5 V, oS s hr lo ((n : Nat) : Int), aI cI hr 6 SH, aI cI lo 6 SL, oP pg pq ((pn : Nat) : Int), aI cI pq 25 P, oH h hh hq hl hw ((m : Nat) : Int), aI cI hh 6 HH, aI cI hq 6 HO, aI cI hl 6 HL, aI cI hw 6 HW, oT no qn, aI cI qn 12 c, oT su qs, aI cI qs 12 g0] := by
      intro fu
      induction fu with
      | zero => intro i hv c hi hhv hm; exact absurd hm (Nat.not_lt_zero _)
      | succ fu ih_8 =>
        intro i hv c hi hhv hm
        refine jw_iload_n (pc := 23) C dX5_digest_23 2 rfl ?_
        refine jw_bipush (pc := 24) C dX5_digest_24 (by decide +kernel) ?_
        refine jw_icmp_ge (pc := 26) (tgt := 46) C dX5_digest_26 (by decide) (by omega) (by omega) (fun c_26 => ?_) (fun c_26 => ?_)
        · -- 26 t
          refine jw_lload_n (pc := 46) C dX5_digest_46 1 rfl ?_
          refine jw_aload_n (pc := 47) C dX5_digest_47 0 rfl ?_
          refine jw_aload_n (pc := 48) C dX5_digest_48 0 rfl ?_
          refine jw_callRV (pc := 49) C [] [.ref g, .long hv] 0 (con_X5_allHouses lau D cI cB g pg ki nh rd a kp ik no su (by omega)) gX5_digest_X5_allHouses rfl rfl rfl (by decide +kernel) ⟨Nat.le_of_ble_eq_true rfl, Nat.le_of_ble_eq_true rfl⟩ 0 rfl rfl [0] rfl rfl (Nat.le_of_ble_eq_true rfl) rfl dX5_digest_49 ?_
          refine jw_iconst (pc := 52) C dX5_digest_52 ?_
          refine jw_callWV (pc := 53) C [.int (jI (((((2 ^ nh : Nat) : Int) - 1)))), .int (jI 2)] [.long hv] 2 (con_X5_dinner lau D cI cB g pg ki nh rd a kp ik no su K le s h ch V hr lo n SH SL qn c ((((2 ^ nh : Nat) : Int) - 1)) 2 (by omega) (by omega) hS hK hV (by omega) (by omega)) gX5_digest_X5_dinner rfl rfl rfl (by decide +kernel) ⟨Nat.le_of_ble_eq_true rfl, Nat.le_of_ble_eq_true rfl⟩ 0 rfl rfl [0, 1, 2, 3, 4, 5, 6, 14, 15] [7, 8, 9, 10, 11, 12, 13, 16, 17] [9, 10, 11, 12, 13, 14, 15, 0, 1, 2, 3, 4, 5, 6, 16, 17, 7, 8] (wr := [oP pg pq ((pn : Nat) : Int), aI cI pq 25 P, oH h hh hq hl hw ((m : Nat) : Int), aI cI hh 6 HH, aI cI hq 6 HO, aI cI hl 6 HL, aI cI hw 6 HW, oT su qs, aI cI qs 12 g0]) rfl rfl (by decide) (by decide) (fun _ => rfl) (wN := fun u_53_9 => [oG g pg ki ((nh : Nat) : Int) rd a kp ik no su, aI cI ki 5 K, oA a le s h ch, aI cI le 5 V, oS s hr lo ((n : Nat) : Int), aI cI hr 6 SH, aI cI lo 6 SL, oP pg pq ((pn : Nat) : Int), aI cI pq 25 P, oH h hh hq hl hw ((m : Nat) : Int), aI cI hh 6 HH, aI cI hq 6 HO, aI cI hl 6 HL, aI cI hw 6 HW, oT no qn, aI cI qn 12 u_53_9, oT su qs, aI cI qs 12 g0]) (fun _ => rfl) (stN := fun u_53_9 => [.int (jI (sp_dinner nh K V (sp_sum SH SL n) ((((2 ^ nh : Nat) : Int) - 1)) 2)), .long hv]) (fun _ => rfl) rfl (Nat.le_of_ble_eq_true rfl) rfl dX5_digest_53 (fun u_53_9 hu_53_9 => ?_)
          refine jw_top (y := jI (sp_dn K V (sp_sum SH SL n) nh (2 ^ nh - 1) 2)) (congrArg jI (by have hp3 := sp_p2' (show 0 < nh by omega); unfold sp_dinner; rw [if_pos (by omega), show (((2 ^ nh : Nat) : Int) - 1).toNat = 2 ^ nh - 1 by omega]; rfl)) ?_
          refine jw_i2l (pc := 56) C ((jI (sp_dn K V (sp_sum SH SL n) nh (2 ^ nh - 1) 2)).toInt64) dX5_digest_56 rfl ?_
          refine jw_callRS (pc := 57) C [.long hv, .long (((jI (sp_dn K V (sp_sum SH SL n) nh (2 ^ nh - 1) 2)).toInt64))] [] 2 (con_X5_mix lau D cI cB hv ((jI (sp_dn K V (sp_sum SH SL n) nh (2 ^ nh - 1) 2)).toInt64) ) gX5_digest_X5_mix rfl rfl rfl (by decide +kernel) ⟨Nat.le_of_ble_eq_true rfl, Nat.le_of_ble_eq_true rfl⟩ [] rfl rfl (Nat.le_of_ble_eq_true rfl) rfl dX5_digest_57 ?_
          refine jw_lstore_n (pc := 60) (lv' := [(1, .long (31 * hv + ((jI (sp_dn K V (sp_sum SH SL n) nh (2 ^ nh - 1) 2)).toInt64))), (0, .ref g), (3, .int (jI ((i : Nat) : Int)))]) C dX5_digest_60 (by decide) rfl ?_
          refine jw_lload_n (pc := 61) C dX5_digest_61 0 rfl ?_
          refine jw_aload_n (pc := 62) C dX5_digest_62 1 rfl ?_
          refine jw_iconst (pc := 63) C dX5_digest_63 ?_
          refine jw_iconst (pc := 64) C dX5_digest_64 ?_
          refine jw_callWV (pc := 65) C [.int (jI 5), .int (jI 0)] [.long (31 * hv + ((jI (sp_dn K V (sp_sum SH SL n) nh (2 ^ nh - 1) 2)).toInt64))] 2 (con_X5_best lau D cI cB g pg ki nh rd a kp ik no su K le s h ch V hr lo n SH SL qn u_53_9 qs g0 5 0 (by omega) (by omega) hS hK hV (by omega) (by omega)) gX5_digest_X5_best rfl rfl rfl (by decide +kernel) ⟨Nat.le_of_ble_eq_true rfl, Nat.le_of_ble_eq_true rfl⟩ 0 rfl rfl [0, 1, 2, 3, 4, 5, 6, 14, 15, 16, 17] [7, 8, 9, 10, 11, 12, 13] [7, 8, 9, 10, 11, 12, 13, 0, 1, 2, 3, 4, 5, 6, 14, 15, 16, 17] (wr := [oP pg pq ((pn : Nat) : Int), aI cI pq 25 P, oH h hh hq hl hw ((m : Nat) : Int), aI cI hh 6 HH, aI cI hq 6 HO, aI cI hl 6 HL, aI cI hw 6 HW]) rfl rfl (by decide) (by decide) (fun _ => rfl) (wN := fun u_65_10 => [oG g pg ki ((nh : Nat) : Int) rd a kp ik no su, aI cI ki 5 K, oA a le s h ch, aI cI le 5 V, oS s hr lo ((n : Nat) : Int), aI cI hr 6 SH, aI cI lo 6 SL, oP pg pq ((pn : Nat) : Int), aI cI pq 25 P, oH h hh hq hl hw ((m : Nat) : Int), aI cI hh 6 HH, aI cI hq 6 HO, aI cI hl 6 HL, aI cI hw 6 HW, oT no qn, aI cI qn 12 u_65_10.1, oT su qs, aI cI qs 12 u_65_10.2]) (fun _ => rfl) (stN := fun u_65_10 => [.int (jI (sp_best nh K V (sp_sum SH SL n) 5 0)), .long (31 * hv + ((jI (sp_dn K V (sp_sum SH SL n) nh (2 ^ nh - 1) 2)).toInt64))]) (fun _ => rfl) rfl (Nat.le_of_ble_eq_true rfl) rfl dX5_digest_65 (fun u_65_10 hu_65_10 => ?_)
          refine jw_top (y := jI (sp_bh K V (sp_sum SH SL n) nh 5 10)) (congrArg jI (by unfold sp_best; rw [if_pos (by omega), if_pos (by omega), if_pos rfl])) ?_
          refine jw_i2l (pc := 68) C ((jI (sp_bh K V (sp_sum SH SL n) nh 5 10)).toInt64) dX5_digest_68 rfl ?_
          refine jw_callRS (pc := 69) C [.long ((31 * hv + ((jI (sp_dn K V (sp_sum SH SL n) nh (2 ^ nh - 1) 2)).toInt64))), .long (((jI (sp_bh K V (sp_sum SH SL n) nh 5 10)).toInt64))] [] 2 (con_X5_mix lau D cI cB (31 * hv + ((jI (sp_dn K V (sp_sum SH SL n) nh (2 ^ nh - 1) 2)).toInt64)) ((jI (sp_bh K V (sp_sum SH SL n) nh 5 10)).toInt64) ) gX5_digest_X5_mix rfl rfl rfl (by decide +kernel) ⟨Nat.le_of_ble_eq_true rfl, Nat.le_of_ble_eq_true rfl⟩ [] rfl rfl (Nat.le_of_ble_eq_true rfl) rfl dX5_digest_69 ?_
          refine jw_lstore_n (pc := 72) (lv' := [(1, .long (31 * (31 * hv + ((jI (sp_dn K V (sp_sum SH SL n) nh (2 ^ nh - 1) 2)).toInt64)) + ((jI (sp_bh K V (sp_sum SH SL n) nh 5 10)).toInt64))), (0, .ref g), (3, .int (jI ((i : Nat) : Int)))]) C dX5_digest_72 (by decide) rfl ?_
          refine jw_lload_n (pc := 73) C dX5_digest_73 0 rfl ?_
          refine jw_aload_n (pc := 74) C dX5_digest_74 1 rfl ?_
          refine jw_iconst (pc := 75) C dX5_digest_75 ?_
          refine jw_iconst (pc := 76) C dX5_digest_76 ?_
          refine jw_callWV (pc := 77) C [.int (jI 5), .int (jI 1)] [.long (31 * (31 * hv + ((jI (sp_dn K V (sp_sum SH SL n) nh (2 ^ nh - 1) 2)).toInt64)) + ((jI (sp_bh K V (sp_sum SH SL n) nh 5 10)).toInt64))] 2 (con_X5_best lau D cI cB g pg ki nh rd a kp ik no su K le s h ch V hr lo n SH SL qn u_65_10.1 qs u_65_10.2 5 1 (by omega) (by omega) hS hK hV (by omega) (by omega)) gX5_digest_X5_best rfl rfl rfl (by decide +kernel) ⟨Nat.le_of_ble_eq_true rfl, Nat.le_of_ble_eq_true rfl⟩ 0 rfl rfl [0, 1, 2, 3, 4, 5, 6, 14, 15, 16, 17] [7, 8, 9, 10, 11, 12, 13] [7, 8, 9, 10, 11, 12, 13, 0, 1, 2, 3, 4, 5, 6, 14, 15, 16, 17] (wr := [oP pg pq ((pn : Nat) : Int), aI cI pq 25 P, oH h hh hq hl hw ((m : Nat) : Int), aI cI hh 6 HH, aI cI hq 6 HO, aI cI hl 6 HL, aI cI hw 6 HW]) rfl rfl (by decide) (by decide) (fun _ => rfl) (wN := fun u_77_11 => [oG g pg ki ((nh : Nat) : Int) rd a kp ik no su, aI cI ki 5 K, oA a le s h ch, aI cI le 5 V, oS s hr lo ((n : Nat) : Int), aI cI hr 6 SH, aI cI lo 6 SL, oP pg pq ((pn : Nat) : Int), aI cI pq 25 P, oH h hh hq hl hw ((m : Nat) : Int), aI cI hh 6 HH, aI cI hq 6 HO, aI cI hl 6 HL, aI cI hw 6 HW, oT no qn, aI cI qn 12 u_77_11.1, oT su qs, aI cI qs 12 u_77_11.2]) (fun _ => rfl) (stN := fun u_77_11 => [.int (jI (sp_best nh K V (sp_sum SH SL n) 5 1)), .long (31 * (31 * hv + ((jI (sp_dn K V (sp_sum SH SL n) nh (2 ^ nh - 1) 2)).toInt64)) + ((jI (sp_bh K V (sp_sum SH SL n) nh 5 10)).toInt64))]) (fun _ => rfl) rfl (Nat.le_of_ble_eq_true rfl) rfl dX5_digest_77 (fun u_77_11 hu_77_11 => ?_)
          refine jw_top (y := jI (sp_bm K V (sp_sum SH SL n) nh 5 10)) (congrArg jI (by unfold sp_best; rw [if_pos (by omega), if_pos (by omega), if_neg (by decide)])) ?_
          refine jw_i2l (pc := 80) C ((jI (sp_bm K V (sp_sum SH SL n) nh 5 10)).toInt64) dX5_digest_80 rfl ?_
          refine jw_callRS (pc := 81) C [.long ((31 * (31 * hv + ((jI (sp_dn K V (sp_sum SH SL n) nh (2 ^ nh - 1) 2)).toInt64)) + ((jI (sp_bh K V (sp_sum SH SL n) nh 5 10)).toInt64))), .long (((jI (sp_bm K V (sp_sum SH SL n) nh 5 10)).toInt64))] [] 2 (con_X5_mix lau D cI cB (31 * (31 * hv + ((jI (sp_dn K V (sp_sum SH SL n) nh (2 ^ nh - 1) 2)).toInt64)) + ((jI (sp_bh K V (sp_sum SH SL n) nh 5 10)).toInt64)) ((jI (sp_bm K V (sp_sum SH SL n) nh 5 10)).toInt64) ) gX5_digest_X5_mix rfl rfl rfl (by decide +kernel) ⟨Nat.le_of_ble_eq_true rfl, Nat.le_of_ble_eq_true rfl⟩ [] rfl rfl (Nat.le_of_ble_eq_true rfl) rfl dX5_digest_81 ?_
          refine jw_lstore_n (pc := 84) (lv' := [(1, .long (31 * (31 * (31 * hv + ((jI (sp_dn K V (sp_sum SH SL n) nh (2 ^ nh - 1) 2)).toInt64)) + ((jI (sp_bh K V (sp_sum SH SL n) nh 5 10)).toInt64)) + ((jI (sp_bm K V (sp_sum SH SL n) nh 5 10)).toInt64))), (0, .ref g), (3, .int (jI ((i : Nat) : Int)))]) C dX5_digest_84 (by decide) rfl ?_
          refine jw_lload_n (pc := 85) C dX5_digest_85 0 rfl ?_
          refine jw_aload_n (pc := 86) C dX5_digest_86 1 rfl ?_
          refine jw_callWV (pc := 87) C [] [.long (31 * (31 * (31 * hv + ((jI (sp_dn K V (sp_sum SH SL n) nh (2 ^ nh - 1) 2)).toInt64)) + ((jI (sp_bh K V (sp_sum SH SL n) nh 5 10)).toInt64)) + ((jI (sp_bm K V (sp_sum SH SL n) nh 5 10)).toInt64))] 0 (con_X5_hours lau D cI cB g pg ki nh rd a kp ik no su K le s h ch V hr lo n SH SL hh hq hl hw m HH HO HL HW qn u_77_11.1 qs u_77_11.2 (by omega) (by omega) hS hK hV (by omega) hH) gX5_digest_X5_hours rfl rfl rfl (by decide +kernel) ⟨Nat.le_of_ble_eq_true rfl, Nat.le_of_ble_eq_true rfl⟩ 0 rfl rfl [0, 1, 2, 3, 4, 5, 6, 9, 10, 11, 12, 13, 14, 15, 16, 17] [7, 8] [2, 3, 4, 5, 6, 7, 8, 0, 1, 9, 10, 11, 12, 13, 14, 15, 16, 17] (wr := [oP pg pq ((pn : Nat) : Int), aI cI pq 25 P]) rfl rfl (by decide) (by decide) (fun _ => rfl) (wN := fun u_87_12 => [oG g pg ki ((nh : Nat) : Int) rd a kp ik no su, aI cI ki 5 K, oA a le s h ch, aI cI le 5 V, oS s hr lo ((n : Nat) : Int), aI cI hr 6 SH, aI cI lo 6 SL, oP pg pq ((pn : Nat) : Int), aI cI pq 25 P, oH h hh hq hl hw ((m : Nat) : Int), aI cI hh 6 HH, aI cI hq 6 HO, aI cI hl 6 HL, aI cI hw 6 HW, oT no qn, aI cI qn 12 u_87_12.1, oT su qs, aI cI qs 12 u_87_12.2]) (fun _ => rfl) (stN := fun u_87_12 => [.int (jI (sp_hours nh K V (sp_sum SH SL n) HH HO HL HW m)), .long (31 * (31 * (31 * hv + ((jI (sp_dn K V (sp_sum SH SL n) nh (2 ^ nh - 1) 2)).toInt64)) + ((jI (sp_bh K V (sp_sum SH SL n) nh 5 10)).toInt64)) + ((jI (sp_bm K V (sp_sum SH SL n) nh 5 10)).toInt64))]) (fun _ => rfl) rfl (Nat.le_of_ble_eq_true rfl) rfl dX5_digest_87 (fun u_87_12 hu_87_12 => ?_)
          refine jw_top (y := jI (((sp_hrs K V (sp_sum SH SL n) HH HO HL HW m : Nat) : Int))) (congrArg jI (if_pos (by omega))) ?_
          refine jw_i2l (pc := 90) C ((jI (((sp_hrs K V (sp_sum SH SL n) HH HO HL HW m : Nat) : Int))).toInt64) dX5_digest_90 rfl ?_
          refine jw_callRS (pc := 91) C [.long ((31 * (31 * (31 * hv + ((jI (sp_dn K V (sp_sum SH SL n) nh (2 ^ nh - 1) 2)).toInt64)) + ((jI (sp_bh K V (sp_sum SH SL n) nh 5 10)).toInt64)) + ((jI (sp_bm K V (sp_sum SH SL n) nh 5 10)).toInt64))), .long (((jI (((sp_hrs K V (sp_sum SH SL n) HH HO HL HW m : Nat) : Int))).toInt64))] [] 2 (con_X5_mix lau D cI cB (31 * (31 * (31 * hv + ((jI (sp_dn K V (sp_sum SH SL n) nh (2 ^ nh - 1) 2)).toInt64)) + ((jI (sp_bh K V (sp_sum SH SL n) nh 5 10)).toInt64)) + ((jI (sp_bm K V (sp_sum SH SL n) nh 5 10)).toInt64)) ((jI (((sp_hrs K V (sp_sum SH SL n) HH HO HL HW m : Nat) : Int))).toInt64) ) gX5_digest_X5_mix rfl rfl rfl (by decide +kernel) ⟨Nat.le_of_ble_eq_true rfl, Nat.le_of_ble_eq_true rfl⟩ [] rfl rfl (Nat.le_of_ble_eq_true rfl) rfl dX5_digest_91 ?_
          refine jw_lstore_n (pc := 94) (lv' := [(1, .long (31 * (31 * (31 * (31 * hv + ((jI (sp_dn K V (sp_sum SH SL n) nh (2 ^ nh - 1) 2)).toInt64)) + ((jI (sp_bh K V (sp_sum SH SL n) nh 5 10)).toInt64)) + ((jI (sp_bm K V (sp_sum SH SL n) nh 5 10)).toInt64)) + ((jI (((sp_hrs K V (sp_sum SH SL n) HH HO HL HW m : Nat) : Int))).toInt64))), (0, .ref g), (3, .int (jI ((i : Nat) : Int)))]) C dX5_digest_94 (by decide) rfl ?_
          refine jw_lload_n (pc := 95) C dX5_digest_95 0 rfl ?_
          refine jw_aload_n (pc := 96) C dX5_digest_96 1 rfl ?_
          refine jw_iconst (pc := 97) C dX5_digest_97 ?_
          refine jw_callWV (pc := 98) C [.int (jI 4)] [.long (31 * (31 * (31 * (31 * hv + ((jI (sp_dn K V (sp_sum SH SL n) nh (2 ^ nh - 1) 2)).toInt64)) + ((jI (sp_bh K V (sp_sum SH SL n) nh 5 10)).toInt64)) + ((jI (sp_bm K V (sp_sum SH SL n) nh 5 10)).toInt64)) + ((jI (((sp_hrs K V (sp_sum SH SL n) HH HO HL HW m : Nat) : Int))).toInt64))] 1 (con_X5_ask lau D cI cB g pg ki nh rd a kp ik no su K le s h ch V hr lo n SH SL hh hq hl hw m HH HO HL HW qn u_87_12.1 qs u_87_12.2 4 (by omega) (by omega) hS hK hV (by omega) hH (by omega)) gX5_digest_X5_ask rfl rfl rfl (by decide +kernel) ⟨Nat.le_of_ble_eq_true rfl, Nat.le_of_ble_eq_true rfl⟩ 0 rfl rfl [0, 1, 2, 3, 4, 5, 6, 9, 10, 11, 12, 13, 14, 15, 16, 17] [7, 8] [2, 3, 4, 5, 6, 7, 8, 0, 1, 9, 10, 11, 12, 13, 14, 15, 16, 17] (wr := [oP pg pq ((pn : Nat) : Int), aI cI pq 25 P]) rfl rfl (by decide) (by decide) (fun _ => rfl) (wN := fun u_98_13 => [oG g pg ki ((nh : Nat) : Int) rd a kp ik no su, aI cI ki 5 K, oA a le s h ch, aI cI le 5 V, oS s hr lo ((n : Nat) : Int), aI cI hr 6 SH, aI cI lo 6 SL, oP pg pq ((pn : Nat) : Int), aI cI pq 25 P, oH h hh hq hl hw ((m : Nat) : Int), aI cI hh 6 HH, aI cI hq 6 HO, aI cI hl 6 HL, aI cI hw 6 HW, oT no qn, aI cI qn 12 u_98_13.1, oT su qs, aI cI qs 12 u_98_13.2]) (fun _ => rfl) (stN := fun u_98_13 => [.int (jI (sp_ask nh K V (sp_sum SH SL n) HH HO HL HW m 4)), .long (31 * (31 * (31 * (31 * hv + ((jI (sp_dn K V (sp_sum SH SL n) nh (2 ^ nh - 1) 2)).toInt64)) + ((jI (sp_bh K V (sp_sum SH SL n) nh 5 10)).toInt64)) + ((jI (sp_bm K V (sp_sum SH SL n) nh 5 10)).toInt64)) + ((jI (((sp_hrs K V (sp_sum SH SL n) HH HO HL HW m : Nat) : Int))).toInt64))]) (fun _ => rfl) rfl (Nat.le_of_ble_eq_true rfl) rfl dX5_digest_98 (fun u_98_13 hu_98_13 => ?_)
          refine jw_top (y := jI (sp_askv K V (sp_sum SH SL n) nh (sp_hrs K V (sp_sum SH SL n) HH HO HL HW m) m (HL (m - 1)) 4)) (congrArg jI (by unfold sp_ask; rw [if_pos (by omega), if_pos (by omega)]; rfl)) ?_
          refine jw_i2l (pc := 101) C ((jI (sp_askv K V (sp_sum SH SL n) nh (sp_hrs K V (sp_sum SH SL n) HH HO HL HW m) m (HL (m - 1)) 4)).toInt64) dX5_digest_101 rfl ?_
          refine jw_callRS (pc := 102) C [.long ((31 * (31 * (31 * (31 * hv + ((jI (sp_dn K V (sp_sum SH SL n) nh (2 ^ nh - 1) 2)).toInt64)) + ((jI (sp_bh K V (sp_sum SH SL n) nh 5 10)).toInt64)) + ((jI (sp_bm K V (sp_sum SH SL n) nh 5 10)).toInt64)) + ((jI (((sp_hrs K V (sp_sum SH SL n) HH HO HL HW m : Nat) : Int))).toInt64))), .long (((jI (sp_askv K V (sp_sum SH SL n) nh (sp_hrs K V (sp_sum SH SL n) HH HO HL HW m) m (HL (m - 1)) 4)).toInt64))] [] 2 (con_X5_mix lau D cI cB (31 * (31 * (31 * (31 * hv + ((jI (sp_dn K V (sp_sum SH SL n) nh (2 ^ nh - 1) 2)).toInt64)) + ((jI (sp_bh K V (sp_sum SH SL n) nh 5 10)).toInt64)) + ((jI (sp_bm K V (sp_sum SH SL n) nh 5 10)).toInt64)) + ((jI (((sp_hrs K V (sp_sum SH SL n) HH HO HL HW m : Nat) : Int))).toInt64)) ((jI (sp_askv K V (sp_sum SH SL n) nh (sp_hrs K V (sp_sum SH SL n) HH HO HL HW m) m (HL (m - 1)) 4)).toInt64) ) gX5_digest_X5_mix rfl rfl rfl (by decide +kernel) ⟨Nat.le_of_ble_eq_true rfl, Nat.le_of_ble_eq_true rfl⟩ [] rfl rfl (Nat.le_of_ble_eq_true rfl) rfl dX5_digest_102 ?_
          refine jw_lstore_n (pc := 105) (lv' := [(1, .long (31 * (31 * (31 * (31 * (31 * hv + ((jI (sp_dn K V (sp_sum SH SL n) nh (2 ^ nh - 1) 2)).toInt64)) + ((jI (sp_bh K V (sp_sum SH SL n) nh 5 10)).toInt64)) + ((jI (sp_bm K V (sp_sum SH SL n) nh 5 10)).toInt64)) + ((jI (((sp_hrs K V (sp_sum SH SL n) HH HO HL HW m : Nat) : Int))).toInt64)) + ((jI (sp_askv K V (sp_sum SH SL n) nh (sp_hrs K V (sp_sum SH SL n) HH HO HL HW m) m (HL (m - 1)) 4)).toInt64))), (0, .ref g), (3, .int (jI ((i : Nat) : Int)))]) C dX5_digest_105 (by decide) rfl ?_
          refine jw_iconst (pc := 106) C dX5_digest_106 ?_
          refine jw_istore_n (pc := 107) (lv' := [(3, .int (jI 0)), (1, .long (31 * (31 * (31 * (31 * (31 * hv + ((jI (sp_dn K V (sp_sum SH SL n) nh (2 ^ nh - 1) 2)).toInt64)) + ((jI (sp_bh K V (sp_sum SH SL n) nh 5 10)).toInt64)) + ((jI (sp_bm K V (sp_sum SH SL n) nh 5 10)).toInt64)) + ((jI (((sp_hrs K V (sp_sum SH SL n) HH HO HL HW m : Nat) : Int))).toInt64)) + ((jI (sp_askv K V (sp_sum SH SL n) nh (sp_hrs K V (sp_sum SH SL n) HH HO HL HW m) m (HL (m - 1)) 4)).toInt64))), (0, .ref g)]) C dX5_digest_107 (by decide) rfl ?_
          have lp_108_14 : ∀ (fu : Nat) (j : Nat) (hv2 : Int64), (j ≤ pn) → (hv2 = sp_mf P j (if 0 < nh then sp_dg2 nh K V (sp_sum SH SL n) HH HO HL HW m (sp_dg1 nh n K V (sp_sum SH SL n) SH SL) else sp_dg1 nh n K V (sp_sum SH SL n) SH SL)) → pn - j < fu → jW X 108 [(0, .ref g), (1, .long hv2), (3, .int (jI ((j : Nat) : Int)))] [] [oG g pg ki ((nh : Nat) : Int) rd a kp ik no su, aI cI ki 5 K, oA a le s h ch, aI cI le 5 V, oS s hr lo ((n : Nat) : Int), aI cI hr 6 SH, aI cI lo 6 SL, oP pg pq ((pn : Nat) : Int), aI cI pq 25 P, oH h hh hq hl hw ((m : Nat) : Int), aI cI hh 6 HH, aI cI hq 6 HO, aI cI hl 6 HL, aI cI hw 6 HW, oT no qn, aI cI qn 12 u_98_13.1, oT su qs, aI cI qs 12 u_98_13.2] := by
            intro fu
            induction fu with
            | zero => intro j hv2 hj hh2 hm; exact absurd hm (Nat.not_lt_zero _)
            | succ fu ih_15 =>
              intro j hv2 hj hh2 hm
              refine jw_iload_n (pc := 108) C dX5_digest_108 2 rfl ?_
              refine jw_aload_n (pc := 109) C dX5_digest_109 0 rfl ?_
              refine jw_get (pc := 110) C hi_X5_digest_X5 0 rfl rfl 0 (by decide) fl_X5_digest_10 rfl rfl dX5_digest_110 ?_
              refine jw_callRV (pc := 113) C [] [.int (jI ((j : Nat) : Int))] 0 (con_X2_size lau D cI cB pg pq pn ) gX5_digest_X2_size rfl rfl rfl (by decide +kernel) ⟨Nat.le_of_ble_eq_true rfl, Nat.le_of_ble_eq_true rfl⟩ 7 rfl rfl [7] rfl rfl (Nat.le_of_ble_eq_true rfl) rfl dX5_digest_113 ?_
              refine jw_icmp_ge (pc := 116) (tgt := 139) C dX5_digest_116 (by decide) (by omega) (by omega) (fun c_116 => ?_) (fun c_116 => ?_)
              · -- 116 t
                refine jw_iconst (pc := 139) C dX5_digest_139 ?_
                refine jw_istore_n (pc := 140) (lv' := [(3, .int (jI 0)), (0, .ref g), (1, .long hv2)]) C dX5_digest_140 (by decide) rfl ?_
                have lp_141_16 : ∀ (fu : Nat) (w : Nat) (hv3 : Int64) (c3 : Nat → Int), (w ≤ 9) → (hv3 = sp_mf (fun w => sp_count nh n K V (sp_sum SH SL n) ch m pn rd ((w : Nat) : Int)) w (sp_mf P pn (if 0 < nh then sp_dg2 nh K V (sp_sum SH SL n) HH HO HL HW m (sp_dg1 nh n K V (sp_sum SH SL n) SH SL) else sp_dg1 nh n K V (sp_sum SH SL n) SH SL))) → 9 - w < fu → jW X 141 [(0, .ref g), (1, .long hv3), (3, .int (jI ((w : Nat) : Int)))] [] [oG g pg ki ((nh : Nat) : Int) rd a kp ik no su, aI cI ki 5 K, oA a le s h ch, aI cI le 5 V, oS s hr lo ((n : Nat) : Int), aI cI hr 6 SH, aI cI lo 6 SL, oP pg pq ((pn : Nat) : Int), aI cI pq 25 P, oH h hh hq hl hw ((m : Nat) : Int), aI cI hh 6 HH, aI cI hq 6 HO, aI cI hl 6 HL, aI cI hw 6 HW, oT no qn, aI cI qn 12 c3, oT su qs, aI cI qs 12 u_98_13.2] := by
                  intro fu
                  induction fu with
                  | zero => intro w hv3 c3 hw9 hh3 hm; exact absurd hm (Nat.not_lt_zero _)
                  | succ fu ih_17 =>
                    intro w hv3 c3 hw9 hh3 hm
                    refine jw_iload_n (pc := 141) C dX5_digest_141 2 rfl ?_
                    refine jw_bipush (pc := 142) C dX5_digest_142 (by decide +kernel) ?_
                    refine jw_icmp_gt (pc := 144) (tgt := 164) C dX5_digest_144 (by decide) (by omega) (by omega) (fun c_144 => ?_) (fun c_144 => ?_)
                    · -- 144 t
                      refine jw_lload_n (pc := 164) C dX5_digest_164 1 rfl ?_
                      exact jw_lretW (pc := 165) C E dX5_digest_165 (((c3), (u_98_13.2))) (by rw [hh3, show w = 9 by omega]; rfl) trivial rfl
                    · -- 144 f
                      refine jw_lload_n (pc := 147) C dX5_digest_147 1 rfl ?_
                      refine jw_aload_n (pc := 148) C dX5_digest_148 0 rfl ?_
                      refine jw_iload_n (pc := 149) C dX5_digest_149 2 rfl ?_
                      refine jw_callWV (pc := 150) C [.int (jI ((((w : Nat) : Int))))] [.long hv3] 1 (con_X5_count lau D cI cB g pg ki nh rd a kp ik no su K le s h ch V hr lo n SH SL pq pn hh hq hl hw m qn c3 (((w : Nat) : Int)) (by omega) (by omega) hS hK hV (by omega)) gX5_digest_X5_count rfl rfl rfl (by decide +kernel) ⟨Nat.le_of_ble_eq_true rfl, Nat.le_of_ble_eq_true rfl⟩ 0 rfl rfl [0, 1, 2, 3, 4, 5, 6, 7, 9, 14, 15] [8, 10, 11, 12, 13, 16, 17] [7, 8, 9, 10, 11, 12, 13, 14, 0, 15, 1, 2, 3, 4, 16, 17, 5, 6] (wr := [aI cI pq 25 P, aI cI hh 6 HH, aI cI hq 6 HO, aI cI hl 6 HL, aI cI hw 6 HW, oT su qs, aI cI qs 12 u_98_13.2]) rfl rfl (by decide) (by decide) (fun _ => rfl) (wN := fun u_150_18 => [oG g pg ki ((nh : Nat) : Int) rd a kp ik no su, aI cI ki 5 K, oA a le s h ch, aI cI le 5 V, oS s hr lo ((n : Nat) : Int), aI cI hr 6 SH, aI cI lo 6 SL, oP pg pq ((pn : Nat) : Int), aI cI pq 25 P, oH h hh hq hl hw ((m : Nat) : Int), aI cI hh 6 HH, aI cI hq 6 HO, aI cI hl 6 HL, aI cI hw 6 HW, oT no qn, aI cI qn 12 u_150_18, oT su qs, aI cI qs 12 u_98_13.2]) (fun _ => rfl) (stN := fun u_150_18 => [.int (jI (sp_count nh n K V (sp_sum SH SL n) ch m pn rd (((w : Nat) : Int)))), .long hv3]) (fun _ => rfl) rfl (Nat.le_of_ble_eq_true rfl) rfl dX5_digest_150 (fun u_150_18 hu_150_18 => ?_)
                      refine jw_i2l (pc := 153) C ((jI (sp_count nh n K V (sp_sum SH SL n) ch m pn rd (((w : Nat) : Int)))).toInt64) dX5_digest_153 rfl ?_
                      refine jw_callRS (pc := 154) C [.long hv3, .long (((jI (sp_count nh n K V (sp_sum SH SL n) ch m pn rd (((w : Nat) : Int)))).toInt64))] [] 2 (con_X5_mix lau D cI cB hv3 ((jI (sp_count nh n K V (sp_sum SH SL n) ch m pn rd (((w : Nat) : Int)))).toInt64) ) gX5_digest_X5_mix rfl rfl rfl (by decide +kernel) ⟨Nat.le_of_ble_eq_true rfl, Nat.le_of_ble_eq_true rfl⟩ [] rfl rfl (Nat.le_of_ble_eq_true rfl) rfl dX5_digest_154 ?_
                      refine jw_lstore_n (pc := 157) (lv' := [(1, .long (31 * hv3 + ((jI (sp_count nh n K V (sp_sum SH SL n) ch m pn rd (((w : Nat) : Int)))).toInt64))), (0, .ref g), (3, .int (jI ((w : Nat) : Int)))]) C dX5_digest_157 (by decide) rfl ?_
                      refine jw_iinc (pc := 158) (z := ((w + 1 : Nat) : Int)) (lv' := [(3, .int (jI ((w + 1 : Nat) : Int))), (1, .long (31 * hv3 + ((jI (sp_count nh n K V (sp_sum SH SL n) ch m pn rd (((w : Nat) : Int)))).toInt64))), (0, .ref g)]) C dX5_digest_158 2 rfl (by omega) (by decide) rfl ?_
                      refine jw_goto (pc := 161) (tgt := 141) C dX5_digest_161 (by decide) ?_
                      refine jw_lv [2, 1, 0] rfl ?_
                      exact ih_17 (w + 1) (31 * hv3 + ((jI (sp_count nh n K V (sp_sum SH SL n) ch m pn rd (((w : Nat) : Int)))).toInt64)) u_150_18 (by omega) (by rw [hh3]; rfl) (by omega)
                refine jw_lv [1, 2, 0] rfl ?_
                exact lp_141_16 ((9 - 0) + 1) 0 hv2 u_98_13.1 (by omega) (by rw [hh2, show j = pn by omega]; rfl) (Nat.lt_succ_self _)
              · -- 116 f
                refine jw_lload_n (pc := 119) C dX5_digest_119 1 rfl ?_
                refine jw_aload_n (pc := 120) C dX5_digest_120 0 rfl ?_
                refine jw_get (pc := 121) C hi_X5_digest_X5 0 rfl rfl 0 (by decide) fl_X5_digest_10 rfl rfl dX5_digest_121 ?_
                refine jw_iload_n (pc := 124) C dX5_digest_124 2 rfl ?_
                refine jw_callRV (pc := 125) C [.int (jI ((((j : Nat) : Int))))] [.long hv2] 1 (con_X2_at lau D cI cB pg pq pn P (((j : Nat) : Int)) (by omega) (by omega) hP) gX5_digest_X2_at rfl rfl rfl (by decide +kernel) ⟨Nat.le_of_ble_eq_true rfl, Nat.le_of_ble_eq_true rfl⟩ 7 rfl rfl [7, 8] rfl rfl (Nat.le_of_ble_eq_true rfl) rfl dX5_digest_125 ?_
                have b_125_0 := sp_pa_b hP (((j : Nat) : Int))
                refine jw_top (y := jI (P j)) (congrArg jI (sp_pa_nat P (by omega))) ?_
                refine jw_i2l (pc := 128) C ((jI (P j)).toInt64) dX5_digest_128 rfl ?_
                refine jw_callRS (pc := 129) C [.long hv2, .long (((jI (P j)).toInt64))] [] 2 (con_X5_mix lau D cI cB hv2 ((jI (P j)).toInt64) ) gX5_digest_X5_mix rfl rfl rfl (by decide +kernel) ⟨Nat.le_of_ble_eq_true rfl, Nat.le_of_ble_eq_true rfl⟩ [] rfl rfl (Nat.le_of_ble_eq_true rfl) rfl dX5_digest_129 ?_
                refine jw_lstore_n (pc := 132) (lv' := [(1, .long (31 * hv2 + ((jI (P j)).toInt64))), (0, .ref g), (3, .int (jI ((j : Nat) : Int)))]) C dX5_digest_132 (by decide) rfl ?_
                refine jw_iinc (pc := 133) (z := ((j + 1 : Nat) : Int)) (lv' := [(3, .int (jI ((j + 1 : Nat) : Int))), (1, .long (31 * hv2 + ((jI (P j)).toInt64))), (0, .ref g)]) C dX5_digest_133 2 rfl (by omega) (by decide) rfl ?_
                refine jw_goto (pc := 136) (tgt := 108) C dX5_digest_136 (by decide) ?_
                refine jw_lv [2, 1, 0] rfl ?_
                exact ih_15 (j + 1) (31 * hv2 + ((jI (P j)).toInt64)) (by omega) (by rw [hh2]; rfl) (by omega)
          refine jw_lv [2, 1, 0] rfl ?_
          exact lp_108_14 ((pn - 0) + 1) 0 (31 * (31 * (31 * (31 * (31 * hv + ((jI (sp_dn K V (sp_sum SH SL n) nh (2 ^ nh - 1) 2)).toInt64)) + ((jI (sp_bh K V (sp_sum SH SL n) nh 5 10)).toInt64)) + ((jI (sp_bm K V (sp_sum SH SL n) nh 5 10)).toInt64)) + ((jI (((sp_hrs K V (sp_sum SH SL n) HH HO HL HW m : Nat) : Int))).toInt64)) + ((jI (sp_askv K V (sp_sum SH SL n) nh (sp_hrs K V (sp_sum SH SL n) HH HO HL HW m) m (HL (m - 1)) 4)).toInt64)) (by omega) (by first | (rw [if_pos (by omega), hhv, show i = 12 by omega]; rfl) | (rw [if_neg (by omega)]; rfl)) (Nat.lt_succ_self _)
        · -- 26 f
          refine jw_lload_n (pc := 29) C dX5_digest_29 1 rfl ?_
          refine jw_aload_n (pc := 30) C dX5_digest_30 0 rfl ?_
          refine jw_iload_n (pc := 31) C dX5_digest_31 2 rfl ?_
          refine jw_callWV (pc := 32) C [.int (jI ((((i : Nat) : Int))))] [.long hv] 1 (con_X5_tide lau D cI cB g pg ki nh rd a kp ik no su le s h ch hr lo n SH SL qn c (((i : Nat) : Int)) (by omega) (by omega) hS (by omega)) gX5_digest_X5_tide rfl rfl rfl (by decide +kernel) ⟨Nat.le_of_ble_eq_true rfl, Nat.le_of_ble_eq_true rfl⟩ 0 rfl rfl [0, 2, 4, 5, 6, 14, 15] [1, 3, 7, 8, 9, 10, 11, 12, 13, 16, 17] [11, 0, 12, 1, 13, 14, 15, 2, 3, 4, 5, 6, 7, 8, 16, 17, 9, 10] (wr := [aI cI ki 5 K, aI cI le 5 V, oP pg pq ((pn : Nat) : Int), aI cI pq 25 P, oH h hh hq hl hw ((m : Nat) : Int), aI cI hh 6 HH, aI cI hq 6 HO, aI cI hl 6 HL, aI cI hw 6 HW, oT su qs, aI cI qs 12 g0]) rfl rfl (by decide) (by decide) (fun _ => rfl) (wN := fun u_32_19 => [oG g pg ki ((nh : Nat) : Int) rd a kp ik no su, aI cI ki 5 K, oA a le s h ch, aI cI le 5 V, oS s hr lo ((n : Nat) : Int), aI cI hr 6 SH, aI cI lo 6 SL, oP pg pq ((pn : Nat) : Int), aI cI pq 25 P, oH h hh hq hl hw ((m : Nat) : Int), aI cI hh 6 HH, aI cI hq 6 HO, aI cI hl 6 HL, aI cI hw 6 HW, oT no qn, aI cI qn 12 u_32_19, oT su qs, aI cI qs 12 g0]) (fun _ => rfl) (stN := fun u_32_19 => [.int (jI (sp_tide nh (sp_sum SH SL n) (((i : Nat) : Int)))), .long hv]) (fun _ => rfl) rfl (Nat.le_of_ble_eq_true rfl) rfl dX5_digest_32 (fun u_32_19 hu_32_19 => ?_)
          refine jw_top (y := jI (sp_cap ((sp_sum SH SL n) i))) (congrArg jI (by unfold sp_tide; rw [if_pos (by omega), if_pos (by omega)]; simp only [Int.toNat_natCast])) ?_
          refine jw_i2l (pc := 35) C ((jI (sp_cap ((sp_sum SH SL n) i))).toInt64) dX5_digest_35 rfl ?_
          refine jw_callRS (pc := 36) C [.long hv, .long (((jI (sp_cap ((sp_sum SH SL n) i))).toInt64))] [] 2 (con_X5_mix lau D cI cB hv ((jI (sp_cap ((sp_sum SH SL n) i))).toInt64) ) gX5_digest_X5_mix rfl rfl rfl (by decide +kernel) ⟨Nat.le_of_ble_eq_true rfl, Nat.le_of_ble_eq_true rfl⟩ [] rfl rfl (Nat.le_of_ble_eq_true rfl) rfl dX5_digest_36 ?_
          refine jw_lstore_n (pc := 39) (lv' := [(1, .long (31 * hv + ((jI (sp_cap ((sp_sum SH SL n) i))).toInt64))), (0, .ref g), (3, .int (jI ((i : Nat) : Int)))]) C dX5_digest_39 (by decide) rfl ?_
          refine jw_iinc (pc := 40) (z := ((i + 1 : Nat) : Int)) (lv' := [(3, .int (jI ((i + 1 : Nat) : Int))), (1, .long (31 * hv + ((jI (sp_cap ((sp_sum SH SL n) i))).toInt64))), (0, .ref g)]) C dX5_digest_40 2 rfl (by omega) (by decide) rfl ?_
          refine jw_goto (pc := 43) (tgt := 23) C dX5_digest_43 (by decide) ?_
          refine jw_lv [2, 1, 0] rfl ?_
          exact ih_8 (i + 1) (31 * hv + ((jI (sp_cap ((sp_sum SH SL n) i))).toInt64)) u_32_19 (by omega) (by rw [hhv]; rfl) (by omega)
    refine jw_lv [2, 1, 0] rfl ?_
    exact lp_23_7 ((12 - 0) + 1) 0 (sp_dgs (sp_sA SH SL) n (sp_dgh (sp_hA K V (sp_sum SH SL n)) nh 1091)) u_4_1 (by omega) rfl (Nat.lt_succ_self _)
