theorem sp_dgh_in {A : Nat → Int → Int} {e : Nat} {h0 : Int64} : sp_in (fun q => A e q) (sp_dgh A e h0) 22 = sp_dgh A (e + 1) h0 := by
  unfold sp_in
  rw [if_neg (by decide), if_neg (by decide)]
  rfl
theorem sp_dgs_3 {A : Nat → Int → Int} {e : Nat} {h0 : Int64} : sp_mf (fun q => A e ((q : Nat) : Int)) 3 (sp_dgs A e h0) = sp_dgs A (e + 1) h0 := rfl
theorem sp_mf_s {a : Nat → Int} {i : Nat} {h : Int64} : 31 * sp_mf a i h + (jI (a i)).toInt64 = sp_mf a (i + 1) h := rfl
theorem sp_dg2_eq {nh : Nat} {K V R HH HO HL HW : Nat → Int} {m : Nat} {h : Int64} : 31 * (31 * (31 * (31 * (31 * sp_mf (fun i => sp_cap (R i)) 12 h + (jI (sp_dn K V R nh (2 ^ nh - 1) 2)).toInt64) + (jI (sp_bh K V R nh 5 10)).toInt64) + (jI (sp_bm K V R nh 5 10)).toInt64) + (jI ((sp_hrs K V R HH HO HL HW m : Nat) : Int)).toInt64) + (jI (sp_askv K V R nh (sp_hrs K V R HH HO HL HW m) m (HL (m - 1)) 4)).toInt64 = sp_dg2 nh K V R HH HO HL HW m h := rfl
theorem sp_dg_eq {nh ns : Nat} {K V R SH SL HH HO HL HW : Nat → Int} {m : Nat} {ch : Int} {pn : Nat} {P : Nat → Int} {rd : Int} : sp_mf (fun w => sp_count nh ns K V R ch m pn rd ((w : Nat) : Int)) 9 (sp_mf P pn (if 0 < nh then sp_dg2 nh K V R HH HO HL HW m (sp_dg1 nh ns K V R SH SL) else sp_dg1 nh ns K V R SH SL)) = sp_digest nh ns K V R SH SL HH HO HL HW m ch pn P rd := rfl
theorem sp_mix_e {h : Int64} {z : Int} : 31 * h + (jI z).toInt64 = sp_mix h z := rfl
theorem sp_dg2_e {nh : Nat} {K V R HH HO HL HW : Nat → Int} {m : Nat} {h a b c d : Int64} (hA : a = sp_mix (sp_mf (fun q => sp_cap (R q)) 12 h) (sp_dn K V R nh (2 ^ nh - 1) 2)) (hB : b = sp_mix a (sp_bh K V R nh 5 10)) (hC : c = sp_mix b (sp_bm K V R nh 5 10)) (hD : d = sp_mix c ((sp_hrs K V R HH HO HL HW m : Nat) : Int)) : 31 * d + (jI (sp_askv K V R nh (sp_hrs K V R HH HO HL HW m) m (HL (m - 1)) 4)).toInt64 = sp_dg2 nh K V R HH HO HL HW m h := by
  rw [sp_mix_e, hD, hC, hB, hA]; rfl
