section
-- ===== PART A: goes FIRST, ahead of the names: the tables' words, and 'selects' of the private methods out of them =====
/-- a private method of a class that the tables say can be made, by its rows of tables_1 -/
def lw_okq (q : MethodName × Nat) : Prop := (q.1.cls ≠ "java/lang/invoke/MethodHandle" ∧ q.1.cls ≠ "java/lang/invoke/VarHandle") ∧ Cond.instantiable q.1.cls q.2 ∈ tables_1 ∧ Cond.privateMethod q.1 ∈ tables_1 ∧ Cond.instanceMethod q.1 ∈ tables_1
theorem lw_p0 : lw_okq (⟨"GongTide", "isHouse", "(I)Z"⟩, 9) := ⟨⟨by decide +kernel, by decide +kernel⟩, List.mem_of_getElem? (i := 10) (by decide +kernel), List.mem_of_getElem? (i := 220) (by decide +kernel), List.mem_of_getElem? (i := 221) (by decide +kernel)⟩
theorem lw_p1 : lw_okq (⟨"GongTide", "tideNow", "()LGongTide$Tide;"⟩, 9) := ⟨⟨by decide +kernel, by decide +kernel⟩, List.mem_of_getElem? (i := 10) (by decide +kernel), List.mem_of_getElem? (i := 224) (by decide +kernel), List.mem_of_getElem? (i := 225) (by decide +kernel)⟩
theorem lw_p2 : lw_okq (⟨"GongTide", "kindAt", "(I)I"⟩, 9) := ⟨⟨by decide +kernel, by decide +kernel⟩, List.mem_of_getElem? (i := 10) (by decide +kernel), List.mem_of_getElem? (i := 256) (by decide +kernel), List.mem_of_getElem? (i := 257) (by decide +kernel)⟩
theorem lw_p3 : lw_okq (⟨"GongTide", "hoursOf", "(IILGongTide$Tide;)I"⟩, 9) := ⟨⟨by decide +kernel, by decide +kernel⟩, List.mem_of_getElem? (i := 10) (by decide +kernel), List.mem_of_getElem? (i := 264) (by decide +kernel), List.mem_of_getElem? (i := 265) (by decide +kernel)⟩
theorem lw_p4 : lw_okq (⟨"GongTide", "mannersAt", "(ILGongTide$Tide;I)I"⟩, 9) := ⟨⟨by decide +kernel, by decide +kernel⟩, List.mem_of_getElem? (i := 10) (by decide +kernel), List.mem_of_getElem? (i := 268) (by decide +kernel), List.mem_of_getElem? (i := 269) (by decide +kernel)⟩
theorem lw_p5 : lw_okq (⟨"GongTide", "hourOfMostManners", "(ILGongTide$Tide;)I"⟩, 9) := ⟨⟨by decide +kernel, by decide +kernel⟩, List.mem_of_getElem? (i := 10) (by decide +kernel), List.mem_of_getElem? (i := 287) (by decide +kernel), List.mem_of_getElem? (i := 288) (by decide +kernel)⟩
theorem lw_p6 : lw_okq (⟨"GongTide", "hasColony", "()Z"⟩, 9) := ⟨⟨by decide +kernel, by decide +kernel⟩, List.mem_of_getElem? (i := 10) (by decide +kernel), List.mem_of_getElem? (i := 306) (by decide +kernel), List.mem_of_getElem? (i := 307) (by decide +kernel)⟩
theorem lw_p7 : lw_okq (⟨"GongTide", "allHouses", "()I"⟩, 9) := ⟨⟨by decide +kernel, by decide +kernel⟩, List.mem_of_getElem? (i := 10) (by decide +kernel), List.mem_of_getElem? (i := 340) (by decide +kernel), List.mem_of_getElem? (i := 341) (by decide +kernel)⟩
theorem lw_p8 : lw_okq (⟨"GongTide", "canDine", "(ILGongTide$Tide;II)Z"⟩, 9) := ⟨⟨by decide +kernel, by decide +kernel⟩, List.mem_of_getElem? (i := 10) (by decide +kernel), List.mem_of_getElem? (i := 344) (by decide +kernel), List.mem_of_getElem? (i := 345) (by decide +kernel)⟩
theorem lw_p9 : lw_okq (⟨"GongTide", "suppose", "(LGongTide$Tide;II)LGongTide$Tide;"⟩, 9) := ⟨⟨by decide +kernel, by decide +kernel⟩, List.mem_of_getElem? (i := 10) (by decide +kernel), List.mem_of_getElem? (i := 352) (by decide +kernel), List.mem_of_getElem? (i := 353) (by decide +kernel)⟩
theorem lw_p10 : lw_okq (⟨"GongTide", "hoursOfAll", "(ILGongTide$Tide;)I"⟩, 9) := ⟨⟨by decide +kernel, by decide +kernel⟩, List.mem_of_getElem? (i := 10) (by decide +kernel), List.mem_of_getElem? (i := 360) (by decide +kernel), List.mem_of_getElem? (i := 361) (by decide +kernel)⟩
theorem lw_p11 : lw_okq (⟨"GongTide", "agreesWithHeard", "(LGongTide$Tide;I)Z"⟩, 9) := ⟨⟨by decide +kernel, by decide +kernel⟩, List.mem_of_getElem? (i := 10) (by decide +kernel), List.mem_of_getElem? (i := 385) (by decide +kernel), List.mem_of_getElem? (i := 386) (by decide +kernel)⟩
theorem lw_p12 : lw_okq (⟨"GongTide$Heard", "has", "(I)Z"⟩, 5) := ⟨⟨by decide +kernel, by decide +kernel⟩, List.mem_of_getElem? (i := 54) (by decide +kernel), List.mem_of_getElem? (i := 393) (by decide +kernel), List.mem_of_getElem? (i := 394) (by decide +kernel)⟩
theorem lw_p13 : lw_okq (⟨"GongTide", "mostLeft", "(ILGongTide$Tide;II)I"⟩, 9) := ⟨⟨by decide +kernel, by decide +kernel⟩, List.mem_of_getElem? (i := 10) (by decide +kernel), List.mem_of_getElem? (i := 415) (by decide +kernel), List.mem_of_getElem? (i := 416) (by decide +kernel)⟩
theorem lw_p14 : lw_okq (⟨"GongTide", "drawDay", "(I)I"⟩, 9) := ⟨⟨by decide +kernel, by decide +kernel⟩, List.mem_of_getElem? (i := 10) (by decide +kernel), List.mem_of_getElem? (i := 428) (by decide +kernel), List.mem_of_getElem? (i := 429) (by decide +kernel)⟩
theorem lw_p15 : lw_okq (⟨"GongTide", "digestHouses", "(J)J"⟩, 9) := ⟨⟨by decide +kernel, by decide +kernel⟩, List.mem_of_getElem? (i := 10) (by decide +kernel), List.mem_of_getElem? (i := 470) (by decide +kernel), List.mem_of_getElem? (i := 471) (by decide +kernel)⟩
def lw_privs_1 : List (MethodName × Nat) := [(⟨"GongTide", "isHouse", "(I)Z"⟩, 9), (⟨"GongTide", "tideNow", "()LGongTide$Tide;"⟩, 9), (⟨"GongTide", "kindAt", "(I)I"⟩, 9), (⟨"GongTide", "hoursOf", "(IILGongTide$Tide;)I"⟩, 9), (⟨"GongTide", "mannersAt", "(ILGongTide$Tide;I)I"⟩, 9), (⟨"GongTide", "hourOfMostManners", "(ILGongTide$Tide;)I"⟩, 9), (⟨"GongTide", "hasColony", "()Z"⟩, 9), (⟨"GongTide", "allHouses", "()I"⟩, 9), (⟨"GongTide", "canDine", "(ILGongTide$Tide;II)Z"⟩, 9), (⟨"GongTide", "suppose", "(LGongTide$Tide;II)LGongTide$Tide;"⟩, 9), (⟨"GongTide", "hoursOfAll", "(ILGongTide$Tide;)I"⟩, 9), (⟨"GongTide", "agreesWithHeard", "(LGongTide$Tide;I)Z"⟩, 9), (⟨"GongTide$Heard", "has", "(I)Z"⟩, 5), (⟨"GongTide", "mostLeft", "(ILGongTide$Tide;II)I"⟩, 9), (⟨"GongTide", "drawDay", "(I)I"⟩, 9), (⟨"GongTide", "digestHouses", "(J)J"⟩, 9)]
theorem lw_r1 : ∀ q ∈ lw_privs_1, lw_okq q := List.forall_mem_cons.mpr ⟨lw_p0, List.forall_mem_cons.mpr ⟨lw_p1, List.forall_mem_cons.mpr ⟨lw_p2, List.forall_mem_cons.mpr ⟨lw_p3, List.forall_mem_cons.mpr ⟨lw_p4, List.forall_mem_cons.mpr ⟨lw_p5, List.forall_mem_cons.mpr ⟨lw_p6, List.forall_mem_cons.mpr ⟨lw_p7, List.forall_mem_cons.mpr ⟨lw_p8, List.forall_mem_cons.mpr ⟨lw_p9, List.forall_mem_cons.mpr ⟨lw_p10, List.forall_mem_cons.mpr ⟨lw_p11, List.forall_mem_cons.mpr ⟨lw_p12, List.forall_mem_cons.mpr ⟨lw_p13, List.forall_mem_cons.mpr ⟨lw_p14, List.forall_mem_cons.mpr ⟨lw_p15, fun _ h => absurd h List.not_mem_nil⟩⟩⟩⟩⟩⟩⟩⟩⟩⟩⟩⟩⟩⟩⟩⟩
theorem lw_p16 : lw_okq (⟨"GongTide", "digestStrokes", "(J)J"⟩, 9) := ⟨⟨by decide +kernel, by decide +kernel⟩, List.mem_of_getElem? (i := 10) (by decide +kernel), List.mem_of_getElem? (i := 479) (by decide +kernel), List.mem_of_getElem? (i := 480) (by decide +kernel)⟩
theorem lw_p17 : lw_okq (⟨"GongTideModel", "read", "()I"⟩, 34) := ⟨⟨by decide +kernel, by decide +kernel⟩, List.mem_of_getElem? (i := 489) (by decide +kernel), List.mem_of_getElem? (i := 614) (by decide +kernel), List.mem_of_getElem? (i := 615) (by decide +kernel)⟩
theorem lw_p18 : lw_okq (⟨"GongTideModel", "figure", "(I)I"⟩, 34) := ⟨⟨by decide +kernel, by decide +kernel⟩, List.mem_of_getElem? (i := 489) (by decide +kernel), List.mem_of_getElem? (i := 621) (by decide +kernel), List.mem_of_getElem? (i := 622) (by decide +kernel)⟩
theorem lw_p19 : lw_okq (⟨"GongTideModel", "readStrokes", "(I)I"⟩, 34) := ⟨⟨by decide +kernel, by decide +kernel⟩, List.mem_of_getElem? (i := 489) (by decide +kernel), List.mem_of_getElem? (i := 625) (by decide +kernel), List.mem_of_getElem? (i := 626) (by decide +kernel)⟩
theorem lw_p20 : lw_okq (⟨"GongTideModel", "isHouse", "(I)Z"⟩, 34) := ⟨⟨by decide +kernel, by decide +kernel⟩, List.mem_of_getElem? (i := 489) (by decide +kernel), List.mem_of_getElem? (i := 637) (by decide +kernel), List.mem_of_getElem? (i := 638) (by decide +kernel)⟩
theorem lw_p21 : lw_okq (⟨"GongTideModel", "houseNow", "(II)I"⟩, 34) := ⟨⟨by decide +kernel, by decide +kernel⟩, List.mem_of_getElem? (i := 489) (by decide +kernel), List.mem_of_getElem? (i := 641) (by decide +kernel), List.mem_of_getElem? (i := 642) (by decide +kernel)⟩
theorem lw_p22 : lw_okq (⟨"GongTideModel", "hoursOf", "(II)I"⟩, 34) := ⟨⟨by decide +kernel, by decide +kernel⟩, List.mem_of_getElem? (i := 489) (by decide +kernel), List.mem_of_getElem? (i := 645) (by decide +kernel), List.mem_of_getElem? (i := 646) (by decide +kernel)⟩
theorem lw_p23 : lw_okq (⟨"GongTideModel", "howAt", "(II)I"⟩, 34) := ⟨⟨by decide +kernel, by decide +kernel⟩, List.mem_of_getElem? (i := 489) (by decide +kernel), List.mem_of_getElem? (i := 649) (by decide +kernel), List.mem_of_getElem? (i := 650) (by decide +kernel)⟩
theorem lw_p24 : lw_okq (⟨"GongTideModel", "mannersAt", "(II)I"⟩, 34) := ⟨⟨by decide +kernel, by decide +kernel⟩, List.mem_of_getElem? (i := 489) (by decide +kernel), List.mem_of_getElem? (i := 653) (by decide +kernel), List.mem_of_getElem? (i := 654) (by decide +kernel)⟩
theorem lw_p25 : lw_okq (⟨"GongTideModel", "tideAt", "(I)I"⟩, 34) := ⟨⟨by decide +kernel, by decide +kernel⟩, List.mem_of_getElem? (i := 489) (by decide +kernel), List.mem_of_getElem? (i := 657) (by decide +kernel), List.mem_of_getElem? (i := 658) (by decide +kernel)⟩
theorem lw_p26 : lw_okq (⟨"GongTideModel", "tideBefore", "(I)I"⟩, 34) := ⟨⟨by decide +kernel, by decide +kernel⟩, List.mem_of_getElem? (i := 489) (by decide +kernel), List.mem_of_getElem? (i := 664) (by decide +kernel), List.mem_of_getElem? (i := 665) (by decide +kernel)⟩
theorem lw_p27 : lw_okq (⟨"GongTideModel", "greatestHour", "(I)I"⟩, 34) := ⟨⟨by decide +kernel, by decide +kernel⟩, List.mem_of_getElem? (i := 489) (by decide +kernel), List.mem_of_getElem? (i := 668) (by decide +kernel), List.mem_of_getElem? (i := 669) (by decide +kernel)⟩
theorem lw_p28 : lw_okq (⟨"GongTideModel", "isStroke", "(I)Z"⟩, 34) := ⟨⟨by decide +kernel, by decide +kernel⟩, List.mem_of_getElem? (i := 489) (by decide +kernel), List.mem_of_getElem? (i := 695) (by decide +kernel), List.mem_of_getElem? (i := 696) (by decide +kernel)⟩
theorem lw_p29 : lw_okq (⟨"GongTideModel", "strokeNow", "(II)I"⟩, 34) := ⟨⟨by decide +kernel, by decide +kernel⟩, List.mem_of_getElem? (i := 489) (by decide +kernel), List.mem_of_getElem? (i := 703) (by decide +kernel), List.mem_of_getElem? (i := 704) (by decide +kernel)⟩
theorem lw_p30 : lw_okq (⟨"GongTideModel", "dinnerNow", "(II)I"⟩, 34) := ⟨⟨by decide +kernel, by decide +kernel⟩, List.mem_of_getElem? (i := 489) (by decide +kernel), List.mem_of_getElem? (i := 711) (by decide +kernel), List.mem_of_getElem? (i := 712) (by decide +kernel)⟩
theorem lw_p31 : lw_okq (⟨"GongTideModel", "isPolite", "(III)Z"⟩, 34) := ⟨⟨by decide +kernel, by decide +kernel⟩, List.mem_of_getElem? (i := 489) (by decide +kernel), List.mem_of_getElem? (i := 715) (by decide +kernel), List.mem_of_getElem? (i := 716) (by decide +kernel)⟩
def lw_privs_2 : List (MethodName × Nat) := [(⟨"GongTide", "digestStrokes", "(J)J"⟩, 9), (⟨"GongTideModel", "read", "()I"⟩, 34), (⟨"GongTideModel", "figure", "(I)I"⟩, 34), (⟨"GongTideModel", "readStrokes", "(I)I"⟩, 34), (⟨"GongTideModel", "isHouse", "(I)Z"⟩, 34), (⟨"GongTideModel", "houseNow", "(II)I"⟩, 34), (⟨"GongTideModel", "hoursOf", "(II)I"⟩, 34), (⟨"GongTideModel", "howAt", "(II)I"⟩, 34), (⟨"GongTideModel", "mannersAt", "(II)I"⟩, 34), (⟨"GongTideModel", "tideAt", "(I)I"⟩, 34), (⟨"GongTideModel", "tideBefore", "(I)I"⟩, 34), (⟨"GongTideModel", "greatestHour", "(I)I"⟩, 34), (⟨"GongTideModel", "isStroke", "(I)Z"⟩, 34), (⟨"GongTideModel", "strokeNow", "(II)I"⟩, 34), (⟨"GongTideModel", "dinnerNow", "(II)I"⟩, 34), (⟨"GongTideModel", "isPolite", "(III)Z"⟩, 34)]
theorem lw_r2 : ∀ q ∈ lw_privs_2, lw_okq q := List.forall_mem_cons.mpr ⟨lw_p16, List.forall_mem_cons.mpr ⟨lw_p17, List.forall_mem_cons.mpr ⟨lw_p18, List.forall_mem_cons.mpr ⟨lw_p19, List.forall_mem_cons.mpr ⟨lw_p20, List.forall_mem_cons.mpr ⟨lw_p21, List.forall_mem_cons.mpr ⟨lw_p22, List.forall_mem_cons.mpr ⟨lw_p23, List.forall_mem_cons.mpr ⟨lw_p24, List.forall_mem_cons.mpr ⟨lw_p25, List.forall_mem_cons.mpr ⟨lw_p26, List.forall_mem_cons.mpr ⟨lw_p27, List.forall_mem_cons.mpr ⟨lw_p28, List.forall_mem_cons.mpr ⟨lw_p29, List.forall_mem_cons.mpr ⟨lw_p30, List.forall_mem_cons.mpr ⟨lw_p31, fun _ h => absurd h List.not_mem_nil⟩⟩⟩⟩⟩⟩⟩⟩⟩⟩⟩⟩⟩⟩⟩⟩
theorem lw_p32 : lw_okq (⟨"GongTideModel", "bestNow", "(II)I"⟩, 34) := ⟨⟨by decide +kernel, by decide +kernel⟩, List.mem_of_getElem? (i := 489) (by decide +kernel), List.mem_of_getElem? (i := 726) (by decide +kernel), List.mem_of_getElem? (i := 727) (by decide +kernel)⟩
theorem lw_p33 : lw_okq (⟨"GongTideModel", "think", "(II)V"⟩, 34) := ⟨⟨by decide +kernel, by decide +kernel⟩, List.mem_of_getElem? (i := 489) (by decide +kernel), List.mem_of_getElem? (i := 730) (by decide +kernel), List.mem_of_getElem? (i := 731) (by decide +kernel)⟩
theorem lw_p34 : lw_okq (⟨"GongTideModel", "hoursAll", "(I)I"⟩, 34) := ⟨⟨by decide +kernel, by decide +kernel⟩, List.mem_of_getElem? (i := 489) (by decide +kernel), List.mem_of_getElem? (i := 734) (by decide +kernel), List.mem_of_getElem? (i := 735) (by decide +kernel)⟩
theorem lw_p35 : lw_okq (⟨"GongTideModel", "hoursNow", "()I"⟩, 34) := ⟨⟨by decide +kernel, by decide +kernel⟩, List.mem_of_getElem? (i := 489) (by decide +kernel), List.mem_of_getElem? (i := 750) (by decide +kernel), List.mem_of_getElem? (i := 751) (by decide +kernel)⟩
theorem lw_p36 : lw_okq (⟨"GongTideModel", "isHeard", "(I)Z"⟩, 34) := ⟨⟨by decide +kernel, by decide +kernel⟩, List.mem_of_getElem? (i := 489) (by decide +kernel), List.mem_of_getElem? (i := 754) (by decide +kernel), List.mem_of_getElem? (i := 755) (by decide +kernel)⟩
theorem lw_p37 : lw_okq (⟨"GongTideModel", "askNow", "(I)I"⟩, 34) := ⟨⟨by decide +kernel, by decide +kernel⟩, List.mem_of_getElem? (i := 489) (by decide +kernel), List.mem_of_getElem? (i := 762) (by decide +kernel), List.mem_of_getElem? (i := 763) (by decide +kernel)⟩
theorem lw_p38 : lw_okq (⟨"GongTideModel", "worstIn", "(III)I"⟩, 34) := ⟨⟨by decide +kernel, by decide +kernel⟩, List.mem_of_getElem? (i := 489) (by decide +kernel), List.mem_of_getElem? (i := 767) (by decide +kernel), List.mem_of_getElem? (i := 768) (by decide +kernel)⟩
theorem lw_p39 : lw_okq (⟨"GongTideModel", "weeksNow", "(III)I"⟩, 34) := ⟨⟨by decide +kernel, by decide +kernel⟩, List.mem_of_getElem? (i := 489) (by decide +kernel), List.mem_of_getElem? (i := 775) (by decide +kernel), List.mem_of_getElem? (i := 776) (by decide +kernel)⟩
theorem lw_p40 : lw_okq (⟨"GongTideModel", "draw", "(I)I"⟩, 34) := ⟨⟨by decide +kernel, by decide +kernel⟩, List.mem_of_getElem? (i := 489) (by decide +kernel), List.mem_of_getElem? (i := 779) (by decide +kernel), List.mem_of_getElem? (i := 780) (by decide +kernel)⟩
theorem lw_p41 : lw_okq (⟨"GongTideModel", "howMany", "(I)I"⟩, 34) := ⟨⟨by decide +kernel, by decide +kernel⟩, List.mem_of_getElem? (i := 489) (by decide +kernel), List.mem_of_getElem? (i := 799) (by decide +kernel), List.mem_of_getElem? (i := 800) (by decide +kernel)⟩
theorem lw_p42 : lw_okq (⟨"GongTideModel", "highest", "()I"⟩, 34) := ⟨⟨by decide +kernel, by decide +kernel⟩, List.mem_of_getElem? (i := 489) (by decide +kernel), List.mem_of_getElem? (i := 803) (by decide +kernel), List.mem_of_getElem? (i := 804) (by decide +kernel)⟩
theorem lw_p43 : lw_okq (⟨"GongTideModel", "mix", "(J)V"⟩, 34) := ⟨⟨by decide +kernel, by decide +kernel⟩, List.mem_of_getElem? (i := 489) (by decide +kernel), List.mem_of_getElem? (i := 812) (by decide +kernel), List.mem_of_getElem? (i := 813) (by decide +kernel)⟩
def lw_privs_3 : List (MethodName × Nat) := [(⟨"GongTideModel", "bestNow", "(II)I"⟩, 34), (⟨"GongTideModel", "think", "(II)V"⟩, 34), (⟨"GongTideModel", "hoursAll", "(I)I"⟩, 34), (⟨"GongTideModel", "hoursNow", "()I"⟩, 34), (⟨"GongTideModel", "isHeard", "(I)Z"⟩, 34), (⟨"GongTideModel", "askNow", "(I)I"⟩, 34), (⟨"GongTideModel", "worstIn", "(III)I"⟩, 34), (⟨"GongTideModel", "weeksNow", "(III)I"⟩, 34), (⟨"GongTideModel", "draw", "(I)I"⟩, 34), (⟨"GongTideModel", "howMany", "(I)I"⟩, 34), (⟨"GongTideModel", "highest", "()I"⟩, 34), (⟨"GongTideModel", "mix", "(J)V"⟩, 34)]
theorem lw_r3 : ∀ q ∈ lw_privs_3, lw_okq q := List.forall_mem_cons.mpr ⟨lw_p32, List.forall_mem_cons.mpr ⟨lw_p33, List.forall_mem_cons.mpr ⟨lw_p34, List.forall_mem_cons.mpr ⟨lw_p35, List.forall_mem_cons.mpr ⟨lw_p36, List.forall_mem_cons.mpr ⟨lw_p37, List.forall_mem_cons.mpr ⟨lw_p38, List.forall_mem_cons.mpr ⟨lw_p39, List.forall_mem_cons.mpr ⟨lw_p40, List.forall_mem_cons.mpr ⟨lw_p41, List.forall_mem_cons.mpr ⟨lw_p42, List.forall_mem_cons.mpr ⟨lw_p43, fun _ h => absurd h List.not_mem_nil⟩⟩⟩⟩⟩⟩⟩⟩⟩⟩⟩⟩
def lw_privs : List (MethodName × Nat) := lw_privs_1 ++ (lw_privs_2 ++ (lw_privs_3))
def lw_tbl : List Cond := k2_sels lw_privs ++ tables_1
theorem lw_privs_ok : ∀ q ∈ lw_privs, lw_okq q := by
  show ∀ q ∈ lw_privs_1 ++ (lw_privs_2 ++ (lw_privs_3)), lw_okq q
  exact List.forall_mem_append.mpr ⟨lw_r1, List.forall_mem_append.mpr ⟨lw_r2, lw_r3⟩⟩
-- ===== end of PART A; then your names; then what follows =====
end
section
/-! ===== BEGIN words of one list among another's, by their places ===== -/
theorem goodIn_r {big : List Cond} (ws : List Cond) (ps : List Nat) (hp : ws = ps.filterMap (fun i => big[i]?)) (h : ws.all goodWord = true) : GoodIn big ws := by
  intro w hw
  have h1 := List.all_eq_true.mp h w hw
  rw [hp] at hw
  obtain ⟨i, -, hi⟩ := List.mem_filterMap.mp hw
  have hm : w ∈ big := by first | exact List.mem_of_getElem? hi | exact List.getElem?_mem hi
  exact ⟨hm, good_of_word h1⟩
theorem goodIn_app {big a b : List Cond} (ha : GoodIn big a) (hb : GoodIn big b) : GoodIn big (a ++ b) := fun w h => (List.mem_append.mp h).elim (ha w) (hb w)
theorem goodIn_ca {big a b : List Cond} {c : Cond} (ha : GoodIn big (c :: a)) (hb : GoodIn big b) : GoodIn big (c :: (a ++ b)) := fun w h => (List.mem_cons.mp h).elim (fun e => ha w (List.mem_cons.mpr (Or.inl e))) (fun h => (List.mem_append.mp h).elim (fun h => ha w (List.mem_cons.mpr (Or.inr h))) (hb w))
theorem goodIn_sub {big ws : List Cond} (hm : ∀ w ∈ ws, w ∈ big) (h : ws.all goodWord = true) : GoodIn big ws := fun w hw => ⟨hm w hw, good_of_word (List.all_eq_true.mp h w hw)⟩
/-! ===== END ===== -/

/-! ===== BEGIN printed: names, fields, word lists, decode rows ===== -/
def RX0 : String := "GongTide$Affairs"
def TX0 : u_T := fun k => match k with
  | 0 => ("GongTide$Affairs", "levels", "[I", true)
  | 1 => ("GongTide$Affairs", "strokes", "LGongTide$Strokes;", true)
  | 2 => ("GongTide$Affairs", "heard", "LGongTide$Heard;", true)
  | _ => ("GongTide$Affairs", "changes", "I", false)
def tyX0 : Nat → FieldType := fun k => match k with
  | 0 => .array .int
  | 1 => .object "GongTide$Strokes"
  | 2 => .object "GongTide$Heard"
  | _ => .int
abbrev wsX00 : List Cond := u_ws RX0 TX0 4
theorem nmX0 : ∀ a, a < 4 → ∀ b, b < 4 → a ≠ b → (TX0 a).2.1 ≠ (TX0 b).2.1 := by decide +kernel
theorem tyX0_ok : ∀ k, k < 4 → parseFieldDescriptor (TX0 k).2.2.1 = some (tyX0 k) := by decide +kernel
abbrev cX0_init : ByteArray := prog_2_method_1_code
def yX0_init : MethodName := ⟨RX0, "<init>", "()V"⟩
abbrev cX0_clear : ByteArray := prog_2_method_2_code
def yX0_clear : MethodName := ⟨RX0, "clear", "()V"⟩
abbrev cX0_level : ByteArray := prog_2_method_3_code
def yX0_level : MethodName := ⟨RX0, "level", "(I)I"⟩
abbrev cX0_setLevel : ByteArray := prog_2_method_4_code
def yX0_setLevel : MethodName := ⟨RX0, "setLevel", "(II)V"⟩
abbrev cX0_copyFrom : ByteArray := prog_2_method_5_code
def yX0_copyFrom : MethodName := ⟨RX0, "copyFrom", "(LGongTide$Affairs;)V"⟩
def RX1 : String := "GongTide$Heard"
def TX1 : u_T := fun k => match k with
  | 0 => ("GongTide$Heard", "houses", "[I", true)
  | 1 => ("GongTide$Heard", "hours", "[I", true)
  | 2 => ("GongTide$Heard", "louds", "[I", true)
  | 3 => ("GongTide$Heard", "hows", "[I", true)
  | _ => ("GongTide$Heard", "size", "I", false)
def tyX1 : Nat → FieldType := fun k => match k with
  | 0 => .array .int
  | 1 => .array .int
  | 2 => .array .int
  | 3 => .array .int
  | _ => .int
abbrev wsX10 : List Cond := u_ws RX1 TX1 5
theorem nmX1 : ∀ a, a < 5 → ∀ b, b < 5 → a ≠ b → (TX1 a).2.1 ≠ (TX1 b).2.1 := by decide +kernel
theorem tyX1_ok : ∀ k, k < 5 → parseFieldDescriptor (TX1 k).2.2.1 = some (tyX1 k) := by decide +kernel
abbrev cX1_init : ByteArray := prog_3_method_1_code
def yX1_init : MethodName := ⟨RX1, "<init>", "()V"⟩
abbrev cX1_size : ByteArray := prog_3_method_2_code
def yX1_size : MethodName := ⟨RX1, "size", "()I"⟩
abbrev cX1_clear : ByteArray := prog_3_method_3_code
def yX1_clear : MethodName := ⟨RX1, "clear", "()I"⟩
abbrev cX1_add : ByteArray := prog_3_method_4_code
def yX1_add : MethodName := ⟨RX1, "add", "(IIII)Z"⟩
abbrev cX1_has : ByteArray := prog_3_method_5_code
def yX1_has : MethodName := ⟨RX1, "has", "(I)Z"⟩
abbrev cX1_house : ByteArray := prog_3_method_6_code
def yX1_house : MethodName := ⟨RX1, "house", "(I)I"⟩
abbrev cX1_hour : ByteArray := prog_3_method_7_code
def yX1_hour : MethodName := ⟨RX1, "hour", "(I)I"⟩
abbrev cX1_loud : ByteArray := prog_3_method_8_code
def yX1_loud : MethodName := ⟨RX1, "loud", "(I)I"⟩
abbrev cX1_how : ByteArray := prog_3_method_9_code
def yX1_how : MethodName := ⟨RX1, "how", "(I)I"⟩
abbrev cX1_lastLoud : ByteArray := prog_3_method_10_code
def yX1_lastLoud : MethodName := ⟨RX1, "lastLoud", "()I"⟩
abbrev cX1_copyFrom : ByteArray := prog_3_method_11_code
def yX1_copyFrom : MethodName := ⟨RX1, "copyFrom", "(LGongTide$Heard;)V"⟩
def RX2 : String := "GongTide$Page"
def TX2 : u_T := fun k => match k with
  | 0 => ("GongTide$Page", "codes", "[I", true)
  | _ => ("GongTide$Page", "size", "I", false)
def tyX2 : Nat → FieldType := fun k => match k with
  | 0 => .array .int
  | _ => .int
abbrev wsX20 : List Cond := u_ws RX2 TX2 2
theorem nmX2 : ∀ a, a < 2 → ∀ b, b < 2 → a ≠ b → (TX2 a).2.1 ≠ (TX2 b).2.1 := by decide +kernel
theorem tyX2_ok : ∀ k, k < 2 → parseFieldDescriptor (TX2 k).2.2.1 = some (tyX2 k) := by decide +kernel
abbrev cX2_init : ByteArray := prog_4_method_1_code
def yX2_init : MethodName := ⟨RX2, "<init>", "()V"⟩
abbrev cX2_size : ByteArray := prog_4_method_2_code
def yX2_size : MethodName := ⟨RX2, "size", "()I"⟩
abbrev cX2_write : ByteArray := prog_4_method_3_code
def yX2_write : MethodName := ⟨RX2, "write", "(I)Z"⟩
abbrev cX2_wipe : ByteArray := prog_4_method_4_code
def yX2_wipe : MethodName := ⟨RX2, "wipe", "()I"⟩
abbrev cX2_at : ByteArray := prog_4_method_5_code
def yX2_at : MethodName := ⟨RX2, "at", "(I)I"⟩
abbrev cX2_digitAt : ByteArray := prog_4_method_6_code
def yX2_digitAt : MethodName := ⟨RX2, "digitAt", "(I)I"⟩
abbrev cX2_soundLetters : ByteArray := prog_4_method_7_code
def yX2_soundLetters : MethodName := ⟨RX2, "soundLetters", "()I"⟩
abbrev cX2_tellsColony : ByteArray := prog_4_method_8_code
def yX2_tellsColony : MethodName := ⟨RX2, "tellsColony", "()Z"⟩
abbrev cX2_houses : ByteArray := prog_4_method_9_code
def yX2_houses : MethodName := ⟨RX2, "houses", "()I"⟩
abbrev cX2_suitsHouses : ByteArray := prog_4_method_10_code
def yX2_suitsHouses : MethodName := ⟨RX2, "suitsHouses", "(II)Z"⟩
abbrev cX2_suitsStrokes : ByteArray := prog_4_method_11_code
def yX2_suitsStrokes : MethodName := ⟨RX2, "suitsStrokes", "(II)Z"⟩
def RX3 : String := "GongTide$Strokes"
def TX3 : u_T := fun k => match k with
  | 0 => ("GongTide$Strokes", "hours", "[I", true)
  | 1 => ("GongTide$Strokes", "louds", "[I", true)
  | _ => ("GongTide$Strokes", "size", "I", false)
def tyX3 : Nat → FieldType := fun k => match k with
  | 0 => .array .int
  | 1 => .array .int
  | _ => .int
abbrev wsX30 : List Cond := u_ws RX3 TX3 3
theorem nmX3 : ∀ a, a < 3 → ∀ b, b < 3 → a ≠ b → (TX3 a).2.1 ≠ (TX3 b).2.1 := by decide +kernel
theorem tyX3_ok : ∀ k, k < 3 → parseFieldDescriptor (TX3 k).2.2.1 = some (tyX3 k) := by decide +kernel
abbrev cX3_init : ByteArray := prog_5_method_1_code
def yX3_init : MethodName := ⟨RX3, "<init>", "()V"⟩
abbrev cX3_size : ByteArray := prog_5_method_2_code
def yX3_size : MethodName := ⟨RX3, "size", "()I"⟩
abbrev cX3_clear : ByteArray := prog_5_method_3_code
def yX3_clear : MethodName := ⟨RX3, "clear", "()V"⟩
abbrev cX3_has : ByteArray := prog_5_method_4_code
def yX3_has : MethodName := ⟨RX3, "has", "(I)Z"⟩
abbrev cX3_add : ByteArray := prog_5_method_5_code
def yX3_add : MethodName := ⟨RX3, "add", "(II)Z"⟩
abbrev cX3_hour : ByteArray := prog_5_method_6_code
def yX3_hour : MethodName := ⟨RX3, "hour", "(I)I"⟩
abbrev cX3_loud : ByteArray := prog_5_method_7_code
def yX3_loud : MethodName := ⟨RX3, "loud", "(I)I"⟩
abbrev cX3_setLoud : ByteArray := prog_5_method_8_code
def yX3_setLoud : MethodName := ⟨RX3, "setLoud", "(II)V"⟩
abbrev cX3_goneAt : ByteArray := prog_5_method_9_code
def yX3_goneAt : MethodName := ⟨RX3, "goneAt", "(I)I"⟩
abbrev cX3_copyFrom : ByteArray := prog_5_method_10_code
def yX3_copyFrom : MethodName := ⟨RX3, "copyFrom", "(LGongTide$Strokes;)V"⟩
def RX4 : String := "GongTide$Tide"
def TX4 : u_T := fun k => match k with
  | _ => ("GongTide$Tide", "sums", "[I", true)
def tyX4 : Nat → FieldType := fun k => match k with
  | _ => .array .int
abbrev wsX40 : List Cond := u_ws RX4 TX4 1
theorem nmX4 : ∀ a, a < 1 → ∀ b, b < 1 → a ≠ b → (TX4 a).2.1 ≠ (TX4 b).2.1 := by decide +kernel
theorem tyX4_ok : ∀ k, k < 1 → parseFieldDescriptor (TX4 k).2.2.1 = some (tyX4 k) := by decide +kernel
abbrev cX4_init : ByteArray := prog_6_method_1_code
def yX4_init : MethodName := ⟨RX4, "<init>", "()V"⟩
abbrev cX4_clear : ByteArray := prog_6_method_2_code
def yX4_clear : MethodName := ⟨RX4, "clear", "()V"⟩
abbrev cX4_add : ByteArray := prog_6_method_3_code
def yX4_add : MethodName := ⟨RX4, "add", "(II)V"⟩
abbrev cX4_copyFrom : ByteArray := prog_6_method_4_code
def yX4_copyFrom : MethodName := ⟨RX4, "copyFrom", "(LGongTide$Tide;)V"⟩
abbrev cX4_at : ByteArray := prog_6_method_5_code
def yX4_at : MethodName := ⟨RX4, "at", "(I)I"⟩
abbrev cX4_greatest : ByteArray := prog_6_method_6_code
def yX4_greatest : MethodName := ⟨RX4, "greatest", "()I"⟩
def RX5 : String := "GongTide"
def TX5 : u_T := fun k => match k with
  | 0 => ("GongTide", "page", "LGongTide$Page;", true)
  | 1 => ("GongTide", "kinds", "[I", true)
  | 2 => ("GongTide", "houseCount", "I", false)
  | 3 => ("GongTide", "readings", "I", false)
  | 4 => ("GongTide", "affairs", "LGongTide$Affairs;", true)
  | 5 => ("GongTide", "kept", "LGongTide$Affairs;", true)
  | 6 => ("GongTide", "isKept", "Z", false)
  | 7 => ("GongTide", "now", "LGongTide$Tide;", true)
  | _ => ("GongTide", "supposed", "LGongTide$Tide;", true)
def tyX5 : Nat → FieldType := fun k => match k with
  | 0 => .object "GongTide$Page"
  | 1 => .array .int
  | 2 => .int
  | 3 => .int
  | 4 => .object "GongTide$Affairs"
  | 5 => .object "GongTide$Affairs"
  | 6 => .boolean
  | 7 => .object "GongTide$Tide"
  | _ => .object "GongTide$Tide"
abbrev wsX50 : List Cond := u_ws RX5 TX5 9
theorem nmX5 : ∀ a, a < 9 → ∀ b, b < 9 → a ≠ b → (TX5 a).2.1 ≠ (TX5 b).2.1 := by decide +kernel
theorem tyX5_ok : ∀ k, k < 9 → parseFieldDescriptor (TX5 k).2.2.1 = some (tyX5 k) := by decide +kernel
abbrev cX5_init : ByteArray := prog_1_method_1_code
def yX5_init : MethodName := ⟨RX5, "<init>", "()V"⟩
abbrev cX5_letter : ByteArray := prog_1_method_2_code
def yX5_letter : MethodName := ⟨RX5, "letter", "(I)I"⟩
abbrev cX5_blank : ByteArray := prog_1_method_3_code
def yX5_blank : MethodName := ⟨RX5, "blank", "()I"⟩
abbrev cX5_fault : ByteArray := prog_1_method_4_code
def yX5_fault : MethodName := ⟨RX5, "fault", "()I"⟩
abbrev cX5_colony : ByteArray := prog_1_method_5_code
def yX5_colony : MethodName := ⟨RX5, "colony", "()I"⟩
abbrev cX5_about : ByteArray := prog_1_method_6_code
def yX5_about : MethodName := ⟨RX5, "about", "(II)I"⟩
abbrev cX5_as : ByteArray := prog_1_method_7_code
def yX5_as : MethodName := ⟨RX5, "as", "(II)I"⟩
abbrev cX5_raise : ByteArray := prog_1_method_8_code
def yX5_raise : MethodName := ⟨RX5, "raise", "(II)I"⟩
abbrev cX5_tide : ByteArray := prog_1_method_9_code
def yX5_tide : MethodName := ⟨RX5, "tide", "(I)I"⟩
abbrev cX5_strike : ByteArray := prog_1_method_10_code
def yX5_strike : MethodName := ⟨RX5, "strike", "(II)I"⟩
abbrev cX5_felt : ByteArray := prog_1_method_11_code
def yX5_felt : MethodName := ⟨RX5, "felt", "(II)I"⟩
abbrev cX5_stroke : ByteArray := prog_1_method_12_code
def yX5_stroke : MethodName := ⟨RX5, "stroke", "(II)I"⟩
abbrev cX5_dinner : ByteArray := prog_1_method_13_code
def yX5_dinner : MethodName := ⟨RX5, "dinner", "(II)I"⟩
abbrev cX5_best : ByteArray := prog_1_method_14_code
def yX5_best : MethodName := ⟨RX5, "best", "(II)I"⟩
abbrev cX5_hear : ByteArray := prog_1_method_15_code
def yX5_hear : MethodName := ⟨RX5, "hear", "(IIII)I"⟩
abbrev cX5_forget : ByteArray := prog_1_method_16_code
def yX5_forget : MethodName := ⟨RX5, "forget", "()I"⟩
abbrev cX5_hours : ByteArray := prog_1_method_17_code
def yX5_hours : MethodName := ⟨RX5, "hours", "()I"⟩
abbrev cX5_ask : ByteArray := prog_1_method_18_code
def yX5_ask : MethodName := ⟨RX5, "ask", "(I)I"⟩
abbrev cX5_weeks : ByteArray := prog_1_method_19_code
def yX5_weeks : MethodName := ⟨RX5, "weeks", "(III)I"⟩
abbrev cX5_image : ByteArray := prog_1_method_20_code
def yX5_image : MethodName := ⟨RX5, "image", "()I"⟩
abbrev cX5_restore : ByteArray := prog_1_method_21_code
def yX5_restore : MethodName := ⟨RX5, "restore", "()I"⟩
abbrev cX5_count : ByteArray := prog_1_method_22_code
def yX5_count : MethodName := ⟨RX5, "count", "(I)I"⟩
abbrev cX5_digest : ByteArray := prog_1_method_23_code
def yX5_digest : MethodName := ⟨RX5, "digest", "()J"⟩
abbrev cX5_digestHouses : ByteArray := prog_1_method_24_code
def yX5_digestHouses : MethodName := ⟨RX5, "digestHouses", "(J)J"⟩
abbrev cX5_digestStrokes : ByteArray := prog_1_method_25_code
def yX5_digestStrokes : MethodName := ⟨RX5, "digestStrokes", "(J)J"⟩
abbrev cX5_mix : ByteArray := prog_1_method_26_code
def yX5_mix : MethodName := ⟨RX5, "mix", "(JJ)J"⟩
abbrev cX5_isWithin : ByteArray := prog_1_method_27_code
def yX5_isWithin : MethodName := ⟨RX5, "isWithin", "(III)Z"⟩
abbrev cX5_isHourOfDay : ByteArray := prog_1_method_28_code
def yX5_isHourOfDay : MethodName := ⟨RX5, "isHourOfDay", "(I)Z"⟩
abbrev cX5_isHeardLoud : ByteArray := prog_1_method_29_code
def yX5_isHeardLoud : MethodName := ⟨RX5, "isHeardLoud", "(I)Z"⟩
abbrev cX5_hasColony : ByteArray := prog_1_method_30_code
def yX5_hasColony : MethodName := ⟨RX5, "hasColony", "()Z"⟩
abbrev cX5_isHouse : ByteArray := prog_1_method_31_code
def yX5_isHouse : MethodName := ⟨RX5, "isHouse", "(I)Z"⟩
abbrev cX5_allHouses : ByteArray := prog_1_method_32_code
def yX5_allHouses : MethodName := ⟨RX5, "allHouses", "()I"⟩
abbrev cX5_kindAt : ByteArray := prog_1_method_33_code
def yX5_kindAt : MethodName := ⟨RX5, "kindAt", "(I)I"⟩
abbrev cX5_kindOf : ByteArray := prog_1_method_34_code
def yX5_kindOf : MethodName := ⟨RX5, "kindOf", "(I)I"⟩
abbrev cX5_tideNow : ByteArray := prog_1_method_35_code
def yX5_tideNow : MethodName := ⟨RX5, "tideNow", "()LGongTide$Tide;"⟩
abbrev cX5_suppose : ByteArray := prog_1_method_36_code
def yX5_suppose : MethodName := ⟨RX5, "suppose", "(LGongTide$Tide;II)LGongTide$Tide;"⟩
abbrev cX5_drawDay : ByteArray := prog_1_method_37_code
def yX5_drawDay : MethodName := ⟨RX5, "drawDay", "(I)I"⟩
abbrev cX5_mannersAt : ByteArray := prog_1_method_38_code
def yX5_mannersAt : MethodName := ⟨RX5, "mannersAt", "(ILGongTide$Tide;I)I"⟩
abbrev cX5_above : ByteArray := prog_1_method_39_code
def yX5_above : MethodName := ⟨RX5, "above", "(II)I"⟩
abbrev cX5_howAt : ByteArray := prog_1_method_40_code
def yX5_howAt : MethodName := ⟨RX5, "howAt", "(I)I"⟩
abbrev cX5_hoursOf : ByteArray := prog_1_method_41_code
def yX5_hoursOf : MethodName := ⟨RX5, "hoursOf", "(IILGongTide$Tide;)I"⟩
abbrev cX5_hoursOfAll : ByteArray := prog_1_method_42_code
def yX5_hoursOfAll : MethodName := ⟨RX5, "hoursOfAll", "(ILGongTide$Tide;)I"⟩
abbrev cX5_hourOfMostManners : ByteArray := prog_1_method_43_code
def yX5_hourOfMostManners : MethodName := ⟨RX5, "hourOfMostManners", "(ILGongTide$Tide;)I"⟩
abbrev cX5_canDine : ByteArray := prog_1_method_44_code
def yX5_canDine : MethodName := ⟨RX5, "canDine", "(ILGongTide$Tide;II)Z"⟩
abbrev cX5_agreesWithHeard : ByteArray := prog_1_method_45_code
def yX5_agreesWithHeard : MethodName := ⟨RX5, "agreesWithHeard", "(LGongTide$Tide;I)Z"⟩
abbrev cX5_mostLeft : ByteArray := prog_1_method_46_code
def yX5_mostLeft : MethodName := ⟨RX5, "mostLeft", "(ILGongTide$Tide;II)I"⟩
def RX6 : String := "GongTideModel"
def TX6 : u_T := fun k => match k with
  | 0 => ("GongTideModel", "colonies", "I", false)
  | 1 => ("GongTideModel", "houses", "I", false)
  | 2 => ("GongTideModel", "kindOf", "[I", true)
  | 3 => ("GongTideModel", "levelOf", "[I", true)
  | 4 => ("GongTideModel", "strokes", "I", false)
  | 5 => ("GongTideModel", "hourOf", "[I", true)
  | 6 => ("GongTideModel", "loudOf", "[I", true)
  | 7 => ("GongTideModel", "changes", "I", false)
  | 8 => ("GongTideModel", "heard", "I", false)
  | 9 => ("GongTideModel", "heardHouse", "[I", true)
  | 10 => ("GongTideModel", "heardHour", "[I", true)
  | 11 => ("GongTideModel", "heardLoud", "[I", true)
  | 12 => ("GongTideModel", "heardHow", "[I", true)
  | 13 => ("GongTideModel", "pageLength", "I", false)
  | 14 => ("GongTideModel", "page", "[B", true)
  | 15 => ("GongTideModel", "isWhole", "Z", false)
  | 16 => ("GongTideModel", "newHouses", "I", false)
  | 17 => ("GongTideModel", "newStrokes", "I", false)
  | 18 => ("GongTideModel", "thought", "I", false)
  | 19 => ("GongTideModel", "seedNow", "J", false)
  | 20 => ("GongTideModel", "savedHour", "[I", true)
  | 21 => ("GongTideModel", "isKept", "Z", false)
  | 22 => ("GongTideModel", "keptColony", "I", false)
  | 23 => ("GongTideModel", "keptStrokes", "I", false)
  | 24 => ("GongTideModel", "keptChanges", "I", false)
  | 25 => ("GongTideModel", "keptHeard", "I", false)
  | 26 => ("GongTideModel", "keptLevel", "[I", true)
  | 27 => ("GongTideModel", "keptHour", "[I", true)
  | 28 => ("GongTideModel", "keptLoud", "[I", true)
  | 29 => ("GongTideModel", "keptHouse", "[I", true)
  | 30 => ("GongTideModel", "keptHeardHour", "[I", true)
  | 31 => ("GongTideModel", "keptHeardLoud", "[I", true)
  | 32 => ("GongTideModel", "keptHow", "[I", true)
  | _ => ("GongTideModel", "h", "J", false)
def tyX6 : Nat → FieldType := fun k => match k with
  | 0 => .int
  | 1 => .int
  | 2 => .array .int
  | 3 => .array .int
  | 4 => .int
  | 5 => .array .int
  | 6 => .array .int
  | 7 => .int
  | 8 => .int
  | 9 => .array .int
  | 10 => .array .int
  | 11 => .array .int
  | 12 => .array .int
  | 13 => .int
  | 14 => .array .byte
  | 15 => .boolean
  | 16 => .int
  | 17 => .int
  | 18 => .int
  | 19 => .long
  | 20 => .array .int
  | 21 => .boolean
  | 22 => .int
  | 23 => .int
  | 24 => .int
  | 25 => .int
  | 26 => .array .int
  | 27 => .array .int
  | 28 => .array .int
  | 29 => .array .int
  | 30 => .array .int
  | 31 => .array .int
  | 32 => .array .int
  | _ => .long
abbrev wsX60 : List Cond := u_ws RX6 TX6 34
theorem nmX6 : ∀ a, a < 34 → ∀ b, b < 34 → a ≠ b → (TX6 a).2.1 ≠ (TX6 b).2.1 := by decide +kernel
theorem tyX6_ok : ∀ k, k < 34 → parseFieldDescriptor (TX6 k).2.2.1 = some (tyX6 k) := by decide +kernel
abbrev cX6_init : ByteArray := prog_8_method_1_code
def yX6_init : MethodName := ⟨RX6, "<init>", "()V"⟩
abbrev cX6_within : ByteArray := prog_8_method_3_code
def yX6_within : MethodName := ⟨RX6, "within", "(III)Z"⟩
abbrev cX6_isIn : ByteArray := prog_8_method_4_code
def yX6_isIn : MethodName := ⟨RX6, "isIn", "(II)Z"⟩
abbrev cX6_letter : ByteArray := prog_8_method_5_code
def yX6_letter : MethodName := ⟨RX6, "letter", "(I)I"⟩
abbrev cX6_blank : ByteArray := prog_8_method_6_code
def yX6_blank : MethodName := ⟨RX6, "blank", "()I"⟩
abbrev cX6_kindBy : ByteArray := prog_8_method_7_code
def yX6_kindBy : MethodName := ⟨RX6, "kindBy", "(I)I"⟩
abbrev cX6_figure : ByteArray := prog_8_method_8_code
def yX6_figure : MethodName := ⟨RX6, "figure", "(I)I"⟩
abbrev cX6_readStrokes : ByteArray := prog_8_method_9_code
def yX6_readStrokes : MethodName := ⟨RX6, "readStrokes", "(I)I"⟩
abbrev cX6_read : ByteArray := prog_8_method_10_code
def yX6_read : MethodName := ⟨RX6, "read", "()I"⟩
abbrev cX6_fault : ByteArray := prog_8_method_11_code
def yX6_fault : MethodName := ⟨RX6, "fault", "()I"⟩
abbrev cX6_colony : ByteArray := prog_8_method_12_code
def yX6_colony : MethodName := ⟨RX6, "colony", "()I"⟩
abbrev cX6_isHouse : ByteArray := prog_8_method_13_code
def yX6_isHouse : MethodName := ⟨RX6, "isHouse", "(I)Z"⟩
abbrev cX6_isStroke : ByteArray := prog_8_method_14_code
def yX6_isStroke : MethodName := ⟨RX6, "isStroke", "(I)Z"⟩
abbrev cX6_isHour : ByteArray := prog_8_method_15_code
def yX6_isHour : MethodName := ⟨RX6, "isHour", "(I)Z"⟩
abbrev cX6_tideAt : ByteArray := prog_8_method_16_code
def yX6_tideAt : MethodName := ⟨RX6, "tideAt", "(I)I"⟩
abbrev cX6_tideBefore : ByteArray := prog_8_method_17_code
def yX6_tideBefore : MethodName := ⟨RX6, "tideBefore", "(I)I"⟩
abbrev cX6_less : ByteArray := prog_8_method_18_code
def yX6_less : MethodName := ⟨RX6, "less", "(II)I"⟩
abbrev cX6_mannersAt : ByteArray := prog_8_method_19_code
def yX6_mannersAt : MethodName := ⟨RX6, "mannersAt", "(II)I"⟩
abbrev cX6_howAt : ByteArray := prog_8_method_20_code
def yX6_howAt : MethodName := ⟨RX6, "howAt", "(II)I"⟩
abbrev cX6_hoursOf : ByteArray := prog_8_method_21_code
def yX6_hoursOf : MethodName := ⟨RX6, "hoursOf", "(II)I"⟩
abbrev cX6_hoursAll : ByteArray := prog_8_method_22_code
def yX6_hoursAll : MethodName := ⟨RX6, "hoursAll", "(I)I"⟩
abbrev cX6_greatestHour : ByteArray := prog_8_method_23_code
def yX6_greatestHour : MethodName := ⟨RX6, "greatestHour", "(I)I"⟩
abbrev cX6_houseNow : ByteArray := prog_8_method_24_code
def yX6_houseNow : MethodName := ⟨RX6, "houseNow", "(II)I"⟩
abbrev cX6_about : ByteArray := prog_8_method_25_code
def yX6_about : MethodName := ⟨RX6, "about", "(II)I"⟩
abbrev cX6_as : ByteArray := prog_8_method_26_code
def yX6_as : MethodName := ⟨RX6, "as", "(II)I"⟩
abbrev cX6_raise : ByteArray := prog_8_method_27_code
def yX6_raise : MethodName := ⟨RX6, "raise", "(II)I"⟩
abbrev cX6_tide : ByteArray := prog_8_method_28_code
def yX6_tide : MethodName := ⟨RX6, "tide", "(I)I"⟩
abbrev cX6_strike : ByteArray := prog_8_method_29_code
def yX6_strike : MethodName := ⟨RX6, "strike", "(II)I"⟩
abbrev cX6_felt : ByteArray := prog_8_method_30_code
def yX6_felt : MethodName := ⟨RX6, "felt", "(II)I"⟩
abbrev cX6_strokeNow : ByteArray := prog_8_method_31_code
def yX6_strokeNow : MethodName := ⟨RX6, "strokeNow", "(II)I"⟩
abbrev cX6_stroke : ByteArray := prog_8_method_32_code
def yX6_stroke : MethodName := ⟨RX6, "stroke", "(II)I"⟩
abbrev cX6_isPolite : ByteArray := prog_8_method_33_code
def yX6_isPolite : MethodName := ⟨RX6, "isPolite", "(III)Z"⟩
abbrev cX6_dinnerNow : ByteArray := prog_8_method_34_code
def yX6_dinnerNow : MethodName := ⟨RX6, "dinnerNow", "(II)I"⟩
abbrev cX6_dinner : ByteArray := prog_8_method_35_code
def yX6_dinner : MethodName := ⟨RX6, "dinner", "(II)I"⟩
abbrev cX6_think : ByteArray := prog_8_method_36_code
def yX6_think : MethodName := ⟨RX6, "think", "(II)V"⟩
abbrev cX6_bestNow : ByteArray := prog_8_method_37_code
def yX6_bestNow : MethodName := ⟨RX6, "bestNow", "(II)I"⟩
abbrev cX6_best : ByteArray := prog_8_method_38_code
def yX6_best : MethodName := ⟨RX6, "best", "(II)I"⟩
abbrev cX6_hear : ByteArray := prog_8_method_39_code
def yX6_hear : MethodName := ⟨RX6, "hear", "(IIII)I"⟩
abbrev cX6_forget : ByteArray := prog_8_method_40_code
def yX6_forget : MethodName := ⟨RX6, "forget", "()I"⟩
abbrev cX6_isHeard : ByteArray := prog_8_method_41_code
def yX6_isHeard : MethodName := ⟨RX6, "isHeard", "(I)Z"⟩
abbrev cX6_hoursNow : ByteArray := prog_8_method_42_code
def yX6_hoursNow : MethodName := ⟨RX6, "hoursNow", "()I"⟩
abbrev cX6_hours : ByteArray := prog_8_method_43_code
def yX6_hours : MethodName := ⟨RX6, "hours", "()I"⟩
abbrev cX6_worstIn : ByteArray := prog_8_method_44_code
def yX6_worstIn : MethodName := ⟨RX6, "worstIn", "(III)I"⟩
abbrev cX6_askNow : ByteArray := prog_8_method_45_code
def yX6_askNow : MethodName := ⟨RX6, "askNow", "(I)I"⟩
abbrev cX6_ask : ByteArray := prog_8_method_46_code
def yX6_ask : MethodName := ⟨RX6, "ask", "(I)I"⟩
abbrev cX6_draw : ByteArray := prog_8_method_47_code
def yX6_draw : MethodName := ⟨RX6, "draw", "(I)I"⟩
abbrev cX6_weeksNow : ByteArray := prog_8_method_48_code
def yX6_weeksNow : MethodName := ⟨RX6, "weeksNow", "(III)I"⟩
abbrev cX6_weeks : ByteArray := prog_8_method_49_code
def yX6_weeks : MethodName := ⟨RX6, "weeks", "(III)I"⟩
abbrev cX6_image : ByteArray := prog_8_method_50_code
def yX6_image : MethodName := ⟨RX6, "image", "()I"⟩
abbrev cX6_restore : ByteArray := prog_8_method_51_code
def yX6_restore : MethodName := ⟨RX6, "restore", "()I"⟩
abbrev cX6_highest : ByteArray := prog_8_method_52_code
def yX6_highest : MethodName := ⟨RX6, "highest", "()I"⟩
abbrev cX6_howMany : ByteArray := prog_8_method_53_code
def yX6_howMany : MethodName := ⟨RX6, "howMany", "(I)I"⟩
abbrev cX6_count : ByteArray := prog_8_method_54_code
def yX6_count : MethodName := ⟨RX6, "count", "(I)I"⟩
abbrev cX6_mix : ByteArray := prog_8_method_55_code
def yX6_mix : MethodName := ⟨RX6, "mix", "(J)V"⟩
abbrev cX6_digest : ByteArray := prog_8_method_56_code
def yX6_digest : MethodName := ⟨RX6, "digest", "()J"⟩
def RJ9 : String := "java/lang/Math"
def TJ9 : u_T := fun k => match k with
  | _ => ("", "", "", false)
def tyJ9 : Nat → FieldType := fun k => match k with
  | _ => .int
abbrev wsJ90 : List Cond := u_ws RJ9 TJ9 0
theorem nmJ9 : ∀ a, a < 0 → ∀ b, b < 0 → a ≠ b → (TJ9 a).2.1 ≠ (TJ9 b).2.1 := by decide +kernel
theorem tyJ9_ok : ∀ k, k < 0 → parseFieldDescriptor (TJ9 k).2.2.1 = some (tyJ9 k) := by decide +kernel
abbrev cJ9_max_7cf53 : ByteArray := prog_9_method_65_code
def yJ9_max_7cf53 : MethodName := ⟨RJ9, "max", "(II)I"⟩
abbrev cJ9_min_7cf53 : ByteArray := prog_9_method_69_code
def yJ9_min_7cf53 : MethodName := ⟨RJ9, "min", "(II)I"⟩
def RL : String := "GongTideLaw"
abbrev cL_law : ByteArray := code
def yL_law : MethodName := ⟨RL, "law", "([I)Z"⟩
def wsX3_init : List Cond := .code yX3_init cX3_init 1 none :: ([.methodLink RX3 3 objectInit, .instanceMethod objectInit, .code objectInit ⟨#[0xb1]⟩ 1 none, .arrayClass .int, .fieldLink RX3 9 "GongTide$Strokes" "hours" "[I", .fieldLink RX3 15 "GongTide$Strokes" "louds" "[I"] ++ wsX30)
def wsX1_init : List Cond := .code yX1_init cX1_init 1 none :: ([.methodLink RX1 3 objectInit, .instanceMethod objectInit, .code objectInit ⟨#[0xb1]⟩ 1 none, .arrayClass .int, .fieldLink RX1 9 "GongTide$Heard" "houses" "[I", .fieldLink RX1 15 "GongTide$Heard" "hours" "[I", .fieldLink RX1 18 "GongTide$Heard" "louds" "[I", .fieldLink RX1 21 "GongTide$Heard" "hows" "[I"] ++ wsX10)
def wsX0_init_r1 : List Cond := [Cond.methodLink RX0 3 objectInit, Cond.instanceMethod objectInit, Cond.code objectInit ⟨#[0xb1]⟩ 1 none, Cond.arrayClass .int, Cond.fieldLink RX0 9 "GongTide$Affairs" "levels" "[I", Cond.classLink RX0 15 RX3, Cond.instantiable RX3 3, Cond.initialized RX3, Cond.fieldLink RX0 18 "GongTide$Affairs" "strokes" "LGongTide$Strokes;", Cond.classLink RX0 22 RX1, Cond.instantiable RX1 5, Cond.initialized RX1, Cond.fieldLink RX0 25 "GongTide$Affairs" "heard" "LGongTide$Heard;", Cond.instanceMethod yX3_init, Cond.code yX3_init cX3_init 1 none, Cond.methodLink RX3 3 objectInit, Cond.fieldLink RX3 9 "GongTide$Strokes" "hours" "[I", Cond.fieldLink RX3 15 "GongTide$Strokes" "louds" "[I", Cond.instanceMethod yX1_init, Cond.code yX1_init cX1_init 1 none, Cond.methodLink RX1 3 objectInit, Cond.fieldLink RX1 9 "GongTide$Heard" "houses" "[I", Cond.fieldLink RX1 15 "GongTide$Heard" "hours" "[I", Cond.fieldLink RX1 18 "GongTide$Heard" "louds" "[I"]
def wsX0_init_r2 : List Cond := [Cond.fieldLink RX1 21 "GongTide$Heard" "hows" "[I"]
def wsX0_init : List Cond := .code yX0_init cX0_init 1 none :: ((wsX0_init_r1 ++ wsX0_init_r2) ++ wsX00 ++ wsX30 ++ wsX10)
def wsX3_clear : List Cond := .code yX3_clear cX3_clear 1 none :: ([.fieldLink RX3 18 "GongTide$Strokes" "size" "I"] ++ wsX30)
def wsX1_clear : List Cond := .code yX1_clear cX1_clear 2 (some .int) :: ([.fieldLink RX1 24 "GongTide$Heard" "size" "I"] ++ wsX10)
def wsX0_clear : List Cond := .code yX0_clear cX0_clear 1 none :: ([.fieldLink RX0 18 "GongTide$Affairs" "strokes" "LGongTide$Strokes;", .fieldLink RX0 25 "GongTide$Affairs" "heard" "LGongTide$Heard;", .fieldLink RX0 35 "GongTide$Affairs" "changes" "I", .methodLink RX0 29 yX3_clear, .instanceMethod yX3_clear, .selects RX3 yX3_clear yX3_clear, .initialized RX3, .code yX3_clear cX3_clear 1 none, .fieldLink RX3 18 "GongTide$Strokes" "size" "I", .methodLink RX0 32 yX1_clear, .instanceMethod yX1_clear, .selects RX1 yX1_clear yX1_clear, .initialized RX1, .code yX1_clear cX1_clear 2 (some .int), .fieldLink RX1 24 "GongTide$Heard" "size" "I"] ++ wsX00 ++ wsX30 ++ wsX10)
def wsX5_isWithin : List Cond := .code yX5_isWithin cX5_isWithin 3 (some .boolean) :: ([])
def wsX0_level : List Cond := .code yX0_level cX0_level 2 (some .int) :: ([.fieldLink RX0 9 "GongTide$Affairs" "levels" "[I", .static yX5_isWithin, .initialized RX5, .code yX5_isWithin cX5_isWithin 3 (some .boolean)] ++ wsX00)
def wsX0_setLevel : List Cond := .code yX0_setLevel cX0_setLevel 3 none :: ([.fieldLink RX0 9 "GongTide$Affairs" "levels" "[I", .static yX5_isWithin, .initialized RX5, .code yX5_isWithin cX5_isWithin 3 (some .boolean)] ++ wsX00)
def wsX3_copyFrom : List Cond := .code yX3_copyFrom cX3_copyFrom 3 none :: ([.fieldLink RX3 18 "GongTide$Strokes" "size" "I", .fieldLink RX3 9 "GongTide$Strokes" "hours" "[I", .fieldLink RX3 15 "GongTide$Strokes" "louds" "[I"] ++ wsX30)
def wsX1_copyFrom : List Cond := .code yX1_copyFrom cX1_copyFrom 3 none :: ([.fieldLink RX1 24 "GongTide$Heard" "size" "I", .fieldLink RX1 9 "GongTide$Heard" "houses" "[I", .fieldLink RX1 15 "GongTide$Heard" "hours" "[I", .fieldLink RX1 18 "GongTide$Heard" "louds" "[I", .fieldLink RX1 21 "GongTide$Heard" "hows" "[I"] ++ wsX10)
def wsX0_copyFrom : List Cond := .code yX0_copyFrom cX0_copyFrom 3 none :: ([.fieldLink RX0 9 "GongTide$Affairs" "levels" "[I", .fieldLink RX0 18 "GongTide$Affairs" "strokes" "LGongTide$Strokes;", .fieldLink RX0 25 "GongTide$Affairs" "heard" "LGongTide$Heard;", .fieldLink RX0 35 "GongTide$Affairs" "changes" "I", .methodLink RX0 43 yX3_copyFrom, .instanceMethod yX3_copyFrom, .selects RX3 yX3_copyFrom yX3_copyFrom, .initialized RX3, .code yX3_copyFrom cX3_copyFrom 3 none, .fieldLink RX3 18 "GongTide$Strokes" "size" "I", .fieldLink RX3 9 "GongTide$Strokes" "hours" "[I", .fieldLink RX3 15 "GongTide$Strokes" "louds" "[I", .methodLink RX0 47 yX1_copyFrom, .instanceMethod yX1_copyFrom, .selects RX1 yX1_copyFrom yX1_copyFrom, .initialized RX1, .code yX1_copyFrom cX1_copyFrom 3 none, .fieldLink RX1 24 "GongTide$Heard" "size" "I", .fieldLink RX1 9 "GongTide$Heard" "houses" "[I", .fieldLink RX1 15 "GongTide$Heard" "hours" "[I", .fieldLink RX1 18 "GongTide$Heard" "louds" "[I", .fieldLink RX1 21 "GongTide$Heard" "hows" "[I"] ++ wsX00 ++ wsX30 ++ wsX10)
def wsX1_size : List Cond := .code yX1_size cX1_size 1 (some .int) :: ([.fieldLink RX1 24 "GongTide$Heard" "size" "I"] ++ wsX10)
def wsX1_add : List Cond := .code yX1_add cX1_add 5 (some .boolean) :: ([.fieldLink RX1 24 "GongTide$Heard" "size" "I", .fieldLink RX1 9 "GongTide$Heard" "houses" "[I", .fieldLink RX1 15 "GongTide$Heard" "hours" "[I", .fieldLink RX1 18 "GongTide$Heard" "louds" "[I", .fieldLink RX1 21 "GongTide$Heard" "hows" "[I"] ++ wsX10)
def wsX1_has : List Cond := .code yX1_has cX1_has 2 (some .boolean) :: ([.fieldLink RX1 24 "GongTide$Heard" "size" "I", .static yX5_isWithin, .initialized RX5, .code yX5_isWithin cX5_isWithin 3 (some .boolean)] ++ wsX10)
def wsX1_house : List Cond := .code yX1_house cX1_house 2 (some .int) :: ([.fieldLink RX1 9 "GongTide$Heard" "houses" "[I", .methodLink RX1 32 yX1_has, .instanceMethod yX1_has, .selects RX1 yX1_has yX1_has, .initialized RX1, .code yX1_has cX1_has 2 (some .boolean), .fieldLink RX1 24 "GongTide$Heard" "size" "I", .static yX5_isWithin, .initialized RX5, .code yX5_isWithin cX5_isWithin 3 (some .boolean)] ++ wsX10)
def wsX1_hour : List Cond := .code yX1_hour cX1_hour 2 (some .int) :: ([.fieldLink RX1 15 "GongTide$Heard" "hours" "[I", .methodLink RX1 32 yX1_has, .instanceMethod yX1_has, .selects RX1 yX1_has yX1_has, .initialized RX1, .code yX1_has cX1_has 2 (some .boolean), .fieldLink RX1 24 "GongTide$Heard" "size" "I", .static yX5_isWithin, .initialized RX5, .code yX5_isWithin cX5_isWithin 3 (some .boolean)] ++ wsX10)
def wsX1_loud : List Cond := .code yX1_loud cX1_loud 2 (some .int) :: ([.fieldLink RX1 18 "GongTide$Heard" "louds" "[I", .methodLink RX1 32 yX1_has, .instanceMethod yX1_has, .selects RX1 yX1_has yX1_has, .initialized RX1, .code yX1_has cX1_has 2 (some .boolean), .fieldLink RX1 24 "GongTide$Heard" "size" "I", .static yX5_isWithin, .initialized RX5, .code yX5_isWithin cX5_isWithin 3 (some .boolean)] ++ wsX10)
def wsX1_how : List Cond := .code yX1_how cX1_how 2 (some .int) :: ([.fieldLink RX1 21 "GongTide$Heard" "hows" "[I", .methodLink RX1 32 yX1_has, .instanceMethod yX1_has, .selects RX1 yX1_has yX1_has, .initialized RX1, .code yX1_has cX1_has 2 (some .boolean), .fieldLink RX1 24 "GongTide$Heard" "size" "I", .static yX5_isWithin, .initialized RX5, .code yX5_isWithin cX5_isWithin 3 (some .boolean)] ++ wsX10)
def wsX1_lastLoud : List Cond := .code yX1_lastLoud cX1_lastLoud 1 (some .int) :: ([.fieldLink RX1 24 "GongTide$Heard" "size" "I", .methodLink RX1 36 yX1_loud, .instanceMethod yX1_loud, .selects RX1 yX1_loud yX1_loud, .initialized RX1, .code yX1_loud cX1_loud 2 (some .int), .fieldLink RX1 18 "GongTide$Heard" "louds" "[I", .methodLink RX1 32 yX1_has, .instanceMethod yX1_has, .selects RX1 yX1_has yX1_has, .code yX1_has cX1_has 2 (some .boolean), .static yX5_isWithin, .initialized RX5, .code yX5_isWithin cX5_isWithin 3 (some .boolean)] ++ wsX10)
def wsX2_init : List Cond := .code yX2_init cX2_init 1 none :: ([.methodLink RX2 3 objectInit, .instanceMethod objectInit, .code objectInit ⟨#[0xb1]⟩ 1 none, .arrayClass .int, .fieldLink RX2 9 "GongTide$Page" "codes" "[I"] ++ wsX20)
def wsX2_size : List Cond := .code yX2_size cX2_size 1 (some .int) :: ([.fieldLink RX2 15 "GongTide$Page" "size" "I"] ++ wsX20)
def wsX2_write : List Cond := .code yX2_write cX2_write 2 (some .boolean) :: ([.fieldLink RX2 15 "GongTide$Page" "size" "I", .fieldLink RX2 9 "GongTide$Page" "codes" "[I"] ++ wsX20)
def wsX2_wipe : List Cond := .code yX2_wipe cX2_wipe 2 (some .int) :: ([.fieldLink RX2 15 "GongTide$Page" "size" "I"] ++ wsX20)
def wsX2_at : List Cond := .code yX2_at cX2_at 2 (some .int) :: ([.fieldLink RX2 15 "GongTide$Page" "size" "I", .fieldLink RX2 9 "GongTide$Page" "codes" "[I", .static yX5_isWithin, .initialized RX5, .code yX5_isWithin cX5_isWithin 3 (some .boolean)] ++ wsX20)
def wsX2_digitAt : List Cond := .code yX2_digitAt cX2_digitAt 2 (some .int) :: ([.methodLink RX2 23 yX2_at, .instanceMethod yX2_at, .selects RX2 yX2_at yX2_at, .initialized RX2, .code yX2_at cX2_at 2 (some .int), .fieldLink RX2 15 "GongTide$Page" "size" "I", .fieldLink RX2 9 "GongTide$Page" "codes" "[I", .static yX5_isWithin, .initialized RX5, .code yX5_isWithin cX5_isWithin 3 (some .boolean)] ++ wsX20)
def wsX2_houses : List Cond := .code yX2_houses cX2_houses 2 (some .int) :: ([.methodLink RX2 23 yX2_at, .instanceMethod yX2_at, .selects RX2 yX2_at yX2_at, .initialized RX2, .code yX2_at cX2_at 2 (some .int), .fieldLink RX2 15 "GongTide$Page" "size" "I", .fieldLink RX2 9 "GongTide$Page" "codes" "[I", .static yX5_isWithin, .initialized RX5, .code yX5_isWithin cX5_isWithin 3 (some .boolean)] ++ wsX20)
def wsX5_kindOf : List Cond := .code yX5_kindOf cX5_kindOf 1 (some .int) :: ([])
def wsX2_suitsHouses : List Cond := .code yX2_suitsHouses cX2_suitsHouses 3 (some .boolean) :: ([.static yX5_kindOf, .initialized RX5, .code yX5_kindOf cX5_kindOf 1 (some .int), .static yX5_isWithin, .code yX5_isWithin cX5_isWithin 3 (some .boolean)])
def wsX2_suitsStrokes : List Cond := .code yX2_suitsStrokes cX2_suitsStrokes 3 (some .boolean) :: ([.static yX5_isWithin, .initialized RX5, .code yX5_isWithin cX5_isWithin 3 (some .boolean)])
def wsX2_soundLetters : List Cond := .code yX2_soundLetters cX2_soundLetters 5 (some .int) :: ([.fieldLink RX2 15 "GongTide$Page" "size" "I", .methodLink RX2 27 yX2_houses, .instanceMethod yX2_houses, .selects RX2 yX2_houses yX2_houses, .initialized RX2, .code yX2_houses cX2_houses 2 (some .int), .methodLink RX2 23 yX2_at, .instanceMethod yX2_at, .selects RX2 yX2_at yX2_at, .code yX2_at cX2_at 2 (some .int), .fieldLink RX2 9 "GongTide$Page" "codes" "[I", .static yX5_isWithin, .initialized RX5, .code yX5_isWithin cX5_isWithin 3 (some .boolean), .methodLink RX2 31 yX2_suitsHouses, .static yX2_suitsHouses, .code yX2_suitsHouses cX2_suitsHouses 3 (some .boolean), .static yX5_kindOf, .code yX5_kindOf cX5_kindOf 1 (some .int), .methodLink RX2 35 yX2_suitsStrokes, .static yX2_suitsStrokes, .code yX2_suitsStrokes cX2_suitsStrokes 3 (some .boolean)] ++ wsX20)
def wsX2_tellsColony_r1 : List Cond := [Cond.fieldLink RX2 15 "GongTide$Page" "size" "I", Cond.methodLink RX2 27 yX2_houses, Cond.instanceMethod yX2_houses, Cond.selects RX2 yX2_houses yX2_houses, Cond.initialized RX2, Cond.code yX2_houses cX2_houses 2 (some .int), Cond.methodLink RX2 23 yX2_at, Cond.instanceMethod yX2_at, Cond.selects RX2 yX2_at yX2_at, Cond.code yX2_at cX2_at 2 (some .int), Cond.fieldLink RX2 9 "GongTide$Page" "codes" "[I", Cond.static yX5_isWithin, Cond.initialized RX5, Cond.code yX5_isWithin cX5_isWithin 3 (some .boolean), Cond.methodLink RX2 38 yX2_soundLetters, Cond.instanceMethod yX2_soundLetters, Cond.selects RX2 yX2_soundLetters yX2_soundLetters, Cond.code yX2_soundLetters cX2_soundLetters 5 (some .int), Cond.methodLink RX2 31 yX2_suitsHouses, Cond.static yX2_suitsHouses, Cond.code yX2_suitsHouses cX2_suitsHouses 3 (some .boolean), Cond.static yX5_kindOf, Cond.code yX5_kindOf cX5_kindOf 1 (some .int), Cond.methodLink RX2 35 yX2_suitsStrokes]
def wsX2_tellsColony_r2 : List Cond := [Cond.static yX2_suitsStrokes, Cond.code yX2_suitsStrokes cX2_suitsStrokes 3 (some .boolean)]
def wsX2_tellsColony : List Cond := .code yX2_tellsColony cX2_tellsColony 3 (some .boolean) :: ((wsX2_tellsColony_r1 ++ wsX2_tellsColony_r2) ++ wsX20)
def wsX3_size : List Cond := .code yX3_size cX3_size 1 (some .int) :: ([.fieldLink RX3 18 "GongTide$Strokes" "size" "I"] ++ wsX30)
def wsX3_has : List Cond := .code yX3_has cX3_has 2 (some .boolean) :: ([.fieldLink RX3 18 "GongTide$Strokes" "size" "I", .static yX5_isWithin, .initialized RX5, .code yX5_isWithin cX5_isWithin 3 (some .boolean)] ++ wsX30)
def wsX3_add : List Cond := .code yX3_add cX3_add 3 (some .boolean) :: ([.fieldLink RX3 18 "GongTide$Strokes" "size" "I", .fieldLink RX3 9 "GongTide$Strokes" "hours" "[I", .fieldLink RX3 15 "GongTide$Strokes" "louds" "[I"] ++ wsX30)
def wsX3_hour : List Cond := .code yX3_hour cX3_hour 2 (some .int) :: ([.fieldLink RX3 9 "GongTide$Strokes" "hours" "[I", .methodLink RX3 26 yX3_has, .instanceMethod yX3_has, .selects RX3 yX3_has yX3_has, .initialized RX3, .code yX3_has cX3_has 2 (some .boolean), .fieldLink RX3 18 "GongTide$Strokes" "size" "I", .static yX5_isWithin, .initialized RX5, .code yX5_isWithin cX5_isWithin 3 (some .boolean)] ++ wsX30)
def wsX3_loud : List Cond := .code yX3_loud cX3_loud 2 (some .int) :: ([.fieldLink RX3 15 "GongTide$Strokes" "louds" "[I", .methodLink RX3 26 yX3_has, .instanceMethod yX3_has, .selects RX3 yX3_has yX3_has, .initialized RX3, .code yX3_has cX3_has 2 (some .boolean), .fieldLink RX3 18 "GongTide$Strokes" "size" "I", .static yX5_isWithin, .initialized RX5, .code yX5_isWithin cX5_isWithin 3 (some .boolean)] ++ wsX30)
def wsX3_setLoud : List Cond := .code yX3_setLoud cX3_setLoud 3 none :: ([.fieldLink RX3 15 "GongTide$Strokes" "louds" "[I", .methodLink RX3 26 yX3_has, .instanceMethod yX3_has, .selects RX3 yX3_has yX3_has, .initialized RX3, .code yX3_has cX3_has 2 (some .boolean), .fieldLink RX3 18 "GongTide$Strokes" "size" "I", .static yX5_isWithin, .initialized RX5, .code yX5_isWithin cX5_isWithin 3 (some .boolean)] ++ wsX30)
def wsX3_goneAt : List Cond := .code yX3_goneAt cX3_goneAt 3 (some .int) :: ([.methodLink RX3 30 yX3_hour, .instanceMethod yX3_hour, .selects RX3 yX3_hour yX3_hour, .initialized RX3, .code yX3_hour cX3_hour 2 (some .int), .fieldLink RX3 9 "GongTide$Strokes" "hours" "[I", .methodLink RX3 26 yX3_has, .instanceMethod yX3_has, .selects RX3 yX3_has yX3_has, .code yX3_has cX3_has 2 (some .boolean), .fieldLink RX3 18 "GongTide$Strokes" "size" "I", .static yX5_isWithin, .initialized RX5, .code yX5_isWithin cX5_isWithin 3 (some .boolean), .methodLink RX3 34 yX3_loud, .instanceMethod yX3_loud, .selects RX3 yX3_loud yX3_loud, .code yX3_loud cX3_loud 2 (some .int), .fieldLink RX3 15 "GongTide$Strokes" "louds" "[I"] ++ wsX30)
def wsX4_init : List Cond := .code yX4_init cX4_init 1 none :: ([.methodLink RX4 3 objectInit, .instanceMethod objectInit, .code objectInit ⟨#[0xb1]⟩ 1 none, .arrayClass .int, .fieldLink RX4 9 "GongTide$Tide" "sums" "[I"] ++ wsX40)
def wsX4_clear : List Cond := .code yX4_clear cX4_clear 2 none :: ([.fieldLink RX4 9 "GongTide$Tide" "sums" "[I"] ++ wsX40)
def wsX4_add : List Cond := .code yX4_add cX4_add 5 none :: ([.methodLink RX4 15 Lib.Math.max.name, .static Lib.Math.max.name, .initialized "java/lang/Math", .code Lib.Math.max.name Lib.Math.max.code 2 (some .int), .fieldLink RX4 9 "GongTide$Tide" "sums" "[I"] ++ wsX40)
def wsX4_copyFrom : List Cond := .code yX4_copyFrom cX4_copyFrom 3 none :: ([.fieldLink RX4 9 "GongTide$Tide" "sums" "[I"] ++ wsX40)
def wsX4_at : List Cond := .code yX4_at cX4_at 2 (some .int) :: ([.fieldLink RX4 9 "GongTide$Tide" "sums" "[I", .methodLink RX4 21 Lib.Math.min.name, .static Lib.Math.min.name, .initialized "java/lang/Math", .code Lib.Math.min.name Lib.Math.min.code 2 (some .int)] ++ wsX40)
def wsX4_greatest : List Cond := .code yX4_greatest cX4_greatest 3 (some .int) :: ([.methodLink RX4 15 Lib.Math.max.name, .static Lib.Math.max.name, .initialized "java/lang/Math", .code Lib.Math.max.name Lib.Math.max.code 2 (some .int), .methodLink RX4 24 yX4_at, .instanceMethod yX4_at, .selects RX4 yX4_at yX4_at, .initialized RX4, .code yX4_at cX4_at 2 (some .int), .fieldLink RX4 9 "GongTide$Tide" "sums" "[I", .methodLink RX4 21 Lib.Math.min.name, .static Lib.Math.min.name, .code Lib.Math.min.name Lib.Math.min.code 2 (some .int)] ++ wsX40)
def wsX5_init_r1 : List Cond := [Cond.methodLink RX5 1 objectInit, Cond.instanceMethod objectInit, Cond.code objectInit ⟨#[0xb1]⟩ 1 none, Cond.classLink RX5 7 RX2, Cond.instantiable RX2 2, Cond.initialized RX2, Cond.fieldLink RX5 10 "GongTide" "page" "LGongTide$Page;", Cond.arrayClass .int, Cond.fieldLink RX5 16 "GongTide" "kinds" "[I", Cond.classLink RX5 20 RX0, Cond.instantiable RX0 4, Cond.initialized RX0, Cond.fieldLink RX5 23 "GongTide" "affairs" "LGongTide$Affairs;", Cond.fieldLink RX5 27 "GongTide" "kept" "LGongTide$Affairs;", Cond.classLink RX5 30 RX4, Cond.instantiable RX4 1, Cond.initialized RX4, Cond.fieldLink RX5 33 "GongTide" "now" "LGongTide$Tide;", Cond.fieldLink RX5 37 "GongTide" "supposed" "LGongTide$Tide;", Cond.instanceMethod yX2_init, Cond.code yX2_init cX2_init 1 none, Cond.methodLink RX2 3 objectInit, Cond.fieldLink RX2 9 "GongTide$Page" "codes" "[I", Cond.instanceMethod yX0_init]
def wsX5_init_r2 : List Cond := [Cond.code yX0_init cX0_init 1 none, Cond.methodLink RX0 3 objectInit, Cond.fieldLink RX0 9 "GongTide$Affairs" "levels" "[I", Cond.classLink RX0 15 RX3, Cond.instantiable RX3 3, Cond.initialized RX3, Cond.fieldLink RX0 18 "GongTide$Affairs" "strokes" "LGongTide$Strokes;", Cond.classLink RX0 22 RX1, Cond.instantiable RX1 5, Cond.initialized RX1, Cond.fieldLink RX0 25 "GongTide$Affairs" "heard" "LGongTide$Heard;", Cond.instanceMethod yX3_init, Cond.code yX3_init cX3_init 1 none, Cond.methodLink RX3 3 objectInit, Cond.fieldLink RX3 9 "GongTide$Strokes" "hours" "[I", Cond.fieldLink RX3 15 "GongTide$Strokes" "louds" "[I", Cond.instanceMethod yX1_init, Cond.code yX1_init cX1_init 1 none, Cond.methodLink RX1 3 objectInit, Cond.fieldLink RX1 9 "GongTide$Heard" "houses" "[I", Cond.fieldLink RX1 15 "GongTide$Heard" "hours" "[I", Cond.fieldLink RX1 18 "GongTide$Heard" "louds" "[I", Cond.fieldLink RX1 21 "GongTide$Heard" "hows" "[I", Cond.instanceMethod yX4_init]
def wsX5_init_r3 : List Cond := [Cond.code yX4_init cX4_init 1 none, Cond.methodLink RX4 3 objectInit, Cond.fieldLink RX4 9 "GongTide$Tide" "sums" "[I"]
def wsX5_init : List Cond := .code yX5_init cX5_init 1 none :: ((wsX5_init_r1 ++ (wsX5_init_r2 ++ wsX5_init_r3)) ++ wsX20 ++ wsX50 ++ wsX00 ++ wsX40 ++ wsX30 ++ wsX10)
def wsX5_letter : List Cond := .code yX5_letter cX5_letter 2 (some .int) :: ([.fieldLink RX5 10 "GongTide" "page" "LGongTide$Page;", .methodLink RX5 40 yX5_isWithin, .static yX5_isWithin, .initialized RX5, .code yX5_isWithin cX5_isWithin 3 (some .boolean), .methodLink RX5 44 yX2_write, .instanceMethod yX2_write, .selects RX2 yX2_write yX2_write, .initialized RX2, .code yX2_write cX2_write 2 (some .boolean), .fieldLink RX2 15 "GongTide$Page" "size" "I", .fieldLink RX2 9 "GongTide$Page" "codes" "[I", .methodLink RX5 48 yX2_size, .instanceMethod yX2_size, .selects RX2 yX2_size yX2_size, .code yX2_size cX2_size 1 (some .int)] ++ wsX50 ++ wsX20)
def wsX5_blank : List Cond := .code yX5_blank cX5_blank 1 (some .int) :: ([.fieldLink RX5 10 "GongTide" "page" "LGongTide$Page;", .methodLink RX5 52 yX2_wipe, .instanceMethod yX2_wipe, .selects RX2 yX2_wipe yX2_wipe, .initialized RX2, .code yX2_wipe cX2_wipe 2 (some .int), .fieldLink RX2 15 "GongTide$Page" "size" "I"] ++ wsX50 ++ wsX20)
def wsX5_fault_r1 : List Cond := [Cond.fieldLink RX5 10 "GongTide" "page" "LGongTide$Page;", Cond.methodLink RX5 55 yX2_soundLetters, Cond.instanceMethod yX2_soundLetters, Cond.selects RX2 yX2_soundLetters yX2_soundLetters, Cond.initialized RX2, Cond.code yX2_soundLetters cX2_soundLetters 5 (some .int), Cond.fieldLink RX2 15 "GongTide$Page" "size" "I", Cond.methodLink RX2 27 yX2_houses, Cond.instanceMethod yX2_houses, Cond.selects RX2 yX2_houses yX2_houses, Cond.code yX2_houses cX2_houses 2 (some .int), Cond.methodLink RX2 23 yX2_at, Cond.instanceMethod yX2_at, Cond.selects RX2 yX2_at yX2_at, Cond.code yX2_at cX2_at 2 (some .int), Cond.fieldLink RX2 9 "GongTide$Page" "codes" "[I", Cond.static yX5_isWithin, Cond.initialized RX5, Cond.code yX5_isWithin cX5_isWithin 3 (some .boolean), Cond.methodLink RX2 31 yX2_suitsHouses, Cond.static yX2_suitsHouses, Cond.code yX2_suitsHouses cX2_suitsHouses 3 (some .boolean), Cond.static yX5_kindOf, Cond.code yX5_kindOf cX5_kindOf 1 (some .int)]
def wsX5_fault_r2 : List Cond := [Cond.methodLink RX2 35 yX2_suitsStrokes, Cond.static yX2_suitsStrokes, Cond.code yX2_suitsStrokes cX2_suitsStrokes 3 (some .boolean)]
def wsX5_fault : List Cond := .code yX5_fault cX5_fault 1 (some .int) :: ((wsX5_fault_r1 ++ wsX5_fault_r2) ++ wsX50 ++ wsX20)
def wsX5_colony_r1 : List Cond := [Cond.fieldLink RX5 10 "GongTide" "page" "LGongTide$Page;", Cond.fieldLink RX5 65 "GongTide" "houseCount" "I", Cond.fieldLink RX5 23 "GongTide" "affairs" "LGongTide$Affairs;", Cond.fieldLink RX5 16 "GongTide" "kinds" "[I", Cond.fieldLink RX5 86 "GongTide$Affairs" "strokes" "LGongTide$Strokes;", Cond.fieldLink RX5 96 "GongTide" "isKept" "Z", Cond.fieldLink RX5 100 "GongTide" "readings" "I", Cond.methodLink RX5 58 yX2_tellsColony, Cond.instanceMethod yX2_tellsColony, Cond.selects RX2 yX2_tellsColony yX2_tellsColony, Cond.initialized RX2, Cond.code yX2_tellsColony cX2_tellsColony 3 (some .boolean), Cond.fieldLink RX2 15 "GongTide$Page" "size" "I", Cond.methodLink RX2 27 yX2_houses, Cond.instanceMethod yX2_houses, Cond.selects RX2 yX2_houses yX2_houses, Cond.code yX2_houses cX2_houses 2 (some .int), Cond.methodLink RX2 23 yX2_at, Cond.instanceMethod yX2_at, Cond.selects RX2 yX2_at yX2_at, Cond.code yX2_at cX2_at 2 (some .int), Cond.fieldLink RX2 9 "GongTide$Page" "codes" "[I", Cond.static yX5_isWithin, Cond.initialized RX5]
def wsX5_colony_r2 : List Cond := [Cond.code yX5_isWithin cX5_isWithin 3 (some .boolean), Cond.methodLink RX2 38 yX2_soundLetters, Cond.instanceMethod yX2_soundLetters, Cond.selects RX2 yX2_soundLetters yX2_soundLetters, Cond.code yX2_soundLetters cX2_soundLetters 5 (some .int), Cond.methodLink RX2 31 yX2_suitsHouses, Cond.static yX2_suitsHouses, Cond.code yX2_suitsHouses cX2_suitsHouses 3 (some .boolean), Cond.static yX5_kindOf, Cond.code yX5_kindOf cX5_kindOf 1 (some .int), Cond.methodLink RX2 35 yX2_suitsStrokes, Cond.static yX2_suitsStrokes, Cond.code yX2_suitsStrokes cX2_suitsStrokes 3 (some .boolean), Cond.methodLink RX5 62 yX2_houses, Cond.methodLink RX5 69 yX0_clear, Cond.instanceMethod yX0_clear, Cond.selects RX0 yX0_clear yX0_clear, Cond.initialized RX0, Cond.code yX0_clear cX0_clear 1 none, Cond.fieldLink RX0 18 "GongTide$Affairs" "strokes" "LGongTide$Strokes;", Cond.fieldLink RX0 25 "GongTide$Affairs" "heard" "LGongTide$Heard;", Cond.fieldLink RX0 35 "GongTide$Affairs" "changes" "I", Cond.methodLink RX0 29 yX3_clear, Cond.instanceMethod yX3_clear]
def wsX5_colony_r3 : List Cond := [Cond.selects RX3 yX3_clear yX3_clear, Cond.initialized RX3, Cond.code yX3_clear cX3_clear 1 none, Cond.fieldLink RX3 18 "GongTide$Strokes" "size" "I", Cond.methodLink RX0 32 yX1_clear, Cond.instanceMethod yX1_clear, Cond.selects RX1 yX1_clear yX1_clear, Cond.initialized RX1, Cond.code yX1_clear cX1_clear 2 (some .int), Cond.fieldLink RX1 24 "GongTide$Heard" "size" "I", Cond.methodLink RX5 72 yX2_at, Cond.methodLink RX5 76 yX5_kindOf, Cond.methodLink RX5 79 yX2_digitAt, Cond.instanceMethod yX2_digitAt, Cond.selects RX2 yX2_digitAt yX2_digitAt, Cond.code yX2_digitAt cX2_digitAt 2 (some .int), Cond.methodLink RX5 82 yX0_setLevel, Cond.instanceMethod yX0_setLevel, Cond.selects RX0 yX0_setLevel yX0_setLevel, Cond.code yX0_setLevel cX0_setLevel 3 none, Cond.fieldLink RX0 9 "GongTide$Affairs" "levels" "[I", Cond.methodLink RX5 48 yX2_size, Cond.instanceMethod yX2_size, Cond.selects RX2 yX2_size yX2_size]
def wsX5_colony_r4 : List Cond := [Cond.code yX2_size cX2_size 1 (some .int), Cond.methodLink RX5 90 yX3_add, Cond.instanceMethod yX3_add, Cond.selects RX3 yX3_add yX3_add, Cond.code yX3_add cX3_add 3 (some .boolean), Cond.fieldLink RX3 9 "GongTide$Strokes" "hours" "[I", Cond.fieldLink RX3 15 "GongTide$Strokes" "louds" "[I", Cond.methodLink RX5 52 yX2_wipe, Cond.instanceMethod yX2_wipe, Cond.selects RX2 yX2_wipe yX2_wipe, Cond.code yX2_wipe cX2_wipe 2 (some .int)]
def wsX5_colony : List Cond := .code yX5_colony cX5_colony 3 (some .int) :: ((wsX5_colony_r1 ++ (wsX5_colony_r2 ++ (wsX5_colony_r3 ++ wsX5_colony_r4))) ++ wsX50 ++ wsX00 ++ wsX20 ++ wsX30 ++ wsX10)
def wsX5_isHouse : List Cond := .code yX5_isHouse cX5_isHouse 2 (some .boolean) :: ([.fieldLink RX5 65 "GongTide" "houseCount" "I", .methodLink RX5 40 yX5_isWithin, .static yX5_isWithin, .initialized RX5, .code yX5_isWithin cX5_isWithin 3 (some .boolean)] ++ wsX50)
def wsX5_tideNow_r1 : List Cond := [Cond.fieldLink RX5 33 "GongTide" "now" "LGongTide$Tide;", Cond.fieldLink RX5 23 "GongTide" "affairs" "LGongTide$Affairs;", Cond.fieldLink RX5 86 "GongTide$Affairs" "strokes" "LGongTide$Strokes;", Cond.methodLink RX5 241 yX4_clear, Cond.instanceMethod yX4_clear, Cond.selects RX4 yX4_clear yX4_clear, Cond.initialized RX4, Cond.code yX4_clear cX4_clear 2 none, Cond.fieldLink RX4 9 "GongTide$Tide" "sums" "[I", Cond.methodLink RX5 141 yX3_size, Cond.instanceMethod yX3_size, Cond.selects RX3 yX3_size yX3_size, Cond.initialized RX3, Cond.code yX3_size cX3_size 1 (some .int), Cond.fieldLink RX3 18 "GongTide$Strokes" "size" "I", Cond.methodLink RX5 151 yX3_hour, Cond.instanceMethod yX3_hour, Cond.selects RX3 yX3_hour yX3_hour, Cond.code yX3_hour cX3_hour 2 (some .int), Cond.fieldLink RX3 9 "GongTide$Strokes" "hours" "[I", Cond.methodLink RX3 26 yX3_has, Cond.instanceMethod yX3_has, Cond.selects RX3 yX3_has yX3_has, Cond.code yX3_has cX3_has 2 (some .boolean)]
def wsX5_tideNow_r2 : List Cond := [Cond.static yX5_isWithin, Cond.initialized RX5, Cond.code yX5_isWithin cX5_isWithin 3 (some .boolean), Cond.methodLink RX5 145 yX3_loud, Cond.instanceMethod yX3_loud, Cond.selects RX3 yX3_loud yX3_loud, Cond.code yX3_loud cX3_loud 2 (some .int), Cond.fieldLink RX3 15 "GongTide$Strokes" "louds" "[I", Cond.methodLink RX5 242 yX4_add, Cond.instanceMethod yX4_add, Cond.selects RX4 yX4_add yX4_add, Cond.code yX4_add cX4_add 5 none, Cond.methodLink RX4 15 Lib.Math.max.name, Cond.static Lib.Math.max.name, Cond.initialized "java/lang/Math", Cond.code Lib.Math.max.name Lib.Math.max.code 2 (some .int)]
def wsX5_tideNow : List Cond := .code yX5_tideNow cX5_tideNow 3 (some (.object "GongTide$Tide")) :: ((wsX5_tideNow_r1 ++ wsX5_tideNow_r2) ++ wsX50 ++ wsX00 ++ wsX40 ++ wsX30)
def wsX5_kindAt : List Cond := .code yX5_kindAt cX5_kindAt 2 (some .int) :: ([.fieldLink RX5 16 "GongTide" "kinds" "[I", .methodLink RX5 40 yX5_isWithin, .static yX5_isWithin, .initialized RX5, .code yX5_isWithin cX5_isWithin 3 (some .boolean)] ++ wsX50)
def wsX5_above : List Cond := .code yX5_above cX5_above 2 (some .int) :: ([.methodLink RX5 254 Lib.Math.max.name, .static Lib.Math.max.name, .initialized "java/lang/Math", .code Lib.Math.max.name Lib.Math.max.code 2 (some .int)])
def wsX5_mannersAt_r1 : List Cond := [Cond.fieldLink RX5 23 "GongTide" "affairs" "LGongTide$Affairs;", Cond.methodLink RX5 254 Lib.Math.max.name, Cond.static Lib.Math.max.name, Cond.initialized "java/lang/Math", Cond.code Lib.Math.max.name Lib.Math.max.code 2 (some .int), Cond.methodLink RX5 262 Lib.Math.min.name, Cond.static Lib.Math.min.name, Cond.code Lib.Math.min.name Lib.Math.min.code 2 (some .int), Cond.methodLink RX5 113 yX0_level, Cond.instanceMethod yX0_level, Cond.selects RX0 yX0_level yX0_level, Cond.initialized RX0, Cond.code yX0_level cX0_level 2 (some .int), Cond.fieldLink RX0 9 "GongTide$Affairs" "levels" "[I", Cond.static yX5_isWithin, Cond.initialized RX5, Cond.code yX5_isWithin cX5_isWithin 3 (some .boolean), Cond.methodLink RX5 110 yX5_kindAt, Cond.instanceMethod yX5_kindAt, Cond.selects RX5 yX5_kindAt yX5_kindAt, Cond.code yX5_kindAt cX5_kindAt 2 (some .int), Cond.fieldLink RX5 16 "GongTide" "kinds" "[I", Cond.methodLink RX5 40 yX5_isWithin, Cond.methodLink RX5 137 yX4_at]
def wsX5_mannersAt_r2 : List Cond := [Cond.instanceMethod yX4_at, Cond.selects RX4 yX4_at yX4_at, Cond.initialized RX4, Cond.code yX4_at cX4_at 2 (some .int), Cond.fieldLink RX4 9 "GongTide$Tide" "sums" "[I", Cond.methodLink RX4 21 Lib.Math.min.name, Cond.methodLink RX5 259 yX5_above, Cond.static yX5_above, Cond.code yX5_above cX5_above 2 (some .int)]
def wsX5_mannersAt : List Cond := .code yX5_mannersAt cX5_mannersAt 6 (some .int) :: ((wsX5_mannersAt_r1 ++ wsX5_mannersAt_r2) ++ wsX50 ++ wsX00 ++ wsX40)
def wsX5_howAt : List Cond := .code yX5_howAt cX5_howAt 1 (some .int) :: ([])
def wsX5_hoursOf_r1 : List Cond := [Cond.methodLink RX5 124 yX5_mannersAt, Cond.instanceMethod yX5_mannersAt, Cond.selects RX5 yX5_mannersAt yX5_mannersAt, Cond.initialized RX5, Cond.code yX5_mannersAt cX5_mannersAt 6 (some .int), Cond.fieldLink RX5 23 "GongTide" "affairs" "LGongTide$Affairs;", Cond.methodLink RX5 254 Lib.Math.max.name, Cond.static Lib.Math.max.name, Cond.initialized "java/lang/Math", Cond.code Lib.Math.max.name Lib.Math.max.code 2 (some .int), Cond.methodLink RX5 262 Lib.Math.min.name, Cond.static Lib.Math.min.name, Cond.code Lib.Math.min.name Lib.Math.min.code 2 (some .int), Cond.methodLink RX5 113 yX0_level, Cond.instanceMethod yX0_level, Cond.selects RX0 yX0_level yX0_level, Cond.initialized RX0, Cond.code yX0_level cX0_level 2 (some .int), Cond.fieldLink RX0 9 "GongTide$Affairs" "levels" "[I", Cond.static yX5_isWithin, Cond.code yX5_isWithin cX5_isWithin 3 (some .boolean), Cond.methodLink RX5 110 yX5_kindAt, Cond.instanceMethod yX5_kindAt, Cond.selects RX5 yX5_kindAt yX5_kindAt]
def wsX5_hoursOf_r2 : List Cond := [Cond.code yX5_kindAt cX5_kindAt 2 (some .int), Cond.fieldLink RX5 16 "GongTide" "kinds" "[I", Cond.methodLink RX5 40 yX5_isWithin, Cond.methodLink RX5 137 yX4_at, Cond.instanceMethod yX4_at, Cond.selects RX4 yX4_at yX4_at, Cond.initialized RX4, Cond.code yX4_at cX4_at 2 (some .int), Cond.fieldLink RX4 9 "GongTide$Tide" "sums" "[I", Cond.methodLink RX4 21 Lib.Math.min.name, Cond.methodLink RX5 259 yX5_above, Cond.static yX5_above, Cond.code yX5_above cX5_above 2 (some .int), Cond.methodLink RX5 265 yX5_howAt, Cond.static yX5_howAt, Cond.code yX5_howAt cX5_howAt 1 (some .int)]
def wsX5_hoursOf : List Cond := .code yX5_hoursOf cX5_hoursOf 6 (some .int) :: ((wsX5_hoursOf_r1 ++ wsX5_hoursOf_r2) ++ wsX50 ++ wsX00 ++ wsX40)
def wsX5_hourOfMostManners_r1 : List Cond := [Cond.methodLink RX5 124 yX5_mannersAt, Cond.instanceMethod yX5_mannersAt, Cond.selects RX5 yX5_mannersAt yX5_mannersAt, Cond.initialized RX5, Cond.code yX5_mannersAt cX5_mannersAt 6 (some .int), Cond.fieldLink RX5 23 "GongTide" "affairs" "LGongTide$Affairs;", Cond.methodLink RX5 254 Lib.Math.max.name, Cond.static Lib.Math.max.name, Cond.initialized "java/lang/Math", Cond.code Lib.Math.max.name Lib.Math.max.code 2 (some .int), Cond.methodLink RX5 262 Lib.Math.min.name, Cond.static Lib.Math.min.name, Cond.code Lib.Math.min.name Lib.Math.min.code 2 (some .int), Cond.methodLink RX5 113 yX0_level, Cond.instanceMethod yX0_level, Cond.selects RX0 yX0_level yX0_level, Cond.initialized RX0, Cond.code yX0_level cX0_level 2 (some .int), Cond.fieldLink RX0 9 "GongTide$Affairs" "levels" "[I", Cond.static yX5_isWithin, Cond.code yX5_isWithin cX5_isWithin 3 (some .boolean), Cond.methodLink RX5 110 yX5_kindAt, Cond.instanceMethod yX5_kindAt, Cond.selects RX5 yX5_kindAt yX5_kindAt]
def wsX5_hourOfMostManners_r2 : List Cond := [Cond.code yX5_kindAt cX5_kindAt 2 (some .int), Cond.fieldLink RX5 16 "GongTide" "kinds" "[I", Cond.methodLink RX5 40 yX5_isWithin, Cond.methodLink RX5 137 yX4_at, Cond.instanceMethod yX4_at, Cond.selects RX4 yX4_at yX4_at, Cond.initialized RX4, Cond.code yX4_at cX4_at 2 (some .int), Cond.fieldLink RX4 9 "GongTide$Tide" "sums" "[I", Cond.methodLink RX4 21 Lib.Math.min.name, Cond.methodLink RX5 259 yX5_above, Cond.static yX5_above, Cond.code yX5_above cX5_above 2 (some .int)]
def wsX5_hourOfMostManners : List Cond := .code yX5_hourOfMostManners cX5_hourOfMostManners 5 (some .int) :: ((wsX5_hourOfMostManners_r1 ++ wsX5_hourOfMostManners_r2) ++ wsX50 ++ wsX00 ++ wsX40)
def wsX5_about_r1 : List Cond := [Cond.fieldLink RX5 23 "GongTide" "affairs" "LGongTide$Affairs;", Cond.methodLink RX5 103 yX5_isHouse, Cond.instanceMethod yX5_isHouse, Cond.selects RX5 yX5_isHouse yX5_isHouse, Cond.initialized RX5, Cond.code yX5_isHouse cX5_isHouse 2 (some .boolean), Cond.fieldLink RX5 65 "GongTide" "houseCount" "I", Cond.methodLink RX5 40 yX5_isWithin, Cond.static yX5_isWithin, Cond.code yX5_isWithin cX5_isWithin 3 (some .boolean), Cond.methodLink RX5 106 yX5_tideNow, Cond.instanceMethod yX5_tideNow, Cond.selects RX5 yX5_tideNow yX5_tideNow, Cond.code yX5_tideNow cX5_tideNow 3 (some (.object "GongTide$Tide")), Cond.fieldLink RX5 33 "GongTide" "now" "LGongTide$Tide;", Cond.fieldLink RX5 86 "GongTide$Affairs" "strokes" "LGongTide$Strokes;", Cond.methodLink RX5 241 yX4_clear, Cond.instanceMethod yX4_clear, Cond.selects RX4 yX4_clear yX4_clear, Cond.initialized RX4, Cond.code yX4_clear cX4_clear 2 none, Cond.fieldLink RX4 9 "GongTide$Tide" "sums" "[I", Cond.methodLink RX5 141 yX3_size, Cond.instanceMethod yX3_size]
def wsX5_about_r2 : List Cond := [Cond.selects RX3 yX3_size yX3_size, Cond.initialized RX3, Cond.code yX3_size cX3_size 1 (some .int), Cond.fieldLink RX3 18 "GongTide$Strokes" "size" "I", Cond.methodLink RX5 151 yX3_hour, Cond.instanceMethod yX3_hour, Cond.selects RX3 yX3_hour yX3_hour, Cond.code yX3_hour cX3_hour 2 (some .int), Cond.fieldLink RX3 9 "GongTide$Strokes" "hours" "[I", Cond.methodLink RX3 26 yX3_has, Cond.instanceMethod yX3_has, Cond.selects RX3 yX3_has yX3_has, Cond.code yX3_has cX3_has 2 (some .boolean), Cond.methodLink RX5 145 yX3_loud, Cond.instanceMethod yX3_loud, Cond.selects RX3 yX3_loud yX3_loud, Cond.code yX3_loud cX3_loud 2 (some .int), Cond.fieldLink RX3 15 "GongTide$Strokes" "louds" "[I", Cond.methodLink RX5 242 yX4_add, Cond.instanceMethod yX4_add, Cond.selects RX4 yX4_add yX4_add, Cond.code yX4_add cX4_add 5 none, Cond.methodLink RX4 15 Lib.Math.max.name, Cond.static Lib.Math.max.name]
def wsX5_about_r3 : List Cond := [Cond.initialized "java/lang/Math", Cond.code Lib.Math.max.name Lib.Math.max.code 2 (some .int), Cond.methodLink RX5 110 yX5_kindAt, Cond.instanceMethod yX5_kindAt, Cond.selects RX5 yX5_kindAt yX5_kindAt, Cond.code yX5_kindAt cX5_kindAt 2 (some .int), Cond.fieldLink RX5 16 "GongTide" "kinds" "[I", Cond.methodLink RX5 113 yX0_level, Cond.instanceMethod yX0_level, Cond.selects RX0 yX0_level yX0_level, Cond.initialized RX0, Cond.code yX0_level cX0_level 2 (some .int), Cond.fieldLink RX0 9 "GongTide$Affairs" "levels" "[I", Cond.methodLink RX5 116 yX5_hoursOf, Cond.instanceMethod yX5_hoursOf, Cond.selects RX5 yX5_hoursOf yX5_hoursOf, Cond.code yX5_hoursOf cX5_hoursOf 6 (some .int), Cond.methodLink RX5 124 yX5_mannersAt, Cond.instanceMethod yX5_mannersAt, Cond.selects RX5 yX5_mannersAt yX5_mannersAt, Cond.code yX5_mannersAt cX5_mannersAt 6 (some .int), Cond.methodLink RX5 254 Lib.Math.max.name, Cond.methodLink RX5 262 Lib.Math.min.name, Cond.static Lib.Math.min.name]
def wsX5_about_r4 : List Cond := [Cond.code Lib.Math.min.name Lib.Math.min.code 2 (some .int), Cond.methodLink RX5 137 yX4_at, Cond.instanceMethod yX4_at, Cond.selects RX4 yX4_at yX4_at, Cond.code yX4_at cX4_at 2 (some .int), Cond.methodLink RX4 21 Lib.Math.min.name, Cond.methodLink RX5 259 yX5_above, Cond.static yX5_above, Cond.code yX5_above cX5_above 2 (some .int), Cond.methodLink RX5 265 yX5_howAt, Cond.static yX5_howAt, Cond.code yX5_howAt cX5_howAt 1 (some .int), Cond.methodLink RX5 120 yX5_hourOfMostManners, Cond.instanceMethod yX5_hourOfMostManners, Cond.selects RX5 yX5_hourOfMostManners yX5_hourOfMostManners, Cond.code yX5_hourOfMostManners cX5_hourOfMostManners 5 (some .int)]
def wsX5_about : List Cond := .code yX5_about cX5_about 4 (some .int) :: ((wsX5_about_r1 ++ (wsX5_about_r2 ++ (wsX5_about_r3 ++ wsX5_about_r4))) ++ wsX50 ++ wsX00 ++ wsX40 ++ wsX30)
def wsX5_as : List Cond := .code yX5_as cX5_as 5 (some .int) :: ([.methodLink RX5 103 yX5_isHouse, .instanceMethod yX5_isHouse, .selects RX5 yX5_isHouse yX5_isHouse, .initialized RX5, .code yX5_isHouse cX5_isHouse 2 (some .boolean), .fieldLink RX5 65 "GongTide" "houseCount" "I", .methodLink RX5 40 yX5_isWithin, .static yX5_isWithin, .code yX5_isWithin cX5_isWithin 3 (some .boolean), .methodLink RX5 110 yX5_kindAt, .instanceMethod yX5_kindAt, .selects RX5 yX5_kindAt yX5_kindAt, .code yX5_kindAt cX5_kindAt 2 (some .int), .fieldLink RX5 16 "GongTide" "kinds" "[I"] ++ wsX50)
def wsX5_raise : List Cond := .code yX5_raise cX5_raise 4 (some .int) :: ([.fieldLink RX5 23 "GongTide" "affairs" "LGongTide$Affairs;", .fieldLink RX5 128 "GongTide$Affairs" "changes" "I", .methodLink RX5 103 yX5_isHouse, .instanceMethod yX5_isHouse, .selects RX5 yX5_isHouse yX5_isHouse, .initialized RX5, .code yX5_isHouse cX5_isHouse 2 (some .boolean), .fieldLink RX5 65 "GongTide" "houseCount" "I", .methodLink RX5 40 yX5_isWithin, .static yX5_isWithin, .code yX5_isWithin cX5_isWithin 3 (some .boolean), .methodLink RX5 113 yX0_level, .instanceMethod yX0_level, .selects RX0 yX0_level yX0_level, .initialized RX0, .code yX0_level cX0_level 2 (some .int), .fieldLink RX0 9 "GongTide$Affairs" "levels" "[I", .methodLink RX5 82 yX0_setLevel, .instanceMethod yX0_setLevel, .selects RX0 yX0_setLevel yX0_setLevel, .code yX0_setLevel cX0_setLevel 3 none] ++ wsX50 ++ wsX00)
def wsX5_isHourOfDay : List Cond := .code yX5_isHourOfDay cX5_isHourOfDay 1 (some .boolean) :: ([.methodLink RX5 40 yX5_isWithin, .static yX5_isWithin, .initialized RX5, .code yX5_isWithin cX5_isWithin 3 (some .boolean)])
def wsX5_hasColony : List Cond := .code yX5_hasColony cX5_hasColony 1 (some .boolean) :: ([.fieldLink RX5 65 "GongTide" "houseCount" "I"] ++ wsX50)
def wsX5_tide_r1 : List Cond := [Cond.methodLink RX5 131 yX5_isHourOfDay, Cond.static yX5_isHourOfDay, Cond.initialized RX5, Cond.code yX5_isHourOfDay cX5_isHourOfDay 1 (some .boolean), Cond.methodLink RX5 40 yX5_isWithin, Cond.static yX5_isWithin, Cond.code yX5_isWithin cX5_isWithin 3 (some .boolean), Cond.methodLink RX5 134 yX5_hasColony, Cond.instanceMethod yX5_hasColony, Cond.selects RX5 yX5_hasColony yX5_hasColony, Cond.code yX5_hasColony cX5_hasColony 1 (some .boolean), Cond.fieldLink RX5 65 "GongTide" "houseCount" "I", Cond.methodLink RX5 106 yX5_tideNow, Cond.instanceMethod yX5_tideNow, Cond.selects RX5 yX5_tideNow yX5_tideNow, Cond.code yX5_tideNow cX5_tideNow 3 (some (.object "GongTide$Tide")), Cond.fieldLink RX5 33 "GongTide" "now" "LGongTide$Tide;", Cond.fieldLink RX5 23 "GongTide" "affairs" "LGongTide$Affairs;", Cond.fieldLink RX5 86 "GongTide$Affairs" "strokes" "LGongTide$Strokes;", Cond.methodLink RX5 241 yX4_clear, Cond.instanceMethod yX4_clear, Cond.selects RX4 yX4_clear yX4_clear, Cond.initialized RX4, Cond.code yX4_clear cX4_clear 2 none]
def wsX5_tide_r2 : List Cond := [Cond.fieldLink RX4 9 "GongTide$Tide" "sums" "[I", Cond.methodLink RX5 141 yX3_size, Cond.instanceMethod yX3_size, Cond.selects RX3 yX3_size yX3_size, Cond.initialized RX3, Cond.code yX3_size cX3_size 1 (some .int), Cond.fieldLink RX3 18 "GongTide$Strokes" "size" "I", Cond.methodLink RX5 151 yX3_hour, Cond.instanceMethod yX3_hour, Cond.selects RX3 yX3_hour yX3_hour, Cond.code yX3_hour cX3_hour 2 (some .int), Cond.fieldLink RX3 9 "GongTide$Strokes" "hours" "[I", Cond.methodLink RX3 26 yX3_has, Cond.instanceMethod yX3_has, Cond.selects RX3 yX3_has yX3_has, Cond.code yX3_has cX3_has 2 (some .boolean), Cond.methodLink RX5 145 yX3_loud, Cond.instanceMethod yX3_loud, Cond.selects RX3 yX3_loud yX3_loud, Cond.code yX3_loud cX3_loud 2 (some .int), Cond.fieldLink RX3 15 "GongTide$Strokes" "louds" "[I", Cond.methodLink RX5 242 yX4_add, Cond.instanceMethod yX4_add, Cond.selects RX4 yX4_add yX4_add]
def wsX5_tide_r3 : List Cond := [Cond.code yX4_add cX4_add 5 none, Cond.methodLink RX4 15 Lib.Math.max.name, Cond.static Lib.Math.max.name, Cond.initialized "java/lang/Math", Cond.code Lib.Math.max.name Lib.Math.max.code 2 (some .int), Cond.methodLink RX5 137 yX4_at, Cond.instanceMethod yX4_at, Cond.selects RX4 yX4_at yX4_at, Cond.code yX4_at cX4_at 2 (some .int), Cond.methodLink RX4 21 Lib.Math.min.name, Cond.static Lib.Math.min.name, Cond.code Lib.Math.min.name Lib.Math.min.code 2 (some .int)]
def wsX5_tide : List Cond := .code yX5_tide cX5_tide 2 (some .int) :: ((wsX5_tide_r1 ++ (wsX5_tide_r2 ++ wsX5_tide_r3)) ++ wsX50 ++ wsX00 ++ wsX40 ++ wsX30)
def wsX5_isHeardLoud : List Cond := .code yX5_isHeardLoud cX5_isHeardLoud 1 (some .boolean) :: ([.methodLink RX5 40 yX5_isWithin, .static yX5_isWithin, .initialized RX5, .code yX5_isWithin cX5_isWithin 3 (some .boolean)])
def wsX5_strike_r1 : List Cond := [Cond.fieldLink RX5 23 "GongTide" "affairs" "LGongTide$Affairs;", Cond.fieldLink RX5 86 "GongTide$Affairs" "strokes" "LGongTide$Strokes;", Cond.fieldLink RX5 128 "GongTide$Affairs" "changes" "I", Cond.methodLink RX5 40 yX5_isWithin, Cond.static yX5_isWithin, Cond.initialized RX5, Cond.code yX5_isWithin cX5_isWithin 3 (some .boolean), Cond.methodLink RX5 138 yX5_isHeardLoud, Cond.static yX5_isHeardLoud, Cond.code yX5_isHeardLoud cX5_isHeardLoud 1 (some .boolean), Cond.methodLink RX5 134 yX5_hasColony, Cond.instanceMethod yX5_hasColony, Cond.selects RX5 yX5_hasColony yX5_hasColony, Cond.code yX5_hasColony cX5_hasColony 1 (some .boolean), Cond.fieldLink RX5 65 "GongTide" "houseCount" "I", Cond.methodLink RX5 90 yX3_add, Cond.instanceMethod yX3_add, Cond.selects RX3 yX3_add yX3_add, Cond.initialized RX3, Cond.code yX3_add cX3_add 3 (some .boolean), Cond.fieldLink RX3 18 "GongTide$Strokes" "size" "I", Cond.fieldLink RX3 9 "GongTide$Strokes" "hours" "[I", Cond.fieldLink RX3 15 "GongTide$Strokes" "louds" "[I", Cond.methodLink RX5 141 yX3_size]
def wsX5_strike_r2 : List Cond := [Cond.instanceMethod yX3_size, Cond.selects RX3 yX3_size yX3_size, Cond.code yX3_size cX3_size 1 (some .int)]
def wsX5_strike : List Cond := .code yX5_strike cX5_strike 3 (some .int) :: ((wsX5_strike_r1 ++ wsX5_strike_r2) ++ wsX50 ++ wsX00 ++ wsX30)
def wsX5_felt : List Cond := .code yX5_felt cX5_felt 4 (some .int) :: ([.fieldLink RX5 23 "GongTide" "affairs" "LGongTide$Affairs;", .fieldLink RX5 86 "GongTide$Affairs" "strokes" "LGongTide$Strokes;", .fieldLink RX5 128 "GongTide$Affairs" "changes" "I", .methodLink RX5 142 yX3_has, .instanceMethod yX3_has, .selects RX3 yX3_has yX3_has, .initialized RX3, .code yX3_has cX3_has 2 (some .boolean), .fieldLink RX3 18 "GongTide$Strokes" "size" "I", .static yX5_isWithin, .initialized RX5, .code yX5_isWithin cX5_isWithin 3 (some .boolean), .methodLink RX5 40 yX5_isWithin, .methodLink RX5 145 yX3_loud, .instanceMethod yX3_loud, .selects RX3 yX3_loud yX3_loud, .code yX3_loud cX3_loud 2 (some .int), .fieldLink RX3 15 "GongTide$Strokes" "louds" "[I", .methodLink RX3 26 yX3_has, .methodLink RX5 148 yX3_setLoud, .instanceMethod yX3_setLoud, .selects RX3 yX3_setLoud yX3_setLoud, .code yX3_setLoud cX3_setLoud 3 none] ++ wsX50 ++ wsX00 ++ wsX30)
def wsX5_stroke_r1 : List Cond := [Cond.fieldLink RX5 23 "GongTide" "affairs" "LGongTide$Affairs;", Cond.fieldLink RX5 86 "GongTide$Affairs" "strokes" "LGongTide$Strokes;", Cond.methodLink RX5 142 yX3_has, Cond.instanceMethod yX3_has, Cond.selects RX3 yX3_has yX3_has, Cond.initialized RX3, Cond.code yX3_has cX3_has 2 (some .boolean), Cond.fieldLink RX3 18 "GongTide$Strokes" "size" "I", Cond.static yX5_isWithin, Cond.initialized RX5, Cond.code yX5_isWithin cX5_isWithin 3 (some .boolean), Cond.methodLink RX5 151 yX3_hour, Cond.instanceMethod yX3_hour, Cond.selects RX3 yX3_hour yX3_hour, Cond.code yX3_hour cX3_hour 2 (some .int), Cond.fieldLink RX3 9 "GongTide$Strokes" "hours" "[I", Cond.methodLink RX3 26 yX3_has, Cond.methodLink RX5 145 yX3_loud, Cond.instanceMethod yX3_loud, Cond.selects RX3 yX3_loud yX3_loud, Cond.code yX3_loud cX3_loud 2 (some .int), Cond.fieldLink RX3 15 "GongTide$Strokes" "louds" "[I", Cond.methodLink RX5 154 yX3_goneAt, Cond.instanceMethod yX3_goneAt]
def wsX5_stroke_r2 : List Cond := [Cond.selects RX3 yX3_goneAt yX3_goneAt, Cond.code yX3_goneAt cX3_goneAt 3 (some .int), Cond.methodLink RX3 30 yX3_hour, Cond.methodLink RX3 34 yX3_loud]
def wsX5_stroke : List Cond := .code yX5_stroke cX5_stroke 3 (some .int) :: ((wsX5_stroke_r1 ++ wsX5_stroke_r2) ++ wsX50 ++ wsX00 ++ wsX30)
def wsX5_allHouses : List Cond := .code yX5_allHouses cX5_allHouses 1 (some .int) :: ([.fieldLink RX5 65 "GongTide" "houseCount" "I"] ++ wsX50)
def wsX5_canDine_r1 : List Cond := [Cond.fieldLink RX5 65 "GongTide" "houseCount" "I", Cond.methodLink RX5 124 yX5_mannersAt, Cond.instanceMethod yX5_mannersAt, Cond.selects RX5 yX5_mannersAt yX5_mannersAt, Cond.initialized RX5, Cond.code yX5_mannersAt cX5_mannersAt 6 (some .int), Cond.fieldLink RX5 23 "GongTide" "affairs" "LGongTide$Affairs;", Cond.methodLink RX5 254 Lib.Math.max.name, Cond.static Lib.Math.max.name, Cond.initialized "java/lang/Math", Cond.code Lib.Math.max.name Lib.Math.max.code 2 (some .int), Cond.methodLink RX5 262 Lib.Math.min.name, Cond.static Lib.Math.min.name, Cond.code Lib.Math.min.name Lib.Math.min.code 2 (some .int), Cond.methodLink RX5 113 yX0_level, Cond.instanceMethod yX0_level, Cond.selects RX0 yX0_level yX0_level, Cond.initialized RX0, Cond.code yX0_level cX0_level 2 (some .int), Cond.fieldLink RX0 9 "GongTide$Affairs" "levels" "[I", Cond.static yX5_isWithin, Cond.code yX5_isWithin cX5_isWithin 3 (some .boolean), Cond.methodLink RX5 110 yX5_kindAt, Cond.instanceMethod yX5_kindAt]
def wsX5_canDine_r2 : List Cond := [Cond.selects RX5 yX5_kindAt yX5_kindAt, Cond.code yX5_kindAt cX5_kindAt 2 (some .int), Cond.fieldLink RX5 16 "GongTide" "kinds" "[I", Cond.methodLink RX5 40 yX5_isWithin, Cond.methodLink RX5 137 yX4_at, Cond.instanceMethod yX4_at, Cond.selects RX4 yX4_at yX4_at, Cond.initialized RX4, Cond.code yX4_at cX4_at 2 (some .int), Cond.fieldLink RX4 9 "GongTide$Tide" "sums" "[I", Cond.methodLink RX4 21 Lib.Math.min.name, Cond.methodLink RX5 259 yX5_above, Cond.static yX5_above, Cond.code yX5_above cX5_above 2 (some .int), Cond.methodLink RX5 265 yX5_howAt, Cond.static yX5_howAt, Cond.code yX5_howAt cX5_howAt 1 (some .int)]
def wsX5_canDine : List Cond := .code yX5_canDine cX5_canDine 8 (some .boolean) :: ((wsX5_canDine_r1 ++ wsX5_canDine_r2) ++ wsX50 ++ wsX00 ++ wsX40)
def wsX5_dinner_r1 : List Cond := [Cond.methodLink RX5 157 yX5_allHouses, Cond.instanceMethod yX5_allHouses, Cond.selects RX5 yX5_allHouses yX5_allHouses, Cond.initialized RX5, Cond.code yX5_allHouses cX5_allHouses 1 (some .int), Cond.fieldLink RX5 65 "GongTide" "houseCount" "I", Cond.methodLink RX5 40 yX5_isWithin, Cond.static yX5_isWithin, Cond.code yX5_isWithin cX5_isWithin 3 (some .boolean), Cond.methodLink RX5 106 yX5_tideNow, Cond.instanceMethod yX5_tideNow, Cond.selects RX5 yX5_tideNow yX5_tideNow, Cond.code yX5_tideNow cX5_tideNow 3 (some (.object "GongTide$Tide")), Cond.fieldLink RX5 33 "GongTide" "now" "LGongTide$Tide;", Cond.fieldLink RX5 23 "GongTide" "affairs" "LGongTide$Affairs;", Cond.fieldLink RX5 86 "GongTide$Affairs" "strokes" "LGongTide$Strokes;", Cond.methodLink RX5 241 yX4_clear, Cond.instanceMethod yX4_clear, Cond.selects RX4 yX4_clear yX4_clear, Cond.initialized RX4, Cond.code yX4_clear cX4_clear 2 none, Cond.fieldLink RX4 9 "GongTide$Tide" "sums" "[I", Cond.methodLink RX5 141 yX3_size, Cond.instanceMethod yX3_size]
def wsX5_dinner_r2 : List Cond := [Cond.selects RX3 yX3_size yX3_size, Cond.initialized RX3, Cond.code yX3_size cX3_size 1 (some .int), Cond.fieldLink RX3 18 "GongTide$Strokes" "size" "I", Cond.methodLink RX5 151 yX3_hour, Cond.instanceMethod yX3_hour, Cond.selects RX3 yX3_hour yX3_hour, Cond.code yX3_hour cX3_hour 2 (some .int), Cond.fieldLink RX3 9 "GongTide$Strokes" "hours" "[I", Cond.methodLink RX3 26 yX3_has, Cond.instanceMethod yX3_has, Cond.selects RX3 yX3_has yX3_has, Cond.code yX3_has cX3_has 2 (some .boolean), Cond.methodLink RX5 145 yX3_loud, Cond.instanceMethod yX3_loud, Cond.selects RX3 yX3_loud yX3_loud, Cond.code yX3_loud cX3_loud 2 (some .int), Cond.fieldLink RX3 15 "GongTide$Strokes" "louds" "[I", Cond.methodLink RX5 242 yX4_add, Cond.instanceMethod yX4_add, Cond.selects RX4 yX4_add yX4_add, Cond.code yX4_add cX4_add 5 none, Cond.methodLink RX4 15 Lib.Math.max.name, Cond.static Lib.Math.max.name]
def wsX5_dinner_r3 : List Cond := [Cond.initialized "java/lang/Math", Cond.code Lib.Math.max.name Lib.Math.max.code 2 (some .int), Cond.methodLink RX5 160 yX5_canDine, Cond.instanceMethod yX5_canDine, Cond.selects RX5 yX5_canDine yX5_canDine, Cond.code yX5_canDine cX5_canDine 8 (some .boolean), Cond.methodLink RX5 124 yX5_mannersAt, Cond.instanceMethod yX5_mannersAt, Cond.selects RX5 yX5_mannersAt yX5_mannersAt, Cond.code yX5_mannersAt cX5_mannersAt 6 (some .int), Cond.methodLink RX5 254 Lib.Math.max.name, Cond.methodLink RX5 262 Lib.Math.min.name, Cond.static Lib.Math.min.name, Cond.code Lib.Math.min.name Lib.Math.min.code 2 (some .int), Cond.methodLink RX5 113 yX0_level, Cond.instanceMethod yX0_level, Cond.selects RX0 yX0_level yX0_level, Cond.initialized RX0, Cond.code yX0_level cX0_level 2 (some .int), Cond.fieldLink RX0 9 "GongTide$Affairs" "levels" "[I", Cond.methodLink RX5 110 yX5_kindAt, Cond.instanceMethod yX5_kindAt, Cond.selects RX5 yX5_kindAt yX5_kindAt, Cond.code yX5_kindAt cX5_kindAt 2 (some .int)]
def wsX5_dinner_r4 : List Cond := [Cond.fieldLink RX5 16 "GongTide" "kinds" "[I", Cond.methodLink RX5 137 yX4_at, Cond.instanceMethod yX4_at, Cond.selects RX4 yX4_at yX4_at, Cond.code yX4_at cX4_at 2 (some .int), Cond.methodLink RX4 21 Lib.Math.min.name, Cond.methodLink RX5 259 yX5_above, Cond.static yX5_above, Cond.code yX5_above cX5_above 2 (some .int), Cond.methodLink RX5 265 yX5_howAt, Cond.static yX5_howAt, Cond.code yX5_howAt cX5_howAt 1 (some .int)]
def wsX5_dinner : List Cond := .code yX5_dinner cX5_dinner 5 (some .int) :: ((wsX5_dinner_r1 ++ (wsX5_dinner_r2 ++ (wsX5_dinner_r3 ++ wsX5_dinner_r4))) ++ wsX50 ++ wsX00 ++ wsX40 ++ wsX30)
def wsX5_suppose : List Cond := .code yX5_suppose cX5_suppose 4 (some (.object "GongTide$Tide")) :: ([.fieldLink RX5 37 "GongTide" "supposed" "LGongTide$Tide;", .methodLink RX5 244 yX4_copyFrom, .instanceMethod yX4_copyFrom, .selects RX4 yX4_copyFrom yX4_copyFrom, .initialized RX4, .code yX4_copyFrom cX4_copyFrom 3 none, .fieldLink RX4 9 "GongTide$Tide" "sums" "[I", .methodLink RX5 242 yX4_add, .instanceMethod yX4_add, .selects RX4 yX4_add yX4_add, .code yX4_add cX4_add 5 none, .methodLink RX4 15 Lib.Math.max.name, .static Lib.Math.max.name, .initialized "java/lang/Math", .code Lib.Math.max.name Lib.Math.max.code 2 (some .int)] ++ wsX50 ++ wsX40)
def wsX5_hoursOfAll_r1 : List Cond := [Cond.fieldLink RX5 65 "GongTide" "houseCount" "I", Cond.methodLink RX5 116 yX5_hoursOf, Cond.instanceMethod yX5_hoursOf, Cond.selects RX5 yX5_hoursOf yX5_hoursOf, Cond.initialized RX5, Cond.code yX5_hoursOf cX5_hoursOf 6 (some .int), Cond.methodLink RX5 124 yX5_mannersAt, Cond.instanceMethod yX5_mannersAt, Cond.selects RX5 yX5_mannersAt yX5_mannersAt, Cond.code yX5_mannersAt cX5_mannersAt 6 (some .int), Cond.fieldLink RX5 23 "GongTide" "affairs" "LGongTide$Affairs;", Cond.methodLink RX5 254 Lib.Math.max.name, Cond.static Lib.Math.max.name, Cond.initialized "java/lang/Math", Cond.code Lib.Math.max.name Lib.Math.max.code 2 (some .int), Cond.methodLink RX5 262 Lib.Math.min.name, Cond.static Lib.Math.min.name, Cond.code Lib.Math.min.name Lib.Math.min.code 2 (some .int), Cond.methodLink RX5 113 yX0_level, Cond.instanceMethod yX0_level, Cond.selects RX0 yX0_level yX0_level, Cond.initialized RX0, Cond.code yX0_level cX0_level 2 (some .int), Cond.fieldLink RX0 9 "GongTide$Affairs" "levels" "[I"]
def wsX5_hoursOfAll_r2 : List Cond := [Cond.static yX5_isWithin, Cond.code yX5_isWithin cX5_isWithin 3 (some .boolean), Cond.methodLink RX5 110 yX5_kindAt, Cond.instanceMethod yX5_kindAt, Cond.selects RX5 yX5_kindAt yX5_kindAt, Cond.code yX5_kindAt cX5_kindAt 2 (some .int), Cond.fieldLink RX5 16 "GongTide" "kinds" "[I", Cond.methodLink RX5 40 yX5_isWithin, Cond.methodLink RX5 137 yX4_at, Cond.instanceMethod yX4_at, Cond.selects RX4 yX4_at yX4_at, Cond.initialized RX4, Cond.code yX4_at cX4_at 2 (some .int), Cond.fieldLink RX4 9 "GongTide$Tide" "sums" "[I", Cond.methodLink RX4 21 Lib.Math.min.name, Cond.methodLink RX5 259 yX5_above, Cond.static yX5_above, Cond.code yX5_above cX5_above 2 (some .int), Cond.methodLink RX5 265 yX5_howAt, Cond.static yX5_howAt, Cond.code yX5_howAt cX5_howAt 1 (some .int)]
def wsX5_hoursOfAll : List Cond := .code yX5_hoursOfAll cX5_hoursOfAll 5 (some .int) :: ((wsX5_hoursOfAll_r1 ++ wsX5_hoursOfAll_r2) ++ wsX50 ++ wsX00 ++ wsX40)
def wsX5_best_r1 : List Cond := [Cond.fieldLink RX5 65 "GongTide" "houseCount" "I", Cond.methodLink RX5 138 yX5_isHeardLoud, Cond.static yX5_isHeardLoud, Cond.initialized RX5, Cond.code yX5_isHeardLoud cX5_isHeardLoud 1 (some .boolean), Cond.methodLink RX5 40 yX5_isWithin, Cond.static yX5_isWithin, Cond.code yX5_isWithin cX5_isWithin 3 (some .boolean), Cond.methodLink RX5 134 yX5_hasColony, Cond.instanceMethod yX5_hasColony, Cond.selects RX5 yX5_hasColony yX5_hasColony, Cond.code yX5_hasColony cX5_hasColony 1 (some .boolean), Cond.methodLink RX5 106 yX5_tideNow, Cond.instanceMethod yX5_tideNow, Cond.selects RX5 yX5_tideNow yX5_tideNow, Cond.code yX5_tideNow cX5_tideNow 3 (some (.object "GongTide$Tide")), Cond.fieldLink RX5 33 "GongTide" "now" "LGongTide$Tide;", Cond.fieldLink RX5 23 "GongTide" "affairs" "LGongTide$Affairs;", Cond.fieldLink RX5 86 "GongTide$Affairs" "strokes" "LGongTide$Strokes;", Cond.methodLink RX5 241 yX4_clear, Cond.instanceMethod yX4_clear, Cond.selects RX4 yX4_clear yX4_clear, Cond.initialized RX4, Cond.code yX4_clear cX4_clear 2 none]
def wsX5_best_r2 : List Cond := [Cond.fieldLink RX4 9 "GongTide$Tide" "sums" "[I", Cond.methodLink RX5 141 yX3_size, Cond.instanceMethod yX3_size, Cond.selects RX3 yX3_size yX3_size, Cond.initialized RX3, Cond.code yX3_size cX3_size 1 (some .int), Cond.fieldLink RX3 18 "GongTide$Strokes" "size" "I", Cond.methodLink RX5 151 yX3_hour, Cond.instanceMethod yX3_hour, Cond.selects RX3 yX3_hour yX3_hour, Cond.code yX3_hour cX3_hour 2 (some .int), Cond.fieldLink RX3 9 "GongTide$Strokes" "hours" "[I", Cond.methodLink RX3 26 yX3_has, Cond.instanceMethod yX3_has, Cond.selects RX3 yX3_has yX3_has, Cond.code yX3_has cX3_has 2 (some .boolean), Cond.methodLink RX5 145 yX3_loud, Cond.instanceMethod yX3_loud, Cond.selects RX3 yX3_loud yX3_loud, Cond.code yX3_loud cX3_loud 2 (some .int), Cond.fieldLink RX3 15 "GongTide$Strokes" "louds" "[I", Cond.methodLink RX5 242 yX4_add, Cond.instanceMethod yX4_add, Cond.selects RX4 yX4_add yX4_add]
def wsX5_best_r3 : List Cond := [Cond.code yX4_add cX4_add 5 none, Cond.methodLink RX4 15 Lib.Math.max.name, Cond.static Lib.Math.max.name, Cond.initialized "java/lang/Math", Cond.code Lib.Math.max.name Lib.Math.max.code 2 (some .int), Cond.methodLink RX5 164 yX5_suppose, Cond.instanceMethod yX5_suppose, Cond.selects RX5 yX5_suppose yX5_suppose, Cond.code yX5_suppose cX5_suppose 4 (some (.object "GongTide$Tide")), Cond.fieldLink RX5 37 "GongTide" "supposed" "LGongTide$Tide;", Cond.methodLink RX5 244 yX4_copyFrom, Cond.instanceMethod yX4_copyFrom, Cond.selects RX4 yX4_copyFrom yX4_copyFrom, Cond.code yX4_copyFrom cX4_copyFrom 3 none, Cond.methodLink RX5 168 yX5_hoursOfAll, Cond.instanceMethod yX5_hoursOfAll, Cond.selects RX5 yX5_hoursOfAll yX5_hoursOfAll, Cond.code yX5_hoursOfAll cX5_hoursOfAll 5 (some .int), Cond.methodLink RX5 116 yX5_hoursOf, Cond.instanceMethod yX5_hoursOf, Cond.selects RX5 yX5_hoursOf yX5_hoursOf, Cond.code yX5_hoursOf cX5_hoursOf 6 (some .int), Cond.methodLink RX5 124 yX5_mannersAt, Cond.instanceMethod yX5_mannersAt]
def wsX5_best_r4 : List Cond := [Cond.selects RX5 yX5_mannersAt yX5_mannersAt, Cond.code yX5_mannersAt cX5_mannersAt 6 (some .int), Cond.methodLink RX5 254 Lib.Math.max.name, Cond.methodLink RX5 262 Lib.Math.min.name, Cond.static Lib.Math.min.name, Cond.code Lib.Math.min.name Lib.Math.min.code 2 (some .int), Cond.methodLink RX5 113 yX0_level, Cond.instanceMethod yX0_level, Cond.selects RX0 yX0_level yX0_level, Cond.initialized RX0, Cond.code yX0_level cX0_level 2 (some .int), Cond.fieldLink RX0 9 "GongTide$Affairs" "levels" "[I", Cond.methodLink RX5 110 yX5_kindAt, Cond.instanceMethod yX5_kindAt, Cond.selects RX5 yX5_kindAt yX5_kindAt, Cond.code yX5_kindAt cX5_kindAt 2 (some .int), Cond.fieldLink RX5 16 "GongTide" "kinds" "[I", Cond.methodLink RX5 137 yX4_at, Cond.instanceMethod yX4_at, Cond.selects RX4 yX4_at yX4_at, Cond.code yX4_at cX4_at 2 (some .int), Cond.methodLink RX4 21 Lib.Math.min.name, Cond.methodLink RX5 259 yX5_above, Cond.static yX5_above]
def wsX5_best_r5 : List Cond := [Cond.code yX5_above cX5_above 2 (some .int), Cond.methodLink RX5 265 yX5_howAt, Cond.static yX5_howAt, Cond.code yX5_howAt cX5_howAt 1 (some .int)]
def wsX5_best : List Cond := .code yX5_best cX5_best 8 (some .int) :: ((wsX5_best_r1 ++ (wsX5_best_r2 ++ (wsX5_best_r3 ++ (wsX5_best_r4 ++ wsX5_best_r5)))) ++ wsX50 ++ wsX00 ++ wsX40 ++ wsX30)
def wsX5_hear_r1 : List Cond := [Cond.fieldLink RX5 23 "GongTide" "affairs" "LGongTide$Affairs;", Cond.fieldLink RX5 171 "GongTide$Affairs" "heard" "LGongTide$Heard;", Cond.methodLink RX5 103 yX5_isHouse, Cond.instanceMethod yX5_isHouse, Cond.selects RX5 yX5_isHouse yX5_isHouse, Cond.initialized RX5, Cond.code yX5_isHouse cX5_isHouse 2 (some .boolean), Cond.fieldLink RX5 65 "GongTide" "houseCount" "I", Cond.methodLink RX5 40 yX5_isWithin, Cond.static yX5_isWithin, Cond.code yX5_isWithin cX5_isWithin 3 (some .boolean), Cond.methodLink RX5 131 yX5_isHourOfDay, Cond.static yX5_isHourOfDay, Cond.code yX5_isHourOfDay cX5_isHourOfDay 1 (some .boolean), Cond.methodLink RX5 138 yX5_isHeardLoud, Cond.static yX5_isHeardLoud, Cond.code yX5_isHeardLoud cX5_isHeardLoud 1 (some .boolean), Cond.methodLink RX5 175 yX1_add, Cond.instanceMethod yX1_add, Cond.selects RX1 yX1_add yX1_add, Cond.initialized RX1, Cond.code yX1_add cX1_add 5 (some .boolean), Cond.fieldLink RX1 24 "GongTide$Heard" "size" "I", Cond.fieldLink RX1 9 "GongTide$Heard" "houses" "[I"]
def wsX5_hear_r2 : List Cond := [Cond.fieldLink RX1 15 "GongTide$Heard" "hours" "[I", Cond.fieldLink RX1 18 "GongTide$Heard" "louds" "[I", Cond.fieldLink RX1 21 "GongTide$Heard" "hows" "[I", Cond.methodLink RX5 180 yX1_size, Cond.instanceMethod yX1_size, Cond.selects RX1 yX1_size yX1_size, Cond.code yX1_size cX1_size 1 (some .int)]
def wsX5_hear : List Cond := .code yX5_hear cX5_hear 5 (some .int) :: ((wsX5_hear_r1 ++ wsX5_hear_r2) ++ wsX50 ++ wsX00 ++ wsX10)
def wsX5_forget : List Cond := .code yX5_forget cX5_forget 1 (some .int) :: ([.fieldLink RX5 23 "GongTide" "affairs" "LGongTide$Affairs;", .fieldLink RX5 171 "GongTide$Affairs" "heard" "LGongTide$Heard;", .methodLink RX5 181 yX1_clear, .instanceMethod yX1_clear, .selects RX1 yX1_clear yX1_clear, .initialized RX1, .code yX1_clear cX1_clear 2 (some .int), .fieldLink RX1 24 "GongTide$Heard" "size" "I"] ++ wsX50 ++ wsX00 ++ wsX10)
def wsX5_agreesWithHeard_r1 : List Cond := [Cond.fieldLink RX5 23 "GongTide" "affairs" "LGongTide$Affairs;", Cond.fieldLink RX5 171 "GongTide$Affairs" "heard" "LGongTide$Heard;", Cond.methodLink RX5 180 yX1_size, Cond.instanceMethod yX1_size, Cond.selects RX1 yX1_size yX1_size, Cond.initialized RX1, Cond.code yX1_size cX1_size 1 (some .int), Cond.fieldLink RX1 24 "GongTide$Heard" "size" "I", Cond.methodLink RX5 268 yX1_loud, Cond.instanceMethod yX1_loud, Cond.selects RX1 yX1_loud yX1_loud, Cond.code yX1_loud cX1_loud 2 (some .int), Cond.fieldLink RX1 18 "GongTide$Heard" "louds" "[I", Cond.methodLink RX1 32 yX1_has, Cond.instanceMethod yX1_has, Cond.selects RX1 yX1_has yX1_has, Cond.code yX1_has cX1_has 2 (some .boolean), Cond.static yX5_isWithin, Cond.initialized RX5, Cond.code yX5_isWithin cX5_isWithin 3 (some .boolean), Cond.methodLink RX5 164 yX5_suppose, Cond.instanceMethod yX5_suppose, Cond.selects RX5 yX5_suppose yX5_suppose, Cond.code yX5_suppose cX5_suppose 4 (some (.object "GongTide$Tide"))]
def wsX5_agreesWithHeard_r2 : List Cond := [Cond.fieldLink RX5 37 "GongTide" "supposed" "LGongTide$Tide;", Cond.methodLink RX5 244 yX4_copyFrom, Cond.instanceMethod yX4_copyFrom, Cond.selects RX4 yX4_copyFrom yX4_copyFrom, Cond.initialized RX4, Cond.code yX4_copyFrom cX4_copyFrom 3 none, Cond.fieldLink RX4 9 "GongTide$Tide" "sums" "[I", Cond.methodLink RX5 242 yX4_add, Cond.instanceMethod yX4_add, Cond.selects RX4 yX4_add yX4_add, Cond.code yX4_add cX4_add 5 none, Cond.methodLink RX4 15 Lib.Math.max.name, Cond.static Lib.Math.max.name, Cond.initialized "java/lang/Math", Cond.code Lib.Math.max.name Lib.Math.max.code 2 (some .int), Cond.methodLink RX5 269 yX1_house, Cond.instanceMethod yX1_house, Cond.selects RX1 yX1_house yX1_house, Cond.code yX1_house cX1_house 2 (some .int), Cond.fieldLink RX1 9 "GongTide$Heard" "houses" "[I", Cond.methodLink RX5 272 yX1_hour, Cond.instanceMethod yX1_hour, Cond.selects RX1 yX1_hour yX1_hour, Cond.code yX1_hour cX1_hour 2 (some .int)]
def wsX5_agreesWithHeard_r3 : List Cond := [Cond.fieldLink RX1 15 "GongTide$Heard" "hours" "[I", Cond.methodLink RX5 124 yX5_mannersAt, Cond.instanceMethod yX5_mannersAt, Cond.selects RX5 yX5_mannersAt yX5_mannersAt, Cond.code yX5_mannersAt cX5_mannersAt 6 (some .int), Cond.methodLink RX5 254 Lib.Math.max.name, Cond.methodLink RX5 262 Lib.Math.min.name, Cond.static Lib.Math.min.name, Cond.code Lib.Math.min.name Lib.Math.min.code 2 (some .int), Cond.methodLink RX5 113 yX0_level, Cond.instanceMethod yX0_level, Cond.selects RX0 yX0_level yX0_level, Cond.initialized RX0, Cond.code yX0_level cX0_level 2 (some .int), Cond.fieldLink RX0 9 "GongTide$Affairs" "levels" "[I", Cond.methodLink RX5 110 yX5_kindAt, Cond.instanceMethod yX5_kindAt, Cond.selects RX5 yX5_kindAt yX5_kindAt, Cond.code yX5_kindAt cX5_kindAt 2 (some .int), Cond.fieldLink RX5 16 "GongTide" "kinds" "[I", Cond.methodLink RX5 40 yX5_isWithin, Cond.methodLink RX5 137 yX4_at, Cond.instanceMethod yX4_at, Cond.selects RX4 yX4_at yX4_at]
def wsX5_agreesWithHeard_r4 : List Cond := [Cond.code yX4_at cX4_at 2 (some .int), Cond.methodLink RX4 21 Lib.Math.min.name, Cond.methodLink RX5 259 yX5_above, Cond.static yX5_above, Cond.code yX5_above cX5_above 2 (some .int), Cond.methodLink RX5 265 yX5_howAt, Cond.static yX5_howAt, Cond.code yX5_howAt cX5_howAt 1 (some .int), Cond.methodLink RX5 273 yX1_how, Cond.instanceMethod yX1_how, Cond.selects RX1 yX1_how yX1_how, Cond.code yX1_how cX1_how 2 (some .int), Cond.fieldLink RX1 21 "GongTide$Heard" "hows" "[I"]
def wsX5_agreesWithHeard : List Cond := .code yX5_agreesWithHeard cX5_agreesWithHeard 7 (some .boolean) :: ((wsX5_agreesWithHeard_r1 ++ (wsX5_agreesWithHeard_r2 ++ (wsX5_agreesWithHeard_r3 ++ wsX5_agreesWithHeard_r4))) ++ wsX50 ++ wsX00 ++ wsX10 ++ wsX40)
def wsX5_hours_r1 : List Cond := [Cond.methodLink RX5 134 yX5_hasColony, Cond.instanceMethod yX5_hasColony, Cond.selects RX5 yX5_hasColony yX5_hasColony, Cond.initialized RX5, Cond.code yX5_hasColony cX5_hasColony 1 (some .boolean), Cond.fieldLink RX5 65 "GongTide" "houseCount" "I", Cond.methodLink RX5 106 yX5_tideNow, Cond.instanceMethod yX5_tideNow, Cond.selects RX5 yX5_tideNow yX5_tideNow, Cond.code yX5_tideNow cX5_tideNow 3 (some (.object "GongTide$Tide")), Cond.fieldLink RX5 33 "GongTide" "now" "LGongTide$Tide;", Cond.fieldLink RX5 23 "GongTide" "affairs" "LGongTide$Affairs;", Cond.fieldLink RX5 86 "GongTide$Affairs" "strokes" "LGongTide$Strokes;", Cond.methodLink RX5 241 yX4_clear, Cond.instanceMethod yX4_clear, Cond.selects RX4 yX4_clear yX4_clear, Cond.initialized RX4, Cond.code yX4_clear cX4_clear 2 none, Cond.fieldLink RX4 9 "GongTide$Tide" "sums" "[I", Cond.methodLink RX5 141 yX3_size, Cond.instanceMethod yX3_size, Cond.selects RX3 yX3_size yX3_size, Cond.initialized RX3, Cond.code yX3_size cX3_size 1 (some .int)]
def wsX5_hours_r2 : List Cond := [Cond.fieldLink RX3 18 "GongTide$Strokes" "size" "I", Cond.methodLink RX5 151 yX3_hour, Cond.instanceMethod yX3_hour, Cond.selects RX3 yX3_hour yX3_hour, Cond.code yX3_hour cX3_hour 2 (some .int), Cond.fieldLink RX3 9 "GongTide$Strokes" "hours" "[I", Cond.methodLink RX3 26 yX3_has, Cond.instanceMethod yX3_has, Cond.selects RX3 yX3_has yX3_has, Cond.code yX3_has cX3_has 2 (some .boolean), Cond.static yX5_isWithin, Cond.code yX5_isWithin cX5_isWithin 3 (some .boolean), Cond.methodLink RX5 145 yX3_loud, Cond.instanceMethod yX3_loud, Cond.selects RX3 yX3_loud yX3_loud, Cond.code yX3_loud cX3_loud 2 (some .int), Cond.fieldLink RX3 15 "GongTide$Strokes" "louds" "[I", Cond.methodLink RX5 242 yX4_add, Cond.instanceMethod yX4_add, Cond.selects RX4 yX4_add yX4_add, Cond.code yX4_add cX4_add 5 none, Cond.methodLink RX4 15 Lib.Math.max.name, Cond.static Lib.Math.max.name, Cond.initialized "java/lang/Math"]
def wsX5_hours_r3 : List Cond := [Cond.code Lib.Math.max.name Lib.Math.max.code 2 (some .int), Cond.methodLink RX5 183 yX5_agreesWithHeard, Cond.instanceMethod yX5_agreesWithHeard, Cond.selects RX5 yX5_agreesWithHeard yX5_agreesWithHeard, Cond.code yX5_agreesWithHeard cX5_agreesWithHeard 7 (some .boolean), Cond.fieldLink RX5 171 "GongTide$Affairs" "heard" "LGongTide$Heard;", Cond.methodLink RX5 180 yX1_size, Cond.instanceMethod yX1_size, Cond.selects RX1 yX1_size yX1_size, Cond.initialized RX1, Cond.code yX1_size cX1_size 1 (some .int), Cond.fieldLink RX1 24 "GongTide$Heard" "size" "I", Cond.methodLink RX5 268 yX1_loud, Cond.instanceMethod yX1_loud, Cond.selects RX1 yX1_loud yX1_loud, Cond.code yX1_loud cX1_loud 2 (some .int), Cond.fieldLink RX1 18 "GongTide$Heard" "louds" "[I", Cond.methodLink RX1 32 yX1_has, Cond.instanceMethod yX1_has, Cond.selects RX1 yX1_has yX1_has, Cond.code yX1_has cX1_has 2 (some .boolean), Cond.methodLink RX5 164 yX5_suppose, Cond.instanceMethod yX5_suppose, Cond.selects RX5 yX5_suppose yX5_suppose]
def wsX5_hours_r4 : List Cond := [Cond.code yX5_suppose cX5_suppose 4 (some (.object "GongTide$Tide")), Cond.fieldLink RX5 37 "GongTide" "supposed" "LGongTide$Tide;", Cond.methodLink RX5 244 yX4_copyFrom, Cond.instanceMethod yX4_copyFrom, Cond.selects RX4 yX4_copyFrom yX4_copyFrom, Cond.code yX4_copyFrom cX4_copyFrom 3 none, Cond.methodLink RX5 269 yX1_house, Cond.instanceMethod yX1_house, Cond.selects RX1 yX1_house yX1_house, Cond.code yX1_house cX1_house 2 (some .int), Cond.fieldLink RX1 9 "GongTide$Heard" "houses" "[I", Cond.methodLink RX5 272 yX1_hour, Cond.instanceMethod yX1_hour, Cond.selects RX1 yX1_hour yX1_hour, Cond.code yX1_hour cX1_hour 2 (some .int), Cond.fieldLink RX1 15 "GongTide$Heard" "hours" "[I", Cond.methodLink RX5 124 yX5_mannersAt, Cond.instanceMethod yX5_mannersAt, Cond.selects RX5 yX5_mannersAt yX5_mannersAt, Cond.code yX5_mannersAt cX5_mannersAt 6 (some .int), Cond.methodLink RX5 254 Lib.Math.max.name, Cond.methodLink RX5 262 Lib.Math.min.name, Cond.static Lib.Math.min.name, Cond.code Lib.Math.min.name Lib.Math.min.code 2 (some .int)]
def wsX5_hours_r5 : List Cond := [Cond.methodLink RX5 113 yX0_level, Cond.instanceMethod yX0_level, Cond.selects RX0 yX0_level yX0_level, Cond.initialized RX0, Cond.code yX0_level cX0_level 2 (some .int), Cond.fieldLink RX0 9 "GongTide$Affairs" "levels" "[I", Cond.methodLink RX5 110 yX5_kindAt, Cond.instanceMethod yX5_kindAt, Cond.selects RX5 yX5_kindAt yX5_kindAt, Cond.code yX5_kindAt cX5_kindAt 2 (some .int), Cond.fieldLink RX5 16 "GongTide" "kinds" "[I", Cond.methodLink RX5 40 yX5_isWithin, Cond.methodLink RX5 137 yX4_at, Cond.instanceMethod yX4_at, Cond.selects RX4 yX4_at yX4_at, Cond.code yX4_at cX4_at 2 (some .int), Cond.methodLink RX4 21 Lib.Math.min.name, Cond.methodLink RX5 259 yX5_above, Cond.static yX5_above, Cond.code yX5_above cX5_above 2 (some .int), Cond.methodLink RX5 265 yX5_howAt, Cond.static yX5_howAt, Cond.code yX5_howAt cX5_howAt 1 (some .int), Cond.methodLink RX5 273 yX1_how]
def wsX5_hours_r6 : List Cond := [Cond.instanceMethod yX1_how, Cond.selects RX1 yX1_how yX1_how, Cond.code yX1_how cX1_how 2 (some .int), Cond.fieldLink RX1 21 "GongTide$Heard" "hows" "[I"]
def wsX5_hours : List Cond := .code yX5_hours cX5_hours 4 (some .int) :: ((wsX5_hours_r1 ++ (wsX5_hours_r2 ++ (wsX5_hours_r3 ++ (wsX5_hours_r4 ++ (wsX5_hours_r5 ++ wsX5_hours_r6))))) ++ wsX50 ++ wsX00 ++ wsX40 ++ wsX30 ++ wsX10)
def wsX5_mostLeft_r1 : List Cond := [Cond.fieldLink RX5 23 "GongTide" "affairs" "LGongTide$Affairs;", Cond.fieldLink RX5 171 "GongTide$Affairs" "heard" "LGongTide$Heard;", Cond.methodLink RX5 254 Lib.Math.max.name, Cond.static Lib.Math.max.name, Cond.initialized "java/lang/Math", Cond.code Lib.Math.max.name Lib.Math.max.code 2 (some .int), Cond.methodLink RX5 276 yX1_lastLoud, Cond.instanceMethod yX1_lastLoud, Cond.selects RX1 yX1_lastLoud yX1_lastLoud, Cond.initialized RX1, Cond.code yX1_lastLoud cX1_lastLoud 1 (some .int), Cond.fieldLink RX1 24 "GongTide$Heard" "size" "I", Cond.methodLink RX1 36 yX1_loud, Cond.instanceMethod yX1_loud, Cond.selects RX1 yX1_loud yX1_loud, Cond.code yX1_loud cX1_loud 2 (some .int), Cond.fieldLink RX1 18 "GongTide$Heard" "louds" "[I", Cond.methodLink RX1 32 yX1_has, Cond.instanceMethod yX1_has, Cond.selects RX1 yX1_has yX1_has, Cond.code yX1_has cX1_has 2 (some .boolean), Cond.static yX5_isWithin, Cond.initialized RX5, Cond.code yX5_isWithin cX5_isWithin 3 (some .boolean)]
def wsX5_mostLeft_r2 : List Cond := [Cond.methodLink RX5 164 yX5_suppose, Cond.instanceMethod yX5_suppose, Cond.selects RX5 yX5_suppose yX5_suppose, Cond.code yX5_suppose cX5_suppose 4 (some (.object "GongTide$Tide")), Cond.fieldLink RX5 37 "GongTide" "supposed" "LGongTide$Tide;", Cond.methodLink RX5 244 yX4_copyFrom, Cond.instanceMethod yX4_copyFrom, Cond.selects RX4 yX4_copyFrom yX4_copyFrom, Cond.initialized RX4, Cond.code yX4_copyFrom cX4_copyFrom 3 none, Cond.fieldLink RX4 9 "GongTide$Tide" "sums" "[I", Cond.methodLink RX5 242 yX4_add, Cond.instanceMethod yX4_add, Cond.selects RX4 yX4_add yX4_add, Cond.code yX4_add cX4_add 5 none, Cond.methodLink RX4 15 Lib.Math.max.name, Cond.methodLink RX5 124 yX5_mannersAt, Cond.instanceMethod yX5_mannersAt, Cond.selects RX5 yX5_mannersAt yX5_mannersAt, Cond.code yX5_mannersAt cX5_mannersAt 6 (some .int), Cond.methodLink RX5 262 Lib.Math.min.name, Cond.static Lib.Math.min.name, Cond.code Lib.Math.min.name Lib.Math.min.code 2 (some .int), Cond.methodLink RX5 113 yX0_level]
def wsX5_mostLeft_r3 : List Cond := [Cond.instanceMethod yX0_level, Cond.selects RX0 yX0_level yX0_level, Cond.initialized RX0, Cond.code yX0_level cX0_level 2 (some .int), Cond.fieldLink RX0 9 "GongTide$Affairs" "levels" "[I", Cond.methodLink RX5 110 yX5_kindAt, Cond.instanceMethod yX5_kindAt, Cond.selects RX5 yX5_kindAt yX5_kindAt, Cond.code yX5_kindAt cX5_kindAt 2 (some .int), Cond.fieldLink RX5 16 "GongTide" "kinds" "[I", Cond.methodLink RX5 40 yX5_isWithin, Cond.methodLink RX5 137 yX4_at, Cond.instanceMethod yX4_at, Cond.selects RX4 yX4_at yX4_at, Cond.code yX4_at cX4_at 2 (some .int), Cond.methodLink RX4 21 Lib.Math.min.name, Cond.methodLink RX5 259 yX5_above, Cond.static yX5_above, Cond.code yX5_above cX5_above 2 (some .int), Cond.methodLink RX5 265 yX5_howAt, Cond.static yX5_howAt, Cond.code yX5_howAt cX5_howAt 1 (some .int)]
def wsX5_mostLeft : List Cond := .code yX5_mostLeft cX5_mostLeft 10 (some .int) :: ((wsX5_mostLeft_r1 ++ (wsX5_mostLeft_r2 ++ wsX5_mostLeft_r3)) ++ wsX50 ++ wsX00 ++ wsX10 ++ wsX40)
def wsX5_ask_r1 : List Cond := [Cond.fieldLink RX5 23 "GongTide" "affairs" "LGongTide$Affairs;", Cond.fieldLink RX5 171 "GongTide$Affairs" "heard" "LGongTide$Heard;", Cond.fieldLink RX5 65 "GongTide" "houseCount" "I", Cond.methodLink RX5 131 yX5_isHourOfDay, Cond.static yX5_isHourOfDay, Cond.initialized RX5, Cond.code yX5_isHourOfDay cX5_isHourOfDay 1 (some .boolean), Cond.methodLink RX5 40 yX5_isWithin, Cond.static yX5_isWithin, Cond.code yX5_isWithin cX5_isWithin 3 (some .boolean), Cond.methodLink RX5 134 yX5_hasColony, Cond.instanceMethod yX5_hasColony, Cond.selects RX5 yX5_hasColony yX5_hasColony, Cond.code yX5_hasColony cX5_hasColony 1 (some .boolean), Cond.methodLink RX5 187 yX5_hours, Cond.instanceMethod yX5_hours, Cond.selects RX5 yX5_hours yX5_hours, Cond.code yX5_hours cX5_hours 4 (some .int), Cond.methodLink RX5 106 yX5_tideNow, Cond.instanceMethod yX5_tideNow, Cond.selects RX5 yX5_tideNow yX5_tideNow, Cond.code yX5_tideNow cX5_tideNow 3 (some (.object "GongTide$Tide")), Cond.fieldLink RX5 33 "GongTide" "now" "LGongTide$Tide;", Cond.fieldLink RX5 86 "GongTide$Affairs" "strokes" "LGongTide$Strokes;"]
def wsX5_ask_r2 : List Cond := [Cond.methodLink RX5 241 yX4_clear, Cond.instanceMethod yX4_clear, Cond.selects RX4 yX4_clear yX4_clear, Cond.initialized RX4, Cond.code yX4_clear cX4_clear 2 none, Cond.fieldLink RX4 9 "GongTide$Tide" "sums" "[I", Cond.methodLink RX5 141 yX3_size, Cond.instanceMethod yX3_size, Cond.selects RX3 yX3_size yX3_size, Cond.initialized RX3, Cond.code yX3_size cX3_size 1 (some .int), Cond.fieldLink RX3 18 "GongTide$Strokes" "size" "I", Cond.methodLink RX5 151 yX3_hour, Cond.instanceMethod yX3_hour, Cond.selects RX3 yX3_hour yX3_hour, Cond.code yX3_hour cX3_hour 2 (some .int), Cond.fieldLink RX3 9 "GongTide$Strokes" "hours" "[I", Cond.methodLink RX3 26 yX3_has, Cond.instanceMethod yX3_has, Cond.selects RX3 yX3_has yX3_has, Cond.code yX3_has cX3_has 2 (some .boolean), Cond.methodLink RX5 145 yX3_loud, Cond.instanceMethod yX3_loud, Cond.selects RX3 yX3_loud yX3_loud]
def wsX5_ask_r3 : List Cond := [Cond.code yX3_loud cX3_loud 2 (some .int), Cond.fieldLink RX3 15 "GongTide$Strokes" "louds" "[I", Cond.methodLink RX5 242 yX4_add, Cond.instanceMethod yX4_add, Cond.selects RX4 yX4_add yX4_add, Cond.code yX4_add cX4_add 5 none, Cond.methodLink RX4 15 Lib.Math.max.name, Cond.static Lib.Math.max.name, Cond.initialized "java/lang/Math", Cond.code Lib.Math.max.name Lib.Math.max.code 2 (some .int), Cond.methodLink RX5 183 yX5_agreesWithHeard, Cond.instanceMethod yX5_agreesWithHeard, Cond.selects RX5 yX5_agreesWithHeard yX5_agreesWithHeard, Cond.code yX5_agreesWithHeard cX5_agreesWithHeard 7 (some .boolean), Cond.methodLink RX5 180 yX1_size, Cond.instanceMethod yX1_size, Cond.selects RX1 yX1_size yX1_size, Cond.initialized RX1, Cond.code yX1_size cX1_size 1 (some .int), Cond.fieldLink RX1 24 "GongTide$Heard" "size" "I", Cond.methodLink RX5 268 yX1_loud, Cond.instanceMethod yX1_loud, Cond.selects RX1 yX1_loud yX1_loud, Cond.code yX1_loud cX1_loud 2 (some .int)]
def wsX5_ask_r4 : List Cond := [Cond.fieldLink RX1 18 "GongTide$Heard" "louds" "[I", Cond.methodLink RX1 32 yX1_has, Cond.instanceMethod yX1_has, Cond.selects RX1 yX1_has yX1_has, Cond.code yX1_has cX1_has 2 (some .boolean), Cond.methodLink RX5 164 yX5_suppose, Cond.instanceMethod yX5_suppose, Cond.selects RX5 yX5_suppose yX5_suppose, Cond.code yX5_suppose cX5_suppose 4 (some (.object "GongTide$Tide")), Cond.fieldLink RX5 37 "GongTide" "supposed" "LGongTide$Tide;", Cond.methodLink RX5 244 yX4_copyFrom, Cond.instanceMethod yX4_copyFrom, Cond.selects RX4 yX4_copyFrom yX4_copyFrom, Cond.code yX4_copyFrom cX4_copyFrom 3 none, Cond.methodLink RX5 269 yX1_house, Cond.instanceMethod yX1_house, Cond.selects RX1 yX1_house yX1_house, Cond.code yX1_house cX1_house 2 (some .int), Cond.fieldLink RX1 9 "GongTide$Heard" "houses" "[I", Cond.methodLink RX5 272 yX1_hour, Cond.instanceMethod yX1_hour, Cond.selects RX1 yX1_hour yX1_hour, Cond.code yX1_hour cX1_hour 2 (some .int), Cond.fieldLink RX1 15 "GongTide$Heard" "hours" "[I"]
def wsX5_ask_r5 : List Cond := [Cond.methodLink RX5 124 yX5_mannersAt, Cond.instanceMethod yX5_mannersAt, Cond.selects RX5 yX5_mannersAt yX5_mannersAt, Cond.code yX5_mannersAt cX5_mannersAt 6 (some .int), Cond.methodLink RX5 254 Lib.Math.max.name, Cond.methodLink RX5 262 Lib.Math.min.name, Cond.static Lib.Math.min.name, Cond.code Lib.Math.min.name Lib.Math.min.code 2 (some .int), Cond.methodLink RX5 113 yX0_level, Cond.instanceMethod yX0_level, Cond.selects RX0 yX0_level yX0_level, Cond.initialized RX0, Cond.code yX0_level cX0_level 2 (some .int), Cond.fieldLink RX0 9 "GongTide$Affairs" "levels" "[I", Cond.methodLink RX5 110 yX5_kindAt, Cond.instanceMethod yX5_kindAt, Cond.selects RX5 yX5_kindAt yX5_kindAt, Cond.code yX5_kindAt cX5_kindAt 2 (some .int), Cond.fieldLink RX5 16 "GongTide" "kinds" "[I", Cond.methodLink RX5 137 yX4_at, Cond.instanceMethod yX4_at, Cond.selects RX4 yX4_at yX4_at, Cond.code yX4_at cX4_at 2 (some .int), Cond.methodLink RX4 21 Lib.Math.min.name]
def wsX5_ask_r6 : List Cond := [Cond.methodLink RX5 259 yX5_above, Cond.static yX5_above, Cond.code yX5_above cX5_above 2 (some .int), Cond.methodLink RX5 265 yX5_howAt, Cond.static yX5_howAt, Cond.code yX5_howAt cX5_howAt 1 (some .int), Cond.methodLink RX5 273 yX1_how, Cond.instanceMethod yX1_how, Cond.selects RX1 yX1_how yX1_how, Cond.code yX1_how cX1_how 2 (some .int), Cond.fieldLink RX1 21 "GongTide$Heard" "hows" "[I", Cond.methodLink RX5 190 yX5_mostLeft, Cond.instanceMethod yX5_mostLeft, Cond.selects RX5 yX5_mostLeft yX5_mostLeft, Cond.code yX5_mostLeft cX5_mostLeft 10 (some .int), Cond.methodLink RX5 276 yX1_lastLoud, Cond.instanceMethod yX1_lastLoud, Cond.selects RX1 yX1_lastLoud yX1_lastLoud, Cond.code yX1_lastLoud cX1_lastLoud 1 (some .int), Cond.methodLink RX1 36 yX1_loud]
def wsX5_ask : List Cond := .code yX5_ask cX5_ask 8 (some .int) :: ((wsX5_ask_r1 ++ (wsX5_ask_r2 ++ (wsX5_ask_r3 ++ (wsX5_ask_r4 ++ (wsX5_ask_r5 ++ wsX5_ask_r6))))) ++ wsX50 ++ wsX00 ++ wsX40 ++ wsX30 ++ wsX10)
def wsX5_drawDay_r1 : List Cond := [Cond.fieldLink RX5 23 "GongTide" "affairs" "LGongTide$Affairs;", Cond.fieldLink RX5 86 "GongTide$Affairs" "strokes" "LGongTide$Strokes;", Cond.fieldLink RX5 37 "GongTide" "supposed" "LGongTide$Tide;", Cond.constantLong RX5 247 (1103515245), Cond.constantLong RX5 249 (12345), Cond.constantLong RX5 251 (2147483648), Cond.constant RX5 253 (65536), Cond.methodLink RX5 241 yX4_clear, Cond.instanceMethod yX4_clear, Cond.selects RX4 yX4_clear yX4_clear, Cond.initialized RX4, Cond.code yX4_clear cX4_clear 2 none, Cond.fieldLink RX4 9 "GongTide$Tide" "sums" "[I", Cond.methodLink RX5 141 yX3_size, Cond.instanceMethod yX3_size, Cond.selects RX3 yX3_size yX3_size, Cond.initialized RX3, Cond.code yX3_size cX3_size 1 (some .int), Cond.fieldLink RX3 18 "GongTide$Strokes" "size" "I", Cond.methodLink RX5 145 yX3_loud, Cond.instanceMethod yX3_loud, Cond.selects RX3 yX3_loud yX3_loud, Cond.code yX3_loud cX3_loud 2 (some .int), Cond.fieldLink RX3 15 "GongTide$Strokes" "louds" "[I"]
def wsX5_drawDay_r2 : List Cond := [Cond.methodLink RX3 26 yX3_has, Cond.instanceMethod yX3_has, Cond.selects RX3 yX3_has yX3_has, Cond.code yX3_has cX3_has 2 (some .boolean), Cond.static yX5_isWithin, Cond.initialized RX5, Cond.code yX5_isWithin cX5_isWithin 3 (some .boolean), Cond.methodLink RX5 242 yX4_add, Cond.instanceMethod yX4_add, Cond.selects RX4 yX4_add yX4_add, Cond.code yX4_add cX4_add 5 none, Cond.methodLink RX4 15 Lib.Math.max.name, Cond.static Lib.Math.max.name, Cond.initialized "java/lang/Math", Cond.code Lib.Math.max.name Lib.Math.max.code 2 (some .int)]
def wsX5_drawDay : List Cond := .code yX5_drawDay cX5_drawDay 5 (some .int) :: ((wsX5_drawDay_r1 ++ wsX5_drawDay_r2) ++ wsX50 ++ wsX00 ++ wsX40 ++ wsX30)
def wsX5_weeks_r1 : List Cond := [Cond.fieldLink RX5 37 "GongTide" "supposed" "LGongTide$Tide;", Cond.methodLink RX5 40 yX5_isWithin, Cond.static yX5_isWithin, Cond.initialized RX5, Cond.code yX5_isWithin cX5_isWithin 3 (some .boolean), Cond.methodLink RX5 134 yX5_hasColony, Cond.instanceMethod yX5_hasColony, Cond.selects RX5 yX5_hasColony yX5_hasColony, Cond.code yX5_hasColony cX5_hasColony 1 (some .boolean), Cond.fieldLink RX5 65 "GongTide" "houseCount" "I", Cond.methodLink RX5 194 yX5_drawDay, Cond.instanceMethod yX5_drawDay, Cond.selects RX5 yX5_drawDay yX5_drawDay, Cond.code yX5_drawDay cX5_drawDay 5 (some .int), Cond.fieldLink RX5 23 "GongTide" "affairs" "LGongTide$Affairs;", Cond.fieldLink RX5 86 "GongTide$Affairs" "strokes" "LGongTide$Strokes;", Cond.constantLong RX5 247 (1103515245), Cond.constantLong RX5 249 (12345), Cond.constantLong RX5 251 (2147483648), Cond.constant RX5 253 (65536), Cond.methodLink RX5 241 yX4_clear, Cond.instanceMethod yX4_clear, Cond.selects RX4 yX4_clear yX4_clear, Cond.initialized RX4]
def wsX5_weeks_r2 : List Cond := [Cond.code yX4_clear cX4_clear 2 none, Cond.fieldLink RX4 9 "GongTide$Tide" "sums" "[I", Cond.methodLink RX5 141 yX3_size, Cond.instanceMethod yX3_size, Cond.selects RX3 yX3_size yX3_size, Cond.initialized RX3, Cond.code yX3_size cX3_size 1 (some .int), Cond.fieldLink RX3 18 "GongTide$Strokes" "size" "I", Cond.methodLink RX5 145 yX3_loud, Cond.instanceMethod yX3_loud, Cond.selects RX3 yX3_loud yX3_loud, Cond.code yX3_loud cX3_loud 2 (some .int), Cond.fieldLink RX3 15 "GongTide$Strokes" "louds" "[I", Cond.methodLink RX3 26 yX3_has, Cond.instanceMethod yX3_has, Cond.selects RX3 yX3_has yX3_has, Cond.code yX3_has cX3_has 2 (some .boolean), Cond.methodLink RX5 242 yX4_add, Cond.instanceMethod yX4_add, Cond.selects RX4 yX4_add yX4_add, Cond.code yX4_add cX4_add 5 none, Cond.methodLink RX4 15 Lib.Math.max.name, Cond.static Lib.Math.max.name, Cond.initialized "java/lang/Math"]
def wsX5_weeks_r3 : List Cond := [Cond.code Lib.Math.max.name Lib.Math.max.code 2 (some .int), Cond.methodLink RX5 168 yX5_hoursOfAll, Cond.instanceMethod yX5_hoursOfAll, Cond.selects RX5 yX5_hoursOfAll yX5_hoursOfAll, Cond.code yX5_hoursOfAll cX5_hoursOfAll 5 (some .int), Cond.methodLink RX5 116 yX5_hoursOf, Cond.instanceMethod yX5_hoursOf, Cond.selects RX5 yX5_hoursOf yX5_hoursOf, Cond.code yX5_hoursOf cX5_hoursOf 6 (some .int), Cond.methodLink RX5 124 yX5_mannersAt, Cond.instanceMethod yX5_mannersAt, Cond.selects RX5 yX5_mannersAt yX5_mannersAt, Cond.code yX5_mannersAt cX5_mannersAt 6 (some .int), Cond.methodLink RX5 254 Lib.Math.max.name, Cond.methodLink RX5 262 Lib.Math.min.name, Cond.static Lib.Math.min.name, Cond.code Lib.Math.min.name Lib.Math.min.code 2 (some .int), Cond.methodLink RX5 113 yX0_level, Cond.instanceMethod yX0_level, Cond.selects RX0 yX0_level yX0_level, Cond.initialized RX0, Cond.code yX0_level cX0_level 2 (some .int), Cond.fieldLink RX0 9 "GongTide$Affairs" "levels" "[I", Cond.methodLink RX5 110 yX5_kindAt]
def wsX5_weeks_r4 : List Cond := [Cond.instanceMethod yX5_kindAt, Cond.selects RX5 yX5_kindAt yX5_kindAt, Cond.code yX5_kindAt cX5_kindAt 2 (some .int), Cond.fieldLink RX5 16 "GongTide" "kinds" "[I", Cond.methodLink RX5 137 yX4_at, Cond.instanceMethod yX4_at, Cond.selects RX4 yX4_at yX4_at, Cond.code yX4_at cX4_at 2 (some .int), Cond.methodLink RX4 21 Lib.Math.min.name, Cond.methodLink RX5 259 yX5_above, Cond.static yX5_above, Cond.code yX5_above cX5_above 2 (some .int), Cond.methodLink RX5 265 yX5_howAt, Cond.static yX5_howAt, Cond.code yX5_howAt cX5_howAt 1 (some .int)]
def wsX5_weeks : List Cond := .code yX5_weeks cX5_weeks 8 (some .int) :: ((wsX5_weeks_r1 ++ (wsX5_weeks_r2 ++ (wsX5_weeks_r3 ++ wsX5_weeks_r4))) ++ wsX50 ++ wsX00 ++ wsX40 ++ wsX30)
def wsX5_image_r1 : List Cond := [Cond.fieldLink RX5 27 "GongTide" "kept" "LGongTide$Affairs;", Cond.fieldLink RX5 23 "GongTide" "affairs" "LGongTide$Affairs;", Cond.fieldLink RX5 96 "GongTide" "isKept" "Z", Cond.fieldLink RX5 128 "GongTide$Affairs" "changes" "I", Cond.methodLink RX5 134 yX5_hasColony, Cond.instanceMethod yX5_hasColony, Cond.selects RX5 yX5_hasColony yX5_hasColony, Cond.initialized RX5, Cond.code yX5_hasColony cX5_hasColony 1 (some .boolean), Cond.fieldLink RX5 65 "GongTide" "houseCount" "I", Cond.methodLink RX5 197 yX0_copyFrom, Cond.instanceMethod yX0_copyFrom, Cond.selects RX0 yX0_copyFrom yX0_copyFrom, Cond.initialized RX0, Cond.code yX0_copyFrom cX0_copyFrom 3 none, Cond.fieldLink RX0 9 "GongTide$Affairs" "levels" "[I", Cond.fieldLink RX0 18 "GongTide$Affairs" "strokes" "LGongTide$Strokes;", Cond.fieldLink RX0 25 "GongTide$Affairs" "heard" "LGongTide$Heard;", Cond.fieldLink RX0 35 "GongTide$Affairs" "changes" "I", Cond.methodLink RX0 43 yX3_copyFrom, Cond.instanceMethod yX3_copyFrom, Cond.selects RX3 yX3_copyFrom yX3_copyFrom, Cond.initialized RX3, Cond.code yX3_copyFrom cX3_copyFrom 3 none]
def wsX5_image_r2 : List Cond := [Cond.fieldLink RX3 18 "GongTide$Strokes" "size" "I", Cond.fieldLink RX3 9 "GongTide$Strokes" "hours" "[I", Cond.fieldLink RX3 15 "GongTide$Strokes" "louds" "[I", Cond.methodLink RX0 47 yX1_copyFrom, Cond.instanceMethod yX1_copyFrom, Cond.selects RX1 yX1_copyFrom yX1_copyFrom, Cond.initialized RX1, Cond.code yX1_copyFrom cX1_copyFrom 3 none, Cond.fieldLink RX1 24 "GongTide$Heard" "size" "I", Cond.fieldLink RX1 9 "GongTide$Heard" "houses" "[I", Cond.fieldLink RX1 15 "GongTide$Heard" "hours" "[I", Cond.fieldLink RX1 18 "GongTide$Heard" "louds" "[I", Cond.fieldLink RX1 21 "GongTide$Heard" "hows" "[I"]
def wsX5_image : List Cond := .code yX5_image cX5_image 1 (some .int) :: ((wsX5_image_r1 ++ wsX5_image_r2) ++ wsX50 ++ wsX00 ++ wsX30 ++ wsX10)
def wsX5_restore_r1 : List Cond := [Cond.fieldLink RX5 96 "GongTide" "isKept" "Z", Cond.fieldLink RX5 23 "GongTide" "affairs" "LGongTide$Affairs;", Cond.fieldLink RX5 27 "GongTide" "kept" "LGongTide$Affairs;", Cond.fieldLink RX5 128 "GongTide$Affairs" "changes" "I", Cond.methodLink RX5 197 yX0_copyFrom, Cond.instanceMethod yX0_copyFrom, Cond.selects RX0 yX0_copyFrom yX0_copyFrom, Cond.initialized RX0, Cond.code yX0_copyFrom cX0_copyFrom 3 none, Cond.fieldLink RX0 9 "GongTide$Affairs" "levels" "[I", Cond.fieldLink RX0 18 "GongTide$Affairs" "strokes" "LGongTide$Strokes;", Cond.fieldLink RX0 25 "GongTide$Affairs" "heard" "LGongTide$Heard;", Cond.fieldLink RX0 35 "GongTide$Affairs" "changes" "I", Cond.methodLink RX0 43 yX3_copyFrom, Cond.instanceMethod yX3_copyFrom, Cond.selects RX3 yX3_copyFrom yX3_copyFrom, Cond.initialized RX3, Cond.code yX3_copyFrom cX3_copyFrom 3 none, Cond.fieldLink RX3 18 "GongTide$Strokes" "size" "I", Cond.fieldLink RX3 9 "GongTide$Strokes" "hours" "[I", Cond.fieldLink RX3 15 "GongTide$Strokes" "louds" "[I", Cond.methodLink RX0 47 yX1_copyFrom, Cond.instanceMethod yX1_copyFrom, Cond.selects RX1 yX1_copyFrom yX1_copyFrom]
def wsX5_restore_r2 : List Cond := [Cond.initialized RX1, Cond.code yX1_copyFrom cX1_copyFrom 3 none, Cond.fieldLink RX1 24 "GongTide$Heard" "size" "I", Cond.fieldLink RX1 9 "GongTide$Heard" "houses" "[I", Cond.fieldLink RX1 15 "GongTide$Heard" "hours" "[I", Cond.fieldLink RX1 18 "GongTide$Heard" "louds" "[I", Cond.fieldLink RX1 21 "GongTide$Heard" "hows" "[I"]
def wsX5_restore : List Cond := .code yX5_restore cX5_restore 1 (some .int) :: ((wsX5_restore_r1 ++ wsX5_restore_r2) ++ wsX50 ++ wsX00 ++ wsX30 ++ wsX10)
def wsX5_count_r1 : List Cond := [Cond.fieldLink RX5 65 "GongTide" "houseCount" "I", Cond.fieldLink RX5 23 "GongTide" "affairs" "LGongTide$Affairs;", Cond.fieldLink RX5 86 "GongTide$Affairs" "strokes" "LGongTide$Strokes;", Cond.fieldLink RX5 128 "GongTide$Affairs" "changes" "I", Cond.fieldLink RX5 171 "GongTide$Affairs" "heard" "LGongTide$Heard;", Cond.fieldLink RX5 10 "GongTide" "page" "LGongTide$Page;", Cond.fieldLink RX5 100 "GongTide" "readings" "I", Cond.methodLink RX5 141 yX3_size, Cond.instanceMethod yX3_size, Cond.selects RX3 yX3_size yX3_size, Cond.initialized RX3, Cond.code yX3_size cX3_size 1 (some .int), Cond.fieldLink RX3 18 "GongTide$Strokes" "size" "I", Cond.methodLink RX5 106 yX5_tideNow, Cond.instanceMethod yX5_tideNow, Cond.selects RX5 yX5_tideNow yX5_tideNow, Cond.initialized RX5, Cond.code yX5_tideNow cX5_tideNow 3 (some (.object "GongTide$Tide")), Cond.fieldLink RX5 33 "GongTide" "now" "LGongTide$Tide;", Cond.methodLink RX5 241 yX4_clear, Cond.instanceMethod yX4_clear, Cond.selects RX4 yX4_clear yX4_clear, Cond.initialized RX4, Cond.code yX4_clear cX4_clear 2 none]
def wsX5_count_r2 : List Cond := [Cond.fieldLink RX4 9 "GongTide$Tide" "sums" "[I", Cond.methodLink RX5 151 yX3_hour, Cond.instanceMethod yX3_hour, Cond.selects RX3 yX3_hour yX3_hour, Cond.code yX3_hour cX3_hour 2 (some .int), Cond.fieldLink RX3 9 "GongTide$Strokes" "hours" "[I", Cond.methodLink RX3 26 yX3_has, Cond.instanceMethod yX3_has, Cond.selects RX3 yX3_has yX3_has, Cond.code yX3_has cX3_has 2 (some .boolean), Cond.static yX5_isWithin, Cond.code yX5_isWithin cX5_isWithin 3 (some .boolean), Cond.methodLink RX5 145 yX3_loud, Cond.instanceMethod yX3_loud, Cond.selects RX3 yX3_loud yX3_loud, Cond.code yX3_loud cX3_loud 2 (some .int), Cond.fieldLink RX3 15 "GongTide$Strokes" "louds" "[I", Cond.methodLink RX5 242 yX4_add, Cond.instanceMethod yX4_add, Cond.selects RX4 yX4_add yX4_add, Cond.code yX4_add cX4_add 5 none, Cond.methodLink RX4 15 Lib.Math.max.name, Cond.static Lib.Math.max.name, Cond.initialized "java/lang/Math"]
def wsX5_count_r3 : List Cond := [Cond.code Lib.Math.max.name Lib.Math.max.code 2 (some .int), Cond.methodLink RX5 201 yX4_greatest, Cond.instanceMethod yX4_greatest, Cond.selects RX4 yX4_greatest yX4_greatest, Cond.code yX4_greatest cX4_greatest 3 (some .int), Cond.methodLink RX4 24 yX4_at, Cond.instanceMethod yX4_at, Cond.selects RX4 yX4_at yX4_at, Cond.code yX4_at cX4_at 2 (some .int), Cond.methodLink RX4 21 Lib.Math.min.name, Cond.static Lib.Math.min.name, Cond.code Lib.Math.min.name Lib.Math.min.code 2 (some .int), Cond.methodLink RX5 168 yX5_hoursOfAll, Cond.instanceMethod yX5_hoursOfAll, Cond.selects RX5 yX5_hoursOfAll yX5_hoursOfAll, Cond.code yX5_hoursOfAll cX5_hoursOfAll 5 (some .int), Cond.methodLink RX5 116 yX5_hoursOf, Cond.instanceMethod yX5_hoursOf, Cond.selects RX5 yX5_hoursOf yX5_hoursOf, Cond.code yX5_hoursOf cX5_hoursOf 6 (some .int), Cond.methodLink RX5 124 yX5_mannersAt, Cond.instanceMethod yX5_mannersAt, Cond.selects RX5 yX5_mannersAt yX5_mannersAt, Cond.code yX5_mannersAt cX5_mannersAt 6 (some .int)]
def wsX5_count_r4 : List Cond := [Cond.methodLink RX5 254 Lib.Math.max.name, Cond.methodLink RX5 262 Lib.Math.min.name, Cond.methodLink RX5 113 yX0_level, Cond.instanceMethod yX0_level, Cond.selects RX0 yX0_level yX0_level, Cond.initialized RX0, Cond.code yX0_level cX0_level 2 (some .int), Cond.fieldLink RX0 9 "GongTide$Affairs" "levels" "[I", Cond.methodLink RX5 110 yX5_kindAt, Cond.instanceMethod yX5_kindAt, Cond.selects RX5 yX5_kindAt yX5_kindAt, Cond.code yX5_kindAt cX5_kindAt 2 (some .int), Cond.fieldLink RX5 16 "GongTide" "kinds" "[I", Cond.methodLink RX5 40 yX5_isWithin, Cond.methodLink RX5 137 yX4_at, Cond.methodLink RX5 259 yX5_above, Cond.static yX5_above, Cond.code yX5_above cX5_above 2 (some .int), Cond.methodLink RX5 265 yX5_howAt, Cond.static yX5_howAt, Cond.code yX5_howAt cX5_howAt 1 (some .int), Cond.methodLink RX5 180 yX1_size, Cond.instanceMethod yX1_size, Cond.selects RX1 yX1_size yX1_size]
def wsX5_count_r5 : List Cond := [Cond.initialized RX1, Cond.code yX1_size cX1_size 1 (some .int), Cond.fieldLink RX1 24 "GongTide$Heard" "size" "I", Cond.methodLink RX5 48 yX2_size, Cond.instanceMethod yX2_size, Cond.selects RX2 yX2_size yX2_size, Cond.initialized RX2, Cond.code yX2_size cX2_size 1 (some .int), Cond.fieldLink RX2 15 "GongTide$Page" "size" "I"]
def wsX5_count : List Cond := .code yX5_count cX5_count 2 (some .int) :: ((wsX5_count_r1 ++ (wsX5_count_r2 ++ (wsX5_count_r3 ++ (wsX5_count_r4 ++ wsX5_count_r5)))) ++ wsX50 ++ wsX00 ++ wsX30 ++ wsX40 ++ wsX10 ++ wsX20)
def wsX5_mix : List Cond := .code yX5_mix cX5_mix 4 (some .long) :: ([.constantLong RX5 239 (31)])
def wsX5_digestHouses_r1 : List Cond := [Cond.fieldLink RX5 65 "GongTide" "houseCount" "I", Cond.methodLink RX5 233 yX5_about, Cond.instanceMethod yX5_about, Cond.selects RX5 yX5_about yX5_about, Cond.initialized RX5, Cond.code yX5_about cX5_about 4 (some .int), Cond.fieldLink RX5 23 "GongTide" "affairs" "LGongTide$Affairs;", Cond.methodLink RX5 103 yX5_isHouse, Cond.instanceMethod yX5_isHouse, Cond.selects RX5 yX5_isHouse yX5_isHouse, Cond.code yX5_isHouse cX5_isHouse 2 (some .boolean), Cond.methodLink RX5 40 yX5_isWithin, Cond.static yX5_isWithin, Cond.code yX5_isWithin cX5_isWithin 3 (some .boolean), Cond.methodLink RX5 106 yX5_tideNow, Cond.instanceMethod yX5_tideNow, Cond.selects RX5 yX5_tideNow yX5_tideNow, Cond.code yX5_tideNow cX5_tideNow 3 (some (.object "GongTide$Tide")), Cond.fieldLink RX5 33 "GongTide" "now" "LGongTide$Tide;", Cond.fieldLink RX5 86 "GongTide$Affairs" "strokes" "LGongTide$Strokes;", Cond.methodLink RX5 241 yX4_clear, Cond.instanceMethod yX4_clear, Cond.selects RX4 yX4_clear yX4_clear, Cond.initialized RX4]
def wsX5_digestHouses_r2 : List Cond := [Cond.code yX4_clear cX4_clear 2 none, Cond.fieldLink RX4 9 "GongTide$Tide" "sums" "[I", Cond.methodLink RX5 141 yX3_size, Cond.instanceMethod yX3_size, Cond.selects RX3 yX3_size yX3_size, Cond.initialized RX3, Cond.code yX3_size cX3_size 1 (some .int), Cond.fieldLink RX3 18 "GongTide$Strokes" "size" "I", Cond.methodLink RX5 151 yX3_hour, Cond.instanceMethod yX3_hour, Cond.selects RX3 yX3_hour yX3_hour, Cond.code yX3_hour cX3_hour 2 (some .int), Cond.fieldLink RX3 9 "GongTide$Strokes" "hours" "[I", Cond.methodLink RX3 26 yX3_has, Cond.instanceMethod yX3_has, Cond.selects RX3 yX3_has yX3_has, Cond.code yX3_has cX3_has 2 (some .boolean), Cond.methodLink RX5 145 yX3_loud, Cond.instanceMethod yX3_loud, Cond.selects RX3 yX3_loud yX3_loud, Cond.code yX3_loud cX3_loud 2 (some .int), Cond.fieldLink RX3 15 "GongTide$Strokes" "louds" "[I", Cond.methodLink RX5 242 yX4_add, Cond.instanceMethod yX4_add]
def wsX5_digestHouses_r3 : List Cond := [Cond.selects RX4 yX4_add yX4_add, Cond.code yX4_add cX4_add 5 none, Cond.methodLink RX4 15 Lib.Math.max.name, Cond.static Lib.Math.max.name, Cond.initialized "java/lang/Math", Cond.code Lib.Math.max.name Lib.Math.max.code 2 (some .int), Cond.methodLink RX5 110 yX5_kindAt, Cond.instanceMethod yX5_kindAt, Cond.selects RX5 yX5_kindAt yX5_kindAt, Cond.code yX5_kindAt cX5_kindAt 2 (some .int), Cond.fieldLink RX5 16 "GongTide" "kinds" "[I", Cond.methodLink RX5 113 yX0_level, Cond.instanceMethod yX0_level, Cond.selects RX0 yX0_level yX0_level, Cond.initialized RX0, Cond.code yX0_level cX0_level 2 (some .int), Cond.fieldLink RX0 9 "GongTide$Affairs" "levels" "[I", Cond.methodLink RX5 116 yX5_hoursOf, Cond.instanceMethod yX5_hoursOf, Cond.selects RX5 yX5_hoursOf yX5_hoursOf, Cond.code yX5_hoursOf cX5_hoursOf 6 (some .int), Cond.methodLink RX5 124 yX5_mannersAt, Cond.instanceMethod yX5_mannersAt, Cond.selects RX5 yX5_mannersAt yX5_mannersAt]
def wsX5_digestHouses_r4 : List Cond := [Cond.code yX5_mannersAt cX5_mannersAt 6 (some .int), Cond.methodLink RX5 254 Lib.Math.max.name, Cond.methodLink RX5 262 Lib.Math.min.name, Cond.static Lib.Math.min.name, Cond.code Lib.Math.min.name Lib.Math.min.code 2 (some .int), Cond.methodLink RX5 137 yX4_at, Cond.instanceMethod yX4_at, Cond.selects RX4 yX4_at yX4_at, Cond.code yX4_at cX4_at 2 (some .int), Cond.methodLink RX4 21 Lib.Math.min.name, Cond.methodLink RX5 259 yX5_above, Cond.static yX5_above, Cond.code yX5_above cX5_above 2 (some .int), Cond.methodLink RX5 265 yX5_howAt, Cond.static yX5_howAt, Cond.code yX5_howAt cX5_howAt 1 (some .int), Cond.methodLink RX5 120 yX5_hourOfMostManners, Cond.instanceMethod yX5_hourOfMostManners, Cond.selects RX5 yX5_hourOfMostManners yX5_hourOfMostManners, Cond.code yX5_hourOfMostManners cX5_hourOfMostManners 5 (some .int), Cond.methodLink RX5 216 yX5_mix, Cond.static yX5_mix, Cond.code yX5_mix cX5_mix 4 (some .long), Cond.constantLong RX5 239 (31)]
def wsX5_digestHouses : List Cond := .code yX5_digestHouses cX5_digestHouses 7 (some .long) :: ((wsX5_digestHouses_r1 ++ (wsX5_digestHouses_r2 ++ (wsX5_digestHouses_r3 ++ wsX5_digestHouses_r4))) ++ wsX50 ++ wsX00 ++ wsX40 ++ wsX30)
def wsX5_digestStrokes_r1 : List Cond := [Cond.fieldLink RX5 23 "GongTide" "affairs" "LGongTide$Affairs;", Cond.fieldLink RX5 86 "GongTide$Affairs" "strokes" "LGongTide$Strokes;", Cond.methodLink RX5 141 yX3_size, Cond.instanceMethod yX3_size, Cond.selects RX3 yX3_size yX3_size, Cond.initialized RX3, Cond.code yX3_size cX3_size 1 (some .int), Cond.fieldLink RX3 18 "GongTide$Strokes" "size" "I", Cond.methodLink RX5 236 yX5_stroke, Cond.instanceMethod yX5_stroke, Cond.selects RX5 yX5_stroke yX5_stroke, Cond.initialized RX5, Cond.code yX5_stroke cX5_stroke 3 (some .int), Cond.methodLink RX5 142 yX3_has, Cond.instanceMethod yX3_has, Cond.selects RX3 yX3_has yX3_has, Cond.code yX3_has cX3_has 2 (some .boolean), Cond.static yX5_isWithin, Cond.code yX5_isWithin cX5_isWithin 3 (some .boolean), Cond.methodLink RX5 151 yX3_hour, Cond.instanceMethod yX3_hour, Cond.selects RX3 yX3_hour yX3_hour, Cond.code yX3_hour cX3_hour 2 (some .int), Cond.fieldLink RX3 9 "GongTide$Strokes" "hours" "[I"]
def wsX5_digestStrokes_r2 : List Cond := [Cond.methodLink RX3 26 yX3_has, Cond.methodLink RX5 145 yX3_loud, Cond.instanceMethod yX3_loud, Cond.selects RX3 yX3_loud yX3_loud, Cond.code yX3_loud cX3_loud 2 (some .int), Cond.fieldLink RX3 15 "GongTide$Strokes" "louds" "[I", Cond.methodLink RX5 154 yX3_goneAt, Cond.instanceMethod yX3_goneAt, Cond.selects RX3 yX3_goneAt yX3_goneAt, Cond.code yX3_goneAt cX3_goneAt 3 (some .int), Cond.methodLink RX3 30 yX3_hour, Cond.methodLink RX3 34 yX3_loud, Cond.methodLink RX5 216 yX5_mix, Cond.static yX5_mix, Cond.code yX5_mix cX5_mix 4 (some .long), Cond.constantLong RX5 239 (31)]
def wsX5_digestStrokes : List Cond := .code yX5_digestStrokes cX5_digestStrokes 7 (some .long) :: ((wsX5_digestStrokes_r1 ++ wsX5_digestStrokes_r2) ++ wsX50 ++ wsX00 ++ wsX30)
def wsX5_digest_r1 : List Cond := [Cond.constantLong RX5 204 (1091), Cond.fieldLink RX5 10 "GongTide" "page" "LGongTide$Page;", Cond.methodLink RX5 206 yX5_digestHouses, Cond.instanceMethod yX5_digestHouses, Cond.selects RX5 yX5_digestHouses yX5_digestHouses, Cond.initialized RX5, Cond.code yX5_digestHouses cX5_digestHouses 7 (some .long), Cond.fieldLink RX5 65 "GongTide" "houseCount" "I", Cond.methodLink RX5 233 yX5_about, Cond.instanceMethod yX5_about, Cond.selects RX5 yX5_about yX5_about, Cond.code yX5_about cX5_about 4 (some .int), Cond.fieldLink RX5 23 "GongTide" "affairs" "LGongTide$Affairs;", Cond.methodLink RX5 103 yX5_isHouse, Cond.instanceMethod yX5_isHouse, Cond.selects RX5 yX5_isHouse yX5_isHouse, Cond.code yX5_isHouse cX5_isHouse 2 (some .boolean), Cond.methodLink RX5 40 yX5_isWithin, Cond.static yX5_isWithin, Cond.code yX5_isWithin cX5_isWithin 3 (some .boolean), Cond.methodLink RX5 106 yX5_tideNow, Cond.instanceMethod yX5_tideNow, Cond.selects RX5 yX5_tideNow yX5_tideNow, Cond.code yX5_tideNow cX5_tideNow 3 (some (.object "GongTide$Tide"))]
def wsX5_digest_r2 : List Cond := [Cond.fieldLink RX5 33 "GongTide" "now" "LGongTide$Tide;", Cond.fieldLink RX5 86 "GongTide$Affairs" "strokes" "LGongTide$Strokes;", Cond.methodLink RX5 241 yX4_clear, Cond.instanceMethod yX4_clear, Cond.selects RX4 yX4_clear yX4_clear, Cond.initialized RX4, Cond.code yX4_clear cX4_clear 2 none, Cond.fieldLink RX4 9 "GongTide$Tide" "sums" "[I", Cond.methodLink RX5 141 yX3_size, Cond.instanceMethod yX3_size, Cond.selects RX3 yX3_size yX3_size, Cond.initialized RX3, Cond.code yX3_size cX3_size 1 (some .int), Cond.fieldLink RX3 18 "GongTide$Strokes" "size" "I", Cond.methodLink RX5 151 yX3_hour, Cond.instanceMethod yX3_hour, Cond.selects RX3 yX3_hour yX3_hour, Cond.code yX3_hour cX3_hour 2 (some .int), Cond.fieldLink RX3 9 "GongTide$Strokes" "hours" "[I", Cond.methodLink RX3 26 yX3_has, Cond.instanceMethod yX3_has, Cond.selects RX3 yX3_has yX3_has, Cond.code yX3_has cX3_has 2 (some .boolean), Cond.methodLink RX5 145 yX3_loud]
def wsX5_digest_r3 : List Cond := [Cond.instanceMethod yX3_loud, Cond.selects RX3 yX3_loud yX3_loud, Cond.code yX3_loud cX3_loud 2 (some .int), Cond.fieldLink RX3 15 "GongTide$Strokes" "louds" "[I", Cond.methodLink RX5 242 yX4_add, Cond.instanceMethod yX4_add, Cond.selects RX4 yX4_add yX4_add, Cond.code yX4_add cX4_add 5 none, Cond.methodLink RX4 15 Lib.Math.max.name, Cond.static Lib.Math.max.name, Cond.initialized "java/lang/Math", Cond.code Lib.Math.max.name Lib.Math.max.code 2 (some .int), Cond.methodLink RX5 110 yX5_kindAt, Cond.instanceMethod yX5_kindAt, Cond.selects RX5 yX5_kindAt yX5_kindAt, Cond.code yX5_kindAt cX5_kindAt 2 (some .int), Cond.fieldLink RX5 16 "GongTide" "kinds" "[I", Cond.methodLink RX5 113 yX0_level, Cond.instanceMethod yX0_level, Cond.selects RX0 yX0_level yX0_level, Cond.initialized RX0, Cond.code yX0_level cX0_level 2 (some .int), Cond.fieldLink RX0 9 "GongTide$Affairs" "levels" "[I", Cond.methodLink RX5 116 yX5_hoursOf]
def wsX5_digest_r4 : List Cond := [Cond.instanceMethod yX5_hoursOf, Cond.selects RX5 yX5_hoursOf yX5_hoursOf, Cond.code yX5_hoursOf cX5_hoursOf 6 (some .int), Cond.methodLink RX5 124 yX5_mannersAt, Cond.instanceMethod yX5_mannersAt, Cond.selects RX5 yX5_mannersAt yX5_mannersAt, Cond.code yX5_mannersAt cX5_mannersAt 6 (some .int), Cond.methodLink RX5 254 Lib.Math.max.name, Cond.methodLink RX5 262 Lib.Math.min.name, Cond.static Lib.Math.min.name, Cond.code Lib.Math.min.name Lib.Math.min.code 2 (some .int), Cond.methodLink RX5 137 yX4_at, Cond.instanceMethod yX4_at, Cond.selects RX4 yX4_at yX4_at, Cond.code yX4_at cX4_at 2 (some .int), Cond.methodLink RX4 21 Lib.Math.min.name, Cond.methodLink RX5 259 yX5_above, Cond.static yX5_above, Cond.code yX5_above cX5_above 2 (some .int), Cond.methodLink RX5 265 yX5_howAt, Cond.static yX5_howAt, Cond.code yX5_howAt cX5_howAt 1 (some .int), Cond.methodLink RX5 120 yX5_hourOfMostManners, Cond.instanceMethod yX5_hourOfMostManners]
def wsX5_digest_r5 : List Cond := [Cond.selects RX5 yX5_hourOfMostManners yX5_hourOfMostManners, Cond.code yX5_hourOfMostManners cX5_hourOfMostManners 5 (some .int), Cond.methodLink RX5 216 yX5_mix, Cond.static yX5_mix, Cond.code yX5_mix cX5_mix 4 (some .long), Cond.constantLong RX5 239 (31), Cond.methodLink RX5 210 yX5_digestStrokes, Cond.instanceMethod yX5_digestStrokes, Cond.selects RX5 yX5_digestStrokes yX5_digestStrokes, Cond.code yX5_digestStrokes cX5_digestStrokes 7 (some .long), Cond.methodLink RX5 236 yX5_stroke, Cond.instanceMethod yX5_stroke, Cond.selects RX5 yX5_stroke yX5_stroke, Cond.code yX5_stroke cX5_stroke 3 (some .int), Cond.methodLink RX5 142 yX3_has, Cond.methodLink RX5 154 yX3_goneAt, Cond.instanceMethod yX3_goneAt, Cond.selects RX3 yX3_goneAt yX3_goneAt, Cond.code yX3_goneAt cX3_goneAt 3 (some .int), Cond.methodLink RX3 30 yX3_hour, Cond.methodLink RX3 34 yX3_loud, Cond.methodLink RX5 134 yX5_hasColony, Cond.instanceMethod yX5_hasColony, Cond.selects RX5 yX5_hasColony yX5_hasColony]
def wsX5_digest_r6 : List Cond := [Cond.code yX5_hasColony cX5_hasColony 1 (some .boolean), Cond.methodLink RX5 213 yX5_tide, Cond.instanceMethod yX5_tide, Cond.selects RX5 yX5_tide yX5_tide, Cond.code yX5_tide cX5_tide 2 (some .int), Cond.methodLink RX5 131 yX5_isHourOfDay, Cond.static yX5_isHourOfDay, Cond.code yX5_isHourOfDay cX5_isHourOfDay 1 (some .boolean), Cond.methodLink RX5 157 yX5_allHouses, Cond.instanceMethod yX5_allHouses, Cond.selects RX5 yX5_allHouses yX5_allHouses, Cond.code yX5_allHouses cX5_allHouses 1 (some .int), Cond.methodLink RX5 220 yX5_dinner, Cond.instanceMethod yX5_dinner, Cond.selects RX5 yX5_dinner yX5_dinner, Cond.code yX5_dinner cX5_dinner 5 (some .int), Cond.methodLink RX5 160 yX5_canDine, Cond.instanceMethod yX5_canDine, Cond.selects RX5 yX5_canDine yX5_canDine, Cond.code yX5_canDine cX5_canDine 8 (some .boolean), Cond.methodLink RX5 224 yX5_best, Cond.instanceMethod yX5_best, Cond.selects RX5 yX5_best yX5_best, Cond.code yX5_best cX5_best 8 (some .int)]
def wsX5_digest_r7 : List Cond := [Cond.methodLink RX5 138 yX5_isHeardLoud, Cond.static yX5_isHeardLoud, Cond.code yX5_isHeardLoud cX5_isHeardLoud 1 (some .boolean), Cond.methodLink RX5 164 yX5_suppose, Cond.instanceMethod yX5_suppose, Cond.selects RX5 yX5_suppose yX5_suppose, Cond.code yX5_suppose cX5_suppose 4 (some (.object "GongTide$Tide")), Cond.fieldLink RX5 37 "GongTide" "supposed" "LGongTide$Tide;", Cond.methodLink RX5 244 yX4_copyFrom, Cond.instanceMethod yX4_copyFrom, Cond.selects RX4 yX4_copyFrom yX4_copyFrom, Cond.code yX4_copyFrom cX4_copyFrom 3 none, Cond.methodLink RX5 168 yX5_hoursOfAll, Cond.instanceMethod yX5_hoursOfAll, Cond.selects RX5 yX5_hoursOfAll yX5_hoursOfAll, Cond.code yX5_hoursOfAll cX5_hoursOfAll 5 (some .int), Cond.methodLink RX5 187 yX5_hours, Cond.instanceMethod yX5_hours, Cond.selects RX5 yX5_hours yX5_hours, Cond.code yX5_hours cX5_hours 4 (some .int), Cond.methodLink RX5 183 yX5_agreesWithHeard, Cond.instanceMethod yX5_agreesWithHeard, Cond.selects RX5 yX5_agreesWithHeard yX5_agreesWithHeard, Cond.code yX5_agreesWithHeard cX5_agreesWithHeard 7 (some .boolean)]
def wsX5_digest_r8 : List Cond := [Cond.fieldLink RX5 171 "GongTide$Affairs" "heard" "LGongTide$Heard;", Cond.methodLink RX5 180 yX1_size, Cond.instanceMethod yX1_size, Cond.selects RX1 yX1_size yX1_size, Cond.initialized RX1, Cond.code yX1_size cX1_size 1 (some .int), Cond.fieldLink RX1 24 "GongTide$Heard" "size" "I", Cond.methodLink RX5 268 yX1_loud, Cond.instanceMethod yX1_loud, Cond.selects RX1 yX1_loud yX1_loud, Cond.code yX1_loud cX1_loud 2 (some .int), Cond.fieldLink RX1 18 "GongTide$Heard" "louds" "[I", Cond.methodLink RX1 32 yX1_has, Cond.instanceMethod yX1_has, Cond.selects RX1 yX1_has yX1_has, Cond.code yX1_has cX1_has 2 (some .boolean), Cond.methodLink RX5 269 yX1_house, Cond.instanceMethod yX1_house, Cond.selects RX1 yX1_house yX1_house, Cond.code yX1_house cX1_house 2 (some .int), Cond.fieldLink RX1 9 "GongTide$Heard" "houses" "[I", Cond.methodLink RX5 272 yX1_hour, Cond.instanceMethod yX1_hour, Cond.selects RX1 yX1_hour yX1_hour]
def wsX5_digest_r9 : List Cond := [Cond.code yX1_hour cX1_hour 2 (some .int), Cond.fieldLink RX1 15 "GongTide$Heard" "hours" "[I", Cond.methodLink RX5 273 yX1_how, Cond.instanceMethod yX1_how, Cond.selects RX1 yX1_how yX1_how, Cond.code yX1_how cX1_how 2 (some .int), Cond.fieldLink RX1 21 "GongTide$Heard" "hows" "[I", Cond.methodLink RX5 227 yX5_ask, Cond.instanceMethod yX5_ask, Cond.selects RX5 yX5_ask yX5_ask, Cond.code yX5_ask cX5_ask 8 (some .int), Cond.methodLink RX5 190 yX5_mostLeft, Cond.instanceMethod yX5_mostLeft, Cond.selects RX5 yX5_mostLeft yX5_mostLeft, Cond.code yX5_mostLeft cX5_mostLeft 10 (some .int), Cond.methodLink RX5 276 yX1_lastLoud, Cond.instanceMethod yX1_lastLoud, Cond.selects RX1 yX1_lastLoud yX1_lastLoud, Cond.code yX1_lastLoud cX1_lastLoud 1 (some .int), Cond.methodLink RX1 36 yX1_loud, Cond.methodLink RX5 48 yX2_size, Cond.instanceMethod yX2_size, Cond.selects RX2 yX2_size yX2_size, Cond.initialized RX2]
def wsX5_digest_r10 : List Cond := [Cond.code yX2_size cX2_size 1 (some .int), Cond.fieldLink RX2 15 "GongTide$Page" "size" "I", Cond.methodLink RX5 72 yX2_at, Cond.instanceMethod yX2_at, Cond.selects RX2 yX2_at yX2_at, Cond.code yX2_at cX2_at 2 (some .int), Cond.fieldLink RX2 9 "GongTide$Page" "codes" "[I", Cond.methodLink RX5 230 yX5_count, Cond.instanceMethod yX5_count, Cond.selects RX5 yX5_count yX5_count, Cond.code yX5_count cX5_count 2 (some .int), Cond.fieldLink RX5 128 "GongTide$Affairs" "changes" "I", Cond.fieldLink RX5 100 "GongTide" "readings" "I", Cond.methodLink RX5 201 yX4_greatest, Cond.instanceMethod yX4_greatest, Cond.selects RX4 yX4_greatest yX4_greatest, Cond.code yX4_greatest cX4_greatest 3 (some .int), Cond.methodLink RX4 24 yX4_at]
def wsX5_digest : List Cond := .code yX5_digest cX5_digest 4 (some .long) :: ((wsX5_digest_r1 ++ (wsX5_digest_r2 ++ (wsX5_digest_r3 ++ (wsX5_digest_r4 ++ (wsX5_digest_r5 ++ (wsX5_digest_r6 ++ (wsX5_digest_r7 ++ (wsX5_digest_r8 ++ (wsX5_digest_r9 ++ wsX5_digest_r10))))))))) ++ wsX50 ++ wsX00 ++ wsX40 ++ wsX30 ++ wsX10 ++ wsX20)
def wsX6_init : List Cond := .code yX6_init cX6_init 1 none :: ([.methodLink RX6 1 objectInit, .instanceMethod objectInit, .code objectInit ⟨#[0xb1]⟩ 1 none, .arrayClass .int, .fieldLink RX6 7 "GongTideModel" "kindOf" "[I", .fieldLink RX6 13 "GongTideModel" "levelOf" "[I", .fieldLink RX6 16 "GongTideModel" "hourOf" "[I", .fieldLink RX6 19 "GongTideModel" "loudOf" "[I", .fieldLink RX6 22 "GongTideModel" "heardHouse" "[I", .fieldLink RX6 25 "GongTideModel" "heardHour" "[I", .fieldLink RX6 28 "GongTideModel" "heardLoud" "[I", .fieldLink RX6 31 "GongTideModel" "heardHow" "[I", .arrayClass .byte, .fieldLink RX6 34 "GongTideModel" "page" "[B", .fieldLink RX6 38 "GongTideModel" "savedHour" "[I", .fieldLink RX6 41 "GongTideModel" "keptLevel" "[I", .fieldLink RX6 44 "GongTideModel" "keptHour" "[I", .fieldLink RX6 47 "GongTideModel" "keptLoud" "[I", .fieldLink RX6 50 "GongTideModel" "keptHouse" "[I", .fieldLink RX6 53 "GongTideModel" "keptHeardHour" "[I", .fieldLink RX6 56 "GongTideModel" "keptHeardLoud" "[I", .fieldLink RX6 59 "GongTideModel" "keptHow" "[I"] ++ wsX60)
def wsX6_within : List Cond := .code yX6_within cX6_within 3 (some .boolean) :: ([])
def wsX6_isIn : List Cond := .code yX6_isIn cX6_isIn 2 (some .boolean) :: ([])
def wsX6_letter : List Cond := .code yX6_letter cX6_letter 2 (some .int) :: ([.fieldLink RX6 66 "GongTideModel" "pageLength" "I", .fieldLink RX6 34 "GongTideModel" "page" "[B", .methodLink RX6 62 yX6_within, .static yX6_within, .initialized RX6, .code yX6_within cX6_within 3 (some .boolean)] ++ wsX60)
def wsX6_blank : List Cond := .code yX6_blank cX6_blank 2 (some .int) :: ([.fieldLink RX6 66 "GongTideModel" "pageLength" "I"] ++ wsX60)
def wsX6_kindBy : List Cond := .code yX6_kindBy cX6_kindBy 1 (some .int) :: ([])
def wsX6_figure : List Cond := .code yX6_figure cX6_figure 2 (some .int) :: ([.fieldLink RX6 66 "GongTideModel" "pageLength" "I", .fieldLink RX6 34 "GongTideModel" "page" "[B"] ++ wsX60)
def wsX6_readStrokes : List Cond := .code yX6_readStrokes cX6_readStrokes 3 (some .int) :: ([.fieldLink RX6 70 "GongTideModel" "newStrokes" "I", .fieldLink RX6 66 "GongTideModel" "pageLength" "I", .fieldLink RX6 73 "GongTideModel" "isWhole" "Z", .methodLink RX6 77 yX6_figure, .instanceMethod yX6_figure, .selects RX6 yX6_figure yX6_figure, .initialized RX6, .code yX6_figure cX6_figure 2 (some .int), .fieldLink RX6 34 "GongTideModel" "page" "[B", .methodLink RX6 62 yX6_within, .static yX6_within, .code yX6_within cX6_within 3 (some .boolean)] ++ wsX60)
def wsX6_read : List Cond := .code yX6_read cX6_read 2 (some .int) :: ([.fieldLink RX6 73 "GongTideModel" "isWhole" "Z", .fieldLink RX6 81 "GongTideModel" "newHouses" "I", .fieldLink RX6 70 "GongTideModel" "newStrokes" "I", .fieldLink RX6 66 "GongTideModel" "pageLength" "I", .fieldLink RX6 34 "GongTideModel" "page" "[B", .methodLink RX6 84 yX6_kindBy, .static yX6_kindBy, .initialized RX6, .code yX6_kindBy cX6_kindBy 1 (some .int), .methodLink RX6 77 yX6_figure, .instanceMethod yX6_figure, .selects RX6 yX6_figure yX6_figure, .code yX6_figure cX6_figure 2 (some .int), .methodLink RX6 62 yX6_within, .static yX6_within, .code yX6_within cX6_within 3 (some .boolean), .methodLink RX6 87 yX6_readStrokes, .instanceMethod yX6_readStrokes, .selects RX6 yX6_readStrokes yX6_readStrokes, .code yX6_readStrokes cX6_readStrokes 3 (some .int)] ++ wsX60)
def wsX6_fault : List Cond := .code yX6_fault cX6_fault 1 (some .int) :: ([.methodLink RX6 90 yX6_read, .instanceMethod yX6_read, .selects RX6 yX6_read yX6_read, .initialized RX6, .code yX6_read cX6_read 2 (some .int), .fieldLink RX6 73 "GongTideModel" "isWhole" "Z", .fieldLink RX6 81 "GongTideModel" "newHouses" "I", .fieldLink RX6 70 "GongTideModel" "newStrokes" "I", .fieldLink RX6 66 "GongTideModel" "pageLength" "I", .fieldLink RX6 34 "GongTideModel" "page" "[B", .methodLink RX6 84 yX6_kindBy, .static yX6_kindBy, .code yX6_kindBy cX6_kindBy 1 (some .int), .methodLink RX6 77 yX6_figure, .instanceMethod yX6_figure, .selects RX6 yX6_figure yX6_figure, .code yX6_figure cX6_figure 2 (some .int), .methodLink RX6 62 yX6_within, .static yX6_within, .code yX6_within cX6_within 3 (some .boolean), .methodLink RX6 87 yX6_readStrokes, .instanceMethod yX6_readStrokes, .selects RX6 yX6_readStrokes yX6_readStrokes, .code yX6_readStrokes cX6_readStrokes 3 (some .int)] ++ wsX60)
def wsX6_colony_r1 : List Cond := [Cond.fieldLink RX6 73 "GongTideModel" "isWhole" "Z", Cond.fieldLink RX6 81 "GongTideModel" "newHouses" "I", Cond.fieldLink RX6 94 "GongTideModel" "houses" "I", Cond.fieldLink RX6 70 "GongTideModel" "newStrokes" "I", Cond.fieldLink RX6 97 "GongTideModel" "strokes" "I", Cond.fieldLink RX6 7 "GongTideModel" "kindOf" "[I", Cond.fieldLink RX6 34 "GongTideModel" "page" "[B", Cond.fieldLink RX6 13 "GongTideModel" "levelOf" "[I", Cond.fieldLink RX6 16 "GongTideModel" "hourOf" "[I", Cond.fieldLink RX6 19 "GongTideModel" "loudOf" "[I", Cond.fieldLink RX6 100 "GongTideModel" "colonies" "I", Cond.fieldLink RX6 103 "GongTideModel" "changes" "I", Cond.fieldLink RX6 106 "GongTideModel" "heard" "I", Cond.fieldLink RX6 66 "GongTideModel" "pageLength" "I", Cond.methodLink RX6 90 yX6_read, Cond.instanceMethod yX6_read, Cond.selects RX6 yX6_read yX6_read, Cond.initialized RX6, Cond.code yX6_read cX6_read 2 (some .int), Cond.methodLink RX6 84 yX6_kindBy, Cond.static yX6_kindBy, Cond.code yX6_kindBy cX6_kindBy 1 (some .int), Cond.methodLink RX6 77 yX6_figure, Cond.instanceMethod yX6_figure]
def wsX6_colony_r2 : List Cond := [Cond.selects RX6 yX6_figure yX6_figure, Cond.code yX6_figure cX6_figure 2 (some .int), Cond.methodLink RX6 62 yX6_within, Cond.static yX6_within, Cond.code yX6_within cX6_within 3 (some .boolean), Cond.methodLink RX6 87 yX6_readStrokes, Cond.instanceMethod yX6_readStrokes, Cond.selects RX6 yX6_readStrokes yX6_readStrokes, Cond.code yX6_readStrokes cX6_readStrokes 3 (some .int)]
def wsX6_colony : List Cond := .code yX6_colony cX6_colony 2 (some .int) :: ((wsX6_colony_r1 ++ wsX6_colony_r2) ++ wsX60)
def wsX6_isHouse : List Cond := .code yX6_isHouse cX6_isHouse 2 (some .boolean) :: ([.fieldLink RX6 94 "GongTideModel" "houses" "I", .methodLink RX6 62 yX6_within, .static yX6_within, .initialized RX6, .code yX6_within cX6_within 3 (some .boolean)] ++ wsX60)
def wsX6_isStroke : List Cond := .code yX6_isStroke cX6_isStroke 2 (some .boolean) :: ([.fieldLink RX6 97 "GongTideModel" "strokes" "I", .methodLink RX6 62 yX6_within, .static yX6_within, .initialized RX6, .code yX6_within cX6_within 3 (some .boolean)] ++ wsX60)
def wsX6_isHour : List Cond := .code yX6_isHour cX6_isHour 1 (some .boolean) :: ([.methodLink RX6 62 yX6_within, .static yX6_within, .initialized RX6, .code yX6_within cX6_within 3 (some .boolean)])
def wsX6_tideAt : List Cond := .code yX6_tideAt cX6_tideAt 6 (some .int) :: ([.fieldLink RX6 97 "GongTideModel" "strokes" "I", .fieldLink RX6 109 "GongTideModel" "thought" "I", .fieldLink RX6 16 "GongTideModel" "hourOf" "[I", .fieldLink RX6 19 "GongTideModel" "loudOf" "[I"] ++ wsX60)
def wsX6_tideBefore : List Cond := .code yX6_tideBefore cX6_tideBefore 2 (some .int) :: ([.methodLink RX6 112 yX6_tideAt, .instanceMethod yX6_tideAt, .selects RX6 yX6_tideAt yX6_tideAt, .initialized RX6, .code yX6_tideAt cX6_tideAt 6 (some .int), .fieldLink RX6 97 "GongTideModel" "strokes" "I", .fieldLink RX6 109 "GongTideModel" "thought" "I", .fieldLink RX6 16 "GongTideModel" "hourOf" "[I", .fieldLink RX6 19 "GongTideModel" "loudOf" "[I"] ++ wsX60)
def wsX6_less : List Cond := .code yX6_less cX6_less 2 (some .int) :: ([])
def wsX6_mannersAt : List Cond := .code yX6_mannersAt cX6_mannersAt 4 (some .int) :: ([.fieldLink RX6 13 "GongTideModel" "levelOf" "[I", .fieldLink RX6 7 "GongTideModel" "kindOf" "[I", .methodLink RX6 112 yX6_tideAt, .instanceMethod yX6_tideAt, .selects RX6 yX6_tideAt yX6_tideAt, .initialized RX6, .code yX6_tideAt cX6_tideAt 6 (some .int), .fieldLink RX6 97 "GongTideModel" "strokes" "I", .fieldLink RX6 109 "GongTideModel" "thought" "I", .fieldLink RX6 16 "GongTideModel" "hourOf" "[I", .fieldLink RX6 19 "GongTideModel" "loudOf" "[I", .methodLink RX6 115 yX6_less, .static yX6_less, .code yX6_less cX6_less 2 (some .int), .methodLink RX6 119 yX6_tideBefore, .instanceMethod yX6_tideBefore, .selects RX6 yX6_tideBefore yX6_tideBefore, .code yX6_tideBefore cX6_tideBefore 2 (some .int)] ++ wsX60)
def wsX6_howAt : List Cond := .code yX6_howAt cX6_howAt 4 (some .int) :: ([.methodLink RX6 122 yX6_mannersAt, .instanceMethod yX6_mannersAt, .selects RX6 yX6_mannersAt yX6_mannersAt, .initialized RX6, .code yX6_mannersAt cX6_mannersAt 4 (some .int), .fieldLink RX6 13 "GongTideModel" "levelOf" "[I", .fieldLink RX6 7 "GongTideModel" "kindOf" "[I", .methodLink RX6 112 yX6_tideAt, .instanceMethod yX6_tideAt, .selects RX6 yX6_tideAt yX6_tideAt, .code yX6_tideAt cX6_tideAt 6 (some .int), .fieldLink RX6 97 "GongTideModel" "strokes" "I", .fieldLink RX6 109 "GongTideModel" "thought" "I", .fieldLink RX6 16 "GongTideModel" "hourOf" "[I", .fieldLink RX6 19 "GongTideModel" "loudOf" "[I", .methodLink RX6 115 yX6_less, .static yX6_less, .code yX6_less cX6_less 2 (some .int), .methodLink RX6 119 yX6_tideBefore, .instanceMethod yX6_tideBefore, .selects RX6 yX6_tideBefore yX6_tideBefore, .code yX6_tideBefore cX6_tideBefore 2 (some .int)] ++ wsX60)
def wsX6_hoursOf_r1 : List Cond := [Cond.methodLink RX6 125 yX6_howAt, Cond.instanceMethod yX6_howAt, Cond.selects RX6 yX6_howAt yX6_howAt, Cond.initialized RX6, Cond.code yX6_howAt cX6_howAt 4 (some .int), Cond.methodLink RX6 122 yX6_mannersAt, Cond.instanceMethod yX6_mannersAt, Cond.selects RX6 yX6_mannersAt yX6_mannersAt, Cond.code yX6_mannersAt cX6_mannersAt 4 (some .int), Cond.fieldLink RX6 13 "GongTideModel" "levelOf" "[I", Cond.fieldLink RX6 7 "GongTideModel" "kindOf" "[I", Cond.methodLink RX6 112 yX6_tideAt, Cond.instanceMethod yX6_tideAt, Cond.selects RX6 yX6_tideAt yX6_tideAt, Cond.code yX6_tideAt cX6_tideAt 6 (some .int), Cond.fieldLink RX6 97 "GongTideModel" "strokes" "I", Cond.fieldLink RX6 109 "GongTideModel" "thought" "I", Cond.fieldLink RX6 16 "GongTideModel" "hourOf" "[I", Cond.fieldLink RX6 19 "GongTideModel" "loudOf" "[I", Cond.methodLink RX6 115 yX6_less, Cond.static yX6_less, Cond.code yX6_less cX6_less 2 (some .int), Cond.methodLink RX6 119 yX6_tideBefore, Cond.instanceMethod yX6_tideBefore]
def wsX6_hoursOf_r2 : List Cond := [Cond.selects RX6 yX6_tideBefore yX6_tideBefore, Cond.code yX6_tideBefore cX6_tideBefore 2 (some .int)]
def wsX6_hoursOf : List Cond := .code yX6_hoursOf cX6_hoursOf 5 (some .int) :: ((wsX6_hoursOf_r1 ++ wsX6_hoursOf_r2) ++ wsX60)
def wsX6_hoursAll_r1 : List Cond := [Cond.fieldLink RX6 94 "GongTideModel" "houses" "I", Cond.methodLink RX6 128 yX6_hoursOf, Cond.instanceMethod yX6_hoursOf, Cond.selects RX6 yX6_hoursOf yX6_hoursOf, Cond.initialized RX6, Cond.code yX6_hoursOf cX6_hoursOf 5 (some .int), Cond.methodLink RX6 125 yX6_howAt, Cond.instanceMethod yX6_howAt, Cond.selects RX6 yX6_howAt yX6_howAt, Cond.code yX6_howAt cX6_howAt 4 (some .int), Cond.methodLink RX6 122 yX6_mannersAt, Cond.instanceMethod yX6_mannersAt, Cond.selects RX6 yX6_mannersAt yX6_mannersAt, Cond.code yX6_mannersAt cX6_mannersAt 4 (some .int), Cond.fieldLink RX6 13 "GongTideModel" "levelOf" "[I", Cond.fieldLink RX6 7 "GongTideModel" "kindOf" "[I", Cond.methodLink RX6 112 yX6_tideAt, Cond.instanceMethod yX6_tideAt, Cond.selects RX6 yX6_tideAt yX6_tideAt, Cond.code yX6_tideAt cX6_tideAt 6 (some .int), Cond.fieldLink RX6 97 "GongTideModel" "strokes" "I", Cond.fieldLink RX6 109 "GongTideModel" "thought" "I", Cond.fieldLink RX6 16 "GongTideModel" "hourOf" "[I", Cond.fieldLink RX6 19 "GongTideModel" "loudOf" "[I"]
def wsX6_hoursAll_r2 : List Cond := [Cond.methodLink RX6 115 yX6_less, Cond.static yX6_less, Cond.code yX6_less cX6_less 2 (some .int), Cond.methodLink RX6 119 yX6_tideBefore, Cond.instanceMethod yX6_tideBefore, Cond.selects RX6 yX6_tideBefore yX6_tideBefore, Cond.code yX6_tideBefore cX6_tideBefore 2 (some .int)]
def wsX6_hoursAll : List Cond := .code yX6_hoursAll cX6_hoursAll 4 (some .int) :: ((wsX6_hoursAll_r1 ++ wsX6_hoursAll_r2) ++ wsX60)
def wsX6_greatestHour : List Cond := .code yX6_greatestHour cX6_greatestHour 4 (some .int) :: ([.methodLink RX6 122 yX6_mannersAt, .instanceMethod yX6_mannersAt, .selects RX6 yX6_mannersAt yX6_mannersAt, .initialized RX6, .code yX6_mannersAt cX6_mannersAt 4 (some .int), .fieldLink RX6 13 "GongTideModel" "levelOf" "[I", .fieldLink RX6 7 "GongTideModel" "kindOf" "[I", .methodLink RX6 112 yX6_tideAt, .instanceMethod yX6_tideAt, .selects RX6 yX6_tideAt yX6_tideAt, .code yX6_tideAt cX6_tideAt 6 (some .int), .fieldLink RX6 97 "GongTideModel" "strokes" "I", .fieldLink RX6 109 "GongTideModel" "thought" "I", .fieldLink RX6 16 "GongTideModel" "hourOf" "[I", .fieldLink RX6 19 "GongTideModel" "loudOf" "[I", .methodLink RX6 115 yX6_less, .static yX6_less, .code yX6_less cX6_less 2 (some .int), .methodLink RX6 119 yX6_tideBefore, .instanceMethod yX6_tideBefore, .selects RX6 yX6_tideBefore yX6_tideBefore, .code yX6_tideBefore cX6_tideBefore 2 (some .int)] ++ wsX60)
def wsX6_houseNow_r1 : List Cond := [Cond.fieldLink RX6 7 "GongTideModel" "kindOf" "[I", Cond.fieldLink RX6 13 "GongTideModel" "levelOf" "[I", Cond.methodLink RX6 128 yX6_hoursOf, Cond.instanceMethod yX6_hoursOf, Cond.selects RX6 yX6_hoursOf yX6_hoursOf, Cond.initialized RX6, Cond.code yX6_hoursOf cX6_hoursOf 5 (some .int), Cond.methodLink RX6 125 yX6_howAt, Cond.instanceMethod yX6_howAt, Cond.selects RX6 yX6_howAt yX6_howAt, Cond.code yX6_howAt cX6_howAt 4 (some .int), Cond.methodLink RX6 122 yX6_mannersAt, Cond.instanceMethod yX6_mannersAt, Cond.selects RX6 yX6_mannersAt yX6_mannersAt, Cond.code yX6_mannersAt cX6_mannersAt 4 (some .int), Cond.methodLink RX6 112 yX6_tideAt, Cond.instanceMethod yX6_tideAt, Cond.selects RX6 yX6_tideAt yX6_tideAt, Cond.code yX6_tideAt cX6_tideAt 6 (some .int), Cond.fieldLink RX6 97 "GongTideModel" "strokes" "I", Cond.fieldLink RX6 109 "GongTideModel" "thought" "I", Cond.fieldLink RX6 16 "GongTideModel" "hourOf" "[I", Cond.fieldLink RX6 19 "GongTideModel" "loudOf" "[I", Cond.methodLink RX6 115 yX6_less]
def wsX6_houseNow_r2 : List Cond := [Cond.static yX6_less, Cond.code yX6_less cX6_less 2 (some .int), Cond.methodLink RX6 119 yX6_tideBefore, Cond.instanceMethod yX6_tideBefore, Cond.selects RX6 yX6_tideBefore yX6_tideBefore, Cond.code yX6_tideBefore cX6_tideBefore 2 (some .int), Cond.methodLink RX6 131 yX6_greatestHour, Cond.instanceMethod yX6_greatestHour, Cond.selects RX6 yX6_greatestHour yX6_greatestHour, Cond.code yX6_greatestHour cX6_greatestHour 4 (some .int)]
def wsX6_houseNow : List Cond := .code yX6_houseNow cX6_houseNow 3 (some .int) :: ((wsX6_houseNow_r1 ++ wsX6_houseNow_r2) ++ wsX60)
def wsX6_about_r1 : List Cond := [Cond.methodLink RX6 134 yX6_isHouse, Cond.instanceMethod yX6_isHouse, Cond.selects RX6 yX6_isHouse yX6_isHouse, Cond.initialized RX6, Cond.code yX6_isHouse cX6_isHouse 2 (some .boolean), Cond.fieldLink RX6 94 "GongTideModel" "houses" "I", Cond.methodLink RX6 62 yX6_within, Cond.static yX6_within, Cond.code yX6_within cX6_within 3 (some .boolean), Cond.methodLink RX6 138 yX6_houseNow, Cond.instanceMethod yX6_houseNow, Cond.selects RX6 yX6_houseNow yX6_houseNow, Cond.code yX6_houseNow cX6_houseNow 3 (some .int), Cond.fieldLink RX6 7 "GongTideModel" "kindOf" "[I", Cond.fieldLink RX6 13 "GongTideModel" "levelOf" "[I", Cond.methodLink RX6 128 yX6_hoursOf, Cond.instanceMethod yX6_hoursOf, Cond.selects RX6 yX6_hoursOf yX6_hoursOf, Cond.code yX6_hoursOf cX6_hoursOf 5 (some .int), Cond.methodLink RX6 125 yX6_howAt, Cond.instanceMethod yX6_howAt, Cond.selects RX6 yX6_howAt yX6_howAt, Cond.code yX6_howAt cX6_howAt 4 (some .int), Cond.methodLink RX6 122 yX6_mannersAt]
def wsX6_about_r2 : List Cond := [Cond.instanceMethod yX6_mannersAt, Cond.selects RX6 yX6_mannersAt yX6_mannersAt, Cond.code yX6_mannersAt cX6_mannersAt 4 (some .int), Cond.methodLink RX6 112 yX6_tideAt, Cond.instanceMethod yX6_tideAt, Cond.selects RX6 yX6_tideAt yX6_tideAt, Cond.code yX6_tideAt cX6_tideAt 6 (some .int), Cond.fieldLink RX6 97 "GongTideModel" "strokes" "I", Cond.fieldLink RX6 109 "GongTideModel" "thought" "I", Cond.fieldLink RX6 16 "GongTideModel" "hourOf" "[I", Cond.fieldLink RX6 19 "GongTideModel" "loudOf" "[I", Cond.methodLink RX6 115 yX6_less, Cond.static yX6_less, Cond.code yX6_less cX6_less 2 (some .int), Cond.methodLink RX6 119 yX6_tideBefore, Cond.instanceMethod yX6_tideBefore, Cond.selects RX6 yX6_tideBefore yX6_tideBefore, Cond.code yX6_tideBefore cX6_tideBefore 2 (some .int), Cond.methodLink RX6 131 yX6_greatestHour, Cond.instanceMethod yX6_greatestHour, Cond.selects RX6 yX6_greatestHour yX6_greatestHour, Cond.code yX6_greatestHour cX6_greatestHour 4 (some .int)]
def wsX6_about : List Cond := .code yX6_about cX6_about 3 (some .int) :: ((wsX6_about_r1 ++ wsX6_about_r2) ++ wsX60)
def wsX6_as : List Cond := .code yX6_as cX6_as 4 (some .int) :: ([.fieldLink RX6 7 "GongTideModel" "kindOf" "[I", .methodLink RX6 134 yX6_isHouse, .instanceMethod yX6_isHouse, .selects RX6 yX6_isHouse yX6_isHouse, .initialized RX6, .code yX6_isHouse cX6_isHouse 2 (some .boolean), .fieldLink RX6 94 "GongTideModel" "houses" "I", .methodLink RX6 62 yX6_within, .static yX6_within, .code yX6_within cX6_within 3 (some .boolean)] ++ wsX60)
def wsX6_raise : List Cond := .code yX6_raise cX6_raise 4 (some .int) :: ([.fieldLink RX6 13 "GongTideModel" "levelOf" "[I", .fieldLink RX6 103 "GongTideModel" "changes" "I", .methodLink RX6 134 yX6_isHouse, .instanceMethod yX6_isHouse, .selects RX6 yX6_isHouse yX6_isHouse, .initialized RX6, .code yX6_isHouse cX6_isHouse 2 (some .boolean), .fieldLink RX6 94 "GongTideModel" "houses" "I", .methodLink RX6 62 yX6_within, .static yX6_within, .code yX6_within cX6_within 3 (some .boolean)] ++ wsX60)
def wsX6_tide : List Cond := .code yX6_tide cX6_tide 2 (some .int) :: ([.fieldLink RX6 94 "GongTideModel" "houses" "I", .methodLink RX6 141 yX6_isHour, .static yX6_isHour, .initialized RX6, .code yX6_isHour cX6_isHour 1 (some .boolean), .methodLink RX6 62 yX6_within, .static yX6_within, .code yX6_within cX6_within 3 (some .boolean), .methodLink RX6 112 yX6_tideAt, .instanceMethod yX6_tideAt, .selects RX6 yX6_tideAt yX6_tideAt, .code yX6_tideAt cX6_tideAt 6 (some .int), .fieldLink RX6 97 "GongTideModel" "strokes" "I", .fieldLink RX6 109 "GongTideModel" "thought" "I", .fieldLink RX6 16 "GongTideModel" "hourOf" "[I", .fieldLink RX6 19 "GongTideModel" "loudOf" "[I"] ++ wsX60)
def wsX6_strike : List Cond := .code yX6_strike cX6_strike 3 (some .int) :: ([.fieldLink RX6 94 "GongTideModel" "houses" "I", .fieldLink RX6 97 "GongTideModel" "strokes" "I", .fieldLink RX6 16 "GongTideModel" "hourOf" "[I", .fieldLink RX6 19 "GongTideModel" "loudOf" "[I", .fieldLink RX6 103 "GongTideModel" "changes" "I", .methodLink RX6 62 yX6_within, .static yX6_within, .initialized RX6, .code yX6_within cX6_within 3 (some .boolean)] ++ wsX60)
def wsX6_felt : List Cond := .code yX6_felt cX6_felt 4 (some .int) :: ([.fieldLink RX6 19 "GongTideModel" "loudOf" "[I", .fieldLink RX6 103 "GongTideModel" "changes" "I", .methodLink RX6 144 yX6_isStroke, .instanceMethod yX6_isStroke, .selects RX6 yX6_isStroke yX6_isStroke, .initialized RX6, .code yX6_isStroke cX6_isStroke 2 (some .boolean), .fieldLink RX6 97 "GongTideModel" "strokes" "I", .methodLink RX6 62 yX6_within, .static yX6_within, .code yX6_within cX6_within 3 (some .boolean)] ++ wsX60)
def wsX6_strokeNow : List Cond := .code yX6_strokeNow cX6_strokeNow 4 (some .int) :: ([.fieldLink RX6 16 "GongTideModel" "hourOf" "[I", .fieldLink RX6 19 "GongTideModel" "loudOf" "[I", .methodLink RX6 141 yX6_isHour, .static yX6_isHour, .initialized RX6, .code yX6_isHour cX6_isHour 1 (some .boolean), .methodLink RX6 62 yX6_within, .static yX6_within, .code yX6_within cX6_within 3 (some .boolean)] ++ wsX60)
def wsX6_stroke : List Cond := .code yX6_stroke cX6_stroke 3 (some .int) :: ([.methodLink RX6 144 yX6_isStroke, .instanceMethod yX6_isStroke, .selects RX6 yX6_isStroke yX6_isStroke, .initialized RX6, .code yX6_isStroke cX6_isStroke 2 (some .boolean), .fieldLink RX6 97 "GongTideModel" "strokes" "I", .methodLink RX6 62 yX6_within, .static yX6_within, .code yX6_within cX6_within 3 (some .boolean), .methodLink RX6 147 yX6_strokeNow, .instanceMethod yX6_strokeNow, .selects RX6 yX6_strokeNow yX6_strokeNow, .code yX6_strokeNow cX6_strokeNow 4 (some .int), .fieldLink RX6 16 "GongTideModel" "hourOf" "[I", .fieldLink RX6 19 "GongTideModel" "loudOf" "[I", .methodLink RX6 141 yX6_isHour, .static yX6_isHour, .code yX6_isHour cX6_isHour 1 (some .boolean)] ++ wsX60)
def wsX6_isPolite_r1 : List Cond := [Cond.fieldLink RX6 94 "GongTideModel" "houses" "I", Cond.methodLink RX6 150 yX6_isIn, Cond.static yX6_isIn, Cond.initialized RX6, Cond.code yX6_isIn cX6_isIn 2 (some .boolean), Cond.methodLink RX6 125 yX6_howAt, Cond.instanceMethod yX6_howAt, Cond.selects RX6 yX6_howAt yX6_howAt, Cond.code yX6_howAt cX6_howAt 4 (some .int), Cond.methodLink RX6 122 yX6_mannersAt, Cond.instanceMethod yX6_mannersAt, Cond.selects RX6 yX6_mannersAt yX6_mannersAt, Cond.code yX6_mannersAt cX6_mannersAt 4 (some .int), Cond.fieldLink RX6 13 "GongTideModel" "levelOf" "[I", Cond.fieldLink RX6 7 "GongTideModel" "kindOf" "[I", Cond.methodLink RX6 112 yX6_tideAt, Cond.instanceMethod yX6_tideAt, Cond.selects RX6 yX6_tideAt yX6_tideAt, Cond.code yX6_tideAt cX6_tideAt 6 (some .int), Cond.fieldLink RX6 97 "GongTideModel" "strokes" "I", Cond.fieldLink RX6 109 "GongTideModel" "thought" "I", Cond.fieldLink RX6 16 "GongTideModel" "hourOf" "[I", Cond.fieldLink RX6 19 "GongTideModel" "loudOf" "[I", Cond.methodLink RX6 115 yX6_less]
def wsX6_isPolite_r2 : List Cond := [Cond.static yX6_less, Cond.code yX6_less cX6_less 2 (some .int), Cond.methodLink RX6 119 yX6_tideBefore, Cond.instanceMethod yX6_tideBefore, Cond.selects RX6 yX6_tideBefore yX6_tideBefore, Cond.code yX6_tideBefore cX6_tideBefore 2 (some .int)]
def wsX6_isPolite : List Cond := .code yX6_isPolite cX6_isPolite 7 (some .boolean) :: ((wsX6_isPolite_r1 ++ wsX6_isPolite_r2) ++ wsX60)
def wsX6_dinnerNow_r1 : List Cond := [Cond.methodLink RX6 154 yX6_isPolite, Cond.instanceMethod yX6_isPolite, Cond.selects RX6 yX6_isPolite yX6_isPolite, Cond.initialized RX6, Cond.code yX6_isPolite cX6_isPolite 7 (some .boolean), Cond.fieldLink RX6 94 "GongTideModel" "houses" "I", Cond.methodLink RX6 150 yX6_isIn, Cond.static yX6_isIn, Cond.code yX6_isIn cX6_isIn 2 (some .boolean), Cond.methodLink RX6 125 yX6_howAt, Cond.instanceMethod yX6_howAt, Cond.selects RX6 yX6_howAt yX6_howAt, Cond.code yX6_howAt cX6_howAt 4 (some .int), Cond.methodLink RX6 122 yX6_mannersAt, Cond.instanceMethod yX6_mannersAt, Cond.selects RX6 yX6_mannersAt yX6_mannersAt, Cond.code yX6_mannersAt cX6_mannersAt 4 (some .int), Cond.fieldLink RX6 13 "GongTideModel" "levelOf" "[I", Cond.fieldLink RX6 7 "GongTideModel" "kindOf" "[I", Cond.methodLink RX6 112 yX6_tideAt, Cond.instanceMethod yX6_tideAt, Cond.selects RX6 yX6_tideAt yX6_tideAt, Cond.code yX6_tideAt cX6_tideAt 6 (some .int), Cond.fieldLink RX6 97 "GongTideModel" "strokes" "I"]
def wsX6_dinnerNow_r2 : List Cond := [Cond.fieldLink RX6 109 "GongTideModel" "thought" "I", Cond.fieldLink RX6 16 "GongTideModel" "hourOf" "[I", Cond.fieldLink RX6 19 "GongTideModel" "loudOf" "[I", Cond.methodLink RX6 115 yX6_less, Cond.static yX6_less, Cond.code yX6_less cX6_less 2 (some .int), Cond.methodLink RX6 119 yX6_tideBefore, Cond.instanceMethod yX6_tideBefore, Cond.selects RX6 yX6_tideBefore yX6_tideBefore, Cond.code yX6_tideBefore cX6_tideBefore 2 (some .int)]
def wsX6_dinnerNow : List Cond := .code yX6_dinnerNow cX6_dinnerNow 4 (some .int) :: ((wsX6_dinnerNow_r1 ++ wsX6_dinnerNow_r2) ++ wsX60)
def wsX6_dinner_r1 : List Cond := [Cond.fieldLink RX6 94 "GongTideModel" "houses" "I", Cond.methodLink RX6 62 yX6_within, Cond.static yX6_within, Cond.initialized RX6, Cond.code yX6_within cX6_within 3 (some .boolean), Cond.methodLink RX6 157 yX6_dinnerNow, Cond.instanceMethod yX6_dinnerNow, Cond.selects RX6 yX6_dinnerNow yX6_dinnerNow, Cond.code yX6_dinnerNow cX6_dinnerNow 4 (some .int), Cond.methodLink RX6 154 yX6_isPolite, Cond.instanceMethod yX6_isPolite, Cond.selects RX6 yX6_isPolite yX6_isPolite, Cond.code yX6_isPolite cX6_isPolite 7 (some .boolean), Cond.methodLink RX6 150 yX6_isIn, Cond.static yX6_isIn, Cond.code yX6_isIn cX6_isIn 2 (some .boolean), Cond.methodLink RX6 125 yX6_howAt, Cond.instanceMethod yX6_howAt, Cond.selects RX6 yX6_howAt yX6_howAt, Cond.code yX6_howAt cX6_howAt 4 (some .int), Cond.methodLink RX6 122 yX6_mannersAt, Cond.instanceMethod yX6_mannersAt, Cond.selects RX6 yX6_mannersAt yX6_mannersAt, Cond.code yX6_mannersAt cX6_mannersAt 4 (some .int)]
def wsX6_dinner_r2 : List Cond := [Cond.fieldLink RX6 13 "GongTideModel" "levelOf" "[I", Cond.fieldLink RX6 7 "GongTideModel" "kindOf" "[I", Cond.methodLink RX6 112 yX6_tideAt, Cond.instanceMethod yX6_tideAt, Cond.selects RX6 yX6_tideAt yX6_tideAt, Cond.code yX6_tideAt cX6_tideAt 6 (some .int), Cond.fieldLink RX6 97 "GongTideModel" "strokes" "I", Cond.fieldLink RX6 109 "GongTideModel" "thought" "I", Cond.fieldLink RX6 16 "GongTideModel" "hourOf" "[I", Cond.fieldLink RX6 19 "GongTideModel" "loudOf" "[I", Cond.methodLink RX6 115 yX6_less, Cond.static yX6_less, Cond.code yX6_less cX6_less 2 (some .int), Cond.methodLink RX6 119 yX6_tideBefore, Cond.instanceMethod yX6_tideBefore, Cond.selects RX6 yX6_tideBefore yX6_tideBefore, Cond.code yX6_tideBefore cX6_tideBefore 2 (some .int)]
def wsX6_dinner : List Cond := .code yX6_dinner cX6_dinner 3 (some .int) :: ((wsX6_dinner_r1 ++ wsX6_dinner_r2) ++ wsX60)
def wsX6_think : List Cond := .code yX6_think cX6_think 3 none :: ([.fieldLink RX6 16 "GongTideModel" "hourOf" "[I", .fieldLink RX6 97 "GongTideModel" "strokes" "I", .fieldLink RX6 19 "GongTideModel" "loudOf" "[I", .fieldLink RX6 109 "GongTideModel" "thought" "I"] ++ wsX60)
def wsX6_bestNow_r1 : List Cond := [Cond.fieldLink RX6 109 "GongTideModel" "thought" "I", Cond.methodLink RX6 160 yX6_think, Cond.instanceMethod yX6_think, Cond.selects RX6 yX6_think yX6_think, Cond.initialized RX6, Cond.code yX6_think cX6_think 3 none, Cond.fieldLink RX6 16 "GongTideModel" "hourOf" "[I", Cond.fieldLink RX6 97 "GongTideModel" "strokes" "I", Cond.fieldLink RX6 19 "GongTideModel" "loudOf" "[I", Cond.methodLink RX6 164 yX6_hoursAll, Cond.instanceMethod yX6_hoursAll, Cond.selects RX6 yX6_hoursAll yX6_hoursAll, Cond.code yX6_hoursAll cX6_hoursAll 4 (some .int), Cond.fieldLink RX6 94 "GongTideModel" "houses" "I", Cond.methodLink RX6 128 yX6_hoursOf, Cond.instanceMethod yX6_hoursOf, Cond.selects RX6 yX6_hoursOf yX6_hoursOf, Cond.code yX6_hoursOf cX6_hoursOf 5 (some .int), Cond.methodLink RX6 125 yX6_howAt, Cond.instanceMethod yX6_howAt, Cond.selects RX6 yX6_howAt yX6_howAt, Cond.code yX6_howAt cX6_howAt 4 (some .int), Cond.methodLink RX6 122 yX6_mannersAt, Cond.instanceMethod yX6_mannersAt]
def wsX6_bestNow_r2 : List Cond := [Cond.selects RX6 yX6_mannersAt yX6_mannersAt, Cond.code yX6_mannersAt cX6_mannersAt 4 (some .int), Cond.fieldLink RX6 13 "GongTideModel" "levelOf" "[I", Cond.fieldLink RX6 7 "GongTideModel" "kindOf" "[I", Cond.methodLink RX6 112 yX6_tideAt, Cond.instanceMethod yX6_tideAt, Cond.selects RX6 yX6_tideAt yX6_tideAt, Cond.code yX6_tideAt cX6_tideAt 6 (some .int), Cond.methodLink RX6 115 yX6_less, Cond.static yX6_less, Cond.code yX6_less cX6_less 2 (some .int), Cond.methodLink RX6 119 yX6_tideBefore, Cond.instanceMethod yX6_tideBefore, Cond.selects RX6 yX6_tideBefore yX6_tideBefore, Cond.code yX6_tideBefore cX6_tideBefore 2 (some .int)]
def wsX6_bestNow : List Cond := .code yX6_bestNow cX6_bestNow 7 (some .int) :: ((wsX6_bestNow_r1 ++ wsX6_bestNow_r2) ++ wsX60)
def wsX6_best_r1 : List Cond := [Cond.fieldLink RX6 94 "GongTideModel" "houses" "I", Cond.methodLink RX6 62 yX6_within, Cond.static yX6_within, Cond.initialized RX6, Cond.code yX6_within cX6_within 3 (some .boolean), Cond.methodLink RX6 167 yX6_bestNow, Cond.instanceMethod yX6_bestNow, Cond.selects RX6 yX6_bestNow yX6_bestNow, Cond.code yX6_bestNow cX6_bestNow 7 (some .int), Cond.fieldLink RX6 109 "GongTideModel" "thought" "I", Cond.methodLink RX6 160 yX6_think, Cond.instanceMethod yX6_think, Cond.selects RX6 yX6_think yX6_think, Cond.code yX6_think cX6_think 3 none, Cond.fieldLink RX6 16 "GongTideModel" "hourOf" "[I", Cond.fieldLink RX6 97 "GongTideModel" "strokes" "I", Cond.fieldLink RX6 19 "GongTideModel" "loudOf" "[I", Cond.methodLink RX6 164 yX6_hoursAll, Cond.instanceMethod yX6_hoursAll, Cond.selects RX6 yX6_hoursAll yX6_hoursAll, Cond.code yX6_hoursAll cX6_hoursAll 4 (some .int), Cond.methodLink RX6 128 yX6_hoursOf, Cond.instanceMethod yX6_hoursOf, Cond.selects RX6 yX6_hoursOf yX6_hoursOf]
def wsX6_best_r2 : List Cond := [Cond.code yX6_hoursOf cX6_hoursOf 5 (some .int), Cond.methodLink RX6 125 yX6_howAt, Cond.instanceMethod yX6_howAt, Cond.selects RX6 yX6_howAt yX6_howAt, Cond.code yX6_howAt cX6_howAt 4 (some .int), Cond.methodLink RX6 122 yX6_mannersAt, Cond.instanceMethod yX6_mannersAt, Cond.selects RX6 yX6_mannersAt yX6_mannersAt, Cond.code yX6_mannersAt cX6_mannersAt 4 (some .int), Cond.fieldLink RX6 13 "GongTideModel" "levelOf" "[I", Cond.fieldLink RX6 7 "GongTideModel" "kindOf" "[I", Cond.methodLink RX6 112 yX6_tideAt, Cond.instanceMethod yX6_tideAt, Cond.selects RX6 yX6_tideAt yX6_tideAt, Cond.code yX6_tideAt cX6_tideAt 6 (some .int), Cond.methodLink RX6 115 yX6_less, Cond.static yX6_less, Cond.code yX6_less cX6_less 2 (some .int), Cond.methodLink RX6 119 yX6_tideBefore, Cond.instanceMethod yX6_tideBefore, Cond.selects RX6 yX6_tideBefore yX6_tideBefore, Cond.code yX6_tideBefore cX6_tideBefore 2 (some .int)]
def wsX6_best : List Cond := .code yX6_best cX6_best 3 (some .int) :: ((wsX6_best_r1 ++ wsX6_best_r2) ++ wsX60)
def wsX6_hear : List Cond := .code yX6_hear cX6_hear 5 (some .int) :: ([.fieldLink RX6 106 "GongTideModel" "heard" "I", .fieldLink RX6 22 "GongTideModel" "heardHouse" "[I", .fieldLink RX6 25 "GongTideModel" "heardHour" "[I", .fieldLink RX6 28 "GongTideModel" "heardLoud" "[I", .fieldLink RX6 31 "GongTideModel" "heardHow" "[I", .methodLink RX6 134 yX6_isHouse, .instanceMethod yX6_isHouse, .selects RX6 yX6_isHouse yX6_isHouse, .initialized RX6, .code yX6_isHouse cX6_isHouse 2 (some .boolean), .fieldLink RX6 94 "GongTideModel" "houses" "I", .methodLink RX6 62 yX6_within, .static yX6_within, .code yX6_within cX6_within 3 (some .boolean), .methodLink RX6 141 yX6_isHour, .static yX6_isHour, .code yX6_isHour cX6_isHour 1 (some .boolean)] ++ wsX60)
def wsX6_forget : List Cond := .code yX6_forget cX6_forget 2 (some .int) :: ([.fieldLink RX6 106 "GongTideModel" "heard" "I"] ++ wsX60)
def wsX6_isHeard_r1 : List Cond := [Cond.fieldLink RX6 106 "GongTideModel" "heard" "I", Cond.fieldLink RX6 28 "GongTideModel" "heardLoud" "[I", Cond.fieldLink RX6 22 "GongTideModel" "heardHouse" "[I", Cond.fieldLink RX6 25 "GongTideModel" "heardHour" "[I", Cond.fieldLink RX6 31 "GongTideModel" "heardHow" "[I", Cond.fieldLink RX6 109 "GongTideModel" "thought" "I", Cond.methodLink RX6 160 yX6_think, Cond.instanceMethod yX6_think, Cond.selects RX6 yX6_think yX6_think, Cond.initialized RX6, Cond.code yX6_think cX6_think 3 none, Cond.fieldLink RX6 16 "GongTideModel" "hourOf" "[I", Cond.fieldLink RX6 97 "GongTideModel" "strokes" "I", Cond.fieldLink RX6 19 "GongTideModel" "loudOf" "[I", Cond.methodLink RX6 125 yX6_howAt, Cond.instanceMethod yX6_howAt, Cond.selects RX6 yX6_howAt yX6_howAt, Cond.code yX6_howAt cX6_howAt 4 (some .int), Cond.methodLink RX6 122 yX6_mannersAt, Cond.instanceMethod yX6_mannersAt, Cond.selects RX6 yX6_mannersAt yX6_mannersAt, Cond.code yX6_mannersAt cX6_mannersAt 4 (some .int), Cond.fieldLink RX6 13 "GongTideModel" "levelOf" "[I", Cond.fieldLink RX6 7 "GongTideModel" "kindOf" "[I"]
def wsX6_isHeard_r2 : List Cond := [Cond.methodLink RX6 112 yX6_tideAt, Cond.instanceMethod yX6_tideAt, Cond.selects RX6 yX6_tideAt yX6_tideAt, Cond.code yX6_tideAt cX6_tideAt 6 (some .int), Cond.methodLink RX6 115 yX6_less, Cond.static yX6_less, Cond.code yX6_less cX6_less 2 (some .int), Cond.methodLink RX6 119 yX6_tideBefore, Cond.instanceMethod yX6_tideBefore, Cond.selects RX6 yX6_tideBefore yX6_tideBefore, Cond.code yX6_tideBefore cX6_tideBefore 2 (some .int)]
def wsX6_isHeard : List Cond := .code yX6_isHeard cX6_isHeard 4 (some .boolean) :: ((wsX6_isHeard_r1 ++ wsX6_isHeard_r2) ++ wsX60)
def wsX6_hoursNow_r1 : List Cond := [Cond.methodLink RX6 170 yX6_isHeard, Cond.instanceMethod yX6_isHeard, Cond.selects RX6 yX6_isHeard yX6_isHeard, Cond.initialized RX6, Cond.code yX6_isHeard cX6_isHeard 4 (some .boolean), Cond.fieldLink RX6 106 "GongTideModel" "heard" "I", Cond.fieldLink RX6 28 "GongTideModel" "heardLoud" "[I", Cond.fieldLink RX6 22 "GongTideModel" "heardHouse" "[I", Cond.fieldLink RX6 25 "GongTideModel" "heardHour" "[I", Cond.fieldLink RX6 31 "GongTideModel" "heardHow" "[I", Cond.fieldLink RX6 109 "GongTideModel" "thought" "I", Cond.methodLink RX6 160 yX6_think, Cond.instanceMethod yX6_think, Cond.selects RX6 yX6_think yX6_think, Cond.code yX6_think cX6_think 3 none, Cond.fieldLink RX6 16 "GongTideModel" "hourOf" "[I", Cond.fieldLink RX6 97 "GongTideModel" "strokes" "I", Cond.fieldLink RX6 19 "GongTideModel" "loudOf" "[I", Cond.methodLink RX6 125 yX6_howAt, Cond.instanceMethod yX6_howAt, Cond.selects RX6 yX6_howAt yX6_howAt, Cond.code yX6_howAt cX6_howAt 4 (some .int), Cond.methodLink RX6 122 yX6_mannersAt, Cond.instanceMethod yX6_mannersAt]
def wsX6_hoursNow_r2 : List Cond := [Cond.selects RX6 yX6_mannersAt yX6_mannersAt, Cond.code yX6_mannersAt cX6_mannersAt 4 (some .int), Cond.fieldLink RX6 13 "GongTideModel" "levelOf" "[I", Cond.fieldLink RX6 7 "GongTideModel" "kindOf" "[I", Cond.methodLink RX6 112 yX6_tideAt, Cond.instanceMethod yX6_tideAt, Cond.selects RX6 yX6_tideAt yX6_tideAt, Cond.code yX6_tideAt cX6_tideAt 6 (some .int), Cond.methodLink RX6 115 yX6_less, Cond.static yX6_less, Cond.code yX6_less cX6_less 2 (some .int), Cond.methodLink RX6 119 yX6_tideBefore, Cond.instanceMethod yX6_tideBefore, Cond.selects RX6 yX6_tideBefore yX6_tideBefore, Cond.code yX6_tideBefore cX6_tideBefore 2 (some .int)]
def wsX6_hoursNow : List Cond := .code yX6_hoursNow cX6_hoursNow 3 (some .int) :: ((wsX6_hoursNow_r1 ++ wsX6_hoursNow_r2) ++ wsX60)
def wsX6_hours_r1 : List Cond := [Cond.fieldLink RX6 94 "GongTideModel" "houses" "I", Cond.methodLink RX6 173 yX6_hoursNow, Cond.instanceMethod yX6_hoursNow, Cond.selects RX6 yX6_hoursNow yX6_hoursNow, Cond.initialized RX6, Cond.code yX6_hoursNow cX6_hoursNow 3 (some .int), Cond.methodLink RX6 170 yX6_isHeard, Cond.instanceMethod yX6_isHeard, Cond.selects RX6 yX6_isHeard yX6_isHeard, Cond.code yX6_isHeard cX6_isHeard 4 (some .boolean), Cond.fieldLink RX6 106 "GongTideModel" "heard" "I", Cond.fieldLink RX6 28 "GongTideModel" "heardLoud" "[I", Cond.fieldLink RX6 22 "GongTideModel" "heardHouse" "[I", Cond.fieldLink RX6 25 "GongTideModel" "heardHour" "[I", Cond.fieldLink RX6 31 "GongTideModel" "heardHow" "[I", Cond.fieldLink RX6 109 "GongTideModel" "thought" "I", Cond.methodLink RX6 160 yX6_think, Cond.instanceMethod yX6_think, Cond.selects RX6 yX6_think yX6_think, Cond.code yX6_think cX6_think 3 none, Cond.fieldLink RX6 16 "GongTideModel" "hourOf" "[I", Cond.fieldLink RX6 97 "GongTideModel" "strokes" "I", Cond.fieldLink RX6 19 "GongTideModel" "loudOf" "[I", Cond.methodLink RX6 125 yX6_howAt]
def wsX6_hours_r2 : List Cond := [Cond.instanceMethod yX6_howAt, Cond.selects RX6 yX6_howAt yX6_howAt, Cond.code yX6_howAt cX6_howAt 4 (some .int), Cond.methodLink RX6 122 yX6_mannersAt, Cond.instanceMethod yX6_mannersAt, Cond.selects RX6 yX6_mannersAt yX6_mannersAt, Cond.code yX6_mannersAt cX6_mannersAt 4 (some .int), Cond.fieldLink RX6 13 "GongTideModel" "levelOf" "[I", Cond.fieldLink RX6 7 "GongTideModel" "kindOf" "[I", Cond.methodLink RX6 112 yX6_tideAt, Cond.instanceMethod yX6_tideAt, Cond.selects RX6 yX6_tideAt yX6_tideAt, Cond.code yX6_tideAt cX6_tideAt 6 (some .int), Cond.methodLink RX6 115 yX6_less, Cond.static yX6_less, Cond.code yX6_less cX6_less 2 (some .int), Cond.methodLink RX6 119 yX6_tideBefore, Cond.instanceMethod yX6_tideBefore, Cond.selects RX6 yX6_tideBefore yX6_tideBefore, Cond.code yX6_tideBefore cX6_tideBefore 2 (some .int)]
def wsX6_hours : List Cond := .code yX6_hours cX6_hours 1 (some .int) :: ((wsX6_hours_r1 ++ wsX6_hours_r2) ++ wsX60)
def wsX6_worstIn_r1 : List Cond := [Cond.fieldLink RX6 28 "GongTideModel" "heardLoud" "[I", Cond.fieldLink RX6 106 "GongTideModel" "heard" "I", Cond.fieldLink RX6 109 "GongTideModel" "thought" "I", Cond.methodLink RX6 160 yX6_think, Cond.instanceMethod yX6_think, Cond.selects RX6 yX6_think yX6_think, Cond.initialized RX6, Cond.code yX6_think cX6_think 3 none, Cond.fieldLink RX6 16 "GongTideModel" "hourOf" "[I", Cond.fieldLink RX6 97 "GongTideModel" "strokes" "I", Cond.fieldLink RX6 19 "GongTideModel" "loudOf" "[I", Cond.methodLink RX6 125 yX6_howAt, Cond.instanceMethod yX6_howAt, Cond.selects RX6 yX6_howAt yX6_howAt, Cond.code yX6_howAt cX6_howAt 4 (some .int), Cond.methodLink RX6 122 yX6_mannersAt, Cond.instanceMethod yX6_mannersAt, Cond.selects RX6 yX6_mannersAt yX6_mannersAt, Cond.code yX6_mannersAt cX6_mannersAt 4 (some .int), Cond.fieldLink RX6 13 "GongTideModel" "levelOf" "[I", Cond.fieldLink RX6 7 "GongTideModel" "kindOf" "[I", Cond.methodLink RX6 112 yX6_tideAt, Cond.instanceMethod yX6_tideAt, Cond.selects RX6 yX6_tideAt yX6_tideAt]
def wsX6_worstIn_r2 : List Cond := [Cond.code yX6_tideAt cX6_tideAt 6 (some .int), Cond.methodLink RX6 115 yX6_less, Cond.static yX6_less, Cond.code yX6_less cX6_less 2 (some .int), Cond.methodLink RX6 119 yX6_tideBefore, Cond.instanceMethod yX6_tideBefore, Cond.selects RX6 yX6_tideBefore yX6_tideBefore, Cond.code yX6_tideBefore cX6_tideBefore 2 (some .int), Cond.methodLink RX6 150 yX6_isIn, Cond.static yX6_isIn, Cond.code yX6_isIn cX6_isIn 2 (some .boolean)]
def wsX6_worstIn : List Cond := .code yX6_worstIn cX6_worstIn 9 (some .int) :: ((wsX6_worstIn_r1 ++ wsX6_worstIn_r2) ++ wsX60)
def wsX6_askNow_r1 : List Cond := [Cond.fieldLink RX6 106 "GongTideModel" "heard" "I", Cond.constant RX6 176 (268435456), Cond.fieldLink RX6 94 "GongTideModel" "houses" "I", Cond.methodLink RX6 173 yX6_hoursNow, Cond.instanceMethod yX6_hoursNow, Cond.selects RX6 yX6_hoursNow yX6_hoursNow, Cond.initialized RX6, Cond.code yX6_hoursNow cX6_hoursNow 3 (some .int), Cond.methodLink RX6 170 yX6_isHeard, Cond.instanceMethod yX6_isHeard, Cond.selects RX6 yX6_isHeard yX6_isHeard, Cond.code yX6_isHeard cX6_isHeard 4 (some .boolean), Cond.fieldLink RX6 28 "GongTideModel" "heardLoud" "[I", Cond.fieldLink RX6 22 "GongTideModel" "heardHouse" "[I", Cond.fieldLink RX6 25 "GongTideModel" "heardHour" "[I", Cond.fieldLink RX6 31 "GongTideModel" "heardHow" "[I", Cond.fieldLink RX6 109 "GongTideModel" "thought" "I", Cond.methodLink RX6 160 yX6_think, Cond.instanceMethod yX6_think, Cond.selects RX6 yX6_think yX6_think, Cond.code yX6_think cX6_think 3 none, Cond.fieldLink RX6 16 "GongTideModel" "hourOf" "[I", Cond.fieldLink RX6 97 "GongTideModel" "strokes" "I", Cond.fieldLink RX6 19 "GongTideModel" "loudOf" "[I"]
def wsX6_askNow_r2 : List Cond := [Cond.methodLink RX6 125 yX6_howAt, Cond.instanceMethod yX6_howAt, Cond.selects RX6 yX6_howAt yX6_howAt, Cond.code yX6_howAt cX6_howAt 4 (some .int), Cond.methodLink RX6 122 yX6_mannersAt, Cond.instanceMethod yX6_mannersAt, Cond.selects RX6 yX6_mannersAt yX6_mannersAt, Cond.code yX6_mannersAt cX6_mannersAt 4 (some .int), Cond.fieldLink RX6 13 "GongTideModel" "levelOf" "[I", Cond.fieldLink RX6 7 "GongTideModel" "kindOf" "[I", Cond.methodLink RX6 112 yX6_tideAt, Cond.instanceMethod yX6_tideAt, Cond.selects RX6 yX6_tideAt yX6_tideAt, Cond.code yX6_tideAt cX6_tideAt 6 (some .int), Cond.methodLink RX6 115 yX6_less, Cond.static yX6_less, Cond.code yX6_less cX6_less 2 (some .int), Cond.methodLink RX6 119 yX6_tideBefore, Cond.instanceMethod yX6_tideBefore, Cond.selects RX6 yX6_tideBefore yX6_tideBefore, Cond.code yX6_tideBefore cX6_tideBefore 2 (some .int), Cond.methodLink RX6 177 yX6_worstIn, Cond.instanceMethod yX6_worstIn, Cond.selects RX6 yX6_worstIn yX6_worstIn]
def wsX6_askNow_r3 : List Cond := [Cond.code yX6_worstIn cX6_worstIn 9 (some .int), Cond.methodLink RX6 150 yX6_isIn, Cond.static yX6_isIn, Cond.code yX6_isIn cX6_isIn 2 (some .boolean)]
def wsX6_askNow : List Cond := .code yX6_askNow cX6_askNow 7 (some .int) :: ((wsX6_askNow_r1 ++ (wsX6_askNow_r2 ++ wsX6_askNow_r3)) ++ wsX60)
def wsX6_ask_r1 : List Cond := [Cond.fieldLink RX6 94 "GongTideModel" "houses" "I", Cond.methodLink RX6 141 yX6_isHour, Cond.static yX6_isHour, Cond.initialized RX6, Cond.code yX6_isHour cX6_isHour 1 (some .boolean), Cond.methodLink RX6 62 yX6_within, Cond.static yX6_within, Cond.code yX6_within cX6_within 3 (some .boolean), Cond.methodLink RX6 181 yX6_askNow, Cond.instanceMethod yX6_askNow, Cond.selects RX6 yX6_askNow yX6_askNow, Cond.code yX6_askNow cX6_askNow 7 (some .int), Cond.fieldLink RX6 106 "GongTideModel" "heard" "I", Cond.constant RX6 176 (268435456), Cond.methodLink RX6 173 yX6_hoursNow, Cond.instanceMethod yX6_hoursNow, Cond.selects RX6 yX6_hoursNow yX6_hoursNow, Cond.code yX6_hoursNow cX6_hoursNow 3 (some .int), Cond.methodLink RX6 170 yX6_isHeard, Cond.instanceMethod yX6_isHeard, Cond.selects RX6 yX6_isHeard yX6_isHeard, Cond.code yX6_isHeard cX6_isHeard 4 (some .boolean), Cond.fieldLink RX6 28 "GongTideModel" "heardLoud" "[I", Cond.fieldLink RX6 22 "GongTideModel" "heardHouse" "[I"]
def wsX6_ask_r2 : List Cond := [Cond.fieldLink RX6 25 "GongTideModel" "heardHour" "[I", Cond.fieldLink RX6 31 "GongTideModel" "heardHow" "[I", Cond.fieldLink RX6 109 "GongTideModel" "thought" "I", Cond.methodLink RX6 160 yX6_think, Cond.instanceMethod yX6_think, Cond.selects RX6 yX6_think yX6_think, Cond.code yX6_think cX6_think 3 none, Cond.fieldLink RX6 16 "GongTideModel" "hourOf" "[I", Cond.fieldLink RX6 97 "GongTideModel" "strokes" "I", Cond.fieldLink RX6 19 "GongTideModel" "loudOf" "[I", Cond.methodLink RX6 125 yX6_howAt, Cond.instanceMethod yX6_howAt, Cond.selects RX6 yX6_howAt yX6_howAt, Cond.code yX6_howAt cX6_howAt 4 (some .int), Cond.methodLink RX6 122 yX6_mannersAt, Cond.instanceMethod yX6_mannersAt, Cond.selects RX6 yX6_mannersAt yX6_mannersAt, Cond.code yX6_mannersAt cX6_mannersAt 4 (some .int), Cond.fieldLink RX6 13 "GongTideModel" "levelOf" "[I", Cond.fieldLink RX6 7 "GongTideModel" "kindOf" "[I", Cond.methodLink RX6 112 yX6_tideAt, Cond.instanceMethod yX6_tideAt, Cond.selects RX6 yX6_tideAt yX6_tideAt, Cond.code yX6_tideAt cX6_tideAt 6 (some .int)]
def wsX6_ask_r3 : List Cond := [Cond.methodLink RX6 115 yX6_less, Cond.static yX6_less, Cond.code yX6_less cX6_less 2 (some .int), Cond.methodLink RX6 119 yX6_tideBefore, Cond.instanceMethod yX6_tideBefore, Cond.selects RX6 yX6_tideBefore yX6_tideBefore, Cond.code yX6_tideBefore cX6_tideBefore 2 (some .int), Cond.methodLink RX6 177 yX6_worstIn, Cond.instanceMethod yX6_worstIn, Cond.selects RX6 yX6_worstIn yX6_worstIn, Cond.code yX6_worstIn cX6_worstIn 9 (some .int), Cond.methodLink RX6 150 yX6_isIn, Cond.static yX6_isIn, Cond.code yX6_isIn cX6_isIn 2 (some .boolean)]
def wsX6_ask : List Cond := .code yX6_ask cX6_ask 2 (some .int) :: ((wsX6_ask_r1 ++ (wsX6_ask_r2 ++ wsX6_ask_r3)) ++ wsX60)
def wsX6_draw : List Cond := .code yX6_draw cX6_draw 2 (some .int) :: ([.constantLong RX6 184 (1103515245), .fieldLink RX6 186 "GongTideModel" "seedNow" "J", .constantLong RX6 190 (12345), .constantLong RX6 192 (2147483647), .constantLong RX6 194 (65536)] ++ wsX60)
def wsX6_weeksNow_r1 : List Cond := [Cond.fieldLink RX6 38 "GongTideModel" "savedHour" "[I", Cond.fieldLink RX6 16 "GongTideModel" "hourOf" "[I", Cond.fieldLink RX6 186 "GongTideModel" "seedNow" "J", Cond.fieldLink RX6 97 "GongTideModel" "strokes" "I", Cond.methodLink RX6 196 yX6_draw, Cond.instanceMethod yX6_draw, Cond.selects RX6 yX6_draw yX6_draw, Cond.initialized RX6, Cond.code yX6_draw cX6_draw 2 (some .int), Cond.constantLong RX6 184 (1103515245), Cond.constantLong RX6 190 (12345), Cond.constantLong RX6 192 (2147483647), Cond.constantLong RX6 194 (65536), Cond.methodLink RX6 164 yX6_hoursAll, Cond.instanceMethod yX6_hoursAll, Cond.selects RX6 yX6_hoursAll yX6_hoursAll, Cond.code yX6_hoursAll cX6_hoursAll 4 (some .int), Cond.fieldLink RX6 94 "GongTideModel" "houses" "I", Cond.methodLink RX6 128 yX6_hoursOf, Cond.instanceMethod yX6_hoursOf, Cond.selects RX6 yX6_hoursOf yX6_hoursOf, Cond.code yX6_hoursOf cX6_hoursOf 5 (some .int), Cond.methodLink RX6 125 yX6_howAt, Cond.instanceMethod yX6_howAt]
def wsX6_weeksNow_r2 : List Cond := [Cond.selects RX6 yX6_howAt yX6_howAt, Cond.code yX6_howAt cX6_howAt 4 (some .int), Cond.methodLink RX6 122 yX6_mannersAt, Cond.instanceMethod yX6_mannersAt, Cond.selects RX6 yX6_mannersAt yX6_mannersAt, Cond.code yX6_mannersAt cX6_mannersAt 4 (some .int), Cond.fieldLink RX6 13 "GongTideModel" "levelOf" "[I", Cond.fieldLink RX6 7 "GongTideModel" "kindOf" "[I", Cond.methodLink RX6 112 yX6_tideAt, Cond.instanceMethod yX6_tideAt, Cond.selects RX6 yX6_tideAt yX6_tideAt, Cond.code yX6_tideAt cX6_tideAt 6 (some .int), Cond.fieldLink RX6 109 "GongTideModel" "thought" "I", Cond.fieldLink RX6 19 "GongTideModel" "loudOf" "[I", Cond.methodLink RX6 115 yX6_less, Cond.static yX6_less, Cond.code yX6_less cX6_less 2 (some .int), Cond.methodLink RX6 119 yX6_tideBefore, Cond.instanceMethod yX6_tideBefore, Cond.selects RX6 yX6_tideBefore yX6_tideBefore, Cond.code yX6_tideBefore cX6_tideBefore 2 (some .int)]
def wsX6_weeksNow : List Cond := .code yX6_weeksNow cX6_weeksNow 8 (some .int) :: ((wsX6_weeksNow_r1 ++ wsX6_weeksNow_r2) ++ wsX60)
def wsX6_weeks_r1 : List Cond := [Cond.fieldLink RX6 94 "GongTideModel" "houses" "I", Cond.methodLink RX6 62 yX6_within, Cond.static yX6_within, Cond.initialized RX6, Cond.code yX6_within cX6_within 3 (some .boolean), Cond.methodLink RX6 199 yX6_weeksNow, Cond.instanceMethod yX6_weeksNow, Cond.selects RX6 yX6_weeksNow yX6_weeksNow, Cond.code yX6_weeksNow cX6_weeksNow 8 (some .int), Cond.fieldLink RX6 38 "GongTideModel" "savedHour" "[I", Cond.fieldLink RX6 16 "GongTideModel" "hourOf" "[I", Cond.fieldLink RX6 186 "GongTideModel" "seedNow" "J", Cond.fieldLink RX6 97 "GongTideModel" "strokes" "I", Cond.methodLink RX6 196 yX6_draw, Cond.instanceMethod yX6_draw, Cond.selects RX6 yX6_draw yX6_draw, Cond.code yX6_draw cX6_draw 2 (some .int), Cond.constantLong RX6 184 (1103515245), Cond.constantLong RX6 190 (12345), Cond.constantLong RX6 192 (2147483647), Cond.constantLong RX6 194 (65536), Cond.methodLink RX6 164 yX6_hoursAll, Cond.instanceMethod yX6_hoursAll, Cond.selects RX6 yX6_hoursAll yX6_hoursAll]
def wsX6_weeks_r2 : List Cond := [Cond.code yX6_hoursAll cX6_hoursAll 4 (some .int), Cond.methodLink RX6 128 yX6_hoursOf, Cond.instanceMethod yX6_hoursOf, Cond.selects RX6 yX6_hoursOf yX6_hoursOf, Cond.code yX6_hoursOf cX6_hoursOf 5 (some .int), Cond.methodLink RX6 125 yX6_howAt, Cond.instanceMethod yX6_howAt, Cond.selects RX6 yX6_howAt yX6_howAt, Cond.code yX6_howAt cX6_howAt 4 (some .int), Cond.methodLink RX6 122 yX6_mannersAt, Cond.instanceMethod yX6_mannersAt, Cond.selects RX6 yX6_mannersAt yX6_mannersAt, Cond.code yX6_mannersAt cX6_mannersAt 4 (some .int), Cond.fieldLink RX6 13 "GongTideModel" "levelOf" "[I", Cond.fieldLink RX6 7 "GongTideModel" "kindOf" "[I", Cond.methodLink RX6 112 yX6_tideAt, Cond.instanceMethod yX6_tideAt, Cond.selects RX6 yX6_tideAt yX6_tideAt, Cond.code yX6_tideAt cX6_tideAt 6 (some .int), Cond.fieldLink RX6 109 "GongTideModel" "thought" "I", Cond.fieldLink RX6 19 "GongTideModel" "loudOf" "[I", Cond.methodLink RX6 115 yX6_less, Cond.static yX6_less, Cond.code yX6_less cX6_less 2 (some .int)]
def wsX6_weeks_r3 : List Cond := [Cond.methodLink RX6 119 yX6_tideBefore, Cond.instanceMethod yX6_tideBefore, Cond.selects RX6 yX6_tideBefore yX6_tideBefore, Cond.code yX6_tideBefore cX6_tideBefore 2 (some .int)]
def wsX6_weeks : List Cond := .code yX6_weeks cX6_weeks 4 (some .int) :: ((wsX6_weeks_r1 ++ (wsX6_weeks_r2 ++ wsX6_weeks_r3)) ++ wsX60)
def wsX6_image : List Cond := .code yX6_image cX6_image 2 (some .int) :: ([.fieldLink RX6 94 "GongTideModel" "houses" "I", .fieldLink RX6 202 "GongTideModel" "isKept" "Z", .fieldLink RX6 100 "GongTideModel" "colonies" "I", .fieldLink RX6 205 "GongTideModel" "keptColony" "I", .fieldLink RX6 97 "GongTideModel" "strokes" "I", .fieldLink RX6 208 "GongTideModel" "keptStrokes" "I", .fieldLink RX6 103 "GongTideModel" "changes" "I", .fieldLink RX6 211 "GongTideModel" "keptChanges" "I", .fieldLink RX6 106 "GongTideModel" "heard" "I", .fieldLink RX6 214 "GongTideModel" "keptHeard" "I", .fieldLink RX6 41 "GongTideModel" "keptLevel" "[I", .fieldLink RX6 13 "GongTideModel" "levelOf" "[I", .fieldLink RX6 44 "GongTideModel" "keptHour" "[I", .fieldLink RX6 16 "GongTideModel" "hourOf" "[I", .fieldLink RX6 47 "GongTideModel" "keptLoud" "[I", .fieldLink RX6 19 "GongTideModel" "loudOf" "[I", .fieldLink RX6 50 "GongTideModel" "keptHouse" "[I", .fieldLink RX6 22 "GongTideModel" "heardHouse" "[I", .fieldLink RX6 53 "GongTideModel" "keptHeardHour" "[I", .fieldLink RX6 25 "GongTideModel" "heardHour" "[I", .fieldLink RX6 56 "GongTideModel" "keptHeardLoud" "[I", .fieldLink RX6 28 "GongTideModel" "heardLoud" "[I", .fieldLink RX6 59 "GongTideModel" "keptHow" "[I", .fieldLink RX6 31 "GongTideModel" "heardHow" "[I"] ++ wsX60)
def wsX6_restore : List Cond := .code yX6_restore cX6_restore 2 (some .int) :: ([.fieldLink RX6 202 "GongTideModel" "isKept" "Z", .fieldLink RX6 205 "GongTideModel" "keptColony" "I", .fieldLink RX6 100 "GongTideModel" "colonies" "I", .fieldLink RX6 208 "GongTideModel" "keptStrokes" "I", .fieldLink RX6 97 "GongTideModel" "strokes" "I", .fieldLink RX6 211 "GongTideModel" "keptChanges" "I", .fieldLink RX6 103 "GongTideModel" "changes" "I", .fieldLink RX6 214 "GongTideModel" "keptHeard" "I", .fieldLink RX6 106 "GongTideModel" "heard" "I", .fieldLink RX6 13 "GongTideModel" "levelOf" "[I", .fieldLink RX6 41 "GongTideModel" "keptLevel" "[I", .fieldLink RX6 16 "GongTideModel" "hourOf" "[I", .fieldLink RX6 44 "GongTideModel" "keptHour" "[I", .fieldLink RX6 19 "GongTideModel" "loudOf" "[I", .fieldLink RX6 47 "GongTideModel" "keptLoud" "[I", .fieldLink RX6 22 "GongTideModel" "heardHouse" "[I", .fieldLink RX6 50 "GongTideModel" "keptHouse" "[I", .fieldLink RX6 25 "GongTideModel" "heardHour" "[I", .fieldLink RX6 53 "GongTideModel" "keptHeardHour" "[I", .fieldLink RX6 28 "GongTideModel" "heardLoud" "[I", .fieldLink RX6 56 "GongTideModel" "keptHeardLoud" "[I", .fieldLink RX6 31 "GongTideModel" "heardHow" "[I", .fieldLink RX6 59 "GongTideModel" "keptHow" "[I"] ++ wsX60)
def wsX6_highest : List Cond := .code yX6_highest cX6_highest 3 (some .int) :: ([.fieldLink RX6 94 "GongTideModel" "houses" "I", .methodLink RX6 112 yX6_tideAt, .instanceMethod yX6_tideAt, .selects RX6 yX6_tideAt yX6_tideAt, .initialized RX6, .code yX6_tideAt cX6_tideAt 6 (some .int), .fieldLink RX6 97 "GongTideModel" "strokes" "I", .fieldLink RX6 109 "GongTideModel" "thought" "I", .fieldLink RX6 16 "GongTideModel" "hourOf" "[I", .fieldLink RX6 19 "GongTideModel" "loudOf" "[I"] ++ wsX60)
def wsX6_howMany_r1 : List Cond := [Cond.fieldLink RX6 94 "GongTideModel" "houses" "I", Cond.fieldLink RX6 97 "GongTideModel" "strokes" "I", Cond.fieldLink RX6 103 "GongTideModel" "changes" "I", Cond.fieldLink RX6 106 "GongTideModel" "heard" "I", Cond.fieldLink RX6 66 "GongTideModel" "pageLength" "I", Cond.fieldLink RX6 100 "GongTideModel" "colonies" "I", Cond.methodLink RX6 217 yX6_highest, Cond.instanceMethod yX6_highest, Cond.selects RX6 yX6_highest yX6_highest, Cond.initialized RX6, Cond.code yX6_highest cX6_highest 3 (some .int), Cond.methodLink RX6 112 yX6_tideAt, Cond.instanceMethod yX6_tideAt, Cond.selects RX6 yX6_tideAt yX6_tideAt, Cond.code yX6_tideAt cX6_tideAt 6 (some .int), Cond.fieldLink RX6 109 "GongTideModel" "thought" "I", Cond.fieldLink RX6 16 "GongTideModel" "hourOf" "[I", Cond.fieldLink RX6 19 "GongTideModel" "loudOf" "[I", Cond.methodLink RX6 164 yX6_hoursAll, Cond.instanceMethod yX6_hoursAll, Cond.selects RX6 yX6_hoursAll yX6_hoursAll, Cond.code yX6_hoursAll cX6_hoursAll 4 (some .int), Cond.methodLink RX6 128 yX6_hoursOf, Cond.instanceMethod yX6_hoursOf]
def wsX6_howMany_r2 : List Cond := [Cond.selects RX6 yX6_hoursOf yX6_hoursOf, Cond.code yX6_hoursOf cX6_hoursOf 5 (some .int), Cond.methodLink RX6 125 yX6_howAt, Cond.instanceMethod yX6_howAt, Cond.selects RX6 yX6_howAt yX6_howAt, Cond.code yX6_howAt cX6_howAt 4 (some .int), Cond.methodLink RX6 122 yX6_mannersAt, Cond.instanceMethod yX6_mannersAt, Cond.selects RX6 yX6_mannersAt yX6_mannersAt, Cond.code yX6_mannersAt cX6_mannersAt 4 (some .int), Cond.fieldLink RX6 13 "GongTideModel" "levelOf" "[I", Cond.fieldLink RX6 7 "GongTideModel" "kindOf" "[I", Cond.methodLink RX6 115 yX6_less, Cond.static yX6_less, Cond.code yX6_less cX6_less 2 (some .int), Cond.methodLink RX6 119 yX6_tideBefore, Cond.instanceMethod yX6_tideBefore, Cond.selects RX6 yX6_tideBefore yX6_tideBefore, Cond.code yX6_tideBefore cX6_tideBefore 2 (some .int)]
def wsX6_howMany : List Cond := .code yX6_howMany cX6_howMany 2 (some .int) :: ((wsX6_howMany_r1 ++ wsX6_howMany_r2) ++ wsX60)
def wsX6_count_r1 : List Cond := [Cond.methodLink RX6 220 yX6_howMany, Cond.instanceMethod yX6_howMany, Cond.selects RX6 yX6_howMany yX6_howMany, Cond.initialized RX6, Cond.code yX6_howMany cX6_howMany 2 (some .int), Cond.fieldLink RX6 94 "GongTideModel" "houses" "I", Cond.fieldLink RX6 97 "GongTideModel" "strokes" "I", Cond.fieldLink RX6 103 "GongTideModel" "changes" "I", Cond.fieldLink RX6 106 "GongTideModel" "heard" "I", Cond.fieldLink RX6 66 "GongTideModel" "pageLength" "I", Cond.fieldLink RX6 100 "GongTideModel" "colonies" "I", Cond.methodLink RX6 217 yX6_highest, Cond.instanceMethod yX6_highest, Cond.selects RX6 yX6_highest yX6_highest, Cond.code yX6_highest cX6_highest 3 (some .int), Cond.methodLink RX6 112 yX6_tideAt, Cond.instanceMethod yX6_tideAt, Cond.selects RX6 yX6_tideAt yX6_tideAt, Cond.code yX6_tideAt cX6_tideAt 6 (some .int), Cond.fieldLink RX6 109 "GongTideModel" "thought" "I", Cond.fieldLink RX6 16 "GongTideModel" "hourOf" "[I", Cond.fieldLink RX6 19 "GongTideModel" "loudOf" "[I", Cond.methodLink RX6 164 yX6_hoursAll, Cond.instanceMethod yX6_hoursAll]
def wsX6_count_r2 : List Cond := [Cond.selects RX6 yX6_hoursAll yX6_hoursAll, Cond.code yX6_hoursAll cX6_hoursAll 4 (some .int), Cond.methodLink RX6 128 yX6_hoursOf, Cond.instanceMethod yX6_hoursOf, Cond.selects RX6 yX6_hoursOf yX6_hoursOf, Cond.code yX6_hoursOf cX6_hoursOf 5 (some .int), Cond.methodLink RX6 125 yX6_howAt, Cond.instanceMethod yX6_howAt, Cond.selects RX6 yX6_howAt yX6_howAt, Cond.code yX6_howAt cX6_howAt 4 (some .int), Cond.methodLink RX6 122 yX6_mannersAt, Cond.instanceMethod yX6_mannersAt, Cond.selects RX6 yX6_mannersAt yX6_mannersAt, Cond.code yX6_mannersAt cX6_mannersAt 4 (some .int), Cond.fieldLink RX6 13 "GongTideModel" "levelOf" "[I", Cond.fieldLink RX6 7 "GongTideModel" "kindOf" "[I", Cond.methodLink RX6 115 yX6_less, Cond.static yX6_less, Cond.code yX6_less cX6_less 2 (some .int), Cond.methodLink RX6 119 yX6_tideBefore, Cond.instanceMethod yX6_tideBefore, Cond.selects RX6 yX6_tideBefore yX6_tideBefore, Cond.code yX6_tideBefore cX6_tideBefore 2 (some .int)]
def wsX6_count : List Cond := .code yX6_count cX6_count 2 (some .int) :: ((wsX6_count_r1 ++ wsX6_count_r2) ++ wsX60)
def wsX6_mix : List Cond := .code yX6_mix cX6_mix 3 none :: ([.constantLong RX6 223 (31), .fieldLink RX6 225 "GongTideModel" "h" "J"] ++ wsX60)
def wsX6_digest_r1 : List Cond := [Cond.constantLong RX6 228 (1091), Cond.fieldLink RX6 225 "GongTideModel" "h" "J", Cond.fieldLink RX6 94 "GongTideModel" "houses" "I", Cond.fieldLink RX6 97 "GongTideModel" "strokes" "I", Cond.fieldLink RX6 66 "GongTideModel" "pageLength" "I", Cond.fieldLink RX6 34 "GongTideModel" "page" "[B", Cond.methodLink RX6 138 yX6_houseNow, Cond.instanceMethod yX6_houseNow, Cond.selects RX6 yX6_houseNow yX6_houseNow, Cond.initialized RX6, Cond.code yX6_houseNow cX6_houseNow 3 (some .int), Cond.fieldLink RX6 7 "GongTideModel" "kindOf" "[I", Cond.fieldLink RX6 13 "GongTideModel" "levelOf" "[I", Cond.methodLink RX6 128 yX6_hoursOf, Cond.instanceMethod yX6_hoursOf, Cond.selects RX6 yX6_hoursOf yX6_hoursOf, Cond.code yX6_hoursOf cX6_hoursOf 5 (some .int), Cond.methodLink RX6 125 yX6_howAt, Cond.instanceMethod yX6_howAt, Cond.selects RX6 yX6_howAt yX6_howAt, Cond.code yX6_howAt cX6_howAt 4 (some .int), Cond.methodLink RX6 122 yX6_mannersAt, Cond.instanceMethod yX6_mannersAt, Cond.selects RX6 yX6_mannersAt yX6_mannersAt]
def wsX6_digest_r2 : List Cond := [Cond.code yX6_mannersAt cX6_mannersAt 4 (some .int), Cond.methodLink RX6 112 yX6_tideAt, Cond.instanceMethod yX6_tideAt, Cond.selects RX6 yX6_tideAt yX6_tideAt, Cond.code yX6_tideAt cX6_tideAt 6 (some .int), Cond.fieldLink RX6 109 "GongTideModel" "thought" "I", Cond.fieldLink RX6 16 "GongTideModel" "hourOf" "[I", Cond.fieldLink RX6 19 "GongTideModel" "loudOf" "[I", Cond.methodLink RX6 115 yX6_less, Cond.static yX6_less, Cond.code yX6_less cX6_less 2 (some .int), Cond.methodLink RX6 119 yX6_tideBefore, Cond.instanceMethod yX6_tideBefore, Cond.selects RX6 yX6_tideBefore yX6_tideBefore, Cond.code yX6_tideBefore cX6_tideBefore 2 (some .int), Cond.methodLink RX6 131 yX6_greatestHour, Cond.instanceMethod yX6_greatestHour, Cond.selects RX6 yX6_greatestHour yX6_greatestHour, Cond.code yX6_greatestHour cX6_greatestHour 4 (some .int), Cond.methodLink RX6 230 yX6_mix, Cond.instanceMethod yX6_mix, Cond.selects RX6 yX6_mix yX6_mix, Cond.code yX6_mix cX6_mix 3 none, Cond.constantLong RX6 223 (31)]
def wsX6_digest_r3 : List Cond := [Cond.methodLink RX6 147 yX6_strokeNow, Cond.instanceMethod yX6_strokeNow, Cond.selects RX6 yX6_strokeNow yX6_strokeNow, Cond.code yX6_strokeNow cX6_strokeNow 4 (some .int), Cond.methodLink RX6 141 yX6_isHour, Cond.static yX6_isHour, Cond.code yX6_isHour cX6_isHour 1 (some .boolean), Cond.methodLink RX6 62 yX6_within, Cond.static yX6_within, Cond.code yX6_within cX6_within 3 (some .boolean), Cond.methodLink RX6 157 yX6_dinnerNow, Cond.instanceMethod yX6_dinnerNow, Cond.selects RX6 yX6_dinnerNow yX6_dinnerNow, Cond.code yX6_dinnerNow cX6_dinnerNow 4 (some .int), Cond.methodLink RX6 154 yX6_isPolite, Cond.instanceMethod yX6_isPolite, Cond.selects RX6 yX6_isPolite yX6_isPolite, Cond.code yX6_isPolite cX6_isPolite 7 (some .boolean), Cond.methodLink RX6 150 yX6_isIn, Cond.static yX6_isIn, Cond.code yX6_isIn cX6_isIn 2 (some .boolean), Cond.methodLink RX6 167 yX6_bestNow, Cond.instanceMethod yX6_bestNow, Cond.selects RX6 yX6_bestNow yX6_bestNow]
def wsX6_digest_r4 : List Cond := [Cond.code yX6_bestNow cX6_bestNow 7 (some .int), Cond.methodLink RX6 160 yX6_think, Cond.instanceMethod yX6_think, Cond.selects RX6 yX6_think yX6_think, Cond.code yX6_think cX6_think 3 none, Cond.methodLink RX6 164 yX6_hoursAll, Cond.instanceMethod yX6_hoursAll, Cond.selects RX6 yX6_hoursAll yX6_hoursAll, Cond.code yX6_hoursAll cX6_hoursAll 4 (some .int), Cond.methodLink RX6 173 yX6_hoursNow, Cond.instanceMethod yX6_hoursNow, Cond.selects RX6 yX6_hoursNow yX6_hoursNow, Cond.code yX6_hoursNow cX6_hoursNow 3 (some .int), Cond.methodLink RX6 170 yX6_isHeard, Cond.instanceMethod yX6_isHeard, Cond.selects RX6 yX6_isHeard yX6_isHeard, Cond.code yX6_isHeard cX6_isHeard 4 (some .boolean), Cond.fieldLink RX6 106 "GongTideModel" "heard" "I", Cond.fieldLink RX6 28 "GongTideModel" "heardLoud" "[I", Cond.fieldLink RX6 22 "GongTideModel" "heardHouse" "[I", Cond.fieldLink RX6 25 "GongTideModel" "heardHour" "[I", Cond.fieldLink RX6 31 "GongTideModel" "heardHow" "[I", Cond.methodLink RX6 181 yX6_askNow, Cond.instanceMethod yX6_askNow]
def wsX6_digest_r5 : List Cond := [Cond.selects RX6 yX6_askNow yX6_askNow, Cond.code yX6_askNow cX6_askNow 7 (some .int), Cond.constant RX6 176 (268435456), Cond.methodLink RX6 177 yX6_worstIn, Cond.instanceMethod yX6_worstIn, Cond.selects RX6 yX6_worstIn yX6_worstIn, Cond.code yX6_worstIn cX6_worstIn 9 (some .int), Cond.methodLink RX6 220 yX6_howMany, Cond.instanceMethod yX6_howMany, Cond.selects RX6 yX6_howMany yX6_howMany, Cond.code yX6_howMany cX6_howMany 2 (some .int), Cond.fieldLink RX6 103 "GongTideModel" "changes" "I", Cond.fieldLink RX6 100 "GongTideModel" "colonies" "I", Cond.methodLink RX6 217 yX6_highest, Cond.instanceMethod yX6_highest, Cond.selects RX6 yX6_highest yX6_highest, Cond.code yX6_highest cX6_highest 3 (some .int)]
def wsX6_digest : List Cond := .code yX6_digest cX6_digest 3 (some .long) :: ((wsX6_digest_r1 ++ (wsX6_digest_r2 ++ (wsX6_digest_r3 ++ (wsX6_digest_r4 ++ wsX6_digest_r5)))) ++ wsX60)
def wsJ9_max_7cf53 : List Cond := .code yJ9_max_7cf53 cJ9_max_7cf53 2 (some .int) :: ([])
def wsJ9_min_7cf53 : List Cond := .code yJ9_min_7cf53 cJ9_min_7cf53 2 (some .int) :: ([])
def wsL_law_r1 : List Cond := [Cond.classLink RL 7 RX5, Cond.instantiable RX5 9, Cond.initialized RX5, Cond.classLink RL 10 RX6, Cond.instantiable RX6 34, Cond.initialized RX6, Cond.methodLink RL 9 yX5_init, Cond.instanceMethod yX5_init, Cond.code yX5_init cX5_init 1 none, Cond.methodLink RX5 1 objectInit, Cond.instanceMethod objectInit, Cond.code objectInit ⟨#[0xb1]⟩ 1 none, Cond.classLink RX5 7 RX2, Cond.instantiable RX2 2, Cond.initialized RX2, Cond.fieldLink RX5 10 "GongTide" "page" "LGongTide$Page;", Cond.arrayClass .int, Cond.fieldLink RX5 16 "GongTide" "kinds" "[I", Cond.classLink RX5 20 RX0, Cond.instantiable RX0 4, Cond.initialized RX0, Cond.fieldLink RX5 23 "GongTide" "affairs" "LGongTide$Affairs;", Cond.fieldLink RX5 27 "GongTide" "kept" "LGongTide$Affairs;", Cond.classLink RX5 30 RX4]
def wsL_law_r2 : List Cond := [Cond.instantiable RX4 1, Cond.initialized RX4, Cond.fieldLink RX5 33 "GongTide" "now" "LGongTide$Tide;", Cond.fieldLink RX5 37 "GongTide" "supposed" "LGongTide$Tide;", Cond.instanceMethod yX2_init, Cond.code yX2_init cX2_init 1 none, Cond.methodLink RX2 3 objectInit, Cond.fieldLink RX2 9 "GongTide$Page" "codes" "[I", Cond.instanceMethod yX0_init, Cond.code yX0_init cX0_init 1 none, Cond.methodLink RX0 3 objectInit, Cond.fieldLink RX0 9 "GongTide$Affairs" "levels" "[I", Cond.classLink RX0 15 RX3, Cond.instantiable RX3 3, Cond.initialized RX3, Cond.fieldLink RX0 18 "GongTide$Affairs" "strokes" "LGongTide$Strokes;", Cond.classLink RX0 22 RX1, Cond.instantiable RX1 5, Cond.initialized RX1, Cond.fieldLink RX0 25 "GongTide$Affairs" "heard" "LGongTide$Heard;", Cond.instanceMethod yX3_init, Cond.code yX3_init cX3_init 1 none, Cond.methodLink RX3 3 objectInit, Cond.fieldLink RX3 9 "GongTide$Strokes" "hours" "[I"]
def wsL_law_r3 : List Cond := [Cond.fieldLink RX3 15 "GongTide$Strokes" "louds" "[I", Cond.instanceMethod yX1_init, Cond.code yX1_init cX1_init 1 none, Cond.methodLink RX1 3 objectInit, Cond.fieldLink RX1 9 "GongTide$Heard" "houses" "[I", Cond.fieldLink RX1 15 "GongTide$Heard" "hours" "[I", Cond.fieldLink RX1 18 "GongTide$Heard" "louds" "[I", Cond.fieldLink RX1 21 "GongTide$Heard" "hows" "[I", Cond.instanceMethod yX4_init, Cond.code yX4_init cX4_init 1 none, Cond.methodLink RX4 3 objectInit, Cond.fieldLink RX4 9 "GongTide$Tide" "sums" "[I", Cond.methodLink RL 12 yX6_init, Cond.instanceMethod yX6_init, Cond.code yX6_init cX6_init 1 none, Cond.methodLink RX6 1 objectInit, Cond.fieldLink RX6 7 "GongTideModel" "kindOf" "[I", Cond.fieldLink RX6 13 "GongTideModel" "levelOf" "[I", Cond.fieldLink RX6 16 "GongTideModel" "hourOf" "[I", Cond.fieldLink RX6 19 "GongTideModel" "loudOf" "[I", Cond.fieldLink RX6 22 "GongTideModel" "heardHouse" "[I", Cond.fieldLink RX6 25 "GongTideModel" "heardHour" "[I", Cond.fieldLink RX6 28 "GongTideModel" "heardLoud" "[I", Cond.fieldLink RX6 31 "GongTideModel" "heardHow" "[I"]
def wsL_law_r4 : List Cond := [Cond.arrayClass .byte, Cond.fieldLink RX6 34 "GongTideModel" "page" "[B", Cond.fieldLink RX6 38 "GongTideModel" "savedHour" "[I", Cond.fieldLink RX6 41 "GongTideModel" "keptLevel" "[I", Cond.fieldLink RX6 44 "GongTideModel" "keptHour" "[I", Cond.fieldLink RX6 47 "GongTideModel" "keptLoud" "[I", Cond.fieldLink RX6 50 "GongTideModel" "keptHouse" "[I", Cond.fieldLink RX6 53 "GongTideModel" "keptHeardHour" "[I", Cond.fieldLink RX6 56 "GongTideModel" "keptHeardLoud" "[I", Cond.fieldLink RX6 59 "GongTideModel" "keptHow" "[I", Cond.methodLink RL 13 yX5_letter, Cond.instanceMethod yX5_letter, Cond.selects RX5 yX5_letter yX5_letter, Cond.code yX5_letter cX5_letter 2 (some .int), Cond.methodLink RX5 40 yX5_isWithin, Cond.static yX5_isWithin, Cond.code yX5_isWithin cX5_isWithin 3 (some .boolean), Cond.methodLink RX5 44 yX2_write, Cond.instanceMethod yX2_write, Cond.selects RX2 yX2_write yX2_write, Cond.code yX2_write cX2_write 2 (some .boolean), Cond.fieldLink RX2 15 "GongTide$Page" "size" "I", Cond.methodLink RX5 48 yX2_size, Cond.instanceMethod yX2_size]
def wsL_law_r5 : List Cond := [Cond.selects RX2 yX2_size yX2_size, Cond.code yX2_size cX2_size 1 (some .int), Cond.methodLink RL 17 yX6_letter, Cond.instanceMethod yX6_letter, Cond.selects RX6 yX6_letter yX6_letter, Cond.code yX6_letter cX6_letter 2 (some .int), Cond.fieldLink RX6 66 "GongTideModel" "pageLength" "I", Cond.methodLink RX6 62 yX6_within, Cond.static yX6_within, Cond.code yX6_within cX6_within 3 (some .boolean), Cond.methodLink RL 18 yX5_blank, Cond.instanceMethod yX5_blank, Cond.selects RX5 yX5_blank yX5_blank, Cond.code yX5_blank cX5_blank 1 (some .int), Cond.methodLink RX5 52 yX2_wipe, Cond.instanceMethod yX2_wipe, Cond.selects RX2 yX2_wipe yX2_wipe, Cond.code yX2_wipe cX2_wipe 2 (some .int), Cond.methodLink RL 22 yX6_blank, Cond.instanceMethod yX6_blank, Cond.selects RX6 yX6_blank yX6_blank, Cond.code yX6_blank cX6_blank 2 (some .int), Cond.methodLink RL 23 yX5_fault, Cond.instanceMethod yX5_fault]
def wsL_law_r6 : List Cond := [Cond.selects RX5 yX5_fault yX5_fault, Cond.code yX5_fault cX5_fault 1 (some .int), Cond.methodLink RX5 55 yX2_soundLetters, Cond.instanceMethod yX2_soundLetters, Cond.selects RX2 yX2_soundLetters yX2_soundLetters, Cond.code yX2_soundLetters cX2_soundLetters 5 (some .int), Cond.methodLink RX2 27 yX2_houses, Cond.instanceMethod yX2_houses, Cond.selects RX2 yX2_houses yX2_houses, Cond.code yX2_houses cX2_houses 2 (some .int), Cond.methodLink RX2 23 yX2_at, Cond.instanceMethod yX2_at, Cond.selects RX2 yX2_at yX2_at, Cond.code yX2_at cX2_at 2 (some .int), Cond.methodLink RX2 31 yX2_suitsHouses, Cond.static yX2_suitsHouses, Cond.code yX2_suitsHouses cX2_suitsHouses 3 (some .boolean), Cond.static yX5_kindOf, Cond.code yX5_kindOf cX5_kindOf 1 (some .int), Cond.methodLink RX2 35 yX2_suitsStrokes, Cond.static yX2_suitsStrokes, Cond.code yX2_suitsStrokes cX2_suitsStrokes 3 (some .boolean), Cond.methodLink RL 26 yX6_fault, Cond.instanceMethod yX6_fault]
def wsL_law_r7 : List Cond := [Cond.selects RX6 yX6_fault yX6_fault, Cond.code yX6_fault cX6_fault 1 (some .int), Cond.methodLink RX6 90 yX6_read, Cond.instanceMethod yX6_read, Cond.selects RX6 yX6_read yX6_read, Cond.code yX6_read cX6_read 2 (some .int), Cond.fieldLink RX6 73 "GongTideModel" "isWhole" "Z", Cond.fieldLink RX6 81 "GongTideModel" "newHouses" "I", Cond.fieldLink RX6 70 "GongTideModel" "newStrokes" "I", Cond.methodLink RX6 84 yX6_kindBy, Cond.static yX6_kindBy, Cond.code yX6_kindBy cX6_kindBy 1 (some .int), Cond.methodLink RX6 77 yX6_figure, Cond.instanceMethod yX6_figure, Cond.selects RX6 yX6_figure yX6_figure, Cond.code yX6_figure cX6_figure 2 (some .int), Cond.methodLink RX6 87 yX6_readStrokes, Cond.instanceMethod yX6_readStrokes, Cond.selects RX6 yX6_readStrokes yX6_readStrokes, Cond.code yX6_readStrokes cX6_readStrokes 3 (some .int), Cond.methodLink RL 27 yX5_colony, Cond.instanceMethod yX5_colony, Cond.selects RX5 yX5_colony yX5_colony, Cond.code yX5_colony cX5_colony 3 (some .int)]
def wsL_law_r8 : List Cond := [Cond.fieldLink RX5 65 "GongTide" "houseCount" "I", Cond.fieldLink RX5 86 "GongTide$Affairs" "strokes" "LGongTide$Strokes;", Cond.fieldLink RX5 96 "GongTide" "isKept" "Z", Cond.fieldLink RX5 100 "GongTide" "readings" "I", Cond.methodLink RX5 58 yX2_tellsColony, Cond.instanceMethod yX2_tellsColony, Cond.selects RX2 yX2_tellsColony yX2_tellsColony, Cond.code yX2_tellsColony cX2_tellsColony 3 (some .boolean), Cond.methodLink RX2 38 yX2_soundLetters, Cond.methodLink RX5 62 yX2_houses, Cond.methodLink RX5 69 yX0_clear, Cond.instanceMethod yX0_clear, Cond.selects RX0 yX0_clear yX0_clear, Cond.code yX0_clear cX0_clear 1 none, Cond.fieldLink RX0 35 "GongTide$Affairs" "changes" "I", Cond.methodLink RX0 29 yX3_clear, Cond.instanceMethod yX3_clear, Cond.selects RX3 yX3_clear yX3_clear, Cond.code yX3_clear cX3_clear 1 none, Cond.fieldLink RX3 18 "GongTide$Strokes" "size" "I", Cond.methodLink RX0 32 yX1_clear, Cond.instanceMethod yX1_clear, Cond.selects RX1 yX1_clear yX1_clear, Cond.code yX1_clear cX1_clear 2 (some .int)]
def wsL_law_r9 : List Cond := [Cond.fieldLink RX1 24 "GongTide$Heard" "size" "I", Cond.methodLink RX5 72 yX2_at, Cond.methodLink RX5 76 yX5_kindOf, Cond.methodLink RX5 79 yX2_digitAt, Cond.instanceMethod yX2_digitAt, Cond.selects RX2 yX2_digitAt yX2_digitAt, Cond.code yX2_digitAt cX2_digitAt 2 (some .int), Cond.methodLink RX5 82 yX0_setLevel, Cond.instanceMethod yX0_setLevel, Cond.selects RX0 yX0_setLevel yX0_setLevel, Cond.code yX0_setLevel cX0_setLevel 3 none, Cond.methodLink RX5 90 yX3_add, Cond.instanceMethod yX3_add, Cond.selects RX3 yX3_add yX3_add, Cond.code yX3_add cX3_add 3 (some .boolean), Cond.methodLink RL 30 yX6_colony, Cond.instanceMethod yX6_colony, Cond.selects RX6 yX6_colony yX6_colony, Cond.code yX6_colony cX6_colony 2 (some .int), Cond.fieldLink RX6 94 "GongTideModel" "houses" "I", Cond.fieldLink RX6 97 "GongTideModel" "strokes" "I", Cond.fieldLink RX6 100 "GongTideModel" "colonies" "I", Cond.fieldLink RX6 103 "GongTideModel" "changes" "I", Cond.fieldLink RX6 106 "GongTideModel" "heard" "I"]
def wsL_law_r10 : List Cond := [Cond.methodLink RL 31 yX5_about, Cond.instanceMethod yX5_about, Cond.selects RX5 yX5_about yX5_about, Cond.code yX5_about cX5_about 4 (some .int), Cond.methodLink RX5 103 yX5_isHouse, Cond.instanceMethod yX5_isHouse, Cond.selects RX5 yX5_isHouse yX5_isHouse, Cond.code yX5_isHouse cX5_isHouse 2 (some .boolean), Cond.methodLink RX5 106 yX5_tideNow, Cond.instanceMethod yX5_tideNow, Cond.selects RX5 yX5_tideNow yX5_tideNow, Cond.code yX5_tideNow cX5_tideNow 3 (some (.object "GongTide$Tide")), Cond.methodLink RX5 241 yX4_clear, Cond.instanceMethod yX4_clear, Cond.selects RX4 yX4_clear yX4_clear, Cond.code yX4_clear cX4_clear 2 none, Cond.methodLink RX5 141 yX3_size, Cond.instanceMethod yX3_size, Cond.selects RX3 yX3_size yX3_size, Cond.code yX3_size cX3_size 1 (some .int), Cond.methodLink RX5 151 yX3_hour, Cond.instanceMethod yX3_hour, Cond.selects RX3 yX3_hour yX3_hour, Cond.code yX3_hour cX3_hour 2 (some .int)]
def wsL_law_r11 : List Cond := [Cond.methodLink RX3 26 yX3_has, Cond.instanceMethod yX3_has, Cond.selects RX3 yX3_has yX3_has, Cond.code yX3_has cX3_has 2 (some .boolean), Cond.methodLink RX5 145 yX3_loud, Cond.instanceMethod yX3_loud, Cond.selects RX3 yX3_loud yX3_loud, Cond.code yX3_loud cX3_loud 2 (some .int), Cond.methodLink RX5 242 yX4_add, Cond.instanceMethod yX4_add, Cond.selects RX4 yX4_add yX4_add, Cond.code yX4_add cX4_add 5 none, Cond.methodLink RX4 15 Lib.Math.max.name, Cond.static Lib.Math.max.name, Cond.initialized "java/lang/Math", Cond.code Lib.Math.max.name Lib.Math.max.code 2 (some .int), Cond.methodLink RX5 110 yX5_kindAt, Cond.instanceMethod yX5_kindAt, Cond.selects RX5 yX5_kindAt yX5_kindAt, Cond.code yX5_kindAt cX5_kindAt 2 (some .int), Cond.methodLink RX5 113 yX0_level, Cond.instanceMethod yX0_level, Cond.selects RX0 yX0_level yX0_level, Cond.code yX0_level cX0_level 2 (some .int)]
def wsL_law_r12 : List Cond := [Cond.methodLink RX5 116 yX5_hoursOf, Cond.instanceMethod yX5_hoursOf, Cond.selects RX5 yX5_hoursOf yX5_hoursOf, Cond.code yX5_hoursOf cX5_hoursOf 6 (some .int), Cond.methodLink RX5 124 yX5_mannersAt, Cond.instanceMethod yX5_mannersAt, Cond.selects RX5 yX5_mannersAt yX5_mannersAt, Cond.code yX5_mannersAt cX5_mannersAt 6 (some .int), Cond.methodLink RX5 254 Lib.Math.max.name, Cond.methodLink RX5 262 Lib.Math.min.name, Cond.static Lib.Math.min.name, Cond.code Lib.Math.min.name Lib.Math.min.code 2 (some .int), Cond.methodLink RX5 137 yX4_at, Cond.instanceMethod yX4_at, Cond.selects RX4 yX4_at yX4_at, Cond.code yX4_at cX4_at 2 (some .int), Cond.methodLink RX4 21 Lib.Math.min.name, Cond.methodLink RX5 259 yX5_above, Cond.static yX5_above, Cond.code yX5_above cX5_above 2 (some .int), Cond.methodLink RX5 265 yX5_howAt, Cond.static yX5_howAt, Cond.code yX5_howAt cX5_howAt 1 (some .int), Cond.methodLink RX5 120 yX5_hourOfMostManners]
def wsL_law_r13 : List Cond := [Cond.instanceMethod yX5_hourOfMostManners, Cond.selects RX5 yX5_hourOfMostManners yX5_hourOfMostManners, Cond.code yX5_hourOfMostManners cX5_hourOfMostManners 5 (some .int), Cond.methodLink RL 35 yX6_about, Cond.instanceMethod yX6_about, Cond.selects RX6 yX6_about yX6_about, Cond.code yX6_about cX6_about 3 (some .int), Cond.methodLink RX6 134 yX6_isHouse, Cond.instanceMethod yX6_isHouse, Cond.selects RX6 yX6_isHouse yX6_isHouse, Cond.code yX6_isHouse cX6_isHouse 2 (some .boolean), Cond.methodLink RX6 138 yX6_houseNow, Cond.instanceMethod yX6_houseNow, Cond.selects RX6 yX6_houseNow yX6_houseNow, Cond.code yX6_houseNow cX6_houseNow 3 (some .int), Cond.methodLink RX6 128 yX6_hoursOf, Cond.instanceMethod yX6_hoursOf, Cond.selects RX6 yX6_hoursOf yX6_hoursOf, Cond.code yX6_hoursOf cX6_hoursOf 5 (some .int), Cond.methodLink RX6 125 yX6_howAt, Cond.instanceMethod yX6_howAt, Cond.selects RX6 yX6_howAt yX6_howAt, Cond.code yX6_howAt cX6_howAt 4 (some .int), Cond.methodLink RX6 122 yX6_mannersAt]
def wsL_law_r14 : List Cond := [Cond.instanceMethod yX6_mannersAt, Cond.selects RX6 yX6_mannersAt yX6_mannersAt, Cond.code yX6_mannersAt cX6_mannersAt 4 (some .int), Cond.methodLink RX6 112 yX6_tideAt, Cond.instanceMethod yX6_tideAt, Cond.selects RX6 yX6_tideAt yX6_tideAt, Cond.code yX6_tideAt cX6_tideAt 6 (some .int), Cond.fieldLink RX6 109 "GongTideModel" "thought" "I", Cond.methodLink RX6 115 yX6_less, Cond.static yX6_less, Cond.code yX6_less cX6_less 2 (some .int), Cond.methodLink RX6 119 yX6_tideBefore, Cond.instanceMethod yX6_tideBefore, Cond.selects RX6 yX6_tideBefore yX6_tideBefore, Cond.code yX6_tideBefore cX6_tideBefore 2 (some .int), Cond.methodLink RX6 131 yX6_greatestHour, Cond.instanceMethod yX6_greatestHour, Cond.selects RX6 yX6_greatestHour yX6_greatestHour, Cond.code yX6_greatestHour cX6_greatestHour 4 (some .int), Cond.methodLink RL 36 yX5_as, Cond.instanceMethod yX5_as, Cond.selects RX5 yX5_as yX5_as, Cond.code yX5_as cX5_as 5 (some .int), Cond.methodLink RL 39 yX6_as]
def wsL_law_r15 : List Cond := [Cond.instanceMethod yX6_as, Cond.selects RX6 yX6_as yX6_as, Cond.code yX6_as cX6_as 4 (some .int), Cond.methodLink RL 40 yX5_raise, Cond.instanceMethod yX5_raise, Cond.selects RX5 yX5_raise yX5_raise, Cond.code yX5_raise cX5_raise 4 (some .int), Cond.fieldLink RX5 128 "GongTide$Affairs" "changes" "I", Cond.methodLink RL 43 yX6_raise, Cond.instanceMethod yX6_raise, Cond.selects RX6 yX6_raise yX6_raise, Cond.code yX6_raise cX6_raise 4 (some .int), Cond.methodLink RL 44 yX5_tide, Cond.instanceMethod yX5_tide, Cond.selects RX5 yX5_tide yX5_tide, Cond.code yX5_tide cX5_tide 2 (some .int), Cond.methodLink RX5 131 yX5_isHourOfDay, Cond.static yX5_isHourOfDay, Cond.code yX5_isHourOfDay cX5_isHourOfDay 1 (some .boolean), Cond.methodLink RX5 134 yX5_hasColony, Cond.instanceMethod yX5_hasColony, Cond.selects RX5 yX5_hasColony yX5_hasColony, Cond.code yX5_hasColony cX5_hasColony 1 (some .boolean), Cond.methodLink RL 47 yX6_tide]
def wsL_law_r16 : List Cond := [Cond.instanceMethod yX6_tide, Cond.selects RX6 yX6_tide yX6_tide, Cond.code yX6_tide cX6_tide 2 (some .int), Cond.methodLink RX6 141 yX6_isHour, Cond.static yX6_isHour, Cond.code yX6_isHour cX6_isHour 1 (some .boolean), Cond.methodLink RL 48 yX5_strike, Cond.instanceMethod yX5_strike, Cond.selects RX5 yX5_strike yX5_strike, Cond.code yX5_strike cX5_strike 3 (some .int), Cond.methodLink RX5 138 yX5_isHeardLoud, Cond.static yX5_isHeardLoud, Cond.code yX5_isHeardLoud cX5_isHeardLoud 1 (some .boolean), Cond.methodLink RL 51 yX6_strike, Cond.instanceMethod yX6_strike, Cond.selects RX6 yX6_strike yX6_strike, Cond.code yX6_strike cX6_strike 3 (some .int), Cond.methodLink RL 52 yX5_felt, Cond.instanceMethod yX5_felt, Cond.selects RX5 yX5_felt yX5_felt, Cond.code yX5_felt cX5_felt 4 (some .int), Cond.methodLink RX5 142 yX3_has, Cond.methodLink RX5 148 yX3_setLoud, Cond.instanceMethod yX3_setLoud]
def wsL_law_r17 : List Cond := [Cond.selects RX3 yX3_setLoud yX3_setLoud, Cond.code yX3_setLoud cX3_setLoud 3 none, Cond.methodLink RL 55 yX6_felt, Cond.instanceMethod yX6_felt, Cond.selects RX6 yX6_felt yX6_felt, Cond.code yX6_felt cX6_felt 4 (some .int), Cond.methodLink RX6 144 yX6_isStroke, Cond.instanceMethod yX6_isStroke, Cond.selects RX6 yX6_isStroke yX6_isStroke, Cond.code yX6_isStroke cX6_isStroke 2 (some .boolean), Cond.methodLink RL 56 yX5_stroke, Cond.instanceMethod yX5_stroke, Cond.selects RX5 yX5_stroke yX5_stroke, Cond.code yX5_stroke cX5_stroke 3 (some .int), Cond.methodLink RX5 154 yX3_goneAt, Cond.instanceMethod yX3_goneAt, Cond.selects RX3 yX3_goneAt yX3_goneAt, Cond.code yX3_goneAt cX3_goneAt 3 (some .int), Cond.methodLink RX3 30 yX3_hour, Cond.methodLink RX3 34 yX3_loud, Cond.methodLink RL 59 yX6_stroke, Cond.instanceMethod yX6_stroke, Cond.selects RX6 yX6_stroke yX6_stroke, Cond.code yX6_stroke cX6_stroke 3 (some .int)]
def wsL_law_r18 : List Cond := [Cond.methodLink RX6 147 yX6_strokeNow, Cond.instanceMethod yX6_strokeNow, Cond.selects RX6 yX6_strokeNow yX6_strokeNow, Cond.code yX6_strokeNow cX6_strokeNow 4 (some .int), Cond.methodLink RL 60 yX5_dinner, Cond.instanceMethod yX5_dinner, Cond.selects RX5 yX5_dinner yX5_dinner, Cond.code yX5_dinner cX5_dinner 5 (some .int), Cond.methodLink RX5 157 yX5_allHouses, Cond.instanceMethod yX5_allHouses, Cond.selects RX5 yX5_allHouses yX5_allHouses, Cond.code yX5_allHouses cX5_allHouses 1 (some .int), Cond.methodLink RX5 160 yX5_canDine, Cond.instanceMethod yX5_canDine, Cond.selects RX5 yX5_canDine yX5_canDine, Cond.code yX5_canDine cX5_canDine 8 (some .boolean), Cond.methodLink RL 63 yX6_dinner, Cond.instanceMethod yX6_dinner, Cond.selects RX6 yX6_dinner yX6_dinner, Cond.code yX6_dinner cX6_dinner 3 (some .int), Cond.methodLink RX6 157 yX6_dinnerNow, Cond.instanceMethod yX6_dinnerNow, Cond.selects RX6 yX6_dinnerNow yX6_dinnerNow, Cond.code yX6_dinnerNow cX6_dinnerNow 4 (some .int)]
def wsL_law_r19 : List Cond := [Cond.methodLink RX6 154 yX6_isPolite, Cond.instanceMethod yX6_isPolite, Cond.selects RX6 yX6_isPolite yX6_isPolite, Cond.code yX6_isPolite cX6_isPolite 7 (some .boolean), Cond.methodLink RX6 150 yX6_isIn, Cond.static yX6_isIn, Cond.code yX6_isIn cX6_isIn 2 (some .boolean), Cond.methodLink RL 64 yX5_best, Cond.instanceMethod yX5_best, Cond.selects RX5 yX5_best yX5_best, Cond.code yX5_best cX5_best 8 (some .int), Cond.methodLink RX5 164 yX5_suppose, Cond.instanceMethod yX5_suppose, Cond.selects RX5 yX5_suppose yX5_suppose, Cond.code yX5_suppose cX5_suppose 4 (some (.object "GongTide$Tide")), Cond.methodLink RX5 244 yX4_copyFrom, Cond.instanceMethod yX4_copyFrom, Cond.selects RX4 yX4_copyFrom yX4_copyFrom, Cond.code yX4_copyFrom cX4_copyFrom 3 none, Cond.methodLink RX5 168 yX5_hoursOfAll, Cond.instanceMethod yX5_hoursOfAll, Cond.selects RX5 yX5_hoursOfAll yX5_hoursOfAll, Cond.code yX5_hoursOfAll cX5_hoursOfAll 5 (some .int), Cond.methodLink RL 67 yX6_best]
def wsL_law_r20 : List Cond := [Cond.instanceMethod yX6_best, Cond.selects RX6 yX6_best yX6_best, Cond.code yX6_best cX6_best 3 (some .int), Cond.methodLink RX6 167 yX6_bestNow, Cond.instanceMethod yX6_bestNow, Cond.selects RX6 yX6_bestNow yX6_bestNow, Cond.code yX6_bestNow cX6_bestNow 7 (some .int), Cond.methodLink RX6 160 yX6_think, Cond.instanceMethod yX6_think, Cond.selects RX6 yX6_think yX6_think, Cond.code yX6_think cX6_think 3 none, Cond.methodLink RX6 164 yX6_hoursAll, Cond.instanceMethod yX6_hoursAll, Cond.selects RX6 yX6_hoursAll yX6_hoursAll, Cond.code yX6_hoursAll cX6_hoursAll 4 (some .int), Cond.methodLink RL 68 yX5_hear, Cond.instanceMethod yX5_hear, Cond.selects RX5 yX5_hear yX5_hear, Cond.code yX5_hear cX5_hear 5 (some .int), Cond.fieldLink RX5 171 "GongTide$Affairs" "heard" "LGongTide$Heard;", Cond.methodLink RX5 175 yX1_add, Cond.instanceMethod yX1_add, Cond.selects RX1 yX1_add yX1_add, Cond.code yX1_add cX1_add 5 (some .boolean)]
def wsL_law_r21 : List Cond := [Cond.methodLink RX5 180 yX1_size, Cond.instanceMethod yX1_size, Cond.selects RX1 yX1_size yX1_size, Cond.code yX1_size cX1_size 1 (some .int), Cond.methodLink RL 72 yX6_hear, Cond.instanceMethod yX6_hear, Cond.selects RX6 yX6_hear yX6_hear, Cond.code yX6_hear cX6_hear 5 (some .int), Cond.methodLink RL 73 yX5_forget, Cond.instanceMethod yX5_forget, Cond.selects RX5 yX5_forget yX5_forget, Cond.code yX5_forget cX5_forget 1 (some .int), Cond.methodLink RX5 181 yX1_clear, Cond.methodLink RL 76 yX6_forget, Cond.instanceMethod yX6_forget, Cond.selects RX6 yX6_forget yX6_forget, Cond.code yX6_forget cX6_forget 2 (some .int), Cond.methodLink RL 77 yX5_hours, Cond.instanceMethod yX5_hours, Cond.selects RX5 yX5_hours yX5_hours, Cond.code yX5_hours cX5_hours 4 (some .int), Cond.methodLink RX5 183 yX5_agreesWithHeard, Cond.instanceMethod yX5_agreesWithHeard, Cond.selects RX5 yX5_agreesWithHeard yX5_agreesWithHeard]
def wsL_law_r22 : List Cond := [Cond.code yX5_agreesWithHeard cX5_agreesWithHeard 7 (some .boolean), Cond.methodLink RX5 268 yX1_loud, Cond.instanceMethod yX1_loud, Cond.selects RX1 yX1_loud yX1_loud, Cond.code yX1_loud cX1_loud 2 (some .int), Cond.methodLink RX1 32 yX1_has, Cond.instanceMethod yX1_has, Cond.selects RX1 yX1_has yX1_has, Cond.code yX1_has cX1_has 2 (some .boolean), Cond.methodLink RX5 269 yX1_house, Cond.instanceMethod yX1_house, Cond.selects RX1 yX1_house yX1_house, Cond.code yX1_house cX1_house 2 (some .int), Cond.methodLink RX5 272 yX1_hour, Cond.instanceMethod yX1_hour, Cond.selects RX1 yX1_hour yX1_hour, Cond.code yX1_hour cX1_hour 2 (some .int), Cond.methodLink RX5 273 yX1_how, Cond.instanceMethod yX1_how, Cond.selects RX1 yX1_how yX1_how, Cond.code yX1_how cX1_how 2 (some .int), Cond.methodLink RL 80 yX6_hours, Cond.instanceMethod yX6_hours, Cond.selects RX6 yX6_hours yX6_hours]
def wsL_law_r23 : List Cond := [Cond.code yX6_hours cX6_hours 1 (some .int), Cond.methodLink RX6 173 yX6_hoursNow, Cond.instanceMethod yX6_hoursNow, Cond.selects RX6 yX6_hoursNow yX6_hoursNow, Cond.code yX6_hoursNow cX6_hoursNow 3 (some .int), Cond.methodLink RX6 170 yX6_isHeard, Cond.instanceMethod yX6_isHeard, Cond.selects RX6 yX6_isHeard yX6_isHeard, Cond.code yX6_isHeard cX6_isHeard 4 (some .boolean), Cond.methodLink RL 81 yX5_ask, Cond.instanceMethod yX5_ask, Cond.selects RX5 yX5_ask yX5_ask, Cond.code yX5_ask cX5_ask 8 (some .int), Cond.methodLink RX5 187 yX5_hours, Cond.methodLink RX5 190 yX5_mostLeft, Cond.instanceMethod yX5_mostLeft, Cond.selects RX5 yX5_mostLeft yX5_mostLeft, Cond.code yX5_mostLeft cX5_mostLeft 10 (some .int), Cond.methodLink RX5 276 yX1_lastLoud, Cond.instanceMethod yX1_lastLoud, Cond.selects RX1 yX1_lastLoud yX1_lastLoud, Cond.code yX1_lastLoud cX1_lastLoud 1 (some .int), Cond.methodLink RX1 36 yX1_loud, Cond.methodLink RL 84 yX6_ask]
def wsL_law_r24 : List Cond := [Cond.instanceMethod yX6_ask, Cond.selects RX6 yX6_ask yX6_ask, Cond.code yX6_ask cX6_ask 2 (some .int), Cond.methodLink RX6 181 yX6_askNow, Cond.instanceMethod yX6_askNow, Cond.selects RX6 yX6_askNow yX6_askNow, Cond.code yX6_askNow cX6_askNow 7 (some .int), Cond.constant RX6 176 (268435456), Cond.methodLink RX6 177 yX6_worstIn, Cond.instanceMethod yX6_worstIn, Cond.selects RX6 yX6_worstIn yX6_worstIn, Cond.code yX6_worstIn cX6_worstIn 9 (some .int), Cond.methodLink RL 85 yX5_weeks, Cond.instanceMethod yX5_weeks, Cond.selects RX5 yX5_weeks yX5_weeks, Cond.code yX5_weeks cX5_weeks 8 (some .int), Cond.methodLink RX5 194 yX5_drawDay, Cond.instanceMethod yX5_drawDay, Cond.selects RX5 yX5_drawDay yX5_drawDay, Cond.code yX5_drawDay cX5_drawDay 5 (some .int), Cond.constantLong RX5 247 (1103515245), Cond.constantLong RX5 249 (12345), Cond.constantLong RX5 251 (2147483648), Cond.constant RX5 253 (65536)]
def wsL_law_r25 : List Cond := [Cond.methodLink RL 89 yX6_weeks, Cond.instanceMethod yX6_weeks, Cond.selects RX6 yX6_weeks yX6_weeks, Cond.code yX6_weeks cX6_weeks 4 (some .int), Cond.methodLink RX6 199 yX6_weeksNow, Cond.instanceMethod yX6_weeksNow, Cond.selects RX6 yX6_weeksNow yX6_weeksNow, Cond.code yX6_weeksNow cX6_weeksNow 8 (some .int), Cond.fieldLink RX6 186 "GongTideModel" "seedNow" "J", Cond.methodLink RX6 196 yX6_draw, Cond.instanceMethod yX6_draw, Cond.selects RX6 yX6_draw yX6_draw, Cond.code yX6_draw cX6_draw 2 (some .int), Cond.constantLong RX6 184 (1103515245), Cond.constantLong RX6 190 (12345), Cond.constantLong RX6 192 (2147483647), Cond.constantLong RX6 194 (65536), Cond.methodLink RL 90 yX5_image, Cond.instanceMethod yX5_image, Cond.selects RX5 yX5_image yX5_image, Cond.code yX5_image cX5_image 1 (some .int), Cond.methodLink RX5 197 yX0_copyFrom, Cond.instanceMethod yX0_copyFrom, Cond.selects RX0 yX0_copyFrom yX0_copyFrom]
def wsL_law_r26 : List Cond := [Cond.code yX0_copyFrom cX0_copyFrom 3 none, Cond.methodLink RX0 43 yX3_copyFrom, Cond.instanceMethod yX3_copyFrom, Cond.selects RX3 yX3_copyFrom yX3_copyFrom, Cond.code yX3_copyFrom cX3_copyFrom 3 none, Cond.methodLink RX0 47 yX1_copyFrom, Cond.instanceMethod yX1_copyFrom, Cond.selects RX1 yX1_copyFrom yX1_copyFrom, Cond.code yX1_copyFrom cX1_copyFrom 3 none, Cond.methodLink RL 93 yX6_image, Cond.instanceMethod yX6_image, Cond.selects RX6 yX6_image yX6_image, Cond.code yX6_image cX6_image 2 (some .int), Cond.fieldLink RX6 202 "GongTideModel" "isKept" "Z", Cond.fieldLink RX6 205 "GongTideModel" "keptColony" "I", Cond.fieldLink RX6 208 "GongTideModel" "keptStrokes" "I", Cond.fieldLink RX6 211 "GongTideModel" "keptChanges" "I", Cond.fieldLink RX6 214 "GongTideModel" "keptHeard" "I", Cond.methodLink RL 94 yX5_restore, Cond.instanceMethod yX5_restore, Cond.selects RX5 yX5_restore yX5_restore, Cond.code yX5_restore cX5_restore 1 (some .int), Cond.methodLink RL 97 yX6_restore, Cond.instanceMethod yX6_restore]
def wsL_law_r27 : List Cond := [Cond.selects RX6 yX6_restore yX6_restore, Cond.code yX6_restore cX6_restore 2 (some .int), Cond.methodLink RL 98 yX5_count, Cond.instanceMethod yX5_count, Cond.selects RX5 yX5_count yX5_count, Cond.code yX5_count cX5_count 2 (some .int), Cond.methodLink RX5 201 yX4_greatest, Cond.instanceMethod yX4_greatest, Cond.selects RX4 yX4_greatest yX4_greatest, Cond.code yX4_greatest cX4_greatest 3 (some .int), Cond.methodLink RX4 24 yX4_at, Cond.methodLink RL 101 yX6_count, Cond.instanceMethod yX6_count, Cond.selects RX6 yX6_count yX6_count, Cond.code yX6_count cX6_count 2 (some .int), Cond.methodLink RX6 220 yX6_howMany, Cond.instanceMethod yX6_howMany, Cond.selects RX6 yX6_howMany yX6_howMany, Cond.code yX6_howMany cX6_howMany 2 (some .int), Cond.methodLink RX6 217 yX6_highest, Cond.instanceMethod yX6_highest, Cond.selects RX6 yX6_highest yX6_highest, Cond.code yX6_highest cX6_highest 3 (some .int), Cond.methodLink RL 102 yX5_digest]
def wsL_law_r28 : List Cond := [Cond.instanceMethod yX5_digest, Cond.selects RX5 yX5_digest yX5_digest, Cond.code yX5_digest cX5_digest 4 (some .long), Cond.constantLong RX5 204 (1091), Cond.methodLink RX5 206 yX5_digestHouses, Cond.instanceMethod yX5_digestHouses, Cond.selects RX5 yX5_digestHouses yX5_digestHouses, Cond.code yX5_digestHouses cX5_digestHouses 7 (some .long), Cond.methodLink RX5 233 yX5_about, Cond.methodLink RX5 216 yX5_mix, Cond.static yX5_mix, Cond.code yX5_mix cX5_mix 4 (some .long), Cond.constantLong RX5 239 (31), Cond.methodLink RX5 210 yX5_digestStrokes, Cond.instanceMethod yX5_digestStrokes, Cond.selects RX5 yX5_digestStrokes yX5_digestStrokes, Cond.code yX5_digestStrokes cX5_digestStrokes 7 (some .long), Cond.methodLink RX5 236 yX5_stroke, Cond.methodLink RX5 213 yX5_tide, Cond.methodLink RX5 220 yX5_dinner, Cond.methodLink RX5 224 yX5_best, Cond.methodLink RX5 227 yX5_ask, Cond.methodLink RX5 230 yX5_count, Cond.methodLink RL 106 yX6_digest]
def wsL_law_r29 : List Cond := [Cond.instanceMethod yX6_digest, Cond.selects RX6 yX6_digest yX6_digest, Cond.code yX6_digest cX6_digest 3 (some .long), Cond.constantLong RX6 228 (1091), Cond.fieldLink RX6 225 "GongTideModel" "h" "J", Cond.methodLink RX6 230 yX6_mix, Cond.instanceMethod yX6_mix, Cond.selects RX6 yX6_mix yX6_mix, Cond.code yX6_mix cX6_mix 3 none, Cond.constantLong RX6 223 (31)]
def wsL_law : List Cond := (wsL_law_r1 ++ (wsL_law_r2 ++ (wsL_law_r3 ++ (wsL_law_r4 ++ (wsL_law_r5 ++ (wsL_law_r6 ++ (wsL_law_r7 ++ (wsL_law_r8 ++ (wsL_law_r9 ++ (wsL_law_r10 ++ (wsL_law_r11 ++ (wsL_law_r12 ++ (wsL_law_r13 ++ (wsL_law_r14 ++ (wsL_law_r15 ++ (wsL_law_r16 ++ (wsL_law_r17 ++ (wsL_law_r18 ++ (wsL_law_r19 ++ (wsL_law_r20 ++ (wsL_law_r21 ++ (wsL_law_r22 ++ (wsL_law_r23 ++ (wsL_law_r24 ++ (wsL_law_r25 ++ (wsL_law_r26 ++ (wsL_law_r27 ++ (wsL_law_r28 ++ wsL_law_r29)))))))))))))))))))))))))))) ++ wsX50 ++ wsX60 ++ wsX20 ++ wsX00 ++ wsX40 ++ wsX30 ++ wsX10 ++ ([] : List Cond)
set_option maxRecDepth 20000 in
theorem wi_wsL_law_r1 : ∀ w ∈ wsL_law_r1, w ∈ lw_tbl := fun w h => (goodIn_p wsL_law_r1 [57, 60] (by decide +kernel) (by decide +kernel) w h).1
set_option maxRecDepth 20000 in
theorem wi_wsL_law_r2 : ∀ w ∈ wsL_law_r2, w ∈ lw_tbl := fun w h => (goodIn_p wsL_law_r2 [65, 79, 85] (by decide +kernel) (by decide +kernel) w h).1
set_option maxRecDepth 20000 in
theorem wi_wsL_law_r3 : ∀ w ∈ wsL_law_r3, w ∈ lw_tbl := fun w h => (goodIn_p wsL_law_r3 [101, 139, 536] (by decide +kernel) (by decide +kernel) w h).1
set_option maxRecDepth 20000 in
theorem wi_wsL_law_r4 : ∀ w ∈ wsL_law_r4, w ∈ lw_tbl := fun w h => (goodIn_p wsL_law_r4 [176, 179, 183] (by decide +kernel) (by decide +kernel) w h).1
set_option maxRecDepth 20000 in
theorem wi_wsL_law_r5 : ∀ w ∈ wsL_law_r5, w ∈ lw_tbl := fun w h => (goodIn_p wsL_law_r5 [187, 645, 648, 191, 195, 652] (by decide +kernel) (by decide +kernel) w h).1
set_option maxRecDepth 20000 in
theorem wi_wsL_law_r6 : ∀ w ∈ wsL_law_r6, w ∈ lw_tbl := fun w h => (goodIn_p wsL_law_r6 [199, 203, 207, 211, 215, 218, 221] (by decide +kernel) (by decide +kernel) w h).1
set_option maxRecDepth 20000 in
theorem wi_wsL_law_r7 : ∀ w ∈ wsL_law_r7, w ∈ lw_tbl := fun w h => (goodIn_p wsL_law_r7 [656, 660, 663, 667, 671, 225] (by decide +kernel) (by decide +kernel) w h).1
set_option maxRecDepth 20000 in
theorem wi_wsL_law_r8 : ∀ w ∈ wsL_law_r8, w ∈ lw_tbl := fun w h => (goodIn_p wsL_law_r8 [229, 235, 239, 243] (by decide +kernel) (by decide +kernel) w h).1
set_option maxRecDepth 20000 in
theorem wi_wsL_law_r9 : ∀ w ∈ wsL_law_r9, w ∈ lw_tbl := fun w h => (goodIn_p wsL_law_r9 [249, 253, 258, 675] (by decide +kernel) (by decide +kernel) w h).1
set_option maxRecDepth 20000 in
theorem wi_wsL_law_r10 : ∀ w ∈ wsL_law_r10, w ∈ lw_tbl := fun w h => (goodIn_p wsL_law_r10 [262, 266, 270, 274, 278, 282] (by decide +kernel) (by decide +kernel) w h).1
set_option maxRecDepth 20000 in
theorem wi_wsL_law_r11 : ∀ w ∈ wsL_law_r11, w ∈ lw_tbl := fun w h => (goodIn_p wsL_law_r11 [286, 291, 295, 298, 302, 306] (by decide +kernel) (by decide +kernel) w h).1
set_option maxRecDepth 20000 in
theorem wi_wsL_law_r12 : ∀ w ∈ wsL_law_r12, w ∈ lw_tbl := fun w h => (goodIn_p wsL_law_r12 [310, 314, 322, 319, 325, 329] (by decide +kernel) (by decide +kernel) w h).1
set_option maxRecDepth 20000 in
theorem wi_wsL_law_r13 : ∀ w ∈ wsL_law_r13, w ∈ lw_tbl := fun w h => (goodIn_p wsL_law_r13 [333, 679, 683, 687, 691, 695] (by decide +kernel) (by decide +kernel) w h).1
set_option maxRecDepth 20000 in
theorem wi_wsL_law_r14 : ∀ w ∈ wsL_law_r14, w ∈ lw_tbl := fun w h => (goodIn_p wsL_law_r14 [699, 703, 706, 710, 714, 337] (by decide +kernel) (by decide +kernel) w h).1
set_option maxRecDepth 20000 in
theorem wi_wsL_law_r15 : ∀ w ∈ wsL_law_r15, w ∈ lw_tbl := fun w h => (goodIn_p wsL_law_r15 [718, 341, 722, 345, 348, 352] (by decide +kernel) (by decide +kernel) w h).1
set_option maxRecDepth 20000 in
theorem wi_wsL_law_r16 : ∀ w ∈ wsL_law_r16, w ∈ lw_tbl := fun w h => (goodIn_p wsL_law_r16 [726, 729, 356, 359, 733, 363] (by decide +kernel) (by decide +kernel) w h).1
set_option maxRecDepth 20000 in
theorem wi_wsL_law_r17 : ∀ w ∈ wsL_law_r17, w ∈ lw_tbl := fun w h => (goodIn_p wsL_law_r17 [368, 737, 741, 372, 376, 745] (by decide +kernel) (by decide +kernel) w h).1
set_option maxRecDepth 20000 in
theorem wi_wsL_law_r18 : ∀ w ∈ wsL_law_r18, w ∈ lw_tbl := fun w h => (goodIn_p wsL_law_r18 [749, 382, 386, 390, 753, 757] (by decide +kernel) (by decide +kernel) w h).1
set_option maxRecDepth 20000 in
theorem wi_wsL_law_r19 : ∀ w ∈ wsL_law_r19, w ∈ lw_tbl := fun w h => (goodIn_p wsL_law_r19 [761, 764, 394, 398, 402, 406] (by decide +kernel) (by decide +kernel) w h).1
set_option maxRecDepth 20000 in
theorem wi_wsL_law_r20 : ∀ w ∈ wsL_law_r20, w ∈ lw_tbl := fun w h => (goodIn_p wsL_law_r20 [768, 772, 776, 780, 410, 414] (by decide +kernel) (by decide +kernel) w h).1
set_option maxRecDepth 20000 in
theorem wi_wsL_law_r21 : ∀ w ∈ wsL_law_r21, w ∈ lw_tbl := fun w h => (goodIn_p wsL_law_r21 [418, 784, 422, 788, 427] (by decide +kernel) (by decide +kernel) w h).1
set_option maxRecDepth 20000 in
theorem wi_wsL_law_r22 : ∀ w ∈ wsL_law_r22, w ∈ lw_tbl := fun w h => (goodIn_p wsL_law_r22 [431, 435, 439, 444, 448, 452] (by decide +kernel) (by decide +kernel) w h).1
set_option maxRecDepth 20000 in
theorem wi_wsL_law_r23 : ∀ w ∈ wsL_law_r23, w ∈ lw_tbl := fun w h => (goodIn_p wsL_law_r23 [792, 796, 800, 456, 461, 465] (by decide +kernel) (by decide +kernel) w h).1
set_option maxRecDepth 20000 in
theorem wi_wsL_law_r24 : ∀ w ∈ wsL_law_r24, w ∈ lw_tbl := fun w h => (goodIn_p wsL_law_r24 [804, 808, 813, 470, 474] (by decide +kernel) (by decide +kernel) w h).1
set_option maxRecDepth 20000 in
theorem wi_wsL_law_r25 : ∀ w ∈ wsL_law_r25, w ∈ lw_tbl := fun w h => (goodIn_p wsL_law_r25 [817, 821, 825, 482] (by decide +kernel) (by decide +kernel) w h).1
set_option maxRecDepth 20000 in
theorem wi_wsL_law_r26 : ∀ w ∈ wsL_law_r26, w ∈ lw_tbl := fun w h => (goodIn_p wsL_law_r26 [486, 490, 494, 833, 498] (by decide +kernel) (by decide +kernel) w h).1
set_option maxRecDepth 20000 in
theorem wi_wsL_law_r27 : ∀ w ∈ wsL_law_r27, w ∈ lw_tbl := fun w h => (goodIn_p wsL_law_r27 [837, 502, 506, 841, 845, 849] (by decide +kernel) (by decide +kernel) w h).1
set_option maxRecDepth 20000 in
theorem wi_wsL_law_r28 : ∀ w ∈ wsL_law_r28, w ∈ lw_tbl := fun w h => (goodIn_p wsL_law_r28 [511, 516, 520, 525] (by decide +kernel) (by decide +kernel) w h).1
set_option maxRecDepth 20000 in
theorem wi_wsL_law_r29 : ∀ w ∈ wsL_law_r29, w ∈ lw_tbl := fun w h => (goodIn_p wsL_law_r29 [853, 858] (by decide +kernel) (by decide +kernel) w h).1
set_option maxRecDepth 20000 in
theorem wi_wsX50 : ∀ w ∈ wsX50, w ∈ lw_tbl := fun w h => (goodIn_p wsX50 [] (by decide +kernel) (by decide +kernel) w h).1
set_option maxRecDepth 20000 in
theorem wi_wsX60 : ∀ w ∈ wsX60, w ∈ lw_tbl := fun w h => (goodIn_p wsX60 [] (by decide +kernel) (by decide +kernel) w h).1
set_option maxRecDepth 20000 in
theorem wi_wsX20 : ∀ w ∈ wsX20, w ∈ lw_tbl := fun w h => (goodIn_p wsX20 [] (by decide +kernel) (by decide +kernel) w h).1
set_option maxRecDepth 20000 in
theorem wi_wsX00 : ∀ w ∈ wsX00, w ∈ lw_tbl := fun w h => (goodIn_p wsX00 [] (by decide +kernel) (by decide +kernel) w h).1
set_option maxRecDepth 20000 in
theorem wi_wsX40 : ∀ w ∈ wsX40, w ∈ lw_tbl := fun w h => (goodIn_p wsX40 [] (by decide +kernel) (by decide +kernel) w h).1
set_option maxRecDepth 20000 in
theorem wi_wsX30 : ∀ w ∈ wsX30, w ∈ lw_tbl := fun w h => (goodIn_p wsX30 [] (by decide +kernel) (by decide +kernel) w h).1
set_option maxRecDepth 20000 in
theorem wi_wsX10 : ∀ w ∈ wsX10, w ∈ lw_tbl := fun w h => (goodIn_p wsX10 [] (by decide +kernel) (by decide +kernel) w h).1
theorem wsL_law_in : ∀ w ∈ wsL_law, w ∈ lw_tbl := (fun w h => (List.mem_append.mp h).elim ((fun w h => (List.mem_append.mp h).elim ((fun w h => (List.mem_append.mp h).elim ((fun w h => (List.mem_append.mp h).elim ((fun w h => (List.mem_append.mp h).elim ((fun w h => (List.mem_append.mp h).elim ((fun w h => (List.mem_append.mp h).elim ((fun w h => (List.mem_append.mp h).elim ((fun w h => (List.mem_append.mp h).elim (wi_wsL_law_r1 w) ((fun w h => (List.mem_append.mp h).elim (wi_wsL_law_r2 w) ((fun w h => (List.mem_append.mp h).elim (wi_wsL_law_r3 w) ((fun w h => (List.mem_append.mp h).elim (wi_wsL_law_r4 w) ((fun w h => (List.mem_append.mp h).elim (wi_wsL_law_r5 w) ((fun w h => (List.mem_append.mp h).elim (wi_wsL_law_r6 w) ((fun w h => (List.mem_append.mp h).elim (wi_wsL_law_r7 w) ((fun w h => (List.mem_append.mp h).elim (wi_wsL_law_r8 w) ((fun w h => (List.mem_append.mp h).elim (wi_wsL_law_r9 w) ((fun w h => (List.mem_append.mp h).elim (wi_wsL_law_r10 w) ((fun w h => (List.mem_append.mp h).elim (wi_wsL_law_r11 w) ((fun w h => (List.mem_append.mp h).elim (wi_wsL_law_r12 w) ((fun w h => (List.mem_append.mp h).elim (wi_wsL_law_r13 w) ((fun w h => (List.mem_append.mp h).elim (wi_wsL_law_r14 w) ((fun w h => (List.mem_append.mp h).elim (wi_wsL_law_r15 w) ((fun w h => (List.mem_append.mp h).elim (wi_wsL_law_r16 w) ((fun w h => (List.mem_append.mp h).elim (wi_wsL_law_r17 w) ((fun w h => (List.mem_append.mp h).elim (wi_wsL_law_r18 w) ((fun w h => (List.mem_append.mp h).elim (wi_wsL_law_r19 w) ((fun w h => (List.mem_append.mp h).elim (wi_wsL_law_r20 w) ((fun w h => (List.mem_append.mp h).elim (wi_wsL_law_r21 w) ((fun w h => (List.mem_append.mp h).elim (wi_wsL_law_r22 w) ((fun w h => (List.mem_append.mp h).elim (wi_wsL_law_r23 w) ((fun w h => (List.mem_append.mp h).elim (wi_wsL_law_r24 w) ((fun w h => (List.mem_append.mp h).elim (wi_wsL_law_r25 w) ((fun w h => (List.mem_append.mp h).elim (wi_wsL_law_r26 w) ((fun w h => (List.mem_append.mp h).elim (wi_wsL_law_r27 w) ((fun w h => (List.mem_append.mp h).elim (wi_wsL_law_r28 w) (wi_wsL_law_r29 w)) w)) w)) w)) w)) w)) w)) w)) w)) w)) w)) w)) w)) w)) w)) w)) w)) w)) w)) w)) w)) w)) w)) w)) w)) w)) w)) w)) w) (wi_wsX50 w)) w) (wi_wsX60 w)) w) (wi_wsX20 w)) w) (wi_wsX00 w)) w) (wi_wsX40 w)) w) (wi_wsX30 w)) w) (wi_wsX10 w)) w) ((fun _ h => absurd h List.not_mem_nil) w))
theorem inlX0 : ∀ w ∈ wsX00, w ∈ wsL_law := fun _ h => List.mem_append_left _ (List.mem_append_left _ (List.mem_append_left _ (List.mem_append_left _ (List.mem_append_right _ h))))
theorem inX0 : ∀ w ∈ wsX00, w ∈ lw_tbl := fun w h => wsL_law_in w (inlX0 w h)
theorem inlX1 : ∀ w ∈ wsX10, w ∈ wsL_law := fun _ h => List.mem_append_left _ (List.mem_append_right _ h)
theorem inX1 : ∀ w ∈ wsX10, w ∈ lw_tbl := fun w h => wsL_law_in w (inlX1 w h)
theorem inlX2 : ∀ w ∈ wsX20, w ∈ wsL_law := fun _ h => List.mem_append_left _ (List.mem_append_left _ (List.mem_append_left _ (List.mem_append_left _ (List.mem_append_left _ (List.mem_append_right _ h)))))
theorem inX2 : ∀ w ∈ wsX20, w ∈ lw_tbl := fun w h => wsL_law_in w (inlX2 w h)
theorem inlX3 : ∀ w ∈ wsX30, w ∈ wsL_law := fun _ h => List.mem_append_left _ (List.mem_append_left _ (List.mem_append_right _ h))
theorem inX3 : ∀ w ∈ wsX30, w ∈ lw_tbl := fun w h => wsL_law_in w (inlX3 w h)
theorem inlX4 : ∀ w ∈ wsX40, w ∈ wsL_law := fun _ h => List.mem_append_left _ (List.mem_append_left _ (List.mem_append_left _ (List.mem_append_right _ h)))
theorem inX4 : ∀ w ∈ wsX40, w ∈ lw_tbl := fun w h => wsL_law_in w (inlX4 w h)
theorem inlX5 : ∀ w ∈ wsX50, w ∈ wsL_law := fun _ h => List.mem_append_left _ (List.mem_append_left _ (List.mem_append_left _ (List.mem_append_left _ (List.mem_append_left _ (List.mem_append_left _ (List.mem_append_left _ (List.mem_append_right _ h)))))))
theorem inX5 : ∀ w ∈ wsX50, w ∈ lw_tbl := fun w h => wsL_law_in w (inlX5 w h)
theorem inlX6 : ∀ w ∈ wsX60, w ∈ wsL_law := fun _ h => List.mem_append_left _ (List.mem_append_left _ (List.mem_append_left _ (List.mem_append_left _ (List.mem_append_left _ (List.mem_append_left _ (List.mem_append_right _ h))))))
theorem inX6 : ∀ w ∈ wsX60, w ∈ lw_tbl := fun w h => wsL_law_in w (inlX6 w h)
theorem inJ9 : ∀ w ∈ wsJ90, w ∈ lw_tbl := by decide +kernel
set_option maxRecDepth 20000 in
theorem ggX0_init_X3_init : GoodIn wsX0_init wsX3_init := goodIn_r _ [15, 16, 2, 3, 4, 17, 18, 30, 31, 32] (by decide +kernel) (by decide +kernel)
set_option maxRecDepth 20000 in
theorem gX0_init_X3_init_n17 : GoodIn wsX0_init (wsX3_init) := ggX0_init_X3_init
set_option maxRecDepth 20000 in
theorem ggX0_init_X1_init : GoodIn wsX0_init wsX1_init := goodIn_r _ [20, 21, 2, 3, 4, 22, 23, 24, 25, 33, 34, 35, 36, 37] (by decide +kernel) (by decide +kernel)
set_option maxRecDepth 20000 in
theorem gX0_init_X1_init_n24 : GoodIn wsX0_init (wsX1_init) := ggX0_init_X1_init
theorem dX0_init_0 : decode cX0_init 0 = .ok (.aload_n 0, 1) := by decide +kernel
theorem dX0_init_1 : decode cX0_init 1 = .ok (.invokespecial 3, 3) := by decide +kernel
theorem dX0_init_4 : decode cX0_init 4 = .ok (.aload_n 0, 1) := by decide +kernel
theorem dX0_init_5 : decode cX0_init 5 = .ok (.iconst 5, 1) := by decide +kernel
theorem dX0_init_6 : decode cX0_init 6 = .ok (.newarray .int, 2) := by decide +kernel
theorem dX0_init_8 : decode cX0_init 8 = .ok (.putfield 9, 3) := by decide +kernel
theorem dX0_init_11 : decode cX0_init 11 = .ok (.aload_n 0, 1) := by decide +kernel
theorem dX0_init_12 : decode cX0_init 12 = .ok (.new 15, 3) := by decide +kernel
theorem dX0_init_15 : decode cX0_init 15 = .ok (.dup, 1) := by decide +kernel
theorem dX0_init_16 : decode cX0_init 16 = .ok (.invokespecial 17, 3) := by decide +kernel
theorem dX0_init_19 : decode cX0_init 19 = .ok (.putfield 18, 3) := by decide +kernel
theorem dX0_init_22 : decode cX0_init 22 = .ok (.aload_n 0, 1) := by decide +kernel
theorem dX0_init_23 : decode cX0_init 23 = .ok (.new 22, 3) := by decide +kernel
theorem dX0_init_26 : decode cX0_init 26 = .ok (.dup, 1) := by decide +kernel
theorem dX0_init_27 : decode cX0_init 27 = .ok (.invokespecial 24, 3) := by decide +kernel
theorem dX0_init_30 : decode cX0_init 30 = .ok (.putfield 25, 3) := by decide +kernel
theorem dX0_init_33 : decode cX0_init 33 = .ok (.return_, 1) := by decide +kernel
set_option maxRecDepth 20000 in
theorem ggX0_clear_X3_clear : GoodIn wsX0_clear wsX3_clear := goodIn_r _ [8, 9, 20, 21, 22] (by decide +kernel) (by decide +kernel)
set_option maxRecDepth 20000 in
theorem gX0_clear_X3_clear : GoodIn wsX0_clear (wsV RX0 29 RX3 yX3_clear wsX3_clear) := goodIn_app (goodIn_of _ (by decide +kernel)) ggX0_clear_X3_clear
set_option maxRecDepth 20000 in
theorem ggX0_clear_X1_clear : GoodIn wsX0_clear wsX1_clear := goodIn_r _ [14, 15, 23, 24, 25, 26, 27] (by decide +kernel) (by decide +kernel)
set_option maxRecDepth 20000 in
theorem gX0_clear_X1_clear : GoodIn wsX0_clear (wsV RX0 32 RX1 yX1_clear wsX1_clear) := goodIn_app (goodIn_of _ (by decide +kernel)) ggX0_clear_X1_clear
theorem dX0_clear_0 : decode cX0_clear 0 = .ok (.aload_n 0, 1) := by decide +kernel
theorem dX0_clear_1 : decode cX0_clear 1 = .ok (.getfield 18, 3) := by decide +kernel
theorem dX0_clear_4 : decode cX0_clear 4 = .ok (.invokevirtual 29, 3) := by decide +kernel
theorem dX0_clear_7 : decode cX0_clear 7 = .ok (.aload_n 0, 1) := by decide +kernel
theorem dX0_clear_8 : decode cX0_clear 8 = .ok (.getfield 25, 3) := by decide +kernel
theorem dX0_clear_11 : decode cX0_clear 11 = .ok (.invokevirtual 32, 3) := by decide +kernel
theorem dX0_clear_14 : decode cX0_clear 14 = .ok (.pop, 1) := by decide +kernel
theorem dX0_clear_15 : decode cX0_clear 15 = .ok (.aload_n 0, 1) := by decide +kernel
theorem dX0_clear_16 : decode cX0_clear 16 = .ok (.iconst 0, 1) := by decide +kernel
theorem dX0_clear_17 : decode cX0_clear 17 = .ok (.putfield 35, 3) := by decide +kernel
theorem dX0_clear_20 : decode cX0_clear 20 = .ok (.return_, 1) := by decide +kernel
set_option maxRecDepth 20000 in
theorem ggX0_level_X5_isWithin : GoodIn wsX0_level wsX5_isWithin := goodIn_r _ [4] (by decide +kernel) (by decide +kernel)
set_option maxRecDepth 20000 in
theorem gX0_level_X5_isWithin_n39 : GoodIn wsX0_level (wsX5_isWithin) := ggX0_level_X5_isWithin
theorem dX0_level_0 : decode cX0_level 0 = .ok (.iload_n 1, 1) := by decide +kernel
theorem dX0_level_1 : decode cX0_level 1 = .ok (.iconst 0, 1) := by decide +kernel
theorem dX0_level_2 : decode cX0_level 2 = .ok (.iconst 4, 1) := by decide +kernel
theorem dX0_level_3 : decode cX0_level 3 = .ok (.invokestatic 39, 3) := by decide +kernel
theorem dX0_level_6 : decode cX0_level 6 = .ok (.ifCond .eq 12, 3) := by decide +kernel
theorem dX0_level_9 : decode cX0_level 9 = .ok (.aload_n 0, 1) := by decide +kernel
theorem dX0_level_10 : decode cX0_level 10 = .ok (.getfield 9, 3) := by decide +kernel
theorem dX0_level_13 : decode cX0_level 13 = .ok (.iload_n 1, 1) := by decide +kernel
theorem dX0_level_14 : decode cX0_level 14 = .ok (.iaload, 1) := by decide +kernel
theorem dX0_level_15 : decode cX0_level 15 = .ok (.goto 4, 3) := by decide +kernel
theorem dX0_level_18 : decode cX0_level 18 = .ok (.iconst 0, 1) := by decide +kernel
theorem dX0_level_19 : decode cX0_level 19 = .ok (.ireturn, 1) := by decide +kernel
set_option maxRecDepth 20000 in
theorem ggX0_setLevel_X5_isWithin : GoodIn wsX0_setLevel wsX5_isWithin := goodIn_r _ [4] (by decide +kernel) (by decide +kernel)
set_option maxRecDepth 20000 in
theorem gX0_setLevel_X5_isWithin_n39 : GoodIn wsX0_setLevel (wsX5_isWithin) := ggX0_setLevel_X5_isWithin
theorem dX0_setLevel_0 : decode cX0_setLevel 0 = .ok (.iload_n 1, 1) := by decide +kernel
theorem dX0_setLevel_1 : decode cX0_setLevel 1 = .ok (.iconst 0, 1) := by decide +kernel
theorem dX0_setLevel_2 : decode cX0_setLevel 2 = .ok (.iconst 4, 1) := by decide +kernel
theorem dX0_setLevel_3 : decode cX0_setLevel 3 = .ok (.invokestatic 39, 3) := by decide +kernel
theorem dX0_setLevel_6 : decode cX0_setLevel 6 = .ok (.ifCond .eq 10, 3) := by decide +kernel
theorem dX0_setLevel_9 : decode cX0_setLevel 9 = .ok (.aload_n 0, 1) := by decide +kernel
theorem dX0_setLevel_10 : decode cX0_setLevel 10 = .ok (.getfield 9, 3) := by decide +kernel
theorem dX0_setLevel_13 : decode cX0_setLevel 13 = .ok (.iload_n 1, 1) := by decide +kernel
theorem dX0_setLevel_14 : decode cX0_setLevel 14 = .ok (.iload_n 2, 1) := by decide +kernel
theorem dX0_setLevel_15 : decode cX0_setLevel 15 = .ok (.iastore, 1) := by decide +kernel
theorem dX0_setLevel_16 : decode cX0_setLevel 16 = .ok (.return_, 1) := by decide +kernel
set_option maxRecDepth 20000 in
theorem ggX0_copyFrom_X3_copyFrom : GoodIn wsX0_copyFrom wsX3_copyFrom := goodIn_r _ [9, 10, 11, 12, 27, 28, 29] (by decide +kernel) (by decide +kernel)
set_option maxRecDepth 20000 in
theorem gX0_copyFrom_X3_copyFrom : GoodIn wsX0_copyFrom (wsV RX0 43 RX3 yX3_copyFrom wsX3_copyFrom) := goodIn_app (goodIn_of _ (by decide +kernel)) ggX0_copyFrom_X3_copyFrom
set_option maxRecDepth 20000 in
theorem ggX0_copyFrom_X1_copyFrom : GoodIn wsX0_copyFrom wsX1_copyFrom := goodIn_r _ [17, 18, 19, 20, 21, 22, 30, 31, 32, 33, 34] (by decide +kernel) (by decide +kernel)
set_option maxRecDepth 20000 in
theorem gX0_copyFrom_X1_copyFrom : GoodIn wsX0_copyFrom (wsV RX0 47 RX1 yX1_copyFrom wsX1_copyFrom) := goodIn_app (goodIn_of _ (by decide +kernel)) ggX0_copyFrom_X1_copyFrom
theorem dX0_copyFrom_0 : decode cX0_copyFrom 0 = .ok (.iconst 0, 1) := by decide +kernel
theorem dX0_copyFrom_1 : decode cX0_copyFrom 1 = .ok (.istore_n 2, 1) := by decide +kernel
theorem dX0_copyFrom_2 : decode cX0_copyFrom 2 = .ok (.iload_n 2, 1) := by decide +kernel
theorem dX0_copyFrom_3 : decode cX0_copyFrom 3 = .ok (.iconst 5, 1) := by decide +kernel
theorem dX0_copyFrom_4 : decode cX0_copyFrom 4 = .ok (.if_icmp .ge 21, 3) := by decide +kernel
theorem dX0_copyFrom_7 : decode cX0_copyFrom 7 = .ok (.aload_n 0, 1) := by decide +kernel
theorem dX0_copyFrom_8 : decode cX0_copyFrom 8 = .ok (.getfield 9, 3) := by decide +kernel
theorem dX0_copyFrom_11 : decode cX0_copyFrom 11 = .ok (.iload_n 2, 1) := by decide +kernel
theorem dX0_copyFrom_12 : decode cX0_copyFrom 12 = .ok (.aload_n 1, 1) := by decide +kernel
theorem dX0_copyFrom_13 : decode cX0_copyFrom 13 = .ok (.getfield 9, 3) := by decide +kernel
theorem dX0_copyFrom_16 : decode cX0_copyFrom 16 = .ok (.iload_n 2, 1) := by decide +kernel
theorem dX0_copyFrom_17 : decode cX0_copyFrom 17 = .ok (.iaload, 1) := by decide +kernel
theorem dX0_copyFrom_18 : decode cX0_copyFrom 18 = .ok (.iastore, 1) := by decide +kernel
theorem dX0_copyFrom_19 : decode cX0_copyFrom 19 = .ok (.iinc 2 1, 3) := by decide +kernel
theorem dX0_copyFrom_22 : decode cX0_copyFrom 22 = .ok (.goto (-20), 3) := by decide +kernel
theorem dX0_copyFrom_25 : decode cX0_copyFrom 25 = .ok (.aload_n 0, 1) := by decide +kernel
theorem dX0_copyFrom_26 : decode cX0_copyFrom 26 = .ok (.getfield 18, 3) := by decide +kernel
theorem dX0_copyFrom_29 : decode cX0_copyFrom 29 = .ok (.aload_n 1, 1) := by decide +kernel
theorem dX0_copyFrom_30 : decode cX0_copyFrom 30 = .ok (.getfield 18, 3) := by decide +kernel
theorem dX0_copyFrom_33 : decode cX0_copyFrom 33 = .ok (.invokevirtual 43, 3) := by decide +kernel
theorem dX0_copyFrom_36 : decode cX0_copyFrom 36 = .ok (.aload_n 0, 1) := by decide +kernel
theorem dX0_copyFrom_37 : decode cX0_copyFrom 37 = .ok (.getfield 25, 3) := by decide +kernel
theorem dX0_copyFrom_40 : decode cX0_copyFrom 40 = .ok (.aload_n 1, 1) := by decide +kernel
theorem dX0_copyFrom_41 : decode cX0_copyFrom 41 = .ok (.getfield 25, 3) := by decide +kernel
theorem dX0_copyFrom_44 : decode cX0_copyFrom 44 = .ok (.invokevirtual 47, 3) := by decide +kernel
theorem dX0_copyFrom_47 : decode cX0_copyFrom 47 = .ok (.aload_n 0, 1) := by decide +kernel
theorem dX0_copyFrom_48 : decode cX0_copyFrom 48 = .ok (.aload_n 1, 1) := by decide +kernel
theorem dX0_copyFrom_49 : decode cX0_copyFrom 49 = .ok (.getfield 35, 3) := by decide +kernel
theorem dX0_copyFrom_52 : decode cX0_copyFrom 52 = .ok (.putfield 35, 3) := by decide +kernel
theorem dX0_copyFrom_55 : decode cX0_copyFrom 55 = .ok (.return_, 1) := by decide +kernel
theorem dX1_init_0 : decode cX1_init 0 = .ok (.aload_n 0, 1) := by decide +kernel
theorem dX1_init_1 : decode cX1_init 1 = .ok (.invokespecial 3, 3) := by decide +kernel
theorem dX1_init_4 : decode cX1_init 4 = .ok (.aload_n 0, 1) := by decide +kernel
theorem dX1_init_5 : decode cX1_init 5 = .ok (.bipush 6, 2) := by decide +kernel
theorem dX1_init_7 : decode cX1_init 7 = .ok (.newarray .int, 2) := by decide +kernel
theorem dX1_init_9 : decode cX1_init 9 = .ok (.putfield 9, 3) := by decide +kernel
theorem dX1_init_12 : decode cX1_init 12 = .ok (.aload_n 0, 1) := by decide +kernel
theorem dX1_init_13 : decode cX1_init 13 = .ok (.bipush 6, 2) := by decide +kernel
theorem dX1_init_15 : decode cX1_init 15 = .ok (.newarray .int, 2) := by decide +kernel
theorem dX1_init_17 : decode cX1_init 17 = .ok (.putfield 15, 3) := by decide +kernel
theorem dX1_init_20 : decode cX1_init 20 = .ok (.aload_n 0, 1) := by decide +kernel
theorem dX1_init_21 : decode cX1_init 21 = .ok (.bipush 6, 2) := by decide +kernel
theorem dX1_init_23 : decode cX1_init 23 = .ok (.newarray .int, 2) := by decide +kernel
theorem dX1_init_25 : decode cX1_init 25 = .ok (.putfield 18, 3) := by decide +kernel
theorem dX1_init_28 : decode cX1_init 28 = .ok (.aload_n 0, 1) := by decide +kernel
theorem dX1_init_29 : decode cX1_init 29 = .ok (.bipush 6, 2) := by decide +kernel
theorem dX1_init_31 : decode cX1_init 31 = .ok (.newarray .int, 2) := by decide +kernel
theorem dX1_init_33 : decode cX1_init 33 = .ok (.putfield 21, 3) := by decide +kernel
theorem dX1_init_36 : decode cX1_init 36 = .ok (.return_, 1) := by decide +kernel
theorem dX1_size_0 : decode cX1_size 0 = .ok (.aload_n 0, 1) := by decide +kernel
theorem dX1_size_1 : decode cX1_size 1 = .ok (.getfield 24, 3) := by decide +kernel
theorem dX1_size_4 : decode cX1_size 4 = .ok (.ireturn, 1) := by decide +kernel
theorem dX1_clear_0 : decode cX1_clear 0 = .ok (.aload_n 0, 1) := by decide +kernel
theorem dX1_clear_1 : decode cX1_clear 1 = .ok (.getfield 24, 3) := by decide +kernel
theorem dX1_clear_4 : decode cX1_clear 4 = .ok (.istore_n 1, 1) := by decide +kernel
theorem dX1_clear_5 : decode cX1_clear 5 = .ok (.aload_n 0, 1) := by decide +kernel
theorem dX1_clear_6 : decode cX1_clear 6 = .ok (.iconst 0, 1) := by decide +kernel
theorem dX1_clear_7 : decode cX1_clear 7 = .ok (.putfield 24, 3) := by decide +kernel
theorem dX1_clear_10 : decode cX1_clear 10 = .ok (.iload_n 1, 1) := by decide +kernel
theorem dX1_clear_11 : decode cX1_clear 11 = .ok (.ireturn, 1) := by decide +kernel
theorem dX1_add_0 : decode cX1_add 0 = .ok (.aload_n 0, 1) := by decide +kernel
theorem dX1_add_1 : decode cX1_add 1 = .ok (.getfield 24, 3) := by decide +kernel
theorem dX1_add_4 : decode cX1_add 4 = .ok (.bipush 6, 2) := by decide +kernel
theorem dX1_add_6 : decode cX1_add 6 = .ok (.if_icmp .lt 5, 3) := by decide +kernel
theorem dX1_add_9 : decode cX1_add 9 = .ok (.iconst 0, 1) := by decide +kernel
theorem dX1_add_10 : decode cX1_add 10 = .ok (.ireturn, 1) := by decide +kernel
theorem dX1_add_11 : decode cX1_add 11 = .ok (.aload_n 0, 1) := by decide +kernel
theorem dX1_add_12 : decode cX1_add 12 = .ok (.getfield 9, 3) := by decide +kernel
theorem dX1_add_15 : decode cX1_add 15 = .ok (.aload_n 0, 1) := by decide +kernel
theorem dX1_add_16 : decode cX1_add 16 = .ok (.getfield 24, 3) := by decide +kernel
theorem dX1_add_19 : decode cX1_add 19 = .ok (.iload_n 1, 1) := by decide +kernel
theorem dX1_add_20 : decode cX1_add 20 = .ok (.iastore, 1) := by decide +kernel
theorem dX1_add_21 : decode cX1_add 21 = .ok (.aload_n 0, 1) := by decide +kernel
theorem dX1_add_22 : decode cX1_add 22 = .ok (.getfield 15, 3) := by decide +kernel
theorem dX1_add_25 : decode cX1_add 25 = .ok (.aload_n 0, 1) := by decide +kernel
theorem dX1_add_26 : decode cX1_add 26 = .ok (.getfield 24, 3) := by decide +kernel
theorem dX1_add_29 : decode cX1_add 29 = .ok (.iload_n 2, 1) := by decide +kernel
theorem dX1_add_30 : decode cX1_add 30 = .ok (.iastore, 1) := by decide +kernel
theorem dX1_add_31 : decode cX1_add 31 = .ok (.aload_n 0, 1) := by decide +kernel
theorem dX1_add_32 : decode cX1_add 32 = .ok (.getfield 18, 3) := by decide +kernel
theorem dX1_add_35 : decode cX1_add 35 = .ok (.aload_n 0, 1) := by decide +kernel
theorem dX1_add_36 : decode cX1_add 36 = .ok (.getfield 24, 3) := by decide +kernel
theorem dX1_add_39 : decode cX1_add 39 = .ok (.iload_n 3, 1) := by decide +kernel
theorem dX1_add_40 : decode cX1_add 40 = .ok (.iastore, 1) := by decide +kernel
theorem dX1_add_41 : decode cX1_add 41 = .ok (.aload_n 0, 1) := by decide +kernel
theorem dX1_add_42 : decode cX1_add 42 = .ok (.getfield 21, 3) := by decide +kernel
theorem dX1_add_45 : decode cX1_add 45 = .ok (.aload_n 0, 1) := by decide +kernel
theorem dX1_add_46 : decode cX1_add 46 = .ok (.getfield 24, 3) := by decide +kernel
theorem dX1_add_49 : decode cX1_add 49 = .ok (.iload 4, 2) := by decide +kernel
theorem dX1_add_51 : decode cX1_add 51 = .ok (.iastore, 1) := by decide +kernel
theorem dX1_add_52 : decode cX1_add 52 = .ok (.aload_n 0, 1) := by decide +kernel
theorem dX1_add_53 : decode cX1_add 53 = .ok (.dup, 1) := by decide +kernel
theorem dX1_add_54 : decode cX1_add 54 = .ok (.getfield 24, 3) := by decide +kernel
theorem dX1_add_57 : decode cX1_add 57 = .ok (.iconst 1, 1) := by decide +kernel
theorem dX1_add_58 : decode cX1_add 58 = .ok (.iadd, 1) := by decide +kernel
theorem dX1_add_59 : decode cX1_add 59 = .ok (.putfield 24, 3) := by decide +kernel
theorem dX1_add_62 : decode cX1_add 62 = .ok (.iconst 1, 1) := by decide +kernel
theorem dX1_add_63 : decode cX1_add 63 = .ok (.ireturn, 1) := by decide +kernel
set_option maxRecDepth 20000 in
theorem ggX1_has_X5_isWithin : GoodIn wsX1_has wsX5_isWithin := goodIn_r _ [4] (by decide +kernel) (by decide +kernel)
set_option maxRecDepth 20000 in
theorem gX1_has_X5_isWithin_n28 : GoodIn wsX1_has (wsX5_isWithin) := ggX1_has_X5_isWithin
theorem dX1_has_0 : decode cX1_has 0 = .ok (.iload_n 1, 1) := by decide +kernel
theorem dX1_has_1 : decode cX1_has 1 = .ok (.iconst 0, 1) := by decide +kernel
theorem dX1_has_2 : decode cX1_has 2 = .ok (.aload_n 0, 1) := by decide +kernel
theorem dX1_has_3 : decode cX1_has 3 = .ok (.getfield 24, 3) := by decide +kernel
theorem dX1_has_6 : decode cX1_has 6 = .ok (.iconst 1, 1) := by decide +kernel
theorem dX1_has_7 : decode cX1_has 7 = .ok (.isub, 1) := by decide +kernel
theorem dX1_has_8 : decode cX1_has 8 = .ok (.invokestatic 28, 3) := by decide +kernel
theorem dX1_has_11 : decode cX1_has 11 = .ok (.ireturn, 1) := by decide +kernel
set_option maxRecDepth 20000 in
theorem ggX1_house_X1_has : GoodIn wsX1_house wsX1_has := goodIn_r _ [6, 7, 8, 9, 10, 11, 12, 13, 14, 15] (by decide +kernel) (by decide +kernel)
set_option maxRecDepth 20000 in
theorem gX1_house_X1_has : GoodIn wsX1_house (wsV RX1 32 RX1 yX1_has wsX1_has) := goodIn_app (goodIn_of _ (by decide +kernel)) ggX1_house_X1_has
theorem dX1_house_0 : decode cX1_house 0 = .ok (.aload_n 0, 1) := by decide +kernel
theorem dX1_house_1 : decode cX1_house 1 = .ok (.iload_n 1, 1) := by decide +kernel
theorem dX1_house_2 : decode cX1_house 2 = .ok (.invokevirtual 32, 3) := by decide +kernel
theorem dX1_house_5 : decode cX1_house 5 = .ok (.ifCond .eq 12, 3) := by decide +kernel
theorem dX1_house_8 : decode cX1_house 8 = .ok (.aload_n 0, 1) := by decide +kernel
theorem dX1_house_9 : decode cX1_house 9 = .ok (.getfield 9, 3) := by decide +kernel
theorem dX1_house_12 : decode cX1_house 12 = .ok (.iload_n 1, 1) := by decide +kernel
theorem dX1_house_13 : decode cX1_house 13 = .ok (.iaload, 1) := by decide +kernel
theorem dX1_house_14 : decode cX1_house 14 = .ok (.goto 4, 3) := by decide +kernel
theorem dX1_house_17 : decode cX1_house 17 = .ok (.iconst 0, 1) := by decide +kernel
theorem dX1_house_18 : decode cX1_house 18 = .ok (.ireturn, 1) := by decide +kernel
set_option maxRecDepth 20000 in
theorem ggX1_hour_X1_has : GoodIn wsX1_hour wsX1_has := goodIn_r _ [6, 7, 8, 9, 10, 11, 12, 13, 14, 15] (by decide +kernel) (by decide +kernel)
set_option maxRecDepth 20000 in
theorem gX1_hour_X1_has : GoodIn wsX1_hour (wsV RX1 32 RX1 yX1_has wsX1_has) := goodIn_app (goodIn_of _ (by decide +kernel)) ggX1_hour_X1_has
theorem dX1_hour_0 : decode cX1_hour 0 = .ok (.aload_n 0, 1) := by decide +kernel
theorem dX1_hour_1 : decode cX1_hour 1 = .ok (.iload_n 1, 1) := by decide +kernel
theorem dX1_hour_2 : decode cX1_hour 2 = .ok (.invokevirtual 32, 3) := by decide +kernel
theorem dX1_hour_5 : decode cX1_hour 5 = .ok (.ifCond .eq 12, 3) := by decide +kernel
theorem dX1_hour_8 : decode cX1_hour 8 = .ok (.aload_n 0, 1) := by decide +kernel
theorem dX1_hour_9 : decode cX1_hour 9 = .ok (.getfield 15, 3) := by decide +kernel
theorem dX1_hour_12 : decode cX1_hour 12 = .ok (.iload_n 1, 1) := by decide +kernel
theorem dX1_hour_13 : decode cX1_hour 13 = .ok (.iaload, 1) := by decide +kernel
theorem dX1_hour_14 : decode cX1_hour 14 = .ok (.goto 4, 3) := by decide +kernel
theorem dX1_hour_17 : decode cX1_hour 17 = .ok (.iconst 0, 1) := by decide +kernel
theorem dX1_hour_18 : decode cX1_hour 18 = .ok (.ireturn, 1) := by decide +kernel
set_option maxRecDepth 20000 in
theorem ggX1_loud_X1_has : GoodIn wsX1_loud wsX1_has := goodIn_r _ [6, 7, 8, 9, 10, 11, 12, 13, 14, 15] (by decide +kernel) (by decide +kernel)
set_option maxRecDepth 20000 in
theorem gX1_loud_X1_has : GoodIn wsX1_loud (wsV RX1 32 RX1 yX1_has wsX1_has) := goodIn_app (goodIn_of _ (by decide +kernel)) ggX1_loud_X1_has
theorem dX1_loud_0 : decode cX1_loud 0 = .ok (.aload_n 0, 1) := by decide +kernel
theorem dX1_loud_1 : decode cX1_loud 1 = .ok (.iload_n 1, 1) := by decide +kernel
theorem dX1_loud_2 : decode cX1_loud 2 = .ok (.invokevirtual 32, 3) := by decide +kernel
theorem dX1_loud_5 : decode cX1_loud 5 = .ok (.ifCond .eq 12, 3) := by decide +kernel
theorem dX1_loud_8 : decode cX1_loud 8 = .ok (.aload_n 0, 1) := by decide +kernel
theorem dX1_loud_9 : decode cX1_loud 9 = .ok (.getfield 18, 3) := by decide +kernel
theorem dX1_loud_12 : decode cX1_loud 12 = .ok (.iload_n 1, 1) := by decide +kernel
theorem dX1_loud_13 : decode cX1_loud 13 = .ok (.iaload, 1) := by decide +kernel
theorem dX1_loud_14 : decode cX1_loud 14 = .ok (.goto 4, 3) := by decide +kernel
theorem dX1_loud_17 : decode cX1_loud 17 = .ok (.iconst 0, 1) := by decide +kernel
theorem dX1_loud_18 : decode cX1_loud 18 = .ok (.ireturn, 1) := by decide +kernel
set_option maxRecDepth 20000 in
theorem ggX1_how_X1_has : GoodIn wsX1_how wsX1_has := goodIn_r _ [6, 7, 8, 9, 10, 11, 12, 13, 14, 15] (by decide +kernel) (by decide +kernel)
set_option maxRecDepth 20000 in
theorem gX1_how_X1_has : GoodIn wsX1_how (wsV RX1 32 RX1 yX1_has wsX1_has) := goodIn_app (goodIn_of _ (by decide +kernel)) ggX1_how_X1_has
theorem dX1_how_0 : decode cX1_how 0 = .ok (.aload_n 0, 1) := by decide +kernel
theorem dX1_how_1 : decode cX1_how 1 = .ok (.iload_n 1, 1) := by decide +kernel
theorem dX1_how_2 : decode cX1_how 2 = .ok (.invokevirtual 32, 3) := by decide +kernel
theorem dX1_how_5 : decode cX1_how 5 = .ok (.ifCond .eq 12, 3) := by decide +kernel
theorem dX1_how_8 : decode cX1_how 8 = .ok (.aload_n 0, 1) := by decide +kernel
theorem dX1_how_9 : decode cX1_how 9 = .ok (.getfield 21, 3) := by decide +kernel
theorem dX1_how_12 : decode cX1_how 12 = .ok (.iload_n 1, 1) := by decide +kernel
theorem dX1_how_13 : decode cX1_how 13 = .ok (.iaload, 1) := by decide +kernel
theorem dX1_how_14 : decode cX1_how 14 = .ok (.goto 4, 3) := by decide +kernel
theorem dX1_how_17 : decode cX1_how 17 = .ok (.iconst 0, 1) := by decide +kernel
theorem dX1_how_18 : decode cX1_how 18 = .ok (.ireturn, 1) := by decide +kernel
set_option maxRecDepth 20000 in
theorem ggX1_lastLoud_X1_loud : GoodIn wsX1_lastLoud wsX1_loud := goodIn_r _ [6, 7, 8, 9, 10, 5, 11, 1, 12, 13, 14, 15, 16, 17, 18, 19] (by decide +kernel) (by decide +kernel)
set_option maxRecDepth 20000 in
theorem gX1_lastLoud_X1_loud : GoodIn wsX1_lastLoud (wsV RX1 36 RX1 yX1_loud wsX1_loud) := goodIn_app (goodIn_of _ (by decide +kernel)) ggX1_lastLoud_X1_loud
theorem dX1_lastLoud_0 : decode cX1_lastLoud 0 = .ok (.aload_n 0, 1) := by decide +kernel
theorem dX1_lastLoud_1 : decode cX1_lastLoud 1 = .ok (.aload_n 0, 1) := by decide +kernel
theorem dX1_lastLoud_2 : decode cX1_lastLoud 2 = .ok (.getfield 24, 3) := by decide +kernel
theorem dX1_lastLoud_5 : decode cX1_lastLoud 5 = .ok (.iconst 1, 1) := by decide +kernel
theorem dX1_lastLoud_6 : decode cX1_lastLoud 6 = .ok (.isub, 1) := by decide +kernel
theorem dX1_lastLoud_7 : decode cX1_lastLoud 7 = .ok (.invokevirtual 36, 3) := by decide +kernel
theorem dX1_lastLoud_10 : decode cX1_lastLoud 10 = .ok (.ireturn, 1) := by decide +kernel
theorem dX1_copyFrom_0 : decode cX1_copyFrom 0 = .ok (.aload_n 0, 1) := by decide +kernel
theorem dX1_copyFrom_1 : decode cX1_copyFrom 1 = .ok (.aload_n 1, 1) := by decide +kernel
theorem dX1_copyFrom_2 : decode cX1_copyFrom 2 = .ok (.getfield 24, 3) := by decide +kernel
theorem dX1_copyFrom_5 : decode cX1_copyFrom 5 = .ok (.putfield 24, 3) := by decide +kernel
theorem dX1_copyFrom_8 : decode cX1_copyFrom 8 = .ok (.iconst 0, 1) := by decide +kernel
theorem dX1_copyFrom_9 : decode cX1_copyFrom 9 = .ok (.istore_n 2, 1) := by decide +kernel
theorem dX1_copyFrom_10 : decode cX1_copyFrom 10 = .ok (.iload_n 2, 1) := by decide +kernel
theorem dX1_copyFrom_11 : decode cX1_copyFrom 11 = .ok (.bipush 6, 2) := by decide +kernel
theorem dX1_copyFrom_13 : decode cX1_copyFrom 13 = .ok (.if_icmp .ge 57, 3) := by decide +kernel
theorem dX1_copyFrom_16 : decode cX1_copyFrom 16 = .ok (.aload_n 0, 1) := by decide +kernel
theorem dX1_copyFrom_17 : decode cX1_copyFrom 17 = .ok (.getfield 9, 3) := by decide +kernel
theorem dX1_copyFrom_20 : decode cX1_copyFrom 20 = .ok (.iload_n 2, 1) := by decide +kernel
theorem dX1_copyFrom_21 : decode cX1_copyFrom 21 = .ok (.aload_n 1, 1) := by decide +kernel
theorem dX1_copyFrom_22 : decode cX1_copyFrom 22 = .ok (.getfield 9, 3) := by decide +kernel
theorem dX1_copyFrom_25 : decode cX1_copyFrom 25 = .ok (.iload_n 2, 1) := by decide +kernel
theorem dX1_copyFrom_26 : decode cX1_copyFrom 26 = .ok (.iaload, 1) := by decide +kernel
theorem dX1_copyFrom_27 : decode cX1_copyFrom 27 = .ok (.iastore, 1) := by decide +kernel
theorem dX1_copyFrom_28 : decode cX1_copyFrom 28 = .ok (.aload_n 0, 1) := by decide +kernel
theorem dX1_copyFrom_29 : decode cX1_copyFrom 29 = .ok (.getfield 15, 3) := by decide +kernel
theorem dX1_copyFrom_32 : decode cX1_copyFrom 32 = .ok (.iload_n 2, 1) := by decide +kernel
theorem dX1_copyFrom_33 : decode cX1_copyFrom 33 = .ok (.aload_n 1, 1) := by decide +kernel
theorem dX1_copyFrom_34 : decode cX1_copyFrom 34 = .ok (.getfield 15, 3) := by decide +kernel
theorem dX1_copyFrom_37 : decode cX1_copyFrom 37 = .ok (.iload_n 2, 1) := by decide +kernel
theorem dX1_copyFrom_38 : decode cX1_copyFrom 38 = .ok (.iaload, 1) := by decide +kernel
theorem dX1_copyFrom_39 : decode cX1_copyFrom 39 = .ok (.iastore, 1) := by decide +kernel
theorem dX1_copyFrom_40 : decode cX1_copyFrom 40 = .ok (.aload_n 0, 1) := by decide +kernel
theorem dX1_copyFrom_41 : decode cX1_copyFrom 41 = .ok (.getfield 18, 3) := by decide +kernel
theorem dX1_copyFrom_44 : decode cX1_copyFrom 44 = .ok (.iload_n 2, 1) := by decide +kernel
theorem dX1_copyFrom_45 : decode cX1_copyFrom 45 = .ok (.aload_n 1, 1) := by decide +kernel
theorem dX1_copyFrom_46 : decode cX1_copyFrom 46 = .ok (.getfield 18, 3) := by decide +kernel
theorem dX1_copyFrom_49 : decode cX1_copyFrom 49 = .ok (.iload_n 2, 1) := by decide +kernel
theorem dX1_copyFrom_50 : decode cX1_copyFrom 50 = .ok (.iaload, 1) := by decide +kernel
theorem dX1_copyFrom_51 : decode cX1_copyFrom 51 = .ok (.iastore, 1) := by decide +kernel
theorem dX1_copyFrom_52 : decode cX1_copyFrom 52 = .ok (.aload_n 0, 1) := by decide +kernel
theorem dX1_copyFrom_53 : decode cX1_copyFrom 53 = .ok (.getfield 21, 3) := by decide +kernel
theorem dX1_copyFrom_56 : decode cX1_copyFrom 56 = .ok (.iload_n 2, 1) := by decide +kernel
theorem dX1_copyFrom_57 : decode cX1_copyFrom 57 = .ok (.aload_n 1, 1) := by decide +kernel
theorem dX1_copyFrom_58 : decode cX1_copyFrom 58 = .ok (.getfield 21, 3) := by decide +kernel
theorem dX1_copyFrom_61 : decode cX1_copyFrom 61 = .ok (.iload_n 2, 1) := by decide +kernel
theorem dX1_copyFrom_62 : decode cX1_copyFrom 62 = .ok (.iaload, 1) := by decide +kernel
theorem dX1_copyFrom_63 : decode cX1_copyFrom 63 = .ok (.iastore, 1) := by decide +kernel
theorem dX1_copyFrom_64 : decode cX1_copyFrom 64 = .ok (.iinc 2 1, 3) := by decide +kernel
theorem dX1_copyFrom_67 : decode cX1_copyFrom 67 = .ok (.goto (-57), 3) := by decide +kernel
theorem dX1_copyFrom_70 : decode cX1_copyFrom 70 = .ok (.return_, 1) := by decide +kernel
theorem dX2_init_0 : decode cX2_init 0 = .ok (.aload_n 0, 1) := by decide +kernel
theorem dX2_init_1 : decode cX2_init 1 = .ok (.invokespecial 3, 3) := by decide +kernel
theorem dX2_init_4 : decode cX2_init 4 = .ok (.aload_n 0, 1) := by decide +kernel
theorem dX2_init_5 : decode cX2_init 5 = .ok (.bipush 25, 2) := by decide +kernel
theorem dX2_init_7 : decode cX2_init 7 = .ok (.newarray .int, 2) := by decide +kernel
theorem dX2_init_9 : decode cX2_init 9 = .ok (.putfield 9, 3) := by decide +kernel
theorem dX2_init_12 : decode cX2_init 12 = .ok (.return_, 1) := by decide +kernel
theorem dX2_size_0 : decode cX2_size 0 = .ok (.aload_n 0, 1) := by decide +kernel
theorem dX2_size_1 : decode cX2_size 1 = .ok (.getfield 15, 3) := by decide +kernel
theorem dX2_size_4 : decode cX2_size 4 = .ok (.ireturn, 1) := by decide +kernel
theorem dX2_write_0 : decode cX2_write 0 = .ok (.aload_n 0, 1) := by decide +kernel
theorem dX2_write_1 : decode cX2_write 1 = .ok (.getfield 15, 3) := by decide +kernel
theorem dX2_write_4 : decode cX2_write 4 = .ok (.bipush 25, 2) := by decide +kernel
theorem dX2_write_6 : decode cX2_write 6 = .ok (.if_icmp .lt 5, 3) := by decide +kernel
theorem dX2_write_9 : decode cX2_write 9 = .ok (.iconst 0, 1) := by decide +kernel
theorem dX2_write_10 : decode cX2_write 10 = .ok (.ireturn, 1) := by decide +kernel
theorem dX2_write_11 : decode cX2_write 11 = .ok (.aload_n 0, 1) := by decide +kernel
theorem dX2_write_12 : decode cX2_write 12 = .ok (.getfield 9, 3) := by decide +kernel
theorem dX2_write_15 : decode cX2_write 15 = .ok (.aload_n 0, 1) := by decide +kernel
theorem dX2_write_16 : decode cX2_write 16 = .ok (.getfield 15, 3) := by decide +kernel
theorem dX2_write_19 : decode cX2_write 19 = .ok (.iload_n 1, 1) := by decide +kernel
theorem dX2_write_20 : decode cX2_write 20 = .ok (.iastore, 1) := by decide +kernel
theorem dX2_write_21 : decode cX2_write 21 = .ok (.aload_n 0, 1) := by decide +kernel
theorem dX2_write_22 : decode cX2_write 22 = .ok (.dup, 1) := by decide +kernel
theorem dX2_write_23 : decode cX2_write 23 = .ok (.getfield 15, 3) := by decide +kernel
theorem dX2_write_26 : decode cX2_write 26 = .ok (.iconst 1, 1) := by decide +kernel
theorem dX2_write_27 : decode cX2_write 27 = .ok (.iadd, 1) := by decide +kernel
theorem dX2_write_28 : decode cX2_write 28 = .ok (.putfield 15, 3) := by decide +kernel
theorem dX2_write_31 : decode cX2_write 31 = .ok (.iconst 1, 1) := by decide +kernel
theorem dX2_write_32 : decode cX2_write 32 = .ok (.ireturn, 1) := by decide +kernel
theorem dX2_wipe_0 : decode cX2_wipe 0 = .ok (.aload_n 0, 1) := by decide +kernel
theorem dX2_wipe_1 : decode cX2_wipe 1 = .ok (.getfield 15, 3) := by decide +kernel
theorem dX2_wipe_4 : decode cX2_wipe 4 = .ok (.istore_n 1, 1) := by decide +kernel
theorem dX2_wipe_5 : decode cX2_wipe 5 = .ok (.aload_n 0, 1) := by decide +kernel
theorem dX2_wipe_6 : decode cX2_wipe 6 = .ok (.iconst 0, 1) := by decide +kernel
theorem dX2_wipe_7 : decode cX2_wipe 7 = .ok (.putfield 15, 3) := by decide +kernel
theorem dX2_wipe_10 : decode cX2_wipe 10 = .ok (.iload_n 1, 1) := by decide +kernel
theorem dX2_wipe_11 : decode cX2_wipe 11 = .ok (.ireturn, 1) := by decide +kernel
set_option maxRecDepth 20000 in
theorem ggX2_at_X5_isWithin : GoodIn wsX2_at wsX5_isWithin := goodIn_r _ [5] (by decide +kernel) (by decide +kernel)
set_option maxRecDepth 20000 in
theorem gX2_at_X5_isWithin_n19 : GoodIn wsX2_at (wsX5_isWithin) := ggX2_at_X5_isWithin
theorem dX2_at_0 : decode cX2_at 0 = .ok (.iload_n 1, 1) := by decide +kernel
theorem dX2_at_1 : decode cX2_at 1 = .ok (.iconst 0, 1) := by decide +kernel
theorem dX2_at_2 : decode cX2_at 2 = .ok (.aload_n 0, 1) := by decide +kernel
theorem dX2_at_3 : decode cX2_at 3 = .ok (.getfield 15, 3) := by decide +kernel
theorem dX2_at_6 : decode cX2_at 6 = .ok (.iconst 1, 1) := by decide +kernel
theorem dX2_at_7 : decode cX2_at 7 = .ok (.isub, 1) := by decide +kernel
theorem dX2_at_8 : decode cX2_at 8 = .ok (.invokestatic 19, 3) := by decide +kernel
theorem dX2_at_11 : decode cX2_at 11 = .ok (.ifCond .eq 12, 3) := by decide +kernel
theorem dX2_at_14 : decode cX2_at 14 = .ok (.aload_n 0, 1) := by decide +kernel
theorem dX2_at_15 : decode cX2_at 15 = .ok (.getfield 9, 3) := by decide +kernel
theorem dX2_at_18 : decode cX2_at 18 = .ok (.iload_n 1, 1) := by decide +kernel
theorem dX2_at_19 : decode cX2_at 19 = .ok (.iaload, 1) := by decide +kernel
theorem dX2_at_20 : decode cX2_at 20 = .ok (.goto 4, 3) := by decide +kernel
theorem dX2_at_23 : decode cX2_at 23 = .ok (.iconst (-1), 1) := by decide +kernel
theorem dX2_at_24 : decode cX2_at 24 = .ok (.ireturn, 1) := by decide +kernel
set_option maxRecDepth 20000 in
theorem ggX2_digitAt_X2_at : GoodIn wsX2_digitAt wsX2_at := goodIn_r _ [5, 6, 7, 8, 9, 10, 11, 12] (by decide +kernel) (by decide +kernel)
set_option maxRecDepth 20000 in
theorem gX2_digitAt_X2_at : GoodIn wsX2_digitAt (wsV RX2 23 RX2 yX2_at wsX2_at) := goodIn_app (goodIn_of _ (by decide +kernel)) ggX2_digitAt_X2_at
theorem dX2_digitAt_0 : decode cX2_digitAt 0 = .ok (.aload_n 0, 1) := by decide +kernel
theorem dX2_digitAt_1 : decode cX2_digitAt 1 = .ok (.iload_n 1, 1) := by decide +kernel
theorem dX2_digitAt_2 : decode cX2_digitAt 2 = .ok (.invokevirtual 23, 3) := by decide +kernel
theorem dX2_digitAt_5 : decode cX2_digitAt 5 = .ok (.bipush 48, 2) := by decide +kernel
theorem dX2_digitAt_7 : decode cX2_digitAt 7 = .ok (.isub, 1) := by decide +kernel
theorem dX2_digitAt_8 : decode cX2_digitAt 8 = .ok (.ireturn, 1) := by decide +kernel
set_option maxRecDepth 20000 in
theorem ggX2_soundLetters_X2_houses : GoodIn wsX2_soundLetters wsX2_houses := goodIn_r _ [6, 7, 8, 9, 5, 10, 1, 11, 12, 13, 14, 23, 24] (by decide +kernel) (by decide +kernel)
set_option maxRecDepth 20000 in
theorem gX2_soundLetters_X2_houses : GoodIn wsX2_soundLetters (wsV RX2 27 RX2 yX2_houses wsX2_houses) := goodIn_app (goodIn_of _ (by decide +kernel)) ggX2_soundLetters_X2_houses
set_option maxRecDepth 20000 in
theorem ggX2_soundLetters_X2_at : GoodIn wsX2_soundLetters wsX2_at := goodIn_r _ [10, 1, 11, 12, 13, 14, 23, 24] (by decide +kernel) (by decide +kernel)
set_option maxRecDepth 20000 in
theorem gX2_soundLetters_X2_at : GoodIn wsX2_soundLetters (wsV RX2 23 RX2 yX2_at wsX2_at) := goodIn_app (goodIn_of _ (by decide +kernel)) ggX2_soundLetters_X2_at
set_option maxRecDepth 20000 in
theorem ggX2_soundLetters_X2_suitsHouses : GoodIn wsX2_soundLetters wsX2_suitsHouses := goodIn_r _ [17, 18, 13, 19, 12, 14] (by decide +kernel) (by decide +kernel)
set_option maxRecDepth 20000 in
theorem gX2_soundLetters_X2_suitsHouses : GoodIn wsX2_soundLetters (va_wsS RX2 31 yX2_suitsHouses wsX2_suitsHouses) := goodIn_app (goodIn_of _ (by decide +kernel)) ggX2_soundLetters_X2_suitsHouses
set_option maxRecDepth 20000 in
theorem ggX2_soundLetters_X2_suitsStrokes : GoodIn wsX2_soundLetters wsX2_suitsStrokes := goodIn_r _ [22, 12, 13, 14] (by decide +kernel) (by decide +kernel)
set_option maxRecDepth 20000 in
theorem gX2_soundLetters_X2_suitsStrokes : GoodIn wsX2_soundLetters (va_wsS RX2 35 yX2_suitsStrokes wsX2_suitsStrokes) := goodIn_app (goodIn_of _ (by decide +kernel)) ggX2_soundLetters_X2_suitsStrokes
theorem dX2_soundLetters_0 : decode cX2_soundLetters 0 = .ok (.aload_n 0, 1) := by decide +kernel
theorem dX2_soundLetters_1 : decode cX2_soundLetters 1 = .ok (.invokevirtual 27, 3) := by decide +kernel
theorem dX2_soundLetters_4 : decode cX2_soundLetters 4 = .ok (.istore_n 1, 1) := by decide +kernel
theorem dX2_soundLetters_5 : decode cX2_soundLetters 5 = .ok (.iload_n 1, 1) := by decide +kernel
theorem dX2_soundLetters_6 : decode cX2_soundLetters 6 = .ok (.iconst (-1), 1) := by decide +kernel
theorem dX2_soundLetters_7 : decode cX2_soundLetters 7 = .ok (.if_icmp .ne 10, 3) := by decide +kernel
theorem dX2_soundLetters_10 : decode cX2_soundLetters 10 = .ok (.aload_n 0, 1) := by decide +kernel
theorem dX2_soundLetters_11 : decode cX2_soundLetters 11 = .ok (.getfield 15, 3) := by decide +kernel
theorem dX2_soundLetters_14 : decode cX2_soundLetters 14 = .ok (.goto 6, 3) := by decide +kernel
theorem dX2_soundLetters_17 : decode cX2_soundLetters 17 = .ok (.iconst 3, 1) := by decide +kernel
theorem dX2_soundLetters_18 : decode cX2_soundLetters 18 = .ok (.iload_n 1, 1) := by decide +kernel
theorem dX2_soundLetters_19 : decode cX2_soundLetters 19 = .ok (.imul, 1) := by decide +kernel
theorem dX2_soundLetters_20 : decode cX2_soundLetters 20 = .ok (.istore_n 2, 1) := by decide +kernel
theorem dX2_soundLetters_21 : decode cX2_soundLetters 21 = .ok (.iconst 0, 1) := by decide +kernel
theorem dX2_soundLetters_22 : decode cX2_soundLetters 22 = .ok (.istore_n 3, 1) := by decide +kernel
theorem dX2_soundLetters_23 : decode cX2_soundLetters 23 = .ok (.iload_n 3, 1) := by decide +kernel
theorem dX2_soundLetters_24 : decode cX2_soundLetters 24 = .ok (.aload_n 0, 1) := by decide +kernel
theorem dX2_soundLetters_25 : decode cX2_soundLetters 25 = .ok (.getfield 15, 3) := by decide +kernel
theorem dX2_soundLetters_28 : decode cX2_soundLetters 28 = .ok (.if_icmp .ge 46, 3) := by decide +kernel
theorem dX2_soundLetters_31 : decode cX2_soundLetters 31 = .ok (.iload_n 3, 1) := by decide +kernel
theorem dX2_soundLetters_32 : decode cX2_soundLetters 32 = .ok (.iload_n 2, 1) := by decide +kernel
theorem dX2_soundLetters_33 : decode cX2_soundLetters 33 = .ok (.if_icmp .ge 15, 3) := by decide +kernel
theorem dX2_soundLetters_36 : decode cX2_soundLetters 36 = .ok (.iload_n 3, 1) := by decide +kernel
theorem dX2_soundLetters_37 : decode cX2_soundLetters 37 = .ok (.aload_n 0, 1) := by decide +kernel
theorem dX2_soundLetters_38 : decode cX2_soundLetters 38 = .ok (.iload_n 3, 1) := by decide +kernel
theorem dX2_soundLetters_39 : decode cX2_soundLetters 39 = .ok (.invokevirtual 23, 3) := by decide +kernel
theorem dX2_soundLetters_42 : decode cX2_soundLetters 42 = .ok (.invokestatic 31, 3) := by decide +kernel
theorem dX2_soundLetters_45 : decode cX2_soundLetters 45 = .ok (.goto 14, 3) := by decide +kernel
theorem dX2_soundLetters_48 : decode cX2_soundLetters 48 = .ok (.iload_n 3, 1) := by decide +kernel
theorem dX2_soundLetters_49 : decode cX2_soundLetters 49 = .ok (.iload_n 2, 1) := by decide +kernel
theorem dX2_soundLetters_50 : decode cX2_soundLetters 50 = .ok (.isub, 1) := by decide +kernel
theorem dX2_soundLetters_51 : decode cX2_soundLetters 51 = .ok (.aload_n 0, 1) := by decide +kernel
theorem dX2_soundLetters_52 : decode cX2_soundLetters 52 = .ok (.iload_n 3, 1) := by decide +kernel
theorem dX2_soundLetters_53 : decode cX2_soundLetters 53 = .ok (.invokevirtual 23, 3) := by decide +kernel
theorem dX2_soundLetters_56 : decode cX2_soundLetters 56 = .ok (.invokestatic 35, 3) := by decide +kernel
theorem dX2_soundLetters_59 : decode cX2_soundLetters 59 = .ok (.istore 4, 2) := by decide +kernel
theorem dX2_soundLetters_61 : decode cX2_soundLetters 61 = .ok (.iload 4, 2) := by decide +kernel
theorem dX2_soundLetters_63 : decode cX2_soundLetters 63 = .ok (.ifCond .ne 5, 3) := by decide +kernel
theorem dX2_soundLetters_66 : decode cX2_soundLetters 66 = .ok (.iload_n 3, 1) := by decide +kernel
theorem dX2_soundLetters_67 : decode cX2_soundLetters 67 = .ok (.ireturn, 1) := by decide +kernel
theorem dX2_soundLetters_68 : decode cX2_soundLetters 68 = .ok (.iinc 3 1, 3) := by decide +kernel
theorem dX2_soundLetters_71 : decode cX2_soundLetters 71 = .ok (.goto (-48), 3) := by decide +kernel
theorem dX2_soundLetters_74 : decode cX2_soundLetters 74 = .ok (.aload_n 0, 1) := by decide +kernel
theorem dX2_soundLetters_75 : decode cX2_soundLetters 75 = .ok (.getfield 15, 3) := by decide +kernel
theorem dX2_soundLetters_78 : decode cX2_soundLetters 78 = .ok (.ireturn, 1) := by decide +kernel
set_option maxRecDepth 20000 in
theorem ggX2_tellsColony_X2_houses : GoodIn wsX2_tellsColony wsX2_houses := goodIn_r _ [6, 7, 8, 9, 5, 10, 1, 11, 12, 13, 14, 27, 28] (by decide +kernel) (by decide +kernel)
set_option maxRecDepth 20000 in
theorem gX2_tellsColony_X2_houses : GoodIn wsX2_tellsColony (wsV RX2 27 RX2 yX2_houses wsX2_houses) := goodIn_app (goodIn_of _ (by decide +kernel)) ggX2_tellsColony_X2_houses
set_option maxRecDepth 20000 in
theorem ggX2_tellsColony_X2_soundLetters : GoodIn wsX2_tellsColony wsX2_soundLetters := goodIn_r _ [18, 1, 2, 3, 4, 5, 6, 7, 8, 9, 10, 11, 12, 13, 14, 19, 20, 21, 22, 23, 24, 25, 26, 27, 28] (by decide +kernel) (by decide +kernel)
set_option maxRecDepth 20000 in
theorem gX2_tellsColony_X2_soundLetters : GoodIn wsX2_tellsColony (wsV RX2 38 RX2 yX2_soundLetters wsX2_soundLetters) := goodIn_app (goodIn_of _ (by decide +kernel)) ggX2_tellsColony_X2_soundLetters
theorem dX2_tellsColony_0 : decode cX2_tellsColony 0 = .ok (.aload_n 0, 1) := by decide +kernel
theorem dX2_tellsColony_1 : decode cX2_tellsColony 1 = .ok (.invokevirtual 27, 3) := by decide +kernel
theorem dX2_tellsColony_4 : decode cX2_tellsColony 4 = .ok (.istore_n 1, 1) := by decide +kernel
theorem dX2_tellsColony_5 : decode cX2_tellsColony 5 = .ok (.iload_n 1, 1) := by decide +kernel
theorem dX2_tellsColony_6 : decode cX2_tellsColony 6 = .ok (.iconst (-1), 1) := by decide +kernel
theorem dX2_tellsColony_7 : decode cX2_tellsColony 7 = .ok (.if_icmp .eq 14, 3) := by decide +kernel
theorem dX2_tellsColony_10 : decode cX2_tellsColony 10 = .ok (.aload_n 0, 1) := by decide +kernel
theorem dX2_tellsColony_11 : decode cX2_tellsColony 11 = .ok (.invokevirtual 38, 3) := by decide +kernel
theorem dX2_tellsColony_14 : decode cX2_tellsColony 14 = .ok (.aload_n 0, 1) := by decide +kernel
theorem dX2_tellsColony_15 : decode cX2_tellsColony 15 = .ok (.getfield 15, 3) := by decide +kernel
theorem dX2_tellsColony_18 : decode cX2_tellsColony 18 = .ok (.if_icmp .ge 5, 3) := by decide +kernel
theorem dX2_tellsColony_21 : decode cX2_tellsColony 21 = .ok (.iconst 0, 1) := by decide +kernel
theorem dX2_tellsColony_22 : decode cX2_tellsColony 22 = .ok (.ireturn, 1) := by decide +kernel
theorem dX2_tellsColony_23 : decode cX2_tellsColony 23 = .ok (.aload_n 0, 1) := by decide +kernel
theorem dX2_tellsColony_24 : decode cX2_tellsColony 24 = .ok (.getfield 15, 3) := by decide +kernel
theorem dX2_tellsColony_27 : decode cX2_tellsColony 27 = .ok (.iconst 3, 1) := by decide +kernel
theorem dX2_tellsColony_28 : decode cX2_tellsColony 28 = .ok (.iload_n 1, 1) := by decide +kernel
theorem dX2_tellsColony_29 : decode cX2_tellsColony 29 = .ok (.imul, 1) := by decide +kernel
theorem dX2_tellsColony_30 : decode cX2_tellsColony 30 = .ok (.isub, 1) := by decide +kernel
theorem dX2_tellsColony_31 : decode cX2_tellsColony 31 = .ok (.istore_n 2, 1) := by decide +kernel
theorem dX2_tellsColony_32 : decode cX2_tellsColony 32 = .ok (.iload_n 2, 1) := by decide +kernel
theorem dX2_tellsColony_33 : decode cX2_tellsColony 33 = .ok (.ifCond .le 13, 3) := by decide +kernel
theorem dX2_tellsColony_36 : decode cX2_tellsColony 36 = .ok (.iload_n 2, 1) := by decide +kernel
theorem dX2_tellsColony_37 : decode cX2_tellsColony 37 = .ok (.iconst 2, 1) := by decide +kernel
theorem dX2_tellsColony_38 : decode cX2_tellsColony 38 = .ok (.irem, 1) := by decide +kernel
theorem dX2_tellsColony_39 : decode cX2_tellsColony 39 = .ok (.ifCond .ne 7, 3) := by decide +kernel
theorem dX2_tellsColony_42 : decode cX2_tellsColony 42 = .ok (.iconst 1, 1) := by decide +kernel
theorem dX2_tellsColony_43 : decode cX2_tellsColony 43 = .ok (.goto 4, 3) := by decide +kernel
theorem dX2_tellsColony_46 : decode cX2_tellsColony 46 = .ok (.iconst 0, 1) := by decide +kernel
theorem dX2_tellsColony_47 : decode cX2_tellsColony 47 = .ok (.ireturn, 1) := by decide +kernel
set_option maxRecDepth 20000 in
theorem ggX2_houses_X2_at : GoodIn wsX2_houses wsX2_at := goodIn_r _ [5, 6, 7, 8, 9, 10, 11, 12] (by decide +kernel) (by decide +kernel)
set_option maxRecDepth 20000 in
theorem gX2_houses_X2_at : GoodIn wsX2_houses (wsV RX2 23 RX2 yX2_at wsX2_at) := goodIn_app (goodIn_of _ (by decide +kernel)) ggX2_houses_X2_at
theorem dX2_houses_0 : decode cX2_houses 0 = .ok (.iconst 2, 1) := by decide +kernel
theorem dX2_houses_1 : decode cX2_houses 1 = .ok (.istore_n 1, 1) := by decide +kernel
theorem dX2_houses_2 : decode cX2_houses 2 = .ok (.iload_n 1, 1) := by decide +kernel
theorem dX2_houses_3 : decode cX2_houses 3 = .ok (.iconst 5, 1) := by decide +kernel
theorem dX2_houses_4 : decode cX2_houses 4 = .ok (.if_icmp .gt 25, 3) := by decide +kernel
theorem dX2_houses_7 : decode cX2_houses 7 = .ok (.aload_n 0, 1) := by decide +kernel
theorem dX2_houses_8 : decode cX2_houses 8 = .ok (.iconst 3, 1) := by decide +kernel
theorem dX2_houses_9 : decode cX2_houses 9 = .ok (.iload_n 1, 1) := by decide +kernel
theorem dX2_houses_10 : decode cX2_houses 10 = .ok (.imul, 1) := by decide +kernel
theorem dX2_houses_11 : decode cX2_houses 11 = .ok (.iconst 1, 1) := by decide +kernel
theorem dX2_houses_12 : decode cX2_houses 12 = .ok (.isub, 1) := by decide +kernel
theorem dX2_houses_13 : decode cX2_houses 13 = .ok (.invokevirtual 23, 3) := by decide +kernel
theorem dX2_houses_16 : decode cX2_houses 16 = .ok (.bipush 59, 2) := by decide +kernel
theorem dX2_houses_18 : decode cX2_houses 18 = .ok (.if_icmp .ne 5, 3) := by decide +kernel
theorem dX2_houses_21 : decode cX2_houses 21 = .ok (.iload_n 1, 1) := by decide +kernel
theorem dX2_houses_22 : decode cX2_houses 22 = .ok (.ireturn, 1) := by decide +kernel
theorem dX2_houses_23 : decode cX2_houses 23 = .ok (.iinc 1 1, 3) := by decide +kernel
theorem dX2_houses_26 : decode cX2_houses 26 = .ok (.goto (-24), 3) := by decide +kernel
theorem dX2_houses_29 : decode cX2_houses 29 = .ok (.iconst (-1), 1) := by decide +kernel
theorem dX2_houses_30 : decode cX2_houses 30 = .ok (.ireturn, 1) := by decide +kernel
set_option maxRecDepth 20000 in
theorem ggX2_suitsHouses_X5_kindOf : GoodIn wsX2_suitsHouses wsX5_kindOf := goodIn_r _ [3] (by decide +kernel) (by decide +kernel)
set_option maxRecDepth 20000 in
theorem gX2_suitsHouses_X5_kindOf_n41 : GoodIn wsX2_suitsHouses (wsX5_kindOf) := ggX2_suitsHouses_X5_kindOf
set_option maxRecDepth 20000 in
theorem ggX2_suitsHouses_X5_isWithin : GoodIn wsX2_suitsHouses wsX5_isWithin := goodIn_r _ [5] (by decide +kernel) (by decide +kernel)
set_option maxRecDepth 20000 in
theorem gX2_suitsHouses_X5_isWithin_n19 : GoodIn wsX2_suitsHouses (wsX5_isWithin) := ggX2_suitsHouses_X5_isWithin
theorem dX2_suitsHouses_0 : decode cX2_suitsHouses 0 = .ok (.iload_n 0, 1) := by decide +kernel
theorem dX2_suitsHouses_1 : decode cX2_suitsHouses 1 = .ok (.iconst 3, 1) := by decide +kernel
theorem dX2_suitsHouses_2 : decode cX2_suitsHouses 2 = .ok (.idiv, 1) := by decide +kernel
theorem dX2_suitsHouses_3 : decode cX2_suitsHouses 3 = .ok (.istore_n 2, 1) := by decide +kernel
theorem dX2_suitsHouses_4 : decode cX2_suitsHouses 4 = .ok (.iload_n 0, 1) := by decide +kernel
theorem dX2_suitsHouses_5 : decode cX2_suitsHouses 5 = .ok (.iconst 3, 1) := by decide +kernel
theorem dX2_suitsHouses_6 : decode cX2_suitsHouses 6 = .ok (.irem, 1) := by decide +kernel
theorem dX2_suitsHouses_7 : decode cX2_suitsHouses 7 = .ok (.lookupswitch 48 #[(0, 25), (1, 39)], 25) := by decide +kernel
theorem dX2_suitsHouses_32 : decode cX2_suitsHouses 32 = .ok (.iload_n 1, 1) := by decide +kernel
theorem dX2_suitsHouses_33 : decode cX2_suitsHouses 33 = .ok (.invokestatic 41, 3) := by decide +kernel
theorem dX2_suitsHouses_36 : decode cX2_suitsHouses 36 = .ok (.iconst (-1), 1) := by decide +kernel
theorem dX2_suitsHouses_37 : decode cX2_suitsHouses 37 = .ok (.if_icmp .eq 7, 3) := by decide +kernel
theorem dX2_suitsHouses_40 : decode cX2_suitsHouses 40 = .ok (.iconst 1, 1) := by decide +kernel
theorem dX2_suitsHouses_41 : decode cX2_suitsHouses 41 = .ok (.goto 4, 3) := by decide +kernel
theorem dX2_suitsHouses_44 : decode cX2_suitsHouses 44 = .ok (.iconst 0, 1) := by decide +kernel
theorem dX2_suitsHouses_45 : decode cX2_suitsHouses 45 = .ok (.ireturn, 1) := by decide +kernel
theorem dX2_suitsHouses_46 : decode cX2_suitsHouses 46 = .ok (.iload_n 1, 1) := by decide +kernel
theorem dX2_suitsHouses_47 : decode cX2_suitsHouses 47 = .ok (.bipush 48, 2) := by decide +kernel
theorem dX2_suitsHouses_49 : decode cX2_suitsHouses 49 = .ok (.bipush 57, 2) := by decide +kernel
theorem dX2_suitsHouses_51 : decode cX2_suitsHouses 51 = .ok (.invokestatic 19, 3) := by decide +kernel
theorem dX2_suitsHouses_54 : decode cX2_suitsHouses 54 = .ok (.ireturn, 1) := by decide +kernel
theorem dX2_suitsHouses_55 : decode cX2_suitsHouses 55 = .ok (.iload_n 1, 1) := by decide +kernel
theorem dX2_suitsHouses_56 : decode cX2_suitsHouses 56 = .ok (.bipush 44, 2) := by decide +kernel
theorem dX2_suitsHouses_58 : decode cX2_suitsHouses 58 = .ok (.if_icmp .ne 8, 3) := by decide +kernel
theorem dX2_suitsHouses_61 : decode cX2_suitsHouses 61 = .ok (.iload_n 2, 1) := by decide +kernel
theorem dX2_suitsHouses_62 : decode cX2_suitsHouses 62 = .ok (.iconst 4, 1) := by decide +kernel
theorem dX2_suitsHouses_63 : decode cX2_suitsHouses 63 = .ok (.if_icmp .lt 14, 3) := by decide +kernel
theorem dX2_suitsHouses_66 : decode cX2_suitsHouses 66 = .ok (.iload_n 1, 1) := by decide +kernel
theorem dX2_suitsHouses_67 : decode cX2_suitsHouses 67 = .ok (.bipush 59, 2) := by decide +kernel
theorem dX2_suitsHouses_69 : decode cX2_suitsHouses 69 = .ok (.if_icmp .ne 12, 3) := by decide +kernel
theorem dX2_suitsHouses_72 : decode cX2_suitsHouses 72 = .ok (.iload_n 2, 1) := by decide +kernel
theorem dX2_suitsHouses_73 : decode cX2_suitsHouses 73 = .ok (.iconst 1, 1) := by decide +kernel
theorem dX2_suitsHouses_74 : decode cX2_suitsHouses 74 = .ok (.if_icmp .lt 7, 3) := by decide +kernel
theorem dX2_suitsHouses_77 : decode cX2_suitsHouses 77 = .ok (.iconst 1, 1) := by decide +kernel
theorem dX2_suitsHouses_78 : decode cX2_suitsHouses 78 = .ok (.goto 4, 3) := by decide +kernel
theorem dX2_suitsHouses_81 : decode cX2_suitsHouses 81 = .ok (.iconst 0, 1) := by decide +kernel
theorem dX2_suitsHouses_82 : decode cX2_suitsHouses 82 = .ok (.ireturn, 1) := by decide +kernel
set_option maxRecDepth 20000 in
theorem ggX2_suitsStrokes_X5_isWithin : GoodIn wsX2_suitsStrokes wsX5_isWithin := goodIn_r _ [3] (by decide +kernel) (by decide +kernel)
set_option maxRecDepth 20000 in
theorem gX2_suitsStrokes_X5_isWithin_n19 : GoodIn wsX2_suitsStrokes (wsX5_isWithin) := ggX2_suitsStrokes_X5_isWithin
theorem dX2_suitsStrokes_0 : decode cX2_suitsStrokes 0 = .ok (.iload_n 0, 1) := by decide +kernel
theorem dX2_suitsStrokes_1 : decode cX2_suitsStrokes 1 = .ok (.bipush 8, 2) := by decide +kernel
theorem dX2_suitsStrokes_3 : decode cX2_suitsStrokes 3 = .ok (.if_icmp .lt 5, 3) := by decide +kernel
theorem dX2_suitsStrokes_6 : decode cX2_suitsStrokes 6 = .ok (.iconst 0, 1) := by decide +kernel
theorem dX2_suitsStrokes_7 : decode cX2_suitsStrokes 7 = .ok (.ireturn, 1) := by decide +kernel
theorem dX2_suitsStrokes_8 : decode cX2_suitsStrokes 8 = .ok (.iload_n 0, 1) := by decide +kernel
theorem dX2_suitsStrokes_9 : decode cX2_suitsStrokes 9 = .ok (.iconst 2, 1) := by decide +kernel
theorem dX2_suitsStrokes_10 : decode cX2_suitsStrokes 10 = .ok (.irem, 1) := by decide +kernel
theorem dX2_suitsStrokes_11 : decode cX2_suitsStrokes 11 = .ok (.ifCond .ne 8, 3) := by decide +kernel
theorem dX2_suitsStrokes_14 : decode cX2_suitsStrokes 14 = .ok (.bipush 48, 2) := by decide +kernel
theorem dX2_suitsStrokes_16 : decode cX2_suitsStrokes 16 = .ok (.goto 5, 3) := by decide +kernel
theorem dX2_suitsStrokes_19 : decode cX2_suitsStrokes 19 = .ok (.bipush 49, 2) := by decide +kernel
theorem dX2_suitsStrokes_21 : decode cX2_suitsStrokes 21 = .ok (.istore_n 2, 1) := by decide +kernel
theorem dX2_suitsStrokes_22 : decode cX2_suitsStrokes 22 = .ok (.iload_n 1, 1) := by decide +kernel
theorem dX2_suitsStrokes_23 : decode cX2_suitsStrokes 23 = .ok (.iload_n 2, 1) := by decide +kernel
theorem dX2_suitsStrokes_24 : decode cX2_suitsStrokes 24 = .ok (.bipush 57, 2) := by decide +kernel
theorem dX2_suitsStrokes_26 : decode cX2_suitsStrokes 26 = .ok (.invokestatic 19, 3) := by decide +kernel
theorem dX2_suitsStrokes_29 : decode cX2_suitsStrokes 29 = .ok (.ireturn, 1) := by decide +kernel
theorem dX3_init_0 : decode cX3_init 0 = .ok (.aload_n 0, 1) := by decide +kernel
theorem dX3_init_1 : decode cX3_init 1 = .ok (.invokespecial 3, 3) := by decide +kernel
theorem dX3_init_4 : decode cX3_init 4 = .ok (.aload_n 0, 1) := by decide +kernel
theorem dX3_init_5 : decode cX3_init 5 = .ok (.bipush 6, 2) := by decide +kernel
theorem dX3_init_7 : decode cX3_init 7 = .ok (.newarray .int, 2) := by decide +kernel
theorem dX3_init_9 : decode cX3_init 9 = .ok (.putfield 9, 3) := by decide +kernel
theorem dX3_init_12 : decode cX3_init 12 = .ok (.aload_n 0, 1) := by decide +kernel
theorem dX3_init_13 : decode cX3_init 13 = .ok (.bipush 6, 2) := by decide +kernel
theorem dX3_init_15 : decode cX3_init 15 = .ok (.newarray .int, 2) := by decide +kernel
theorem dX3_init_17 : decode cX3_init 17 = .ok (.putfield 15, 3) := by decide +kernel
theorem dX3_init_20 : decode cX3_init 20 = .ok (.return_, 1) := by decide +kernel
theorem dX3_size_0 : decode cX3_size 0 = .ok (.aload_n 0, 1) := by decide +kernel
theorem dX3_size_1 : decode cX3_size 1 = .ok (.getfield 18, 3) := by decide +kernel
theorem dX3_size_4 : decode cX3_size 4 = .ok (.ireturn, 1) := by decide +kernel
theorem dX3_clear_0 : decode cX3_clear 0 = .ok (.aload_n 0, 1) := by decide +kernel
theorem dX3_clear_1 : decode cX3_clear 1 = .ok (.iconst 0, 1) := by decide +kernel
theorem dX3_clear_2 : decode cX3_clear 2 = .ok (.putfield 18, 3) := by decide +kernel
theorem dX3_clear_5 : decode cX3_clear 5 = .ok (.return_, 1) := by decide +kernel
set_option maxRecDepth 20000 in
theorem ggX3_has_X5_isWithin : GoodIn wsX3_has wsX5_isWithin := goodIn_r _ [4] (by decide +kernel) (by decide +kernel)
set_option maxRecDepth 20000 in
theorem gX3_has_X5_isWithin_n22 : GoodIn wsX3_has (wsX5_isWithin) := ggX3_has_X5_isWithin
theorem dX3_has_0 : decode cX3_has 0 = .ok (.iload_n 1, 1) := by decide +kernel
theorem dX3_has_1 : decode cX3_has 1 = .ok (.iconst 0, 1) := by decide +kernel
theorem dX3_has_2 : decode cX3_has 2 = .ok (.aload_n 0, 1) := by decide +kernel
theorem dX3_has_3 : decode cX3_has 3 = .ok (.getfield 18, 3) := by decide +kernel
theorem dX3_has_6 : decode cX3_has 6 = .ok (.iconst 1, 1) := by decide +kernel
theorem dX3_has_7 : decode cX3_has 7 = .ok (.isub, 1) := by decide +kernel
theorem dX3_has_8 : decode cX3_has 8 = .ok (.invokestatic 22, 3) := by decide +kernel
theorem dX3_has_11 : decode cX3_has 11 = .ok (.ireturn, 1) := by decide +kernel
theorem dX3_add_0 : decode cX3_add 0 = .ok (.aload_n 0, 1) := by decide +kernel
theorem dX3_add_1 : decode cX3_add 1 = .ok (.getfield 18, 3) := by decide +kernel
theorem dX3_add_4 : decode cX3_add 4 = .ok (.bipush 6, 2) := by decide +kernel
theorem dX3_add_6 : decode cX3_add 6 = .ok (.if_icmp .lt 5, 3) := by decide +kernel
theorem dX3_add_9 : decode cX3_add 9 = .ok (.iconst 0, 1) := by decide +kernel
theorem dX3_add_10 : decode cX3_add 10 = .ok (.ireturn, 1) := by decide +kernel
theorem dX3_add_11 : decode cX3_add 11 = .ok (.aload_n 0, 1) := by decide +kernel
theorem dX3_add_12 : decode cX3_add 12 = .ok (.getfield 9, 3) := by decide +kernel
theorem dX3_add_15 : decode cX3_add 15 = .ok (.aload_n 0, 1) := by decide +kernel
theorem dX3_add_16 : decode cX3_add 16 = .ok (.getfield 18, 3) := by decide +kernel
theorem dX3_add_19 : decode cX3_add 19 = .ok (.iload_n 1, 1) := by decide +kernel
theorem dX3_add_20 : decode cX3_add 20 = .ok (.iastore, 1) := by decide +kernel
theorem dX3_add_21 : decode cX3_add 21 = .ok (.aload_n 0, 1) := by decide +kernel
theorem dX3_add_22 : decode cX3_add 22 = .ok (.getfield 15, 3) := by decide +kernel
theorem dX3_add_25 : decode cX3_add 25 = .ok (.aload_n 0, 1) := by decide +kernel
theorem dX3_add_26 : decode cX3_add 26 = .ok (.getfield 18, 3) := by decide +kernel
theorem dX3_add_29 : decode cX3_add 29 = .ok (.iload_n 2, 1) := by decide +kernel
theorem dX3_add_30 : decode cX3_add 30 = .ok (.iastore, 1) := by decide +kernel
theorem dX3_add_31 : decode cX3_add 31 = .ok (.aload_n 0, 1) := by decide +kernel
theorem dX3_add_32 : decode cX3_add 32 = .ok (.dup, 1) := by decide +kernel
theorem dX3_add_33 : decode cX3_add 33 = .ok (.getfield 18, 3) := by decide +kernel
theorem dX3_add_36 : decode cX3_add 36 = .ok (.iconst 1, 1) := by decide +kernel
theorem dX3_add_37 : decode cX3_add 37 = .ok (.iadd, 1) := by decide +kernel
theorem dX3_add_38 : decode cX3_add 38 = .ok (.putfield 18, 3) := by decide +kernel
theorem dX3_add_41 : decode cX3_add 41 = .ok (.iconst 1, 1) := by decide +kernel
theorem dX3_add_42 : decode cX3_add 42 = .ok (.ireturn, 1) := by decide +kernel
set_option maxRecDepth 20000 in
theorem ggX3_hour_X3_has : GoodIn wsX3_hour wsX3_has := goodIn_r _ [6, 7, 8, 9, 10, 11, 12, 13] (by decide +kernel) (by decide +kernel)
set_option maxRecDepth 20000 in
theorem gX3_hour_X3_has : GoodIn wsX3_hour (wsV RX3 26 RX3 yX3_has wsX3_has) := goodIn_app (goodIn_of _ (by decide +kernel)) ggX3_hour_X3_has
theorem dX3_hour_0 : decode cX3_hour 0 = .ok (.aload_n 0, 1) := by decide +kernel
theorem dX3_hour_1 : decode cX3_hour 1 = .ok (.iload_n 1, 1) := by decide +kernel
theorem dX3_hour_2 : decode cX3_hour 2 = .ok (.invokevirtual 26, 3) := by decide +kernel
theorem dX3_hour_5 : decode cX3_hour 5 = .ok (.ifCond .eq 12, 3) := by decide +kernel
theorem dX3_hour_8 : decode cX3_hour 8 = .ok (.aload_n 0, 1) := by decide +kernel
theorem dX3_hour_9 : decode cX3_hour 9 = .ok (.getfield 9, 3) := by decide +kernel
theorem dX3_hour_12 : decode cX3_hour 12 = .ok (.iload_n 1, 1) := by decide +kernel
theorem dX3_hour_13 : decode cX3_hour 13 = .ok (.iaload, 1) := by decide +kernel
theorem dX3_hour_14 : decode cX3_hour 14 = .ok (.goto 4, 3) := by decide +kernel
theorem dX3_hour_17 : decode cX3_hour 17 = .ok (.iconst 0, 1) := by decide +kernel
theorem dX3_hour_18 : decode cX3_hour 18 = .ok (.ireturn, 1) := by decide +kernel
set_option maxRecDepth 20000 in
theorem ggX3_loud_X3_has : GoodIn wsX3_loud wsX3_has := goodIn_r _ [6, 7, 8, 9, 10, 11, 12, 13] (by decide +kernel) (by decide +kernel)
set_option maxRecDepth 20000 in
theorem gX3_loud_X3_has : GoodIn wsX3_loud (wsV RX3 26 RX3 yX3_has wsX3_has) := goodIn_app (goodIn_of _ (by decide +kernel)) ggX3_loud_X3_has
theorem dX3_loud_0 : decode cX3_loud 0 = .ok (.aload_n 0, 1) := by decide +kernel
theorem dX3_loud_1 : decode cX3_loud 1 = .ok (.iload_n 1, 1) := by decide +kernel
theorem dX3_loud_2 : decode cX3_loud 2 = .ok (.invokevirtual 26, 3) := by decide +kernel
theorem dX3_loud_5 : decode cX3_loud 5 = .ok (.ifCond .eq 12, 3) := by decide +kernel
theorem dX3_loud_8 : decode cX3_loud 8 = .ok (.aload_n 0, 1) := by decide +kernel
theorem dX3_loud_9 : decode cX3_loud 9 = .ok (.getfield 15, 3) := by decide +kernel
theorem dX3_loud_12 : decode cX3_loud 12 = .ok (.iload_n 1, 1) := by decide +kernel
theorem dX3_loud_13 : decode cX3_loud 13 = .ok (.iaload, 1) := by decide +kernel
theorem dX3_loud_14 : decode cX3_loud 14 = .ok (.goto 4, 3) := by decide +kernel
theorem dX3_loud_17 : decode cX3_loud 17 = .ok (.iconst 0, 1) := by decide +kernel
theorem dX3_loud_18 : decode cX3_loud 18 = .ok (.ireturn, 1) := by decide +kernel
set_option maxRecDepth 20000 in
theorem ggX3_setLoud_X3_has : GoodIn wsX3_setLoud wsX3_has := goodIn_r _ [6, 7, 8, 9, 10, 11, 12, 13] (by decide +kernel) (by decide +kernel)
set_option maxRecDepth 20000 in
theorem gX3_setLoud_X3_has : GoodIn wsX3_setLoud (wsV RX3 26 RX3 yX3_has wsX3_has) := goodIn_app (goodIn_of _ (by decide +kernel)) ggX3_setLoud_X3_has
theorem dX3_setLoud_0 : decode cX3_setLoud 0 = .ok (.aload_n 0, 1) := by decide +kernel
theorem dX3_setLoud_1 : decode cX3_setLoud 1 = .ok (.iload_n 1, 1) := by decide +kernel
theorem dX3_setLoud_2 : decode cX3_setLoud 2 = .ok (.invokevirtual 26, 3) := by decide +kernel
theorem dX3_setLoud_5 : decode cX3_setLoud 5 = .ok (.ifCond .eq 10, 3) := by decide +kernel
theorem dX3_setLoud_8 : decode cX3_setLoud 8 = .ok (.aload_n 0, 1) := by decide +kernel
theorem dX3_setLoud_9 : decode cX3_setLoud 9 = .ok (.getfield 15, 3) := by decide +kernel
theorem dX3_setLoud_12 : decode cX3_setLoud 12 = .ok (.iload_n 1, 1) := by decide +kernel
theorem dX3_setLoud_13 : decode cX3_setLoud 13 = .ok (.iload_n 2, 1) := by decide +kernel
theorem dX3_setLoud_14 : decode cX3_setLoud 14 = .ok (.iastore, 1) := by decide +kernel
theorem dX3_setLoud_15 : decode cX3_setLoud 15 = .ok (.return_, 1) := by decide +kernel
set_option maxRecDepth 20000 in
theorem ggX3_goneAt_X3_hour : GoodIn wsX3_goneAt wsX3_hour := goodIn_r _ [5, 6, 7, 8, 9, 4, 10, 11, 12, 13, 14, 20, 21, 22] (by decide +kernel) (by decide +kernel)
set_option maxRecDepth 20000 in
theorem gX3_goneAt_X3_hour : GoodIn wsX3_goneAt (wsV RX3 30 RX3 yX3_hour wsX3_hour) := goodIn_app (goodIn_of _ (by decide +kernel)) ggX3_goneAt_X3_hour
set_option maxRecDepth 20000 in
theorem ggX3_goneAt_X3_loud : GoodIn wsX3_goneAt wsX3_loud := goodIn_r _ [18, 19, 7, 8, 9, 4, 10, 11, 12, 13, 14, 20, 21, 22] (by decide +kernel) (by decide +kernel)
set_option maxRecDepth 20000 in
theorem gX3_goneAt_X3_loud : GoodIn wsX3_goneAt (wsV RX3 34 RX3 yX3_loud wsX3_loud) := goodIn_app (goodIn_of _ (by decide +kernel)) ggX3_goneAt_X3_loud
theorem dX3_goneAt_0 : decode cX3_goneAt 0 = .ok (.aload_n 0, 1) := by decide +kernel
theorem dX3_goneAt_1 : decode cX3_goneAt 1 = .ok (.iload_n 1, 1) := by decide +kernel
theorem dX3_goneAt_2 : decode cX3_goneAt 2 = .ok (.invokevirtual 30, 3) := by decide +kernel
theorem dX3_goneAt_5 : decode cX3_goneAt 5 = .ok (.aload_n 0, 1) := by decide +kernel
theorem dX3_goneAt_6 : decode cX3_goneAt 6 = .ok (.iload_n 1, 1) := by decide +kernel
theorem dX3_goneAt_7 : decode cX3_goneAt 7 = .ok (.invokevirtual 34, 3) := by decide +kernel
theorem dX3_goneAt_10 : decode cX3_goneAt 10 = .ok (.iconst 2, 1) := by decide +kernel
theorem dX3_goneAt_11 : decode cX3_goneAt 11 = .ok (.iadd, 1) := by decide +kernel
theorem dX3_goneAt_12 : decode cX3_goneAt 12 = .ok (.iconst 1, 1) := by decide +kernel
theorem dX3_goneAt_13 : decode cX3_goneAt 13 = .ok (.isub, 1) := by decide +kernel
theorem dX3_goneAt_14 : decode cX3_goneAt 14 = .ok (.iconst 2, 1) := by decide +kernel
theorem dX3_goneAt_15 : decode cX3_goneAt 15 = .ok (.idiv, 1) := by decide +kernel
theorem dX3_goneAt_16 : decode cX3_goneAt 16 = .ok (.iadd, 1) := by decide +kernel
theorem dX3_goneAt_17 : decode cX3_goneAt 17 = .ok (.istore_n 2, 1) := by decide +kernel
end
section
theorem dX3_goneAt_18 : decode cX3_goneAt 18 = .ok (.iload_n 2, 1) := by decide +kernel
theorem dX3_goneAt_19 : decode cX3_goneAt 19 = .ok (.bipush 12, 2) := by decide +kernel
theorem dX3_goneAt_21 : decode cX3_goneAt 21 = .ok (.if_icmp .ge 7, 3) := by decide +kernel
theorem dX3_goneAt_24 : decode cX3_goneAt 24 = .ok (.iload_n 2, 1) := by decide +kernel
theorem dX3_goneAt_25 : decode cX3_goneAt 25 = .ok (.goto 4, 3) := by decide +kernel
theorem dX3_goneAt_28 : decode cX3_goneAt 28 = .ok (.iconst (-1), 1) := by decide +kernel
theorem dX3_goneAt_29 : decode cX3_goneAt 29 = .ok (.ireturn, 1) := by decide +kernel
theorem dX3_copyFrom_0 : decode cX3_copyFrom 0 = .ok (.aload_n 0, 1) := by decide +kernel
theorem dX3_copyFrom_1 : decode cX3_copyFrom 1 = .ok (.aload_n 1, 1) := by decide +kernel
theorem dX3_copyFrom_2 : decode cX3_copyFrom 2 = .ok (.getfield 18, 3) := by decide +kernel
theorem dX3_copyFrom_5 : decode cX3_copyFrom 5 = .ok (.putfield 18, 3) := by decide +kernel
theorem dX3_copyFrom_8 : decode cX3_copyFrom 8 = .ok (.iconst 0, 1) := by decide +kernel
theorem dX3_copyFrom_9 : decode cX3_copyFrom 9 = .ok (.istore_n 2, 1) := by decide +kernel
theorem dX3_copyFrom_10 : decode cX3_copyFrom 10 = .ok (.iload_n 2, 1) := by decide +kernel
theorem dX3_copyFrom_11 : decode cX3_copyFrom 11 = .ok (.bipush 6, 2) := by decide +kernel
theorem dX3_copyFrom_13 : decode cX3_copyFrom 13 = .ok (.if_icmp .ge 33, 3) := by decide +kernel
theorem dX3_copyFrom_16 : decode cX3_copyFrom 16 = .ok (.aload_n 0, 1) := by decide +kernel
theorem dX3_copyFrom_17 : decode cX3_copyFrom 17 = .ok (.getfield 9, 3) := by decide +kernel
theorem dX3_copyFrom_20 : decode cX3_copyFrom 20 = .ok (.iload_n 2, 1) := by decide +kernel
theorem dX3_copyFrom_21 : decode cX3_copyFrom 21 = .ok (.aload_n 1, 1) := by decide +kernel
theorem dX3_copyFrom_22 : decode cX3_copyFrom 22 = .ok (.getfield 9, 3) := by decide +kernel
theorem dX3_copyFrom_25 : decode cX3_copyFrom 25 = .ok (.iload_n 2, 1) := by decide +kernel
theorem dX3_copyFrom_26 : decode cX3_copyFrom 26 = .ok (.iaload, 1) := by decide +kernel
theorem dX3_copyFrom_27 : decode cX3_copyFrom 27 = .ok (.iastore, 1) := by decide +kernel
theorem dX3_copyFrom_28 : decode cX3_copyFrom 28 = .ok (.aload_n 0, 1) := by decide +kernel
theorem dX3_copyFrom_29 : decode cX3_copyFrom 29 = .ok (.getfield 15, 3) := by decide +kernel
theorem dX3_copyFrom_32 : decode cX3_copyFrom 32 = .ok (.iload_n 2, 1) := by decide +kernel
theorem dX3_copyFrom_33 : decode cX3_copyFrom 33 = .ok (.aload_n 1, 1) := by decide +kernel
theorem dX3_copyFrom_34 : decode cX3_copyFrom 34 = .ok (.getfield 15, 3) := by decide +kernel
theorem dX3_copyFrom_37 : decode cX3_copyFrom 37 = .ok (.iload_n 2, 1) := by decide +kernel
theorem dX3_copyFrom_38 : decode cX3_copyFrom 38 = .ok (.iaload, 1) := by decide +kernel
theorem dX3_copyFrom_39 : decode cX3_copyFrom 39 = .ok (.iastore, 1) := by decide +kernel
theorem dX3_copyFrom_40 : decode cX3_copyFrom 40 = .ok (.iinc 2 1, 3) := by decide +kernel
theorem dX3_copyFrom_43 : decode cX3_copyFrom 43 = .ok (.goto (-33), 3) := by decide +kernel
theorem dX3_copyFrom_46 : decode cX3_copyFrom 46 = .ok (.return_, 1) := by decide +kernel
theorem dX4_init_0 : decode cX4_init 0 = .ok (.aload_n 0, 1) := by decide +kernel
theorem dX4_init_1 : decode cX4_init 1 = .ok (.invokespecial 3, 3) := by decide +kernel
theorem dX4_init_4 : decode cX4_init 4 = .ok (.aload_n 0, 1) := by decide +kernel
theorem dX4_init_5 : decode cX4_init 5 = .ok (.bipush 12, 2) := by decide +kernel
theorem dX4_init_7 : decode cX4_init 7 = .ok (.newarray .int, 2) := by decide +kernel
theorem dX4_init_9 : decode cX4_init 9 = .ok (.putfield 9, 3) := by decide +kernel
theorem dX4_init_12 : decode cX4_init 12 = .ok (.return_, 1) := by decide +kernel
theorem dX4_clear_0 : decode cX4_clear 0 = .ok (.iconst 0, 1) := by decide +kernel
theorem dX4_clear_1 : decode cX4_clear 1 = .ok (.istore_n 1, 1) := by decide +kernel
theorem dX4_clear_2 : decode cX4_clear 2 = .ok (.iload_n 1, 1) := by decide +kernel
theorem dX4_clear_3 : decode cX4_clear 3 = .ok (.bipush 12, 2) := by decide +kernel
theorem dX4_clear_5 : decode cX4_clear 5 = .ok (.if_icmp .ge 16, 3) := by decide +kernel
theorem dX4_clear_8 : decode cX4_clear 8 = .ok (.aload_n 0, 1) := by decide +kernel
theorem dX4_clear_9 : decode cX4_clear 9 = .ok (.getfield 9, 3) := by decide +kernel
theorem dX4_clear_12 : decode cX4_clear 12 = .ok (.iload_n 1, 1) := by decide +kernel
theorem dX4_clear_13 : decode cX4_clear 13 = .ok (.iconst 0, 1) := by decide +kernel
theorem dX4_clear_14 : decode cX4_clear 14 = .ok (.iastore, 1) := by decide +kernel
theorem dX4_clear_15 : decode cX4_clear 15 = .ok (.iinc 1 1, 3) := by decide +kernel
theorem dX4_clear_18 : decode cX4_clear 18 = .ok (.goto (-16), 3) := by decide +kernel
theorem dX4_clear_21 : decode cX4_clear 21 = .ok (.return_, 1) := by decide +kernel
theorem dX4_add_0 : decode cX4_add 0 = .ok (.iload_n 2, 1) := by decide +kernel
theorem dX4_add_1 : decode cX4_add 1 = .ok (.istore_n 3, 1) := by decide +kernel
theorem dX4_add_2 : decode cX4_add 2 = .ok (.iconst 0, 1) := by decide +kernel
theorem dX4_add_3 : decode cX4_add 3 = .ok (.iload_n 1, 1) := by decide +kernel
theorem dX4_add_4 : decode cX4_add 4 = .ok (.invokestatic 15, 3) := by decide +kernel
theorem dX4_add_7 : decode cX4_add 7 = .ok (.istore 4, 2) := by decide +kernel
theorem dX4_add_9 : decode cX4_add 9 = .ok (.iload 4, 2) := by decide +kernel
theorem dX4_add_11 : decode cX4_add 11 = .ok (.bipush 12, 2) := by decide +kernel
theorem dX4_add_13 : decode cX4_add 13 = .ok (.if_icmp .ge 27, 3) := by decide +kernel
theorem dX4_add_16 : decode cX4_add 16 = .ok (.iload_n 3, 1) := by decide +kernel
theorem dX4_add_17 : decode cX4_add 17 = .ok (.ifCond .le 23, 3) := by decide +kernel
theorem dX4_add_20 : decode cX4_add 20 = .ok (.aload_n 0, 1) := by decide +kernel
theorem dX4_add_21 : decode cX4_add 21 = .ok (.getfield 9, 3) := by decide +kernel
theorem dX4_add_24 : decode cX4_add 24 = .ok (.iload 4, 2) := by decide +kernel
theorem dX4_add_26 : decode cX4_add 26 = .ok (.dup2, 1) := by decide +kernel
theorem dX4_add_27 : decode cX4_add 27 = .ok (.iaload, 1) := by decide +kernel
theorem dX4_add_28 : decode cX4_add 28 = .ok (.iload_n 3, 1) := by decide +kernel
theorem dX4_add_29 : decode cX4_add 29 = .ok (.iadd, 1) := by decide +kernel
theorem dX4_add_30 : decode cX4_add 30 = .ok (.iastore, 1) := by decide +kernel
theorem dX4_add_31 : decode cX4_add 31 = .ok (.iinc 3 (-2), 3) := by decide +kernel
theorem dX4_add_34 : decode cX4_add 34 = .ok (.iinc 4 1, 3) := by decide +kernel
theorem dX4_add_37 : decode cX4_add 37 = .ok (.goto (-28), 3) := by decide +kernel
theorem dX4_add_40 : decode cX4_add 40 = .ok (.return_, 1) := by decide +kernel
theorem dX4_copyFrom_0 : decode cX4_copyFrom 0 = .ok (.iconst 0, 1) := by decide +kernel
theorem dX4_copyFrom_1 : decode cX4_copyFrom 1 = .ok (.istore_n 2, 1) := by decide +kernel
theorem dX4_copyFrom_2 : decode cX4_copyFrom 2 = .ok (.iload_n 2, 1) := by decide +kernel
theorem dX4_copyFrom_3 : decode cX4_copyFrom 3 = .ok (.bipush 12, 2) := by decide +kernel
theorem dX4_copyFrom_5 : decode cX4_copyFrom 5 = .ok (.if_icmp .ge 21, 3) := by decide +kernel
theorem dX4_copyFrom_8 : decode cX4_copyFrom 8 = .ok (.aload_n 0, 1) := by decide +kernel
theorem dX4_copyFrom_9 : decode cX4_copyFrom 9 = .ok (.getfield 9, 3) := by decide +kernel
theorem dX4_copyFrom_12 : decode cX4_copyFrom 12 = .ok (.iload_n 2, 1) := by decide +kernel
theorem dX4_copyFrom_13 : decode cX4_copyFrom 13 = .ok (.aload_n 1, 1) := by decide +kernel
theorem dX4_copyFrom_14 : decode cX4_copyFrom 14 = .ok (.getfield 9, 3) := by decide +kernel
theorem dX4_copyFrom_17 : decode cX4_copyFrom 17 = .ok (.iload_n 2, 1) := by decide +kernel
theorem dX4_copyFrom_18 : decode cX4_copyFrom 18 = .ok (.iaload, 1) := by decide +kernel
theorem dX4_copyFrom_19 : decode cX4_copyFrom 19 = .ok (.iastore, 1) := by decide +kernel
theorem dX4_copyFrom_20 : decode cX4_copyFrom 20 = .ok (.iinc 2 1, 3) := by decide +kernel
theorem dX4_copyFrom_23 : decode cX4_copyFrom 23 = .ok (.goto (-21), 3) := by decide +kernel
theorem dX4_copyFrom_26 : decode cX4_copyFrom 26 = .ok (.return_, 1) := by decide +kernel
theorem dX4_at_0 : decode cX4_at 0 = .ok (.iload_n 1, 1) := by decide +kernel
theorem dX4_at_1 : decode cX4_at 1 = .ok (.ifCond .lt 9, 3) := by decide +kernel
theorem dX4_at_4 : decode cX4_at 4 = .ok (.iload_n 1, 1) := by decide +kernel
theorem dX4_at_5 : decode cX4_at 5 = .ok (.bipush 12, 2) := by decide +kernel
theorem dX4_at_7 : decode cX4_at 7 = .ok (.if_icmp .lt 5, 3) := by decide +kernel
theorem dX4_at_10 : decode cX4_at 10 = .ok (.iconst 0, 1) := by decide +kernel
theorem dX4_at_11 : decode cX4_at 11 = .ok (.ireturn, 1) := by decide +kernel
theorem dX4_at_12 : decode cX4_at 12 = .ok (.bipush 20, 2) := by decide +kernel
theorem dX4_at_14 : decode cX4_at 14 = .ok (.aload_n 0, 1) := by decide +kernel
theorem dX4_at_15 : decode cX4_at 15 = .ok (.getfield 9, 3) := by decide +kernel
theorem dX4_at_18 : decode cX4_at 18 = .ok (.iload_n 1, 1) := by decide +kernel
theorem dX4_at_19 : decode cX4_at 19 = .ok (.iaload, 1) := by decide +kernel
theorem dX4_at_20 : decode cX4_at 20 = .ok (.invokestatic 21, 3) := by decide +kernel
theorem dX4_at_23 : decode cX4_at 23 = .ok (.ireturn, 1) := by decide +kernel
set_option maxRecDepth 20000 in
theorem ggX4_greatest_X4_at : GoodIn wsX4_greatest wsX4_at := goodIn_r _ [9, 10, 11, 12, 3, 13, 14] (by decide +kernel) (by decide +kernel)
set_option maxRecDepth 20000 in
theorem gX4_greatest_X4_at : GoodIn wsX4_greatest (wsV RX4 24 RX4 yX4_at wsX4_at) := goodIn_app (goodIn_of _ (by decide +kernel)) ggX4_greatest_X4_at
theorem dX4_greatest_0 : decode cX4_greatest 0 = .ok (.iconst 0, 1) := by decide +kernel
theorem dX4_greatest_1 : decode cX4_greatest 1 = .ok (.istore_n 1, 1) := by decide +kernel
theorem dX4_greatest_2 : decode cX4_greatest 2 = .ok (.iconst 0, 1) := by decide +kernel
theorem dX4_greatest_3 : decode cX4_greatest 3 = .ok (.istore_n 2, 1) := by decide +kernel
theorem dX4_greatest_4 : decode cX4_greatest 4 = .ok (.iload_n 2, 1) := by decide +kernel
theorem dX4_greatest_5 : decode cX4_greatest 5 = .ok (.bipush 12, 2) := by decide +kernel
theorem dX4_greatest_7 : decode cX4_greatest 7 = .ok (.if_icmp .ge 19, 3) := by decide +kernel
theorem dX4_greatest_10 : decode cX4_greatest 10 = .ok (.iload_n 1, 1) := by decide +kernel
theorem dX4_greatest_11 : decode cX4_greatest 11 = .ok (.aload_n 0, 1) := by decide +kernel
theorem dX4_greatest_12 : decode cX4_greatest 12 = .ok (.iload_n 2, 1) := by decide +kernel
theorem dX4_greatest_13 : decode cX4_greatest 13 = .ok (.invokevirtual 24, 3) := by decide +kernel
theorem dX4_greatest_16 : decode cX4_greatest 16 = .ok (.invokestatic 15, 3) := by decide +kernel
theorem dX4_greatest_19 : decode cX4_greatest 19 = .ok (.istore_n 1, 1) := by decide +kernel
theorem dX4_greatest_20 : decode cX4_greatest 20 = .ok (.iinc 2 1, 3) := by decide +kernel
theorem dX4_greatest_23 : decode cX4_greatest 23 = .ok (.goto (-19), 3) := by decide +kernel
theorem dX4_greatest_26 : decode cX4_greatest 26 = .ok (.iload_n 1, 1) := by decide +kernel
theorem dX4_greatest_27 : decode cX4_greatest 27 = .ok (.ireturn, 1) := by decide +kernel
set_option maxRecDepth 20000 in
theorem ggX5_init_X2_init : GoodIn wsX5_init wsX2_init := goodIn_r _ [21, 22, 2, 3, 8, 23, 52, 53] (by decide +kernel) (by decide +kernel)
set_option maxRecDepth 20000 in
theorem gX5_init_X2_init_n9 : GoodIn wsX5_init (wsX2_init) := ggX5_init_X2_init
set_option maxRecDepth 20000 in
theorem ggX5_init_X0_init : GoodIn wsX5_init wsX0_init := goodIn_r _ [25, 26, 2, 3, 8, 27, 28, 29, 30, 31, 32, 33, 34, 35, 36, 37, 38, 39, 40, 41, 42, 43, 44, 45, 46, 47, 63, 64, 65, 66, 68, 69, 70, 71, 72, 73, 74, 75] (by decide +kernel) (by decide +kernel)
set_option maxRecDepth 20000 in
theorem gX5_init_X0_init_n22 : GoodIn wsX5_init (wsX0_init) := ggX5_init_X0_init
set_option maxRecDepth 20000 in
theorem ggX5_init_X4_init : GoodIn wsX5_init wsX4_init := goodIn_r _ [49, 50, 2, 3, 8, 51, 67] (by decide +kernel) (by decide +kernel)
set_option maxRecDepth 20000 in
theorem gX5_init_X4_init_n32 : GoodIn wsX5_init (wsX4_init) := ggX5_init_X4_init
theorem dX5_init_0 : decode cX5_init 0 = .ok (.aload_n 0, 1) := by decide +kernel
theorem dX5_init_1 : decode cX5_init 1 = .ok (.invokespecial 1, 3) := by decide +kernel
theorem dX5_init_4 : decode cX5_init 4 = .ok (.aload_n 0, 1) := by decide +kernel
theorem dX5_init_5 : decode cX5_init 5 = .ok (.new 7, 3) := by decide +kernel
theorem dX5_init_8 : decode cX5_init 8 = .ok (.dup, 1) := by decide +kernel
theorem dX5_init_9 : decode cX5_init 9 = .ok (.invokespecial 9, 3) := by decide +kernel
theorem dX5_init_12 : decode cX5_init 12 = .ok (.putfield 10, 3) := by decide +kernel
theorem dX5_init_15 : decode cX5_init 15 = .ok (.aload_n 0, 1) := by decide +kernel
theorem dX5_init_16 : decode cX5_init 16 = .ok (.iconst 5, 1) := by decide +kernel
theorem dX5_init_17 : decode cX5_init 17 = .ok (.newarray .int, 2) := by decide +kernel
theorem dX5_init_19 : decode cX5_init 19 = .ok (.putfield 16, 3) := by decide +kernel
theorem dX5_init_22 : decode cX5_init 22 = .ok (.aload_n 0, 1) := by decide +kernel
theorem dX5_init_23 : decode cX5_init 23 = .ok (.new 20, 3) := by decide +kernel
theorem dX5_init_26 : decode cX5_init 26 = .ok (.dup, 1) := by decide +kernel
theorem dX5_init_27 : decode cX5_init 27 = .ok (.invokespecial 22, 3) := by decide +kernel
theorem dX5_init_30 : decode cX5_init 30 = .ok (.putfield 23, 3) := by decide +kernel
theorem dX5_init_33 : decode cX5_init 33 = .ok (.aload_n 0, 1) := by decide +kernel
theorem dX5_init_34 : decode cX5_init 34 = .ok (.new 20, 3) := by decide +kernel
theorem dX5_init_37 : decode cX5_init 37 = .ok (.dup, 1) := by decide +kernel
theorem dX5_init_38 : decode cX5_init 38 = .ok (.invokespecial 22, 3) := by decide +kernel
theorem dX5_init_41 : decode cX5_init 41 = .ok (.putfield 27, 3) := by decide +kernel
theorem dX5_init_44 : decode cX5_init 44 = .ok (.aload_n 0, 1) := by decide +kernel
theorem dX5_init_45 : decode cX5_init 45 = .ok (.new 30, 3) := by decide +kernel
theorem dX5_init_48 : decode cX5_init 48 = .ok (.dup, 1) := by decide +kernel
theorem dX5_init_49 : decode cX5_init 49 = .ok (.invokespecial 32, 3) := by decide +kernel
theorem dX5_init_52 : decode cX5_init 52 = .ok (.putfield 33, 3) := by decide +kernel
theorem dX5_init_55 : decode cX5_init 55 = .ok (.aload_n 0, 1) := by decide +kernel
theorem dX5_init_56 : decode cX5_init 56 = .ok (.new 30, 3) := by decide +kernel
theorem dX5_init_59 : decode cX5_init 59 = .ok (.dup, 1) := by decide +kernel
theorem dX5_init_60 : decode cX5_init 60 = .ok (.invokespecial 32, 3) := by decide +kernel
theorem dX5_init_63 : decode cX5_init 63 = .ok (.putfield 37, 3) := by decide +kernel
theorem dX5_init_66 : decode cX5_init 66 = .ok (.return_, 1) := by decide +kernel
set_option maxRecDepth 20000 in
theorem ggX5_letter_X5_isWithin : GoodIn wsX5_letter wsX5_isWithin := goodIn_r _ [5] (by decide +kernel) (by decide +kernel)
set_option maxRecDepth 20000 in
theorem gX5_letter_X5_isWithin : GoodIn wsX5_letter (va_wsS RX5 40 yX5_isWithin wsX5_isWithin) := goodIn_app (goodIn_of _ (by decide +kernel)) ggX5_letter_X5_isWithin
set_option maxRecDepth 20000 in
theorem ggX5_letter_X2_write : GoodIn wsX5_letter wsX2_write := goodIn_r _ [10, 11, 12, 26, 27] (by decide +kernel) (by decide +kernel)
set_option maxRecDepth 20000 in
theorem gX5_letter_X2_write : GoodIn wsX5_letter (wsV RX5 44 RX2 yX2_write wsX2_write) := goodIn_app (goodIn_of _ (by decide +kernel)) ggX5_letter_X2_write
set_option maxRecDepth 20000 in
theorem ggX5_letter_X2_size : GoodIn wsX5_letter wsX2_size := goodIn_r _ [16, 11, 26, 27] (by decide +kernel) (by decide +kernel)
set_option maxRecDepth 20000 in
theorem gX5_letter_X2_size : GoodIn wsX5_letter (wsV RX5 48 RX2 yX2_size wsX2_size) := goodIn_app (goodIn_of _ (by decide +kernel)) ggX5_letter_X2_size
theorem dX5_letter_0 : decode cX5_letter 0 = .ok (.iload_n 1, 1) := by decide +kernel
theorem dX5_letter_1 : decode cX5_letter 1 = .ok (.bipush 32, 2) := by decide +kernel
theorem dX5_letter_3 : decode cX5_letter 3 = .ok (.bipush 126, 2) := by decide +kernel
theorem dX5_letter_5 : decode cX5_letter 5 = .ok (.invokestatic 40, 3) := by decide +kernel
theorem dX5_letter_8 : decode cX5_letter 8 = .ok (.ifCond .ne 6, 3) := by decide +kernel
theorem dX5_letter_11 : decode cX5_letter 11 = .ok (.bipush (-102), 2) := by decide +kernel
theorem dX5_letter_13 : decode cX5_letter 13 = .ok (.ireturn, 1) := by decide +kernel
theorem dX5_letter_14 : decode cX5_letter 14 = .ok (.aload_n 0, 1) := by decide +kernel
theorem dX5_letter_15 : decode cX5_letter 15 = .ok (.getfield 10, 3) := by decide +kernel
theorem dX5_letter_18 : decode cX5_letter 18 = .ok (.iload_n 1, 1) := by decide +kernel
theorem dX5_letter_19 : decode cX5_letter 19 = .ok (.invokevirtual 44, 3) := by decide +kernel
theorem dX5_letter_22 : decode cX5_letter 22 = .ok (.ifCond .eq 13, 3) := by decide +kernel
theorem dX5_letter_25 : decode cX5_letter 25 = .ok (.aload_n 0, 1) := by decide +kernel
theorem dX5_letter_26 : decode cX5_letter 26 = .ok (.getfield 10, 3) := by decide +kernel
theorem dX5_letter_29 : decode cX5_letter 29 = .ok (.invokevirtual 48, 3) := by decide +kernel
theorem dX5_letter_32 : decode cX5_letter 32 = .ok (.goto 5, 3) := by decide +kernel
theorem dX5_letter_35 : decode cX5_letter 35 = .ok (.bipush (-104), 2) := by decide +kernel
theorem dX5_letter_37 : decode cX5_letter 37 = .ok (.ireturn, 1) := by decide +kernel
set_option maxRecDepth 20000 in
theorem ggX5_blank_X2_wipe : GoodIn wsX5_blank wsX2_wipe := goodIn_r _ [6, 7, 17, 18] (by decide +kernel) (by decide +kernel)
set_option maxRecDepth 20000 in
theorem gX5_blank_X2_wipe : GoodIn wsX5_blank (wsV RX5 52 RX2 yX2_wipe wsX2_wipe) := goodIn_app (goodIn_of _ (by decide +kernel)) ggX5_blank_X2_wipe
theorem dX5_blank_0 : decode cX5_blank 0 = .ok (.aload_n 0, 1) := by decide +kernel
theorem dX5_blank_1 : decode cX5_blank 1 = .ok (.getfield 10, 3) := by decide +kernel
theorem dX5_blank_4 : decode cX5_blank 4 = .ok (.invokevirtual 52, 3) := by decide +kernel
theorem dX5_blank_7 : decode cX5_blank 7 = .ok (.ireturn, 1) := by decide +kernel
set_option maxRecDepth 20000 in
theorem ggX5_fault_X2_soundLetters : GoodIn wsX5_fault wsX2_soundLetters := goodIn_r _ [6, 7, 8, 9, 10, 5, 11, 12, 13, 14, 15, 16, 17, 18, 19, 20, 21, 22, 23, 24, 25, 26, 27, 37, 38] (by decide +kernel) (by decide +kernel)
set_option maxRecDepth 20000 in
theorem gX5_fault_X2_soundLetters : GoodIn wsX5_fault (wsV RX5 55 RX2 yX2_soundLetters wsX2_soundLetters) := goodIn_app (goodIn_of _ (by decide +kernel)) ggX5_fault_X2_soundLetters
theorem dX5_fault_0 : decode cX5_fault 0 = .ok (.aload_n 0, 1) := by decide +kernel
theorem dX5_fault_1 : decode cX5_fault 1 = .ok (.getfield 10, 3) := by decide +kernel
theorem dX5_fault_4 : decode cX5_fault 4 = .ok (.invokevirtual 55, 3) := by decide +kernel
theorem dX5_fault_7 : decode cX5_fault 7 = .ok (.ireturn, 1) := by decide +kernel
set_option maxRecDepth 20000 in
theorem ggX5_colony_X2_tellsColony : GoodIn wsX5_colony wsX2_tellsColony := goodIn_r _ [12, 13, 14, 15, 16, 11, 17, 18, 19, 20, 21, 22, 23, 24, 25, 26, 27, 28, 29, 30, 31, 32, 33, 34, 35, 36, 37, 97, 98] (by decide +kernel) (by decide +kernel)
set_option maxRecDepth 20000 in
theorem gX5_colony_X2_tellsColony : GoodIn wsX5_colony (wsV RX5 58 RX2 yX2_tellsColony wsX2_tellsColony) := goodIn_app (goodIn_of _ (by decide +kernel)) ggX5_colony_X2_tellsColony
set_option maxRecDepth 20000 in
theorem ggX5_colony_X2_houses : GoodIn wsX5_colony wsX2_houses := goodIn_r _ [17, 18, 19, 20, 11, 21, 13, 22, 23, 24, 25, 97, 98] (by decide +kernel) (by decide +kernel)
set_option maxRecDepth 20000 in
theorem gX5_colony_X2_houses : GoodIn wsX5_colony (wsV RX5 62 RX2 yX2_houses wsX2_houses) := goodIn_app (goodIn_of _ (by decide +kernel)) ggX5_colony_X2_houses
set_option maxRecDepth 20000 in
theorem ggX5_colony_X0_clear : GoodIn wsX5_colony wsX0_clear := goodIn_r _ [43, 44, 45, 46, 47, 48, 49, 50, 51, 52, 53, 54, 55, 56, 57, 58, 93, 94, 95, 96, 99, 100, 101, 102, 103, 104, 105, 106] (by decide +kernel) (by decide +kernel)
set_option maxRecDepth 20000 in
theorem gX5_colony_X0_clear : GoodIn wsX5_colony (wsV RX5 69 RX0 yX0_clear wsX0_clear) := goodIn_app (goodIn_of _ (by decide +kernel)) ggX5_colony_X0_clear
set_option maxRecDepth 20000 in
theorem ggX5_colony_X2_at : GoodIn wsX5_colony wsX2_at := goodIn_r _ [21, 13, 22, 23, 24, 25, 97, 98] (by decide +kernel) (by decide +kernel)
set_option maxRecDepth 20000 in
theorem gX5_colony_X2_at : GoodIn wsX5_colony (wsV RX5 72 RX2 yX2_at wsX2_at) := goodIn_app (goodIn_of _ (by decide +kernel)) ggX5_colony_X2_at
set_option maxRecDepth 20000 in
theorem ggX5_colony_X5_kindOf : GoodIn wsX5_colony wsX5_kindOf := goodIn_r _ [34] (by decide +kernel) (by decide +kernel)
set_option maxRecDepth 20000 in
theorem gX5_colony_X5_kindOf : GoodIn wsX5_colony (va_wsS RX5 76 yX5_kindOf wsX5_kindOf) := goodIn_app (goodIn_of _ (by decide +kernel)) ggX5_colony_X5_kindOf
set_option maxRecDepth 20000 in
theorem ggX5_colony_X2_digitAt : GoodIn wsX5_colony wsX2_digitAt := goodIn_r _ [64, 18, 19, 20, 11, 21, 13, 22, 23, 24, 25, 97, 98] (by decide +kernel) (by decide +kernel)
set_option maxRecDepth 20000 in
theorem gX5_colony_X2_digitAt : GoodIn wsX5_colony (wsV RX5 79 RX2 yX2_digitAt wsX2_digitAt) := goodIn_app (goodIn_of _ (by decide +kernel)) ggX5_colony_X2_digitAt
set_option maxRecDepth 20000 in
theorem ggX5_colony_X0_setLevel : GoodIn wsX5_colony wsX0_setLevel := goodIn_r _ [68, 69, 23, 24, 25, 93, 94, 95, 96] (by decide +kernel) (by decide +kernel)
set_option maxRecDepth 20000 in
theorem gX5_colony_X0_setLevel : GoodIn wsX5_colony (wsV RX5 82 RX0 yX0_setLevel wsX0_setLevel) := goodIn_app (goodIn_of _ (by decide +kernel)) ggX5_colony_X0_setLevel
set_option maxRecDepth 20000 in
theorem ggX5_colony_X2_size : GoodIn wsX5_colony wsX2_size := goodIn_r _ [73, 13, 97, 98] (by decide +kernel) (by decide +kernel)
set_option maxRecDepth 20000 in
theorem gX5_colony_X2_size : GoodIn wsX5_colony (wsV RX5 48 RX2 yX2_size wsX2_size) := goodIn_app (goodIn_of _ (by decide +kernel)) ggX5_colony_X2_size
set_option maxRecDepth 20000 in
theorem ggX5_colony_X3_add : GoodIn wsX5_colony wsX3_add := goodIn_r _ [77, 52, 78, 79, 99, 100, 101] (by decide +kernel) (by decide +kernel)
set_option maxRecDepth 20000 in
theorem gX5_colony_X3_add : GoodIn wsX5_colony (wsV RX5 90 RX3 yX3_add wsX3_add) := goodIn_app (goodIn_of _ (by decide +kernel)) ggX5_colony_X3_add
set_option maxRecDepth 20000 in
theorem ggX5_colony_X2_wipe : GoodIn wsX5_colony wsX2_wipe := goodIn_r _ [83, 13, 97, 98] (by decide +kernel) (by decide +kernel)
set_option maxRecDepth 20000 in
theorem gX5_colony_X2_wipe : GoodIn wsX5_colony (wsV RX5 52 RX2 yX2_wipe wsX2_wipe) := goodIn_app (goodIn_of _ (by decide +kernel)) ggX5_colony_X2_wipe
theorem dX5_colony_0 : decode cX5_colony 0 = .ok (.aload_n 0, 1) := by decide +kernel
theorem dX5_colony_1 : decode cX5_colony 1 = .ok (.getfield 10, 3) := by decide +kernel
theorem dX5_colony_4 : decode cX5_colony 4 = .ok (.invokevirtual 58, 3) := by decide +kernel
theorem dX5_colony_7 : decode cX5_colony 7 = .ok (.ifCond .ne 6, 3) := by decide +kernel
theorem dX5_colony_10 : decode cX5_colony 10 = .ok (.bipush (-103), 2) := by decide +kernel
theorem dX5_colony_12 : decode cX5_colony 12 = .ok (.ireturn, 1) := by decide +kernel
theorem dX5_colony_13 : decode cX5_colony 13 = .ok (.aload_n 0, 1) := by decide +kernel
theorem dX5_colony_14 : decode cX5_colony 14 = .ok (.aload_n 0, 1) := by decide +kernel
theorem dX5_colony_15 : decode cX5_colony 15 = .ok (.getfield 10, 3) := by decide +kernel
theorem dX5_colony_18 : decode cX5_colony 18 = .ok (.invokevirtual 62, 3) := by decide +kernel
theorem dX5_colony_21 : decode cX5_colony 21 = .ok (.putfield 65, 3) := by decide +kernel
theorem dX5_colony_24 : decode cX5_colony 24 = .ok (.aload_n 0, 1) := by decide +kernel
theorem dX5_colony_25 : decode cX5_colony 25 = .ok (.getfield 23, 3) := by decide +kernel
theorem dX5_colony_28 : decode cX5_colony 28 = .ok (.invokevirtual 69, 3) := by decide +kernel
theorem dX5_colony_31 : decode cX5_colony 31 = .ok (.iconst 0, 1) := by decide +kernel
theorem dX5_colony_32 : decode cX5_colony 32 = .ok (.istore_n 1, 1) := by decide +kernel
theorem dX5_colony_33 : decode cX5_colony 33 = .ok (.iload_n 1, 1) := by decide +kernel
theorem dX5_colony_34 : decode cX5_colony 34 = .ok (.aload_n 0, 1) := by decide +kernel
theorem dX5_colony_35 : decode cX5_colony 35 = .ok (.getfield 65, 3) := by decide +kernel
theorem dX5_colony_38 : decode cX5_colony 38 = .ok (.if_icmp .ge 53, 3) := by decide +kernel
theorem dX5_colony_41 : decode cX5_colony 41 = .ok (.iload_n 1, 1) := by decide +kernel
theorem dX5_colony_42 : decode cX5_colony 42 = .ok (.iconst 5, 1) := by decide +kernel
theorem dX5_colony_43 : decode cX5_colony 43 = .ok (.if_icmp .ge 48, 3) := by decide +kernel
theorem dX5_colony_46 : decode cX5_colony 46 = .ok (.aload_n 0, 1) := by decide +kernel
theorem dX5_colony_47 : decode cX5_colony 47 = .ok (.getfield 16, 3) := by decide +kernel
theorem dX5_colony_50 : decode cX5_colony 50 = .ok (.iload_n 1, 1) := by decide +kernel
theorem dX5_colony_51 : decode cX5_colony 51 = .ok (.aload_n 0, 1) := by decide +kernel
theorem dX5_colony_52 : decode cX5_colony 52 = .ok (.getfield 10, 3) := by decide +kernel
theorem dX5_colony_55 : decode cX5_colony 55 = .ok (.iconst 3, 1) := by decide +kernel
theorem dX5_colony_56 : decode cX5_colony 56 = .ok (.iload_n 1, 1) := by decide +kernel
theorem dX5_colony_57 : decode cX5_colony 57 = .ok (.imul, 1) := by decide +kernel
theorem dX5_colony_58 : decode cX5_colony 58 = .ok (.invokevirtual 72, 3) := by decide +kernel
theorem dX5_colony_61 : decode cX5_colony 61 = .ok (.invokestatic 76, 3) := by decide +kernel
theorem dX5_colony_64 : decode cX5_colony 64 = .ok (.iastore, 1) := by decide +kernel
theorem dX5_colony_65 : decode cX5_colony 65 = .ok (.aload_n 0, 1) := by decide +kernel
theorem dX5_colony_66 : decode cX5_colony 66 = .ok (.getfield 23, 3) := by decide +kernel
theorem dX5_colony_69 : decode cX5_colony 69 = .ok (.iload_n 1, 1) := by decide +kernel
theorem dX5_colony_70 : decode cX5_colony 70 = .ok (.aload_n 0, 1) := by decide +kernel
theorem dX5_colony_71 : decode cX5_colony 71 = .ok (.getfield 10, 3) := by decide +kernel
theorem dX5_colony_74 : decode cX5_colony 74 = .ok (.iconst 3, 1) := by decide +kernel
theorem dX5_colony_75 : decode cX5_colony 75 = .ok (.iload_n 1, 1) := by decide +kernel
theorem dX5_colony_76 : decode cX5_colony 76 = .ok (.imul, 1) := by decide +kernel
theorem dX5_colony_77 : decode cX5_colony 77 = .ok (.iconst 1, 1) := by decide +kernel
theorem dX5_colony_78 : decode cX5_colony 78 = .ok (.iadd, 1) := by decide +kernel
theorem dX5_colony_79 : decode cX5_colony 79 = .ok (.invokevirtual 79, 3) := by decide +kernel
theorem dX5_colony_82 : decode cX5_colony 82 = .ok (.invokevirtual 82, 3) := by decide +kernel
theorem dX5_colony_85 : decode cX5_colony 85 = .ok (.iinc 1 1, 3) := by decide +kernel
theorem dX5_colony_88 : decode cX5_colony 88 = .ok (.goto (-55), 3) := by decide +kernel
theorem dX5_colony_91 : decode cX5_colony 91 = .ok (.iconst 3, 1) := by decide +kernel
theorem dX5_colony_92 : decode cX5_colony 92 = .ok (.aload_n 0, 1) := by decide +kernel
theorem dX5_colony_93 : decode cX5_colony 93 = .ok (.getfield 65, 3) := by decide +kernel
theorem dX5_colony_96 : decode cX5_colony 96 = .ok (.imul, 1) := by decide +kernel
theorem dX5_colony_97 : decode cX5_colony 97 = .ok (.istore_n 1, 1) := by decide +kernel
theorem dX5_colony_98 : decode cX5_colony 98 = .ok (.iload_n 1, 1) := by decide +kernel
theorem dX5_colony_99 : decode cX5_colony 99 = .ok (.istore_n 2, 1) := by decide +kernel
theorem dX5_colony_100 : decode cX5_colony 100 = .ok (.iload_n 2, 1) := by decide +kernel
theorem dX5_colony_101 : decode cX5_colony 101 = .ok (.iconst 1, 1) := by decide +kernel
theorem dX5_colony_102 : decode cX5_colony 102 = .ok (.iadd, 1) := by decide +kernel
theorem dX5_colony_103 : decode cX5_colony 103 = .ok (.aload_n 0, 1) := by decide +kernel
theorem dX5_colony_104 : decode cX5_colony 104 = .ok (.getfield 10, 3) := by decide +kernel
theorem dX5_colony_107 : decode cX5_colony 107 = .ok (.invokevirtual 48, 3) := by decide +kernel
theorem dX5_colony_110 : decode cX5_colony 110 = .ok (.if_icmp .ge 38, 3) := by decide +kernel
theorem dX5_colony_113 : decode cX5_colony 113 = .ok (.aload_n 0, 1) := by decide +kernel
theorem dX5_colony_114 : decode cX5_colony 114 = .ok (.getfield 23, 3) := by decide +kernel
theorem dX5_colony_117 : decode cX5_colony 117 = .ok (.getfield 86, 3) := by decide +kernel
theorem dX5_colony_120 : decode cX5_colony 120 = .ok (.aload_n 0, 1) := by decide +kernel
theorem dX5_colony_121 : decode cX5_colony 121 = .ok (.getfield 10, 3) := by decide +kernel
theorem dX5_colony_124 : decode cX5_colony 124 = .ok (.iload_n 2, 1) := by decide +kernel
theorem dX5_colony_125 : decode cX5_colony 125 = .ok (.invokevirtual 79, 3) := by decide +kernel
theorem dX5_colony_128 : decode cX5_colony 128 = .ok (.aload_n 0, 1) := by decide +kernel
theorem dX5_colony_129 : decode cX5_colony 129 = .ok (.getfield 10, 3) := by decide +kernel
theorem dX5_colony_132 : decode cX5_colony 132 = .ok (.iload_n 2, 1) := by decide +kernel
theorem dX5_colony_133 : decode cX5_colony 133 = .ok (.iconst 1, 1) := by decide +kernel
theorem dX5_colony_134 : decode cX5_colony 134 = .ok (.iadd, 1) := by decide +kernel
theorem dX5_colony_135 : decode cX5_colony 135 = .ok (.invokevirtual 79, 3) := by decide +kernel
theorem dX5_colony_138 : decode cX5_colony 138 = .ok (.invokevirtual 90, 3) := by decide +kernel
theorem dX5_colony_141 : decode cX5_colony 141 = .ok (.pop, 1) := by decide +kernel
theorem dX5_colony_142 : decode cX5_colony 142 = .ok (.iinc 2 2, 3) := by decide +kernel
theorem dX5_colony_145 : decode cX5_colony 145 = .ok (.goto (-45), 3) := by decide +kernel
theorem dX5_colony_148 : decode cX5_colony 148 = .ok (.aload_n 0, 1) := by decide +kernel
theorem dX5_colony_149 : decode cX5_colony 149 = .ok (.iconst 0, 1) := by decide +kernel
theorem dX5_colony_150 : decode cX5_colony 150 = .ok (.putfield 96, 3) := by decide +kernel
theorem dX5_colony_153 : decode cX5_colony 153 = .ok (.aload_n 0, 1) := by decide +kernel
theorem dX5_colony_154 : decode cX5_colony 154 = .ok (.dup, 1) := by decide +kernel
theorem dX5_colony_155 : decode cX5_colony 155 = .ok (.getfield 100, 3) := by decide +kernel
theorem dX5_colony_158 : decode cX5_colony 158 = .ok (.iconst 1, 1) := by decide +kernel
theorem dX5_colony_159 : decode cX5_colony 159 = .ok (.iadd, 1) := by decide +kernel
theorem dX5_colony_160 : decode cX5_colony 160 = .ok (.putfield 100, 3) := by decide +kernel
theorem dX5_colony_163 : decode cX5_colony 163 = .ok (.aload_n 0, 1) := by decide +kernel
theorem dX5_colony_164 : decode cX5_colony 164 = .ok (.getfield 10, 3) := by decide +kernel
theorem dX5_colony_167 : decode cX5_colony 167 = .ok (.invokevirtual 52, 3) := by decide +kernel
theorem dX5_colony_170 : decode cX5_colony 170 = .ok (.pop, 1) := by decide +kernel
theorem dX5_colony_171 : decode cX5_colony 171 = .ok (.aload_n 0, 1) := by decide +kernel
theorem dX5_colony_172 : decode cX5_colony 172 = .ok (.getfield 65, 3) := by decide +kernel
theorem dX5_colony_175 : decode cX5_colony 175 = .ok (.ireturn, 1) := by decide +kernel
set_option maxRecDepth 20000 in
theorem ggX5_about_X5_isHouse : GoodIn wsX5_about wsX5_isHouse := goodIn_r _ [6, 7, 8, 9, 5, 10, 89, 90, 91, 92, 93, 94, 95, 96, 97] (by decide +kernel) (by decide +kernel)
set_option maxRecDepth 20000 in
theorem gX5_about_X5_isHouse : GoodIn wsX5_about (wsV RX5 103 RX5 yX5_isHouse wsX5_isHouse) := goodIn_app (goodIn_of _ (by decide +kernel)) ggX5_about_X5_isHouse
set_option maxRecDepth 20000 in
theorem ggX5_about_X5_isWithin : GoodIn wsX5_about wsX5_isWithin := goodIn_r _ [10] (by decide +kernel) (by decide +kernel)
set_option maxRecDepth 20000 in
theorem gX5_about_X5_isWithin : GoodIn wsX5_about (va_wsS RX5 40 yX5_isWithin wsX5_isWithin) := goodIn_app (goodIn_of _ (by decide +kernel)) ggX5_about_X5_isWithin
set_option maxRecDepth 20000 in
theorem ggX5_about_X5_tideNow : GoodIn wsX5_about wsX5_tideNow := goodIn_r _ [14, 15, 1, 16, 17, 18, 19, 20, 21, 22, 23, 24, 25, 26, 27, 28, 29, 30, 31, 32, 33, 34, 35, 36, 37, 9, 5, 10, 38, 39, 40, 41, 42, 43, 44, 45, 46, 47, 48, 49, 50, 89, 90, 91, 92, 93, 94, 95, 96, 97, 98, 99, 100, 101, 102, 103, 104, 105] (by decide +kernel) (by decide +kernel)
set_option maxRecDepth 20000 in
theorem gX5_about_X5_tideNow : GoodIn wsX5_about (wsV RX5 106 RX5 yX5_tideNow wsX5_tideNow) := goodIn_app (goodIn_of _ (by decide +kernel)) ggX5_about_X5_tideNow
set_option maxRecDepth 20000 in
theorem ggX5_about_X5_kindAt : GoodIn wsX5_about wsX5_kindAt := goodIn_r _ [54, 55, 8, 9, 5, 10, 89, 90, 91, 92, 93, 94, 95, 96, 97] (by decide +kernel) (by decide +kernel)
set_option maxRecDepth 20000 in
theorem gX5_about_X5_kindAt : GoodIn wsX5_about (wsV RX5 110 RX5 yX5_kindAt wsX5_kindAt) := goodIn_app (goodIn_of _ (by decide +kernel)) ggX5_about_X5_kindAt
set_option maxRecDepth 20000 in
theorem ggX5_about_X0_level : GoodIn wsX5_about wsX0_level := goodIn_r _ [60, 61, 9, 5, 10, 98, 99, 100, 101] (by decide +kernel) (by decide +kernel)
set_option maxRecDepth 20000 in
theorem gX5_about_X0_level : GoodIn wsX5_about (wsV RX5 113 RX0 yX0_level wsX0_level) := goodIn_app (goodIn_of _ (by decide +kernel)) ggX5_about_X0_level
set_option maxRecDepth 20000 in
theorem ggX5_about_X5_hoursOf : GoodIn wsX5_about wsX5_hoursOf := goodIn_r _ [65, 66, 67, 68, 5, 69, 1, 70, 48, 49, 50, 71, 72, 73, 56, 57, 58, 59, 60, 61, 9, 10, 51, 52, 53, 54, 55, 8, 74, 75, 76, 20, 77, 22, 78, 79, 80, 81, 82, 83, 84, 89, 90, 91, 92, 93, 94, 95, 96, 97, 98, 99, 100, 101, 102] (by decide +kernel) (by decide +kernel)
set_option maxRecDepth 20000 in
theorem gX5_about_X5_hoursOf : GoodIn wsX5_about (wsV RX5 116 RX5 yX5_hoursOf wsX5_hoursOf) := goodIn_app (goodIn_of _ (by decide +kernel)) ggX5_about_X5_hoursOf
set_option maxRecDepth 20000 in
theorem ggX5_about_X5_hourOfMostManners : GoodIn wsX5_about wsX5_hourOfMostManners := goodIn_r _ [88, 66, 67, 68, 5, 69, 1, 70, 48, 49, 50, 71, 72, 73, 56, 57, 58, 59, 60, 61, 9, 10, 51, 52, 53, 54, 55, 8, 74, 75, 76, 20, 77, 22, 78, 79, 80, 81, 89, 90, 91, 92, 93, 94, 95, 96, 97, 98, 99, 100, 101, 102] (by decide +kernel) (by decide +kernel)
set_option maxRecDepth 20000 in
theorem gX5_about_X5_hourOfMostManners : GoodIn wsX5_about (wsV RX5 120 RX5 yX5_hourOfMostManners wsX5_hourOfMostManners) := goodIn_app (goodIn_of _ (by decide +kernel)) ggX5_about_X5_hourOfMostManners
set_option maxRecDepth 20000 in
theorem ggX5_about_X5_mannersAt : GoodIn wsX5_about wsX5_mannersAt := goodIn_r _ [69, 1, 70, 48, 49, 50, 71, 72, 73, 56, 57, 58, 59, 60, 61, 9, 5, 10, 51, 52, 53, 54, 55, 8, 74, 75, 76, 20, 77, 22, 78, 79, 80, 81, 89, 90, 91, 92, 93, 94, 95, 96, 97, 98, 99, 100, 101, 102] (by decide +kernel) (by decide +kernel)
set_option maxRecDepth 20000 in
theorem gX5_about_X5_mannersAt : GoodIn wsX5_about (wsV RX5 124 RX5 yX5_mannersAt wsX5_mannersAt) := goodIn_app (goodIn_of _ (by decide +kernel)) ggX5_about_X5_mannersAt
theorem dX5_about_0 : decode cX5_about 0 = .ok (.aload_n 0, 1) := by decide +kernel
theorem dX5_about_1 : decode cX5_about 1 = .ok (.iload_n 1, 1) := by decide +kernel
theorem dX5_about_2 : decode cX5_about 2 = .ok (.invokevirtual 103, 3) := by decide +kernel
theorem dX5_about_5 : decode cX5_about 5 = .ok (.ifCond .ne 6, 3) := by decide +kernel
theorem dX5_about_8 : decode cX5_about 8 = .ok (.bipush (-101), 2) := by decide +kernel
theorem dX5_about_10 : decode cX5_about 10 = .ok (.ireturn, 1) := by decide +kernel
theorem dX5_about_11 : decode cX5_about 11 = .ok (.iload_n 2, 1) := by decide +kernel
theorem dX5_about_12 : decode cX5_about 12 = .ok (.iconst 0, 1) := by decide +kernel
theorem dX5_about_13 : decode cX5_about 13 = .ok (.iconst 4, 1) := by decide +kernel
theorem dX5_about_14 : decode cX5_about 14 = .ok (.invokestatic 40, 3) := by decide +kernel
theorem dX5_about_17 : decode cX5_about 17 = .ok (.ifCond .ne 17, 3) := by decide +kernel
theorem dX5_about_20 : decode cX5_about 20 = .ok (.iload_n 2, 1) := by decide +kernel
theorem dX5_about_21 : decode cX5_about 21 = .ok (.bipush 10, 2) := by decide +kernel
theorem dX5_about_23 : decode cX5_about 23 = .ok (.bipush 21, 2) := by decide +kernel
theorem dX5_about_25 : decode cX5_about 25 = .ok (.invokestatic 40, 3) := by decide +kernel
theorem dX5_about_28 : decode cX5_about 28 = .ok (.ifCond .ne 6, 3) := by decide +kernel
theorem dX5_about_31 : decode cX5_about 31 = .ok (.bipush (-102), 2) := by decide +kernel
theorem dX5_about_33 : decode cX5_about 33 = .ok (.ireturn, 1) := by decide +kernel
theorem dX5_about_34 : decode cX5_about 34 = .ok (.aload_n 0, 1) := by decide +kernel
theorem dX5_about_35 : decode cX5_about 35 = .ok (.invokevirtual 106, 3) := by decide +kernel
theorem dX5_about_38 : decode cX5_about 38 = .ok (.astore_n 3, 1) := by decide +kernel
theorem dX5_about_39 : decode cX5_about 39 = .ok (.iload_n 2, 1) := by decide +kernel
theorem dX5_about_40 : decode cX5_about 40 = .ok (.tableswitch 79 0 4 #[36, 42, 51, 59, 72], 36) := by decide +kernel
theorem dX5_about_76 : decode cX5_about 76 = .ok (.aload_n 0, 1) := by decide +kernel
theorem dX5_about_77 : decode cX5_about 77 = .ok (.iload_n 1, 1) := by decide +kernel
theorem dX5_about_78 : decode cX5_about 78 = .ok (.invokevirtual 110, 3) := by decide +kernel
theorem dX5_about_81 : decode cX5_about 81 = .ok (.ireturn, 1) := by decide +kernel
theorem dX5_about_82 : decode cX5_about 82 = .ok (.aload_n 0, 1) := by decide +kernel
theorem dX5_about_83 : decode cX5_about 83 = .ok (.getfield 23, 3) := by decide +kernel
theorem dX5_about_86 : decode cX5_about 86 = .ok (.iload_n 1, 1) := by decide +kernel
theorem dX5_about_87 : decode cX5_about 87 = .ok (.invokevirtual 113, 3) := by decide +kernel
theorem dX5_about_90 : decode cX5_about 90 = .ok (.ireturn, 1) := by decide +kernel
theorem dX5_about_91 : decode cX5_about 91 = .ok (.aload_n 0, 1) := by decide +kernel
theorem dX5_about_92 : decode cX5_about 92 = .ok (.iconst 0, 1) := by decide +kernel
theorem dX5_about_93 : decode cX5_about 93 = .ok (.iload_n 1, 1) := by decide +kernel
theorem dX5_about_94 : decode cX5_about 94 = .ok (.aload_n 3, 1) := by decide +kernel
theorem dX5_about_95 : decode cX5_about 95 = .ok (.invokevirtual 116, 3) := by decide +kernel
theorem dX5_about_98 : decode cX5_about 98 = .ok (.ireturn, 1) := by decide +kernel
theorem dX5_about_99 : decode cX5_about 99 = .ok (.aload_n 0, 1) := by decide +kernel
theorem dX5_about_100 : decode cX5_about 100 = .ok (.iload_n 1, 1) := by decide +kernel
theorem dX5_about_101 : decode cX5_about 101 = .ok (.aload_n 3, 1) := by decide +kernel
theorem dX5_about_102 : decode cX5_about 102 = .ok (.aload_n 0, 1) := by decide +kernel
theorem dX5_about_103 : decode cX5_about 103 = .ok (.iload_n 1, 1) := by decide +kernel
theorem dX5_about_104 : decode cX5_about 104 = .ok (.aload_n 3, 1) := by decide +kernel
theorem dX5_about_105 : decode cX5_about 105 = .ok (.invokevirtual 120, 3) := by decide +kernel
theorem dX5_about_108 : decode cX5_about 108 = .ok (.invokevirtual 124, 3) := by decide +kernel
theorem dX5_about_111 : decode cX5_about 111 = .ok (.ireturn, 1) := by decide +kernel
theorem dX5_about_112 : decode cX5_about 112 = .ok (.aload_n 0, 1) := by decide +kernel
theorem dX5_about_113 : decode cX5_about 113 = .ok (.iload_n 1, 1) := by decide +kernel
theorem dX5_about_114 : decode cX5_about 114 = .ok (.aload_n 3, 1) := by decide +kernel
theorem dX5_about_115 : decode cX5_about 115 = .ok (.invokevirtual 120, 3) := by decide +kernel
theorem dX5_about_118 : decode cX5_about 118 = .ok (.ireturn, 1) := by decide +kernel
theorem dX5_about_119 : decode cX5_about 119 = .ok (.aload_n 0, 1) := by decide +kernel
theorem dX5_about_120 : decode cX5_about 120 = .ok (.iload_n 1, 1) := by decide +kernel
theorem dX5_about_121 : decode cX5_about 121 = .ok (.aload_n 3, 1) := by decide +kernel
theorem dX5_about_122 : decode cX5_about 122 = .ok (.iload_n 2, 1) := by decide +kernel
theorem dX5_about_123 : decode cX5_about 123 = .ok (.bipush 10, 2) := by decide +kernel
theorem dX5_about_125 : decode cX5_about 125 = .ok (.isub, 1) := by decide +kernel
theorem dX5_about_126 : decode cX5_about 126 = .ok (.invokevirtual 124, 3) := by decide +kernel
theorem dX5_about_129 : decode cX5_about 129 = .ok (.ireturn, 1) := by decide +kernel
set_option maxRecDepth 20000 in
theorem ggX5_as_X5_isHouse : GoodIn wsX5_as wsX5_isHouse := goodIn_r _ [5, 6, 7, 8, 4, 9, 15, 16, 17, 18, 19, 20, 21, 22, 23] (by decide +kernel) (by decide +kernel)
set_option maxRecDepth 20000 in
theorem gX5_as_X5_isHouse : GoodIn wsX5_as (wsV RX5 103 RX5 yX5_isHouse wsX5_isHouse) := goodIn_app (goodIn_of _ (by decide +kernel)) ggX5_as_X5_isHouse
set_option maxRecDepth 20000 in
theorem ggX5_as_X5_isWithin : GoodIn wsX5_as wsX5_isWithin := goodIn_r _ [9] (by decide +kernel) (by decide +kernel)
set_option maxRecDepth 20000 in
theorem gX5_as_X5_isWithin : GoodIn wsX5_as (va_wsS RX5 40 yX5_isWithin wsX5_isWithin) := goodIn_app (goodIn_of _ (by decide +kernel)) ggX5_as_X5_isWithin
set_option maxRecDepth 20000 in
theorem ggX5_as_X5_kindAt : GoodIn wsX5_as wsX5_kindAt := goodIn_r _ [13, 14, 7, 8, 4, 9, 15, 16, 17, 18, 19, 20, 21, 22, 23] (by decide +kernel) (by decide +kernel)
set_option maxRecDepth 20000 in
theorem gX5_as_X5_kindAt : GoodIn wsX5_as (wsV RX5 110 RX5 yX5_kindAt wsX5_kindAt) := goodIn_app (goodIn_of _ (by decide +kernel)) ggX5_as_X5_kindAt
theorem dX5_as_0 : decode cX5_as 0 = .ok (.aload_n 0, 1) := by decide +kernel
theorem dX5_as_1 : decode cX5_as 1 = .ok (.iload_n 1, 1) := by decide +kernel
theorem dX5_as_2 : decode cX5_as 2 = .ok (.invokevirtual 103, 3) := by decide +kernel
theorem dX5_as_5 : decode cX5_as 5 = .ok (.ifCond .ne 6, 3) := by decide +kernel
theorem dX5_as_8 : decode cX5_as 8 = .ok (.bipush (-101), 2) := by decide +kernel
theorem dX5_as_10 : decode cX5_as 10 = .ok (.ireturn, 1) := by decide +kernel
theorem dX5_as_11 : decode cX5_as 11 = .ok (.iload_n 2, 1) := by decide +kernel
theorem dX5_as_12 : decode cX5_as 12 = .ok (.iconst 0, 1) := by decide +kernel
theorem dX5_as_13 : decode cX5_as 13 = .ok (.iconst 4, 1) := by decide +kernel
theorem dX5_as_14 : decode cX5_as 14 = .ok (.invokestatic 40, 3) := by decide +kernel
theorem dX5_as_17 : decode cX5_as 17 = .ok (.ifCond .ne 6, 3) := by decide +kernel
theorem dX5_as_20 : decode cX5_as 20 = .ok (.bipush (-102), 2) := by decide +kernel
theorem dX5_as_22 : decode cX5_as 22 = .ok (.ireturn, 1) := by decide +kernel
theorem dX5_as_23 : decode cX5_as 23 = .ok (.aload_n 0, 1) := by decide +kernel
theorem dX5_as_24 : decode cX5_as 24 = .ok (.iload_n 1, 1) := by decide +kernel
theorem dX5_as_25 : decode cX5_as 25 = .ok (.invokevirtual 110, 3) := by decide +kernel
theorem dX5_as_28 : decode cX5_as 28 = .ok (.istore_n 3, 1) := by decide +kernel
theorem dX5_as_29 : decode cX5_as 29 = .ok (.iload_n 2, 1) := by decide +kernel
theorem dX5_as_30 : decode cX5_as 30 = .ok (.ifCond .eq 18, 3) := by decide +kernel
theorem dX5_as_33 : decode cX5_as 33 = .ok (.iload_n 2, 1) := by decide +kernel
theorem dX5_as_34 : decode cX5_as 34 = .ok (.iload_n 3, 1) := by decide +kernel
theorem dX5_as_35 : decode cX5_as 35 = .ok (.if_icmp .eq 13, 3) := by decide +kernel
theorem dX5_as_38 : decode cX5_as 38 = .ok (.iload_n 2, 1) := by decide +kernel
theorem dX5_as_39 : decode cX5_as 39 = .ok (.iconst 1, 1) := by decide +kernel
theorem dX5_as_40 : decode cX5_as 40 = .ok (.if_icmp .ne 12, 3) := by decide +kernel
theorem dX5_as_43 : decode cX5_as 43 = .ok (.iload_n 3, 1) := by decide +kernel
theorem dX5_as_44 : decode cX5_as 44 = .ok (.iconst 4, 1) := by decide +kernel
theorem dX5_as_45 : decode cX5_as 45 = .ok (.if_icmp .ne 7, 3) := by decide +kernel
theorem dX5_as_48 : decode cX5_as 48 = .ok (.iconst 1, 1) := by decide +kernel
theorem dX5_as_49 : decode cX5_as 49 = .ok (.goto 4, 3) := by decide +kernel
theorem dX5_as_52 : decode cX5_as 52 = .ok (.iconst 0, 1) := by decide +kernel
theorem dX5_as_53 : decode cX5_as 53 = .ok (.istore 4, 2) := by decide +kernel
theorem dX5_as_55 : decode cX5_as 55 = .ok (.iload 4, 2) := by decide +kernel
theorem dX5_as_57 : decode cX5_as 57 = .ok (.ifCond .eq 7, 3) := by decide +kernel
theorem dX5_as_60 : decode cX5_as 60 = .ok (.iload_n 1, 1) := by decide +kernel
theorem dX5_as_61 : decode cX5_as 61 = .ok (.goto 4, 3) := by decide +kernel
theorem dX5_as_64 : decode cX5_as 64 = .ok (.iconst (-1), 1) := by decide +kernel
theorem dX5_as_65 : decode cX5_as 65 = .ok (.ireturn, 1) := by decide +kernel
set_option maxRecDepth 20000 in
theorem ggX5_raise_X5_isHouse : GoodIn wsX5_raise wsX5_isHouse := goodIn_r _ [7, 8, 9, 10, 6, 11, 22, 23, 24, 25, 26, 27, 28, 29, 30] (by decide +kernel) (by decide +kernel)
set_option maxRecDepth 20000 in
theorem gX5_raise_X5_isHouse : GoodIn wsX5_raise (wsV RX5 103 RX5 yX5_isHouse wsX5_isHouse) := goodIn_app (goodIn_of _ (by decide +kernel)) ggX5_raise_X5_isHouse
set_option maxRecDepth 20000 in
theorem ggX5_raise_X5_isWithin : GoodIn wsX5_raise wsX5_isWithin := goodIn_r _ [11] (by decide +kernel) (by decide +kernel)
set_option maxRecDepth 20000 in
theorem gX5_raise_X5_isWithin : GoodIn wsX5_raise (va_wsS RX5 40 yX5_isWithin wsX5_isWithin) := goodIn_app (goodIn_of _ (by decide +kernel)) ggX5_raise_X5_isWithin
set_option maxRecDepth 20000 in
theorem ggX5_raise_X0_level : GoodIn wsX5_raise wsX0_level := goodIn_r _ [16, 17, 10, 6, 11, 31, 32, 33, 34] (by decide +kernel) (by decide +kernel)
set_option maxRecDepth 20000 in
theorem gX5_raise_X0_level : GoodIn wsX5_raise (wsV RX5 113 RX0 yX0_level wsX0_level) := goodIn_app (goodIn_of _ (by decide +kernel)) ggX5_raise_X0_level
set_option maxRecDepth 20000 in
theorem ggX5_raise_X0_setLevel : GoodIn wsX5_raise wsX0_setLevel := goodIn_r _ [21, 17, 10, 6, 11, 31, 32, 33, 34] (by decide +kernel) (by decide +kernel)
set_option maxRecDepth 20000 in
theorem gX5_raise_X0_setLevel : GoodIn wsX5_raise (wsV RX5 82 RX0 yX0_setLevel wsX0_setLevel) := goodIn_app (goodIn_of _ (by decide +kernel)) ggX5_raise_X0_setLevel
theorem dX5_raise_0 : decode cX5_raise 0 = .ok (.aload_n 0, 1) := by decide +kernel
theorem dX5_raise_1 : decode cX5_raise 1 = .ok (.iload_n 1, 1) := by decide +kernel
theorem dX5_raise_2 : decode cX5_raise 2 = .ok (.invokevirtual 103, 3) := by decide +kernel
theorem dX5_raise_5 : decode cX5_raise 5 = .ok (.ifCond .ne 6, 3) := by decide +kernel
theorem dX5_raise_8 : decode cX5_raise 8 = .ok (.bipush (-101), 2) := by decide +kernel
theorem dX5_raise_10 : decode cX5_raise 10 = .ok (.ireturn, 1) := by decide +kernel
theorem dX5_raise_11 : decode cX5_raise 11 = .ok (.iload_n 2, 1) := by decide +kernel
theorem dX5_raise_12 : decode cX5_raise 12 = .ok (.iconst 0, 1) := by decide +kernel
theorem dX5_raise_13 : decode cX5_raise 13 = .ok (.bipush 9, 2) := by decide +kernel
theorem dX5_raise_15 : decode cX5_raise 15 = .ok (.invokestatic 40, 3) := by decide +kernel
theorem dX5_raise_18 : decode cX5_raise 18 = .ok (.ifCond .ne 6, 3) := by decide +kernel
theorem dX5_raise_21 : decode cX5_raise 21 = .ok (.bipush (-102), 2) := by decide +kernel
theorem dX5_raise_23 : decode cX5_raise 23 = .ok (.ireturn, 1) := by decide +kernel
theorem dX5_raise_24 : decode cX5_raise 24 = .ok (.aload_n 0, 1) := by decide +kernel
theorem dX5_raise_25 : decode cX5_raise 25 = .ok (.getfield 23, 3) := by decide +kernel
theorem dX5_raise_28 : decode cX5_raise 28 = .ok (.iload_n 1, 1) := by decide +kernel
theorem dX5_raise_29 : decode cX5_raise 29 = .ok (.invokevirtual 113, 3) := by decide +kernel
theorem dX5_raise_32 : decode cX5_raise 32 = .ok (.istore_n 3, 1) := by decide +kernel
theorem dX5_raise_33 : decode cX5_raise 33 = .ok (.aload_n 0, 1) := by decide +kernel
theorem dX5_raise_34 : decode cX5_raise 34 = .ok (.getfield 23, 3) := by decide +kernel
theorem dX5_raise_37 : decode cX5_raise 37 = .ok (.iload_n 1, 1) := by decide +kernel
theorem dX5_raise_38 : decode cX5_raise 38 = .ok (.iload_n 2, 1) := by decide +kernel
theorem dX5_raise_39 : decode cX5_raise 39 = .ok (.invokevirtual 82, 3) := by decide +kernel
theorem dX5_raise_42 : decode cX5_raise 42 = .ok (.aload_n 0, 1) := by decide +kernel
theorem dX5_raise_43 : decode cX5_raise 43 = .ok (.getfield 23, 3) := by decide +kernel
theorem dX5_raise_46 : decode cX5_raise 46 = .ok (.dup, 1) := by decide +kernel
theorem dX5_raise_47 : decode cX5_raise 47 = .ok (.getfield 128, 3) := by decide +kernel
theorem dX5_raise_50 : decode cX5_raise 50 = .ok (.iconst 1, 1) := by decide +kernel
theorem dX5_raise_51 : decode cX5_raise 51 = .ok (.iadd, 1) := by decide +kernel
theorem dX5_raise_52 : decode cX5_raise 52 = .ok (.putfield 128, 3) := by decide +kernel
theorem dX5_raise_55 : decode cX5_raise 55 = .ok (.iload_n 3, 1) := by decide +kernel
theorem dX5_raise_56 : decode cX5_raise 56 = .ok (.ireturn, 1) := by decide +kernel
set_option maxRecDepth 20000 in
theorem ggX5_tide_X5_isHourOfDay : GoodIn wsX5_tide wsX5_isHourOfDay := goodIn_r _ [4, 5, 6, 3, 7] (by decide +kernel) (by decide +kernel)
set_option maxRecDepth 20000 in
theorem gX5_tide_X5_isHourOfDay : GoodIn wsX5_tide (va_wsS RX5 131 yX5_isHourOfDay wsX5_isHourOfDay) := goodIn_app (goodIn_of _ (by decide +kernel)) ggX5_tide_X5_isHourOfDay
set_option maxRecDepth 20000 in
theorem ggX5_tide_X5_hasColony : GoodIn wsX5_tide wsX5_hasColony := goodIn_r _ [11, 12, 61, 62, 63, 64, 65, 66, 67, 68, 69] (by decide +kernel) (by decide +kernel)
set_option maxRecDepth 20000 in
theorem gX5_tide_X5_hasColony : GoodIn wsX5_tide (wsV RX5 134 RX5 yX5_hasColony wsX5_hasColony) := goodIn_app (goodIn_of _ (by decide +kernel)) ggX5_tide_X5_hasColony
set_option maxRecDepth 20000 in
theorem ggX5_tide_X5_tideNow : GoodIn wsX5_tide wsX5_tideNow := goodIn_r _ [16, 17, 18, 19, 20, 21, 22, 23, 24, 25, 26, 27, 28, 29, 30, 31, 32, 33, 34, 35, 36, 37, 38, 39, 40, 6, 3, 7, 41, 42, 43, 44, 45, 46, 47, 48, 49, 50, 51, 52, 53, 61, 62, 63, 64, 65, 66, 67, 68, 69, 70, 71, 72, 73, 74, 75, 76, 77] (by decide +kernel) (by decide +kernel)
set_option maxRecDepth 20000 in
theorem gX5_tide_X5_tideNow : GoodIn wsX5_tide (wsV RX5 106 RX5 yX5_tideNow wsX5_tideNow) := goodIn_app (goodIn_of _ (by decide +kernel)) ggX5_tide_X5_tideNow
set_option maxRecDepth 20000 in
theorem ggX5_tide_X4_at : GoodIn wsX5_tide wsX4_at := goodIn_r _ [57, 25, 58, 59, 52, 60, 74] (by decide +kernel) (by decide +kernel)
set_option maxRecDepth 20000 in
theorem gX5_tide_X4_at : GoodIn wsX5_tide (wsV RX5 137 RX4 yX4_at wsX4_at) := goodIn_app (goodIn_of _ (by decide +kernel)) ggX5_tide_X4_at
theorem dX5_tide_0 : decode cX5_tide 0 = .ok (.iload_n 1, 1) := by decide +kernel
theorem dX5_tide_1 : decode cX5_tide 1 = .ok (.invokestatic 131, 3) := by decide +kernel
theorem dX5_tide_4 : decode cX5_tide 4 = .ok (.ifCond .ne 6, 3) := by decide +kernel
theorem dX5_tide_7 : decode cX5_tide 7 = .ok (.bipush (-102), 2) := by decide +kernel
theorem dX5_tide_9 : decode cX5_tide 9 = .ok (.ireturn, 1) := by decide +kernel
theorem dX5_tide_10 : decode cX5_tide 10 = .ok (.aload_n 0, 1) := by decide +kernel
theorem dX5_tide_11 : decode cX5_tide 11 = .ok (.invokevirtual 134, 3) := by decide +kernel
theorem dX5_tide_14 : decode cX5_tide 14 = .ok (.ifCond .eq 14, 3) := by decide +kernel
theorem dX5_tide_17 : decode cX5_tide 17 = .ok (.aload_n 0, 1) := by decide +kernel
theorem dX5_tide_18 : decode cX5_tide 18 = .ok (.invokevirtual 106, 3) := by decide +kernel
theorem dX5_tide_21 : decode cX5_tide 21 = .ok (.iload_n 1, 1) := by decide +kernel
theorem dX5_tide_22 : decode cX5_tide 22 = .ok (.invokevirtual 137, 3) := by decide +kernel
theorem dX5_tide_25 : decode cX5_tide 25 = .ok (.goto 5, 3) := by decide +kernel
theorem dX5_tide_28 : decode cX5_tide 28 = .ok (.bipush (-103), 2) := by decide +kernel
theorem dX5_tide_30 : decode cX5_tide 30 = .ok (.ireturn, 1) := by decide +kernel
set_option maxRecDepth 20000 in
theorem ggX5_strike_X5_isWithin : GoodIn wsX5_strike wsX5_isWithin := goodIn_r _ [7] (by decide +kernel) (by decide +kernel)
set_option maxRecDepth 20000 in
theorem gX5_strike_X5_isWithin : GoodIn wsX5_strike (va_wsS RX5 40 yX5_isWithin wsX5_isWithin) := goodIn_app (goodIn_of _ (by decide +kernel)) ggX5_strike_X5_isWithin
set_option maxRecDepth 20000 in
theorem ggX5_strike_X5_isHeardLoud : GoodIn wsX5_strike wsX5_isHeardLoud := goodIn_r _ [10, 4, 5, 6, 7] (by decide +kernel) (by decide +kernel)
set_option maxRecDepth 20000 in
theorem gX5_strike_X5_isHeardLoud : GoodIn wsX5_strike (va_wsS RX5 138 yX5_isHeardLoud wsX5_isHeardLoud) := goodIn_app (goodIn_of _ (by decide +kernel)) ggX5_strike_X5_isHeardLoud
set_option maxRecDepth 20000 in
theorem ggX5_strike_X5_hasColony : GoodIn wsX5_strike wsX5_hasColony := goodIn_r _ [14, 15, 28, 29, 30, 31, 32, 33, 34, 35, 36] (by decide +kernel) (by decide +kernel)
set_option maxRecDepth 20000 in
theorem gX5_strike_X5_hasColony : GoodIn wsX5_strike (wsV RX5 134 RX5 yX5_hasColony wsX5_hasColony) := goodIn_app (goodIn_of _ (by decide +kernel)) ggX5_strike_X5_hasColony
set_option maxRecDepth 20000 in
theorem ggX5_strike_X3_add : GoodIn wsX5_strike wsX3_add := goodIn_r _ [20, 21, 22, 23, 41, 42, 43] (by decide +kernel) (by decide +kernel)
set_option maxRecDepth 20000 in
theorem gX5_strike_X3_add : GoodIn wsX5_strike (wsV RX5 90 RX3 yX3_add wsX3_add) := goodIn_app (goodIn_of _ (by decide +kernel)) ggX5_strike_X3_add
set_option maxRecDepth 20000 in
theorem ggX5_strike_X3_size : GoodIn wsX5_strike wsX3_size := goodIn_r _ [27, 21, 41, 42, 43] (by decide +kernel) (by decide +kernel)
set_option maxRecDepth 20000 in
theorem gX5_strike_X3_size : GoodIn wsX5_strike (wsV RX5 141 RX3 yX3_size wsX3_size) := goodIn_app (goodIn_of _ (by decide +kernel)) ggX5_strike_X3_size
theorem dX5_strike_0 : decode cX5_strike 0 = .ok (.iload_n 1, 1) := by decide +kernel
theorem dX5_strike_1 : decode cX5_strike 1 = .ok (.iconst 0, 1) := by decide +kernel
theorem dX5_strike_2 : decode cX5_strike 2 = .ok (.bipush 9, 2) := by decide +kernel
theorem dX5_strike_4 : decode cX5_strike 4 = .ok (.invokestatic 40, 3) := by decide +kernel
theorem dX5_strike_7 : decode cX5_strike 7 = .ok (.ifCond .eq 10, 3) := by decide +kernel
theorem dX5_strike_10 : decode cX5_strike 10 = .ok (.iload_n 2, 1) := by decide +kernel
theorem dX5_strike_11 : decode cX5_strike 11 = .ok (.invokestatic 138, 3) := by decide +kernel
theorem dX5_strike_14 : decode cX5_strike 14 = .ok (.ifCond .ne 6, 3) := by decide +kernel
theorem dX5_strike_17 : decode cX5_strike 17 = .ok (.bipush (-102), 2) := by decide +kernel
theorem dX5_strike_19 : decode cX5_strike 19 = .ok (.ireturn, 1) := by decide +kernel
theorem dX5_strike_20 : decode cX5_strike 20 = .ok (.aload_n 0, 1) := by decide +kernel
theorem dX5_strike_21 : decode cX5_strike 21 = .ok (.invokevirtual 134, 3) := by decide +kernel
theorem dX5_strike_24 : decode cX5_strike 24 = .ok (.ifCond .ne 6, 3) := by decide +kernel
theorem dX5_strike_27 : decode cX5_strike 27 = .ok (.bipush (-103), 2) := by decide +kernel
theorem dX5_strike_29 : decode cX5_strike 29 = .ok (.ireturn, 1) := by decide +kernel
theorem dX5_strike_30 : decode cX5_strike 30 = .ok (.aload_n 0, 1) := by decide +kernel
theorem dX5_strike_31 : decode cX5_strike 31 = .ok (.getfield 23, 3) := by decide +kernel
theorem dX5_strike_34 : decode cX5_strike 34 = .ok (.getfield 86, 3) := by decide +kernel
theorem dX5_strike_37 : decode cX5_strike 37 = .ok (.iload_n 1, 1) := by decide +kernel
theorem dX5_strike_38 : decode cX5_strike 38 = .ok (.iload_n 2, 1) := by decide +kernel
theorem dX5_strike_39 : decode cX5_strike 39 = .ok (.invokevirtual 90, 3) := by decide +kernel
theorem dX5_strike_42 : decode cX5_strike 42 = .ok (.ifCond .ne 6, 3) := by decide +kernel
theorem dX5_strike_45 : decode cX5_strike 45 = .ok (.bipush (-104), 2) := by decide +kernel
theorem dX5_strike_47 : decode cX5_strike 47 = .ok (.ireturn, 1) := by decide +kernel
theorem dX5_strike_48 : decode cX5_strike 48 = .ok (.aload_n 0, 1) := by decide +kernel
theorem dX5_strike_49 : decode cX5_strike 49 = .ok (.getfield 23, 3) := by decide +kernel
theorem dX5_strike_52 : decode cX5_strike 52 = .ok (.dup, 1) := by decide +kernel
theorem dX5_strike_53 : decode cX5_strike 53 = .ok (.getfield 128, 3) := by decide +kernel
theorem dX5_strike_56 : decode cX5_strike 56 = .ok (.iconst 1, 1) := by decide +kernel
theorem dX5_strike_57 : decode cX5_strike 57 = .ok (.iadd, 1) := by decide +kernel
theorem dX5_strike_58 : decode cX5_strike 58 = .ok (.putfield 128, 3) := by decide +kernel
theorem dX5_strike_61 : decode cX5_strike 61 = .ok (.aload_n 0, 1) := by decide +kernel
theorem dX5_strike_62 : decode cX5_strike 62 = .ok (.getfield 23, 3) := by decide +kernel
theorem dX5_strike_65 : decode cX5_strike 65 = .ok (.getfield 86, 3) := by decide +kernel
theorem dX5_strike_68 : decode cX5_strike 68 = .ok (.invokevirtual 141, 3) := by decide +kernel
theorem dX5_strike_71 : decode cX5_strike 71 = .ok (.iconst 1, 1) := by decide +kernel
theorem dX5_strike_72 : decode cX5_strike 72 = .ok (.isub, 1) := by decide +kernel
theorem dX5_strike_73 : decode cX5_strike 73 = .ok (.ireturn, 1) := by decide +kernel
set_option maxRecDepth 20000 in
theorem ggX5_felt_X3_has : GoodIn wsX5_felt wsX3_has := goodIn_r _ [8, 9, 10, 11, 12, 37, 38, 39] (by decide +kernel) (by decide +kernel)
set_option maxRecDepth 20000 in
theorem gX5_felt_X3_has : GoodIn wsX5_felt (wsV RX5 142 RX3 yX3_has wsX3_has) := goodIn_app (goodIn_of _ (by decide +kernel)) ggX5_felt_X3_has
set_option maxRecDepth 20000 in
theorem ggX5_felt_X5_isWithin : GoodIn wsX5_felt wsX5_isWithin := goodIn_r _ [12] (by decide +kernel) (by decide +kernel)
set_option maxRecDepth 20000 in
theorem gX5_felt_X5_isWithin : GoodIn wsX5_felt (va_wsS RX5 40 yX5_isWithin wsX5_isWithin) := goodIn_app (goodIn_of _ (by decide +kernel)) ggX5_felt_X5_isWithin
set_option maxRecDepth 20000 in
theorem ggX5_felt_X3_loud : GoodIn wsX5_felt wsX3_loud := goodIn_r _ [17, 18, 19, 5, 6, 7, 8, 9, 10, 11, 12, 37, 38, 39] (by decide +kernel) (by decide +kernel)
set_option maxRecDepth 20000 in
theorem gX5_felt_X3_loud : GoodIn wsX5_felt (wsV RX5 145 RX3 yX3_loud wsX3_loud) := goodIn_app (goodIn_of _ (by decide +kernel)) ggX5_felt_X3_loud
set_option maxRecDepth 20000 in
theorem ggX5_felt_X3_setLoud : GoodIn wsX5_felt wsX3_setLoud := goodIn_r _ [23, 18, 19, 5, 6, 7, 8, 9, 10, 11, 12, 37, 38, 39] (by decide +kernel) (by decide +kernel)
set_option maxRecDepth 20000 in
theorem gX5_felt_X3_setLoud : GoodIn wsX5_felt (wsV RX5 148 RX3 yX3_setLoud wsX3_setLoud) := goodIn_app (goodIn_of _ (by decide +kernel)) ggX5_felt_X3_setLoud
theorem dX5_felt_0 : decode cX5_felt 0 = .ok (.aload_n 0, 1) := by decide +kernel
theorem dX5_felt_1 : decode cX5_felt 1 = .ok (.getfield 23, 3) := by decide +kernel
theorem dX5_felt_4 : decode cX5_felt 4 = .ok (.getfield 86, 3) := by decide +kernel
theorem dX5_felt_7 : decode cX5_felt 7 = .ok (.iload_n 1, 1) := by decide +kernel
theorem dX5_felt_8 : decode cX5_felt 8 = .ok (.invokevirtual 142, 3) := by decide +kernel
theorem dX5_felt_11 : decode cX5_felt 11 = .ok (.ifCond .ne 6, 3) := by decide +kernel
theorem dX5_felt_14 : decode cX5_felt 14 = .ok (.bipush (-101), 2) := by decide +kernel
theorem dX5_felt_16 : decode cX5_felt 16 = .ok (.ireturn, 1) := by decide +kernel
theorem dX5_felt_17 : decode cX5_felt 17 = .ok (.iload_n 2, 1) := by decide +kernel
theorem dX5_felt_18 : decode cX5_felt 18 = .ok (.iconst 0, 1) := by decide +kernel
theorem dX5_felt_19 : decode cX5_felt 19 = .ok (.bipush 9, 2) := by decide +kernel
theorem dX5_felt_21 : decode cX5_felt 21 = .ok (.invokestatic 40, 3) := by decide +kernel
theorem dX5_felt_24 : decode cX5_felt 24 = .ok (.ifCond .ne 6, 3) := by decide +kernel
theorem dX5_felt_27 : decode cX5_felt 27 = .ok (.bipush (-102), 2) := by decide +kernel
theorem dX5_felt_29 : decode cX5_felt 29 = .ok (.ireturn, 1) := by decide +kernel
theorem dX5_felt_30 : decode cX5_felt 30 = .ok (.aload_n 0, 1) := by decide +kernel
theorem dX5_felt_31 : decode cX5_felt 31 = .ok (.getfield 23, 3) := by decide +kernel
theorem dX5_felt_34 : decode cX5_felt 34 = .ok (.getfield 86, 3) := by decide +kernel
theorem dX5_felt_37 : decode cX5_felt 37 = .ok (.iload_n 1, 1) := by decide +kernel
theorem dX5_felt_38 : decode cX5_felt 38 = .ok (.invokevirtual 145, 3) := by decide +kernel
theorem dX5_felt_41 : decode cX5_felt 41 = .ok (.istore_n 3, 1) := by decide +kernel
theorem dX5_felt_42 : decode cX5_felt 42 = .ok (.aload_n 0, 1) := by decide +kernel
theorem dX5_felt_43 : decode cX5_felt 43 = .ok (.getfield 23, 3) := by decide +kernel
theorem dX5_felt_46 : decode cX5_felt 46 = .ok (.getfield 86, 3) := by decide +kernel
theorem dX5_felt_49 : decode cX5_felt 49 = .ok (.iload_n 1, 1) := by decide +kernel
theorem dX5_felt_50 : decode cX5_felt 50 = .ok (.iload_n 2, 1) := by decide +kernel
theorem dX5_felt_51 : decode cX5_felt 51 = .ok (.invokevirtual 148, 3) := by decide +kernel
theorem dX5_felt_54 : decode cX5_felt 54 = .ok (.aload_n 0, 1) := by decide +kernel
theorem dX5_felt_55 : decode cX5_felt 55 = .ok (.getfield 23, 3) := by decide +kernel
theorem dX5_felt_58 : decode cX5_felt 58 = .ok (.dup, 1) := by decide +kernel
theorem dX5_felt_59 : decode cX5_felt 59 = .ok (.getfield 128, 3) := by decide +kernel
theorem dX5_felt_62 : decode cX5_felt 62 = .ok (.iconst 1, 1) := by decide +kernel
theorem dX5_felt_63 : decode cX5_felt 63 = .ok (.iadd, 1) := by decide +kernel
theorem dX5_felt_64 : decode cX5_felt 64 = .ok (.putfield 128, 3) := by decide +kernel
theorem dX5_felt_67 : decode cX5_felt 67 = .ok (.iload_n 3, 1) := by decide +kernel
theorem dX5_felt_68 : decode cX5_felt 68 = .ok (.ireturn, 1) := by decide +kernel
set_option maxRecDepth 20000 in
theorem ggX5_stroke_X3_has : GoodIn wsX5_stroke wsX3_has := goodIn_r _ [7, 8, 9, 10, 11, 42, 43, 44] (by decide +kernel) (by decide +kernel)
set_option maxRecDepth 20000 in
theorem gX5_stroke_X3_has : GoodIn wsX5_stroke (wsV RX5 142 RX3 yX3_has wsX3_has) := goodIn_app (goodIn_of _ (by decide +kernel)) ggX5_stroke_X3_has
set_option maxRecDepth 20000 in
theorem ggX5_stroke_X3_hour : GoodIn wsX5_stroke wsX3_hour := goodIn_r _ [15, 16, 17, 4, 5, 6, 7, 8, 9, 10, 11, 42, 43, 44] (by decide +kernel) (by decide +kernel)
set_option maxRecDepth 20000 in
theorem gX5_stroke_X3_hour : GoodIn wsX5_stroke (wsV RX5 151 RX3 yX3_hour wsX3_hour) := goodIn_app (goodIn_of _ (by decide +kernel)) ggX5_stroke_X3_hour
set_option maxRecDepth 20000 in
theorem ggX5_stroke_X3_loud : GoodIn wsX5_stroke wsX3_loud := goodIn_r _ [21, 22, 17, 4, 5, 6, 7, 8, 9, 10, 11, 42, 43, 44] (by decide +kernel) (by decide +kernel)
set_option maxRecDepth 20000 in
theorem gX5_stroke_X3_loud : GoodIn wsX5_stroke (wsV RX5 145 RX3 yX3_loud wsX3_loud) := goodIn_app (goodIn_of _ (by decide +kernel)) ggX5_stroke_X3_loud
set_option maxRecDepth 20000 in
theorem ggX5_stroke_X3_goneAt : GoodIn wsX5_stroke wsX3_goneAt := goodIn_r _ [26, 27, 13, 14, 6, 15, 16, 17, 4, 5, 7, 8, 9, 10, 11, 28, 19, 20, 21, 22, 42, 43, 44] (by decide +kernel) (by decide +kernel)
set_option maxRecDepth 20000 in
theorem gX5_stroke_X3_goneAt : GoodIn wsX5_stroke (wsV RX5 154 RX3 yX3_goneAt wsX3_goneAt) := goodIn_app (goodIn_of _ (by decide +kernel)) ggX5_stroke_X3_goneAt
theorem dX5_stroke_0 : decode cX5_stroke 0 = .ok (.aload_n 0, 1) := by decide +kernel
theorem dX5_stroke_1 : decode cX5_stroke 1 = .ok (.getfield 23, 3) := by decide +kernel
theorem dX5_stroke_4 : decode cX5_stroke 4 = .ok (.getfield 86, 3) := by decide +kernel
theorem dX5_stroke_7 : decode cX5_stroke 7 = .ok (.iload_n 1, 1) := by decide +kernel
theorem dX5_stroke_8 : decode cX5_stroke 8 = .ok (.invokevirtual 142, 3) := by decide +kernel
theorem dX5_stroke_11 : decode cX5_stroke 11 = .ok (.ifCond .ne 6, 3) := by decide +kernel
theorem dX5_stroke_14 : decode cX5_stroke 14 = .ok (.bipush (-101), 2) := by decide +kernel
theorem dX5_stroke_16 : decode cX5_stroke 16 = .ok (.ireturn, 1) := by decide +kernel
theorem dX5_stroke_17 : decode cX5_stroke 17 = .ok (.iload_n 2, 1) := by decide +kernel
theorem dX5_stroke_18 : decode cX5_stroke 18 = .ok (.tableswitch 62 0 2 #[26, 38, 50], 26) := by decide +kernel
theorem dX5_stroke_44 : decode cX5_stroke 44 = .ok (.aload_n 0, 1) := by decide +kernel
theorem dX5_stroke_45 : decode cX5_stroke 45 = .ok (.getfield 23, 3) := by decide +kernel
theorem dX5_stroke_48 : decode cX5_stroke 48 = .ok (.getfield 86, 3) := by decide +kernel
theorem dX5_stroke_51 : decode cX5_stroke 51 = .ok (.iload_n 1, 1) := by decide +kernel
theorem dX5_stroke_52 : decode cX5_stroke 52 = .ok (.invokevirtual 151, 3) := by decide +kernel
theorem dX5_stroke_55 : decode cX5_stroke 55 = .ok (.ireturn, 1) := by decide +kernel
theorem dX5_stroke_56 : decode cX5_stroke 56 = .ok (.aload_n 0, 1) := by decide +kernel
theorem dX5_stroke_57 : decode cX5_stroke 57 = .ok (.getfield 23, 3) := by decide +kernel
theorem dX5_stroke_60 : decode cX5_stroke 60 = .ok (.getfield 86, 3) := by decide +kernel
theorem dX5_stroke_63 : decode cX5_stroke 63 = .ok (.iload_n 1, 1) := by decide +kernel
theorem dX5_stroke_64 : decode cX5_stroke 64 = .ok (.invokevirtual 145, 3) := by decide +kernel
theorem dX5_stroke_67 : decode cX5_stroke 67 = .ok (.ireturn, 1) := by decide +kernel
theorem dX5_stroke_68 : decode cX5_stroke 68 = .ok (.aload_n 0, 1) := by decide +kernel
theorem dX5_stroke_69 : decode cX5_stroke 69 = .ok (.getfield 23, 3) := by decide +kernel
theorem dX5_stroke_72 : decode cX5_stroke 72 = .ok (.getfield 86, 3) := by decide +kernel
theorem dX5_stroke_75 : decode cX5_stroke 75 = .ok (.iload_n 1, 1) := by decide +kernel
theorem dX5_stroke_76 : decode cX5_stroke 76 = .ok (.invokevirtual 154, 3) := by decide +kernel
theorem dX5_stroke_79 : decode cX5_stroke 79 = .ok (.ireturn, 1) := by decide +kernel
theorem dX5_stroke_80 : decode cX5_stroke 80 = .ok (.bipush (-102), 2) := by decide +kernel
theorem dX5_stroke_82 : decode cX5_stroke 82 = .ok (.ireturn, 1) := by decide +kernel
set_option maxRecDepth 20000 in
theorem ggX5_dinner_X5_allHouses : GoodIn wsX5_dinner wsX5_allHouses := goodIn_r _ [5, 6, 85, 86, 87, 88, 89, 90, 91, 92, 93] (by decide +kernel) (by decide +kernel)
set_option maxRecDepth 20000 in
theorem gX5_dinner_X5_allHouses : GoodIn wsX5_dinner (wsV RX5 157 RX5 yX5_allHouses wsX5_allHouses) := goodIn_app (goodIn_of _ (by decide +kernel)) ggX5_dinner_X5_allHouses
set_option maxRecDepth 20000 in
theorem ggX5_dinner_X5_isWithin : GoodIn wsX5_dinner wsX5_isWithin := goodIn_r _ [9] (by decide +kernel) (by decide +kernel)
set_option maxRecDepth 20000 in
theorem gX5_dinner_X5_isWithin : GoodIn wsX5_dinner (va_wsS RX5 40 yX5_isWithin wsX5_isWithin) := goodIn_app (goodIn_of _ (by decide +kernel)) ggX5_dinner_X5_isWithin
set_option maxRecDepth 20000 in
theorem ggX5_dinner_X5_tideNow : GoodIn wsX5_dinner wsX5_tideNow := goodIn_r _ [13, 14, 15, 16, 17, 18, 19, 20, 21, 22, 23, 24, 25, 26, 27, 28, 29, 30, 31, 32, 33, 34, 35, 36, 37, 8, 4, 9, 38, 39, 40, 41, 42, 43, 44, 45, 46, 47, 48, 49, 50, 85, 86, 87, 88, 89, 90, 91, 92, 93, 94, 95, 96, 97, 98, 99, 100, 101] (by decide +kernel) (by decide +kernel)
set_option maxRecDepth 20000 in
theorem gX5_dinner_X5_tideNow : GoodIn wsX5_dinner (wsV RX5 106 RX5 yX5_tideNow wsX5_tideNow) := goodIn_app (goodIn_of _ (by decide +kernel)) ggX5_dinner_X5_tideNow
set_option maxRecDepth 20000 in
theorem ggX5_dinner_X5_canDine : GoodIn wsX5_dinner wsX5_canDine := goodIn_r _ [54, 6, 55, 56, 57, 4, 58, 15, 59, 48, 49, 50, 60, 61, 62, 63, 64, 65, 66, 67, 68, 8, 9, 69, 70, 71, 72, 73, 7, 74, 75, 76, 20, 77, 22, 78, 79, 80, 81, 82, 83, 84, 85, 86, 87, 88, 89, 90, 91, 92, 93, 94, 95, 96, 97, 98] (by decide +kernel) (by decide +kernel)
set_option maxRecDepth 20000 in
theorem gX5_dinner_X5_canDine : GoodIn wsX5_dinner (wsV RX5 160 RX5 yX5_canDine wsX5_canDine) := goodIn_app (goodIn_of _ (by decide +kernel)) ggX5_dinner_X5_canDine
theorem dX5_dinner_0 : decode cX5_dinner 0 = .ok (.iload_n 1, 1) := by decide +kernel
theorem dX5_dinner_1 : decode cX5_dinner 1 = .ok (.iconst 1, 1) := by decide +kernel
theorem dX5_dinner_2 : decode cX5_dinner 2 = .ok (.aload_n 0, 1) := by decide +kernel
theorem dX5_dinner_3 : decode cX5_dinner 3 = .ok (.invokevirtual 157, 3) := by decide +kernel
theorem dX5_dinner_6 : decode cX5_dinner 6 = .ok (.invokestatic 40, 3) := by decide +kernel
theorem dX5_dinner_9 : decode cX5_dinner 9 = .ok (.ifCond .eq 13, 3) := by decide +kernel
theorem dX5_dinner_12 : decode cX5_dinner 12 = .ok (.iload_n 2, 1) := by decide +kernel
theorem dX5_dinner_13 : decode cX5_dinner 13 = .ok (.iconst 1, 1) := by decide +kernel
theorem dX5_dinner_14 : decode cX5_dinner 14 = .ok (.bipush 6, 2) := by decide +kernel
theorem dX5_dinner_16 : decode cX5_dinner 16 = .ok (.invokestatic 40, 3) := by decide +kernel
theorem dX5_dinner_19 : decode cX5_dinner 19 = .ok (.ifCond .ne 6, 3) := by decide +kernel
theorem dX5_dinner_22 : decode cX5_dinner 22 = .ok (.bipush (-102), 2) := by decide +kernel
theorem dX5_dinner_24 : decode cX5_dinner 24 = .ok (.ireturn, 1) := by decide +kernel
theorem dX5_dinner_25 : decode cX5_dinner 25 = .ok (.aload_n 0, 1) := by decide +kernel
theorem dX5_dinner_26 : decode cX5_dinner 26 = .ok (.invokevirtual 106, 3) := by decide +kernel
theorem dX5_dinner_29 : decode cX5_dinner 29 = .ok (.astore_n 3, 1) := by decide +kernel
theorem dX5_dinner_30 : decode cX5_dinner 30 = .ok (.iconst 0, 1) := by decide +kernel
theorem dX5_dinner_31 : decode cX5_dinner 31 = .ok (.istore 4, 2) := by decide +kernel
theorem dX5_dinner_33 : decode cX5_dinner 33 = .ok (.iload 4, 2) := by decide +kernel
theorem dX5_dinner_35 : decode cX5_dinner 35 = .ok (.iload_n 2, 1) := by decide +kernel
theorem dX5_dinner_36 : decode cX5_dinner 36 = .ok (.iadd, 1) := by decide +kernel
theorem dX5_dinner_37 : decode cX5_dinner 37 = .ok (.bipush 12, 2) := by decide +kernel
theorem dX5_dinner_39 : decode cX5_dinner 39 = .ok (.if_icmp .gt 27, 3) := by decide +kernel
theorem dX5_dinner_42 : decode cX5_dinner 42 = .ok (.aload_n 0, 1) := by decide +kernel
theorem dX5_dinner_43 : decode cX5_dinner 43 = .ok (.iload_n 1, 1) := by decide +kernel
theorem dX5_dinner_44 : decode cX5_dinner 44 = .ok (.aload_n 3, 1) := by decide +kernel
theorem dX5_dinner_45 : decode cX5_dinner 45 = .ok (.iload 4, 2) := by decide +kernel
theorem dX5_dinner_47 : decode cX5_dinner 47 = .ok (.iload 4, 2) := by decide +kernel
theorem dX5_dinner_49 : decode cX5_dinner 49 = .ok (.iload_n 2, 1) := by decide +kernel
theorem dX5_dinner_50 : decode cX5_dinner 50 = .ok (.iadd, 1) := by decide +kernel
theorem dX5_dinner_51 : decode cX5_dinner 51 = .ok (.invokevirtual 160, 3) := by decide +kernel
theorem dX5_dinner_54 : decode cX5_dinner 54 = .ok (.ifCond .eq 6, 3) := by decide +kernel
theorem dX5_dinner_57 : decode cX5_dinner 57 = .ok (.iload 4, 2) := by decide +kernel
theorem dX5_dinner_59 : decode cX5_dinner 59 = .ok (.ireturn, 1) := by decide +kernel
theorem dX5_dinner_60 : decode cX5_dinner 60 = .ok (.iinc 4 1, 3) := by decide +kernel
theorem dX5_dinner_63 : decode cX5_dinner 63 = .ok (.goto (-30), 3) := by decide +kernel
theorem dX5_dinner_66 : decode cX5_dinner 66 = .ok (.iconst (-1), 1) := by decide +kernel
theorem dX5_dinner_67 : decode cX5_dinner 67 = .ok (.ireturn, 1) := by decide +kernel
set_option maxRecDepth 20000 in
theorem ggX5_best_X5_isHeardLoud : GoodIn wsX5_best wsX5_isHeardLoud := goodIn_r _ [5, 6, 7, 4, 8] (by decide +kernel) (by decide +kernel)
set_option maxRecDepth 20000 in
theorem gX5_best_X5_isHeardLoud : GoodIn wsX5_best (va_wsS RX5 138 yX5_isHeardLoud wsX5_isHeardLoud) := goodIn_app (goodIn_of _ (by decide +kernel)) ggX5_best_X5_isHeardLoud
set_option maxRecDepth 20000 in
theorem ggX5_best_X5_isWithin : GoodIn wsX5_best wsX5_isWithin := goodIn_r _ [8] (by decide +kernel) (by decide +kernel)
set_option maxRecDepth 20000 in
theorem gX5_best_X5_isWithin : GoodIn wsX5_best (va_wsS RX5 40 yX5_isWithin wsX5_isWithin) := goodIn_app (goodIn_of _ (by decide +kernel)) ggX5_best_X5_isWithin
set_option maxRecDepth 20000 in
theorem ggX5_best_X5_hasColony : GoodIn wsX5_best wsX5_hasColony := goodIn_r _ [12, 1, 101, 102, 103, 104, 105, 106, 107, 108, 109] (by decide +kernel) (by decide +kernel)
set_option maxRecDepth 20000 in
theorem gX5_best_X5_hasColony : GoodIn wsX5_best (wsV RX5 134 RX5 yX5_hasColony wsX5_hasColony) := goodIn_app (goodIn_of _ (by decide +kernel)) ggX5_best_X5_hasColony
set_option maxRecDepth 20000 in
theorem ggX5_best_X5_tideNow : GoodIn wsX5_best wsX5_tideNow := goodIn_r _ [16, 17, 18, 19, 20, 21, 22, 23, 24, 25, 26, 27, 28, 29, 30, 31, 32, 33, 34, 35, 36, 37, 38, 39, 40, 7, 4, 8, 41, 42, 43, 44, 45, 46, 47, 48, 49, 50, 51, 52, 53, 101, 102, 103, 104, 105, 106, 107, 108, 109, 110, 111, 112, 113, 114, 115, 116, 117] (by decide +kernel) (by decide +kernel)
set_option maxRecDepth 20000 in
theorem gX5_best_X5_tideNow : GoodIn wsX5_best (wsV RX5 106 RX5 yX5_tideNow wsX5_tideNow) := goodIn_app (goodIn_of _ (by decide +kernel)) ggX5_best_X5_tideNow
set_option maxRecDepth 20000 in
theorem ggX5_best_X5_suppose : GoodIn wsX5_best wsX5_suppose := goodIn_r _ [57, 58, 59, 60, 61, 23, 62, 25, 46, 47, 48, 49, 50, 51, 52, 53, 101, 102, 103, 104, 105, 106, 107, 108, 109, 114] (by decide +kernel) (by decide +kernel)
set_option maxRecDepth 20000 in
theorem gX5_best_X5_suppose : GoodIn wsX5_best (wsV RX5 164 RX5 yX5_suppose wsX5_suppose) := goodIn_app (goodIn_of _ (by decide +kernel)) ggX5_best_X5_suppose
set_option maxRecDepth 20000 in
theorem ggX5_best_X5_hoursOfAll : GoodIn wsX5_best wsX5_hoursOfAll := goodIn_r _ [66, 1, 67, 68, 69, 4, 70, 71, 72, 73, 74, 18, 75, 51, 52, 53, 76, 77, 78, 79, 80, 81, 82, 83, 84, 7, 8, 85, 86, 87, 88, 89, 6, 90, 91, 92, 23, 93, 25, 94, 95, 96, 97, 98, 99, 100, 101, 102, 103, 104, 105, 106, 107, 108, 109, 110, 111, 112, 113, 114] (by decide +kernel) (by decide +kernel)
set_option maxRecDepth 20000 in
theorem gX5_best_X5_hoursOfAll : GoodIn wsX5_best (wsV RX5 168 RX5 yX5_hoursOfAll wsX5_hoursOfAll) := goodIn_app (goodIn_of _ (by decide +kernel)) ggX5_best_X5_hoursOfAll
theorem dX5_best_0 : decode cX5_best 0 = .ok (.iload_n 1, 1) := by decide +kernel
theorem dX5_best_1 : decode cX5_best 1 = .ok (.invokestatic 138, 3) := by decide +kernel
theorem dX5_best_4 : decode cX5_best 4 = .ok (.ifCond .eq 12, 3) := by decide +kernel
theorem dX5_best_7 : decode cX5_best 7 = .ok (.iload_n 2, 1) := by decide +kernel
theorem dX5_best_8 : decode cX5_best 8 = .ok (.iconst 0, 1) := by decide +kernel
theorem dX5_best_9 : decode cX5_best 9 = .ok (.iconst 1, 1) := by decide +kernel
theorem dX5_best_10 : decode cX5_best 10 = .ok (.invokestatic 40, 3) := by decide +kernel
theorem dX5_best_13 : decode cX5_best 13 = .ok (.ifCond .ne 6, 3) := by decide +kernel
theorem dX5_best_16 : decode cX5_best 16 = .ok (.bipush (-102), 2) := by decide +kernel
theorem dX5_best_18 : decode cX5_best 18 = .ok (.ireturn, 1) := by decide +kernel
theorem dX5_best_19 : decode cX5_best 19 = .ok (.aload_n 0, 1) := by decide +kernel
theorem dX5_best_20 : decode cX5_best 20 = .ok (.invokevirtual 134, 3) := by decide +kernel
theorem dX5_best_23 : decode cX5_best 23 = .ok (.ifCond .ne 6, 3) := by decide +kernel
theorem dX5_best_26 : decode cX5_best 26 = .ok (.bipush (-103), 2) := by decide +kernel
theorem dX5_best_28 : decode cX5_best 28 = .ok (.ireturn, 1) := by decide +kernel
theorem dX5_best_29 : decode cX5_best 29 = .ok (.aload_n 0, 1) := by decide +kernel
theorem dX5_best_30 : decode cX5_best 30 = .ok (.invokevirtual 106, 3) := by decide +kernel
theorem dX5_best_33 : decode cX5_best 33 = .ok (.astore_n 3, 1) := by decide +kernel
theorem dX5_best_34 : decode cX5_best 34 = .ok (.iconst (-1), 1) := by decide +kernel
theorem dX5_best_35 : decode cX5_best 35 = .ok (.istore 4, 2) := by decide +kernel
theorem dX5_best_37 : decode cX5_best 37 = .ok (.iconst (-1), 1) := by decide +kernel
theorem dX5_best_38 : decode cX5_best 38 = .ok (.istore 5, 2) := by decide +kernel
theorem dX5_best_40 : decode cX5_best 40 = .ok (.iconst 0, 1) := by decide +kernel
theorem dX5_best_41 : decode cX5_best 41 = .ok (.istore 6, 2) := by decide +kernel
theorem dX5_best_43 : decode cX5_best 43 = .ok (.iload 6, 2) := by decide +kernel
theorem dX5_best_45 : decode cX5_best 45 = .ok (.bipush 10, 2) := by decide +kernel
theorem dX5_best_47 : decode cX5_best 47 = .ok (.if_icmp .ge 47, 3) := by decide +kernel
theorem dX5_best_50 : decode cX5_best 50 = .ok (.bipush 12, 2) := by decide +kernel
theorem dX5_best_52 : decode cX5_best 52 = .ok (.aload_n 0, 1) := by decide +kernel
theorem dX5_best_53 : decode cX5_best 53 = .ok (.getfield 65, 3) := by decide +kernel
theorem dX5_best_56 : decode cX5_best 56 = .ok (.imul, 1) := by decide +kernel
theorem dX5_best_57 : decode cX5_best 57 = .ok (.aload_n 0, 1) := by decide +kernel
theorem dX5_best_58 : decode cX5_best 58 = .ok (.iconst 0, 1) := by decide +kernel
theorem dX5_best_59 : decode cX5_best 59 = .ok (.aload_n 0, 1) := by decide +kernel
theorem dX5_best_60 : decode cX5_best 60 = .ok (.aload_n 3, 1) := by decide +kernel
theorem dX5_best_61 : decode cX5_best 61 = .ok (.iload 6, 2) := by decide +kernel
theorem dX5_best_63 : decode cX5_best 63 = .ok (.iload_n 1, 1) := by decide +kernel
theorem dX5_best_64 : decode cX5_best 64 = .ok (.invokevirtual 164, 3) := by decide +kernel
theorem dX5_best_67 : decode cX5_best 67 = .ok (.invokevirtual 168, 3) := by decide +kernel
theorem dX5_best_70 : decode cX5_best 70 = .ok (.isub, 1) := by decide +kernel
theorem dX5_best_71 : decode cX5_best 71 = .ok (.istore 7, 2) := by decide +kernel
theorem dX5_best_73 : decode cX5_best 73 = .ok (.iload 7, 2) := by decide +kernel
theorem dX5_best_75 : decode cX5_best 75 = .ok (.iload 5, 2) := by decide +kernel
theorem dX5_best_77 : decode cX5_best 77 = .ok (.if_icmp .le 11, 3) := by decide +kernel
theorem dX5_best_80 : decode cX5_best 80 = .ok (.iload 7, 2) := by decide +kernel
theorem dX5_best_82 : decode cX5_best 82 = .ok (.istore 5, 2) := by decide +kernel
theorem dX5_best_84 : decode cX5_best 84 = .ok (.iload 6, 2) := by decide +kernel
theorem dX5_best_86 : decode cX5_best 86 = .ok (.istore 4, 2) := by decide +kernel
theorem dX5_best_88 : decode cX5_best 88 = .ok (.iinc 6 1, 3) := by decide +kernel
theorem dX5_best_91 : decode cX5_best 91 = .ok (.goto (-48), 3) := by decide +kernel
theorem dX5_best_94 : decode cX5_best 94 = .ok (.iload_n 2, 1) := by decide +kernel
theorem dX5_best_95 : decode cX5_best 95 = .ok (.ifCond .ne 8, 3) := by decide +kernel
theorem dX5_best_98 : decode cX5_best 98 = .ok (.iload 4, 2) := by decide +kernel
theorem dX5_best_100 : decode cX5_best 100 = .ok (.goto 5, 3) := by decide +kernel
theorem dX5_best_103 : decode cX5_best 103 = .ok (.iload 5, 2) := by decide +kernel
theorem dX5_best_105 : decode cX5_best 105 = .ok (.ireturn, 1) := by decide +kernel
set_option maxRecDepth 20000 in
theorem ggX5_hear_X5_isHouse : GoodIn wsX5_hear wsX5_isHouse := goodIn_r _ [7, 8, 9, 10, 6, 11, 32, 33, 34, 35, 36, 37, 38, 39, 40] (by decide +kernel) (by decide +kernel)
set_option maxRecDepth 20000 in
theorem gX5_hear_X5_isHouse : GoodIn wsX5_hear (wsV RX5 103 RX5 yX5_isHouse wsX5_isHouse) := goodIn_app (goodIn_of _ (by decide +kernel)) ggX5_hear_X5_isHouse
set_option maxRecDepth 20000 in
theorem ggX5_hear_X5_isHourOfDay : GoodIn wsX5_hear wsX5_isHourOfDay := goodIn_r _ [14, 9, 10, 6, 11] (by decide +kernel) (by decide +kernel)
set_option maxRecDepth 20000 in
theorem gX5_hear_X5_isHourOfDay : GoodIn wsX5_hear (va_wsS RX5 131 yX5_isHourOfDay wsX5_isHourOfDay) := goodIn_app (goodIn_of _ (by decide +kernel)) ggX5_hear_X5_isHourOfDay
set_option maxRecDepth 20000 in
theorem ggX5_hear_X5_isHeardLoud : GoodIn wsX5_hear wsX5_isHeardLoud := goodIn_r _ [17, 9, 10, 6, 11] (by decide +kernel) (by decide +kernel)
set_option maxRecDepth 20000 in
theorem gX5_hear_X5_isHeardLoud : GoodIn wsX5_hear (va_wsS RX5 138 yX5_isHeardLoud wsX5_isHeardLoud) := goodIn_app (goodIn_of _ (by decide +kernel)) ggX5_hear_X5_isHeardLoud
set_option maxRecDepth 20000 in
theorem ggX5_hear_X5_isWithin : GoodIn wsX5_hear wsX5_isWithin := goodIn_r _ [11] (by decide +kernel) (by decide +kernel)
set_option maxRecDepth 20000 in
theorem gX5_hear_X5_isWithin : GoodIn wsX5_hear (va_wsS RX5 40 yX5_isWithin wsX5_isWithin) := goodIn_app (goodIn_of _ (by decide +kernel)) ggX5_hear_X5_isWithin
set_option maxRecDepth 20000 in
theorem ggX5_hear_X1_add : GoodIn wsX5_hear wsX1_add := goodIn_r _ [22, 23, 24, 25, 26, 27, 45, 46, 47, 48, 49] (by decide +kernel) (by decide +kernel)
set_option maxRecDepth 20000 in
theorem gX5_hear_X1_add : GoodIn wsX5_hear (wsV RX5 175 RX1 yX1_add wsX1_add) := goodIn_app (goodIn_of _ (by decide +kernel)) ggX5_hear_X1_add
set_option maxRecDepth 20000 in
theorem ggX5_hear_X1_size : GoodIn wsX5_hear wsX1_size := goodIn_r _ [31, 23, 45, 46, 47, 48, 49] (by decide +kernel) (by decide +kernel)
set_option maxRecDepth 20000 in
theorem gX5_hear_X1_size : GoodIn wsX5_hear (wsV RX5 180 RX1 yX1_size wsX1_size) := goodIn_app (goodIn_of _ (by decide +kernel)) ggX5_hear_X1_size
theorem dX5_hear_0 : decode cX5_hear 0 = .ok (.aload_n 0, 1) := by decide +kernel
theorem dX5_hear_1 : decode cX5_hear 1 = .ok (.iload_n 1, 1) := by decide +kernel
theorem dX5_hear_2 : decode cX5_hear 2 = .ok (.invokevirtual 103, 3) := by decide +kernel
theorem dX5_hear_5 : decode cX5_hear 5 = .ok (.ifCond .ne 6, 3) := by decide +kernel
theorem dX5_hear_8 : decode cX5_hear 8 = .ok (.bipush (-101), 2) := by decide +kernel
theorem dX5_hear_10 : decode cX5_hear 10 = .ok (.ireturn, 1) := by decide +kernel
theorem dX5_hear_11 : decode cX5_hear 11 = .ok (.iload_n 2, 1) := by decide +kernel
theorem dX5_hear_12 : decode cX5_hear 12 = .ok (.invokestatic 131, 3) := by decide +kernel
theorem dX5_hear_15 : decode cX5_hear 15 = .ok (.ifCond .eq 20, 3) := by decide +kernel
theorem dX5_hear_18 : decode cX5_hear 18 = .ok (.iload_n 3, 1) := by decide +kernel
theorem dX5_hear_19 : decode cX5_hear 19 = .ok (.invokestatic 138, 3) := by decide +kernel
theorem dX5_hear_22 : decode cX5_hear 22 = .ok (.ifCond .eq 13, 3) := by decide +kernel
theorem dX5_hear_25 : decode cX5_hear 25 = .ok (.iload 4, 2) := by decide +kernel
theorem dX5_hear_27 : decode cX5_hear 27 = .ok (.iconst 0, 1) := by decide +kernel
theorem dX5_hear_28 : decode cX5_hear 28 = .ok (.iconst 2, 1) := by decide +kernel
theorem dX5_hear_29 : decode cX5_hear 29 = .ok (.invokestatic 40, 3) := by decide +kernel
theorem dX5_hear_32 : decode cX5_hear 32 = .ok (.ifCond .ne 6, 3) := by decide +kernel
theorem dX5_hear_35 : decode cX5_hear 35 = .ok (.bipush (-102), 2) := by decide +kernel
theorem dX5_hear_37 : decode cX5_hear 37 = .ok (.ireturn, 1) := by decide +kernel
theorem dX5_hear_38 : decode cX5_hear 38 = .ok (.aload_n 0, 1) := by decide +kernel
theorem dX5_hear_39 : decode cX5_hear 39 = .ok (.getfield 23, 3) := by decide +kernel
theorem dX5_hear_42 : decode cX5_hear 42 = .ok (.getfield 171, 3) := by decide +kernel
theorem dX5_hear_45 : decode cX5_hear 45 = .ok (.iload_n 1, 1) := by decide +kernel
theorem dX5_hear_46 : decode cX5_hear 46 = .ok (.iload_n 2, 1) := by decide +kernel
theorem dX5_hear_47 : decode cX5_hear 47 = .ok (.iload_n 3, 1) := by decide +kernel
theorem dX5_hear_48 : decode cX5_hear 48 = .ok (.iload 4, 2) := by decide +kernel
theorem dX5_hear_50 : decode cX5_hear 50 = .ok (.invokevirtual 175, 3) := by decide +kernel
theorem dX5_hear_53 : decode cX5_hear 53 = .ok (.ifCond .eq 16, 3) := by decide +kernel
theorem dX5_hear_56 : decode cX5_hear 56 = .ok (.aload_n 0, 1) := by decide +kernel
theorem dX5_hear_57 : decode cX5_hear 57 = .ok (.getfield 23, 3) := by decide +kernel
theorem dX5_hear_60 : decode cX5_hear 60 = .ok (.getfield 171, 3) := by decide +kernel
theorem dX5_hear_63 : decode cX5_hear 63 = .ok (.invokevirtual 180, 3) := by decide +kernel
theorem dX5_hear_66 : decode cX5_hear 66 = .ok (.goto 5, 3) := by decide +kernel
theorem dX5_hear_69 : decode cX5_hear 69 = .ok (.bipush (-104), 2) := by decide +kernel
theorem dX5_hear_71 : decode cX5_hear 71 = .ok (.ireturn, 1) := by decide +kernel
set_option maxRecDepth 20000 in
theorem ggX5_forget_X1_clear : GoodIn wsX5_forget wsX1_clear := goodIn_r _ [7, 8, 22, 23, 24, 25, 26] (by decide +kernel) (by decide +kernel)
set_option maxRecDepth 20000 in
theorem gX5_forget_X1_clear : GoodIn wsX5_forget (wsV RX5 181 RX1 yX1_clear wsX1_clear) := goodIn_app (goodIn_of _ (by decide +kernel)) ggX5_forget_X1_clear
theorem dX5_forget_0 : decode cX5_forget 0 = .ok (.aload_n 0, 1) := by decide +kernel
theorem dX5_forget_1 : decode cX5_forget 1 = .ok (.getfield 23, 3) := by decide +kernel
theorem dX5_forget_4 : decode cX5_forget 4 = .ok (.getfield 171, 3) := by decide +kernel
theorem dX5_forget_7 : decode cX5_forget 7 = .ok (.invokevirtual 181, 3) := by decide +kernel
theorem dX5_forget_10 : decode cX5_forget 10 = .ok (.ireturn, 1) := by decide +kernel
set_option maxRecDepth 20000 in
theorem ggX5_hours_X5_hasColony : GoodIn wsX5_hours wsX5_hasColony := goodIn_r _ [5, 6, 125, 126, 127, 128, 129, 130, 131, 132, 133] (by decide +kernel) (by decide +kernel)
set_option maxRecDepth 20000 in
theorem gX5_hours_X5_hasColony : GoodIn wsX5_hours (wsV RX5 134 RX5 yX5_hasColony wsX5_hasColony) := goodIn_app (goodIn_of _ (by decide +kernel)) ggX5_hours_X5_hasColony
set_option maxRecDepth 20000 in
theorem ggX5_hours_X5_tideNow : GoodIn wsX5_hours wsX5_tideNow := goodIn_r _ [10, 11, 12, 13, 14, 15, 16, 17, 18, 19, 20, 21, 22, 23, 24, 25, 26, 27, 28, 29, 30, 31, 32, 33, 34, 35, 4, 36, 37, 38, 39, 40, 41, 42, 43, 44, 45, 46, 47, 48, 49, 125, 126, 127, 128, 129, 130, 131, 132, 133, 134, 135, 136, 137, 138, 139, 140, 141] (by decide +kernel) (by decide +kernel)
set_option maxRecDepth 20000 in
theorem gX5_hours_X5_tideNow : GoodIn wsX5_hours (wsV RX5 106 RX5 yX5_tideNow wsX5_tideNow) := goodIn_app (goodIn_of _ (by decide +kernel)) ggX5_hours_X5_tideNow
set_option maxRecDepth 20000 in
theorem ggX5_hours_X5_agreesWithHeard : GoodIn wsX5_hours wsX5_agreesWithHeard := goodIn_r _ [53, 12, 54, 55, 56, 57, 58, 59, 60, 61, 62, 63, 64, 65, 66, 67, 68, 69, 35, 4, 36, 70, 71, 72, 73, 74, 75, 76, 77, 17, 78, 19, 42, 43, 44, 45, 46, 47, 48, 49, 79, 80, 81, 82, 83, 84, 85, 86, 87, 88, 89, 90, 91, 92, 93, 94, 95, 96, 97, 98, 99, 100, 101, 102, 103, 104, 105, 106, 107, 108, 109, 110, 111, 112, 113, 114, 115, 116, 117, 118, 119, 120, 121, 122, 123, 124, 125, 126, 127, 128, 129, 130, 131, 132, 133, 134, 135, 136, 137, 142, 143, 144, 145, 146, 138] (by decide +kernel) (by decide +kernel)
set_option maxRecDepth 20000 in
theorem gX5_hours_X5_agreesWithHeard : GoodIn wsX5_hours (wsV RX5 183 RX5 yX5_agreesWithHeard wsX5_agreesWithHeard) := goodIn_app (goodIn_of _ (by decide +kernel)) ggX5_hours_X5_agreesWithHeard
theorem dX5_hours_0 : decode cX5_hours 0 = .ok (.aload_n 0, 1) := by decide +kernel
theorem dX5_hours_1 : decode cX5_hours 1 = .ok (.invokevirtual 134, 3) := by decide +kernel
theorem dX5_hours_4 : decode cX5_hours 4 = .ok (.ifCond .ne 6, 3) := by decide +kernel
theorem dX5_hours_7 : decode cX5_hours 7 = .ok (.bipush (-103), 2) := by decide +kernel
theorem dX5_hours_9 : decode cX5_hours 9 = .ok (.ireturn, 1) := by decide +kernel
theorem dX5_hours_10 : decode cX5_hours 10 = .ok (.aload_n 0, 1) := by decide +kernel
theorem dX5_hours_11 : decode cX5_hours 11 = .ok (.invokevirtual 106, 3) := by decide +kernel
theorem dX5_hours_14 : decode cX5_hours 14 = .ok (.astore_n 1, 1) := by decide +kernel
theorem dX5_hours_15 : decode cX5_hours 15 = .ok (.iconst 0, 1) := by decide +kernel
theorem dX5_hours_16 : decode cX5_hours 16 = .ok (.istore_n 2, 1) := by decide +kernel
theorem dX5_hours_17 : decode cX5_hours 17 = .ok (.iconst 0, 1) := by decide +kernel
theorem dX5_hours_18 : decode cX5_hours 18 = .ok (.istore_n 3, 1) := by decide +kernel
theorem dX5_hours_19 : decode cX5_hours 19 = .ok (.iload_n 3, 1) := by decide +kernel
theorem dX5_hours_20 : decode cX5_hours 20 = .ok (.bipush 10, 2) := by decide +kernel
theorem dX5_hours_22 : decode cX5_hours 22 = .ok (.if_icmp .ge 24, 3) := by decide +kernel
theorem dX5_hours_25 : decode cX5_hours 25 = .ok (.aload_n 0, 1) := by decide +kernel
theorem dX5_hours_26 : decode cX5_hours 26 = .ok (.aload_n 1, 1) := by decide +kernel
theorem dX5_hours_27 : decode cX5_hours 27 = .ok (.iload_n 3, 1) := by decide +kernel
theorem dX5_hours_28 : decode cX5_hours 28 = .ok (.invokevirtual 183, 3) := by decide +kernel
theorem dX5_hours_31 : decode cX5_hours 31 = .ok (.ifCond .eq 9, 3) := by decide +kernel
theorem dX5_hours_34 : decode cX5_hours 34 = .ok (.iload_n 2, 1) := by decide +kernel
theorem dX5_hours_35 : decode cX5_hours 35 = .ok (.iconst 1, 1) := by decide +kernel
theorem dX5_hours_36 : decode cX5_hours 36 = .ok (.iload_n 3, 1) := by decide +kernel
theorem dX5_hours_37 : decode cX5_hours 37 = .ok (.ishl, 1) := by decide +kernel
theorem dX5_hours_38 : decode cX5_hours 38 = .ok (.ior, 1) := by decide +kernel
theorem dX5_hours_39 : decode cX5_hours 39 = .ok (.istore_n 2, 1) := by decide +kernel
theorem dX5_hours_40 : decode cX5_hours 40 = .ok (.iinc 3 1, 3) := by decide +kernel
theorem dX5_hours_43 : decode cX5_hours 43 = .ok (.goto (-24), 3) := by decide +kernel
theorem dX5_hours_46 : decode cX5_hours 46 = .ok (.iload_n 2, 1) := by decide +kernel
theorem dX5_hours_47 : decode cX5_hours 47 = .ok (.ireturn, 1) := by decide +kernel
set_option maxRecDepth 20000 in
theorem ggX5_ask_X5_isHourOfDay : GoodIn wsX5_ask wsX5_isHourOfDay := goodIn_r _ [7, 8, 9, 6, 10] (by decide +kernel) (by decide +kernel)
set_option maxRecDepth 20000 in
theorem gX5_ask_X5_isHourOfDay : GoodIn wsX5_ask (va_wsS RX5 131 yX5_isHourOfDay wsX5_isHourOfDay) := goodIn_app (goodIn_of _ (by decide +kernel)) ggX5_ask_X5_isHourOfDay
set_option maxRecDepth 20000 in
theorem ggX5_ask_X5_hasColony : GoodIn wsX5_ask wsX5_hasColony := goodIn_r _ [14, 3, 141, 142, 143, 144, 145, 146, 147, 148, 149] (by decide +kernel) (by decide +kernel)
set_option maxRecDepth 20000 in
theorem gX5_ask_X5_hasColony : GoodIn wsX5_ask (wsV RX5 134 RX5 yX5_hasColony wsX5_hasColony) := goodIn_app (goodIn_of _ (by decide +kernel)) ggX5_ask_X5_hasColony
set_option maxRecDepth 20000 in
theorem ggX5_ask_X5_hours : GoodIn wsX5_ask wsX5_hours := goodIn_r _ [18, 11, 12, 13, 6, 14, 3, 19, 20, 21, 22, 23, 1, 24, 25, 26, 27, 28, 29, 30, 31, 32, 33, 34, 35, 36, 37, 38, 39, 40, 41, 42, 43, 44, 45, 9, 10, 46, 47, 48, 49, 50, 51, 52, 53, 54, 55, 56, 57, 58, 59, 60, 61, 62, 2, 63, 64, 65, 66, 67, 68, 69, 70, 71, 72, 73, 74, 75, 76, 77, 78, 79, 80, 81, 82, 83, 84, 85, 86, 87, 88, 89, 90, 91, 92, 93, 94, 95, 96, 97, 98, 99, 100, 101, 102, 103, 104, 105, 106, 107, 108, 109, 110, 111, 112, 113, 114, 115, 8, 116, 117, 118, 119, 120, 121, 122, 123, 124, 125, 126, 127, 128, 129, 130, 131, 141, 142, 143, 144, 145, 146, 147, 148, 149, 150, 151, 152, 153, 154, 155, 156, 157, 158, 159, 160, 161, 162] (by decide +kernel) (by decide +kernel)
set_option maxRecDepth 20000 in
theorem gX5_ask_X5_hours : GoodIn wsX5_ask (wsV RX5 187 RX5 yX5_hours wsX5_hours) := goodIn_app (goodIn_of _ (by decide +kernel)) ggX5_ask_X5_hours
set_option maxRecDepth 20000 in
theorem ggX5_ask_X1_size : GoodIn wsX5_ask wsX1_size := goodIn_r _ [67, 68, 158, 159, 160, 161, 162] (by decide +kernel) (by decide +kernel)
set_option maxRecDepth 20000 in
theorem gX5_ask_X1_size : GoodIn wsX5_ask (wsV RX5 180 RX1 yX1_size wsX1_size) := goodIn_app (goodIn_of _ (by decide +kernel)) ggX5_ask_X1_size
set_option maxRecDepth 20000 in
theorem ggX5_ask_X5_tideNow : GoodIn wsX5_ask wsX5_tideNow := goodIn_r _ [22, 23, 1, 24, 25, 26, 27, 28, 29, 30, 31, 32, 33, 34, 35, 36, 37, 38, 39, 40, 41, 42, 43, 44, 45, 9, 6, 10, 46, 47, 48, 49, 50, 51, 52, 53, 54, 55, 56, 57, 58, 141, 142, 143, 144, 145, 146, 147, 148, 149, 150, 151, 152, 153, 154, 155, 156, 157] (by decide +kernel) (by decide +kernel)
set_option maxRecDepth 20000 in
theorem gX5_ask_X5_tideNow : GoodIn wsX5_ask (wsV RX5 106 RX5 yX5_tideNow wsX5_tideNow) := goodIn_app (goodIn_of _ (by decide +kernel)) ggX5_ask_X5_tideNow
set_option maxRecDepth 20000 in
theorem ggX5_ask_X5_mostLeft : GoodIn wsX5_ask wsX5_mostLeft := goodIn_r _ [135, 1, 2, 101, 56, 57, 58, 136, 137, 138, 66, 139, 68, 140, 70, 71, 72, 73, 74, 75, 76, 77, 9, 6, 10, 78, 79, 80, 81, 82, 83, 84, 85, 28, 86, 30, 51, 52, 53, 54, 55, 97, 98, 99, 100, 102, 103, 104, 105, 106, 107, 108, 109, 110, 111, 112, 113, 114, 115, 8, 116, 117, 118, 119, 120, 121, 122, 123, 124, 125, 126, 141, 142, 143, 144, 145, 146, 147, 148, 149, 150, 151, 152, 153, 158, 159, 160, 161, 162, 154] (by decide +kernel) (by decide +kernel)
set_option maxRecDepth 20000 in
theorem gX5_ask_X5_mostLeft : GoodIn wsX5_ask (wsV RX5 190 RX5 yX5_mostLeft wsX5_mostLeft) := goodIn_app (goodIn_of _ (by decide +kernel)) ggX5_ask_X5_mostLeft
theorem dX5_ask_0 : decode cX5_ask 0 = .ok (.iload_n 1, 1) := by decide +kernel
theorem dX5_ask_1 : decode cX5_ask 1 = .ok (.invokestatic 131, 3) := by decide +kernel
theorem dX5_ask_4 : decode cX5_ask 4 = .ok (.ifCond .ne 6, 3) := by decide +kernel
theorem dX5_ask_7 : decode cX5_ask 7 = .ok (.bipush (-102), 2) := by decide +kernel
theorem dX5_ask_9 : decode cX5_ask 9 = .ok (.ireturn, 1) := by decide +kernel
theorem dX5_ask_10 : decode cX5_ask 10 = .ok (.aload_n 0, 1) := by decide +kernel
theorem dX5_ask_11 : decode cX5_ask 11 = .ok (.invokevirtual 134, 3) := by decide +kernel
theorem dX5_ask_14 : decode cX5_ask 14 = .ok (.ifCond .ne 6, 3) := by decide +kernel
theorem dX5_ask_17 : decode cX5_ask 17 = .ok (.bipush (-103), 2) := by decide +kernel
theorem dX5_ask_19 : decode cX5_ask 19 = .ok (.ireturn, 1) := by decide +kernel
theorem dX5_ask_20 : decode cX5_ask 20 = .ok (.aload_n 0, 1) := by decide +kernel
theorem dX5_ask_21 : decode cX5_ask 21 = .ok (.invokevirtual 187, 3) := by decide +kernel
theorem dX5_ask_24 : decode cX5_ask 24 = .ok (.istore_n 2, 1) := by decide +kernel
theorem dX5_ask_25 : decode cX5_ask 25 = .ok (.iload_n 2, 1) := by decide +kernel
theorem dX5_ask_26 : decode cX5_ask 26 = .ok (.ifCond .eq 16, 3) := by decide +kernel
theorem dX5_ask_29 : decode cX5_ask 29 = .ok (.aload_n 0, 1) := by decide +kernel
theorem dX5_ask_30 : decode cX5_ask 30 = .ok (.getfield 23, 3) := by decide +kernel
theorem dX5_ask_33 : decode cX5_ask 33 = .ok (.getfield 171, 3) := by decide +kernel
theorem dX5_ask_36 : decode cX5_ask 36 = .ok (.invokevirtual 180, 3) := by decide +kernel
theorem dX5_ask_39 : decode cX5_ask 39 = .ok (.ifCond .ne 5, 3) := by decide +kernel
theorem dX5_ask_42 : decode cX5_ask 42 = .ok (.iconst (-1), 1) := by decide +kernel
theorem dX5_ask_43 : decode cX5_ask 43 = .ok (.ireturn, 1) := by decide +kernel
theorem dX5_ask_44 : decode cX5_ask 44 = .ok (.aload_n 0, 1) := by decide +kernel
theorem dX5_ask_45 : decode cX5_ask 45 = .ok (.invokevirtual 106, 3) := by decide +kernel
theorem dX5_ask_48 : decode cX5_ask 48 = .ok (.astore_n 3, 1) := by decide +kernel
theorem dX5_ask_49 : decode cX5_ask 49 = .ok (.iconst (-1), 1) := by decide +kernel
theorem dX5_ask_50 : decode cX5_ask 50 = .ok (.istore 4, 2) := by decide +kernel
theorem dX5_ask_52 : decode cX5_ask 52 = .ok (.bipush 11, 2) := by decide +kernel
theorem dX5_ask_54 : decode cX5_ask 54 = .ok (.istore 5, 2) := by decide +kernel
theorem dX5_ask_56 : decode cX5_ask 56 = .ok (.iconst 0, 1) := by decide +kernel
theorem dX5_ask_57 : decode cX5_ask 57 = .ok (.istore 6, 2) := by decide +kernel
theorem dX5_ask_59 : decode cX5_ask 59 = .ok (.iload 6, 2) := by decide +kernel
theorem dX5_ask_61 : decode cX5_ask 61 = .ok (.aload_n 0, 1) := by decide +kernel
theorem dX5_ask_62 : decode cX5_ask 62 = .ok (.getfield 65, 3) := by decide +kernel
theorem dX5_ask_65 : decode cX5_ask 65 = .ok (.if_icmp .ge 35, 3) := by decide +kernel
theorem dX5_ask_68 : decode cX5_ask 68 = .ok (.aload_n 0, 1) := by decide +kernel
theorem dX5_ask_69 : decode cX5_ask 69 = .ok (.iload_n 2, 1) := by decide +kernel
theorem dX5_ask_70 : decode cX5_ask 70 = .ok (.aload_n 3, 1) := by decide +kernel
theorem dX5_ask_71 : decode cX5_ask 71 = .ok (.iload 6, 2) := by decide +kernel
theorem dX5_ask_73 : decode cX5_ask 73 = .ok (.iload_n 1, 1) := by decide +kernel
theorem dX5_ask_74 : decode cX5_ask 74 = .ok (.invokevirtual 190, 3) := by decide +kernel
theorem dX5_ask_77 : decode cX5_ask 77 = .ok (.istore 7, 2) := by decide +kernel
theorem dX5_ask_79 : decode cX5_ask 79 = .ok (.iload 7, 2) := by decide +kernel
theorem dX5_ask_81 : decode cX5_ask 81 = .ok (.iload 5, 2) := by decide +kernel
theorem dX5_ask_83 : decode cX5_ask 83 = .ok (.if_icmp .ge 11, 3) := by decide +kernel
theorem dX5_ask_86 : decode cX5_ask 86 = .ok (.iload 7, 2) := by decide +kernel
theorem dX5_ask_88 : decode cX5_ask 88 = .ok (.istore 5, 2) := by decide +kernel
theorem dX5_ask_90 : decode cX5_ask 90 = .ok (.iload 6, 2) := by decide +kernel
theorem dX5_ask_92 : decode cX5_ask 92 = .ok (.istore 4, 2) := by decide +kernel
theorem dX5_ask_94 : decode cX5_ask 94 = .ok (.iinc 6 1, 3) := by decide +kernel
theorem dX5_ask_97 : decode cX5_ask 97 = .ok (.goto (-38), 3) := by decide +kernel
theorem dX5_ask_100 : decode cX5_ask 100 = .ok (.iload 4, 2) := by decide +kernel
theorem dX5_ask_102 : decode cX5_ask 102 = .ok (.ireturn, 1) := by decide +kernel
set_option maxRecDepth 20000 in
theorem ggX5_weeks_X5_isWithin : GoodIn wsX5_weeks wsX5_isWithin := goodIn_r _ [5] (by decide +kernel) (by decide +kernel)
set_option maxRecDepth 20000 in
theorem gX5_weeks_X5_isWithin : GoodIn wsX5_weeks (va_wsS RX5 40 yX5_isWithin wsX5_isWithin) := goodIn_app (goodIn_of _ (by decide +kernel)) ggX5_weeks_X5_isWithin
set_option maxRecDepth 20000 in
theorem ggX5_weeks_X5_hasColony : GoodIn wsX5_weeks wsX5_hasColony := goodIn_r _ [9, 10, 88, 89, 90, 91, 92, 93, 94, 95, 96] (by decide +kernel) (by decide +kernel)
set_option maxRecDepth 20000 in
theorem gX5_weeks_X5_hasColony : GoodIn wsX5_weeks (wsV RX5 134 RX5 yX5_hasColony wsX5_hasColony) := goodIn_app (goodIn_of _ (by decide +kernel)) ggX5_weeks_X5_hasColony
set_option maxRecDepth 20000 in
theorem ggX5_weeks_X5_drawDay : GoodIn wsX5_weeks wsX5_drawDay := goodIn_r _ [14, 15, 16, 1, 17, 18, 19, 20, 21, 22, 23, 24, 25, 26, 27, 28, 29, 30, 31, 32, 33, 34, 35, 36, 37, 38, 39, 40, 41, 3, 4, 5, 42, 43, 44, 45, 46, 47, 48, 49, 88, 89, 90, 91, 92, 93, 94, 95, 96, 97, 98, 99, 100, 101, 102, 103, 104] (by decide +kernel) (by decide +kernel)
set_option maxRecDepth 20000 in
theorem gX5_weeks_X5_drawDay : GoodIn wsX5_weeks (wsV RX5 194 RX5 yX5_drawDay wsX5_drawDay) := goodIn_app (goodIn_of _ (by decide +kernel)) ggX5_weeks_X5_drawDay
set_option maxRecDepth 20000 in
theorem ggX5_weeks_X5_hoursOfAll : GoodIn wsX5_weeks wsX5_hoursOfAll := goodIn_r _ [53, 10, 54, 55, 56, 4, 57, 58, 59, 60, 61, 15, 62, 47, 48, 49, 63, 64, 65, 66, 67, 68, 69, 70, 71, 3, 5, 72, 73, 74, 75, 76, 2, 77, 78, 79, 24, 80, 26, 81, 82, 83, 84, 85, 86, 87, 88, 89, 90, 91, 92, 93, 94, 95, 96, 97, 98, 99, 100, 101] (by decide +kernel) (by decide +kernel)
set_option maxRecDepth 20000 in
theorem gX5_weeks_X5_hoursOfAll : GoodIn wsX5_weeks (wsV RX5 168 RX5 yX5_hoursOfAll wsX5_hoursOfAll) := goodIn_app (goodIn_of _ (by decide +kernel)) ggX5_weeks_X5_hoursOfAll
set_option maxRecDepth 20000 in
theorem ggX5_weeks_X4_at : GoodIn wsX5_weeks wsX4_at := goodIn_r _ [80, 26, 81, 64, 48, 65, 101] (by decide +kernel) (by decide +kernel)
set_option maxRecDepth 20000 in
theorem gX5_weeks_X4_at : GoodIn wsX5_weeks (wsV RX5 137 RX4 yX4_at wsX4_at) := goodIn_app (goodIn_of _ (by decide +kernel)) ggX5_weeks_X4_at
theorem dX5_weeks_0 : decode cX5_weeks 0 = .ok (.iload_n 1, 1) := by decide +kernel
theorem dX5_weeks_1 : decode cX5_weeks 1 = .ok (.iconst 1, 1) := by decide +kernel
theorem dX5_weeks_2 : decode cX5_weeks 2 = .ok (.bipush 30, 2) := by decide +kernel
theorem dX5_weeks_4 : decode cX5_weeks 4 = .ok (.invokestatic 40, 3) := by decide +kernel
theorem dX5_weeks_7 : decode cX5_weeks 7 = .ok (.ifCond .eq 16, 3) := by decide +kernel
theorem dX5_weeks_10 : decode cX5_weeks 10 = .ok (.iload_n 2, 1) := by decide +kernel
theorem dX5_weeks_11 : decode cX5_weeks 11 = .ok (.ifCond .lt 12, 3) := by decide +kernel
theorem dX5_weeks_14 : decode cX5_weeks 14 = .ok (.iload_n 3, 1) := by decide +kernel
theorem dX5_weeks_15 : decode cX5_weeks 15 = .ok (.iconst 0, 1) := by decide +kernel
theorem dX5_weeks_16 : decode cX5_weeks 16 = .ok (.iconst 2, 1) := by decide +kernel
theorem dX5_weeks_17 : decode cX5_weeks 17 = .ok (.invokestatic 40, 3) := by decide +kernel
theorem dX5_weeks_20 : decode cX5_weeks 20 = .ok (.ifCond .ne 6, 3) := by decide +kernel
theorem dX5_weeks_23 : decode cX5_weeks 23 = .ok (.bipush (-102), 2) := by decide +kernel
theorem dX5_weeks_25 : decode cX5_weeks 25 = .ok (.ireturn, 1) := by decide +kernel
theorem dX5_weeks_26 : decode cX5_weeks 26 = .ok (.aload_n 0, 1) := by decide +kernel
theorem dX5_weeks_27 : decode cX5_weeks 27 = .ok (.invokevirtual 134, 3) := by decide +kernel
theorem dX5_weeks_30 : decode cX5_weeks 30 = .ok (.ifCond .ne 6, 3) := by decide +kernel
theorem dX5_weeks_33 : decode cX5_weeks 33 = .ok (.bipush (-103), 2) := by decide +kernel
theorem dX5_weeks_35 : decode cX5_weeks 35 = .ok (.ireturn, 1) := by decide +kernel
theorem dX5_weeks_36 : decode cX5_weeks 36 = .ok (.iload_n 2, 1) := by decide +kernel
theorem dX5_weeks_37 : decode cX5_weeks 37 = .ok (.istore 4, 2) := by decide +kernel
theorem dX5_weeks_39 : decode cX5_weeks 39 = .ok (.iconst 0, 1) := by decide +kernel
theorem dX5_weeks_40 : decode cX5_weeks 40 = .ok (.istore 5, 2) := by decide +kernel
theorem dX5_weeks_42 : decode cX5_weeks 42 = .ok (.iconst 0, 1) := by decide +kernel
theorem dX5_weeks_43 : decode cX5_weeks 43 = .ok (.istore 6, 2) := by decide +kernel
theorem dX5_weeks_45 : decode cX5_weeks 45 = .ok (.iconst 0, 1) := by decide +kernel
theorem dX5_weeks_46 : decode cX5_weeks 46 = .ok (.istore 7, 2) := by decide +kernel
theorem dX5_weeks_48 : decode cX5_weeks 48 = .ok (.iload 7, 2) := by decide +kernel
theorem dX5_weeks_50 : decode cX5_weeks 50 = .ok (.iload_n 1, 1) := by decide +kernel
theorem dX5_weeks_51 : decode cX5_weeks 51 = .ok (.if_icmp .ge 45, 3) := by decide +kernel
theorem dX5_weeks_54 : decode cX5_weeks 54 = .ok (.aload_n 0, 1) := by decide +kernel
theorem dX5_weeks_55 : decode cX5_weeks 55 = .ok (.iload 4, 2) := by decide +kernel
theorem dX5_weeks_57 : decode cX5_weeks 57 = .ok (.invokevirtual 194, 3) := by decide +kernel
theorem dX5_weeks_60 : decode cX5_weeks 60 = .ok (.istore 4, 2) := by decide +kernel
theorem dX5_weeks_62 : decode cX5_weeks 62 = .ok (.iload 5, 2) := by decide +kernel
theorem dX5_weeks_64 : decode cX5_weeks 64 = .ok (.aload_n 0, 1) := by decide +kernel
theorem dX5_weeks_65 : decode cX5_weeks 65 = .ok (.iconst 0, 1) := by decide +kernel
theorem dX5_weeks_66 : decode cX5_weeks 66 = .ok (.aload_n 0, 1) := by decide +kernel
theorem dX5_weeks_67 : decode cX5_weeks 67 = .ok (.getfield 37, 3) := by decide +kernel
theorem dX5_weeks_70 : decode cX5_weeks 70 = .ok (.invokevirtual 168, 3) := by decide +kernel
theorem dX5_weeks_73 : decode cX5_weeks 73 = .ok (.iadd, 1) := by decide +kernel
theorem dX5_weeks_74 : decode cX5_weeks 74 = .ok (.istore 5, 2) := by decide +kernel
theorem dX5_weeks_76 : decode cX5_weeks 76 = .ok (.iload 6, 2) := by decide +kernel
theorem dX5_weeks_78 : decode cX5_weeks 78 = .ok (.aload_n 0, 1) := by decide +kernel
theorem dX5_weeks_79 : decode cX5_weeks 79 = .ok (.getfield 37, 3) := by decide +kernel
theorem dX5_weeks_82 : decode cX5_weeks 82 = .ok (.bipush 11, 2) := by decide +kernel
theorem dX5_weeks_84 : decode cX5_weeks 84 = .ok (.invokevirtual 137, 3) := by decide +kernel
theorem dX5_weeks_87 : decode cX5_weeks 87 = .ok (.iadd, 1) := by decide +kernel
theorem dX5_weeks_88 : decode cX5_weeks 88 = .ok (.istore 6, 2) := by decide +kernel
theorem dX5_weeks_90 : decode cX5_weeks 90 = .ok (.iinc 7 1, 3) := by decide +kernel
theorem dX5_weeks_93 : decode cX5_weeks 93 = .ok (.goto (-45), 3) := by decide +kernel
theorem dX5_weeks_96 : decode cX5_weeks 96 = .ok (.iload_n 3, 1) := by decide +kernel
theorem dX5_weeks_97 : decode cX5_weeks 97 = .ok (.lookupswitch 33 #[(0, 27), (1, 30)], 27) := by decide +kernel
theorem dX5_weeks_124 : decode cX5_weeks 124 = .ok (.iload 5, 2) := by decide +kernel
theorem dX5_weeks_126 : decode cX5_weeks 126 = .ok (.ireturn, 1) := by decide +kernel
theorem dX5_weeks_127 : decode cX5_weeks 127 = .ok (.iload 6, 2) := by decide +kernel
theorem dX5_weeks_129 : decode cX5_weeks 129 = .ok (.ireturn, 1) := by decide +kernel
theorem dX5_weeks_130 : decode cX5_weeks 130 = .ok (.iload 4, 2) := by decide +kernel
theorem dX5_weeks_132 : decode cX5_weeks 132 = .ok (.ireturn, 1) := by decide +kernel
set_option maxRecDepth 20000 in
theorem ggX5_image_X5_hasColony : GoodIn wsX5_image wsX5_hasColony := goodIn_r _ [9, 10, 38, 39, 40, 41, 42, 43, 44, 45, 46] (by decide +kernel) (by decide +kernel)
set_option maxRecDepth 20000 in
theorem gX5_image_X5_hasColony : GoodIn wsX5_image (wsV RX5 134 RX5 yX5_hasColony wsX5_hasColony) := goodIn_app (goodIn_of _ (by decide +kernel)) ggX5_image_X5_hasColony
set_option maxRecDepth 20000 in
theorem ggX5_image_X0_copyFrom : GoodIn wsX5_image wsX0_copyFrom := goodIn_r _ [15, 16, 17, 18, 19, 20, 21, 22, 23, 24, 25, 26, 27, 28, 29, 30, 31, 32, 33, 34, 35, 36, 37, 47, 48, 49, 50, 51, 52, 53, 54, 55, 56, 57, 58] (by decide +kernel) (by decide +kernel)
set_option maxRecDepth 20000 in
theorem gX5_image_X0_copyFrom : GoodIn wsX5_image (wsV RX5 197 RX0 yX0_copyFrom wsX0_copyFrom) := goodIn_app (goodIn_of _ (by decide +kernel)) ggX5_image_X0_copyFrom
theorem dX5_image_0 : decode cX5_image 0 = .ok (.aload_n 0, 1) := by decide +kernel
theorem dX5_image_1 : decode cX5_image 1 = .ok (.invokevirtual 134, 3) := by decide +kernel
theorem dX5_image_4 : decode cX5_image 4 = .ok (.ifCond .ne 6, 3) := by decide +kernel
theorem dX5_image_7 : decode cX5_image 7 = .ok (.bipush (-103), 2) := by decide +kernel
theorem dX5_image_9 : decode cX5_image 9 = .ok (.ireturn, 1) := by decide +kernel
theorem dX5_image_10 : decode cX5_image 10 = .ok (.aload_n 0, 1) := by decide +kernel
theorem dX5_image_11 : decode cX5_image 11 = .ok (.getfield 27, 3) := by decide +kernel
theorem dX5_image_14 : decode cX5_image 14 = .ok (.aload_n 0, 1) := by decide +kernel
theorem dX5_image_15 : decode cX5_image 15 = .ok (.getfield 23, 3) := by decide +kernel
theorem dX5_image_18 : decode cX5_image 18 = .ok (.invokevirtual 197, 3) := by decide +kernel
theorem dX5_image_21 : decode cX5_image 21 = .ok (.aload_n 0, 1) := by decide +kernel
theorem dX5_image_22 : decode cX5_image 22 = .ok (.iconst 1, 1) := by decide +kernel
theorem dX5_image_23 : decode cX5_image 23 = .ok (.putfield 96, 3) := by decide +kernel
theorem dX5_image_26 : decode cX5_image 26 = .ok (.aload_n 0, 1) := by decide +kernel
theorem dX5_image_27 : decode cX5_image 27 = .ok (.getfield 23, 3) := by decide +kernel
theorem dX5_image_30 : decode cX5_image 30 = .ok (.getfield 128, 3) := by decide +kernel
theorem dX5_image_33 : decode cX5_image 33 = .ok (.ireturn, 1) := by decide +kernel
set_option maxRecDepth 20000 in
theorem ggX5_restore_X0_copyFrom : GoodIn wsX5_restore wsX0_copyFrom := goodIn_r _ [9, 10, 11, 12, 13, 14, 15, 16, 17, 18, 19, 20, 21, 22, 23, 24, 25, 26, 27, 28, 29, 30, 31, 41, 42, 43, 44, 45, 46, 47, 48, 49, 50, 51, 52] (by decide +kernel) (by decide +kernel)
set_option maxRecDepth 20000 in
theorem gX5_restore_X0_copyFrom : GoodIn wsX5_restore (wsV RX5 197 RX0 yX0_copyFrom wsX0_copyFrom) := goodIn_app (goodIn_of _ (by decide +kernel)) ggX5_restore_X0_copyFrom
theorem dX5_restore_0 : decode cX5_restore 0 = .ok (.aload_n 0, 1) := by decide +kernel
theorem dX5_restore_1 : decode cX5_restore 1 = .ok (.getfield 96, 3) := by decide +kernel
theorem dX5_restore_4 : decode cX5_restore 4 = .ok (.ifCond .ne 6, 3) := by decide +kernel
theorem dX5_restore_7 : decode cX5_restore 7 = .ok (.bipush (-103), 2) := by decide +kernel
theorem dX5_restore_9 : decode cX5_restore 9 = .ok (.ireturn, 1) := by decide +kernel
theorem dX5_restore_10 : decode cX5_restore 10 = .ok (.aload_n 0, 1) := by decide +kernel
theorem dX5_restore_11 : decode cX5_restore 11 = .ok (.getfield 23, 3) := by decide +kernel
theorem dX5_restore_14 : decode cX5_restore 14 = .ok (.aload_n 0, 1) := by decide +kernel
theorem dX5_restore_15 : decode cX5_restore 15 = .ok (.getfield 27, 3) := by decide +kernel
theorem dX5_restore_18 : decode cX5_restore 18 = .ok (.invokevirtual 197, 3) := by decide +kernel
theorem dX5_restore_21 : decode cX5_restore 21 = .ok (.aload_n 0, 1) := by decide +kernel
theorem dX5_restore_22 : decode cX5_restore 22 = .ok (.getfield 23, 3) := by decide +kernel
theorem dX5_restore_25 : decode cX5_restore 25 = .ok (.getfield 128, 3) := by decide +kernel
theorem dX5_restore_28 : decode cX5_restore 28 = .ok (.ireturn, 1) := by decide +kernel
set_option maxRecDepth 20000 in
theorem ggX5_count_X3_size : GoodIn wsX5_count wsX3_size := goodIn_r _ [12, 13, 119, 120, 121] (by decide +kernel) (by decide +kernel)
set_option maxRecDepth 20000 in
theorem gX5_count_X3_size : GoodIn wsX5_count (wsV RX5 141 RX3 yX3_size wsX3_size) := goodIn_app (goodIn_of _ (by decide +kernel)) ggX5_count_X3_size
set_option maxRecDepth 20000 in
theorem ggX5_count_X5_tideNow : GoodIn wsX5_count wsX5_tideNow := goodIn_r _ [18, 19, 2, 3, 20, 21, 22, 23, 24, 25, 8, 9, 10, 11, 12, 13, 26, 27, 28, 29, 30, 31, 32, 33, 34, 35, 17, 36, 37, 38, 39, 40, 41, 42, 43, 44, 45, 46, 47, 48, 49, 106, 107, 108, 109, 110, 111, 112, 113, 114, 115, 116, 117, 118, 122, 119, 120, 121] (by decide +kernel) (by decide +kernel)
set_option maxRecDepth 20000 in
theorem gX5_count_X5_tideNow : GoodIn wsX5_count (wsV RX5 106 RX5 yX5_tideNow wsX5_tideNow) := goodIn_app (goodIn_of _ (by decide +kernel)) ggX5_count_X5_tideNow
set_option maxRecDepth 20000 in
theorem ggX5_count_X4_greatest : GoodIn wsX5_count wsX4_greatest := goodIn_r _ [53, 46, 47, 48, 49, 54, 55, 56, 23, 57, 25, 58, 59, 60, 122] (by decide +kernel) (by decide +kernel)
set_option maxRecDepth 20000 in
theorem gX5_count_X4_greatest : GoodIn wsX5_count (wsV RX5 201 RX4 yX4_greatest wsX4_greatest) := goodIn_app (goodIn_of _ (by decide +kernel)) ggX5_count_X4_greatest
set_option maxRecDepth 20000 in
theorem ggX5_count_X5_hoursOfAll : GoodIn wsX5_count wsX5_hoursOfAll := goodIn_r _ [64, 1, 65, 66, 67, 17, 68, 69, 70, 71, 72, 2, 73, 47, 48, 49, 74, 59, 60, 75, 76, 77, 78, 79, 80, 35, 36, 81, 82, 83, 84, 85, 86, 87, 55, 56, 23, 57, 25, 58, 88, 89, 90, 91, 92, 93, 106, 107, 108, 109, 110, 111, 112, 113, 114, 115, 116, 117, 118, 122] (by decide +kernel) (by decide +kernel)
set_option maxRecDepth 20000 in
theorem gX5_count_X5_hoursOfAll : GoodIn wsX5_count (wsV RX5 168 RX5 yX5_hoursOfAll wsX5_hoursOfAll) := goodIn_app (goodIn_of _ (by decide +kernel)) ggX5_count_X5_hoursOfAll
set_option maxRecDepth 20000 in
theorem ggX5_count_X1_size : GoodIn wsX5_count wsX1_size := goodIn_r _ [98, 99, 123, 124, 125, 126, 127] (by decide +kernel) (by decide +kernel)
set_option maxRecDepth 20000 in
theorem gX5_count_X1_size : GoodIn wsX5_count (wsV RX5 180 RX1 yX1_size wsX1_size) := goodIn_app (goodIn_of _ (by decide +kernel)) ggX5_count_X1_size
set_option maxRecDepth 20000 in
theorem ggX5_count_X2_size : GoodIn wsX5_count wsX2_size := goodIn_r _ [104, 105, 128, 129] (by decide +kernel) (by decide +kernel)
set_option maxRecDepth 20000 in
theorem gX5_count_X2_size : GoodIn wsX5_count (wsV RX5 48 RX2 yX2_size wsX2_size) := goodIn_app (goodIn_of _ (by decide +kernel)) ggX5_count_X2_size
theorem dX5_count_0 : decode cX5_count 0 = .ok (.iload_n 1, 1) := by decide +kernel
theorem dX5_count_1 : decode cX5_count 1 = .ok (.tableswitch 127 0 8 #[51, 56, 67, 75, 85, 95, 103, 114, 122], 51) := by decide +kernel
theorem dX5_count_52 : decode cX5_count 52 = .ok (.aload_n 0, 1) := by decide +kernel
theorem dX5_count_53 : decode cX5_count 53 = .ok (.getfield 65, 3) := by decide +kernel
theorem dX5_count_56 : decode cX5_count 56 = .ok (.ireturn, 1) := by decide +kernel
theorem dX5_count_57 : decode cX5_count 57 = .ok (.aload_n 0, 1) := by decide +kernel
theorem dX5_count_58 : decode cX5_count 58 = .ok (.getfield 23, 3) := by decide +kernel
theorem dX5_count_61 : decode cX5_count 61 = .ok (.getfield 86, 3) := by decide +kernel
theorem dX5_count_64 : decode cX5_count 64 = .ok (.invokevirtual 141, 3) := by decide +kernel
theorem dX5_count_67 : decode cX5_count 67 = .ok (.ireturn, 1) := by decide +kernel
theorem dX5_count_68 : decode cX5_count 68 = .ok (.aload_n 0, 1) := by decide +kernel
theorem dX5_count_69 : decode cX5_count 69 = .ok (.invokevirtual 106, 3) := by decide +kernel
theorem dX5_count_72 : decode cX5_count 72 = .ok (.invokevirtual 201, 3) := by decide +kernel
theorem dX5_count_75 : decode cX5_count 75 = .ok (.ireturn, 1) := by decide +kernel
theorem dX5_count_76 : decode cX5_count 76 = .ok (.aload_n 0, 1) := by decide +kernel
theorem dX5_count_77 : decode cX5_count 77 = .ok (.iconst 0, 1) := by decide +kernel
theorem dX5_count_78 : decode cX5_count 78 = .ok (.aload_n 0, 1) := by decide +kernel
theorem dX5_count_79 : decode cX5_count 79 = .ok (.invokevirtual 106, 3) := by decide +kernel
theorem dX5_count_82 : decode cX5_count 82 = .ok (.invokevirtual 168, 3) := by decide +kernel
theorem dX5_count_85 : decode cX5_count 85 = .ok (.ireturn, 1) := by decide +kernel
theorem dX5_count_86 : decode cX5_count 86 = .ok (.aload_n 0, 1) := by decide +kernel
theorem dX5_count_87 : decode cX5_count 87 = .ok (.iconst 2, 1) := by decide +kernel
theorem dX5_count_88 : decode cX5_count 88 = .ok (.aload_n 0, 1) := by decide +kernel
theorem dX5_count_89 : decode cX5_count 89 = .ok (.invokevirtual 106, 3) := by decide +kernel
theorem dX5_count_92 : decode cX5_count 92 = .ok (.invokevirtual 168, 3) := by decide +kernel
theorem dX5_count_95 : decode cX5_count 95 = .ok (.ireturn, 1) := by decide +kernel
theorem dX5_count_96 : decode cX5_count 96 = .ok (.aload_n 0, 1) := by decide +kernel
theorem dX5_count_97 : decode cX5_count 97 = .ok (.getfield 23, 3) := by decide +kernel
theorem dX5_count_100 : decode cX5_count 100 = .ok (.getfield 128, 3) := by decide +kernel
theorem dX5_count_103 : decode cX5_count 103 = .ok (.ireturn, 1) := by decide +kernel
theorem dX5_count_104 : decode cX5_count 104 = .ok (.aload_n 0, 1) := by decide +kernel
theorem dX5_count_105 : decode cX5_count 105 = .ok (.getfield 23, 3) := by decide +kernel
theorem dX5_count_108 : decode cX5_count 108 = .ok (.getfield 171, 3) := by decide +kernel
theorem dX5_count_111 : decode cX5_count 111 = .ok (.invokevirtual 180, 3) := by decide +kernel
theorem dX5_count_114 : decode cX5_count 114 = .ok (.ireturn, 1) := by decide +kernel
theorem dX5_count_115 : decode cX5_count 115 = .ok (.aload_n 0, 1) := by decide +kernel
theorem dX5_count_116 : decode cX5_count 116 = .ok (.getfield 10, 3) := by decide +kernel
theorem dX5_count_119 : decode cX5_count 119 = .ok (.invokevirtual 48, 3) := by decide +kernel
theorem dX5_count_122 : decode cX5_count 122 = .ok (.ireturn, 1) := by decide +kernel
theorem dX5_count_123 : decode cX5_count 123 = .ok (.aload_n 0, 1) := by decide +kernel
theorem dX5_count_124 : decode cX5_count 124 = .ok (.getfield 100, 3) := by decide +kernel
theorem dX5_count_127 : decode cX5_count 127 = .ok (.ireturn, 1) := by decide +kernel
theorem dX5_count_128 : decode cX5_count 128 = .ok (.bipush (-102), 2) := by decide +kernel
theorem dX5_count_130 : decode cX5_count 130 = .ok (.ireturn, 1) := by decide +kernel
set_option maxRecDepth 20000 in
theorem ggX5_digest_X5_digestHouses : GoodIn wsX5_digest wsX5_digestHouses := goodIn_r _ [7, 8, 9, 10, 11, 6, 12, 13, 14, 15, 16, 17, 18, 19, 20, 21, 22, 23, 24, 25, 26, 27, 28, 29, 30, 31, 32, 33, 34, 35, 36, 37, 38, 39, 40, 41, 42, 43, 44, 45, 46, 47, 48, 49, 50, 51, 52, 53, 54, 55, 56, 57, 58, 59, 60, 61, 62, 63, 64, 65, 66, 67, 68, 69, 70, 71, 72, 73, 74, 75, 76, 77, 78, 79, 80, 81, 82, 83, 84, 85, 86, 87, 88, 89, 90, 91, 92, 93, 94, 95, 96, 97, 98, 99, 100, 101, 102, 235, 236, 237, 238, 239, 240, 241, 242, 243, 244, 245, 246, 247, 248, 249, 250, 251] (by decide +kernel) (by decide +kernel)
set_option maxRecDepth 20000 in
theorem gX5_digest_X5_digestHouses : GoodIn wsX5_digest (wsV RX5 206 RX5 yX5_digestHouses wsX5_digestHouses) := goodIn_app (goodIn_of _ (by decide +kernel)) ggX5_digest_X5_digestHouses
set_option maxRecDepth 20000 in
theorem ggX5_digest_X5_digestStrokes : GoodIn wsX5_digest wsX5_digestStrokes := goodIn_r _ [106, 13, 26, 33, 34, 35, 36, 37, 38, 107, 108, 109, 6, 110, 111, 45, 46, 47, 19, 20, 39, 40, 41, 42, 43, 44, 48, 49, 50, 51, 52, 112, 113, 114, 115, 116, 117, 99, 100, 101, 102, 235, 236, 237, 238, 239, 240, 241, 242, 243, 244, 245, 246, 247, 249, 250, 251] (by decide +kernel) (by decide +kernel)
set_option maxRecDepth 20000 in
theorem gX5_digest_X5_digestStrokes : GoodIn wsX5_digest (wsV RX5 210 RX5 yX5_digestStrokes wsX5_digestStrokes) := goodIn_app (goodIn_of _ (by decide +kernel)) ggX5_digest_X5_digestStrokes
set_option maxRecDepth 20000 in
theorem ggX5_digest_X5_hasColony : GoodIn wsX5_digest wsX5_hasColony := goodIn_r _ [121, 8, 235, 236, 237, 238, 239, 240, 241, 242, 243] (by decide +kernel) (by decide +kernel)
set_option maxRecDepth 20000 in
theorem gX5_digest_X5_hasColony : GoodIn wsX5_digest (wsV RX5 134 RX5 yX5_hasColony wsX5_hasColony) := goodIn_app (goodIn_of _ (by decide +kernel)) ggX5_digest_X5_hasColony
set_option maxRecDepth 20000 in
theorem ggX5_digest_X5_tide : GoodIn wsX5_digest wsX5_tide := goodIn_r _ [125, 126, 127, 6, 128, 18, 19, 20, 118, 119, 120, 121, 8, 21, 22, 23, 24, 25, 13, 26, 27, 28, 29, 30, 31, 32, 33, 34, 35, 36, 37, 38, 39, 40, 41, 42, 43, 44, 45, 46, 47, 48, 49, 50, 51, 52, 53, 54, 55, 56, 57, 58, 59, 60, 84, 85, 86, 87, 88, 82, 83, 235, 236, 237, 238, 239, 240, 241, 242, 243, 244, 245, 246, 247, 248, 249, 250, 251] (by decide +kernel) (by decide +kernel)
set_option maxRecDepth 20000 in
theorem gX5_digest_X5_tide : GoodIn wsX5_digest (wsV RX5 213 RX5 yX5_tide wsX5_tide) := goodIn_app (goodIn_of _ (by decide +kernel)) ggX5_digest_X5_tide
set_option maxRecDepth 20000 in
theorem ggX5_digest_X5_mix : GoodIn wsX5_digest wsX5_mix := goodIn_r _ [101, 102] (by decide +kernel) (by decide +kernel)
set_option maxRecDepth 20000 in
theorem gX5_digest_X5_mix : GoodIn wsX5_digest (va_wsS RX5 216 yX5_mix wsX5_mix) := goodIn_app (goodIn_of _ (by decide +kernel)) ggX5_digest_X5_mix
set_option maxRecDepth 20000 in
theorem ggX5_digest_X5_allHouses : GoodIn wsX5_digest wsX5_allHouses := goodIn_r _ [132, 8, 235, 236, 237, 238, 239, 240, 241, 242, 243] (by decide +kernel) (by decide +kernel)
set_option maxRecDepth 20000 in
theorem gX5_digest_X5_allHouses : GoodIn wsX5_digest (wsV RX5 157 RX5 yX5_allHouses wsX5_allHouses) := goodIn_app (goodIn_of _ (by decide +kernel)) ggX5_digest_X5_allHouses
set_option maxRecDepth 20000 in
theorem ggX5_digest_X5_dinner : GoodIn wsX5_digest wsX5_dinner := goodIn_r _ [136, 129, 130, 131, 6, 132, 8, 18, 19, 20, 21, 22, 23, 24, 25, 13, 26, 27, 28, 29, 30, 31, 32, 33, 34, 35, 36, 37, 38, 39, 40, 41, 42, 43, 44, 45, 46, 47, 48, 49, 50, 51, 52, 53, 54, 55, 56, 57, 58, 59, 60, 137, 138, 139, 140, 76, 77, 78, 79, 80, 81, 82, 83, 66, 67, 68, 69, 70, 71, 61, 62, 63, 64, 65, 84, 85, 86, 87, 88, 89, 90, 91, 92, 93, 94, 235, 236, 237, 238, 239, 240, 241, 242, 243, 244, 245, 246, 247, 248, 249, 250, 251] (by decide +kernel) (by decide +kernel)
set_option maxRecDepth 20000 in
theorem gX5_digest_X5_dinner : GoodIn wsX5_digest (wsV RX5 220 RX5 yX5_dinner wsX5_dinner) := goodIn_app (goodIn_of _ (by decide +kernel)) ggX5_digest_X5_dinner
set_option maxRecDepth 20000 in
theorem ggX5_digest_X5_best : GoodIn wsX5_digest wsX5_best := goodIn_r _ [144, 8, 145, 146, 6, 147, 18, 19, 20, 118, 119, 120, 121, 21, 22, 23, 24, 25, 13, 26, 27, 28, 29, 30, 31, 32, 33, 34, 35, 36, 37, 38, 39, 40, 41, 42, 43, 44, 45, 46, 47, 48, 49, 50, 51, 52, 53, 54, 55, 56, 57, 58, 59, 60, 148, 149, 150, 151, 152, 153, 154, 155, 156, 157, 158, 159, 160, 72, 73, 74, 75, 76, 77, 78, 79, 80, 81, 82, 83, 66, 67, 68, 69, 70, 71, 61, 62, 63, 64, 65, 84, 85, 86, 87, 88, 89, 90, 91, 92, 93, 94, 235, 236, 237, 238, 239, 240, 241, 242, 243, 244, 245, 246, 247, 248, 249, 250, 251] (by decide +kernel) (by decide +kernel)
set_option maxRecDepth 20000 in
theorem gX5_digest_X5_best : GoodIn wsX5_digest (wsV RX5 224 RX5 yX5_best wsX5_best) := goodIn_app (goodIn_of _ (by decide +kernel)) ggX5_digest_X5_best
set_option maxRecDepth 20000 in
theorem ggX5_digest_X5_hours : GoodIn wsX5_digest wsX5_hours := goodIn_r _ [164, 118, 119, 120, 6, 121, 8, 21, 22, 23, 24, 25, 13, 26, 27, 28, 29, 30, 31, 32, 33, 34, 35, 36, 37, 38, 39, 40, 41, 42, 43, 44, 45, 46, 47, 19, 20, 48, 49, 50, 51, 52, 53, 54, 55, 56, 57, 58, 59, 60, 165, 166, 167, 168, 169, 170, 171, 172, 173, 174, 175, 176, 177, 178, 179, 180, 181, 182, 183, 184, 148, 149, 150, 151, 152, 153, 154, 155, 156, 185, 186, 187, 188, 189, 190, 191, 192, 193, 194, 76, 77, 78, 79, 80, 81, 82, 83, 66, 67, 68, 69, 70, 71, 61, 62, 63, 64, 65, 18, 84, 85, 86, 87, 88, 89, 90, 91, 92, 93, 94, 195, 196, 197, 198, 199, 235, 236, 237, 238, 239, 240, 241, 242, 243, 244, 245, 246, 247, 248, 249, 250, 251, 252, 253, 254, 255, 256] (by decide +kernel) (by decide +kernel)
set_option maxRecDepth 20000 in
theorem gX5_digest_X5_hours : GoodIn wsX5_digest (wsV RX5 187 RX5 yX5_hours wsX5_hours) := goodIn_app (goodIn_of _ (by decide +kernel)) ggX5_digest_X5_hours
set_option maxRecDepth 20000 in
theorem ggX5_digest_X5_ask : GoodIn wsX5_digest wsX5_ask := goodIn_r _ [203, 13, 169, 8, 126, 127, 6, 128, 18, 19, 20, 118, 119, 120, 121, 161, 162, 163, 164, 21, 22, 23, 24, 25, 26, 27, 28, 29, 30, 31, 32, 33, 34, 35, 36, 37, 38, 39, 40, 41, 42, 43, 44, 45, 46, 47, 48, 49, 50, 51, 52, 53, 54, 55, 56, 57, 58, 59, 60, 165, 166, 167, 168, 170, 171, 172, 173, 174, 175, 176, 177, 178, 179, 180, 181, 182, 183, 184, 148, 149, 150, 151, 152, 153, 154, 155, 156, 185, 186, 187, 188, 189, 190, 191, 192, 193, 194, 76, 77, 78, 79, 80, 81, 82, 83, 66, 67, 68, 69, 70, 71, 61, 62, 63, 64, 65, 84, 85, 86, 87, 88, 89, 90, 91, 92, 93, 94, 195, 196, 197, 198, 199, 204, 205, 206, 207, 208, 209, 210, 211, 212, 235, 236, 237, 238, 239, 240, 241, 242, 243, 244, 245, 246, 247, 248, 249, 250, 251, 252, 253, 254, 255, 256] (by decide +kernel) (by decide +kernel)
set_option maxRecDepth 20000 in
theorem gX5_digest_X5_ask : GoodIn wsX5_digest (wsV RX5 227 RX5 yX5_ask wsX5_ask) := goodIn_app (goodIn_of _ (by decide +kernel)) ggX5_digest_X5_ask
set_option maxRecDepth 20000 in
theorem ggX5_digest_X2_size : GoodIn wsX5_digest wsX2_size := goodIn_r _ [217, 218, 257, 258] (by decide +kernel) (by decide +kernel)
set_option maxRecDepth 20000 in
theorem gX5_digest_X2_size : GoodIn wsX5_digest (wsV RX5 48 RX2 yX2_size wsX2_size) := goodIn_app (goodIn_of _ (by decide +kernel)) ggX5_digest_X2_size
set_option maxRecDepth 20000 in
theorem ggX5_digest_X2_at : GoodIn wsX5_digest wsX2_at := goodIn_r _ [222, 218, 223, 19, 6, 20, 257, 258] (by decide +kernel) (by decide +kernel)
set_option maxRecDepth 20000 in
theorem gX5_digest_X2_at : GoodIn wsX5_digest (wsV RX5 72 RX2 yX2_at wsX2_at) := goodIn_app (goodIn_of _ (by decide +kernel)) ggX5_digest_X2_at
set_option maxRecDepth 20000 in
theorem ggX5_digest_X5_count : GoodIn wsX5_digest wsX5_count := goodIn_r _ [227, 8, 13, 26, 228, 169, 2, 229, 33, 34, 35, 36, 37, 38, 21, 22, 23, 6, 24, 25, 27, 28, 29, 30, 31, 32, 39, 40, 41, 42, 43, 44, 45, 46, 47, 19, 20, 48, 49, 50, 51, 52, 53, 54, 55, 56, 57, 58, 59, 60, 230, 231, 232, 233, 234, 85, 86, 87, 88, 82, 83, 157, 158, 159, 160, 72, 73, 74, 75, 76, 77, 78, 79, 80, 81, 66, 67, 68, 69, 70, 71, 61, 62, 63, 64, 65, 18, 84, 89, 90, 91, 92, 93, 94, 170, 171, 172, 173, 174, 175, 213, 214, 215, 216, 217, 218, 235, 236, 237, 238, 239, 240, 241, 242, 243, 244, 245, 246, 247, 249, 250, 251, 248, 252, 253, 254, 255, 256, 257, 258] (by decide +kernel) (by decide +kernel)
set_option maxRecDepth 20000 in
theorem gX5_digest_X5_count : GoodIn wsX5_digest (wsV RX5 230 RX5 yX5_count wsX5_count) := goodIn_app (goodIn_of _ (by decide +kernel)) ggX5_digest_X5_count
theorem dX5_digest_0 : decode cX5_digest 0 = .ok (.aload_n 0, 1) := by decide +kernel
theorem dX5_digest_1 : decode cX5_digest 1 = .ok (.ldc2_w 204, 3) := by decide +kernel
theorem dX5_digest_4 : decode cX5_digest 4 = .ok (.invokevirtual 206, 3) := by decide +kernel
theorem dX5_digest_7 : decode cX5_digest 7 = .ok (.lstore_n 1, 1) := by decide +kernel
theorem dX5_digest_8 : decode cX5_digest 8 = .ok (.aload_n 0, 1) := by decide +kernel
theorem dX5_digest_9 : decode cX5_digest 9 = .ok (.lload_n 1, 1) := by decide +kernel
theorem dX5_digest_10 : decode cX5_digest 10 = .ok (.invokevirtual 210, 3) := by decide +kernel
theorem dX5_digest_13 : decode cX5_digest 13 = .ok (.lstore_n 1, 1) := by decide +kernel
theorem dX5_digest_14 : decode cX5_digest 14 = .ok (.aload_n 0, 1) := by decide +kernel
theorem dX5_digest_15 : decode cX5_digest 15 = .ok (.invokevirtual 134, 3) := by decide +kernel
theorem dX5_digest_18 : decode cX5_digest 18 = .ok (.ifCond .eq 88, 3) := by decide +kernel
theorem dX5_digest_21 : decode cX5_digest 21 = .ok (.iconst 0, 1) := by decide +kernel
theorem dX5_digest_22 : decode cX5_digest 22 = .ok (.istore_n 3, 1) := by decide +kernel
theorem dX5_digest_23 : decode cX5_digest 23 = .ok (.iload_n 3, 1) := by decide +kernel
theorem dX5_digest_24 : decode cX5_digest 24 = .ok (.bipush 12, 2) := by decide +kernel
theorem dX5_digest_26 : decode cX5_digest 26 = .ok (.if_icmp .ge 20, 3) := by decide +kernel
theorem dX5_digest_29 : decode cX5_digest 29 = .ok (.lload_n 1, 1) := by decide +kernel
theorem dX5_digest_30 : decode cX5_digest 30 = .ok (.aload_n 0, 1) := by decide +kernel
theorem dX5_digest_31 : decode cX5_digest 31 = .ok (.iload_n 3, 1) := by decide +kernel
theorem dX5_digest_32 : decode cX5_digest 32 = .ok (.invokevirtual 213, 3) := by decide +kernel
theorem dX5_digest_35 : decode cX5_digest 35 = .ok (.i2l, 1) := by decide +kernel
theorem dX5_digest_36 : decode cX5_digest 36 = .ok (.invokestatic 216, 3) := by decide +kernel
theorem dX5_digest_39 : decode cX5_digest 39 = .ok (.lstore_n 1, 1) := by decide +kernel
theorem dX5_digest_40 : decode cX5_digest 40 = .ok (.iinc 3 1, 3) := by decide +kernel
theorem dX5_digest_43 : decode cX5_digest 43 = .ok (.goto (-20), 3) := by decide +kernel
theorem dX5_digest_46 : decode cX5_digest 46 = .ok (.lload_n 1, 1) := by decide +kernel
theorem dX5_digest_47 : decode cX5_digest 47 = .ok (.aload_n 0, 1) := by decide +kernel
theorem dX5_digest_48 : decode cX5_digest 48 = .ok (.aload_n 0, 1) := by decide +kernel
theorem dX5_digest_49 : decode cX5_digest 49 = .ok (.invokevirtual 157, 3) := by decide +kernel
theorem dX5_digest_52 : decode cX5_digest 52 = .ok (.iconst 2, 1) := by decide +kernel
theorem dX5_digest_53 : decode cX5_digest 53 = .ok (.invokevirtual 220, 3) := by decide +kernel
theorem dX5_digest_56 : decode cX5_digest 56 = .ok (.i2l, 1) := by decide +kernel
theorem dX5_digest_57 : decode cX5_digest 57 = .ok (.invokestatic 216, 3) := by decide +kernel
theorem dX5_digest_60 : decode cX5_digest 60 = .ok (.lstore_n 1, 1) := by decide +kernel
theorem dX5_digest_61 : decode cX5_digest 61 = .ok (.lload_n 1, 1) := by decide +kernel
theorem dX5_digest_62 : decode cX5_digest 62 = .ok (.aload_n 0, 1) := by decide +kernel
theorem dX5_digest_63 : decode cX5_digest 63 = .ok (.iconst 5, 1) := by decide +kernel
theorem dX5_digest_64 : decode cX5_digest 64 = .ok (.iconst 0, 1) := by decide +kernel
theorem dX5_digest_65 : decode cX5_digest 65 = .ok (.invokevirtual 224, 3) := by decide +kernel
theorem dX5_digest_68 : decode cX5_digest 68 = .ok (.i2l, 1) := by decide +kernel
theorem dX5_digest_69 : decode cX5_digest 69 = .ok (.invokestatic 216, 3) := by decide +kernel
theorem dX5_digest_72 : decode cX5_digest 72 = .ok (.lstore_n 1, 1) := by decide +kernel
theorem dX5_digest_73 : decode cX5_digest 73 = .ok (.lload_n 1, 1) := by decide +kernel
theorem dX5_digest_74 : decode cX5_digest 74 = .ok (.aload_n 0, 1) := by decide +kernel
theorem dX5_digest_75 : decode cX5_digest 75 = .ok (.iconst 5, 1) := by decide +kernel
theorem dX5_digest_76 : decode cX5_digest 76 = .ok (.iconst 1, 1) := by decide +kernel
theorem dX5_digest_77 : decode cX5_digest 77 = .ok (.invokevirtual 224, 3) := by decide +kernel
theorem dX5_digest_80 : decode cX5_digest 80 = .ok (.i2l, 1) := by decide +kernel
theorem dX5_digest_81 : decode cX5_digest 81 = .ok (.invokestatic 216, 3) := by decide +kernel
theorem dX5_digest_84 : decode cX5_digest 84 = .ok (.lstore_n 1, 1) := by decide +kernel
theorem dX5_digest_85 : decode cX5_digest 85 = .ok (.lload_n 1, 1) := by decide +kernel
theorem dX5_digest_86 : decode cX5_digest 86 = .ok (.aload_n 0, 1) := by decide +kernel
theorem dX5_digest_87 : decode cX5_digest 87 = .ok (.invokevirtual 187, 3) := by decide +kernel
theorem dX5_digest_90 : decode cX5_digest 90 = .ok (.i2l, 1) := by decide +kernel
theorem dX5_digest_91 : decode cX5_digest 91 = .ok (.invokestatic 216, 3) := by decide +kernel
theorem dX5_digest_94 : decode cX5_digest 94 = .ok (.lstore_n 1, 1) := by decide +kernel
theorem dX5_digest_95 : decode cX5_digest 95 = .ok (.lload_n 1, 1) := by decide +kernel
theorem dX5_digest_96 : decode cX5_digest 96 = .ok (.aload_n 0, 1) := by decide +kernel
theorem dX5_digest_97 : decode cX5_digest 97 = .ok (.iconst 4, 1) := by decide +kernel
theorem dX5_digest_98 : decode cX5_digest 98 = .ok (.invokevirtual 227, 3) := by decide +kernel
theorem dX5_digest_101 : decode cX5_digest 101 = .ok (.i2l, 1) := by decide +kernel
theorem dX5_digest_102 : decode cX5_digest 102 = .ok (.invokestatic 216, 3) := by decide +kernel
theorem dX5_digest_105 : decode cX5_digest 105 = .ok (.lstore_n 1, 1) := by decide +kernel
theorem dX5_digest_106 : decode cX5_digest 106 = .ok (.iconst 0, 1) := by decide +kernel
theorem dX5_digest_107 : decode cX5_digest 107 = .ok (.istore_n 3, 1) := by decide +kernel
theorem dX5_digest_108 : decode cX5_digest 108 = .ok (.iload_n 3, 1) := by decide +kernel
theorem dX5_digest_109 : decode cX5_digest 109 = .ok (.aload_n 0, 1) := by decide +kernel
theorem dX5_digest_110 : decode cX5_digest 110 = .ok (.getfield 10, 3) := by decide +kernel
theorem dX5_digest_113 : decode cX5_digest 113 = .ok (.invokevirtual 48, 3) := by decide +kernel
theorem dX5_digest_116 : decode cX5_digest 116 = .ok (.if_icmp .ge 23, 3) := by decide +kernel
theorem dX5_digest_119 : decode cX5_digest 119 = .ok (.lload_n 1, 1) := by decide +kernel
theorem dX5_digest_120 : decode cX5_digest 120 = .ok (.aload_n 0, 1) := by decide +kernel
theorem dX5_digest_121 : decode cX5_digest 121 = .ok (.getfield 10, 3) := by decide +kernel
theorem dX5_digest_124 : decode cX5_digest 124 = .ok (.iload_n 3, 1) := by decide +kernel
theorem dX5_digest_125 : decode cX5_digest 125 = .ok (.invokevirtual 72, 3) := by decide +kernel
theorem dX5_digest_128 : decode cX5_digest 128 = .ok (.i2l, 1) := by decide +kernel
theorem dX5_digest_129 : decode cX5_digest 129 = .ok (.invokestatic 216, 3) := by decide +kernel
theorem dX5_digest_132 : decode cX5_digest 132 = .ok (.lstore_n 1, 1) := by decide +kernel
theorem dX5_digest_133 : decode cX5_digest 133 = .ok (.iinc 3 1, 3) := by decide +kernel
theorem dX5_digest_136 : decode cX5_digest 136 = .ok (.goto (-28), 3) := by decide +kernel
theorem dX5_digest_139 : decode cX5_digest 139 = .ok (.iconst 0, 1) := by decide +kernel
theorem dX5_digest_140 : decode cX5_digest 140 = .ok (.istore_n 3, 1) := by decide +kernel
theorem dX5_digest_141 : decode cX5_digest 141 = .ok (.iload_n 3, 1) := by decide +kernel
theorem dX5_digest_142 : decode cX5_digest 142 = .ok (.bipush 8, 2) := by decide +kernel
theorem dX5_digest_144 : decode cX5_digest 144 = .ok (.if_icmp .gt 20, 3) := by decide +kernel
theorem dX5_digest_147 : decode cX5_digest 147 = .ok (.lload_n 1, 1) := by decide +kernel
theorem dX5_digest_148 : decode cX5_digest 148 = .ok (.aload_n 0, 1) := by decide +kernel
theorem dX5_digest_149 : decode cX5_digest 149 = .ok (.iload_n 3, 1) := by decide +kernel
theorem dX5_digest_150 : decode cX5_digest 150 = .ok (.invokevirtual 230, 3) := by decide +kernel
theorem dX5_digest_153 : decode cX5_digest 153 = .ok (.i2l, 1) := by decide +kernel
theorem dX5_digest_154 : decode cX5_digest 154 = .ok (.invokestatic 216, 3) := by decide +kernel
theorem dX5_digest_157 : decode cX5_digest 157 = .ok (.lstore_n 1, 1) := by decide +kernel
theorem dX5_digest_158 : decode cX5_digest 158 = .ok (.iinc 3 1, 3) := by decide +kernel
theorem dX5_digest_161 : decode cX5_digest 161 = .ok (.goto (-20), 3) := by decide +kernel
theorem dX5_digest_164 : decode cX5_digest 164 = .ok (.lload_n 1, 1) := by decide +kernel
theorem dX5_digest_165 : decode cX5_digest 165 = .ok (.lreturn, 1) := by decide +kernel
set_option maxRecDepth 20000 in
theorem ggX5_digestHouses_X5_about : GoodIn wsX5_digestHouses wsX5_about := goodIn_r _ [6, 7, 8, 9, 10, 5, 11, 1, 12, 13, 14, 15, 16, 17, 18, 19, 20, 21, 22, 23, 24, 25, 26, 27, 28, 29, 30, 31, 32, 33, 34, 35, 36, 37, 38, 39, 40, 41, 42, 43, 44, 45, 46, 47, 48, 49, 50, 51, 52, 53, 54, 55, 56, 57, 58, 59, 60, 61, 62, 63, 64, 65, 66, 67, 68, 69, 70, 71, 72, 73, 74, 75, 76, 77, 78, 79, 80, 81, 82, 83, 84, 85, 86, 87, 88, 89, 90, 91, 92, 97, 98, 99, 100, 101, 102, 103, 104, 105, 106, 107, 108, 109, 110, 111, 112, 113] (by decide +kernel) (by decide +kernel)
set_option maxRecDepth 20000 in
theorem gX5_digestHouses_X5_about : GoodIn wsX5_digestHouses (wsV RX5 233 RX5 yX5_about wsX5_about) := goodIn_app (goodIn_of _ (by decide +kernel)) ggX5_digestHouses_X5_about
set_option maxRecDepth 20000 in
theorem ggX5_digestHouses_X5_mix : GoodIn wsX5_digestHouses wsX5_mix := goodIn_r _ [95, 96] (by decide +kernel) (by decide +kernel)
set_option maxRecDepth 20000 in
theorem gX5_digestHouses_X5_mix : GoodIn wsX5_digestHouses (va_wsS RX5 216 yX5_mix wsX5_mix) := goodIn_app (goodIn_of _ (by decide +kernel)) ggX5_digestHouses_X5_mix
theorem dX5_digestHouses_0 : decode cX5_digestHouses 0 = .ok (.lload_n 1, 1) := by decide +kernel
theorem dX5_digestHouses_1 : decode cX5_digestHouses 1 = .ok (.lstore_n 3, 1) := by decide +kernel
theorem dX5_digestHouses_2 : decode cX5_digestHouses 2 = .ok (.iconst 0, 1) := by decide +kernel
theorem dX5_digestHouses_3 : decode cX5_digestHouses 3 = .ok (.istore 5, 2) := by decide +kernel
theorem dX5_digestHouses_5 : decode cX5_digestHouses 5 = .ok (.iload 5, 2) := by decide +kernel
theorem dX5_digestHouses_7 : decode cX5_digestHouses 7 = .ok (.aload_n 0, 1) := by decide +kernel
theorem dX5_digestHouses_8 : decode cX5_digestHouses 8 = .ok (.getfield 65, 3) := by decide +kernel
theorem dX5_digestHouses_11 : decode cX5_digestHouses 11 = .ok (.if_icmp .ge 71, 3) := by decide +kernel
theorem dX5_digestHouses_14 : decode cX5_digestHouses 14 = .ok (.iconst 0, 1) := by decide +kernel
theorem dX5_digestHouses_15 : decode cX5_digestHouses 15 = .ok (.istore 6, 2) := by decide +kernel
theorem dX5_digestHouses_17 : decode cX5_digestHouses 17 = .ok (.iload 6, 2) := by decide +kernel
theorem dX5_digestHouses_19 : decode cX5_digestHouses 19 = .ok (.iconst 4, 1) := by decide +kernel
theorem dX5_digestHouses_20 : decode cX5_digestHouses 20 = .ok (.if_icmp .gt 23, 3) := by decide +kernel
theorem dX5_digestHouses_23 : decode cX5_digestHouses 23 = .ok (.lload_n 3, 1) := by decide +kernel
theorem dX5_digestHouses_24 : decode cX5_digestHouses 24 = .ok (.aload_n 0, 1) := by decide +kernel
theorem dX5_digestHouses_25 : decode cX5_digestHouses 25 = .ok (.iload 5, 2) := by decide +kernel
theorem dX5_digestHouses_27 : decode cX5_digestHouses 27 = .ok (.iload 6, 2) := by decide +kernel
theorem dX5_digestHouses_29 : decode cX5_digestHouses 29 = .ok (.invokevirtual 233, 3) := by decide +kernel
theorem dX5_digestHouses_32 : decode cX5_digestHouses 32 = .ok (.i2l, 1) := by decide +kernel
theorem dX5_digestHouses_33 : decode cX5_digestHouses 33 = .ok (.invokestatic 216, 3) := by decide +kernel
theorem dX5_digestHouses_36 : decode cX5_digestHouses 36 = .ok (.lstore_n 3, 1) := by decide +kernel
theorem dX5_digestHouses_37 : decode cX5_digestHouses 37 = .ok (.iinc 6 1, 3) := by decide +kernel
theorem dX5_digestHouses_40 : decode cX5_digestHouses 40 = .ok (.goto (-23), 3) := by decide +kernel
theorem dX5_digestHouses_43 : decode cX5_digestHouses 43 = .ok (.iconst 0, 1) := by decide +kernel
theorem dX5_digestHouses_44 : decode cX5_digestHouses 44 = .ok (.istore 6, 2) := by decide +kernel
theorem dX5_digestHouses_46 : decode cX5_digestHouses 46 = .ok (.iload 6, 2) := by decide +kernel
theorem dX5_digestHouses_48 : decode cX5_digestHouses 48 = .ok (.bipush 12, 2) := by decide +kernel
theorem dX5_digestHouses_50 : decode cX5_digestHouses 50 = .ok (.if_icmp .ge 26, 3) := by decide +kernel
theorem dX5_digestHouses_53 : decode cX5_digestHouses 53 = .ok (.lload_n 3, 1) := by decide +kernel
theorem dX5_digestHouses_54 : decode cX5_digestHouses 54 = .ok (.aload_n 0, 1) := by decide +kernel
theorem dX5_digestHouses_55 : decode cX5_digestHouses 55 = .ok (.iload 5, 2) := by decide +kernel
theorem dX5_digestHouses_57 : decode cX5_digestHouses 57 = .ok (.bipush 10, 2) := by decide +kernel
theorem dX5_digestHouses_59 : decode cX5_digestHouses 59 = .ok (.iload 6, 2) := by decide +kernel
theorem dX5_digestHouses_61 : decode cX5_digestHouses 61 = .ok (.iadd, 1) := by decide +kernel
theorem dX5_digestHouses_62 : decode cX5_digestHouses 62 = .ok (.invokevirtual 233, 3) := by decide +kernel
theorem dX5_digestHouses_65 : decode cX5_digestHouses 65 = .ok (.i2l, 1) := by decide +kernel
theorem dX5_digestHouses_66 : decode cX5_digestHouses 66 = .ok (.invokestatic 216, 3) := by decide +kernel
theorem dX5_digestHouses_69 : decode cX5_digestHouses 69 = .ok (.lstore_n 3, 1) := by decide +kernel
theorem dX5_digestHouses_70 : decode cX5_digestHouses 70 = .ok (.iinc 6 1, 3) := by decide +kernel
theorem dX5_digestHouses_73 : decode cX5_digestHouses 73 = .ok (.goto (-27), 3) := by decide +kernel
theorem dX5_digestHouses_76 : decode cX5_digestHouses 76 = .ok (.iinc 5 1, 3) := by decide +kernel
theorem dX5_digestHouses_79 : decode cX5_digestHouses 79 = .ok (.goto (-74), 3) := by decide +kernel
theorem dX5_digestHouses_82 : decode cX5_digestHouses 82 = .ok (.lload_n 3, 1) := by decide +kernel
theorem dX5_digestHouses_83 : decode cX5_digestHouses 83 = .ok (.lreturn, 1) := by decide +kernel
set_option maxRecDepth 20000 in
theorem ggX5_digestStrokes_X3_size : GoodIn wsX5_digestStrokes wsX3_size := goodIn_r _ [7, 8, 54, 55, 56] (by decide +kernel) (by decide +kernel)
set_option maxRecDepth 20000 in
theorem gX5_digestStrokes_X3_size : GoodIn wsX5_digestStrokes (wsV RX5 141 RX3 yX3_size wsX3_size) := goodIn_app (goodIn_of _ (by decide +kernel)) ggX5_digestStrokes_X3_size
set_option maxRecDepth 20000 in
theorem ggX5_digestStrokes_X5_stroke : GoodIn wsX5_digestStrokes wsX5_stroke := goodIn_r _ [13, 1, 2, 14, 15, 16, 6, 17, 8, 18, 12, 19, 20, 21, 22, 23, 24, 25, 26, 27, 28, 29, 30, 31, 32, 33, 34, 35, 36, 41, 42, 43, 44, 45, 46, 47, 48, 49, 50, 51, 52, 53, 54, 55, 56] (by decide +kernel) (by decide +kernel)
set_option maxRecDepth 20000 in
theorem gX5_digestStrokes_X5_stroke : GoodIn wsX5_digestStrokes (wsV RX5 236 RX5 yX5_stroke wsX5_stroke) := goodIn_app (goodIn_of _ (by decide +kernel)) ggX5_digestStrokes_X5_stroke
set_option maxRecDepth 20000 in
theorem ggX5_digestStrokes_X5_mix : GoodIn wsX5_digestStrokes wsX5_mix := goodIn_r _ [39, 40] (by decide +kernel) (by decide +kernel)
set_option maxRecDepth 20000 in
theorem gX5_digestStrokes_X5_mix : GoodIn wsX5_digestStrokes (va_wsS RX5 216 yX5_mix wsX5_mix) := goodIn_app (goodIn_of _ (by decide +kernel)) ggX5_digestStrokes_X5_mix
theorem dX5_digestStrokes_0 : decode cX5_digestStrokes 0 = .ok (.lload_n 1, 1) := by decide +kernel
theorem dX5_digestStrokes_1 : decode cX5_digestStrokes 1 = .ok (.lstore_n 3, 1) := by decide +kernel
theorem dX5_digestStrokes_2 : decode cX5_digestStrokes 2 = .ok (.iconst 0, 1) := by decide +kernel
theorem dX5_digestStrokes_3 : decode cX5_digestStrokes 3 = .ok (.istore 5, 2) := by decide +kernel
theorem dX5_digestStrokes_5 : decode cX5_digestStrokes 5 = .ok (.iload 5, 2) := by decide +kernel
theorem dX5_digestStrokes_7 : decode cX5_digestStrokes 7 = .ok (.aload_n 0, 1) := by decide +kernel
theorem dX5_digestStrokes_8 : decode cX5_digestStrokes 8 = .ok (.getfield 23, 3) := by decide +kernel
theorem dX5_digestStrokes_11 : decode cX5_digestStrokes 11 = .ok (.getfield 86, 3) := by decide +kernel
theorem dX5_digestStrokes_14 : decode cX5_digestStrokes 14 = .ok (.invokevirtual 141, 3) := by decide +kernel
theorem dX5_digestStrokes_17 : decode cX5_digestStrokes 17 = .ok (.if_icmp .ge 38, 3) := by decide +kernel
theorem dX5_digestStrokes_20 : decode cX5_digestStrokes 20 = .ok (.iconst 0, 1) := by decide +kernel
theorem dX5_digestStrokes_21 : decode cX5_digestStrokes 21 = .ok (.istore 6, 2) := by decide +kernel
theorem dX5_digestStrokes_23 : decode cX5_digestStrokes 23 = .ok (.iload 6, 2) := by decide +kernel
theorem dX5_digestStrokes_25 : decode cX5_digestStrokes 25 = .ok (.iconst 2, 1) := by decide +kernel
theorem dX5_digestStrokes_26 : decode cX5_digestStrokes 26 = .ok (.if_icmp .gt 23, 3) := by decide +kernel
theorem dX5_digestStrokes_29 : decode cX5_digestStrokes 29 = .ok (.lload_n 3, 1) := by decide +kernel
theorem dX5_digestStrokes_30 : decode cX5_digestStrokes 30 = .ok (.aload_n 0, 1) := by decide +kernel
theorem dX5_digestStrokes_31 : decode cX5_digestStrokes 31 = .ok (.iload 5, 2) := by decide +kernel
theorem dX5_digestStrokes_33 : decode cX5_digestStrokes 33 = .ok (.iload 6, 2) := by decide +kernel
theorem dX5_digestStrokes_35 : decode cX5_digestStrokes 35 = .ok (.invokevirtual 236, 3) := by decide +kernel
theorem dX5_digestStrokes_38 : decode cX5_digestStrokes 38 = .ok (.i2l, 1) := by decide +kernel
theorem dX5_digestStrokes_39 : decode cX5_digestStrokes 39 = .ok (.invokestatic 216, 3) := by decide +kernel
theorem dX5_digestStrokes_42 : decode cX5_digestStrokes 42 = .ok (.lstore_n 3, 1) := by decide +kernel
theorem dX5_digestStrokes_43 : decode cX5_digestStrokes 43 = .ok (.iinc 6 1, 3) := by decide +kernel
theorem dX5_digestStrokes_46 : decode cX5_digestStrokes 46 = .ok (.goto (-23), 3) := by decide +kernel
theorem dX5_digestStrokes_49 : decode cX5_digestStrokes 49 = .ok (.iinc 5 1, 3) := by decide +kernel
theorem dX5_digestStrokes_52 : decode cX5_digestStrokes 52 = .ok (.goto (-47), 3) := by decide +kernel
theorem dX5_digestStrokes_55 : decode cX5_digestStrokes 55 = .ok (.lload_n 3, 1) := by decide +kernel
theorem dX5_digestStrokes_56 : decode cX5_digestStrokes 56 = .ok (.lreturn, 1) := by decide +kernel
theorem dX5_mix_0 : decode cX5_mix 0 = .ok (.ldc2_w 239, 3) := by decide +kernel
theorem dX5_mix_3 : decode cX5_mix 3 = .ok (.lload_n 0, 1) := by decide +kernel
theorem dX5_mix_4 : decode cX5_mix 4 = .ok (.lmul, 1) := by decide +kernel
theorem dX5_mix_5 : decode cX5_mix 5 = .ok (.lload_n 2, 1) := by decide +kernel
theorem dX5_mix_6 : decode cX5_mix 6 = .ok (.ladd, 1) := by decide +kernel
theorem dX5_mix_7 : decode cX5_mix 7 = .ok (.lreturn, 1) := by decide +kernel
theorem dX5_isWithin_0 : decode cX5_isWithin 0 = .ok (.iload_n 0, 1) := by decide +kernel
theorem dX5_isWithin_1 : decode cX5_isWithin 1 = .ok (.iload_n 1, 1) := by decide +kernel
theorem dX5_isWithin_2 : decode cX5_isWithin 2 = .ok (.if_icmp .lt 12, 3) := by decide +kernel
theorem dX5_isWithin_5 : decode cX5_isWithin 5 = .ok (.iload_n 0, 1) := by decide +kernel
theorem dX5_isWithin_6 : decode cX5_isWithin 6 = .ok (.iload_n 2, 1) := by decide +kernel
theorem dX5_isWithin_7 : decode cX5_isWithin 7 = .ok (.if_icmp .gt 7, 3) := by decide +kernel
theorem dX5_isWithin_10 : decode cX5_isWithin 10 = .ok (.iconst 1, 1) := by decide +kernel
theorem dX5_isWithin_11 : decode cX5_isWithin 11 = .ok (.goto 4, 3) := by decide +kernel
theorem dX5_isWithin_14 : decode cX5_isWithin 14 = .ok (.iconst 0, 1) := by decide +kernel
theorem dX5_isWithin_15 : decode cX5_isWithin 15 = .ok (.ireturn, 1) := by decide +kernel
set_option maxRecDepth 20000 in
theorem ggX5_isHourOfDay_X5_isWithin : GoodIn wsX5_isHourOfDay wsX5_isWithin := goodIn_r _ [4] (by decide +kernel) (by decide +kernel)
end
section
set_option maxRecDepth 20000 in
theorem gX5_isHourOfDay_X5_isWithin : GoodIn wsX5_isHourOfDay (va_wsS RX5 40 yX5_isWithin wsX5_isWithin) := goodIn_app (goodIn_of _ (by decide +kernel)) ggX5_isHourOfDay_X5_isWithin
theorem dX5_isHourOfDay_0 : decode cX5_isHourOfDay 0 = .ok (.iload_n 0, 1) := by decide +kernel
theorem dX5_isHourOfDay_1 : decode cX5_isHourOfDay 1 = .ok (.iconst 0, 1) := by decide +kernel
theorem dX5_isHourOfDay_2 : decode cX5_isHourOfDay 2 = .ok (.bipush 11, 2) := by decide +kernel
theorem dX5_isHourOfDay_4 : decode cX5_isHourOfDay 4 = .ok (.invokestatic 40, 3) := by decide +kernel
theorem dX5_isHourOfDay_7 : decode cX5_isHourOfDay 7 = .ok (.ireturn, 1) := by decide +kernel
set_option maxRecDepth 20000 in
theorem ggX5_isHeardLoud_X5_isWithin : GoodIn wsX5_isHeardLoud wsX5_isWithin := goodIn_r _ [4] (by decide +kernel) (by decide +kernel)
set_option maxRecDepth 20000 in
theorem gX5_isHeardLoud_X5_isWithin : GoodIn wsX5_isHeardLoud (va_wsS RX5 40 yX5_isWithin wsX5_isWithin) := goodIn_app (goodIn_of _ (by decide +kernel)) ggX5_isHeardLoud_X5_isWithin
theorem dX5_isHeardLoud_0 : decode cX5_isHeardLoud 0 = .ok (.iload_n 0, 1) := by decide +kernel
theorem dX5_isHeardLoud_1 : decode cX5_isHeardLoud 1 = .ok (.iconst 1, 1) := by decide +kernel
theorem dX5_isHeardLoud_2 : decode cX5_isHeardLoud 2 = .ok (.bipush 9, 2) := by decide +kernel
theorem dX5_isHeardLoud_4 : decode cX5_isHeardLoud 4 = .ok (.invokestatic 40, 3) := by decide +kernel
theorem dX5_isHeardLoud_7 : decode cX5_isHeardLoud 7 = .ok (.ireturn, 1) := by decide +kernel
theorem dX5_hasColony_0 : decode cX5_hasColony 0 = .ok (.aload_n 0, 1) := by decide +kernel
theorem dX5_hasColony_1 : decode cX5_hasColony 1 = .ok (.getfield 65, 3) := by decide +kernel
theorem dX5_hasColony_4 : decode cX5_hasColony 4 = .ok (.ifCond .le 7, 3) := by decide +kernel
theorem dX5_hasColony_7 : decode cX5_hasColony 7 = .ok (.iconst 1, 1) := by decide +kernel
theorem dX5_hasColony_8 : decode cX5_hasColony 8 = .ok (.goto 4, 3) := by decide +kernel
theorem dX5_hasColony_11 : decode cX5_hasColony 11 = .ok (.iconst 0, 1) := by decide +kernel
theorem dX5_hasColony_12 : decode cX5_hasColony 12 = .ok (.ireturn, 1) := by decide +kernel
set_option maxRecDepth 20000 in
theorem ggX5_isHouse_X5_isWithin : GoodIn wsX5_isHouse wsX5_isWithin := goodIn_r _ [5] (by decide +kernel) (by decide +kernel)
set_option maxRecDepth 20000 in
theorem gX5_isHouse_X5_isWithin : GoodIn wsX5_isHouse (va_wsS RX5 40 yX5_isWithin wsX5_isWithin) := goodIn_app (goodIn_of _ (by decide +kernel)) ggX5_isHouse_X5_isWithin
theorem dX5_isHouse_0 : decode cX5_isHouse 0 = .ok (.iload_n 1, 1) := by decide +kernel
theorem dX5_isHouse_1 : decode cX5_isHouse 1 = .ok (.iconst 0, 1) := by decide +kernel
theorem dX5_isHouse_2 : decode cX5_isHouse 2 = .ok (.aload_n 0, 1) := by decide +kernel
theorem dX5_isHouse_3 : decode cX5_isHouse 3 = .ok (.getfield 65, 3) := by decide +kernel
theorem dX5_isHouse_6 : decode cX5_isHouse 6 = .ok (.iconst 1, 1) := by decide +kernel
theorem dX5_isHouse_7 : decode cX5_isHouse 7 = .ok (.isub, 1) := by decide +kernel
theorem dX5_isHouse_8 : decode cX5_isHouse 8 = .ok (.invokestatic 40, 3) := by decide +kernel
theorem dX5_isHouse_11 : decode cX5_isHouse 11 = .ok (.ireturn, 1) := by decide +kernel
theorem dX5_allHouses_0 : decode cX5_allHouses 0 = .ok (.iconst 1, 1) := by decide +kernel
theorem dX5_allHouses_1 : decode cX5_allHouses 1 = .ok (.aload_n 0, 1) := by decide +kernel
theorem dX5_allHouses_2 : decode cX5_allHouses 2 = .ok (.getfield 65, 3) := by decide +kernel
theorem dX5_allHouses_5 : decode cX5_allHouses 5 = .ok (.ishl, 1) := by decide +kernel
theorem dX5_allHouses_6 : decode cX5_allHouses 6 = .ok (.iconst 1, 1) := by decide +kernel
theorem dX5_allHouses_7 : decode cX5_allHouses 7 = .ok (.isub, 1) := by decide +kernel
theorem dX5_allHouses_8 : decode cX5_allHouses 8 = .ok (.ireturn, 1) := by decide +kernel
set_option maxRecDepth 20000 in
theorem ggX5_kindAt_X5_isWithin : GoodIn wsX5_kindAt wsX5_isWithin := goodIn_r _ [5] (by decide +kernel) (by decide +kernel)
set_option maxRecDepth 20000 in
theorem gX5_kindAt_X5_isWithin : GoodIn wsX5_kindAt (va_wsS RX5 40 yX5_isWithin wsX5_isWithin) := goodIn_app (goodIn_of _ (by decide +kernel)) ggX5_kindAt_X5_isWithin
theorem dX5_kindAt_0 : decode cX5_kindAt 0 = .ok (.iload_n 1, 1) := by decide +kernel
theorem dX5_kindAt_1 : decode cX5_kindAt 1 = .ok (.iconst 0, 1) := by decide +kernel
theorem dX5_kindAt_2 : decode cX5_kindAt 2 = .ok (.iconst 4, 1) := by decide +kernel
theorem dX5_kindAt_3 : decode cX5_kindAt 3 = .ok (.invokestatic 40, 3) := by decide +kernel
theorem dX5_kindAt_6 : decode cX5_kindAt 6 = .ok (.ifCond .eq 12, 3) := by decide +kernel
theorem dX5_kindAt_9 : decode cX5_kindAt 9 = .ok (.aload_n 0, 1) := by decide +kernel
theorem dX5_kindAt_10 : decode cX5_kindAt 10 = .ok (.getfield 16, 3) := by decide +kernel
theorem dX5_kindAt_13 : decode cX5_kindAt 13 = .ok (.iload_n 1, 1) := by decide +kernel
theorem dX5_kindAt_14 : decode cX5_kindAt 14 = .ok (.iaload, 1) := by decide +kernel
theorem dX5_kindAt_15 : decode cX5_kindAt 15 = .ok (.goto 4, 3) := by decide +kernel
theorem dX5_kindAt_18 : decode cX5_kindAt 18 = .ok (.iconst 0, 1) := by decide +kernel
theorem dX5_kindAt_19 : decode cX5_kindAt 19 = .ok (.ireturn, 1) := by decide +kernel
theorem dX5_kindOf_0 : decode cX5_kindOf 0 = .ok (.iload_n 0, 1) := by decide +kernel
theorem dX5_kindOf_1 : decode cX5_kindOf 1 = .ok (.tableswitch 77 99 111 #[75, 73, 77, 77, 77, 67, 77, 77, 77, 69, 77, 77, 71], 67) := by decide +kernel
theorem dX5_kindOf_68 : decode cX5_kindOf 68 = .ok (.iconst 0, 1) := by decide +kernel
theorem dX5_kindOf_69 : decode cX5_kindOf 69 = .ok (.ireturn, 1) := by decide +kernel
theorem dX5_kindOf_70 : decode cX5_kindOf 70 = .ok (.iconst 1, 1) := by decide +kernel
theorem dX5_kindOf_71 : decode cX5_kindOf 71 = .ok (.ireturn, 1) := by decide +kernel
theorem dX5_kindOf_72 : decode cX5_kindOf 72 = .ok (.iconst 2, 1) := by decide +kernel
theorem dX5_kindOf_73 : decode cX5_kindOf 73 = .ok (.ireturn, 1) := by decide +kernel
theorem dX5_kindOf_74 : decode cX5_kindOf 74 = .ok (.iconst 3, 1) := by decide +kernel
theorem dX5_kindOf_75 : decode cX5_kindOf 75 = .ok (.ireturn, 1) := by decide +kernel
theorem dX5_kindOf_76 : decode cX5_kindOf 76 = .ok (.iconst 4, 1) := by decide +kernel
theorem dX5_kindOf_77 : decode cX5_kindOf 77 = .ok (.ireturn, 1) := by decide +kernel
theorem dX5_kindOf_78 : decode cX5_kindOf 78 = .ok (.iconst (-1), 1) := by decide +kernel
theorem dX5_kindOf_79 : decode cX5_kindOf 79 = .ok (.ireturn, 1) := by decide +kernel
set_option maxRecDepth 20000 in
theorem ggX5_tideNow_X4_clear : GoodIn wsX5_tideNow wsX4_clear := goodIn_r _ [8, 9, 54] (by decide +kernel) (by decide +kernel)
set_option maxRecDepth 20000 in
theorem gX5_tideNow_X4_clear : GoodIn wsX5_tideNow (wsV RX5 241 RX4 yX4_clear wsX4_clear) := goodIn_app (goodIn_of _ (by decide +kernel)) ggX5_tideNow_X4_clear
set_option maxRecDepth 20000 in
theorem ggX5_tideNow_X3_size : GoodIn wsX5_tideNow wsX3_size := goodIn_r _ [14, 15, 55, 56, 57] (by decide +kernel) (by decide +kernel)
set_option maxRecDepth 20000 in
theorem gX5_tideNow_X3_size : GoodIn wsX5_tideNow (wsV RX5 141 RX3 yX3_size wsX3_size) := goodIn_app (goodIn_of _ (by decide +kernel)) ggX5_tideNow_X3_size
set_option maxRecDepth 20000 in
theorem ggX5_tideNow_X3_hour : GoodIn wsX5_tideNow wsX3_hour := goodIn_r _ [19, 20, 21, 22, 23, 13, 24, 15, 25, 26, 27, 55, 56, 57] (by decide +kernel) (by decide +kernel)
set_option maxRecDepth 20000 in
theorem gX5_tideNow_X3_hour : GoodIn wsX5_tideNow (wsV RX5 151 RX3 yX3_hour wsX3_hour) := goodIn_app (goodIn_of _ (by decide +kernel)) ggX5_tideNow_X3_hour
set_option maxRecDepth 20000 in
theorem ggX5_tideNow_X3_loud : GoodIn wsX5_tideNow wsX3_loud := goodIn_r _ [31, 32, 21, 22, 23, 13, 24, 15, 25, 26, 27, 55, 56, 57] (by decide +kernel) (by decide +kernel)
set_option maxRecDepth 20000 in
theorem gX5_tideNow_X3_loud : GoodIn wsX5_tideNow (wsV RX5 145 RX3 yX3_loud wsX3_loud) := goodIn_app (goodIn_of _ (by decide +kernel)) ggX5_tideNow_X3_loud
set_option maxRecDepth 20000 in
theorem ggX5_tideNow_X4_add : GoodIn wsX5_tideNow wsX4_add := goodIn_r _ [36, 37, 38, 39, 40, 9, 54] (by decide +kernel) (by decide +kernel)
set_option maxRecDepth 20000 in
theorem gX5_tideNow_X4_add : GoodIn wsX5_tideNow (wsV RX5 242 RX4 yX4_add wsX4_add) := goodIn_app (goodIn_of _ (by decide +kernel)) ggX5_tideNow_X4_add
theorem dX5_tideNow_0 : decode cX5_tideNow 0 = .ok (.aload_n 0, 1) := by decide +kernel
theorem dX5_tideNow_1 : decode cX5_tideNow 1 = .ok (.getfield 33, 3) := by decide +kernel
theorem dX5_tideNow_4 : decode cX5_tideNow 4 = .ok (.invokevirtual 241, 3) := by decide +kernel
theorem dX5_tideNow_7 : decode cX5_tideNow 7 = .ok (.aload_n 0, 1) := by decide +kernel
theorem dX5_tideNow_8 : decode cX5_tideNow 8 = .ok (.getfield 23, 3) := by decide +kernel
theorem dX5_tideNow_11 : decode cX5_tideNow 11 = .ok (.getfield 86, 3) := by decide +kernel
theorem dX5_tideNow_14 : decode cX5_tideNow 14 = .ok (.astore_n 1, 1) := by decide +kernel
theorem dX5_tideNow_15 : decode cX5_tideNow 15 = .ok (.iconst 0, 1) := by decide +kernel
theorem dX5_tideNow_16 : decode cX5_tideNow 16 = .ok (.istore_n 2, 1) := by decide +kernel
theorem dX5_tideNow_17 : decode cX5_tideNow 17 = .ok (.iload_n 2, 1) := by decide +kernel
theorem dX5_tideNow_18 : decode cX5_tideNow 18 = .ok (.aload_n 1, 1) := by decide +kernel
theorem dX5_tideNow_19 : decode cX5_tideNow 19 = .ok (.invokevirtual 141, 3) := by decide +kernel
theorem dX5_tideNow_22 : decode cX5_tideNow 22 = .ok (.if_icmp .ge 26, 3) := by decide +kernel
theorem dX5_tideNow_25 : decode cX5_tideNow 25 = .ok (.aload_n 0, 1) := by decide +kernel
theorem dX5_tideNow_26 : decode cX5_tideNow 26 = .ok (.getfield 33, 3) := by decide +kernel
theorem dX5_tideNow_29 : decode cX5_tideNow 29 = .ok (.aload_n 1, 1) := by decide +kernel
theorem dX5_tideNow_30 : decode cX5_tideNow 30 = .ok (.iload_n 2, 1) := by decide +kernel
theorem dX5_tideNow_31 : decode cX5_tideNow 31 = .ok (.invokevirtual 151, 3) := by decide +kernel
theorem dX5_tideNow_34 : decode cX5_tideNow 34 = .ok (.aload_n 1, 1) := by decide +kernel
theorem dX5_tideNow_35 : decode cX5_tideNow 35 = .ok (.iload_n 2, 1) := by decide +kernel
theorem dX5_tideNow_36 : decode cX5_tideNow 36 = .ok (.invokevirtual 145, 3) := by decide +kernel
theorem dX5_tideNow_39 : decode cX5_tideNow 39 = .ok (.invokevirtual 242, 3) := by decide +kernel
theorem dX5_tideNow_42 : decode cX5_tideNow 42 = .ok (.iinc 2 1, 3) := by decide +kernel
theorem dX5_tideNow_45 : decode cX5_tideNow 45 = .ok (.goto (-28), 3) := by decide +kernel
theorem dX5_tideNow_48 : decode cX5_tideNow 48 = .ok (.aload_n 0, 1) := by decide +kernel
theorem dX5_tideNow_49 : decode cX5_tideNow 49 = .ok (.getfield 33, 3) := by decide +kernel
theorem dX5_tideNow_52 : decode cX5_tideNow 52 = .ok (.areturn, 1) := by decide +kernel
set_option maxRecDepth 20000 in
theorem ggX5_suppose_X4_copyFrom : GoodIn wsX5_suppose wsX4_copyFrom := goodIn_r _ [6, 7, 25] (by decide +kernel) (by decide +kernel)
set_option maxRecDepth 20000 in
theorem gX5_suppose_X4_copyFrom : GoodIn wsX5_suppose (wsV RX5 244 RX4 yX4_copyFrom wsX4_copyFrom) := goodIn_app (goodIn_of _ (by decide +kernel)) ggX5_suppose_X4_copyFrom
set_option maxRecDepth 20000 in
theorem ggX5_suppose_X4_add : GoodIn wsX5_suppose wsX4_add := goodIn_r _ [11, 12, 13, 14, 15, 7, 25] (by decide +kernel) (by decide +kernel)
set_option maxRecDepth 20000 in
theorem gX5_suppose_X4_add : GoodIn wsX5_suppose (wsV RX5 242 RX4 yX4_add wsX4_add) := goodIn_app (goodIn_of _ (by decide +kernel)) ggX5_suppose_X4_add
theorem dX5_suppose_0 : decode cX5_suppose 0 = .ok (.aload_n 0, 1) := by decide +kernel
theorem dX5_suppose_1 : decode cX5_suppose 1 = .ok (.getfield 37, 3) := by decide +kernel
theorem dX5_suppose_4 : decode cX5_suppose 4 = .ok (.aload_n 1, 1) := by decide +kernel
theorem dX5_suppose_5 : decode cX5_suppose 5 = .ok (.invokevirtual 244, 3) := by decide +kernel
theorem dX5_suppose_8 : decode cX5_suppose 8 = .ok (.aload_n 0, 1) := by decide +kernel
theorem dX5_suppose_9 : decode cX5_suppose 9 = .ok (.getfield 37, 3) := by decide +kernel
theorem dX5_suppose_12 : decode cX5_suppose 12 = .ok (.iload_n 2, 1) := by decide +kernel
theorem dX5_suppose_13 : decode cX5_suppose 13 = .ok (.iload_n 3, 1) := by decide +kernel
theorem dX5_suppose_14 : decode cX5_suppose 14 = .ok (.invokevirtual 242, 3) := by decide +kernel
theorem dX5_suppose_17 : decode cX5_suppose 17 = .ok (.aload_n 0, 1) := by decide +kernel
theorem dX5_suppose_18 : decode cX5_suppose 18 = .ok (.getfield 37, 3) := by decide +kernel
theorem dX5_suppose_21 : decode cX5_suppose 21 = .ok (.areturn, 1) := by decide +kernel
set_option maxRecDepth 20000 in
theorem ggX5_drawDay_X4_clear : GoodIn wsX5_drawDay wsX4_clear := goodIn_r _ [12, 13, 53] (by decide +kernel) (by decide +kernel)
set_option maxRecDepth 20000 in
theorem gX5_drawDay_X4_clear : GoodIn wsX5_drawDay (wsV RX5 241 RX4 yX4_clear wsX4_clear) := goodIn_app (goodIn_of _ (by decide +kernel)) ggX5_drawDay_X4_clear
set_option maxRecDepth 20000 in
theorem ggX5_drawDay_X3_size : GoodIn wsX5_drawDay wsX3_size := goodIn_r _ [18, 19, 54, 55, 56] (by decide +kernel) (by decide +kernel)
set_option maxRecDepth 20000 in
theorem gX5_drawDay_X3_size : GoodIn wsX5_drawDay (wsV RX5 141 RX3 yX3_size wsX3_size) := goodIn_app (goodIn_of _ (by decide +kernel)) ggX5_drawDay_X3_size
set_option maxRecDepth 20000 in
theorem ggX5_drawDay_X3_loud : GoodIn wsX5_drawDay wsX3_loud := goodIn_r _ [23, 24, 25, 26, 27, 17, 28, 19, 29, 30, 31, 54, 55, 56] (by decide +kernel) (by decide +kernel)
set_option maxRecDepth 20000 in
theorem gX5_drawDay_X3_loud : GoodIn wsX5_drawDay (wsV RX5 145 RX3 yX3_loud wsX3_loud) := goodIn_app (goodIn_of _ (by decide +kernel)) ggX5_drawDay_X3_loud
set_option maxRecDepth 20000 in
theorem ggX5_drawDay_X4_add : GoodIn wsX5_drawDay wsX4_add := goodIn_r _ [35, 36, 37, 38, 39, 13, 53] (by decide +kernel) (by decide +kernel)
set_option maxRecDepth 20000 in
theorem gX5_drawDay_X4_add : GoodIn wsX5_drawDay (wsV RX5 242 RX4 yX4_add wsX4_add) := goodIn_app (goodIn_of _ (by decide +kernel)) ggX5_drawDay_X4_add
theorem dX5_drawDay_0 : decode cX5_drawDay 0 = .ok (.iload_n 1, 1) := by decide +kernel
theorem dX5_drawDay_1 : decode cX5_drawDay 1 = .ok (.istore_n 2, 1) := by decide +kernel
theorem dX5_drawDay_2 : decode cX5_drawDay 2 = .ok (.aload_n 0, 1) := by decide +kernel
theorem dX5_drawDay_3 : decode cX5_drawDay 3 = .ok (.getfield 23, 3) := by decide +kernel
theorem dX5_drawDay_6 : decode cX5_drawDay 6 = .ok (.getfield 86, 3) := by decide +kernel
theorem dX5_drawDay_9 : decode cX5_drawDay 9 = .ok (.astore_n 3, 1) := by decide +kernel
theorem dX5_drawDay_10 : decode cX5_drawDay 10 = .ok (.aload_n 0, 1) := by decide +kernel
theorem dX5_drawDay_11 : decode cX5_drawDay 11 = .ok (.getfield 37, 3) := by decide +kernel
theorem dX5_drawDay_14 : decode cX5_drawDay 14 = .ok (.invokevirtual 241, 3) := by decide +kernel
theorem dX5_drawDay_17 : decode cX5_drawDay 17 = .ok (.iconst 0, 1) := by decide +kernel
theorem dX5_drawDay_18 : decode cX5_drawDay 18 = .ok (.istore 4, 2) := by decide +kernel
theorem dX5_drawDay_20 : decode cX5_drawDay 20 = .ok (.iload 4, 2) := by decide +kernel
theorem dX5_drawDay_22 : decode cX5_drawDay 22 = .ok (.aload_n 3, 1) := by decide +kernel
theorem dX5_drawDay_23 : decode cX5_drawDay 23 = .ok (.invokevirtual 141, 3) := by decide +kernel
theorem dX5_drawDay_26 : decode cX5_drawDay 26 = .ok (.if_icmp .ge 45, 3) := by decide +kernel
theorem dX5_drawDay_29 : decode cX5_drawDay 29 = .ok (.ldc2_w 247, 3) := by decide +kernel
theorem dX5_drawDay_32 : decode cX5_drawDay 32 = .ok (.iload_n 2, 1) := by decide +kernel
theorem dX5_drawDay_33 : decode cX5_drawDay 33 = .ok (.i2l, 1) := by decide +kernel
theorem dX5_drawDay_34 : decode cX5_drawDay 34 = .ok (.lmul, 1) := by decide +kernel
theorem dX5_drawDay_35 : decode cX5_drawDay 35 = .ok (.ldc2_w 249, 3) := by decide +kernel
theorem dX5_drawDay_38 : decode cX5_drawDay 38 = .ok (.ladd, 1) := by decide +kernel
theorem dX5_drawDay_39 : decode cX5_drawDay 39 = .ok (.ldc2_w 251, 3) := by decide +kernel
theorem dX5_drawDay_42 : decode cX5_drawDay 42 = .ok (.lrem, 1) := by decide +kernel
theorem dX5_drawDay_43 : decode cX5_drawDay 43 = .ok (.l2i, 1) := by decide +kernel
theorem dX5_drawDay_44 : decode cX5_drawDay 44 = .ok (.istore_n 2, 1) := by decide +kernel
theorem dX5_drawDay_45 : decode cX5_drawDay 45 = .ok (.aload_n 0, 1) := by decide +kernel
theorem dX5_drawDay_46 : decode cX5_drawDay 46 = .ok (.getfield 37, 3) := by decide +kernel
theorem dX5_drawDay_49 : decode cX5_drawDay 49 = .ok (.iload_n 2, 1) := by decide +kernel
theorem dX5_drawDay_50 : decode cX5_drawDay 50 = .ok (.ldc 253, 2) := by decide +kernel
theorem dX5_drawDay_52 : decode cX5_drawDay 52 = .ok (.idiv, 1) := by decide +kernel
theorem dX5_drawDay_53 : decode cX5_drawDay 53 = .ok (.bipush 10, 2) := by decide +kernel
theorem dX5_drawDay_55 : decode cX5_drawDay 55 = .ok (.irem, 1) := by decide +kernel
theorem dX5_drawDay_56 : decode cX5_drawDay 56 = .ok (.aload_n 3, 1) := by decide +kernel
theorem dX5_drawDay_57 : decode cX5_drawDay 57 = .ok (.iload 4, 2) := by decide +kernel
theorem dX5_drawDay_59 : decode cX5_drawDay 59 = .ok (.invokevirtual 145, 3) := by decide +kernel
theorem dX5_drawDay_62 : decode cX5_drawDay 62 = .ok (.invokevirtual 242, 3) := by decide +kernel
theorem dX5_drawDay_65 : decode cX5_drawDay 65 = .ok (.iinc 4 1, 3) := by decide +kernel
theorem dX5_drawDay_68 : decode cX5_drawDay 68 = .ok (.goto (-48), 3) := by decide +kernel
theorem dX5_drawDay_71 : decode cX5_drawDay 71 = .ok (.iload_n 2, 1) := by decide +kernel
theorem dX5_drawDay_72 : decode cX5_drawDay 72 = .ok (.ireturn, 1) := by decide +kernel
set_option maxRecDepth 20000 in
theorem ggX5_mannersAt_X0_level : GoodIn wsX5_mannersAt wsX0_level := goodIn_r _ [13, 14, 15, 16, 17, 43, 44, 45, 46] (by decide +kernel) (by decide +kernel)
set_option maxRecDepth 20000 in
theorem gX5_mannersAt_X0_level : GoodIn wsX5_mannersAt (wsV RX5 113 RX0 yX0_level wsX0_level) := goodIn_app (goodIn_of _ (by decide +kernel)) ggX5_mannersAt_X0_level
set_option maxRecDepth 20000 in
theorem ggX5_mannersAt_X5_kindAt : GoodIn wsX5_mannersAt wsX5_kindAt := goodIn_r _ [21, 22, 23, 15, 16, 17, 34, 35, 36, 37, 38, 39, 40, 41, 42] (by decide +kernel) (by decide +kernel)
set_option maxRecDepth 20000 in
theorem gX5_mannersAt_X5_kindAt : GoodIn wsX5_mannersAt (wsV RX5 110 RX5 yX5_kindAt wsX5_kindAt) := goodIn_app (goodIn_of _ (by decide +kernel)) ggX5_mannersAt_X5_kindAt
set_option maxRecDepth 20000 in
theorem ggX5_mannersAt_X4_at : GoodIn wsX5_mannersAt wsX4_at := goodIn_r _ [28, 29, 30, 7, 4, 8, 47] (by decide +kernel) (by decide +kernel)
set_option maxRecDepth 20000 in
theorem gX5_mannersAt_X4_at : GoodIn wsX5_mannersAt (wsV RX5 137 RX4 yX4_at wsX4_at) := goodIn_app (goodIn_of _ (by decide +kernel)) ggX5_mannersAt_X4_at
set_option maxRecDepth 20000 in
theorem ggX5_mannersAt_X5_above : GoodIn wsX5_mannersAt wsX5_above := goodIn_r _ [33, 2, 3, 4, 5] (by decide +kernel) (by decide +kernel)
set_option maxRecDepth 20000 in
theorem gX5_mannersAt_X5_above : GoodIn wsX5_mannersAt (va_wsS RX5 259 yX5_above wsX5_above) := goodIn_app (goodIn_of _ (by decide +kernel)) ggX5_mannersAt_X5_above
theorem dX5_mannersAt_0 : decode cX5_mannersAt 0 = .ok (.aload_n 0, 1) := by decide +kernel
theorem dX5_mannersAt_1 : decode cX5_mannersAt 1 = .ok (.getfield 23, 3) := by decide +kernel
theorem dX5_mannersAt_4 : decode cX5_mannersAt 4 = .ok (.iload_n 1, 1) := by decide +kernel
theorem dX5_mannersAt_5 : decode cX5_mannersAt 5 = .ok (.invokevirtual 113, 3) := by decide +kernel
theorem dX5_mannersAt_8 : decode cX5_mannersAt 8 = .ok (.istore 4, 2) := by decide +kernel
theorem dX5_mannersAt_10 : decode cX5_mannersAt 10 = .ok (.iconst 0, 1) := by decide +kernel
theorem dX5_mannersAt_11 : decode cX5_mannersAt 11 = .ok (.iload 4, 2) := by decide +kernel
theorem dX5_mannersAt_13 : decode cX5_mannersAt 13 = .ok (.iconst 3, 1) := by decide +kernel
theorem dX5_mannersAt_14 : decode cX5_mannersAt 14 = .ok (.isub, 1) := by decide +kernel
theorem dX5_mannersAt_15 : decode cX5_mannersAt 15 = .ok (.invokestatic 254, 3) := by decide +kernel
theorem dX5_mannersAt_18 : decode cX5_mannersAt 18 = .ok (.istore 5, 2) := by decide +kernel
theorem dX5_mannersAt_20 : decode cX5_mannersAt 20 = .ok (.aload_n 0, 1) := by decide +kernel
theorem dX5_mannersAt_21 : decode cX5_mannersAt 21 = .ok (.iload_n 1, 1) := by decide +kernel
theorem dX5_mannersAt_22 : decode cX5_mannersAt 22 = .ok (.invokevirtual 110, 3) := by decide +kernel
theorem dX5_mannersAt_25 : decode cX5_mannersAt 25 = .ok (.tableswitch 88 1 4 #[31, 55, 76, 42], 31) := by decide +kernel
theorem dX5_mannersAt_56 : decode cX5_mannersAt 56 = .ok (.iload 5, 2) := by decide +kernel
theorem dX5_mannersAt_58 : decode cX5_mannersAt 58 = .ok (.aload_n 2, 1) := by decide +kernel
theorem dX5_mannersAt_59 : decode cX5_mannersAt 59 = .ok (.iload_n 3, 1) := by decide +kernel
theorem dX5_mannersAt_60 : decode cX5_mannersAt 60 = .ok (.invokevirtual 137, 3) := by decide +kernel
theorem dX5_mannersAt_63 : decode cX5_mannersAt 63 = .ok (.invokestatic 259, 3) := by decide +kernel
theorem dX5_mannersAt_66 : decode cX5_mannersAt 66 = .ok (.ireturn, 1) := by decide +kernel
theorem dX5_mannersAt_67 : decode cX5_mannersAt 67 = .ok (.iload 5, 2) := by decide +kernel
theorem dX5_mannersAt_69 : decode cX5_mannersAt 69 = .ok (.aload_n 2, 1) := by decide +kernel
theorem dX5_mannersAt_70 : decode cX5_mannersAt 70 = .ok (.iload_n 3, 1) := by decide +kernel
theorem dX5_mannersAt_71 : decode cX5_mannersAt 71 = .ok (.iconst 1, 1) := by decide +kernel
theorem dX5_mannersAt_72 : decode cX5_mannersAt 72 = .ok (.isub, 1) := by decide +kernel
theorem dX5_mannersAt_73 : decode cX5_mannersAt 73 = .ok (.invokevirtual 137, 3) := by decide +kernel
theorem dX5_mannersAt_76 : decode cX5_mannersAt 76 = .ok (.invokestatic 259, 3) := by decide +kernel
theorem dX5_mannersAt_79 : decode cX5_mannersAt 79 = .ok (.ireturn, 1) := by decide +kernel
theorem dX5_mannersAt_80 : decode cX5_mannersAt 80 = .ok (.iload 4, 2) := by decide +kernel
theorem dX5_mannersAt_82 : decode cX5_mannersAt 82 = .ok (.aload_n 2, 1) := by decide +kernel
theorem dX5_mannersAt_83 : decode cX5_mannersAt 83 = .ok (.iload_n 3, 1) := by decide +kernel
theorem dX5_mannersAt_84 : decode cX5_mannersAt 84 = .ok (.invokevirtual 137, 3) := by decide +kernel
theorem dX5_mannersAt_87 : decode cX5_mannersAt 87 = .ok (.aload_n 2, 1) := by decide +kernel
theorem dX5_mannersAt_88 : decode cX5_mannersAt 88 = .ok (.iload_n 3, 1) := by decide +kernel
theorem dX5_mannersAt_89 : decode cX5_mannersAt 89 = .ok (.iconst 1, 1) := by decide +kernel
theorem dX5_mannersAt_90 : decode cX5_mannersAt 90 = .ok (.isub, 1) := by decide +kernel
theorem dX5_mannersAt_91 : decode cX5_mannersAt 91 = .ok (.invokevirtual 137, 3) := by decide +kernel
theorem dX5_mannersAt_94 : decode cX5_mannersAt 94 = .ok (.invokestatic 262, 3) := by decide +kernel
theorem dX5_mannersAt_97 : decode cX5_mannersAt 97 = .ok (.invokestatic 259, 3) := by decide +kernel
theorem dX5_mannersAt_100 : decode cX5_mannersAt 100 = .ok (.ireturn, 1) := by decide +kernel
theorem dX5_mannersAt_101 : decode cX5_mannersAt 101 = .ok (.iload_n 3, 1) := by decide +kernel
theorem dX5_mannersAt_102 : decode cX5_mannersAt 102 = .ok (.iconst 2, 1) := by decide +kernel
theorem dX5_mannersAt_103 : decode cX5_mannersAt 103 = .ok (.irem, 1) := by decide +kernel
theorem dX5_mannersAt_104 : decode cX5_mannersAt 104 = .ok (.ifCond .ne 7, 3) := by decide +kernel
theorem dX5_mannersAt_107 : decode cX5_mannersAt 107 = .ok (.iconst 3, 1) := by decide +kernel
theorem dX5_mannersAt_108 : decode cX5_mannersAt 108 = .ok (.goto 4, 3) := by decide +kernel
theorem dX5_mannersAt_111 : decode cX5_mannersAt 111 = .ok (.iconst 0, 1) := by decide +kernel
theorem dX5_mannersAt_112 : decode cX5_mannersAt 112 = .ok (.ireturn, 1) := by decide +kernel
theorem dX5_mannersAt_113 : decode cX5_mannersAt 113 = .ok (.iload 4, 2) := by decide +kernel
theorem dX5_mannersAt_115 : decode cX5_mannersAt 115 = .ok (.aload_n 2, 1) := by decide +kernel
theorem dX5_mannersAt_116 : decode cX5_mannersAt 116 = .ok (.iload_n 3, 1) := by decide +kernel
theorem dX5_mannersAt_117 : decode cX5_mannersAt 117 = .ok (.invokevirtual 137, 3) := by decide +kernel
theorem dX5_mannersAt_120 : decode cX5_mannersAt 120 = .ok (.invokestatic 259, 3) := by decide +kernel
theorem dX5_mannersAt_123 : decode cX5_mannersAt 123 = .ok (.ireturn, 1) := by decide +kernel
theorem dX5_above_0 : decode cX5_above 0 = .ok (.iconst 0, 1) := by decide +kernel
theorem dX5_above_1 : decode cX5_above 1 = .ok (.iload_n 1, 1) := by decide +kernel
theorem dX5_above_2 : decode cX5_above 2 = .ok (.iload_n 0, 1) := by decide +kernel
theorem dX5_above_3 : decode cX5_above 3 = .ok (.isub, 1) := by decide +kernel
theorem dX5_above_4 : decode cX5_above 4 = .ok (.invokestatic 254, 3) := by decide +kernel
theorem dX5_above_7 : decode cX5_above 7 = .ok (.ireturn, 1) := by decide +kernel
theorem dX5_howAt_0 : decode cX5_howAt 0 = .ok (.iload_n 0, 1) := by decide +kernel
theorem dX5_howAt_1 : decode cX5_howAt 1 = .ok (.ifCond .ne 5, 3) := by decide +kernel
theorem dX5_howAt_4 : decode cX5_howAt 4 = .ok (.iconst 0, 1) := by decide +kernel
theorem dX5_howAt_5 : decode cX5_howAt 5 = .ok (.ireturn, 1) := by decide +kernel
theorem dX5_howAt_6 : decode cX5_howAt 6 = .ok (.iload_n 0, 1) := by decide +kernel
theorem dX5_howAt_7 : decode cX5_howAt 7 = .ok (.iconst 5, 1) := by decide +kernel
theorem dX5_howAt_8 : decode cX5_howAt 8 = .ok (.if_icmp .ge 7, 3) := by decide +kernel
theorem dX5_howAt_11 : decode cX5_howAt 11 = .ok (.iconst 1, 1) := by decide +kernel
theorem dX5_howAt_12 : decode cX5_howAt 12 = .ok (.goto 4, 3) := by decide +kernel
theorem dX5_howAt_15 : decode cX5_howAt 15 = .ok (.iconst 2, 1) := by decide +kernel
theorem dX5_howAt_16 : decode cX5_howAt 16 = .ok (.ireturn, 1) := by decide +kernel
set_option maxRecDepth 20000 in
theorem ggX5_hoursOf_X5_mannersAt : GoodIn wsX5_hoursOf wsX5_mannersAt := goodIn_r _ [5, 6, 7, 8, 9, 10, 11, 12, 13, 14, 15, 16, 17, 18, 19, 20, 4, 21, 22, 23, 24, 25, 26, 27, 28, 29, 30, 31, 32, 33, 34, 35, 36, 37, 41, 42, 43, 44, 45, 46, 47, 48, 49, 50, 51, 52, 53, 54] (by decide +kernel) (by decide +kernel)
set_option maxRecDepth 20000 in
theorem gX5_hoursOf_X5_mannersAt : GoodIn wsX5_hoursOf (wsV RX5 124 RX5 yX5_mannersAt wsX5_mannersAt) := goodIn_app (goodIn_of _ (by decide +kernel)) ggX5_hoursOf_X5_mannersAt
set_option maxRecDepth 20000 in
theorem ggX5_hoursOf_X5_howAt : GoodIn wsX5_hoursOf wsX5_howAt := goodIn_r _ [40] (by decide +kernel) (by decide +kernel)
set_option maxRecDepth 20000 in
theorem gX5_hoursOf_X5_howAt : GoodIn wsX5_hoursOf (va_wsS RX5 265 yX5_howAt wsX5_howAt) := goodIn_app (goodIn_of _ (by decide +kernel)) ggX5_hoursOf_X5_howAt
theorem dX5_hoursOf_0 : decode cX5_hoursOf 0 = .ok (.iconst 0, 1) := by decide +kernel
theorem dX5_hoursOf_1 : decode cX5_hoursOf 1 = .ok (.istore 4, 2) := by decide +kernel
theorem dX5_hoursOf_3 : decode cX5_hoursOf 3 = .ok (.iconst 0, 1) := by decide +kernel
theorem dX5_hoursOf_4 : decode cX5_hoursOf 4 = .ok (.istore 5, 2) := by decide +kernel
theorem dX5_hoursOf_6 : decode cX5_hoursOf 6 = .ok (.iload 5, 2) := by decide +kernel
theorem dX5_hoursOf_8 : decode cX5_hoursOf 8 = .ok (.bipush 12, 2) := by decide +kernel
theorem dX5_hoursOf_10 : decode cX5_hoursOf 10 = .ok (.if_icmp .ge 27, 3) := by decide +kernel
theorem dX5_hoursOf_13 : decode cX5_hoursOf 13 = .ok (.aload_n 0, 1) := by decide +kernel
theorem dX5_hoursOf_14 : decode cX5_hoursOf 14 = .ok (.iload_n 2, 1) := by decide +kernel
theorem dX5_hoursOf_15 : decode cX5_hoursOf 15 = .ok (.aload_n 3, 1) := by decide +kernel
theorem dX5_hoursOf_16 : decode cX5_hoursOf 16 = .ok (.iload 5, 2) := by decide +kernel
theorem dX5_hoursOf_18 : decode cX5_hoursOf 18 = .ok (.invokevirtual 124, 3) := by decide +kernel
theorem dX5_hoursOf_21 : decode cX5_hoursOf 21 = .ok (.invokestatic 265, 3) := by decide +kernel
theorem dX5_hoursOf_24 : decode cX5_hoursOf 24 = .ok (.iload_n 1, 1) := by decide +kernel
theorem dX5_hoursOf_25 : decode cX5_hoursOf 25 = .ok (.if_icmp .ne 6, 3) := by decide +kernel
theorem dX5_hoursOf_28 : decode cX5_hoursOf 28 = .ok (.iinc 4 1, 3) := by decide +kernel
theorem dX5_hoursOf_31 : decode cX5_hoursOf 31 = .ok (.iinc 5 1, 3) := by decide +kernel
theorem dX5_hoursOf_34 : decode cX5_hoursOf 34 = .ok (.goto (-28), 3) := by decide +kernel
theorem dX5_hoursOf_37 : decode cX5_hoursOf 37 = .ok (.iload 4, 2) := by decide +kernel
theorem dX5_hoursOf_39 : decode cX5_hoursOf 39 = .ok (.ireturn, 1) := by decide +kernel
set_option maxRecDepth 20000 in
theorem ggX5_hoursOfAll_X5_hoursOf : GoodIn wsX5_hoursOfAll wsX5_hoursOf := goodIn_r _ [6, 7, 8, 9, 5, 10, 11, 12, 13, 14, 15, 16, 17, 18, 19, 20, 21, 22, 23, 24, 25, 26, 27, 28, 29, 30, 31, 32, 33, 34, 35, 36, 37, 38, 39, 40, 41, 42, 43, 44, 45, 46, 47, 48, 49, 50, 51, 52, 53, 54, 55, 56, 57, 58, 59] (by decide +kernel) (by decide +kernel)
set_option maxRecDepth 20000 in
theorem gX5_hoursOfAll_X5_hoursOf : GoodIn wsX5_hoursOfAll (wsV RX5 116 RX5 yX5_hoursOf wsX5_hoursOf) := goodIn_app (goodIn_of _ (by decide +kernel)) ggX5_hoursOfAll_X5_hoursOf
theorem dX5_hoursOfAll_0 : decode cX5_hoursOfAll 0 = .ok (.iconst 0, 1) := by decide +kernel
theorem dX5_hoursOfAll_1 : decode cX5_hoursOfAll 1 = .ok (.istore_n 3, 1) := by decide +kernel
theorem dX5_hoursOfAll_2 : decode cX5_hoursOfAll 2 = .ok (.iconst 0, 1) := by decide +kernel
theorem dX5_hoursOfAll_3 : decode cX5_hoursOfAll 3 = .ok (.istore 4, 2) := by decide +kernel
theorem dX5_hoursOfAll_5 : decode cX5_hoursOfAll 5 = .ok (.iload 4, 2) := by decide +kernel
theorem dX5_hoursOfAll_7 : decode cX5_hoursOfAll 7 = .ok (.aload_n 0, 1) := by decide +kernel
theorem dX5_hoursOfAll_8 : decode cX5_hoursOfAll 8 = .ok (.getfield 65, 3) := by decide +kernel
theorem dX5_hoursOfAll_11 : decode cX5_hoursOfAll 11 = .ok (.if_icmp .ge 20, 3) := by decide +kernel
theorem dX5_hoursOfAll_14 : decode cX5_hoursOfAll 14 = .ok (.iload_n 3, 1) := by decide +kernel
theorem dX5_hoursOfAll_15 : decode cX5_hoursOfAll 15 = .ok (.aload_n 0, 1) := by decide +kernel
theorem dX5_hoursOfAll_16 : decode cX5_hoursOfAll 16 = .ok (.iload_n 1, 1) := by decide +kernel
theorem dX5_hoursOfAll_17 : decode cX5_hoursOfAll 17 = .ok (.iload 4, 2) := by decide +kernel
theorem dX5_hoursOfAll_19 : decode cX5_hoursOfAll 19 = .ok (.aload_n 2, 1) := by decide +kernel
theorem dX5_hoursOfAll_20 : decode cX5_hoursOfAll 20 = .ok (.invokevirtual 116, 3) := by decide +kernel
theorem dX5_hoursOfAll_23 : decode cX5_hoursOfAll 23 = .ok (.iadd, 1) := by decide +kernel
theorem dX5_hoursOfAll_24 : decode cX5_hoursOfAll 24 = .ok (.istore_n 3, 1) := by decide +kernel
theorem dX5_hoursOfAll_25 : decode cX5_hoursOfAll 25 = .ok (.iinc 4 1, 3) := by decide +kernel
theorem dX5_hoursOfAll_28 : decode cX5_hoursOfAll 28 = .ok (.goto (-23), 3) := by decide +kernel
theorem dX5_hoursOfAll_31 : decode cX5_hoursOfAll 31 = .ok (.iload_n 3, 1) := by decide +kernel
theorem dX5_hoursOfAll_32 : decode cX5_hoursOfAll 32 = .ok (.ireturn, 1) := by decide +kernel
set_option maxRecDepth 20000 in
theorem ggX5_hourOfMostManners_X5_mannersAt : GoodIn wsX5_hourOfMostManners wsX5_mannersAt := goodIn_r _ [5, 6, 7, 8, 9, 10, 11, 12, 13, 14, 15, 16, 17, 18, 19, 20, 4, 21, 22, 23, 24, 25, 26, 27, 28, 29, 30, 31, 32, 33, 34, 35, 36, 37, 38, 39, 40, 41, 42, 43, 44, 45, 46, 47, 48, 49, 50, 51] (by decide +kernel) (by decide +kernel)
set_option maxRecDepth 20000 in
theorem gX5_hourOfMostManners_X5_mannersAt : GoodIn wsX5_hourOfMostManners (wsV RX5 124 RX5 yX5_mannersAt wsX5_mannersAt) := goodIn_app (goodIn_of _ (by decide +kernel)) ggX5_hourOfMostManners_X5_mannersAt
theorem dX5_hourOfMostManners_0 : decode cX5_hourOfMostManners 0 = .ok (.iconst 0, 1) := by decide +kernel
theorem dX5_hourOfMostManners_1 : decode cX5_hourOfMostManners 1 = .ok (.istore_n 3, 1) := by decide +kernel
theorem dX5_hourOfMostManners_2 : decode cX5_hourOfMostManners 2 = .ok (.iconst 1, 1) := by decide +kernel
theorem dX5_hourOfMostManners_3 : decode cX5_hourOfMostManners 3 = .ok (.istore 4, 2) := by decide +kernel
theorem dX5_hourOfMostManners_5 : decode cX5_hourOfMostManners 5 = .ok (.iload 4, 2) := by decide +kernel
theorem dX5_hourOfMostManners_7 : decode cX5_hourOfMostManners 7 = .ok (.bipush 12, 2) := by decide +kernel
theorem dX5_hourOfMostManners_9 : decode cX5_hourOfMostManners 9 = .ok (.if_icmp .ge 30, 3) := by decide +kernel
theorem dX5_hourOfMostManners_12 : decode cX5_hourOfMostManners 12 = .ok (.aload_n 0, 1) := by decide +kernel
theorem dX5_hourOfMostManners_13 : decode cX5_hourOfMostManners 13 = .ok (.iload_n 1, 1) := by decide +kernel
theorem dX5_hourOfMostManners_14 : decode cX5_hourOfMostManners 14 = .ok (.aload_n 2, 1) := by decide +kernel
theorem dX5_hourOfMostManners_15 : decode cX5_hourOfMostManners 15 = .ok (.iload 4, 2) := by decide +kernel
theorem dX5_hourOfMostManners_17 : decode cX5_hourOfMostManners 17 = .ok (.invokevirtual 124, 3) := by decide +kernel
theorem dX5_hourOfMostManners_20 : decode cX5_hourOfMostManners 20 = .ok (.aload_n 0, 1) := by decide +kernel
theorem dX5_hourOfMostManners_21 : decode cX5_hourOfMostManners 21 = .ok (.iload_n 1, 1) := by decide +kernel
theorem dX5_hourOfMostManners_22 : decode cX5_hourOfMostManners 22 = .ok (.aload_n 2, 1) := by decide +kernel
theorem dX5_hourOfMostManners_23 : decode cX5_hourOfMostManners 23 = .ok (.iload_n 3, 1) := by decide +kernel
theorem dX5_hourOfMostManners_24 : decode cX5_hourOfMostManners 24 = .ok (.invokevirtual 124, 3) := by decide +kernel
theorem dX5_hourOfMostManners_27 : decode cX5_hourOfMostManners 27 = .ok (.if_icmp .le 6, 3) := by decide +kernel
theorem dX5_hourOfMostManners_30 : decode cX5_hourOfMostManners 30 = .ok (.iload 4, 2) := by decide +kernel
theorem dX5_hourOfMostManners_32 : decode cX5_hourOfMostManners 32 = .ok (.istore_n 3, 1) := by decide +kernel
theorem dX5_hourOfMostManners_33 : decode cX5_hourOfMostManners 33 = .ok (.iinc 4 1, 3) := by decide +kernel
theorem dX5_hourOfMostManners_36 : decode cX5_hourOfMostManners 36 = .ok (.goto (-31), 3) := by decide +kernel
theorem dX5_hourOfMostManners_39 : decode cX5_hourOfMostManners 39 = .ok (.iload_n 3, 1) := by decide +kernel
theorem dX5_hourOfMostManners_40 : decode cX5_hourOfMostManners 40 = .ok (.ireturn, 1) := by decide +kernel
set_option maxRecDepth 20000 in
theorem ggX5_canDine_X5_mannersAt : GoodIn wsX5_canDine wsX5_mannersAt := goodIn_r _ [6, 7, 8, 9, 10, 11, 12, 13, 14, 15, 16, 17, 18, 19, 20, 21, 5, 22, 23, 24, 25, 26, 27, 28, 29, 30, 31, 32, 33, 34, 35, 36, 37, 38, 42, 43, 44, 45, 46, 47, 48, 49, 50, 51, 52, 53, 54, 55] (by decide +kernel) (by decide +kernel)
set_option maxRecDepth 20000 in
theorem gX5_canDine_X5_mannersAt : GoodIn wsX5_canDine (wsV RX5 124 RX5 yX5_mannersAt wsX5_mannersAt) := goodIn_app (goodIn_of _ (by decide +kernel)) ggX5_canDine_X5_mannersAt
set_option maxRecDepth 20000 in
theorem ggX5_canDine_X5_howAt : GoodIn wsX5_canDine wsX5_howAt := goodIn_r _ [41] (by decide +kernel) (by decide +kernel)
set_option maxRecDepth 20000 in
theorem gX5_canDine_X5_howAt : GoodIn wsX5_canDine (va_wsS RX5 265 yX5_howAt wsX5_howAt) := goodIn_app (goodIn_of _ (by decide +kernel)) ggX5_canDine_X5_howAt
theorem dX5_canDine_0 : decode cX5_canDine 0 = .ok (.iconst 0, 1) := by decide +kernel
theorem dX5_canDine_1 : decode cX5_canDine 1 = .ok (.istore 5, 2) := by decide +kernel
theorem dX5_canDine_3 : decode cX5_canDine 3 = .ok (.iload 5, 2) := by decide +kernel
theorem dX5_canDine_5 : decode cX5_canDine 5 = .ok (.aload_n 0, 1) := by decide +kernel
theorem dX5_canDine_6 : decode cX5_canDine 6 = .ok (.getfield 65, 3) := by decide +kernel
theorem dX5_canDine_9 : decode cX5_canDine 9 = .ok (.if_icmp .ge 64, 3) := by decide +kernel
theorem dX5_canDine_12 : decode cX5_canDine 12 = .ok (.iload_n 1, 1) := by decide +kernel
theorem dX5_canDine_13 : decode cX5_canDine 13 = .ok (.iload 5, 2) := by decide +kernel
theorem dX5_canDine_15 : decode cX5_canDine 15 = .ok (.ishr, 1) := by decide +kernel
theorem dX5_canDine_16 : decode cX5_canDine 16 = .ok (.iconst 1, 1) := by decide +kernel
theorem dX5_canDine_17 : decode cX5_canDine 17 = .ok (.iand, 1) := by decide +kernel
theorem dX5_canDine_18 : decode cX5_canDine 18 = .ok (.iconst 1, 1) := by decide +kernel
theorem dX5_canDine_19 : decode cX5_canDine 19 = .ok (.if_icmp .ne 7, 3) := by decide +kernel
theorem dX5_canDine_22 : decode cX5_canDine 22 = .ok (.iconst 1, 1) := by decide +kernel
theorem dX5_canDine_23 : decode cX5_canDine 23 = .ok (.goto 4, 3) := by decide +kernel
theorem dX5_canDine_26 : decode cX5_canDine 26 = .ok (.iconst 0, 1) := by decide +kernel
theorem dX5_canDine_27 : decode cX5_canDine 27 = .ok (.istore 6, 2) := by decide +kernel
theorem dX5_canDine_29 : decode cX5_canDine 29 = .ok (.iload_n 3, 1) := by decide +kernel
theorem dX5_canDine_30 : decode cX5_canDine 30 = .ok (.istore 7, 2) := by decide +kernel
theorem dX5_canDine_32 : decode cX5_canDine 32 = .ok (.iload 6, 2) := by decide +kernel
theorem dX5_canDine_34 : decode cX5_canDine 34 = .ok (.ifCond .eq 33, 3) := by decide +kernel
theorem dX5_canDine_37 : decode cX5_canDine 37 = .ok (.iload 7, 2) := by decide +kernel
theorem dX5_canDine_39 : decode cX5_canDine 39 = .ok (.iload 4, 2) := by decide +kernel
theorem dX5_canDine_41 : decode cX5_canDine 41 = .ok (.if_icmp .ge 26, 3) := by decide +kernel
theorem dX5_canDine_44 : decode cX5_canDine 44 = .ok (.aload_n 0, 1) := by decide +kernel
theorem dX5_canDine_45 : decode cX5_canDine 45 = .ok (.iload 5, 2) := by decide +kernel
theorem dX5_canDine_47 : decode cX5_canDine 47 = .ok (.aload_n 2, 1) := by decide +kernel
theorem dX5_canDine_48 : decode cX5_canDine 48 = .ok (.iload 7, 2) := by decide +kernel
theorem dX5_canDine_50 : decode cX5_canDine 50 = .ok (.invokevirtual 124, 3) := by decide +kernel
theorem dX5_canDine_53 : decode cX5_canDine 53 = .ok (.invokestatic 265, 3) := by decide +kernel
theorem dX5_canDine_56 : decode cX5_canDine 56 = .ok (.ifCond .ne 5, 3) := by decide +kernel
theorem dX5_canDine_59 : decode cX5_canDine 59 = .ok (.iconst 0, 1) := by decide +kernel
theorem dX5_canDine_60 : decode cX5_canDine 60 = .ok (.ireturn, 1) := by decide +kernel
theorem dX5_canDine_61 : decode cX5_canDine 61 = .ok (.iinc 7 1, 3) := by decide +kernel
theorem dX5_canDine_64 : decode cX5_canDine 64 = .ok (.goto (-32), 3) := by decide +kernel
theorem dX5_canDine_67 : decode cX5_canDine 67 = .ok (.iinc 5 1, 3) := by decide +kernel
theorem dX5_canDine_70 : decode cX5_canDine 70 = .ok (.goto (-67), 3) := by decide +kernel
theorem dX5_canDine_73 : decode cX5_canDine 73 = .ok (.iconst 1, 1) := by decide +kernel
theorem dX5_canDine_74 : decode cX5_canDine 74 = .ok (.ireturn, 1) := by decide +kernel
set_option maxRecDepth 20000 in
theorem ggX5_agreesWithHeard_X1_size : GoodIn wsX5_agreesWithHeard wsX1_size := goodIn_r _ [7, 8, 99, 100, 101, 102, 103] (by decide +kernel) (by decide +kernel)
set_option maxRecDepth 20000 in
theorem gX5_agreesWithHeard_X1_size : GoodIn wsX5_agreesWithHeard (wsV RX5 180 RX1 yX1_size wsX1_size) := goodIn_app (goodIn_of _ (by decide +kernel)) ggX5_agreesWithHeard_X1_size
set_option maxRecDepth 20000 in
theorem ggX5_agreesWithHeard_X1_loud : GoodIn wsX5_agreesWithHeard wsX1_loud := goodIn_r _ [12, 13, 14, 15, 16, 6, 17, 8, 18, 19, 20, 99, 100, 101, 102, 103] (by decide +kernel) (by decide +kernel)
set_option maxRecDepth 20000 in
theorem gX5_agreesWithHeard_X1_loud : GoodIn wsX5_agreesWithHeard (wsV RX5 268 RX1 yX1_loud wsX1_loud) := goodIn_app (goodIn_of _ (by decide +kernel)) ggX5_agreesWithHeard_X1_loud
set_option maxRecDepth 20000 in
theorem ggX5_agreesWithHeard_X5_suppose : GoodIn wsX5_agreesWithHeard wsX5_suppose := goodIn_r _ [24, 25, 26, 27, 28, 29, 30, 31, 32, 33, 34, 35, 36, 37, 38, 39, 86, 87, 88, 89, 90, 91, 92, 93, 94, 104] (by decide +kernel) (by decide +kernel)
set_option maxRecDepth 20000 in
theorem gX5_agreesWithHeard_X5_suppose : GoodIn wsX5_agreesWithHeard (wsV RX5 164 RX5 yX5_suppose wsX5_suppose) := goodIn_app (goodIn_of _ (by decide +kernel)) ggX5_agreesWithHeard_X5_suppose
set_option maxRecDepth 20000 in
theorem ggX5_agreesWithHeard_X1_house : GoodIn wsX5_agreesWithHeard wsX1_house := goodIn_r _ [43, 44, 14, 15, 16, 6, 17, 8, 18, 19, 20, 99, 100, 101, 102, 103] (by decide +kernel) (by decide +kernel)
set_option maxRecDepth 20000 in
theorem gX5_agreesWithHeard_X1_house : GoodIn wsX5_agreesWithHeard (wsV RX5 269 RX1 yX1_house wsX1_house) := goodIn_app (goodIn_of _ (by decide +kernel)) ggX5_agreesWithHeard_X1_house
set_option maxRecDepth 20000 in
theorem ggX5_agreesWithHeard_X1_hour : GoodIn wsX5_agreesWithHeard wsX1_hour := goodIn_r _ [48, 49, 14, 15, 16, 6, 17, 8, 18, 19, 20, 99, 100, 101, 102, 103] (by decide +kernel) (by decide +kernel)
set_option maxRecDepth 20000 in
theorem gX5_agreesWithHeard_X1_hour : GoodIn wsX5_agreesWithHeard (wsV RX5 272 RX1 yX1_hour wsX1_hour) := goodIn_app (goodIn_of _ (by decide +kernel)) ggX5_agreesWithHeard_X1_hour
set_option maxRecDepth 20000 in
theorem ggX5_agreesWithHeard_X5_mannersAt : GoodIn wsX5_agreesWithHeard wsX5_mannersAt := goodIn_r _ [53, 1, 54, 37, 38, 39, 55, 56, 57, 58, 59, 60, 61, 62, 63, 18, 19, 20, 64, 65, 66, 67, 68, 69, 70, 71, 72, 29, 73, 31, 74, 75, 76, 77, 86, 87, 88, 89, 90, 91, 92, 93, 94, 95, 96, 97, 98, 104] (by decide +kernel) (by decide +kernel)
set_option maxRecDepth 20000 in
theorem gX5_agreesWithHeard_X5_mannersAt : GoodIn wsX5_agreesWithHeard (wsV RX5 124 RX5 yX5_mannersAt wsX5_mannersAt) := goodIn_app (goodIn_of _ (by decide +kernel)) ggX5_agreesWithHeard_X5_mannersAt
set_option maxRecDepth 20000 in
theorem ggX5_agreesWithHeard_X5_howAt : GoodIn wsX5_agreesWithHeard wsX5_howAt := goodIn_r _ [80] (by decide +kernel) (by decide +kernel)
set_option maxRecDepth 20000 in
theorem gX5_agreesWithHeard_X5_howAt : GoodIn wsX5_agreesWithHeard (va_wsS RX5 265 yX5_howAt wsX5_howAt) := goodIn_app (goodIn_of _ (by decide +kernel)) ggX5_agreesWithHeard_X5_howAt
set_option maxRecDepth 20000 in
theorem ggX5_agreesWithHeard_X1_how : GoodIn wsX5_agreesWithHeard wsX1_how := goodIn_r _ [84, 85, 14, 15, 16, 6, 17, 8, 18, 19, 20, 99, 100, 101, 102, 103] (by decide +kernel) (by decide +kernel)
set_option maxRecDepth 20000 in
theorem gX5_agreesWithHeard_X1_how : GoodIn wsX5_agreesWithHeard (wsV RX5 273 RX1 yX1_how wsX1_how) := goodIn_app (goodIn_of _ (by decide +kernel)) ggX5_agreesWithHeard_X1_how
theorem dX5_agreesWithHeard_0 : decode cX5_agreesWithHeard 0 = .ok (.aload_n 0, 1) := by decide +kernel
theorem dX5_agreesWithHeard_1 : decode cX5_agreesWithHeard 1 = .ok (.getfield 23, 3) := by decide +kernel
theorem dX5_agreesWithHeard_4 : decode cX5_agreesWithHeard 4 = .ok (.getfield 171, 3) := by decide +kernel
theorem dX5_agreesWithHeard_7 : decode cX5_agreesWithHeard 7 = .ok (.astore_n 3, 1) := by decide +kernel
theorem dX5_agreesWithHeard_8 : decode cX5_agreesWithHeard 8 = .ok (.iconst 0, 1) := by decide +kernel
theorem dX5_agreesWithHeard_9 : decode cX5_agreesWithHeard 9 = .ok (.istore 4, 2) := by decide +kernel
theorem dX5_agreesWithHeard_11 : decode cX5_agreesWithHeard 11 = .ok (.iload 4, 2) := by decide +kernel
theorem dX5_agreesWithHeard_13 : decode cX5_agreesWithHeard 13 = .ok (.aload_n 3, 1) := by decide +kernel
theorem dX5_agreesWithHeard_14 : decode cX5_agreesWithHeard 14 = .ok (.invokevirtual 180, 3) := by decide +kernel
theorem dX5_agreesWithHeard_17 : decode cX5_agreesWithHeard 17 = .ok (.if_icmp .ge 59, 3) := by decide +kernel
theorem dX5_agreesWithHeard_20 : decode cX5_agreesWithHeard 20 = .ok (.aload_n 0, 1) := by decide +kernel
theorem dX5_agreesWithHeard_21 : decode cX5_agreesWithHeard 21 = .ok (.aload_n 1, 1) := by decide +kernel
theorem dX5_agreesWithHeard_22 : decode cX5_agreesWithHeard 22 = .ok (.iload_n 2, 1) := by decide +kernel
theorem dX5_agreesWithHeard_23 : decode cX5_agreesWithHeard 23 = .ok (.aload_n 3, 1) := by decide +kernel
theorem dX5_agreesWithHeard_24 : decode cX5_agreesWithHeard 24 = .ok (.iload 4, 2) := by decide +kernel
theorem dX5_agreesWithHeard_26 : decode cX5_agreesWithHeard 26 = .ok (.invokevirtual 268, 3) := by decide +kernel
theorem dX5_agreesWithHeard_29 : decode cX5_agreesWithHeard 29 = .ok (.invokevirtual 164, 3) := by decide +kernel
theorem dX5_agreesWithHeard_32 : decode cX5_agreesWithHeard 32 = .ok (.astore 5, 2) := by decide +kernel
theorem dX5_agreesWithHeard_34 : decode cX5_agreesWithHeard 34 = .ok (.aload_n 0, 1) := by decide +kernel
theorem dX5_agreesWithHeard_35 : decode cX5_agreesWithHeard 35 = .ok (.aload_n 3, 1) := by decide +kernel
theorem dX5_agreesWithHeard_36 : decode cX5_agreesWithHeard 36 = .ok (.iload 4, 2) := by decide +kernel
theorem dX5_agreesWithHeard_38 : decode cX5_agreesWithHeard 38 = .ok (.invokevirtual 269, 3) := by decide +kernel
theorem dX5_agreesWithHeard_41 : decode cX5_agreesWithHeard 41 = .ok (.aload 5, 2) := by decide +kernel
theorem dX5_agreesWithHeard_43 : decode cX5_agreesWithHeard 43 = .ok (.aload_n 3, 1) := by decide +kernel
theorem dX5_agreesWithHeard_44 : decode cX5_agreesWithHeard 44 = .ok (.iload 4, 2) := by decide +kernel
theorem dX5_agreesWithHeard_46 : decode cX5_agreesWithHeard 46 = .ok (.invokevirtual 272, 3) := by decide +kernel
theorem dX5_agreesWithHeard_49 : decode cX5_agreesWithHeard 49 = .ok (.invokevirtual 124, 3) := by decide +kernel
theorem dX5_agreesWithHeard_52 : decode cX5_agreesWithHeard 52 = .ok (.istore 6, 2) := by decide +kernel
theorem dX5_agreesWithHeard_54 : decode cX5_agreesWithHeard 54 = .ok (.iload 6, 2) := by decide +kernel
theorem dX5_agreesWithHeard_56 : decode cX5_agreesWithHeard 56 = .ok (.invokestatic 265, 3) := by decide +kernel
theorem dX5_agreesWithHeard_59 : decode cX5_agreesWithHeard 59 = .ok (.aload_n 3, 1) := by decide +kernel
theorem dX5_agreesWithHeard_60 : decode cX5_agreesWithHeard 60 = .ok (.iload 4, 2) := by decide +kernel
theorem dX5_agreesWithHeard_62 : decode cX5_agreesWithHeard 62 = .ok (.invokevirtual 273, 3) := by decide +kernel
theorem dX5_agreesWithHeard_65 : decode cX5_agreesWithHeard 65 = .ok (.if_icmp .eq 5, 3) := by decide +kernel
theorem dX5_agreesWithHeard_68 : decode cX5_agreesWithHeard 68 = .ok (.iconst 0, 1) := by decide +kernel
theorem dX5_agreesWithHeard_69 : decode cX5_agreesWithHeard 69 = .ok (.ireturn, 1) := by decide +kernel
theorem dX5_agreesWithHeard_70 : decode cX5_agreesWithHeard 70 = .ok (.iinc 4 1, 3) := by decide +kernel
theorem dX5_agreesWithHeard_73 : decode cX5_agreesWithHeard 73 = .ok (.goto (-62), 3) := by decide +kernel
theorem dX5_agreesWithHeard_76 : decode cX5_agreesWithHeard 76 = .ok (.iconst 1, 1) := by decide +kernel
theorem dX5_agreesWithHeard_77 : decode cX5_agreesWithHeard 77 = .ok (.ireturn, 1) := by decide +kernel
set_option maxRecDepth 20000 in
theorem ggX5_mostLeft_X1_lastLoud : GoodIn wsX5_mostLeft wsX1_lastLoud := goodIn_r _ [11, 12, 13, 14, 15, 10, 16, 17, 18, 19, 20, 21, 22, 23, 24, 84, 85, 86, 87, 88] (by decide +kernel) (by decide +kernel)
set_option maxRecDepth 20000 in
theorem gX5_mostLeft_X1_lastLoud : GoodIn wsX5_mostLeft (wsV RX5 276 RX1 yX1_lastLoud wsX1_lastLoud) := goodIn_app (goodIn_of _ (by decide +kernel)) ggX5_mostLeft_X1_lastLoud
set_option maxRecDepth 20000 in
theorem ggX5_mostLeft_X5_suppose : GoodIn wsX5_mostLeft wsX5_suppose := goodIn_r _ [28, 29, 30, 31, 32, 33, 34, 35, 36, 37, 38, 39, 40, 4, 5, 6, 71, 72, 73, 74, 75, 76, 77, 78, 79, 89] (by decide +kernel) (by decide +kernel)
set_option maxRecDepth 20000 in
theorem gX5_mostLeft_X5_suppose : GoodIn wsX5_mostLeft (wsV RX5 164 RX5 yX5_suppose wsX5_suppose) := goodIn_app (goodIn_of _ (by decide +kernel)) ggX5_mostLeft_X5_suppose
set_option maxRecDepth 20000 in
theorem ggX5_mostLeft_X5_mannersAt : GoodIn wsX5_mostLeft wsX5_mannersAt := goodIn_r _ [44, 1, 3, 4, 5, 6, 45, 46, 47, 48, 49, 50, 51, 52, 53, 22, 23, 24, 54, 55, 56, 57, 58, 59, 60, 61, 62, 33, 63, 35, 64, 65, 66, 67, 71, 72, 73, 74, 75, 76, 77, 78, 79, 80, 81, 82, 83, 89] (by decide +kernel) (by decide +kernel)
set_option maxRecDepth 20000 in
theorem gX5_mostLeft_X5_mannersAt : GoodIn wsX5_mostLeft (wsV RX5 124 RX5 yX5_mannersAt wsX5_mannersAt) := goodIn_app (goodIn_of _ (by decide +kernel)) ggX5_mostLeft_X5_mannersAt
set_option maxRecDepth 20000 in
theorem ggX5_mostLeft_X5_howAt : GoodIn wsX5_mostLeft wsX5_howAt := goodIn_r _ [70] (by decide +kernel) (by decide +kernel)
set_option maxRecDepth 20000 in
theorem gX5_mostLeft_X5_howAt : GoodIn wsX5_mostLeft (va_wsS RX5 265 yX5_howAt wsX5_howAt) := goodIn_app (goodIn_of _ (by decide +kernel)) ggX5_mostLeft_X5_howAt
theorem dX5_mostLeft_0 : decode cX5_mostLeft 0 = .ok (.aload_n 0, 1) := by decide +kernel
theorem dX5_mostLeft_1 : decode cX5_mostLeft 1 = .ok (.getfield 23, 3) := by decide +kernel
theorem dX5_mostLeft_4 : decode cX5_mostLeft 4 = .ok (.getfield 171, 3) := by decide +kernel
theorem dX5_mostLeft_7 : decode cX5_mostLeft 7 = .ok (.invokevirtual 276, 3) := by decide +kernel
theorem dX5_mostLeft_10 : decode cX5_mostLeft 10 = .ok (.istore 5, 2) := by decide +kernel
theorem dX5_mostLeft_12 : decode cX5_mostLeft 12 = .ok (.iconst 0, 1) := by decide +kernel
theorem dX5_mostLeft_13 : decode cX5_mostLeft 13 = .ok (.istore 6, 2) := by decide +kernel
theorem dX5_mostLeft_15 : decode cX5_mostLeft 15 = .ok (.iconst 0, 1) := by decide +kernel
theorem dX5_mostLeft_16 : decode cX5_mostLeft 16 = .ok (.istore 7, 2) := by decide +kernel
theorem dX5_mostLeft_18 : decode cX5_mostLeft 18 = .ok (.iconst 0, 1) := by decide +kernel
theorem dX5_mostLeft_19 : decode cX5_mostLeft 19 = .ok (.istore 8, 2) := by decide +kernel
theorem dX5_mostLeft_21 : decode cX5_mostLeft 21 = .ok (.iconst 0, 1) := by decide +kernel
theorem dX5_mostLeft_22 : decode cX5_mostLeft 22 = .ok (.istore 9, 2) := by decide +kernel
theorem dX5_mostLeft_24 : decode cX5_mostLeft 24 = .ok (.iload 9, 2) := by decide +kernel
theorem dX5_mostLeft_26 : decode cX5_mostLeft 26 = .ok (.bipush 10, 2) := by decide +kernel
theorem dX5_mostLeft_28 : decode cX5_mostLeft 28 = .ok (.if_icmp .ge 81, 3) := by decide +kernel
theorem dX5_mostLeft_31 : decode cX5_mostLeft 31 = .ok (.iload_n 1, 1) := by decide +kernel
theorem dX5_mostLeft_32 : decode cX5_mostLeft 32 = .ok (.iload 9, 2) := by decide +kernel
theorem dX5_mostLeft_34 : decode cX5_mostLeft 34 = .ok (.ishr, 1) := by decide +kernel
theorem dX5_mostLeft_35 : decode cX5_mostLeft 35 = .ok (.iconst 1, 1) := by decide +kernel
theorem dX5_mostLeft_36 : decode cX5_mostLeft 36 = .ok (.iand, 1) := by decide +kernel
theorem dX5_mostLeft_37 : decode cX5_mostLeft 37 = .ok (.ifCond .ne 6, 3) := by decide +kernel
theorem dX5_mostLeft_40 : decode cX5_mostLeft 40 = .ok (.goto 63, 3) := by decide +kernel
theorem dX5_mostLeft_43 : decode cX5_mostLeft 43 = .ok (.aload_n 0, 1) := by decide +kernel
theorem dX5_mostLeft_44 : decode cX5_mostLeft 44 = .ok (.iload_n 3, 1) := by decide +kernel
theorem dX5_mostLeft_45 : decode cX5_mostLeft 45 = .ok (.aload_n 0, 1) := by decide +kernel
theorem dX5_mostLeft_46 : decode cX5_mostLeft 46 = .ok (.aload_n 2, 1) := by decide +kernel
theorem dX5_mostLeft_47 : decode cX5_mostLeft 47 = .ok (.iload 9, 2) := by decide +kernel
theorem dX5_mostLeft_49 : decode cX5_mostLeft 49 = .ok (.iload 5, 2) := by decide +kernel
theorem dX5_mostLeft_51 : decode cX5_mostLeft 51 = .ok (.invokevirtual 164, 3) := by decide +kernel
theorem dX5_mostLeft_54 : decode cX5_mostLeft 54 = .ok (.iload 4, 2) := by decide +kernel
theorem dX5_mostLeft_56 : decode cX5_mostLeft 56 = .ok (.invokevirtual 124, 3) := by decide +kernel
theorem dX5_mostLeft_59 : decode cX5_mostLeft 59 = .ok (.invokestatic 265, 3) := by decide +kernel
theorem dX5_mostLeft_62 : decode cX5_mostLeft 62 = .ok (.lookupswitch 38 #[(0, 26), (1, 32)], 26) := by decide +kernel
theorem dX5_mostLeft_88 : decode cX5_mostLeft 88 = .ok (.iinc 6 1, 3) := by decide +kernel
theorem dX5_mostLeft_91 : decode cX5_mostLeft 91 = .ok (.goto 12, 3) := by decide +kernel
theorem dX5_mostLeft_94 : decode cX5_mostLeft 94 = .ok (.iinc 7 1, 3) := by decide +kernel
theorem dX5_mostLeft_97 : decode cX5_mostLeft 97 = .ok (.goto 6, 3) := by decide +kernel
theorem dX5_mostLeft_100 : decode cX5_mostLeft 100 = .ok (.iinc 8 1, 3) := by decide +kernel
theorem dX5_mostLeft_103 : decode cX5_mostLeft 103 = .ok (.iinc 9 1, 3) := by decide +kernel
theorem dX5_mostLeft_106 : decode cX5_mostLeft 106 = .ok (.goto (-82), 3) := by decide +kernel
theorem dX5_mostLeft_109 : decode cX5_mostLeft 109 = .ok (.iload 6, 2) := by decide +kernel
theorem dX5_mostLeft_111 : decode cX5_mostLeft 111 = .ok (.iload 7, 2) := by decide +kernel
theorem dX5_mostLeft_113 : decode cX5_mostLeft 113 = .ok (.iload 8, 2) := by decide +kernel
theorem dX5_mostLeft_115 : decode cX5_mostLeft 115 = .ok (.invokestatic 254, 3) := by decide +kernel
theorem dX5_mostLeft_118 : decode cX5_mostLeft 118 = .ok (.invokestatic 254, 3) := by decide +kernel
theorem dX5_mostLeft_121 : decode cX5_mostLeft 121 = .ok (.ireturn, 1) := by decide +kernel
theorem dX6_init_0 : decode cX6_init 0 = .ok (.aload_n 0, 1) := by decide +kernel
theorem dX6_init_1 : decode cX6_init 1 = .ok (.invokespecial 1, 3) := by decide +kernel
theorem dX6_init_4 : decode cX6_init 4 = .ok (.aload_n 0, 1) := by decide +kernel
theorem dX6_init_5 : decode cX6_init 5 = .ok (.iconst 5, 1) := by decide +kernel
theorem dX6_init_6 : decode cX6_init 6 = .ok (.newarray .int, 2) := by decide +kernel
theorem dX6_init_8 : decode cX6_init 8 = .ok (.putfield 7, 3) := by decide +kernel
theorem dX6_init_11 : decode cX6_init 11 = .ok (.aload_n 0, 1) := by decide +kernel
theorem dX6_init_12 : decode cX6_init 12 = .ok (.iconst 5, 1) := by decide +kernel
theorem dX6_init_13 : decode cX6_init 13 = .ok (.newarray .int, 2) := by decide +kernel
theorem dX6_init_15 : decode cX6_init 15 = .ok (.putfield 13, 3) := by decide +kernel
theorem dX6_init_18 : decode cX6_init 18 = .ok (.aload_n 0, 1) := by decide +kernel
theorem dX6_init_19 : decode cX6_init 19 = .ok (.bipush 7, 2) := by decide +kernel
theorem dX6_init_21 : decode cX6_init 21 = .ok (.newarray .int, 2) := by decide +kernel
theorem dX6_init_23 : decode cX6_init 23 = .ok (.putfield 16, 3) := by decide +kernel
theorem dX6_init_26 : decode cX6_init 26 = .ok (.aload_n 0, 1) := by decide +kernel
theorem dX6_init_27 : decode cX6_init 27 = .ok (.bipush 7, 2) := by decide +kernel
theorem dX6_init_29 : decode cX6_init 29 = .ok (.newarray .int, 2) := by decide +kernel
theorem dX6_init_31 : decode cX6_init 31 = .ok (.putfield 19, 3) := by decide +kernel
theorem dX6_init_34 : decode cX6_init 34 = .ok (.aload_n 0, 1) := by decide +kernel
theorem dX6_init_35 : decode cX6_init 35 = .ok (.bipush 6, 2) := by decide +kernel
theorem dX6_init_37 : decode cX6_init 37 = .ok (.newarray .int, 2) := by decide +kernel
theorem dX6_init_39 : decode cX6_init 39 = .ok (.putfield 22, 3) := by decide +kernel
theorem dX6_init_42 : decode cX6_init 42 = .ok (.aload_n 0, 1) := by decide +kernel
theorem dX6_init_43 : decode cX6_init 43 = .ok (.bipush 6, 2) := by decide +kernel
theorem dX6_init_45 : decode cX6_init 45 = .ok (.newarray .int, 2) := by decide +kernel
theorem dX6_init_47 : decode cX6_init 47 = .ok (.putfield 25, 3) := by decide +kernel
theorem dX6_init_50 : decode cX6_init 50 = .ok (.aload_n 0, 1) := by decide +kernel
theorem dX6_init_51 : decode cX6_init 51 = .ok (.bipush 6, 2) := by decide +kernel
theorem dX6_init_53 : decode cX6_init 53 = .ok (.newarray .int, 2) := by decide +kernel
theorem dX6_init_55 : decode cX6_init 55 = .ok (.putfield 28, 3) := by decide +kernel
theorem dX6_init_58 : decode cX6_init 58 = .ok (.aload_n 0, 1) := by decide +kernel
theorem dX6_init_59 : decode cX6_init 59 = .ok (.bipush 6, 2) := by decide +kernel
theorem dX6_init_61 : decode cX6_init 61 = .ok (.newarray .int, 2) := by decide +kernel
theorem dX6_init_63 : decode cX6_init 63 = .ok (.putfield 31, 3) := by decide +kernel
theorem dX6_init_66 : decode cX6_init 66 = .ok (.aload_n 0, 1) := by decide +kernel
theorem dX6_init_67 : decode cX6_init 67 = .ok (.bipush 25, 2) := by decide +kernel
theorem dX6_init_69 : decode cX6_init 69 = .ok (.newarray .byte, 2) := by decide +kernel
theorem dX6_init_71 : decode cX6_init 71 = .ok (.putfield 34, 3) := by decide +kernel
theorem dX6_init_74 : decode cX6_init 74 = .ok (.aload_n 0, 1) := by decide +kernel
theorem dX6_init_75 : decode cX6_init 75 = .ok (.bipush 7, 2) := by decide +kernel
theorem dX6_init_77 : decode cX6_init 77 = .ok (.newarray .int, 2) := by decide +kernel
theorem dX6_init_79 : decode cX6_init 79 = .ok (.putfield 38, 3) := by decide +kernel
theorem dX6_init_82 : decode cX6_init 82 = .ok (.aload_n 0, 1) := by decide +kernel
theorem dX6_init_83 : decode cX6_init 83 = .ok (.iconst 5, 1) := by decide +kernel
theorem dX6_init_84 : decode cX6_init 84 = .ok (.newarray .int, 2) := by decide +kernel
theorem dX6_init_86 : decode cX6_init 86 = .ok (.putfield 41, 3) := by decide +kernel
theorem dX6_init_89 : decode cX6_init 89 = .ok (.aload_n 0, 1) := by decide +kernel
theorem dX6_init_90 : decode cX6_init 90 = .ok (.bipush 6, 2) := by decide +kernel
theorem dX6_init_92 : decode cX6_init 92 = .ok (.newarray .int, 2) := by decide +kernel
theorem dX6_init_94 : decode cX6_init 94 = .ok (.putfield 44, 3) := by decide +kernel
theorem dX6_init_97 : decode cX6_init 97 = .ok (.aload_n 0, 1) := by decide +kernel
theorem dX6_init_98 : decode cX6_init 98 = .ok (.bipush 6, 2) := by decide +kernel
theorem dX6_init_100 : decode cX6_init 100 = .ok (.newarray .int, 2) := by decide +kernel
theorem dX6_init_102 : decode cX6_init 102 = .ok (.putfield 47, 3) := by decide +kernel
theorem dX6_init_105 : decode cX6_init 105 = .ok (.aload_n 0, 1) := by decide +kernel
theorem dX6_init_106 : decode cX6_init 106 = .ok (.bipush 6, 2) := by decide +kernel
theorem dX6_init_108 : decode cX6_init 108 = .ok (.newarray .int, 2) := by decide +kernel
theorem dX6_init_110 : decode cX6_init 110 = .ok (.putfield 50, 3) := by decide +kernel
theorem dX6_init_113 : decode cX6_init 113 = .ok (.aload_n 0, 1) := by decide +kernel
theorem dX6_init_114 : decode cX6_init 114 = .ok (.bipush 6, 2) := by decide +kernel
theorem dX6_init_116 : decode cX6_init 116 = .ok (.newarray .int, 2) := by decide +kernel
theorem dX6_init_118 : decode cX6_init 118 = .ok (.putfield 53, 3) := by decide +kernel
theorem dX6_init_121 : decode cX6_init 121 = .ok (.aload_n 0, 1) := by decide +kernel
theorem dX6_init_122 : decode cX6_init 122 = .ok (.bipush 6, 2) := by decide +kernel
theorem dX6_init_124 : decode cX6_init 124 = .ok (.newarray .int, 2) := by decide +kernel
theorem dX6_init_126 : decode cX6_init 126 = .ok (.putfield 56, 3) := by decide +kernel
theorem dX6_init_129 : decode cX6_init 129 = .ok (.aload_n 0, 1) := by decide +kernel
theorem dX6_init_130 : decode cX6_init 130 = .ok (.bipush 6, 2) := by decide +kernel
theorem dX6_init_132 : decode cX6_init 132 = .ok (.newarray .int, 2) := by decide +kernel
theorem dX6_init_134 : decode cX6_init 134 = .ok (.putfield 59, 3) := by decide +kernel
theorem dX6_init_137 : decode cX6_init 137 = .ok (.return_, 1) := by decide +kernel
theorem dX6_within_0 : decode cX6_within 0 = .ok (.iload_n 0, 1) := by decide +kernel
theorem dX6_within_1 : decode cX6_within 1 = .ok (.iload_n 1, 1) := by decide +kernel
theorem dX6_within_2 : decode cX6_within 2 = .ok (.if_icmp .lt 12, 3) := by decide +kernel
theorem dX6_within_5 : decode cX6_within 5 = .ok (.iload_n 0, 1) := by decide +kernel
theorem dX6_within_6 : decode cX6_within 6 = .ok (.iload_n 2, 1) := by decide +kernel
theorem dX6_within_7 : decode cX6_within 7 = .ok (.if_icmp .gt 7, 3) := by decide +kernel
theorem dX6_within_10 : decode cX6_within 10 = .ok (.iconst 1, 1) := by decide +kernel
theorem dX6_within_11 : decode cX6_within 11 = .ok (.goto 4, 3) := by decide +kernel
theorem dX6_within_14 : decode cX6_within 14 = .ok (.iconst 0, 1) := by decide +kernel
theorem dX6_within_15 : decode cX6_within 15 = .ok (.ireturn, 1) := by decide +kernel
theorem dX6_isIn_0 : decode cX6_isIn 0 = .ok (.iload_n 0, 1) := by decide +kernel
theorem dX6_isIn_1 : decode cX6_isIn 1 = .ok (.iload_n 1, 1) := by decide +kernel
theorem dX6_isIn_2 : decode cX6_isIn 2 = .ok (.ishr, 1) := by decide +kernel
theorem dX6_isIn_3 : decode cX6_isIn 3 = .ok (.iconst 1, 1) := by decide +kernel
theorem dX6_isIn_4 : decode cX6_isIn 4 = .ok (.iand, 1) := by decide +kernel
theorem dX6_isIn_5 : decode cX6_isIn 5 = .ok (.iconst 1, 1) := by decide +kernel
theorem dX6_isIn_6 : decode cX6_isIn 6 = .ok (.if_icmp .ne 7, 3) := by decide +kernel
theorem dX6_isIn_9 : decode cX6_isIn 9 = .ok (.iconst 1, 1) := by decide +kernel
theorem dX6_isIn_10 : decode cX6_isIn 10 = .ok (.goto 4, 3) := by decide +kernel
theorem dX6_isIn_13 : decode cX6_isIn 13 = .ok (.iconst 0, 1) := by decide +kernel
theorem dX6_isIn_14 : decode cX6_isIn 14 = .ok (.ireturn, 1) := by decide +kernel
set_option maxRecDepth 20000 in
theorem ggX6_letter_X6_within : GoodIn wsX6_letter wsX6_within := goodIn_r _ [6] (by decide +kernel) (by decide +kernel)
set_option maxRecDepth 20000 in
theorem gX6_letter_X6_within : GoodIn wsX6_letter (va_wsS RX6 62 yX6_within wsX6_within) := goodIn_app (goodIn_of _ (by decide +kernel)) ggX6_letter_X6_within
theorem dX6_letter_0 : decode cX6_letter 0 = .ok (.iload_n 1, 1) := by decide +kernel
theorem dX6_letter_1 : decode cX6_letter 1 = .ok (.bipush 32, 2) := by decide +kernel
theorem dX6_letter_3 : decode cX6_letter 3 = .ok (.bipush 126, 2) := by decide +kernel
theorem dX6_letter_5 : decode cX6_letter 5 = .ok (.invokestatic 62, 3) := by decide +kernel
theorem dX6_letter_8 : decode cX6_letter 8 = .ok (.ifCond .ne 6, 3) := by decide +kernel
theorem dX6_letter_11 : decode cX6_letter 11 = .ok (.bipush (-102), 2) := by decide +kernel
theorem dX6_letter_13 : decode cX6_letter 13 = .ok (.ireturn, 1) := by decide +kernel
theorem dX6_letter_14 : decode cX6_letter 14 = .ok (.aload_n 0, 1) := by decide +kernel
theorem dX6_letter_15 : decode cX6_letter 15 = .ok (.getfield 66, 3) := by decide +kernel
theorem dX6_letter_18 : decode cX6_letter 18 = .ok (.bipush 25, 2) := by decide +kernel
theorem dX6_letter_20 : decode cX6_letter 20 = .ok (.if_icmp .ne 6, 3) := by decide +kernel
theorem dX6_letter_23 : decode cX6_letter 23 = .ok (.bipush (-104), 2) := by decide +kernel
theorem dX6_letter_25 : decode cX6_letter 25 = .ok (.ireturn, 1) := by decide +kernel
theorem dX6_letter_26 : decode cX6_letter 26 = .ok (.aload_n 0, 1) := by decide +kernel
theorem dX6_letter_27 : decode cX6_letter 27 = .ok (.getfield 34, 3) := by decide +kernel
theorem dX6_letter_30 : decode cX6_letter 30 = .ok (.aload_n 0, 1) := by decide +kernel
theorem dX6_letter_31 : decode cX6_letter 31 = .ok (.getfield 66, 3) := by decide +kernel
theorem dX6_letter_34 : decode cX6_letter 34 = .ok (.iload_n 1, 1) := by decide +kernel
theorem dX6_letter_35 : decode cX6_letter 35 = .ok (.i2b, 1) := by decide +kernel
theorem dX6_letter_36 : decode cX6_letter 36 = .ok (.bastore, 1) := by decide +kernel
theorem dX6_letter_37 : decode cX6_letter 37 = .ok (.aload_n 0, 1) := by decide +kernel
theorem dX6_letter_38 : decode cX6_letter 38 = .ok (.dup, 1) := by decide +kernel
theorem dX6_letter_39 : decode cX6_letter 39 = .ok (.getfield 66, 3) := by decide +kernel
theorem dX6_letter_42 : decode cX6_letter 42 = .ok (.iconst 1, 1) := by decide +kernel
theorem dX6_letter_43 : decode cX6_letter 43 = .ok (.iadd, 1) := by decide +kernel
theorem dX6_letter_44 : decode cX6_letter 44 = .ok (.putfield 66, 3) := by decide +kernel
theorem dX6_letter_47 : decode cX6_letter 47 = .ok (.aload_n 0, 1) := by decide +kernel
theorem dX6_letter_48 : decode cX6_letter 48 = .ok (.getfield 66, 3) := by decide +kernel
theorem dX6_letter_51 : decode cX6_letter 51 = .ok (.ireturn, 1) := by decide +kernel
theorem dX6_blank_0 : decode cX6_blank 0 = .ok (.aload_n 0, 1) := by decide +kernel
theorem dX6_blank_1 : decode cX6_blank 1 = .ok (.getfield 66, 3) := by decide +kernel
theorem dX6_blank_4 : decode cX6_blank 4 = .ok (.istore_n 1, 1) := by decide +kernel
theorem dX6_blank_5 : decode cX6_blank 5 = .ok (.aload_n 0, 1) := by decide +kernel
theorem dX6_blank_6 : decode cX6_blank 6 = .ok (.iconst 0, 1) := by decide +kernel
theorem dX6_blank_7 : decode cX6_blank 7 = .ok (.putfield 66, 3) := by decide +kernel
theorem dX6_blank_10 : decode cX6_blank 10 = .ok (.iload_n 1, 1) := by decide +kernel
theorem dX6_blank_11 : decode cX6_blank 11 = .ok (.ireturn, 1) := by decide +kernel
theorem dX6_kindBy_0 : decode cX6_kindBy 0 = .ok (.iload_n 0, 1) := by decide +kernel
theorem dX6_kindBy_1 : decode cX6_kindBy 1 = .ok (.tableswitch 77 99 111 #[75, 73, 77, 77, 77, 67, 77, 77, 77, 69, 77, 77, 71], 67) := by decide +kernel
theorem dX6_kindBy_68 : decode cX6_kindBy 68 = .ok (.iconst 0, 1) := by decide +kernel
theorem dX6_kindBy_69 : decode cX6_kindBy 69 = .ok (.ireturn, 1) := by decide +kernel
theorem dX6_kindBy_70 : decode cX6_kindBy 70 = .ok (.iconst 1, 1) := by decide +kernel
theorem dX6_kindBy_71 : decode cX6_kindBy 71 = .ok (.ireturn, 1) := by decide +kernel
theorem dX6_kindBy_72 : decode cX6_kindBy 72 = .ok (.iconst 2, 1) := by decide +kernel
theorem dX6_kindBy_73 : decode cX6_kindBy 73 = .ok (.ireturn, 1) := by decide +kernel
theorem dX6_kindBy_74 : decode cX6_kindBy 74 = .ok (.iconst 3, 1) := by decide +kernel
theorem dX6_kindBy_75 : decode cX6_kindBy 75 = .ok (.ireturn, 1) := by decide +kernel
theorem dX6_kindBy_76 : decode cX6_kindBy 76 = .ok (.iconst 4, 1) := by decide +kernel
theorem dX6_kindBy_77 : decode cX6_kindBy 77 = .ok (.ireturn, 1) := by decide +kernel
theorem dX6_kindBy_78 : decode cX6_kindBy 78 = .ok (.iconst (-1), 1) := by decide +kernel
theorem dX6_kindBy_79 : decode cX6_kindBy 79 = .ok (.ireturn, 1) := by decide +kernel
theorem dX6_figure_0 : decode cX6_figure 0 = .ok (.iload_n 1, 1) := by decide +kernel
theorem dX6_figure_1 : decode cX6_figure 1 = .ok (.aload_n 0, 1) := by decide +kernel
theorem dX6_figure_2 : decode cX6_figure 2 = .ok (.getfield 66, 3) := by decide +kernel
theorem dX6_figure_5 : decode cX6_figure 5 = .ok (.if_icmp .ge 15, 3) := by decide +kernel
theorem dX6_figure_8 : decode cX6_figure 8 = .ok (.aload_n 0, 1) := by decide +kernel
theorem dX6_figure_9 : decode cX6_figure 9 = .ok (.getfield 34, 3) := by decide +kernel
theorem dX6_figure_12 : decode cX6_figure 12 = .ok (.iload_n 1, 1) := by decide +kernel
theorem dX6_figure_13 : decode cX6_figure 13 = .ok (.baload, 1) := by decide +kernel
theorem dX6_figure_14 : decode cX6_figure 14 = .ok (.bipush 48, 2) := by decide +kernel
theorem dX6_figure_16 : decode cX6_figure 16 = .ok (.isub, 1) := by decide +kernel
theorem dX6_figure_17 : decode cX6_figure 17 = .ok (.goto 4, 3) := by decide +kernel
theorem dX6_figure_20 : decode cX6_figure 20 = .ok (.iconst (-1), 1) := by decide +kernel
theorem dX6_figure_21 : decode cX6_figure 21 = .ok (.ireturn, 1) := by decide +kernel
set_option maxRecDepth 20000 in
theorem ggX6_readStrokes_X6_figure : GoodIn wsX6_readStrokes wsX6_figure := goodIn_r _ [8, 2, 9, 13, 14, 15, 16, 17, 18, 19, 20, 21, 22, 23, 24, 25, 26, 27, 28, 29, 30, 31, 32, 33, 34, 35, 36, 37, 38, 39, 40, 41, 42, 43, 44, 45, 46] (by decide +kernel) (by decide +kernel)
set_option maxRecDepth 20000 in
theorem gX6_readStrokes_X6_figure : GoodIn wsX6_readStrokes (wsV RX6 77 RX6 yX6_figure wsX6_figure) := goodIn_app (goodIn_of _ (by decide +kernel)) ggX6_readStrokes_X6_figure
set_option maxRecDepth 20000 in
theorem ggX6_readStrokes_X6_within : GoodIn wsX6_readStrokes wsX6_within := goodIn_r _ [12] (by decide +kernel) (by decide +kernel)
set_option maxRecDepth 20000 in
theorem gX6_readStrokes_X6_within : GoodIn wsX6_readStrokes (va_wsS RX6 62 yX6_within wsX6_within) := goodIn_app (goodIn_of _ (by decide +kernel)) ggX6_readStrokes_X6_within
theorem dX6_readStrokes_0 : decode cX6_readStrokes 0 = .ok (.iload_n 1, 1) := by decide +kernel
theorem dX6_readStrokes_1 : decode cX6_readStrokes 1 = .ok (.istore_n 2, 1) := by decide +kernel
theorem dX6_readStrokes_2 : decode cX6_readStrokes 2 = .ok (.aload_n 0, 1) := by decide +kernel
theorem dX6_readStrokes_3 : decode cX6_readStrokes 3 = .ok (.getfield 70, 3) := by decide +kernel
theorem dX6_readStrokes_6 : decode cX6_readStrokes 6 = .ok (.iconst 4, 1) := by decide +kernel
theorem dX6_readStrokes_7 : decode cX6_readStrokes 7 = .ok (.if_icmp .ge 86, 3) := by decide +kernel
theorem dX6_readStrokes_10 : decode cX6_readStrokes 10 = .ok (.aload_n 0, 1) := by decide +kernel
theorem dX6_readStrokes_11 : decode cX6_readStrokes 11 = .ok (.iload_n 2, 1) := by decide +kernel
theorem dX6_readStrokes_12 : decode cX6_readStrokes 12 = .ok (.aload_n 0, 1) := by decide +kernel
theorem dX6_readStrokes_13 : decode cX6_readStrokes 13 = .ok (.getfield 66, 3) := by decide +kernel
theorem dX6_readStrokes_16 : decode cX6_readStrokes 16 = .ok (.if_icmp .ne 14, 3) := by decide +kernel
theorem dX6_readStrokes_19 : decode cX6_readStrokes 19 = .ok (.aload_n 0, 1) := by decide +kernel
theorem dX6_readStrokes_20 : decode cX6_readStrokes 20 = .ok (.getfield 70, 3) := by decide +kernel
theorem dX6_readStrokes_23 : decode cX6_readStrokes 23 = .ok (.ifCond .le 7, 3) := by decide +kernel
theorem dX6_readStrokes_26 : decode cX6_readStrokes 26 = .ok (.iconst 1, 1) := by decide +kernel
theorem dX6_readStrokes_27 : decode cX6_readStrokes 27 = .ok (.goto 4, 3) := by decide +kernel
theorem dX6_readStrokes_30 : decode cX6_readStrokes 30 = .ok (.iconst 0, 1) := by decide +kernel
theorem dX6_readStrokes_31 : decode cX6_readStrokes 31 = .ok (.putfield 73, 3) := by decide +kernel
theorem dX6_readStrokes_34 : decode cX6_readStrokes 34 = .ok (.aload_n 0, 1) := by decide +kernel
theorem dX6_readStrokes_35 : decode cX6_readStrokes 35 = .ok (.getfield 73, 3) := by decide +kernel
theorem dX6_readStrokes_38 : decode cX6_readStrokes 38 = .ok (.ifCond .ne 17, 3) := by decide +kernel
theorem dX6_readStrokes_41 : decode cX6_readStrokes 41 = .ok (.aload_n 0, 1) := by decide +kernel
theorem dX6_readStrokes_42 : decode cX6_readStrokes 42 = .ok (.iload_n 2, 1) := by decide +kernel
theorem dX6_readStrokes_43 : decode cX6_readStrokes 43 = .ok (.invokevirtual 77, 3) := by decide +kernel
theorem dX6_readStrokes_46 : decode cX6_readStrokes 46 = .ok (.iconst 0, 1) := by decide +kernel
theorem dX6_readStrokes_47 : decode cX6_readStrokes 47 = .ok (.bipush 9, 2) := by decide +kernel
theorem dX6_readStrokes_49 : decode cX6_readStrokes 49 = .ok (.invokestatic 62, 3) := by decide +kernel
theorem dX6_readStrokes_52 : decode cX6_readStrokes 52 = .ok (.ifCond .ne 5, 3) := by decide +kernel
theorem dX6_readStrokes_55 : decode cX6_readStrokes 55 = .ok (.iload_n 2, 1) := by decide +kernel
theorem dX6_readStrokes_56 : decode cX6_readStrokes 56 = .ok (.ireturn, 1) := by decide +kernel
theorem dX6_readStrokes_57 : decode cX6_readStrokes 57 = .ok (.aload_n 0, 1) := by decide +kernel
theorem dX6_readStrokes_58 : decode cX6_readStrokes 58 = .ok (.iload_n 2, 1) := by decide +kernel
theorem dX6_readStrokes_59 : decode cX6_readStrokes 59 = .ok (.iconst 1, 1) := by decide +kernel
theorem dX6_readStrokes_60 : decode cX6_readStrokes 60 = .ok (.iadd, 1) := by decide +kernel
theorem dX6_readStrokes_61 : decode cX6_readStrokes 61 = .ok (.invokevirtual 77, 3) := by decide +kernel
theorem dX6_readStrokes_64 : decode cX6_readStrokes 64 = .ok (.iconst 1, 1) := by decide +kernel
theorem dX6_readStrokes_65 : decode cX6_readStrokes 65 = .ok (.bipush 9, 2) := by decide +kernel
theorem dX6_readStrokes_67 : decode cX6_readStrokes 67 = .ok (.invokestatic 62, 3) := by decide +kernel
theorem dX6_readStrokes_70 : decode cX6_readStrokes 70 = .ok (.ifCond .ne 7, 3) := by decide +kernel
theorem dX6_readStrokes_73 : decode cX6_readStrokes 73 = .ok (.iload_n 2, 1) := by decide +kernel
theorem dX6_readStrokes_74 : decode cX6_readStrokes 74 = .ok (.iconst 1, 1) := by decide +kernel
theorem dX6_readStrokes_75 : decode cX6_readStrokes 75 = .ok (.iadd, 1) := by decide +kernel
theorem dX6_readStrokes_76 : decode cX6_readStrokes 76 = .ok (.ireturn, 1) := by decide +kernel
theorem dX6_readStrokes_77 : decode cX6_readStrokes 77 = .ok (.aload_n 0, 1) := by decide +kernel
theorem dX6_readStrokes_78 : decode cX6_readStrokes 78 = .ok (.dup, 1) := by decide +kernel
theorem dX6_readStrokes_79 : decode cX6_readStrokes 79 = .ok (.getfield 70, 3) := by decide +kernel
theorem dX6_readStrokes_82 : decode cX6_readStrokes 82 = .ok (.iconst 1, 1) := by decide +kernel
theorem dX6_readStrokes_83 : decode cX6_readStrokes 83 = .ok (.iadd, 1) := by decide +kernel
theorem dX6_readStrokes_84 : decode cX6_readStrokes 84 = .ok (.putfield 70, 3) := by decide +kernel
theorem dX6_readStrokes_87 : decode cX6_readStrokes 87 = .ok (.iinc 2 2, 3) := by decide +kernel
theorem dX6_readStrokes_90 : decode cX6_readStrokes 90 = .ok (.goto (-88), 3) := by decide +kernel
theorem dX6_readStrokes_93 : decode cX6_readStrokes 93 = .ok (.aload_n 0, 1) := by decide +kernel
theorem dX6_readStrokes_94 : decode cX6_readStrokes 94 = .ok (.iload_n 2, 1) := by decide +kernel
theorem dX6_readStrokes_95 : decode cX6_readStrokes 95 = .ok (.aload_n 0, 1) := by decide +kernel
theorem dX6_readStrokes_96 : decode cX6_readStrokes 96 = .ok (.getfield 66, 3) := by decide +kernel
theorem dX6_readStrokes_99 : decode cX6_readStrokes 99 = .ok (.if_icmp .ne 7, 3) := by decide +kernel
theorem dX6_readStrokes_102 : decode cX6_readStrokes 102 = .ok (.iconst 1, 1) := by decide +kernel
theorem dX6_readStrokes_103 : decode cX6_readStrokes 103 = .ok (.goto 4, 3) := by decide +kernel
theorem dX6_readStrokes_106 : decode cX6_readStrokes 106 = .ok (.iconst 0, 1) := by decide +kernel
theorem dX6_readStrokes_107 : decode cX6_readStrokes 107 = .ok (.putfield 73, 3) := by decide +kernel
theorem dX6_readStrokes_110 : decode cX6_readStrokes 110 = .ok (.iload_n 2, 1) := by decide +kernel
theorem dX6_readStrokes_111 : decode cX6_readStrokes 111 = .ok (.ireturn, 1) := by decide +kernel
set_option maxRecDepth 20000 in
theorem ggX6_read_X6_kindBy : GoodIn wsX6_read wsX6_kindBy := goodIn_r _ [9] (by decide +kernel) (by decide +kernel)
set_option maxRecDepth 20000 in
theorem gX6_read_X6_kindBy : GoodIn wsX6_read (va_wsS RX6 84 yX6_kindBy wsX6_kindBy) := goodIn_app (goodIn_of _ (by decide +kernel)) ggX6_read_X6_kindBy
set_option maxRecDepth 20000 in
theorem ggX6_read_X6_figure : GoodIn wsX6_read wsX6_figure := goodIn_r _ [13, 4, 5, 21, 22, 23, 24, 25, 26, 27, 28, 29, 30, 31, 32, 33, 34, 35, 36, 37, 38, 39, 40, 41, 42, 43, 44, 45, 46, 47, 48, 49, 50, 51, 52, 53, 54] (by decide +kernel) (by decide +kernel)
set_option maxRecDepth 20000 in
theorem gX6_read_X6_figure : GoodIn wsX6_read (wsV RX6 77 RX6 yX6_figure wsX6_figure) := goodIn_app (goodIn_of _ (by decide +kernel)) ggX6_read_X6_figure
set_option maxRecDepth 20000 in
theorem ggX6_read_X6_within : GoodIn wsX6_read wsX6_within := goodIn_r _ [16] (by decide +kernel) (by decide +kernel)
set_option maxRecDepth 20000 in
theorem gX6_read_X6_within : GoodIn wsX6_read (va_wsS RX6 62 yX6_within wsX6_within) := goodIn_app (goodIn_of _ (by decide +kernel)) ggX6_read_X6_within
set_option maxRecDepth 20000 in
theorem ggX6_read_X6_readStrokes : GoodIn wsX6_read wsX6_readStrokes := goodIn_r _ [20, 3, 4, 1, 10, 11, 12, 8, 13, 5, 14, 15, 16, 21, 22, 23, 24, 25, 26, 27, 28, 29, 30, 31, 32, 33, 34, 35, 36, 37, 38, 39, 40, 41, 42, 43, 44, 45, 46, 47, 48, 49, 50, 51, 52, 53, 54] (by decide +kernel) (by decide +kernel)
set_option maxRecDepth 20000 in
theorem gX6_read_X6_readStrokes : GoodIn wsX6_read (wsV RX6 87 RX6 yX6_readStrokes wsX6_readStrokes) := goodIn_app (goodIn_of _ (by decide +kernel)) ggX6_read_X6_readStrokes
theorem dX6_read_0 : decode cX6_read 0 = .ok (.aload_n 0, 1) := by decide +kernel
theorem dX6_read_1 : decode cX6_read 1 = .ok (.iconst 0, 1) := by decide +kernel
theorem dX6_read_2 : decode cX6_read 2 = .ok (.putfield 73, 3) := by decide +kernel
theorem dX6_read_5 : decode cX6_read 5 = .ok (.aload_n 0, 1) := by decide +kernel
theorem dX6_read_6 : decode cX6_read 6 = .ok (.iconst 0, 1) := by decide +kernel
theorem dX6_read_7 : decode cX6_read 7 = .ok (.putfield 81, 3) := by decide +kernel
theorem dX6_read_10 : decode cX6_read 10 = .ok (.aload_n 0, 1) := by decide +kernel
theorem dX6_read_11 : decode cX6_read 11 = .ok (.iconst 0, 1) := by decide +kernel
theorem dX6_read_12 : decode cX6_read 12 = .ok (.putfield 70, 3) := by decide +kernel
theorem dX6_read_15 : decode cX6_read 15 = .ok (.iconst 0, 1) := by decide +kernel
theorem dX6_read_16 : decode cX6_read 16 = .ok (.istore_n 1, 1) := by decide +kernel
theorem dX6_read_17 : decode cX6_read 17 = .ok (.aload_n 0, 1) := by decide +kernel
theorem dX6_read_18 : decode cX6_read 18 = .ok (.getfield 81, 3) := by decide +kernel
theorem dX6_read_21 : decode cX6_read 21 = .ok (.iconst 5, 1) := by decide +kernel
theorem dX6_read_22 : decode cX6_read 22 = .ok (.if_icmp .ge 129, 3) := by decide +kernel
theorem dX6_read_25 : decode cX6_read 25 = .ok (.iload_n 1, 1) := by decide +kernel
theorem dX6_read_26 : decode cX6_read 26 = .ok (.aload_n 0, 1) := by decide +kernel
theorem dX6_read_27 : decode cX6_read 27 = .ok (.getfield 66, 3) := by decide +kernel
theorem dX6_read_30 : decode cX6_read 30 = .ok (.if_icmp .eq 16, 3) := by decide +kernel
theorem dX6_read_33 : decode cX6_read 33 = .ok (.aload_n 0, 1) := by decide +kernel
theorem dX6_read_34 : decode cX6_read 34 = .ok (.getfield 34, 3) := by decide +kernel
theorem dX6_read_37 : decode cX6_read 37 = .ok (.iload_n 1, 1) := by decide +kernel
theorem dX6_read_38 : decode cX6_read 38 = .ok (.baload, 1) := by decide +kernel
theorem dX6_read_39 : decode cX6_read 39 = .ok (.invokestatic 84, 3) := by decide +kernel
theorem dX6_read_42 : decode cX6_read 42 = .ok (.iconst (-1), 1) := by decide +kernel
theorem dX6_read_43 : decode cX6_read 43 = .ok (.if_icmp .ne 5, 3) := by decide +kernel
theorem dX6_read_46 : decode cX6_read 46 = .ok (.iload_n 1, 1) := by decide +kernel
theorem dX6_read_47 : decode cX6_read 47 = .ok (.ireturn, 1) := by decide +kernel
theorem dX6_read_48 : decode cX6_read 48 = .ok (.aload_n 0, 1) := by decide +kernel
theorem dX6_read_49 : decode cX6_read 49 = .ok (.iload_n 1, 1) := by decide +kernel
theorem dX6_read_50 : decode cX6_read 50 = .ok (.iconst 1, 1) := by decide +kernel
theorem dX6_read_51 : decode cX6_read 51 = .ok (.iadd, 1) := by decide +kernel
theorem dX6_read_52 : decode cX6_read 52 = .ok (.invokevirtual 77, 3) := by decide +kernel
theorem dX6_read_55 : decode cX6_read 55 = .ok (.iconst 0, 1) := by decide +kernel
theorem dX6_read_56 : decode cX6_read 56 = .ok (.bipush 9, 2) := by decide +kernel
theorem dX6_read_58 : decode cX6_read 58 = .ok (.invokestatic 62, 3) := by decide +kernel
theorem dX6_read_61 : decode cX6_read 61 = .ok (.ifCond .ne 7, 3) := by decide +kernel
theorem dX6_read_64 : decode cX6_read 64 = .ok (.iload_n 1, 1) := by decide +kernel
theorem dX6_read_65 : decode cX6_read 65 = .ok (.iconst 1, 1) := by decide +kernel
theorem dX6_read_66 : decode cX6_read 66 = .ok (.iadd, 1) := by decide +kernel
theorem dX6_read_67 : decode cX6_read 67 = .ok (.ireturn, 1) := by decide +kernel
theorem dX6_read_68 : decode cX6_read 68 = .ok (.aload_n 0, 1) := by decide +kernel
theorem dX6_read_69 : decode cX6_read 69 = .ok (.dup, 1) := by decide +kernel
theorem dX6_read_70 : decode cX6_read 70 = .ok (.getfield 81, 3) := by decide +kernel
theorem dX6_read_73 : decode cX6_read 73 = .ok (.iconst 1, 1) := by decide +kernel
theorem dX6_read_74 : decode cX6_read 74 = .ok (.iadd, 1) := by decide +kernel
theorem dX6_read_75 : decode cX6_read 75 = .ok (.putfield 81, 3) := by decide +kernel
theorem dX6_read_78 : decode cX6_read 78 = .ok (.iinc 1 2, 3) := by decide +kernel
theorem dX6_read_81 : decode cX6_read 81 = .ok (.iload_n 1, 1) := by decide +kernel
theorem dX6_read_82 : decode cX6_read 82 = .ok (.aload_n 0, 1) := by decide +kernel
theorem dX6_read_83 : decode cX6_read 83 = .ok (.getfield 66, 3) := by decide +kernel
theorem dX6_read_86 : decode cX6_read 86 = .ok (.if_icmp .ge 30, 3) := by decide +kernel
theorem dX6_read_89 : decode cX6_read 89 = .ok (.aload_n 0, 1) := by decide +kernel
theorem dX6_read_90 : decode cX6_read 90 = .ok (.getfield 34, 3) := by decide +kernel
theorem dX6_read_93 : decode cX6_read 93 = .ok (.iload_n 1, 1) := by decide +kernel
theorem dX6_read_94 : decode cX6_read 94 = .ok (.baload, 1) := by decide +kernel
theorem dX6_read_95 : decode cX6_read 95 = .ok (.bipush 59, 2) := by decide +kernel
theorem dX6_read_97 : decode cX6_read 97 = .ok (.if_icmp .ne 19, 3) := by decide +kernel
theorem dX6_read_100 : decode cX6_read 100 = .ok (.aload_n 0, 1) := by decide +kernel
theorem dX6_read_101 : decode cX6_read 101 = .ok (.getfield 81, 3) := by decide +kernel
theorem dX6_read_104 : decode cX6_read 104 = .ok (.iconst 1, 1) := by decide +kernel
theorem dX6_read_105 : decode cX6_read 105 = .ok (.if_icmp .le 11, 3) := by decide +kernel
theorem dX6_read_108 : decode cX6_read 108 = .ok (.aload_n 0, 1) := by decide +kernel
theorem dX6_read_109 : decode cX6_read 109 = .ok (.iload_n 1, 1) := by decide +kernel
theorem dX6_read_110 : decode cX6_read 110 = .ok (.iconst 1, 1) := by decide +kernel
theorem dX6_read_111 : decode cX6_read 111 = .ok (.iadd, 1) := by decide +kernel
theorem dX6_read_112 : decode cX6_read 112 = .ok (.invokevirtual 87, 3) := by decide +kernel
theorem dX6_read_115 : decode cX6_read 115 = .ok (.ireturn, 1) := by decide +kernel
theorem dX6_read_116 : decode cX6_read 116 = .ok (.iload_n 1, 1) := by decide +kernel
theorem dX6_read_117 : decode cX6_read 117 = .ok (.aload_n 0, 1) := by decide +kernel
theorem dX6_read_118 : decode cX6_read 118 = .ok (.getfield 66, 3) := by decide +kernel
theorem dX6_read_121 : decode cX6_read 121 = .ok (.if_icmp .eq 22, 3) := by decide +kernel
theorem dX6_read_124 : decode cX6_read 124 = .ok (.aload_n 0, 1) := by decide +kernel
theorem dX6_read_125 : decode cX6_read 125 = .ok (.getfield 81, 3) := by decide +kernel
theorem dX6_read_128 : decode cX6_read 128 = .ok (.iconst 5, 1) := by decide +kernel
theorem dX6_read_129 : decode cX6_read 129 = .ok (.if_icmp .eq 14, 3) := by decide +kernel
theorem dX6_read_132 : decode cX6_read 132 = .ok (.aload_n 0, 1) := by decide +kernel
theorem dX6_read_133 : decode cX6_read 133 = .ok (.getfield 34, 3) := by decide +kernel
theorem dX6_read_136 : decode cX6_read 136 = .ok (.iload_n 1, 1) := by decide +kernel
theorem dX6_read_137 : decode cX6_read 137 = .ok (.baload, 1) := by decide +kernel
theorem dX6_read_138 : decode cX6_read 138 = .ok (.bipush 44, 2) := by decide +kernel
theorem dX6_read_140 : decode cX6_read 140 = .ok (.if_icmp .eq 5, 3) := by decide +kernel
theorem dX6_read_143 : decode cX6_read 143 = .ok (.iload_n 1, 1) := by decide +kernel
theorem dX6_read_144 : decode cX6_read 144 = .ok (.ireturn, 1) := by decide +kernel
theorem dX6_read_145 : decode cX6_read 145 = .ok (.iinc 1 1, 3) := by decide +kernel
theorem dX6_read_148 : decode cX6_read 148 = .ok (.goto (-131), 3) := by decide +kernel
theorem dX6_read_151 : decode cX6_read 151 = .ok (.iload_n 1, 1) := by decide +kernel
theorem dX6_read_152 : decode cX6_read 152 = .ok (.ireturn, 1) := by decide +kernel
set_option maxRecDepth 20000 in
theorem ggX6_fault_X6_read : GoodIn wsX6_fault wsX6_read := goodIn_r _ [5, 6, 7, 8, 9, 10, 11, 12, 4, 13, 14, 15, 16, 17, 18, 19, 20, 21, 22, 23, 24, 25, 26, 27, 28, 29, 30, 31, 32, 33, 34, 35, 36, 37, 38, 39, 40, 41, 42, 43, 44, 45, 46, 47, 48, 49, 50, 51, 52, 53, 54, 55, 56, 57, 58] (by decide +kernel) (by decide +kernel)
set_option maxRecDepth 20000 in
theorem gX6_fault_X6_read : GoodIn wsX6_fault (wsV RX6 90 RX6 yX6_read wsX6_read) := goodIn_app (goodIn_of _ (by decide +kernel)) ggX6_fault_X6_read
theorem dX6_fault_0 : decode cX6_fault 0 = .ok (.aload_n 0, 1) := by decide +kernel
theorem dX6_fault_1 : decode cX6_fault 1 = .ok (.invokevirtual 90, 3) := by decide +kernel
theorem dX6_fault_4 : decode cX6_fault 4 = .ok (.ireturn, 1) := by decide +kernel
set_option maxRecDepth 20000 in
theorem ggX6_colony_X6_read : GoodIn wsX6_colony wsX6_read := goodIn_r _ [19, 1, 2, 4, 14, 7, 20, 21, 18, 22, 23, 24, 25, 26, 27, 28, 29, 30, 31, 32, 33, 34, 35, 36, 37, 38, 39, 40, 41, 42, 43, 44, 45, 46, 47, 48, 49, 50, 51, 52, 53, 54, 55, 56, 57, 58, 59, 60, 61, 62, 63, 64, 65, 66, 67] (by decide +kernel) (by decide +kernel)
set_option maxRecDepth 20000 in
theorem gX6_colony_X6_read : GoodIn wsX6_colony (wsV RX6 90 RX6 yX6_read wsX6_read) := goodIn_app (goodIn_of _ (by decide +kernel)) ggX6_colony_X6_read
set_option maxRecDepth 20000 in
theorem ggX6_colony_X6_kindBy : GoodIn wsX6_colony wsX6_kindBy := goodIn_r _ [22] (by decide +kernel) (by decide +kernel)
set_option maxRecDepth 20000 in
theorem gX6_colony_X6_kindBy : GoodIn wsX6_colony (va_wsS RX6 84 yX6_kindBy wsX6_kindBy) := goodIn_app (goodIn_of _ (by decide +kernel)) ggX6_colony_X6_kindBy
theorem dX6_colony_0 : decode cX6_colony 0 = .ok (.aload_n 0, 1) := by decide +kernel
theorem dX6_colony_1 : decode cX6_colony 1 = .ok (.invokevirtual 90, 3) := by decide +kernel
theorem dX6_colony_4 : decode cX6_colony 4 = .ok (.pop, 1) := by decide +kernel
theorem dX6_colony_5 : decode cX6_colony 5 = .ok (.aload_n 0, 1) := by decide +kernel
theorem dX6_colony_6 : decode cX6_colony 6 = .ok (.getfield 73, 3) := by decide +kernel
theorem dX6_colony_9 : decode cX6_colony 9 = .ok (.ifCond .ne 6, 3) := by decide +kernel
theorem dX6_colony_12 : decode cX6_colony 12 = .ok (.bipush (-103), 2) := by decide +kernel
theorem dX6_colony_14 : decode cX6_colony 14 = .ok (.ireturn, 1) := by decide +kernel
theorem dX6_colony_15 : decode cX6_colony 15 = .ok (.aload_n 0, 1) := by decide +kernel
theorem dX6_colony_16 : decode cX6_colony 16 = .ok (.aload_n 0, 1) := by decide +kernel
theorem dX6_colony_17 : decode cX6_colony 17 = .ok (.getfield 81, 3) := by decide +kernel
theorem dX6_colony_20 : decode cX6_colony 20 = .ok (.putfield 94, 3) := by decide +kernel
theorem dX6_colony_23 : decode cX6_colony 23 = .ok (.aload_n 0, 1) := by decide +kernel
theorem dX6_colony_24 : decode cX6_colony 24 = .ok (.aload_n 0, 1) := by decide +kernel
theorem dX6_colony_25 : decode cX6_colony 25 = .ok (.getfield 70, 3) := by decide +kernel
theorem dX6_colony_28 : decode cX6_colony 28 = .ok (.putfield 97, 3) := by decide +kernel
theorem dX6_colony_31 : decode cX6_colony 31 = .ok (.iconst 0, 1) := by decide +kernel
theorem dX6_colony_32 : decode cX6_colony 32 = .ok (.istore_n 1, 1) := by decide +kernel
theorem dX6_colony_33 : decode cX6_colony 33 = .ok (.iload_n 1, 1) := by decide +kernel
theorem dX6_colony_34 : decode cX6_colony 34 = .ok (.aload_n 0, 1) := by decide +kernel
theorem dX6_colony_35 : decode cX6_colony 35 = .ok (.getfield 94, 3) := by decide +kernel
theorem dX6_colony_38 : decode cX6_colony 38 = .ok (.if_icmp .ge 45, 3) := by decide +kernel
theorem dX6_colony_41 : decode cX6_colony 41 = .ok (.aload_n 0, 1) := by decide +kernel
theorem dX6_colony_42 : decode cX6_colony 42 = .ok (.getfield 7, 3) := by decide +kernel
theorem dX6_colony_45 : decode cX6_colony 45 = .ok (.iload_n 1, 1) := by decide +kernel
theorem dX6_colony_46 : decode cX6_colony 46 = .ok (.aload_n 0, 1) := by decide +kernel
theorem dX6_colony_47 : decode cX6_colony 47 = .ok (.getfield 34, 3) := by decide +kernel
theorem dX6_colony_50 : decode cX6_colony 50 = .ok (.iconst 3, 1) := by decide +kernel
theorem dX6_colony_51 : decode cX6_colony 51 = .ok (.iload_n 1, 1) := by decide +kernel
theorem dX6_colony_52 : decode cX6_colony 52 = .ok (.imul, 1) := by decide +kernel
theorem dX6_colony_53 : decode cX6_colony 53 = .ok (.baload, 1) := by decide +kernel
theorem dX6_colony_54 : decode cX6_colony 54 = .ok (.invokestatic 84, 3) := by decide +kernel
theorem dX6_colony_57 : decode cX6_colony 57 = .ok (.iastore, 1) := by decide +kernel
theorem dX6_colony_58 : decode cX6_colony 58 = .ok (.aload_n 0, 1) := by decide +kernel
theorem dX6_colony_59 : decode cX6_colony 59 = .ok (.getfield 13, 3) := by decide +kernel
theorem dX6_colony_62 : decode cX6_colony 62 = .ok (.iload_n 1, 1) := by decide +kernel
theorem dX6_colony_63 : decode cX6_colony 63 = .ok (.aload_n 0, 1) := by decide +kernel
theorem dX6_colony_64 : decode cX6_colony 64 = .ok (.getfield 34, 3) := by decide +kernel
theorem dX6_colony_67 : decode cX6_colony 67 = .ok (.iconst 3, 1) := by decide +kernel
theorem dX6_colony_68 : decode cX6_colony 68 = .ok (.iload_n 1, 1) := by decide +kernel
theorem dX6_colony_69 : decode cX6_colony 69 = .ok (.imul, 1) := by decide +kernel
theorem dX6_colony_70 : decode cX6_colony 70 = .ok (.iconst 1, 1) := by decide +kernel
theorem dX6_colony_71 : decode cX6_colony 71 = .ok (.iadd, 1) := by decide +kernel
theorem dX6_colony_72 : decode cX6_colony 72 = .ok (.baload, 1) := by decide +kernel
theorem dX6_colony_73 : decode cX6_colony 73 = .ok (.bipush 48, 2) := by decide +kernel
theorem dX6_colony_75 : decode cX6_colony 75 = .ok (.isub, 1) := by decide +kernel
theorem dX6_colony_76 : decode cX6_colony 76 = .ok (.iastore, 1) := by decide +kernel
theorem dX6_colony_77 : decode cX6_colony 77 = .ok (.iinc 1 1, 3) := by decide +kernel
theorem dX6_colony_80 : decode cX6_colony 80 = .ok (.goto (-47), 3) := by decide +kernel
theorem dX6_colony_83 : decode cX6_colony 83 = .ok (.iconst 0, 1) := by decide +kernel
theorem dX6_colony_84 : decode cX6_colony 84 = .ok (.istore_n 1, 1) := by decide +kernel
theorem dX6_colony_85 : decode cX6_colony 85 = .ok (.iload_n 1, 1) := by decide +kernel
theorem dX6_colony_86 : decode cX6_colony 86 = .ok (.aload_n 0, 1) := by decide +kernel
theorem dX6_colony_87 : decode cX6_colony 87 = .ok (.getfield 97, 3) := by decide +kernel
theorem dX6_colony_90 : decode cX6_colony 90 = .ok (.if_icmp .ge 59, 3) := by decide +kernel
theorem dX6_colony_93 : decode cX6_colony 93 = .ok (.aload_n 0, 1) := by decide +kernel
theorem dX6_colony_94 : decode cX6_colony 94 = .ok (.getfield 16, 3) := by decide +kernel
theorem dX6_colony_97 : decode cX6_colony 97 = .ok (.iload_n 1, 1) := by decide +kernel
theorem dX6_colony_98 : decode cX6_colony 98 = .ok (.aload_n 0, 1) := by decide +kernel
theorem dX6_colony_99 : decode cX6_colony 99 = .ok (.getfield 34, 3) := by decide +kernel
theorem dX6_colony_102 : decode cX6_colony 102 = .ok (.iconst 3, 1) := by decide +kernel
theorem dX6_colony_103 : decode cX6_colony 103 = .ok (.aload_n 0, 1) := by decide +kernel
theorem dX6_colony_104 : decode cX6_colony 104 = .ok (.getfield 94, 3) := by decide +kernel
theorem dX6_colony_107 : decode cX6_colony 107 = .ok (.imul, 1) := by decide +kernel
theorem dX6_colony_108 : decode cX6_colony 108 = .ok (.iconst 2, 1) := by decide +kernel
theorem dX6_colony_109 : decode cX6_colony 109 = .ok (.iload_n 1, 1) := by decide +kernel
theorem dX6_colony_110 : decode cX6_colony 110 = .ok (.imul, 1) := by decide +kernel
theorem dX6_colony_111 : decode cX6_colony 111 = .ok (.iadd, 1) := by decide +kernel
theorem dX6_colony_112 : decode cX6_colony 112 = .ok (.baload, 1) := by decide +kernel
theorem dX6_colony_113 : decode cX6_colony 113 = .ok (.bipush 48, 2) := by decide +kernel
theorem dX6_colony_115 : decode cX6_colony 115 = .ok (.isub, 1) := by decide +kernel
theorem dX6_colony_116 : decode cX6_colony 116 = .ok (.iastore, 1) := by decide +kernel
theorem dX6_colony_117 : decode cX6_colony 117 = .ok (.aload_n 0, 1) := by decide +kernel
theorem dX6_colony_118 : decode cX6_colony 118 = .ok (.getfield 19, 3) := by decide +kernel
theorem dX6_colony_121 : decode cX6_colony 121 = .ok (.iload_n 1, 1) := by decide +kernel
theorem dX6_colony_122 : decode cX6_colony 122 = .ok (.aload_n 0, 1) := by decide +kernel
theorem dX6_colony_123 : decode cX6_colony 123 = .ok (.getfield 34, 3) := by decide +kernel
theorem dX6_colony_126 : decode cX6_colony 126 = .ok (.iconst 3, 1) := by decide +kernel
theorem dX6_colony_127 : decode cX6_colony 127 = .ok (.aload_n 0, 1) := by decide +kernel
theorem dX6_colony_128 : decode cX6_colony 128 = .ok (.getfield 94, 3) := by decide +kernel
theorem dX6_colony_131 : decode cX6_colony 131 = .ok (.imul, 1) := by decide +kernel
theorem dX6_colony_132 : decode cX6_colony 132 = .ok (.iconst 2, 1) := by decide +kernel
theorem dX6_colony_133 : decode cX6_colony 133 = .ok (.iload_n 1, 1) := by decide +kernel
theorem dX6_colony_134 : decode cX6_colony 134 = .ok (.imul, 1) := by decide +kernel
theorem dX6_colony_135 : decode cX6_colony 135 = .ok (.iadd, 1) := by decide +kernel
theorem dX6_colony_136 : decode cX6_colony 136 = .ok (.iconst 1, 1) := by decide +kernel
theorem dX6_colony_137 : decode cX6_colony 137 = .ok (.iadd, 1) := by decide +kernel
theorem dX6_colony_138 : decode cX6_colony 138 = .ok (.baload, 1) := by decide +kernel
theorem dX6_colony_139 : decode cX6_colony 139 = .ok (.bipush 48, 2) := by decide +kernel
theorem dX6_colony_141 : decode cX6_colony 141 = .ok (.isub, 1) := by decide +kernel
theorem dX6_colony_142 : decode cX6_colony 142 = .ok (.iastore, 1) := by decide +kernel
theorem dX6_colony_143 : decode cX6_colony 143 = .ok (.iinc 1 1, 3) := by decide +kernel
theorem dX6_colony_146 : decode cX6_colony 146 = .ok (.goto (-61), 3) := by decide +kernel
theorem dX6_colony_149 : decode cX6_colony 149 = .ok (.aload_n 0, 1) := by decide +kernel
theorem dX6_colony_150 : decode cX6_colony 150 = .ok (.dup, 1) := by decide +kernel
theorem dX6_colony_151 : decode cX6_colony 151 = .ok (.getfield 100, 3) := by decide +kernel
theorem dX6_colony_154 : decode cX6_colony 154 = .ok (.iconst 1, 1) := by decide +kernel
theorem dX6_colony_155 : decode cX6_colony 155 = .ok (.iadd, 1) := by decide +kernel
theorem dX6_colony_156 : decode cX6_colony 156 = .ok (.putfield 100, 3) := by decide +kernel
theorem dX6_colony_159 : decode cX6_colony 159 = .ok (.aload_n 0, 1) := by decide +kernel
theorem dX6_colony_160 : decode cX6_colony 160 = .ok (.iconst 0, 1) := by decide +kernel
theorem dX6_colony_161 : decode cX6_colony 161 = .ok (.putfield 103, 3) := by decide +kernel
theorem dX6_colony_164 : decode cX6_colony 164 = .ok (.aload_n 0, 1) := by decide +kernel
theorem dX6_colony_165 : decode cX6_colony 165 = .ok (.iconst 0, 1) := by decide +kernel
theorem dX6_colony_166 : decode cX6_colony 166 = .ok (.putfield 106, 3) := by decide +kernel
theorem dX6_colony_169 : decode cX6_colony 169 = .ok (.aload_n 0, 1) := by decide +kernel
theorem dX6_colony_170 : decode cX6_colony 170 = .ok (.iconst 0, 1) := by decide +kernel
theorem dX6_colony_171 : decode cX6_colony 171 = .ok (.putfield 66, 3) := by decide +kernel
theorem dX6_colony_174 : decode cX6_colony 174 = .ok (.aload_n 0, 1) := by decide +kernel
theorem dX6_colony_175 : decode cX6_colony 175 = .ok (.getfield 94, 3) := by decide +kernel
theorem dX6_colony_178 : decode cX6_colony 178 = .ok (.ireturn, 1) := by decide +kernel
set_option maxRecDepth 20000 in
theorem ggX6_isHouse_X6_within : GoodIn wsX6_isHouse wsX6_within := goodIn_r _ [5] (by decide +kernel) (by decide +kernel)
set_option maxRecDepth 20000 in
theorem gX6_isHouse_X6_within : GoodIn wsX6_isHouse (va_wsS RX6 62 yX6_within wsX6_within) := goodIn_app (goodIn_of _ (by decide +kernel)) ggX6_isHouse_X6_within
theorem dX6_isHouse_0 : decode cX6_isHouse 0 = .ok (.iload_n 1, 1) := by decide +kernel
theorem dX6_isHouse_1 : decode cX6_isHouse 1 = .ok (.iconst 0, 1) := by decide +kernel
theorem dX6_isHouse_2 : decode cX6_isHouse 2 = .ok (.aload_n 0, 1) := by decide +kernel
theorem dX6_isHouse_3 : decode cX6_isHouse 3 = .ok (.getfield 94, 3) := by decide +kernel
theorem dX6_isHouse_6 : decode cX6_isHouse 6 = .ok (.iconst 1, 1) := by decide +kernel
theorem dX6_isHouse_7 : decode cX6_isHouse 7 = .ok (.isub, 1) := by decide +kernel
theorem dX6_isHouse_8 : decode cX6_isHouse 8 = .ok (.invokestatic 62, 3) := by decide +kernel
theorem dX6_isHouse_11 : decode cX6_isHouse 11 = .ok (.ireturn, 1) := by decide +kernel
set_option maxRecDepth 20000 in
theorem ggX6_isStroke_X6_within : GoodIn wsX6_isStroke wsX6_within := goodIn_r _ [5] (by decide +kernel) (by decide +kernel)
set_option maxRecDepth 20000 in
theorem gX6_isStroke_X6_within : GoodIn wsX6_isStroke (va_wsS RX6 62 yX6_within wsX6_within) := goodIn_app (goodIn_of _ (by decide +kernel)) ggX6_isStroke_X6_within
theorem dX6_isStroke_0 : decode cX6_isStroke 0 = .ok (.iload_n 1, 1) := by decide +kernel
theorem dX6_isStroke_1 : decode cX6_isStroke 1 = .ok (.iconst 0, 1) := by decide +kernel
theorem dX6_isStroke_2 : decode cX6_isStroke 2 = .ok (.aload_n 0, 1) := by decide +kernel
theorem dX6_isStroke_3 : decode cX6_isStroke 3 = .ok (.getfield 97, 3) := by decide +kernel
theorem dX6_isStroke_6 : decode cX6_isStroke 6 = .ok (.iconst 1, 1) := by decide +kernel
theorem dX6_isStroke_7 : decode cX6_isStroke 7 = .ok (.isub, 1) := by decide +kernel
theorem dX6_isStroke_8 : decode cX6_isStroke 8 = .ok (.invokestatic 62, 3) := by decide +kernel
theorem dX6_isStroke_11 : decode cX6_isStroke 11 = .ok (.ireturn, 1) := by decide +kernel
set_option maxRecDepth 20000 in
theorem ggX6_isHour_X6_within : GoodIn wsX6_isHour wsX6_within := goodIn_r _ [4] (by decide +kernel) (by decide +kernel)
set_option maxRecDepth 20000 in
theorem gX6_isHour_X6_within : GoodIn wsX6_isHour (va_wsS RX6 62 yX6_within wsX6_within) := goodIn_app (goodIn_of _ (by decide +kernel)) ggX6_isHour_X6_within
theorem dX6_isHour_0 : decode cX6_isHour 0 = .ok (.iload_n 0, 1) := by decide +kernel
theorem dX6_isHour_1 : decode cX6_isHour 1 = .ok (.iconst 0, 1) := by decide +kernel
theorem dX6_isHour_2 : decode cX6_isHour 2 = .ok (.bipush 11, 2) := by decide +kernel
theorem dX6_isHour_4 : decode cX6_isHour 4 = .ok (.invokestatic 62, 3) := by decide +kernel
theorem dX6_isHour_7 : decode cX6_isHour 7 = .ok (.ireturn, 1) := by decide +kernel
theorem dX6_tideAt_0 : decode cX6_tideAt 0 = .ok (.iconst 0, 1) := by decide +kernel
theorem dX6_tideAt_1 : decode cX6_tideAt 1 = .ok (.istore_n 2, 1) := by decide +kernel
theorem dX6_tideAt_2 : decode cX6_tideAt 2 = .ok (.iconst 0, 1) := by decide +kernel
theorem dX6_tideAt_3 : decode cX6_tideAt 3 = .ok (.istore_n 3, 1) := by decide +kernel
theorem dX6_tideAt_4 : decode cX6_tideAt 4 = .ok (.iload_n 3, 1) := by decide +kernel
theorem dX6_tideAt_5 : decode cX6_tideAt 5 = .ok (.aload_n 0, 1) := by decide +kernel
theorem dX6_tideAt_6 : decode cX6_tideAt 6 = .ok (.getfield 97, 3) := by decide +kernel
theorem dX6_tideAt_9 : decode cX6_tideAt 9 = .ok (.aload_n 0, 1) := by decide +kernel
theorem dX6_tideAt_10 : decode cX6_tideAt 10 = .ok (.getfield 109, 3) := by decide +kernel
theorem dX6_tideAt_13 : decode cX6_tideAt 13 = .ok (.iadd, 1) := by decide +kernel
theorem dX6_tideAt_14 : decode cX6_tideAt 14 = .ok (.if_icmp .ge 55, 3) := by decide +kernel
theorem dX6_tideAt_17 : decode cX6_tideAt 17 = .ok (.iload_n 1, 1) := by decide +kernel
theorem dX6_tideAt_18 : decode cX6_tideAt 18 = .ok (.aload_n 0, 1) := by decide +kernel
theorem dX6_tideAt_19 : decode cX6_tideAt 19 = .ok (.getfield 16, 3) := by decide +kernel
theorem dX6_tideAt_22 : decode cX6_tideAt 22 = .ok (.iload_n 3, 1) := by decide +kernel
theorem dX6_tideAt_23 : decode cX6_tideAt 23 = .ok (.iaload, 1) := by decide +kernel
theorem dX6_tideAt_24 : decode cX6_tideAt 24 = .ok (.isub, 1) := by decide +kernel
theorem dX6_tideAt_25 : decode cX6_tideAt 25 = .ok (.istore 4, 2) := by decide +kernel
theorem dX6_tideAt_27 : decode cX6_tideAt 27 = .ok (.iload 4, 2) := by decide +kernel
theorem dX6_tideAt_29 : decode cX6_tideAt 29 = .ok (.ifCond .ge 7, 3) := by decide +kernel
theorem dX6_tideAt_32 : decode cX6_tideAt 32 = .ok (.iconst 0, 1) := by decide +kernel
theorem dX6_tideAt_33 : decode cX6_tideAt 33 = .ok (.goto 14, 3) := by decide +kernel
theorem dX6_tideAt_36 : decode cX6_tideAt 36 = .ok (.aload_n 0, 1) := by decide +kernel
theorem dX6_tideAt_37 : decode cX6_tideAt 37 = .ok (.getfield 19, 3) := by decide +kernel
theorem dX6_tideAt_40 : decode cX6_tideAt 40 = .ok (.iload_n 3, 1) := by decide +kernel
theorem dX6_tideAt_41 : decode cX6_tideAt 41 = .ok (.iaload, 1) := by decide +kernel
theorem dX6_tideAt_42 : decode cX6_tideAt 42 = .ok (.iconst 2, 1) := by decide +kernel
theorem dX6_tideAt_43 : decode cX6_tideAt 43 = .ok (.iload 4, 2) := by decide +kernel
theorem dX6_tideAt_45 : decode cX6_tideAt 45 = .ok (.imul, 1) := by decide +kernel
theorem dX6_tideAt_46 : decode cX6_tideAt 46 = .ok (.isub, 1) := by decide +kernel
theorem dX6_tideAt_47 : decode cX6_tideAt 47 = .ok (.istore 5, 2) := by decide +kernel
theorem dX6_tideAt_49 : decode cX6_tideAt 49 = .ok (.iload_n 2, 1) := by decide +kernel
theorem dX6_tideAt_50 : decode cX6_tideAt 50 = .ok (.iload 5, 2) := by decide +kernel
theorem dX6_tideAt_52 : decode cX6_tideAt 52 = .ok (.ifCond .le 8, 3) := by decide +kernel
theorem dX6_tideAt_55 : decode cX6_tideAt 55 = .ok (.iload 5, 2) := by decide +kernel
theorem dX6_tideAt_57 : decode cX6_tideAt 57 = .ok (.goto 4, 3) := by decide +kernel
theorem dX6_tideAt_60 : decode cX6_tideAt 60 = .ok (.iconst 0, 1) := by decide +kernel
theorem dX6_tideAt_61 : decode cX6_tideAt 61 = .ok (.iadd, 1) := by decide +kernel
theorem dX6_tideAt_62 : decode cX6_tideAt 62 = .ok (.istore_n 2, 1) := by decide +kernel
theorem dX6_tideAt_63 : decode cX6_tideAt 63 = .ok (.iinc 3 1, 3) := by decide +kernel
theorem dX6_tideAt_66 : decode cX6_tideAt 66 = .ok (.goto (-62), 3) := by decide +kernel
theorem dX6_tideAt_69 : decode cX6_tideAt 69 = .ok (.iload_n 2, 1) := by decide +kernel
theorem dX6_tideAt_70 : decode cX6_tideAt 70 = .ok (.bipush 20, 2) := by decide +kernel
theorem dX6_tideAt_72 : decode cX6_tideAt 72 = .ok (.if_icmp .le 8, 3) := by decide +kernel
theorem dX6_tideAt_75 : decode cX6_tideAt 75 = .ok (.bipush 20, 2) := by decide +kernel
theorem dX6_tideAt_77 : decode cX6_tideAt 77 = .ok (.goto 4, 3) := by decide +kernel
theorem dX6_tideAt_80 : decode cX6_tideAt 80 = .ok (.iload_n 2, 1) := by decide +kernel
theorem dX6_tideAt_81 : decode cX6_tideAt 81 = .ok (.ireturn, 1) := by decide +kernel
set_option maxRecDepth 20000 in
theorem ggX6_tideBefore_X6_tideAt : GoodIn wsX6_tideBefore wsX6_tideAt := goodIn_r _ [5, 6, 7, 8, 9, 10, 11, 12, 13, 14, 15, 16, 17, 18, 19, 20, 21, 22, 23, 24, 25, 26, 27, 28, 29, 30, 31, 32, 33, 34, 35, 36, 37, 38, 39, 40, 41, 42, 43] (by decide +kernel) (by decide +kernel)
set_option maxRecDepth 20000 in
theorem gX6_tideBefore_X6_tideAt : GoodIn wsX6_tideBefore (wsV RX6 112 RX6 yX6_tideAt wsX6_tideAt) := goodIn_app (goodIn_of _ (by decide +kernel)) ggX6_tideBefore_X6_tideAt
theorem dX6_tideBefore_0 : decode cX6_tideBefore 0 = .ok (.iload_n 1, 1) := by decide +kernel
theorem dX6_tideBefore_1 : decode cX6_tideBefore 1 = .ok (.ifCond .ne 7, 3) := by decide +kernel
theorem dX6_tideBefore_4 : decode cX6_tideBefore 4 = .ok (.iconst 0, 1) := by decide +kernel
theorem dX6_tideBefore_5 : decode cX6_tideBefore 5 = .ok (.goto 10, 3) := by decide +kernel
theorem dX6_tideBefore_8 : decode cX6_tideBefore 8 = .ok (.aload_n 0, 1) := by decide +kernel
theorem dX6_tideBefore_9 : decode cX6_tideBefore 9 = .ok (.iload_n 1, 1) := by decide +kernel
theorem dX6_tideBefore_10 : decode cX6_tideBefore 10 = .ok (.iconst 1, 1) := by decide +kernel
theorem dX6_tideBefore_11 : decode cX6_tideBefore 11 = .ok (.isub, 1) := by decide +kernel
theorem dX6_tideBefore_12 : decode cX6_tideBefore 12 = .ok (.invokevirtual 112, 3) := by decide +kernel
theorem dX6_tideBefore_15 : decode cX6_tideBefore 15 = .ok (.ireturn, 1) := by decide +kernel
theorem dX6_less_0 : decode cX6_less 0 = .ok (.iload_n 0, 1) := by decide +kernel
theorem dX6_less_1 : decode cX6_less 1 = .ok (.iload_n 1, 1) := by decide +kernel
theorem dX6_less_2 : decode cX6_less 2 = .ok (.if_icmp .le 9, 3) := by decide +kernel
theorem dX6_less_5 : decode cX6_less 5 = .ok (.iload_n 0, 1) := by decide +kernel
theorem dX6_less_6 : decode cX6_less 6 = .ok (.iload_n 1, 1) := by decide +kernel
theorem dX6_less_7 : decode cX6_less 7 = .ok (.isub, 1) := by decide +kernel
theorem dX6_less_8 : decode cX6_less 8 = .ok (.goto 4, 3) := by decide +kernel
theorem dX6_less_11 : decode cX6_less 11 = .ok (.iconst 0, 1) := by decide +kernel
theorem dX6_less_12 : decode cX6_less 12 = .ok (.ireturn, 1) := by decide +kernel
set_option maxRecDepth 20000 in
theorem ggX6_mannersAt_X6_tideAt : GoodIn wsX6_mannersAt wsX6_tideAt := goodIn_r _ [7, 8, 9, 10, 11, 19, 20, 21, 22, 23, 24, 25, 26, 27, 28, 29, 30, 31, 32, 33, 34, 35, 36, 37, 38, 39, 40, 41, 42, 43, 44, 45, 46, 47, 48, 49, 50, 51, 52] (by decide +kernel) (by decide +kernel)
set_option maxRecDepth 20000 in
theorem gX6_mannersAt_X6_tideAt : GoodIn wsX6_mannersAt (wsV RX6 112 RX6 yX6_tideAt wsX6_tideAt) := goodIn_app (goodIn_of _ (by decide +kernel)) ggX6_mannersAt_X6_tideAt
set_option maxRecDepth 20000 in
theorem ggX6_mannersAt_X6_less : GoodIn wsX6_mannersAt wsX6_less := goodIn_r _ [14] (by decide +kernel) (by decide +kernel)
set_option maxRecDepth 20000 in
theorem gX6_mannersAt_X6_less : GoodIn wsX6_mannersAt (va_wsS RX6 115 yX6_less wsX6_less) := goodIn_app (goodIn_of _ (by decide +kernel)) ggX6_mannersAt_X6_less
set_option maxRecDepth 20000 in
theorem ggX6_mannersAt_X6_tideBefore : GoodIn wsX6_mannersAt wsX6_tideBefore := goodIn_r _ [18, 3, 4, 5, 6, 7, 8, 9, 10, 11, 19, 20, 21, 22, 23, 24, 25, 26, 27, 28, 29, 30, 31, 32, 33, 34, 35, 36, 37, 38, 39, 40, 41, 42, 43, 44, 45, 46, 47, 48, 49, 50, 51, 52] (by decide +kernel) (by decide +kernel)
set_option maxRecDepth 20000 in
theorem gX6_mannersAt_X6_tideBefore : GoodIn wsX6_mannersAt (wsV RX6 119 RX6 yX6_tideBefore wsX6_tideBefore) := goodIn_app (goodIn_of _ (by decide +kernel)) ggX6_mannersAt_X6_tideBefore
theorem dX6_mannersAt_0 : decode cX6_mannersAt 0 = .ok (.aload_n 0, 1) := by decide +kernel
theorem dX6_mannersAt_1 : decode cX6_mannersAt 1 = .ok (.getfield 13, 3) := by decide +kernel
theorem dX6_mannersAt_4 : decode cX6_mannersAt 4 = .ok (.iload_n 1, 1) := by decide +kernel
theorem dX6_mannersAt_5 : decode cX6_mannersAt 5 = .ok (.iaload, 1) := by decide +kernel
theorem dX6_mannersAt_6 : decode cX6_mannersAt 6 = .ok (.istore_n 3, 1) := by decide +kernel
theorem dX6_mannersAt_7 : decode cX6_mannersAt 7 = .ok (.aload_n 0, 1) := by decide +kernel
theorem dX6_mannersAt_8 : decode cX6_mannersAt 8 = .ok (.getfield 7, 3) := by decide +kernel
theorem dX6_mannersAt_11 : decode cX6_mannersAt 11 = .ok (.iload_n 1, 1) := by decide +kernel
theorem dX6_mannersAt_12 : decode cX6_mannersAt 12 = .ok (.iaload, 1) := by decide +kernel
theorem dX6_mannersAt_13 : decode cX6_mannersAt 13 = .ok (.tableswitch 102 1 4 #[31, 59, 90, 45], 31) := by decide +kernel
theorem dX6_mannersAt_44 : decode cX6_mannersAt 44 = .ok (.aload_n 0, 1) := by decide +kernel
theorem dX6_mannersAt_45 : decode cX6_mannersAt 45 = .ok (.iload_n 2, 1) := by decide +kernel
theorem dX6_mannersAt_46 : decode cX6_mannersAt 46 = .ok (.invokevirtual 112, 3) := by decide +kernel
theorem dX6_mannersAt_49 : decode cX6_mannersAt 49 = .ok (.iload_n 3, 1) := by decide +kernel
theorem dX6_mannersAt_50 : decode cX6_mannersAt 50 = .ok (.iconst 3, 1) := by decide +kernel
theorem dX6_mannersAt_51 : decode cX6_mannersAt 51 = .ok (.invokestatic 115, 3) := by decide +kernel
theorem dX6_mannersAt_54 : decode cX6_mannersAt 54 = .ok (.invokestatic 115, 3) := by decide +kernel
theorem dX6_mannersAt_57 : decode cX6_mannersAt 57 = .ok (.ireturn, 1) := by decide +kernel
theorem dX6_mannersAt_58 : decode cX6_mannersAt 58 = .ok (.aload_n 0, 1) := by decide +kernel
theorem dX6_mannersAt_59 : decode cX6_mannersAt 59 = .ok (.iload_n 2, 1) := by decide +kernel
theorem dX6_mannersAt_60 : decode cX6_mannersAt 60 = .ok (.invokevirtual 119, 3) := by decide +kernel
theorem dX6_mannersAt_63 : decode cX6_mannersAt 63 = .ok (.iload_n 3, 1) := by decide +kernel
theorem dX6_mannersAt_64 : decode cX6_mannersAt 64 = .ok (.iconst 3, 1) := by decide +kernel
theorem dX6_mannersAt_65 : decode cX6_mannersAt 65 = .ok (.invokestatic 115, 3) := by decide +kernel
theorem dX6_mannersAt_68 : decode cX6_mannersAt 68 = .ok (.invokestatic 115, 3) := by decide +kernel
theorem dX6_mannersAt_71 : decode cX6_mannersAt 71 = .ok (.ireturn, 1) := by decide +kernel
theorem dX6_mannersAt_72 : decode cX6_mannersAt 72 = .ok (.aload_n 0, 1) := by decide +kernel
theorem dX6_mannersAt_73 : decode cX6_mannersAt 73 = .ok (.iload_n 2, 1) := by decide +kernel
theorem dX6_mannersAt_74 : decode cX6_mannersAt 74 = .ok (.invokevirtual 119, 3) := by decide +kernel
theorem dX6_mannersAt_77 : decode cX6_mannersAt 77 = .ok (.aload_n 0, 1) := by decide +kernel
theorem dX6_mannersAt_78 : decode cX6_mannersAt 78 = .ok (.iload_n 2, 1) := by decide +kernel
theorem dX6_mannersAt_79 : decode cX6_mannersAt 79 = .ok (.invokevirtual 112, 3) := by decide +kernel
theorem dX6_mannersAt_82 : decode cX6_mannersAt 82 = .ok (.if_icmp .ge 11, 3) := by decide +kernel
theorem dX6_mannersAt_85 : decode cX6_mannersAt 85 = .ok (.aload_n 0, 1) := by decide +kernel
theorem dX6_mannersAt_86 : decode cX6_mannersAt 86 = .ok (.iload_n 2, 1) := by decide +kernel
theorem dX6_mannersAt_87 : decode cX6_mannersAt 87 = .ok (.invokevirtual 119, 3) := by decide +kernel
theorem dX6_mannersAt_90 : decode cX6_mannersAt 90 = .ok (.goto 8, 3) := by decide +kernel
theorem dX6_mannersAt_93 : decode cX6_mannersAt 93 = .ok (.aload_n 0, 1) := by decide +kernel
theorem dX6_mannersAt_94 : decode cX6_mannersAt 94 = .ok (.iload_n 2, 1) := by decide +kernel
theorem dX6_mannersAt_95 : decode cX6_mannersAt 95 = .ok (.invokevirtual 112, 3) := by decide +kernel
theorem dX6_mannersAt_98 : decode cX6_mannersAt 98 = .ok (.iload_n 3, 1) := by decide +kernel
theorem dX6_mannersAt_99 : decode cX6_mannersAt 99 = .ok (.invokestatic 115, 3) := by decide +kernel
theorem dX6_mannersAt_102 : decode cX6_mannersAt 102 = .ok (.ireturn, 1) := by decide +kernel
theorem dX6_mannersAt_103 : decode cX6_mannersAt 103 = .ok (.iload_n 2, 1) := by decide +kernel
theorem dX6_mannersAt_104 : decode cX6_mannersAt 104 = .ok (.iconst 2, 1) := by decide +kernel
theorem dX6_mannersAt_105 : decode cX6_mannersAt 105 = .ok (.irem, 1) := by decide +kernel
theorem dX6_mannersAt_106 : decode cX6_mannersAt 106 = .ok (.ifCond .ne 7, 3) := by decide +kernel
theorem dX6_mannersAt_109 : decode cX6_mannersAt 109 = .ok (.iconst 3, 1) := by decide +kernel
theorem dX6_mannersAt_110 : decode cX6_mannersAt 110 = .ok (.goto 4, 3) := by decide +kernel
theorem dX6_mannersAt_113 : decode cX6_mannersAt 113 = .ok (.iconst 0, 1) := by decide +kernel
theorem dX6_mannersAt_114 : decode cX6_mannersAt 114 = .ok (.ireturn, 1) := by decide +kernel
theorem dX6_mannersAt_115 : decode cX6_mannersAt 115 = .ok (.aload_n 0, 1) := by decide +kernel
theorem dX6_mannersAt_116 : decode cX6_mannersAt 116 = .ok (.iload_n 2, 1) := by decide +kernel
theorem dX6_mannersAt_117 : decode cX6_mannersAt 117 = .ok (.invokevirtual 112, 3) := by decide +kernel
theorem dX6_mannersAt_120 : decode cX6_mannersAt 120 = .ok (.iload_n 3, 1) := by decide +kernel
theorem dX6_mannersAt_121 : decode cX6_mannersAt 121 = .ok (.invokestatic 115, 3) := by decide +kernel
theorem dX6_mannersAt_124 : decode cX6_mannersAt 124 = .ok (.ireturn, 1) := by decide +kernel
set_option maxRecDepth 20000 in
theorem ggX6_howAt_X6_mannersAt : GoodIn wsX6_howAt wsX6_mannersAt := goodIn_r _ [5, 6, 7, 8, 9, 10, 4, 11, 12, 13, 14, 15, 16, 17, 18, 19, 20, 21, 22, 23, 24, 25, 26, 27, 28, 29, 30, 31, 32, 33, 34, 35, 36, 37, 38, 39, 40, 41, 42, 43, 44, 45, 46, 47, 48, 49, 50, 51, 52, 53, 54, 55, 56] (by decide +kernel) (by decide +kernel)
set_option maxRecDepth 20000 in
theorem gX6_howAt_X6_mannersAt : GoodIn wsX6_howAt (wsV RX6 122 RX6 yX6_mannersAt wsX6_mannersAt) := goodIn_app (goodIn_of _ (by decide +kernel)) ggX6_howAt_X6_mannersAt
theorem dX6_howAt_0 : decode cX6_howAt 0 = .ok (.aload_n 0, 1) := by decide +kernel
theorem dX6_howAt_1 : decode cX6_howAt 1 = .ok (.iload_n 1, 1) := by decide +kernel
theorem dX6_howAt_2 : decode cX6_howAt 2 = .ok (.iload_n 2, 1) := by decide +kernel
theorem dX6_howAt_3 : decode cX6_howAt 3 = .ok (.invokevirtual 122, 3) := by decide +kernel
theorem dX6_howAt_6 : decode cX6_howAt 6 = .ok (.istore_n 3, 1) := by decide +kernel
theorem dX6_howAt_7 : decode cX6_howAt 7 = .ok (.iload_n 3, 1) := by decide +kernel
theorem dX6_howAt_8 : decode cX6_howAt 8 = .ok (.ifCond .ne 7, 3) := by decide +kernel
theorem dX6_howAt_11 : decode cX6_howAt 11 = .ok (.iconst 0, 1) := by decide +kernel
theorem dX6_howAt_12 : decode cX6_howAt 12 = .ok (.goto 13, 3) := by decide +kernel
theorem dX6_howAt_15 : decode cX6_howAt 15 = .ok (.iload_n 3, 1) := by decide +kernel
theorem dX6_howAt_16 : decode cX6_howAt 16 = .ok (.iconst 5, 1) := by decide +kernel
theorem dX6_howAt_17 : decode cX6_howAt 17 = .ok (.if_icmp .ge 7, 3) := by decide +kernel
theorem dX6_howAt_20 : decode cX6_howAt 20 = .ok (.iconst 1, 1) := by decide +kernel
theorem dX6_howAt_21 : decode cX6_howAt 21 = .ok (.goto 4, 3) := by decide +kernel
theorem dX6_howAt_24 : decode cX6_howAt 24 = .ok (.iconst 2, 1) := by decide +kernel
theorem dX6_howAt_25 : decode cX6_howAt 25 = .ok (.ireturn, 1) := by decide +kernel
set_option maxRecDepth 20000 in
theorem ggX6_hoursOf_X6_howAt : GoodIn wsX6_hoursOf wsX6_howAt := goodIn_r _ [5, 6, 7, 8, 4, 9, 10, 11, 12, 13, 14, 15, 16, 17, 18, 19, 20, 21, 22, 23, 24, 25, 26, 27, 28, 29, 30, 31, 32, 33, 34, 35, 36, 37, 38, 39, 40, 41, 42, 43, 44, 45, 46, 47, 48, 49, 50, 51, 52, 53, 54, 55, 56, 57, 58, 59, 60] (by decide +kernel) (by decide +kernel)
set_option maxRecDepth 20000 in
theorem gX6_hoursOf_X6_howAt : GoodIn wsX6_hoursOf (wsV RX6 125 RX6 yX6_howAt wsX6_howAt) := goodIn_app (goodIn_of _ (by decide +kernel)) ggX6_hoursOf_X6_howAt
theorem dX6_hoursOf_0 : decode cX6_hoursOf 0 = .ok (.iconst 0, 1) := by decide +kernel
theorem dX6_hoursOf_1 : decode cX6_hoursOf 1 = .ok (.istore_n 3, 1) := by decide +kernel
theorem dX6_hoursOf_2 : decode cX6_hoursOf 2 = .ok (.iconst 0, 1) := by decide +kernel
theorem dX6_hoursOf_3 : decode cX6_hoursOf 3 = .ok (.istore 4, 2) := by decide +kernel
theorem dX6_hoursOf_5 : decode cX6_hoursOf 5 = .ok (.iload 4, 2) := by decide +kernel
theorem dX6_hoursOf_7 : decode cX6_hoursOf 7 = .ok (.bipush 12, 2) := by decide +kernel
theorem dX6_hoursOf_9 : decode cX6_hoursOf 9 = .ok (.if_icmp .ge 28, 3) := by decide +kernel
theorem dX6_hoursOf_12 : decode cX6_hoursOf 12 = .ok (.iload_n 3, 1) := by decide +kernel
theorem dX6_hoursOf_13 : decode cX6_hoursOf 13 = .ok (.aload_n 0, 1) := by decide +kernel
theorem dX6_hoursOf_14 : decode cX6_hoursOf 14 = .ok (.iload_n 1, 1) := by decide +kernel
theorem dX6_hoursOf_15 : decode cX6_hoursOf 15 = .ok (.iload 4, 2) := by decide +kernel
theorem dX6_hoursOf_17 : decode cX6_hoursOf 17 = .ok (.invokevirtual 125, 3) := by decide +kernel
theorem dX6_hoursOf_20 : decode cX6_hoursOf 20 = .ok (.iload_n 2, 1) := by decide +kernel
theorem dX6_hoursOf_21 : decode cX6_hoursOf 21 = .ok (.if_icmp .ne 7, 3) := by decide +kernel
theorem dX6_hoursOf_24 : decode cX6_hoursOf 24 = .ok (.iconst 1, 1) := by decide +kernel
theorem dX6_hoursOf_25 : decode cX6_hoursOf 25 = .ok (.goto 4, 3) := by decide +kernel
theorem dX6_hoursOf_28 : decode cX6_hoursOf 28 = .ok (.iconst 0, 1) := by decide +kernel
theorem dX6_hoursOf_29 : decode cX6_hoursOf 29 = .ok (.iadd, 1) := by decide +kernel
theorem dX6_hoursOf_30 : decode cX6_hoursOf 30 = .ok (.istore_n 3, 1) := by decide +kernel
theorem dX6_hoursOf_31 : decode cX6_hoursOf 31 = .ok (.iinc 4 1, 3) := by decide +kernel
theorem dX6_hoursOf_34 : decode cX6_hoursOf 34 = .ok (.goto (-29), 3) := by decide +kernel
theorem dX6_hoursOf_37 : decode cX6_hoursOf 37 = .ok (.iload_n 3, 1) := by decide +kernel
theorem dX6_hoursOf_38 : decode cX6_hoursOf 38 = .ok (.ireturn, 1) := by decide +kernel
set_option maxRecDepth 20000 in
theorem ggX6_hoursAll_X6_hoursOf : GoodIn wsX6_hoursAll wsX6_hoursOf := goodIn_r _ [6, 7, 8, 9, 5, 10, 11, 12, 13, 14, 15, 16, 17, 18, 19, 20, 21, 22, 23, 24, 25, 26, 27, 28, 29, 30, 31, 32, 33, 34, 35, 36, 37, 38, 39, 40, 41, 42, 43, 44, 45, 46, 47, 48, 49, 50, 51, 52, 53, 54, 55, 56, 57, 58, 59, 60, 61, 62, 63, 64, 65] (by decide +kernel) (by decide +kernel)
set_option maxRecDepth 20000 in
theorem gX6_hoursAll_X6_hoursOf : GoodIn wsX6_hoursAll (wsV RX6 128 RX6 yX6_hoursOf wsX6_hoursOf) := goodIn_app (goodIn_of _ (by decide +kernel)) ggX6_hoursAll_X6_hoursOf
theorem dX6_hoursAll_0 : decode cX6_hoursAll 0 = .ok (.iconst 0, 1) := by decide +kernel
theorem dX6_hoursAll_1 : decode cX6_hoursAll 1 = .ok (.istore_n 2, 1) := by decide +kernel
theorem dX6_hoursAll_2 : decode cX6_hoursAll 2 = .ok (.iconst 0, 1) := by decide +kernel
theorem dX6_hoursAll_3 : decode cX6_hoursAll 3 = .ok (.istore_n 3, 1) := by decide +kernel
theorem dX6_hoursAll_4 : decode cX6_hoursAll 4 = .ok (.iload_n 3, 1) := by decide +kernel
theorem dX6_hoursAll_5 : decode cX6_hoursAll 5 = .ok (.aload_n 0, 1) := by decide +kernel
theorem dX6_hoursAll_6 : decode cX6_hoursAll 6 = .ok (.getfield 94, 3) := by decide +kernel
theorem dX6_hoursAll_9 : decode cX6_hoursAll 9 = .ok (.if_icmp .ge 18, 3) := by decide +kernel
theorem dX6_hoursAll_12 : decode cX6_hoursAll 12 = .ok (.iload_n 2, 1) := by decide +kernel
theorem dX6_hoursAll_13 : decode cX6_hoursAll 13 = .ok (.aload_n 0, 1) := by decide +kernel
theorem dX6_hoursAll_14 : decode cX6_hoursAll 14 = .ok (.iload_n 3, 1) := by decide +kernel
theorem dX6_hoursAll_15 : decode cX6_hoursAll 15 = .ok (.iload_n 1, 1) := by decide +kernel
theorem dX6_hoursAll_16 : decode cX6_hoursAll 16 = .ok (.invokevirtual 128, 3) := by decide +kernel
theorem dX6_hoursAll_19 : decode cX6_hoursAll 19 = .ok (.iadd, 1) := by decide +kernel
theorem dX6_hoursAll_20 : decode cX6_hoursAll 20 = .ok (.istore_n 2, 1) := by decide +kernel
theorem dX6_hoursAll_21 : decode cX6_hoursAll 21 = .ok (.iinc 3 1, 3) := by decide +kernel
theorem dX6_hoursAll_24 : decode cX6_hoursAll 24 = .ok (.goto (-20), 3) := by decide +kernel
theorem dX6_hoursAll_27 : decode cX6_hoursAll 27 = .ok (.iload_n 2, 1) := by decide +kernel
theorem dX6_hoursAll_28 : decode cX6_hoursAll 28 = .ok (.ireturn, 1) := by decide +kernel
set_option maxRecDepth 20000 in
theorem ggX6_greatestHour_X6_mannersAt : GoodIn wsX6_greatestHour wsX6_mannersAt := goodIn_r _ [5, 6, 7, 8, 9, 10, 4, 11, 12, 13, 14, 15, 16, 17, 18, 19, 20, 21, 22, 23, 24, 25, 26, 27, 28, 29, 30, 31, 32, 33, 34, 35, 36, 37, 38, 39, 40, 41, 42, 43, 44, 45, 46, 47, 48, 49, 50, 51, 52, 53, 54, 55, 56] (by decide +kernel) (by decide +kernel)
set_option maxRecDepth 20000 in
theorem gX6_greatestHour_X6_mannersAt : GoodIn wsX6_greatestHour (wsV RX6 122 RX6 yX6_mannersAt wsX6_mannersAt) := goodIn_app (goodIn_of _ (by decide +kernel)) ggX6_greatestHour_X6_mannersAt
theorem dX6_greatestHour_0 : decode cX6_greatestHour 0 = .ok (.iconst 0, 1) := by decide +kernel
theorem dX6_greatestHour_1 : decode cX6_greatestHour 1 = .ok (.istore_n 2, 1) := by decide +kernel
theorem dX6_greatestHour_2 : decode cX6_greatestHour 2 = .ok (.iconst 1, 1) := by decide +kernel
theorem dX6_greatestHour_3 : decode cX6_greatestHour 3 = .ok (.istore_n 3, 1) := by decide +kernel
theorem dX6_greatestHour_4 : decode cX6_greatestHour 4 = .ok (.iload_n 3, 1) := by decide +kernel
theorem dX6_greatestHour_5 : decode cX6_greatestHour 5 = .ok (.bipush 12, 2) := by decide +kernel
theorem dX6_greatestHour_7 : decode cX6_greatestHour 7 = .ok (.if_icmp .ge 30, 3) := by decide +kernel
theorem dX6_greatestHour_10 : decode cX6_greatestHour 10 = .ok (.aload_n 0, 1) := by decide +kernel
theorem dX6_greatestHour_11 : decode cX6_greatestHour 11 = .ok (.iload_n 1, 1) := by decide +kernel
theorem dX6_greatestHour_12 : decode cX6_greatestHour 12 = .ok (.iload_n 3, 1) := by decide +kernel
theorem dX6_greatestHour_13 : decode cX6_greatestHour 13 = .ok (.invokevirtual 122, 3) := by decide +kernel
theorem dX6_greatestHour_16 : decode cX6_greatestHour 16 = .ok (.aload_n 0, 1) := by decide +kernel
theorem dX6_greatestHour_17 : decode cX6_greatestHour 17 = .ok (.iload_n 1, 1) := by decide +kernel
theorem dX6_greatestHour_18 : decode cX6_greatestHour 18 = .ok (.iload_n 2, 1) := by decide +kernel
theorem dX6_greatestHour_19 : decode cX6_greatestHour 19 = .ok (.invokevirtual 122, 3) := by decide +kernel
theorem dX6_greatestHour_22 : decode cX6_greatestHour 22 = .ok (.if_icmp .le 7, 3) := by decide +kernel
theorem dX6_greatestHour_25 : decode cX6_greatestHour 25 = .ok (.iload_n 3, 1) := by decide +kernel
theorem dX6_greatestHour_26 : decode cX6_greatestHour 26 = .ok (.goto 4, 3) := by decide +kernel
theorem dX6_greatestHour_29 : decode cX6_greatestHour 29 = .ok (.iload_n 2, 1) := by decide +kernel
theorem dX6_greatestHour_30 : decode cX6_greatestHour 30 = .ok (.istore_n 2, 1) := by decide +kernel
theorem dX6_greatestHour_31 : decode cX6_greatestHour 31 = .ok (.iinc 3 1, 3) := by decide +kernel
theorem dX6_greatestHour_34 : decode cX6_greatestHour 34 = .ok (.goto (-30), 3) := by decide +kernel
theorem dX6_greatestHour_37 : decode cX6_greatestHour 37 = .ok (.iload_n 2, 1) := by decide +kernel
theorem dX6_greatestHour_38 : decode cX6_greatestHour 38 = .ok (.ireturn, 1) := by decide +kernel
set_option maxRecDepth 20000 in
theorem ggX6_houseNow_X6_hoursOf : GoodIn wsX6_houseNow wsX6_hoursOf := goodIn_r _ [7, 8, 9, 10, 6, 11, 12, 13, 14, 15, 2, 1, 16, 17, 18, 19, 20, 21, 22, 23, 24, 25, 26, 27, 28, 29, 30, 35, 36, 37, 38, 39, 40, 41, 42, 43, 44, 45, 46, 47, 48, 49, 50, 51, 52, 53, 54, 55, 56, 57, 58, 59, 60, 61, 62, 63, 64, 65, 66, 67, 68] (by decide +kernel) (by decide +kernel)
set_option maxRecDepth 20000 in
theorem gX6_houseNow_X6_hoursOf : GoodIn wsX6_houseNow (wsV RX6 128 RX6 yX6_hoursOf wsX6_hoursOf) := goodIn_app (goodIn_of _ (by decide +kernel)) ggX6_houseNow_X6_hoursOf
set_option maxRecDepth 20000 in
theorem ggX6_houseNow_X6_greatestHour : GoodIn wsX6_houseNow wsX6_greatestHour := goodIn_r _ [34, 12, 13, 14, 6, 15, 2, 1, 16, 17, 18, 19, 20, 21, 22, 23, 24, 25, 26, 27, 28, 29, 30, 35, 36, 37, 38, 39, 40, 41, 42, 43, 44, 45, 46, 47, 48, 49, 50, 51, 52, 53, 54, 55, 56, 57, 58, 59, 60, 61, 62, 63, 64, 65, 66, 67, 68] (by decide +kernel) (by decide +kernel)
set_option maxRecDepth 20000 in
theorem gX6_houseNow_X6_greatestHour : GoodIn wsX6_houseNow (wsV RX6 131 RX6 yX6_greatestHour wsX6_greatestHour) := goodIn_app (goodIn_of _ (by decide +kernel)) ggX6_houseNow_X6_greatestHour
set_option maxRecDepth 20000 in
theorem ggX6_houseNow_X6_mannersAt : GoodIn wsX6_houseNow wsX6_mannersAt := goodIn_r _ [15, 2, 1, 16, 17, 18, 6, 19, 20, 21, 22, 23, 24, 25, 26, 27, 28, 29, 30, 35, 36, 37, 38, 39, 40, 41, 42, 43, 44, 45, 46, 47, 48, 49, 50, 51, 52, 53, 54, 55, 56, 57, 58, 59, 60, 61, 62, 63, 64, 65, 66, 67, 68] (by decide +kernel) (by decide +kernel)
set_option maxRecDepth 20000 in
theorem gX6_houseNow_X6_mannersAt : GoodIn wsX6_houseNow (wsV RX6 122 RX6 yX6_mannersAt wsX6_mannersAt) := goodIn_app (goodIn_of _ (by decide +kernel)) ggX6_houseNow_X6_mannersAt
theorem dX6_houseNow_0 : decode cX6_houseNow 0 = .ok (.iload_n 2, 1) := by decide +kernel
theorem dX6_houseNow_1 : decode cX6_houseNow 1 = .ok (.tableswitch 73 0 4 #[35, 42, 49, 56, 67], 35) := by decide +kernel
theorem dX6_houseNow_36 : decode cX6_houseNow 36 = .ok (.aload_n 0, 1) := by decide +kernel
theorem dX6_houseNow_37 : decode cX6_houseNow 37 = .ok (.getfield 7, 3) := by decide +kernel
theorem dX6_houseNow_40 : decode cX6_houseNow 40 = .ok (.iload_n 1, 1) := by decide +kernel
theorem dX6_houseNow_41 : decode cX6_houseNow 41 = .ok (.iaload, 1) := by decide +kernel
theorem dX6_houseNow_42 : decode cX6_houseNow 42 = .ok (.ireturn, 1) := by decide +kernel
theorem dX6_houseNow_43 : decode cX6_houseNow 43 = .ok (.aload_n 0, 1) := by decide +kernel
theorem dX6_houseNow_44 : decode cX6_houseNow 44 = .ok (.getfield 13, 3) := by decide +kernel
theorem dX6_houseNow_47 : decode cX6_houseNow 47 = .ok (.iload_n 1, 1) := by decide +kernel
theorem dX6_houseNow_48 : decode cX6_houseNow 48 = .ok (.iaload, 1) := by decide +kernel
theorem dX6_houseNow_49 : decode cX6_houseNow 49 = .ok (.ireturn, 1) := by decide +kernel
theorem dX6_houseNow_50 : decode cX6_houseNow 50 = .ok (.aload_n 0, 1) := by decide +kernel
theorem dX6_houseNow_51 : decode cX6_houseNow 51 = .ok (.iload_n 1, 1) := by decide +kernel
theorem dX6_houseNow_52 : decode cX6_houseNow 52 = .ok (.iconst 0, 1) := by decide +kernel
theorem dX6_houseNow_53 : decode cX6_houseNow 53 = .ok (.invokevirtual 128, 3) := by decide +kernel
theorem dX6_houseNow_56 : decode cX6_houseNow 56 = .ok (.ireturn, 1) := by decide +kernel
theorem dX6_houseNow_57 : decode cX6_houseNow 57 = .ok (.aload_n 0, 1) := by decide +kernel
theorem dX6_houseNow_58 : decode cX6_houseNow 58 = .ok (.iload_n 1, 1) := by decide +kernel
theorem dX6_houseNow_59 : decode cX6_houseNow 59 = .ok (.aload_n 0, 1) := by decide +kernel
theorem dX6_houseNow_60 : decode cX6_houseNow 60 = .ok (.iload_n 1, 1) := by decide +kernel
theorem dX6_houseNow_61 : decode cX6_houseNow 61 = .ok (.invokevirtual 131, 3) := by decide +kernel
theorem dX6_houseNow_64 : decode cX6_houseNow 64 = .ok (.invokevirtual 122, 3) := by decide +kernel
theorem dX6_houseNow_67 : decode cX6_houseNow 67 = .ok (.ireturn, 1) := by decide +kernel
theorem dX6_houseNow_68 : decode cX6_houseNow 68 = .ok (.aload_n 0, 1) := by decide +kernel
theorem dX6_houseNow_69 : decode cX6_houseNow 69 = .ok (.iload_n 1, 1) := by decide +kernel
theorem dX6_houseNow_70 : decode cX6_houseNow 70 = .ok (.invokevirtual 131, 3) := by decide +kernel
theorem dX6_houseNow_73 : decode cX6_houseNow 73 = .ok (.ireturn, 1) := by decide +kernel
theorem dX6_houseNow_74 : decode cX6_houseNow 74 = .ok (.aload_n 0, 1) := by decide +kernel
theorem dX6_houseNow_75 : decode cX6_houseNow 75 = .ok (.iload_n 1, 1) := by decide +kernel
theorem dX6_houseNow_76 : decode cX6_houseNow 76 = .ok (.iload_n 2, 1) := by decide +kernel
theorem dX6_houseNow_77 : decode cX6_houseNow 77 = .ok (.bipush 10, 2) := by decide +kernel
theorem dX6_houseNow_79 : decode cX6_houseNow 79 = .ok (.isub, 1) := by decide +kernel
theorem dX6_houseNow_80 : decode cX6_houseNow 80 = .ok (.invokevirtual 122, 3) := by decide +kernel
theorem dX6_houseNow_83 : decode cX6_houseNow 83 = .ok (.ireturn, 1) := by decide +kernel
set_option maxRecDepth 20000 in
theorem ggX6_about_X6_isHouse : GoodIn wsX6_about wsX6_isHouse := goodIn_r _ [5, 6, 7, 8, 4, 9, 47, 48, 49, 50, 51, 52, 53, 54, 55, 56, 57, 58, 59, 60, 61, 62, 63, 64, 65, 66, 67, 68, 69, 70, 71, 72, 73, 74, 75, 76, 77, 78, 79, 80] (by decide +kernel) (by decide +kernel)
set_option maxRecDepth 20000 in
theorem gX6_about_X6_isHouse : GoodIn wsX6_about (wsV RX6 134 RX6 yX6_isHouse wsX6_isHouse) := goodIn_app (goodIn_of _ (by decide +kernel)) ggX6_about_X6_isHouse
set_option maxRecDepth 20000 in
theorem ggX6_about_X6_within : GoodIn wsX6_about wsX6_within := goodIn_r _ [9] (by decide +kernel) (by decide +kernel)
set_option maxRecDepth 20000 in
theorem gX6_about_X6_within : GoodIn wsX6_about (va_wsS RX6 62 yX6_within wsX6_within) := goodIn_app (goodIn_of _ (by decide +kernel)) ggX6_about_X6_within
set_option maxRecDepth 20000 in
theorem ggX6_about_X6_houseNow : GoodIn wsX6_about wsX6_houseNow := goodIn_r _ [13, 14, 15, 16, 17, 18, 4, 19, 20, 21, 22, 23, 24, 25, 26, 27, 28, 29, 30, 31, 32, 33, 34, 35, 36, 37, 38, 39, 40, 41, 42, 43, 44, 45, 46, 47, 48, 49, 50, 51, 52, 53, 54, 55, 56, 57, 58, 59, 60, 61, 62, 63, 64, 65, 66, 67, 68, 69, 70, 71, 72, 73, 74, 75, 76, 77, 78, 79, 80] (by decide +kernel) (by decide +kernel)
set_option maxRecDepth 20000 in
theorem gX6_about_X6_houseNow : GoodIn wsX6_about (wsV RX6 138 RX6 yX6_houseNow wsX6_houseNow) := goodIn_app (goodIn_of _ (by decide +kernel)) ggX6_about_X6_houseNow
theorem dX6_about_0 : decode cX6_about 0 = .ok (.aload_n 0, 1) := by decide +kernel
theorem dX6_about_1 : decode cX6_about 1 = .ok (.iload_n 1, 1) := by decide +kernel
theorem dX6_about_2 : decode cX6_about 2 = .ok (.invokevirtual 134, 3) := by decide +kernel
theorem dX6_about_5 : decode cX6_about 5 = .ok (.ifCond .ne 6, 3) := by decide +kernel
theorem dX6_about_8 : decode cX6_about 8 = .ok (.bipush (-101), 2) := by decide +kernel
theorem dX6_about_10 : decode cX6_about 10 = .ok (.ireturn, 1) := by decide +kernel
theorem dX6_about_11 : decode cX6_about 11 = .ok (.iload_n 2, 1) := by decide +kernel
theorem dX6_about_12 : decode cX6_about 12 = .ok (.iconst 0, 1) := by decide +kernel
theorem dX6_about_13 : decode cX6_about 13 = .ok (.iconst 4, 1) := by decide +kernel
theorem dX6_about_14 : decode cX6_about 14 = .ok (.invokestatic 62, 3) := by decide +kernel
theorem dX6_about_17 : decode cX6_about 17 = .ok (.ifCond .ne 14, 3) := by decide +kernel
theorem dX6_about_20 : decode cX6_about 20 = .ok (.iload_n 2, 1) := by decide +kernel
theorem dX6_about_21 : decode cX6_about 21 = .ok (.bipush 10, 2) := by decide +kernel
theorem dX6_about_23 : decode cX6_about 23 = .ok (.bipush 21, 2) := by decide +kernel
theorem dX6_about_25 : decode cX6_about 25 = .ok (.invokestatic 62, 3) := by decide +kernel
theorem dX6_about_28 : decode cX6_about 28 = .ok (.ifCond .eq 12, 3) := by decide +kernel
theorem dX6_about_31 : decode cX6_about 31 = .ok (.aload_n 0, 1) := by decide +kernel
theorem dX6_about_32 : decode cX6_about 32 = .ok (.iload_n 1, 1) := by decide +kernel
theorem dX6_about_33 : decode cX6_about 33 = .ok (.iload_n 2, 1) := by decide +kernel
theorem dX6_about_34 : decode cX6_about 34 = .ok (.invokevirtual 138, 3) := by decide +kernel
theorem dX6_about_37 : decode cX6_about 37 = .ok (.goto 5, 3) := by decide +kernel
theorem dX6_about_40 : decode cX6_about 40 = .ok (.bipush (-102), 2) := by decide +kernel
theorem dX6_about_42 : decode cX6_about 42 = .ok (.ireturn, 1) := by decide +kernel
set_option maxRecDepth 20000 in
theorem ggX6_as_X6_isHouse : GoodIn wsX6_as wsX6_isHouse := goodIn_r _ [6, 7, 8, 9, 5, 10, 11, 12, 13, 14, 15, 16, 17, 18, 19, 20, 21, 22, 23, 24, 25, 26, 27, 28, 29, 30, 31, 32, 33, 34, 35, 36, 37, 38, 39, 40, 41, 42, 43, 44] (by decide +kernel) (by decide +kernel)
set_option maxRecDepth 20000 in
theorem gX6_as_X6_isHouse : GoodIn wsX6_as (wsV RX6 134 RX6 yX6_isHouse wsX6_isHouse) := goodIn_app (goodIn_of _ (by decide +kernel)) ggX6_as_X6_isHouse
set_option maxRecDepth 20000 in
theorem ggX6_as_X6_within : GoodIn wsX6_as wsX6_within := goodIn_r _ [10] (by decide +kernel) (by decide +kernel)
set_option maxRecDepth 20000 in
theorem gX6_as_X6_within : GoodIn wsX6_as (va_wsS RX6 62 yX6_within wsX6_within) := goodIn_app (goodIn_of _ (by decide +kernel)) ggX6_as_X6_within
theorem dX6_as_0 : decode cX6_as 0 = .ok (.aload_n 0, 1) := by decide +kernel
theorem dX6_as_1 : decode cX6_as 1 = .ok (.iload_n 1, 1) := by decide +kernel
theorem dX6_as_2 : decode cX6_as 2 = .ok (.invokevirtual 134, 3) := by decide +kernel
theorem dX6_as_5 : decode cX6_as 5 = .ok (.ifCond .ne 6, 3) := by decide +kernel
theorem dX6_as_8 : decode cX6_as 8 = .ok (.bipush (-101), 2) := by decide +kernel
theorem dX6_as_10 : decode cX6_as 10 = .ok (.ireturn, 1) := by decide +kernel
theorem dX6_as_11 : decode cX6_as 11 = .ok (.iload_n 2, 1) := by decide +kernel
theorem dX6_as_12 : decode cX6_as 12 = .ok (.iconst 0, 1) := by decide +kernel
theorem dX6_as_13 : decode cX6_as 13 = .ok (.iconst 4, 1) := by decide +kernel
theorem dX6_as_14 : decode cX6_as 14 = .ok (.invokestatic 62, 3) := by decide +kernel
theorem dX6_as_17 : decode cX6_as 17 = .ok (.ifCond .ne 6, 3) := by decide +kernel
theorem dX6_as_20 : decode cX6_as 20 = .ok (.bipush (-102), 2) := by decide +kernel
theorem dX6_as_22 : decode cX6_as 22 = .ok (.ireturn, 1) := by decide +kernel
theorem dX6_as_23 : decode cX6_as 23 = .ok (.aload_n 0, 1) := by decide +kernel
theorem dX6_as_24 : decode cX6_as 24 = .ok (.getfield 7, 3) := by decide +kernel
theorem dX6_as_27 : decode cX6_as 27 = .ok (.iload_n 1, 1) := by decide +kernel
theorem dX6_as_28 : decode cX6_as 28 = .ok (.iaload, 1) := by decide +kernel
theorem dX6_as_29 : decode cX6_as 29 = .ok (.istore_n 3, 1) := by decide +kernel
theorem dX6_as_30 : decode cX6_as 30 = .ok (.iload_n 2, 1) := by decide +kernel
theorem dX6_as_31 : decode cX6_as 31 = .ok (.ifCond .eq 18, 3) := by decide +kernel
theorem dX6_as_34 : decode cX6_as 34 = .ok (.iload_n 3, 1) := by decide +kernel
theorem dX6_as_35 : decode cX6_as 35 = .ok (.iload_n 2, 1) := by decide +kernel
theorem dX6_as_36 : decode cX6_as 36 = .ok (.if_icmp .eq 13, 3) := by decide +kernel
theorem dX6_as_39 : decode cX6_as 39 = .ok (.iload_n 2, 1) := by decide +kernel
theorem dX6_as_40 : decode cX6_as 40 = .ok (.iconst 1, 1) := by decide +kernel
theorem dX6_as_41 : decode cX6_as 41 = .ok (.if_icmp .ne 12, 3) := by decide +kernel
theorem dX6_as_44 : decode cX6_as 44 = .ok (.iload_n 3, 1) := by decide +kernel
theorem dX6_as_45 : decode cX6_as 45 = .ok (.iconst 4, 1) := by decide +kernel
theorem dX6_as_46 : decode cX6_as 46 = .ok (.if_icmp .ne 7, 3) := by decide +kernel
theorem dX6_as_49 : decode cX6_as 49 = .ok (.iload_n 1, 1) := by decide +kernel
theorem dX6_as_50 : decode cX6_as 50 = .ok (.goto 4, 3) := by decide +kernel
theorem dX6_as_53 : decode cX6_as 53 = .ok (.iconst (-1), 1) := by decide +kernel
theorem dX6_as_54 : decode cX6_as 54 = .ok (.ireturn, 1) := by decide +kernel
set_option maxRecDepth 20000 in
theorem ggX6_raise_X6_isHouse : GoodIn wsX6_raise wsX6_isHouse := goodIn_r _ [7, 8, 9, 10, 6, 11, 12, 13, 14, 15, 16, 17, 18, 19, 20, 21, 22, 23, 24, 25, 26, 27, 28, 29, 30, 31, 32, 33, 34, 35, 36, 37, 38, 39, 40, 41, 42, 43, 44, 45] (by decide +kernel) (by decide +kernel)
set_option maxRecDepth 20000 in
theorem gX6_raise_X6_isHouse : GoodIn wsX6_raise (wsV RX6 134 RX6 yX6_isHouse wsX6_isHouse) := goodIn_app (goodIn_of _ (by decide +kernel)) ggX6_raise_X6_isHouse
set_option maxRecDepth 20000 in
theorem ggX6_raise_X6_within : GoodIn wsX6_raise wsX6_within := goodIn_r _ [11] (by decide +kernel) (by decide +kernel)
set_option maxRecDepth 20000 in
theorem gX6_raise_X6_within : GoodIn wsX6_raise (va_wsS RX6 62 yX6_within wsX6_within) := goodIn_app (goodIn_of _ (by decide +kernel)) ggX6_raise_X6_within
theorem dX6_raise_0 : decode cX6_raise 0 = .ok (.aload_n 0, 1) := by decide +kernel
theorem dX6_raise_1 : decode cX6_raise 1 = .ok (.iload_n 1, 1) := by decide +kernel
theorem dX6_raise_2 : decode cX6_raise 2 = .ok (.invokevirtual 134, 3) := by decide +kernel
theorem dX6_raise_5 : decode cX6_raise 5 = .ok (.ifCond .ne 6, 3) := by decide +kernel
theorem dX6_raise_8 : decode cX6_raise 8 = .ok (.bipush (-101), 2) := by decide +kernel
theorem dX6_raise_10 : decode cX6_raise 10 = .ok (.ireturn, 1) := by decide +kernel
theorem dX6_raise_11 : decode cX6_raise 11 = .ok (.iload_n 2, 1) := by decide +kernel
theorem dX6_raise_12 : decode cX6_raise 12 = .ok (.iconst 0, 1) := by decide +kernel
theorem dX6_raise_13 : decode cX6_raise 13 = .ok (.bipush 9, 2) := by decide +kernel
theorem dX6_raise_15 : decode cX6_raise 15 = .ok (.invokestatic 62, 3) := by decide +kernel
theorem dX6_raise_18 : decode cX6_raise 18 = .ok (.ifCond .ne 6, 3) := by decide +kernel
theorem dX6_raise_21 : decode cX6_raise 21 = .ok (.bipush (-102), 2) := by decide +kernel
theorem dX6_raise_23 : decode cX6_raise 23 = .ok (.ireturn, 1) := by decide +kernel
theorem dX6_raise_24 : decode cX6_raise 24 = .ok (.aload_n 0, 1) := by decide +kernel
theorem dX6_raise_25 : decode cX6_raise 25 = .ok (.getfield 13, 3) := by decide +kernel
theorem dX6_raise_28 : decode cX6_raise 28 = .ok (.iload_n 1, 1) := by decide +kernel
theorem dX6_raise_29 : decode cX6_raise 29 = .ok (.iaload, 1) := by decide +kernel
theorem dX6_raise_30 : decode cX6_raise 30 = .ok (.istore_n 3, 1) := by decide +kernel
theorem dX6_raise_31 : decode cX6_raise 31 = .ok (.aload_n 0, 1) := by decide +kernel
theorem dX6_raise_32 : decode cX6_raise 32 = .ok (.getfield 13, 3) := by decide +kernel
theorem dX6_raise_35 : decode cX6_raise 35 = .ok (.iload_n 1, 1) := by decide +kernel
theorem dX6_raise_36 : decode cX6_raise 36 = .ok (.iload_n 2, 1) := by decide +kernel
theorem dX6_raise_37 : decode cX6_raise 37 = .ok (.iastore, 1) := by decide +kernel
theorem dX6_raise_38 : decode cX6_raise 38 = .ok (.aload_n 0, 1) := by decide +kernel
theorem dX6_raise_39 : decode cX6_raise 39 = .ok (.dup, 1) := by decide +kernel
theorem dX6_raise_40 : decode cX6_raise 40 = .ok (.getfield 103, 3) := by decide +kernel
theorem dX6_raise_43 : decode cX6_raise 43 = .ok (.iconst 1, 1) := by decide +kernel
theorem dX6_raise_44 : decode cX6_raise 44 = .ok (.iadd, 1) := by decide +kernel
theorem dX6_raise_45 : decode cX6_raise 45 = .ok (.putfield 103, 3) := by decide +kernel
theorem dX6_raise_48 : decode cX6_raise 48 = .ok (.iload_n 3, 1) := by decide +kernel
theorem dX6_raise_49 : decode cX6_raise 49 = .ok (.ireturn, 1) := by decide +kernel
set_option maxRecDepth 20000 in
theorem ggX6_tide_X6_isHour : GoodIn wsX6_tide wsX6_isHour := goodIn_r _ [5, 6, 7, 4, 8] (by decide +kernel) (by decide +kernel)
set_option maxRecDepth 20000 in
theorem gX6_tide_X6_isHour : GoodIn wsX6_tide (va_wsS RX6 141 yX6_isHour wsX6_isHour) := goodIn_app (goodIn_of _ (by decide +kernel)) ggX6_tide_X6_isHour
set_option maxRecDepth 20000 in
theorem ggX6_tide_X6_tideAt : GoodIn wsX6_tide wsX6_tideAt := goodIn_r _ [12, 13, 14, 15, 16, 17, 18, 19, 20, 21, 22, 23, 24, 25, 26, 27, 28, 29, 30, 31, 32, 33, 34, 35, 36, 37, 38, 39, 40, 41, 42, 43, 44, 45, 46, 47, 48, 49, 50] (by decide +kernel) (by decide +kernel)
set_option maxRecDepth 20000 in
theorem gX6_tide_X6_tideAt : GoodIn wsX6_tide (wsV RX6 112 RX6 yX6_tideAt wsX6_tideAt) := goodIn_app (goodIn_of _ (by decide +kernel)) ggX6_tide_X6_tideAt
theorem dX6_tide_0 : decode cX6_tide 0 = .ok (.iload_n 1, 1) := by decide +kernel
theorem dX6_tide_1 : decode cX6_tide 1 = .ok (.invokestatic 141, 3) := by decide +kernel
theorem dX6_tide_4 : decode cX6_tide 4 = .ok (.ifCond .ne 6, 3) := by decide +kernel
theorem dX6_tide_7 : decode cX6_tide 7 = .ok (.bipush (-102), 2) := by decide +kernel
theorem dX6_tide_9 : decode cX6_tide 9 = .ok (.ireturn, 1) := by decide +kernel
theorem dX6_tide_10 : decode cX6_tide 10 = .ok (.aload_n 0, 1) := by decide +kernel
theorem dX6_tide_11 : decode cX6_tide 11 = .ok (.getfield 94, 3) := by decide +kernel
theorem dX6_tide_14 : decode cX6_tide 14 = .ok (.ifCond .ne 8, 3) := by decide +kernel
theorem dX6_tide_17 : decode cX6_tide 17 = .ok (.bipush (-103), 2) := by decide +kernel
theorem dX6_tide_19 : decode cX6_tide 19 = .ok (.goto 8, 3) := by decide +kernel
theorem dX6_tide_22 : decode cX6_tide 22 = .ok (.aload_n 0, 1) := by decide +kernel
theorem dX6_tide_23 : decode cX6_tide 23 = .ok (.iload_n 1, 1) := by decide +kernel
theorem dX6_tide_24 : decode cX6_tide 24 = .ok (.invokevirtual 112, 3) := by decide +kernel
theorem dX6_tide_27 : decode cX6_tide 27 = .ok (.ireturn, 1) := by decide +kernel
set_option maxRecDepth 20000 in
theorem ggX6_strike_X6_within : GoodIn wsX6_strike wsX6_within := goodIn_r _ [9] (by decide +kernel) (by decide +kernel)
set_option maxRecDepth 20000 in
theorem gX6_strike_X6_within : GoodIn wsX6_strike (va_wsS RX6 62 yX6_within wsX6_within) := goodIn_app (goodIn_of _ (by decide +kernel)) ggX6_strike_X6_within
theorem dX6_strike_0 : decode cX6_strike 0 = .ok (.iload_n 1, 1) := by decide +kernel
theorem dX6_strike_1 : decode cX6_strike 1 = .ok (.iconst 0, 1) := by decide +kernel
theorem dX6_strike_2 : decode cX6_strike 2 = .ok (.bipush 9, 2) := by decide +kernel
theorem dX6_strike_4 : decode cX6_strike 4 = .ok (.invokestatic 62, 3) := by decide +kernel
theorem dX6_strike_7 : decode cX6_strike 7 = .ok (.ifCond .eq 13, 3) := by decide +kernel
theorem dX6_strike_10 : decode cX6_strike 10 = .ok (.iload_n 2, 1) := by decide +kernel
theorem dX6_strike_11 : decode cX6_strike 11 = .ok (.iconst 1, 1) := by decide +kernel
theorem dX6_strike_12 : decode cX6_strike 12 = .ok (.bipush 9, 2) := by decide +kernel
theorem dX6_strike_14 : decode cX6_strike 14 = .ok (.invokestatic 62, 3) := by decide +kernel
theorem dX6_strike_17 : decode cX6_strike 17 = .ok (.ifCond .ne 6, 3) := by decide +kernel
theorem dX6_strike_20 : decode cX6_strike 20 = .ok (.bipush (-102), 2) := by decide +kernel
theorem dX6_strike_22 : decode cX6_strike 22 = .ok (.ireturn, 1) := by decide +kernel
theorem dX6_strike_23 : decode cX6_strike 23 = .ok (.aload_n 0, 1) := by decide +kernel
theorem dX6_strike_24 : decode cX6_strike 24 = .ok (.getfield 94, 3) := by decide +kernel
theorem dX6_strike_27 : decode cX6_strike 27 = .ok (.ifCond .ne 6, 3) := by decide +kernel
theorem dX6_strike_30 : decode cX6_strike 30 = .ok (.bipush (-103), 2) := by decide +kernel
theorem dX6_strike_32 : decode cX6_strike 32 = .ok (.ireturn, 1) := by decide +kernel
theorem dX6_strike_33 : decode cX6_strike 33 = .ok (.aload_n 0, 1) := by decide +kernel
theorem dX6_strike_34 : decode cX6_strike 34 = .ok (.getfield 97, 3) := by decide +kernel
theorem dX6_strike_37 : decode cX6_strike 37 = .ok (.bipush 6, 2) := by decide +kernel
theorem dX6_strike_39 : decode cX6_strike 39 = .ok (.if_icmp .ne 6, 3) := by decide +kernel
theorem dX6_strike_42 : decode cX6_strike 42 = .ok (.bipush (-104), 2) := by decide +kernel
theorem dX6_strike_44 : decode cX6_strike 44 = .ok (.ireturn, 1) := by decide +kernel
theorem dX6_strike_45 : decode cX6_strike 45 = .ok (.aload_n 0, 1) := by decide +kernel
theorem dX6_strike_46 : decode cX6_strike 46 = .ok (.getfield 16, 3) := by decide +kernel
theorem dX6_strike_49 : decode cX6_strike 49 = .ok (.aload_n 0, 1) := by decide +kernel
theorem dX6_strike_50 : decode cX6_strike 50 = .ok (.getfield 97, 3) := by decide +kernel
theorem dX6_strike_53 : decode cX6_strike 53 = .ok (.iload_n 1, 1) := by decide +kernel
theorem dX6_strike_54 : decode cX6_strike 54 = .ok (.iastore, 1) := by decide +kernel
theorem dX6_strike_55 : decode cX6_strike 55 = .ok (.aload_n 0, 1) := by decide +kernel
theorem dX6_strike_56 : decode cX6_strike 56 = .ok (.getfield 19, 3) := by decide +kernel
theorem dX6_strike_59 : decode cX6_strike 59 = .ok (.aload_n 0, 1) := by decide +kernel
theorem dX6_strike_60 : decode cX6_strike 60 = .ok (.getfield 97, 3) := by decide +kernel
theorem dX6_strike_63 : decode cX6_strike 63 = .ok (.iload_n 2, 1) := by decide +kernel
theorem dX6_strike_64 : decode cX6_strike 64 = .ok (.iastore, 1) := by decide +kernel
theorem dX6_strike_65 : decode cX6_strike 65 = .ok (.aload_n 0, 1) := by decide +kernel
end
section
theorem dX6_strike_66 : decode cX6_strike 66 = .ok (.dup, 1) := by decide +kernel
theorem dX6_strike_67 : decode cX6_strike 67 = .ok (.getfield 97, 3) := by decide +kernel
theorem dX6_strike_70 : decode cX6_strike 70 = .ok (.iconst 1, 1) := by decide +kernel
theorem dX6_strike_71 : decode cX6_strike 71 = .ok (.iadd, 1) := by decide +kernel
theorem dX6_strike_72 : decode cX6_strike 72 = .ok (.putfield 97, 3) := by decide +kernel
theorem dX6_strike_75 : decode cX6_strike 75 = .ok (.aload_n 0, 1) := by decide +kernel
theorem dX6_strike_76 : decode cX6_strike 76 = .ok (.dup, 1) := by decide +kernel
theorem dX6_strike_77 : decode cX6_strike 77 = .ok (.getfield 103, 3) := by decide +kernel
theorem dX6_strike_80 : decode cX6_strike 80 = .ok (.iconst 1, 1) := by decide +kernel
theorem dX6_strike_81 : decode cX6_strike 81 = .ok (.iadd, 1) := by decide +kernel
theorem dX6_strike_82 : decode cX6_strike 82 = .ok (.putfield 103, 3) := by decide +kernel
theorem dX6_strike_85 : decode cX6_strike 85 = .ok (.aload_n 0, 1) := by decide +kernel
theorem dX6_strike_86 : decode cX6_strike 86 = .ok (.getfield 97, 3) := by decide +kernel
theorem dX6_strike_89 : decode cX6_strike 89 = .ok (.iconst 1, 1) := by decide +kernel
theorem dX6_strike_90 : decode cX6_strike 90 = .ok (.isub, 1) := by decide +kernel
theorem dX6_strike_91 : decode cX6_strike 91 = .ok (.ireturn, 1) := by decide +kernel
set_option maxRecDepth 20000 in
theorem ggX6_felt_X6_isStroke : GoodIn wsX6_felt wsX6_isStroke := goodIn_r _ [7, 8, 9, 10, 6, 11, 12, 13, 14, 15, 16, 17, 18, 19, 20, 21, 22, 23, 24, 25, 26, 27, 28, 29, 30, 31, 32, 33, 34, 35, 36, 37, 38, 39, 40, 41, 42, 43, 44, 45] (by decide +kernel) (by decide +kernel)
set_option maxRecDepth 20000 in
theorem gX6_felt_X6_isStroke : GoodIn wsX6_felt (wsV RX6 144 RX6 yX6_isStroke wsX6_isStroke) := goodIn_app (goodIn_of _ (by decide +kernel)) ggX6_felt_X6_isStroke
set_option maxRecDepth 20000 in
theorem ggX6_felt_X6_within : GoodIn wsX6_felt wsX6_within := goodIn_r _ [11] (by decide +kernel) (by decide +kernel)
set_option maxRecDepth 20000 in
theorem gX6_felt_X6_within : GoodIn wsX6_felt (va_wsS RX6 62 yX6_within wsX6_within) := goodIn_app (goodIn_of _ (by decide +kernel)) ggX6_felt_X6_within
theorem dX6_felt_0 : decode cX6_felt 0 = .ok (.aload_n 0, 1) := by decide +kernel
theorem dX6_felt_1 : decode cX6_felt 1 = .ok (.iload_n 1, 1) := by decide +kernel
theorem dX6_felt_2 : decode cX6_felt 2 = .ok (.invokevirtual 144, 3) := by decide +kernel
theorem dX6_felt_5 : decode cX6_felt 5 = .ok (.ifCond .ne 6, 3) := by decide +kernel
theorem dX6_felt_8 : decode cX6_felt 8 = .ok (.bipush (-101), 2) := by decide +kernel
theorem dX6_felt_10 : decode cX6_felt 10 = .ok (.ireturn, 1) := by decide +kernel
theorem dX6_felt_11 : decode cX6_felt 11 = .ok (.iload_n 2, 1) := by decide +kernel
theorem dX6_felt_12 : decode cX6_felt 12 = .ok (.iconst 0, 1) := by decide +kernel
theorem dX6_felt_13 : decode cX6_felt 13 = .ok (.bipush 9, 2) := by decide +kernel
theorem dX6_felt_15 : decode cX6_felt 15 = .ok (.invokestatic 62, 3) := by decide +kernel
theorem dX6_felt_18 : decode cX6_felt 18 = .ok (.ifCond .ne 6, 3) := by decide +kernel
theorem dX6_felt_21 : decode cX6_felt 21 = .ok (.bipush (-102), 2) := by decide +kernel
theorem dX6_felt_23 : decode cX6_felt 23 = .ok (.ireturn, 1) := by decide +kernel
theorem dX6_felt_24 : decode cX6_felt 24 = .ok (.aload_n 0, 1) := by decide +kernel
theorem dX6_felt_25 : decode cX6_felt 25 = .ok (.getfield 19, 3) := by decide +kernel
theorem dX6_felt_28 : decode cX6_felt 28 = .ok (.iload_n 1, 1) := by decide +kernel
theorem dX6_felt_29 : decode cX6_felt 29 = .ok (.iaload, 1) := by decide +kernel
theorem dX6_felt_30 : decode cX6_felt 30 = .ok (.istore_n 3, 1) := by decide +kernel
theorem dX6_felt_31 : decode cX6_felt 31 = .ok (.aload_n 0, 1) := by decide +kernel
theorem dX6_felt_32 : decode cX6_felt 32 = .ok (.getfield 19, 3) := by decide +kernel
theorem dX6_felt_35 : decode cX6_felt 35 = .ok (.iload_n 1, 1) := by decide +kernel
theorem dX6_felt_36 : decode cX6_felt 36 = .ok (.iload_n 2, 1) := by decide +kernel
theorem dX6_felt_37 : decode cX6_felt 37 = .ok (.iastore, 1) := by decide +kernel
theorem dX6_felt_38 : decode cX6_felt 38 = .ok (.aload_n 0, 1) := by decide +kernel
theorem dX6_felt_39 : decode cX6_felt 39 = .ok (.dup, 1) := by decide +kernel
theorem dX6_felt_40 : decode cX6_felt 40 = .ok (.getfield 103, 3) := by decide +kernel
theorem dX6_felt_43 : decode cX6_felt 43 = .ok (.iconst 1, 1) := by decide +kernel
theorem dX6_felt_44 : decode cX6_felt 44 = .ok (.iadd, 1) := by decide +kernel
theorem dX6_felt_45 : decode cX6_felt 45 = .ok (.putfield 103, 3) := by decide +kernel
theorem dX6_felt_48 : decode cX6_felt 48 = .ok (.iload_n 3, 1) := by decide +kernel
theorem dX6_felt_49 : decode cX6_felt 49 = .ok (.ireturn, 1) := by decide +kernel
set_option maxRecDepth 20000 in
theorem ggX6_strokeNow_X6_isHour : GoodIn wsX6_strokeNow wsX6_isHour := goodIn_r _ [6, 7, 8, 5, 9] (by decide +kernel) (by decide +kernel)
set_option maxRecDepth 20000 in
theorem gX6_strokeNow_X6_isHour : GoodIn wsX6_strokeNow (va_wsS RX6 141 yX6_isHour wsX6_isHour) := goodIn_app (goodIn_of _ (by decide +kernel)) ggX6_strokeNow_X6_isHour
theorem dX6_strokeNow_0 : decode cX6_strokeNow 0 = .ok (.aload_n 0, 1) := by decide +kernel
theorem dX6_strokeNow_1 : decode cX6_strokeNow 1 = .ok (.getfield 16, 3) := by decide +kernel
theorem dX6_strokeNow_4 : decode cX6_strokeNow 4 = .ok (.iload_n 1, 1) := by decide +kernel
theorem dX6_strokeNow_5 : decode cX6_strokeNow 5 = .ok (.iaload, 1) := by decide +kernel
theorem dX6_strokeNow_6 : decode cX6_strokeNow 6 = .ok (.aload_n 0, 1) := by decide +kernel
theorem dX6_strokeNow_7 : decode cX6_strokeNow 7 = .ok (.getfield 19, 3) := by decide +kernel
theorem dX6_strokeNow_10 : decode cX6_strokeNow 10 = .ok (.iload_n 1, 1) := by decide +kernel
theorem dX6_strokeNow_11 : decode cX6_strokeNow 11 = .ok (.iaload, 1) := by decide +kernel
theorem dX6_strokeNow_12 : decode cX6_strokeNow 12 = .ok (.iconst 1, 1) := by decide +kernel
theorem dX6_strokeNow_13 : decode cX6_strokeNow 13 = .ok (.iadd, 1) := by decide +kernel
theorem dX6_strokeNow_14 : decode cX6_strokeNow 14 = .ok (.iconst 2, 1) := by decide +kernel
theorem dX6_strokeNow_15 : decode cX6_strokeNow 15 = .ok (.idiv, 1) := by decide +kernel
theorem dX6_strokeNow_16 : decode cX6_strokeNow 16 = .ok (.iadd, 1) := by decide +kernel
theorem dX6_strokeNow_17 : decode cX6_strokeNow 17 = .ok (.istore_n 3, 1) := by decide +kernel
theorem dX6_strokeNow_18 : decode cX6_strokeNow 18 = .ok (.iload_n 2, 1) := by decide +kernel
theorem dX6_strokeNow_19 : decode cX6_strokeNow 19 = .ok (.ifCond .ne 12, 3) := by decide +kernel
theorem dX6_strokeNow_22 : decode cX6_strokeNow 22 = .ok (.aload_n 0, 1) := by decide +kernel
theorem dX6_strokeNow_23 : decode cX6_strokeNow 23 = .ok (.getfield 16, 3) := by decide +kernel
theorem dX6_strokeNow_26 : decode cX6_strokeNow 26 = .ok (.iload_n 1, 1) := by decide +kernel
theorem dX6_strokeNow_27 : decode cX6_strokeNow 27 = .ok (.iaload, 1) := by decide +kernel
theorem dX6_strokeNow_28 : decode cX6_strokeNow 28 = .ok (.goto 29, 3) := by decide +kernel
theorem dX6_strokeNow_31 : decode cX6_strokeNow 31 = .ok (.iload_n 2, 1) := by decide +kernel
theorem dX6_strokeNow_32 : decode cX6_strokeNow 32 = .ok (.iconst 1, 1) := by decide +kernel
theorem dX6_strokeNow_33 : decode cX6_strokeNow 33 = .ok (.if_icmp .ne 12, 3) := by decide +kernel
theorem dX6_strokeNow_36 : decode cX6_strokeNow 36 = .ok (.aload_n 0, 1) := by decide +kernel
theorem dX6_strokeNow_37 : decode cX6_strokeNow 37 = .ok (.getfield 19, 3) := by decide +kernel
theorem dX6_strokeNow_40 : decode cX6_strokeNow 40 = .ok (.iload_n 1, 1) := by decide +kernel
theorem dX6_strokeNow_41 : decode cX6_strokeNow 41 = .ok (.iaload, 1) := by decide +kernel
theorem dX6_strokeNow_42 : decode cX6_strokeNow 42 = .ok (.goto 15, 3) := by decide +kernel
theorem dX6_strokeNow_45 : decode cX6_strokeNow 45 = .ok (.iload_n 3, 1) := by decide +kernel
theorem dX6_strokeNow_46 : decode cX6_strokeNow 46 = .ok (.invokestatic 141, 3) := by decide +kernel
theorem dX6_strokeNow_49 : decode cX6_strokeNow 49 = .ok (.ifCond .eq 7, 3) := by decide +kernel
theorem dX6_strokeNow_52 : decode cX6_strokeNow 52 = .ok (.iload_n 3, 1) := by decide +kernel
theorem dX6_strokeNow_53 : decode cX6_strokeNow 53 = .ok (.goto 4, 3) := by decide +kernel
theorem dX6_strokeNow_56 : decode cX6_strokeNow 56 = .ok (.iconst (-1), 1) := by decide +kernel
theorem dX6_strokeNow_57 : decode cX6_strokeNow 57 = .ok (.ireturn, 1) := by decide +kernel
set_option maxRecDepth 20000 in
theorem ggX6_stroke_X6_isStroke : GoodIn wsX6_stroke wsX6_isStroke := goodIn_r _ [5, 6, 7, 8, 4, 9, 19, 20, 21, 22, 23, 24, 25, 26, 27, 28, 29, 30, 31, 32, 33, 34, 35, 36, 37, 38, 39, 40, 41, 42, 43, 44, 45, 46, 47, 48, 49, 50, 51, 52] (by decide +kernel) (by decide +kernel)
set_option maxRecDepth 20000 in
theorem gX6_stroke_X6_isStroke : GoodIn wsX6_stroke (wsV RX6 144 RX6 yX6_isStroke wsX6_isStroke) := goodIn_app (goodIn_of _ (by decide +kernel)) ggX6_stroke_X6_isStroke
set_option maxRecDepth 20000 in
theorem ggX6_stroke_X6_within : GoodIn wsX6_stroke wsX6_within := goodIn_r _ [9] (by decide +kernel) (by decide +kernel)
set_option maxRecDepth 20000 in
theorem gX6_stroke_X6_within : GoodIn wsX6_stroke (va_wsS RX6 62 yX6_within wsX6_within) := goodIn_app (goodIn_of _ (by decide +kernel)) ggX6_stroke_X6_within
set_option maxRecDepth 20000 in
theorem ggX6_stroke_X6_strokeNow : GoodIn wsX6_stroke wsX6_strokeNow := goodIn_r _ [13, 14, 15, 16, 17, 4, 18, 7, 8, 9, 19, 20, 21, 22, 23, 24, 25, 26, 27, 28, 29, 30, 31, 32, 33, 34, 35, 36, 37, 38, 39, 40, 41, 42, 43, 44, 45, 46, 47, 48, 49, 50, 51, 52] (by decide +kernel) (by decide +kernel)
set_option maxRecDepth 20000 in
theorem gX6_stroke_X6_strokeNow : GoodIn wsX6_stroke (wsV RX6 147 RX6 yX6_strokeNow wsX6_strokeNow) := goodIn_app (goodIn_of _ (by decide +kernel)) ggX6_stroke_X6_strokeNow
theorem dX6_stroke_0 : decode cX6_stroke 0 = .ok (.aload_n 0, 1) := by decide +kernel
theorem dX6_stroke_1 : decode cX6_stroke 1 = .ok (.iload_n 1, 1) := by decide +kernel
theorem dX6_stroke_2 : decode cX6_stroke 2 = .ok (.invokevirtual 144, 3) := by decide +kernel
theorem dX6_stroke_5 : decode cX6_stroke 5 = .ok (.ifCond .ne 8, 3) := by decide +kernel
theorem dX6_stroke_8 : decode cX6_stroke 8 = .ok (.bipush (-101), 2) := by decide +kernel
theorem dX6_stroke_10 : decode cX6_stroke 10 = .ok (.goto 23, 3) := by decide +kernel
theorem dX6_stroke_13 : decode cX6_stroke 13 = .ok (.iload_n 2, 1) := by decide +kernel
theorem dX6_stroke_14 : decode cX6_stroke 14 = .ok (.iconst 0, 1) := by decide +kernel
theorem dX6_stroke_15 : decode cX6_stroke 15 = .ok (.iconst 2, 1) := by decide +kernel
theorem dX6_stroke_16 : decode cX6_stroke 16 = .ok (.invokestatic 62, 3) := by decide +kernel
theorem dX6_stroke_19 : decode cX6_stroke 19 = .ok (.ifCond .eq 12, 3) := by decide +kernel
theorem dX6_stroke_22 : decode cX6_stroke 22 = .ok (.aload_n 0, 1) := by decide +kernel
theorem dX6_stroke_23 : decode cX6_stroke 23 = .ok (.iload_n 1, 1) := by decide +kernel
theorem dX6_stroke_24 : decode cX6_stroke 24 = .ok (.iload_n 2, 1) := by decide +kernel
theorem dX6_stroke_25 : decode cX6_stroke 25 = .ok (.invokevirtual 147, 3) := by decide +kernel
theorem dX6_stroke_28 : decode cX6_stroke 28 = .ok (.goto 5, 3) := by decide +kernel
theorem dX6_stroke_31 : decode cX6_stroke 31 = .ok (.bipush (-102), 2) := by decide +kernel
theorem dX6_stroke_33 : decode cX6_stroke 33 = .ok (.ireturn, 1) := by decide +kernel
set_option maxRecDepth 20000 in
theorem ggX6_isPolite_X6_isIn : GoodIn wsX6_isPolite wsX6_isIn := goodIn_r _ [5] (by decide +kernel) (by decide +kernel)
set_option maxRecDepth 20000 in
theorem gX6_isPolite_X6_isIn : GoodIn wsX6_isPolite (va_wsS RX6 150 yX6_isIn wsX6_isIn) := goodIn_app (goodIn_of _ (by decide +kernel)) ggX6_isPolite_X6_isIn
set_option maxRecDepth 20000 in
theorem ggX6_isPolite_X6_howAt : GoodIn wsX6_isPolite wsX6_howAt := goodIn_r _ [9, 10, 11, 12, 4, 13, 14, 15, 16, 17, 18, 19, 20, 21, 22, 23, 24, 25, 26, 27, 28, 29, 30, 31, 32, 33, 34, 35, 36, 37, 38, 39, 40, 41, 42, 43, 44, 45, 46, 47, 48, 49, 50, 51, 52, 53, 54, 55, 56, 57, 58, 59, 60, 61, 62, 63, 64] (by decide +kernel) (by decide +kernel)
set_option maxRecDepth 20000 in
theorem gX6_isPolite_X6_howAt : GoodIn wsX6_isPolite (wsV RX6 125 RX6 yX6_howAt wsX6_howAt) := goodIn_app (goodIn_of _ (by decide +kernel)) ggX6_isPolite_X6_howAt
theorem dX6_isPolite_0 : decode cX6_isPolite 0 = .ok (.iconst 1, 1) := by decide +kernel
theorem dX6_isPolite_1 : decode cX6_isPolite 1 = .ok (.istore 4, 2) := by decide +kernel
theorem dX6_isPolite_3 : decode cX6_isPolite 3 = .ok (.iload_n 2, 1) := by decide +kernel
theorem dX6_isPolite_4 : decode cX6_isPolite 4 = .ok (.istore 5, 2) := by decide +kernel
theorem dX6_isPolite_6 : decode cX6_isPolite 6 = .ok (.iload 5, 2) := by decide +kernel
theorem dX6_isPolite_8 : decode cX6_isPolite 8 = .ok (.iload_n 2, 1) := by decide +kernel
theorem dX6_isPolite_9 : decode cX6_isPolite 9 = .ok (.iload_n 3, 1) := by decide +kernel
theorem dX6_isPolite_10 : decode cX6_isPolite 10 = .ok (.iadd, 1) := by decide +kernel
theorem dX6_isPolite_11 : decode cX6_isPolite 11 = .ok (.if_icmp .ge 59, 3) := by decide +kernel
theorem dX6_isPolite_14 : decode cX6_isPolite 14 = .ok (.iconst 0, 1) := by decide +kernel
theorem dX6_isPolite_15 : decode cX6_isPolite 15 = .ok (.istore 6, 2) := by decide +kernel
theorem dX6_isPolite_17 : decode cX6_isPolite 17 = .ok (.iload 6, 2) := by decide +kernel
theorem dX6_isPolite_19 : decode cX6_isPolite 19 = .ok (.aload_n 0, 1) := by decide +kernel
theorem dX6_isPolite_20 : decode cX6_isPolite 20 = .ok (.getfield 94, 3) := by decide +kernel
theorem dX6_isPolite_23 : decode cX6_isPolite 23 = .ok (.if_icmp .ge 41, 3) := by decide +kernel
theorem dX6_isPolite_26 : decode cX6_isPolite 26 = .ok (.iload 4, 2) := by decide +kernel
theorem dX6_isPolite_28 : decode cX6_isPolite 28 = .ok (.ifCond .eq 27, 3) := by decide +kernel
theorem dX6_isPolite_31 : decode cX6_isPolite 31 = .ok (.iload_n 1, 1) := by decide +kernel
theorem dX6_isPolite_32 : decode cX6_isPolite 32 = .ok (.iload 6, 2) := by decide +kernel
theorem dX6_isPolite_34 : decode cX6_isPolite 34 = .ok (.invokestatic 150, 3) := by decide +kernel
theorem dX6_isPolite_37 : decode cX6_isPolite 37 = .ok (.ifCond .eq 14, 3) := by decide +kernel
theorem dX6_isPolite_40 : decode cX6_isPolite 40 = .ok (.aload_n 0, 1) := by decide +kernel
theorem dX6_isPolite_41 : decode cX6_isPolite 41 = .ok (.iload 6, 2) := by decide +kernel
theorem dX6_isPolite_43 : decode cX6_isPolite 43 = .ok (.iload 5, 2) := by decide +kernel
theorem dX6_isPolite_45 : decode cX6_isPolite 45 = .ok (.invokevirtual 125, 3) := by decide +kernel
theorem dX6_isPolite_48 : decode cX6_isPolite 48 = .ok (.ifCond .le 7, 3) := by decide +kernel
theorem dX6_isPolite_51 : decode cX6_isPolite 51 = .ok (.iconst 1, 1) := by decide +kernel
theorem dX6_isPolite_52 : decode cX6_isPolite 52 = .ok (.goto 4, 3) := by decide +kernel
theorem dX6_isPolite_55 : decode cX6_isPolite 55 = .ok (.iconst 0, 1) := by decide +kernel
theorem dX6_isPolite_56 : decode cX6_isPolite 56 = .ok (.istore 4, 2) := by decide +kernel
theorem dX6_isPolite_58 : decode cX6_isPolite 58 = .ok (.iinc 6 1, 3) := by decide +kernel
theorem dX6_isPolite_61 : decode cX6_isPolite 61 = .ok (.goto (-44), 3) := by decide +kernel
theorem dX6_isPolite_64 : decode cX6_isPolite 64 = .ok (.iinc 5 1, 3) := by decide +kernel
theorem dX6_isPolite_67 : decode cX6_isPolite 67 = .ok (.goto (-61), 3) := by decide +kernel
theorem dX6_isPolite_70 : decode cX6_isPolite 70 = .ok (.iload 4, 2) := by decide +kernel
theorem dX6_isPolite_72 : decode cX6_isPolite 72 = .ok (.ireturn, 1) := by decide +kernel
set_option maxRecDepth 20000 in
theorem ggX6_dinnerNow_X6_isPolite : GoodIn wsX6_dinnerNow wsX6_isPolite := goodIn_r _ [5, 6, 7, 8, 4, 9, 10, 11, 12, 13, 14, 15, 16, 17, 18, 19, 20, 21, 22, 23, 24, 25, 26, 27, 28, 29, 30, 31, 32, 33, 34, 35, 36, 37, 38, 39, 40, 41, 42, 43, 44, 45, 46, 47, 48, 49, 50, 51, 52, 53, 54, 55, 56, 57, 58, 59, 60, 61, 62, 63, 64, 65, 66, 67, 68] (by decide +kernel) (by decide +kernel)
set_option maxRecDepth 20000 in
theorem gX6_dinnerNow_X6_isPolite : GoodIn wsX6_dinnerNow (wsV RX6 154 RX6 yX6_isPolite wsX6_isPolite) := goodIn_app (goodIn_of _ (by decide +kernel)) ggX6_dinnerNow_X6_isPolite
theorem dX6_dinnerNow_0 : decode cX6_dinnerNow 0 = .ok (.iconst 0, 1) := by decide +kernel
theorem dX6_dinnerNow_1 : decode cX6_dinnerNow 1 = .ok (.istore_n 3, 1) := by decide +kernel
theorem dX6_dinnerNow_2 : decode cX6_dinnerNow 2 = .ok (.iload_n 3, 1) := by decide +kernel
theorem dX6_dinnerNow_3 : decode cX6_dinnerNow 3 = .ok (.iload_n 2, 1) := by decide +kernel
theorem dX6_dinnerNow_4 : decode cX6_dinnerNow 4 = .ok (.iadd, 1) := by decide +kernel
theorem dX6_dinnerNow_5 : decode cX6_dinnerNow 5 = .ok (.bipush 12, 2) := by decide +kernel
theorem dX6_dinnerNow_7 : decode cX6_dinnerNow 7 = .ok (.if_icmp .gt 21, 3) := by decide +kernel
theorem dX6_dinnerNow_10 : decode cX6_dinnerNow 10 = .ok (.aload_n 0, 1) := by decide +kernel
theorem dX6_dinnerNow_11 : decode cX6_dinnerNow 11 = .ok (.iload_n 1, 1) := by decide +kernel
theorem dX6_dinnerNow_12 : decode cX6_dinnerNow 12 = .ok (.iload_n 3, 1) := by decide +kernel
theorem dX6_dinnerNow_13 : decode cX6_dinnerNow 13 = .ok (.iload_n 2, 1) := by decide +kernel
theorem dX6_dinnerNow_14 : decode cX6_dinnerNow 14 = .ok (.invokevirtual 154, 3) := by decide +kernel
theorem dX6_dinnerNow_17 : decode cX6_dinnerNow 17 = .ok (.ifCond .eq 5, 3) := by decide +kernel
theorem dX6_dinnerNow_20 : decode cX6_dinnerNow 20 = .ok (.iload_n 3, 1) := by decide +kernel
theorem dX6_dinnerNow_21 : decode cX6_dinnerNow 21 = .ok (.ireturn, 1) := by decide +kernel
theorem dX6_dinnerNow_22 : decode cX6_dinnerNow 22 = .ok (.iinc 3 1, 3) := by decide +kernel
theorem dX6_dinnerNow_25 : decode cX6_dinnerNow 25 = .ok (.goto (-23), 3) := by decide +kernel
theorem dX6_dinnerNow_28 : decode cX6_dinnerNow 28 = .ok (.iconst (-1), 1) := by decide +kernel
theorem dX6_dinnerNow_29 : decode cX6_dinnerNow 29 = .ok (.ireturn, 1) := by decide +kernel
set_option maxRecDepth 20000 in
theorem ggX6_dinner_X6_within : GoodIn wsX6_dinner wsX6_within := goodIn_r _ [5] (by decide +kernel) (by decide +kernel)
set_option maxRecDepth 20000 in
theorem gX6_dinner_X6_within : GoodIn wsX6_dinner (va_wsS RX6 62 yX6_within wsX6_within) := goodIn_app (goodIn_of _ (by decide +kernel)) ggX6_dinner_X6_within
set_option maxRecDepth 20000 in
theorem ggX6_dinner_X6_dinnerNow : GoodIn wsX6_dinner wsX6_dinnerNow := goodIn_r _ [9, 10, 11, 12, 4, 13, 1, 14, 15, 16, 17, 18, 19, 20, 21, 22, 23, 24, 25, 26, 27, 28, 29, 30, 31, 32, 33, 34, 35, 36, 37, 38, 39, 40, 41, 42, 43, 44, 45, 46, 47, 48, 49, 50, 51, 52, 53, 54, 55, 56, 57, 58, 59, 60, 61, 62, 63, 64, 65, 66, 67, 68, 69, 70, 71, 72, 73, 74, 75] (by decide +kernel) (by decide +kernel)
set_option maxRecDepth 20000 in
theorem gX6_dinner_X6_dinnerNow : GoodIn wsX6_dinner (wsV RX6 157 RX6 yX6_dinnerNow wsX6_dinnerNow) := goodIn_app (goodIn_of _ (by decide +kernel)) ggX6_dinner_X6_dinnerNow
theorem dX6_dinner_0 : decode cX6_dinner 0 = .ok (.iload_n 1, 1) := by decide +kernel
theorem dX6_dinner_1 : decode cX6_dinner 1 = .ok (.iconst 1, 1) := by decide +kernel
theorem dX6_dinner_2 : decode cX6_dinner 2 = .ok (.iconst 1, 1) := by decide +kernel
theorem dX6_dinner_3 : decode cX6_dinner 3 = .ok (.aload_n 0, 1) := by decide +kernel
theorem dX6_dinner_4 : decode cX6_dinner 4 = .ok (.getfield 94, 3) := by decide +kernel
theorem dX6_dinner_7 : decode cX6_dinner 7 = .ok (.ishl, 1) := by decide +kernel
theorem dX6_dinner_8 : decode cX6_dinner 8 = .ok (.iconst 1, 1) := by decide +kernel
theorem dX6_dinner_9 : decode cX6_dinner 9 = .ok (.isub, 1) := by decide +kernel
theorem dX6_dinner_10 : decode cX6_dinner 10 = .ok (.invokestatic 62, 3) := by decide +kernel
theorem dX6_dinner_13 : decode cX6_dinner 13 = .ok (.ifCond .eq 22, 3) := by decide +kernel
theorem dX6_dinner_16 : decode cX6_dinner 16 = .ok (.iload_n 2, 1) := by decide +kernel
theorem dX6_dinner_17 : decode cX6_dinner 17 = .ok (.iconst 1, 1) := by decide +kernel
theorem dX6_dinner_18 : decode cX6_dinner 18 = .ok (.bipush 6, 2) := by decide +kernel
theorem dX6_dinner_20 : decode cX6_dinner 20 = .ok (.invokestatic 62, 3) := by decide +kernel
theorem dX6_dinner_23 : decode cX6_dinner 23 = .ok (.ifCond .eq 12, 3) := by decide +kernel
theorem dX6_dinner_26 : decode cX6_dinner 26 = .ok (.aload_n 0, 1) := by decide +kernel
theorem dX6_dinner_27 : decode cX6_dinner 27 = .ok (.iload_n 1, 1) := by decide +kernel
theorem dX6_dinner_28 : decode cX6_dinner 28 = .ok (.iload_n 2, 1) := by decide +kernel
theorem dX6_dinner_29 : decode cX6_dinner 29 = .ok (.invokevirtual 157, 3) := by decide +kernel
theorem dX6_dinner_32 : decode cX6_dinner 32 = .ok (.goto 5, 3) := by decide +kernel
theorem dX6_dinner_35 : decode cX6_dinner 35 = .ok (.bipush (-102), 2) := by decide +kernel
theorem dX6_dinner_37 : decode cX6_dinner 37 = .ok (.ireturn, 1) := by decide +kernel
theorem dX6_think_0 : decode cX6_think 0 = .ok (.aload_n 0, 1) := by decide +kernel
theorem dX6_think_1 : decode cX6_think 1 = .ok (.getfield 16, 3) := by decide +kernel
theorem dX6_think_4 : decode cX6_think 4 = .ok (.aload_n 0, 1) := by decide +kernel
theorem dX6_think_5 : decode cX6_think 5 = .ok (.getfield 97, 3) := by decide +kernel
theorem dX6_think_8 : decode cX6_think 8 = .ok (.iload_n 1, 1) := by decide +kernel
theorem dX6_think_9 : decode cX6_think 9 = .ok (.iastore, 1) := by decide +kernel
theorem dX6_think_10 : decode cX6_think 10 = .ok (.aload_n 0, 1) := by decide +kernel
theorem dX6_think_11 : decode cX6_think 11 = .ok (.getfield 19, 3) := by decide +kernel
theorem dX6_think_14 : decode cX6_think 14 = .ok (.aload_n 0, 1) := by decide +kernel
theorem dX6_think_15 : decode cX6_think 15 = .ok (.getfield 97, 3) := by decide +kernel
theorem dX6_think_18 : decode cX6_think 18 = .ok (.iload_n 2, 1) := by decide +kernel
theorem dX6_think_19 : decode cX6_think 19 = .ok (.iastore, 1) := by decide +kernel
theorem dX6_think_20 : decode cX6_think 20 = .ok (.aload_n 0, 1) := by decide +kernel
theorem dX6_think_21 : decode cX6_think 21 = .ok (.iconst 1, 1) := by decide +kernel
theorem dX6_think_22 : decode cX6_think 22 = .ok (.putfield 109, 3) := by decide +kernel
theorem dX6_think_25 : decode cX6_think 25 = .ok (.return_, 1) := by decide +kernel
set_option maxRecDepth 20000 in
theorem ggX6_bestNow_X6_think : GoodIn wsX6_bestNow wsX6_think := goodIn_r _ [6, 7, 8, 9, 1, 40, 41, 42, 43, 44, 45, 46, 47, 48, 49, 50, 51, 52, 53, 54, 55, 56, 57, 58, 59, 60, 61, 62, 63, 64, 65, 66, 67, 68, 69, 70, 71, 72, 73] (by decide +kernel) (by decide +kernel)
set_option maxRecDepth 20000 in
theorem gX6_bestNow_X6_think : GoodIn wsX6_bestNow (wsV RX6 160 RX6 yX6_think wsX6_think) := goodIn_app (goodIn_of _ (by decide +kernel)) ggX6_bestNow_X6_think
set_option maxRecDepth 20000 in
theorem ggX6_bestNow_X6_hoursAll : GoodIn wsX6_bestNow wsX6_hoursAll := goodIn_r _ [13, 14, 15, 16, 17, 5, 18, 19, 20, 21, 22, 23, 24, 25, 26, 27, 28, 29, 30, 31, 32, 8, 1, 7, 9, 33, 34, 35, 36, 37, 38, 39, 40, 41, 42, 43, 44, 45, 46, 47, 48, 49, 50, 51, 52, 53, 54, 55, 56, 57, 58, 59, 60, 61, 62, 63, 64, 65, 66, 67, 68, 69, 70, 71, 72, 73] (by decide +kernel) (by decide +kernel)
set_option maxRecDepth 20000 in
theorem gX6_bestNow_X6_hoursAll : GoodIn wsX6_bestNow (wsV RX6 164 RX6 yX6_hoursAll wsX6_hoursAll) := goodIn_app (goodIn_of _ (by decide +kernel)) ggX6_bestNow_X6_hoursAll
theorem dX6_bestNow_0 : decode cX6_bestNow 0 = .ok (.iconst (-1), 1) := by decide +kernel
theorem dX6_bestNow_1 : decode cX6_bestNow 1 = .ok (.istore_n 3, 1) := by decide +kernel
theorem dX6_bestNow_2 : decode cX6_bestNow 2 = .ok (.iconst (-1), 1) := by decide +kernel
theorem dX6_bestNow_3 : decode cX6_bestNow 3 = .ok (.istore 4, 2) := by decide +kernel
theorem dX6_bestNow_5 : decode cX6_bestNow 5 = .ok (.iconst 0, 1) := by decide +kernel
theorem dX6_bestNow_6 : decode cX6_bestNow 6 = .ok (.istore 5, 2) := by decide +kernel
theorem dX6_bestNow_8 : decode cX6_bestNow 8 = .ok (.iload 5, 2) := by decide +kernel
theorem dX6_bestNow_10 : decode cX6_bestNow 10 = .ok (.bipush 9, 2) := by decide +kernel
theorem dX6_bestNow_12 : decode cX6_bestNow 12 = .ok (.if_icmp .gt 59, 3) := by decide +kernel
theorem dX6_bestNow_15 : decode cX6_bestNow 15 = .ok (.aload_n 0, 1) := by decide +kernel
theorem dX6_bestNow_16 : decode cX6_bestNow 16 = .ok (.iload 5, 2) := by decide +kernel
theorem dX6_bestNow_18 : decode cX6_bestNow 18 = .ok (.iload_n 1, 1) := by decide +kernel
theorem dX6_bestNow_19 : decode cX6_bestNow 19 = .ok (.invokevirtual 160, 3) := by decide +kernel
theorem dX6_bestNow_22 : decode cX6_bestNow 22 = .ok (.aload_n 0, 1) := by decide +kernel
theorem dX6_bestNow_23 : decode cX6_bestNow 23 = .ok (.iconst 1, 1) := by decide +kernel
theorem dX6_bestNow_24 : decode cX6_bestNow 24 = .ok (.invokevirtual 164, 3) := by decide +kernel
theorem dX6_bestNow_27 : decode cX6_bestNow 27 = .ok (.aload_n 0, 1) := by decide +kernel
theorem dX6_bestNow_28 : decode cX6_bestNow 28 = .ok (.iconst 2, 1) := by decide +kernel
theorem dX6_bestNow_29 : decode cX6_bestNow 29 = .ok (.invokevirtual 164, 3) := by decide +kernel
theorem dX6_bestNow_32 : decode cX6_bestNow 32 = .ok (.iadd, 1) := by decide +kernel
theorem dX6_bestNow_33 : decode cX6_bestNow 33 = .ok (.istore 6, 2) := by decide +kernel
theorem dX6_bestNow_35 : decode cX6_bestNow 35 = .ok (.iload 6, 2) := by decide +kernel
theorem dX6_bestNow_37 : decode cX6_bestNow 37 = .ok (.iload 4, 2) := by decide +kernel
theorem dX6_bestNow_39 : decode cX6_bestNow 39 = .ok (.if_icmp .le 8, 3) := by decide +kernel
theorem dX6_bestNow_42 : decode cX6_bestNow 42 = .ok (.iload 5, 2) := by decide +kernel
theorem dX6_bestNow_44 : decode cX6_bestNow 44 = .ok (.goto 4, 3) := by decide +kernel
theorem dX6_bestNow_47 : decode cX6_bestNow 47 = .ok (.iload_n 3, 1) := by decide +kernel
theorem dX6_bestNow_48 : decode cX6_bestNow 48 = .ok (.istore_n 3, 1) := by decide +kernel
theorem dX6_bestNow_49 : decode cX6_bestNow 49 = .ok (.iload 6, 2) := by decide +kernel
theorem dX6_bestNow_51 : decode cX6_bestNow 51 = .ok (.iload 4, 2) := by decide +kernel
theorem dX6_bestNow_53 : decode cX6_bestNow 53 = .ok (.if_icmp .le 8, 3) := by decide +kernel
theorem dX6_bestNow_56 : decode cX6_bestNow 56 = .ok (.iload 6, 2) := by decide +kernel
theorem dX6_bestNow_58 : decode cX6_bestNow 58 = .ok (.goto 5, 3) := by decide +kernel
theorem dX6_bestNow_61 : decode cX6_bestNow 61 = .ok (.iload 4, 2) := by decide +kernel
theorem dX6_bestNow_63 : decode cX6_bestNow 63 = .ok (.istore 4, 2) := by decide +kernel
theorem dX6_bestNow_65 : decode cX6_bestNow 65 = .ok (.iinc 5 1, 3) := by decide +kernel
theorem dX6_bestNow_68 : decode cX6_bestNow 68 = .ok (.goto (-60), 3) := by decide +kernel
theorem dX6_bestNow_71 : decode cX6_bestNow 71 = .ok (.aload_n 0, 1) := by decide +kernel
theorem dX6_bestNow_72 : decode cX6_bestNow 72 = .ok (.iconst 0, 1) := by decide +kernel
theorem dX6_bestNow_73 : decode cX6_bestNow 73 = .ok (.putfield 109, 3) := by decide +kernel
theorem dX6_bestNow_76 : decode cX6_bestNow 76 = .ok (.iload_n 2, 1) := by decide +kernel
theorem dX6_bestNow_77 : decode cX6_bestNow 77 = .ok (.ifCond .ne 7, 3) := by decide +kernel
theorem dX6_bestNow_80 : decode cX6_bestNow 80 = .ok (.iload_n 3, 1) := by decide +kernel
theorem dX6_bestNow_81 : decode cX6_bestNow 81 = .ok (.goto 5, 3) := by decide +kernel
theorem dX6_bestNow_84 : decode cX6_bestNow 84 = .ok (.iload 4, 2) := by decide +kernel
theorem dX6_bestNow_86 : decode cX6_bestNow 86 = .ok (.ireturn, 1) := by decide +kernel
set_option maxRecDepth 20000 in
theorem ggX6_best_X6_within : GoodIn wsX6_best wsX6_within := goodIn_r _ [5] (by decide +kernel) (by decide +kernel)
set_option maxRecDepth 20000 in
theorem gX6_best_X6_within : GoodIn wsX6_best (va_wsS RX6 62 yX6_within wsX6_within) := goodIn_app (goodIn_of _ (by decide +kernel)) ggX6_best_X6_within
set_option maxRecDepth 20000 in
theorem ggX6_best_X6_bestNow : GoodIn wsX6_best wsX6_bestNow := goodIn_r _ [9, 10, 11, 12, 13, 4, 14, 15, 16, 17, 18, 19, 20, 21, 1, 22, 23, 24, 25, 26, 27, 28, 29, 30, 31, 32, 33, 34, 35, 36, 37, 38, 39, 40, 41, 42, 43, 44, 45, 46, 47, 48, 49, 50, 51, 52, 53, 54, 55, 56, 57, 58, 59, 60, 61, 62, 63, 64, 65, 66, 67, 68, 69, 70, 71, 72, 73, 74, 75, 76, 77, 78, 79, 80] (by decide +kernel) (by decide +kernel)
set_option maxRecDepth 20000 in
theorem gX6_best_X6_bestNow : GoodIn wsX6_best (wsV RX6 167 RX6 yX6_bestNow wsX6_bestNow) := goodIn_app (goodIn_of _ (by decide +kernel)) ggX6_best_X6_bestNow
theorem dX6_best_0 : decode cX6_best 0 = .ok (.iload_n 1, 1) := by decide +kernel
theorem dX6_best_1 : decode cX6_best 1 = .ok (.iconst 1, 1) := by decide +kernel
theorem dX6_best_2 : decode cX6_best 2 = .ok (.bipush 9, 2) := by decide +kernel
theorem dX6_best_4 : decode cX6_best 4 = .ok (.invokestatic 62, 3) := by decide +kernel
theorem dX6_best_7 : decode cX6_best 7 = .ok (.ifCond .eq 12, 3) := by decide +kernel
theorem dX6_best_10 : decode cX6_best 10 = .ok (.iload_n 2, 1) := by decide +kernel
theorem dX6_best_11 : decode cX6_best 11 = .ok (.iconst 0, 1) := by decide +kernel
theorem dX6_best_12 : decode cX6_best 12 = .ok (.iconst 1, 1) := by decide +kernel
theorem dX6_best_13 : decode cX6_best 13 = .ok (.invokestatic 62, 3) := by decide +kernel
theorem dX6_best_16 : decode cX6_best 16 = .ok (.ifCond .ne 6, 3) := by decide +kernel
theorem dX6_best_19 : decode cX6_best 19 = .ok (.bipush (-102), 2) := by decide +kernel
theorem dX6_best_21 : decode cX6_best 21 = .ok (.ireturn, 1) := by decide +kernel
theorem dX6_best_22 : decode cX6_best 22 = .ok (.aload_n 0, 1) := by decide +kernel
theorem dX6_best_23 : decode cX6_best 23 = .ok (.getfield 94, 3) := by decide +kernel
theorem dX6_best_26 : decode cX6_best 26 = .ok (.ifCond .ne 8, 3) := by decide +kernel
theorem dX6_best_29 : decode cX6_best 29 = .ok (.bipush (-103), 2) := by decide +kernel
theorem dX6_best_31 : decode cX6_best 31 = .ok (.goto 9, 3) := by decide +kernel
theorem dX6_best_34 : decode cX6_best 34 = .ok (.aload_n 0, 1) := by decide +kernel
theorem dX6_best_35 : decode cX6_best 35 = .ok (.iload_n 1, 1) := by decide +kernel
theorem dX6_best_36 : decode cX6_best 36 = .ok (.iload_n 2, 1) := by decide +kernel
theorem dX6_best_37 : decode cX6_best 37 = .ok (.invokevirtual 167, 3) := by decide +kernel
theorem dX6_best_40 : decode cX6_best 40 = .ok (.ireturn, 1) := by decide +kernel
set_option maxRecDepth 20000 in
theorem ggX6_hear_X6_isHouse : GoodIn wsX6_hear wsX6_isHouse := goodIn_r _ [10, 11, 12, 13, 9, 14, 18, 19, 20, 21, 22, 23, 24, 25, 26, 27, 28, 29, 30, 31, 32, 33, 34, 35, 36, 37, 38, 39, 40, 41, 42, 43, 44, 45, 46, 47, 48, 49, 50, 51] (by decide +kernel) (by decide +kernel)
set_option maxRecDepth 20000 in
theorem gX6_hear_X6_isHouse : GoodIn wsX6_hear (wsV RX6 134 RX6 yX6_isHouse wsX6_isHouse) := goodIn_app (goodIn_of _ (by decide +kernel)) ggX6_hear_X6_isHouse
set_option maxRecDepth 20000 in
theorem ggX6_hear_X6_isHour : GoodIn wsX6_hear wsX6_isHour := goodIn_r _ [17, 12, 13, 9, 14] (by decide +kernel) (by decide +kernel)
set_option maxRecDepth 20000 in
theorem gX6_hear_X6_isHour : GoodIn wsX6_hear (va_wsS RX6 141 yX6_isHour wsX6_isHour) := goodIn_app (goodIn_of _ (by decide +kernel)) ggX6_hear_X6_isHour
set_option maxRecDepth 20000 in
theorem ggX6_hear_X6_within : GoodIn wsX6_hear wsX6_within := goodIn_r _ [14] (by decide +kernel) (by decide +kernel)
set_option maxRecDepth 20000 in
theorem gX6_hear_X6_within : GoodIn wsX6_hear (va_wsS RX6 62 yX6_within wsX6_within) := goodIn_app (goodIn_of _ (by decide +kernel)) ggX6_hear_X6_within
theorem dX6_hear_0 : decode cX6_hear 0 = .ok (.aload_n 0, 1) := by decide +kernel
theorem dX6_hear_1 : decode cX6_hear 1 = .ok (.iload_n 1, 1) := by decide +kernel
theorem dX6_hear_2 : decode cX6_hear 2 = .ok (.invokevirtual 134, 3) := by decide +kernel
theorem dX6_hear_5 : decode cX6_hear 5 = .ok (.ifCond .ne 6, 3) := by decide +kernel
theorem dX6_hear_8 : decode cX6_hear 8 = .ok (.bipush (-101), 2) := by decide +kernel
theorem dX6_hear_10 : decode cX6_hear 10 = .ok (.ireturn, 1) := by decide +kernel
theorem dX6_hear_11 : decode cX6_hear 11 = .ok (.iload_n 2, 1) := by decide +kernel
theorem dX6_hear_12 : decode cX6_hear 12 = .ok (.invokestatic 141, 3) := by decide +kernel
theorem dX6_hear_15 : decode cX6_hear 15 = .ok (.ifCond .eq 23, 3) := by decide +kernel
theorem dX6_hear_18 : decode cX6_hear 18 = .ok (.iload_n 3, 1) := by decide +kernel
theorem dX6_hear_19 : decode cX6_hear 19 = .ok (.iconst 1, 1) := by decide +kernel
theorem dX6_hear_20 : decode cX6_hear 20 = .ok (.bipush 9, 2) := by decide +kernel
theorem dX6_hear_22 : decode cX6_hear 22 = .ok (.invokestatic 62, 3) := by decide +kernel
theorem dX6_hear_25 : decode cX6_hear 25 = .ok (.ifCond .eq 13, 3) := by decide +kernel
theorem dX6_hear_28 : decode cX6_hear 28 = .ok (.iload 4, 2) := by decide +kernel
theorem dX6_hear_30 : decode cX6_hear 30 = .ok (.iconst 0, 1) := by decide +kernel
theorem dX6_hear_31 : decode cX6_hear 31 = .ok (.iconst 2, 1) := by decide +kernel
theorem dX6_hear_32 : decode cX6_hear 32 = .ok (.invokestatic 62, 3) := by decide +kernel
theorem dX6_hear_35 : decode cX6_hear 35 = .ok (.ifCond .ne 6, 3) := by decide +kernel
theorem dX6_hear_38 : decode cX6_hear 38 = .ok (.bipush (-102), 2) := by decide +kernel
theorem dX6_hear_40 : decode cX6_hear 40 = .ok (.ireturn, 1) := by decide +kernel
theorem dX6_hear_41 : decode cX6_hear 41 = .ok (.aload_n 0, 1) := by decide +kernel
theorem dX6_hear_42 : decode cX6_hear 42 = .ok (.getfield 106, 3) := by decide +kernel
theorem dX6_hear_45 : decode cX6_hear 45 = .ok (.bipush 6, 2) := by decide +kernel
theorem dX6_hear_47 : decode cX6_hear 47 = .ok (.if_icmp .ne 6, 3) := by decide +kernel
theorem dX6_hear_50 : decode cX6_hear 50 = .ok (.bipush (-104), 2) := by decide +kernel
theorem dX6_hear_52 : decode cX6_hear 52 = .ok (.ireturn, 1) := by decide +kernel
theorem dX6_hear_53 : decode cX6_hear 53 = .ok (.aload_n 0, 1) := by decide +kernel
theorem dX6_hear_54 : decode cX6_hear 54 = .ok (.getfield 22, 3) := by decide +kernel
theorem dX6_hear_57 : decode cX6_hear 57 = .ok (.aload_n 0, 1) := by decide +kernel
theorem dX6_hear_58 : decode cX6_hear 58 = .ok (.getfield 106, 3) := by decide +kernel
theorem dX6_hear_61 : decode cX6_hear 61 = .ok (.iload_n 1, 1) := by decide +kernel
theorem dX6_hear_62 : decode cX6_hear 62 = .ok (.iastore, 1) := by decide +kernel
theorem dX6_hear_63 : decode cX6_hear 63 = .ok (.aload_n 0, 1) := by decide +kernel
theorem dX6_hear_64 : decode cX6_hear 64 = .ok (.getfield 25, 3) := by decide +kernel
theorem dX6_hear_67 : decode cX6_hear 67 = .ok (.aload_n 0, 1) := by decide +kernel
theorem dX6_hear_68 : decode cX6_hear 68 = .ok (.getfield 106, 3) := by decide +kernel
theorem dX6_hear_71 : decode cX6_hear 71 = .ok (.iload_n 2, 1) := by decide +kernel
theorem dX6_hear_72 : decode cX6_hear 72 = .ok (.iastore, 1) := by decide +kernel
theorem dX6_hear_73 : decode cX6_hear 73 = .ok (.aload_n 0, 1) := by decide +kernel
theorem dX6_hear_74 : decode cX6_hear 74 = .ok (.getfield 28, 3) := by decide +kernel
theorem dX6_hear_77 : decode cX6_hear 77 = .ok (.aload_n 0, 1) := by decide +kernel
theorem dX6_hear_78 : decode cX6_hear 78 = .ok (.getfield 106, 3) := by decide +kernel
theorem dX6_hear_81 : decode cX6_hear 81 = .ok (.iload_n 3, 1) := by decide +kernel
theorem dX6_hear_82 : decode cX6_hear 82 = .ok (.iastore, 1) := by decide +kernel
theorem dX6_hear_83 : decode cX6_hear 83 = .ok (.aload_n 0, 1) := by decide +kernel
theorem dX6_hear_84 : decode cX6_hear 84 = .ok (.getfield 31, 3) := by decide +kernel
theorem dX6_hear_87 : decode cX6_hear 87 = .ok (.aload_n 0, 1) := by decide +kernel
theorem dX6_hear_88 : decode cX6_hear 88 = .ok (.getfield 106, 3) := by decide +kernel
theorem dX6_hear_91 : decode cX6_hear 91 = .ok (.iload 4, 2) := by decide +kernel
theorem dX6_hear_93 : decode cX6_hear 93 = .ok (.iastore, 1) := by decide +kernel
theorem dX6_hear_94 : decode cX6_hear 94 = .ok (.aload_n 0, 1) := by decide +kernel
theorem dX6_hear_95 : decode cX6_hear 95 = .ok (.dup, 1) := by decide +kernel
theorem dX6_hear_96 : decode cX6_hear 96 = .ok (.getfield 106, 3) := by decide +kernel
theorem dX6_hear_99 : decode cX6_hear 99 = .ok (.iconst 1, 1) := by decide +kernel
theorem dX6_hear_100 : decode cX6_hear 100 = .ok (.iadd, 1) := by decide +kernel
theorem dX6_hear_101 : decode cX6_hear 101 = .ok (.putfield 106, 3) := by decide +kernel
theorem dX6_hear_104 : decode cX6_hear 104 = .ok (.aload_n 0, 1) := by decide +kernel
theorem dX6_hear_105 : decode cX6_hear 105 = .ok (.getfield 106, 3) := by decide +kernel
theorem dX6_hear_108 : decode cX6_hear 108 = .ok (.ireturn, 1) := by decide +kernel
theorem dX6_forget_0 : decode cX6_forget 0 = .ok (.aload_n 0, 1) := by decide +kernel
theorem dX6_forget_1 : decode cX6_forget 1 = .ok (.getfield 106, 3) := by decide +kernel
theorem dX6_forget_4 : decode cX6_forget 4 = .ok (.istore_n 1, 1) := by decide +kernel
theorem dX6_forget_5 : decode cX6_forget 5 = .ok (.aload_n 0, 1) := by decide +kernel
theorem dX6_forget_6 : decode cX6_forget 6 = .ok (.iconst 0, 1) := by decide +kernel
theorem dX6_forget_7 : decode cX6_forget 7 = .ok (.putfield 106, 3) := by decide +kernel
theorem dX6_forget_10 : decode cX6_forget 10 = .ok (.iload_n 1, 1) := by decide +kernel
theorem dX6_forget_11 : decode cX6_forget 11 = .ok (.ireturn, 1) := by decide +kernel
set_option maxRecDepth 20000 in
theorem ggX6_isHeard_X6_think : GoodIn wsX6_isHeard wsX6_think := goodIn_r _ [11, 12, 13, 14, 6, 36, 37, 38, 39, 40, 41, 42, 43, 44, 45, 46, 47, 48, 49, 50, 51, 52, 53, 54, 55, 56, 57, 58, 59, 60, 61, 62, 63, 64, 65, 66, 67, 68, 69] (by decide +kernel) (by decide +kernel)
set_option maxRecDepth 20000 in
theorem gX6_isHeard_X6_think : GoodIn wsX6_isHeard (wsV RX6 160 RX6 yX6_think wsX6_think) := goodIn_app (goodIn_of _ (by decide +kernel)) ggX6_isHeard_X6_think
set_option maxRecDepth 20000 in
theorem ggX6_isHeard_X6_howAt : GoodIn wsX6_isHeard wsX6_howAt := goodIn_r _ [18, 19, 20, 21, 10, 22, 23, 24, 25, 26, 27, 28, 13, 6, 12, 14, 29, 30, 31, 32, 33, 34, 35, 36, 37, 38, 39, 40, 41, 42, 43, 44, 45, 46, 47, 48, 49, 50, 51, 52, 53, 54, 55, 56, 57, 58, 59, 60, 61, 62, 63, 64, 65, 66, 67, 68, 69] (by decide +kernel) (by decide +kernel)
set_option maxRecDepth 20000 in
theorem gX6_isHeard_X6_howAt : GoodIn wsX6_isHeard (wsV RX6 125 RX6 yX6_howAt wsX6_howAt) := goodIn_app (goodIn_of _ (by decide +kernel)) ggX6_isHeard_X6_howAt
theorem dX6_isHeard_0 : decode cX6_isHeard 0 = .ok (.iconst 1, 1) := by decide +kernel
theorem dX6_isHeard_1 : decode cX6_isHeard 1 = .ok (.istore_n 2, 1) := by decide +kernel
theorem dX6_isHeard_2 : decode cX6_isHeard 2 = .ok (.iconst 0, 1) := by decide +kernel
theorem dX6_isHeard_3 : decode cX6_isHeard 3 = .ok (.istore_n 3, 1) := by decide +kernel
theorem dX6_isHeard_4 : decode cX6_isHeard 4 = .ok (.iload_n 3, 1) := by decide +kernel
theorem dX6_isHeard_5 : decode cX6_isHeard 5 = .ok (.aload_n 0, 1) := by decide +kernel
theorem dX6_isHeard_6 : decode cX6_isHeard 6 = .ok (.getfield 106, 3) := by decide +kernel
theorem dX6_isHeard_9 : decode cX6_isHeard 9 = .ok (.if_icmp .ge 55, 3) := by decide +kernel
theorem dX6_isHeard_12 : decode cX6_isHeard 12 = .ok (.aload_n 0, 1) := by decide +kernel
theorem dX6_isHeard_13 : decode cX6_isHeard 13 = .ok (.iload_n 1, 1) := by decide +kernel
theorem dX6_isHeard_14 : decode cX6_isHeard 14 = .ok (.aload_n 0, 1) := by decide +kernel
theorem dX6_isHeard_15 : decode cX6_isHeard 15 = .ok (.getfield 28, 3) := by decide +kernel
theorem dX6_isHeard_18 : decode cX6_isHeard 18 = .ok (.iload_n 3, 1) := by decide +kernel
theorem dX6_isHeard_19 : decode cX6_isHeard 19 = .ok (.iaload, 1) := by decide +kernel
theorem dX6_isHeard_20 : decode cX6_isHeard 20 = .ok (.invokevirtual 160, 3) := by decide +kernel
theorem dX6_isHeard_23 : decode cX6_isHeard 23 = .ok (.iload_n 2, 1) := by decide +kernel
theorem dX6_isHeard_24 : decode cX6_isHeard 24 = .ok (.ifCond .eq 32, 3) := by decide +kernel
theorem dX6_isHeard_27 : decode cX6_isHeard 27 = .ok (.aload_n 0, 1) := by decide +kernel
theorem dX6_isHeard_28 : decode cX6_isHeard 28 = .ok (.aload_n 0, 1) := by decide +kernel
theorem dX6_isHeard_29 : decode cX6_isHeard 29 = .ok (.getfield 22, 3) := by decide +kernel
theorem dX6_isHeard_32 : decode cX6_isHeard 32 = .ok (.iload_n 3, 1) := by decide +kernel
theorem dX6_isHeard_33 : decode cX6_isHeard 33 = .ok (.iaload, 1) := by decide +kernel
theorem dX6_isHeard_34 : decode cX6_isHeard 34 = .ok (.aload_n 0, 1) := by decide +kernel
theorem dX6_isHeard_35 : decode cX6_isHeard 35 = .ok (.getfield 25, 3) := by decide +kernel
theorem dX6_isHeard_38 : decode cX6_isHeard 38 = .ok (.iload_n 3, 1) := by decide +kernel
theorem dX6_isHeard_39 : decode cX6_isHeard 39 = .ok (.iaload, 1) := by decide +kernel
theorem dX6_isHeard_40 : decode cX6_isHeard 40 = .ok (.invokevirtual 125, 3) := by decide +kernel
theorem dX6_isHeard_43 : decode cX6_isHeard 43 = .ok (.aload_n 0, 1) := by decide +kernel
theorem dX6_isHeard_44 : decode cX6_isHeard 44 = .ok (.getfield 31, 3) := by decide +kernel
theorem dX6_isHeard_47 : decode cX6_isHeard 47 = .ok (.iload_n 3, 1) := by decide +kernel
theorem dX6_isHeard_48 : decode cX6_isHeard 48 = .ok (.iaload, 1) := by decide +kernel
theorem dX6_isHeard_49 : decode cX6_isHeard 49 = .ok (.if_icmp .ne 7, 3) := by decide +kernel
theorem dX6_isHeard_52 : decode cX6_isHeard 52 = .ok (.iconst 1, 1) := by decide +kernel
theorem dX6_isHeard_53 : decode cX6_isHeard 53 = .ok (.goto 4, 3) := by decide +kernel
theorem dX6_isHeard_56 : decode cX6_isHeard 56 = .ok (.iconst 0, 1) := by decide +kernel
theorem dX6_isHeard_57 : decode cX6_isHeard 57 = .ok (.istore_n 2, 1) := by decide +kernel
theorem dX6_isHeard_58 : decode cX6_isHeard 58 = .ok (.iinc 3 1, 3) := by decide +kernel
theorem dX6_isHeard_61 : decode cX6_isHeard 61 = .ok (.goto (-57), 3) := by decide +kernel
theorem dX6_isHeard_64 : decode cX6_isHeard 64 = .ok (.aload_n 0, 1) := by decide +kernel
theorem dX6_isHeard_65 : decode cX6_isHeard 65 = .ok (.iconst 0, 1) := by decide +kernel
theorem dX6_isHeard_66 : decode cX6_isHeard 66 = .ok (.putfield 109, 3) := by decide +kernel
theorem dX6_isHeard_69 : decode cX6_isHeard 69 = .ok (.iload_n 2, 1) := by decide +kernel
theorem dX6_isHeard_70 : decode cX6_isHeard 70 = .ok (.ireturn, 1) := by decide +kernel
set_option maxRecDepth 20000 in
theorem ggX6_hoursNow_X6_isHeard : GoodIn wsX6_hoursNow wsX6_isHeard := goodIn_r _ [5, 6, 7, 8, 9, 10, 11, 12, 13, 14, 4, 15, 16, 17, 18, 19, 20, 21, 22, 23, 24, 25, 26, 27, 28, 29, 30, 31, 32, 33, 34, 35, 36, 37, 38, 39, 40, 41, 42, 43, 44, 45, 46, 47, 48, 49, 50, 51, 52, 53, 54, 55, 56, 57, 58, 59, 60, 61, 62, 63, 64, 65, 66, 67, 68, 69, 70, 71, 72, 73] (by decide +kernel) (by decide +kernel)
set_option maxRecDepth 20000 in
theorem gX6_hoursNow_X6_isHeard : GoodIn wsX6_hoursNow (wsV RX6 170 RX6 yX6_isHeard wsX6_isHeard) := goodIn_app (goodIn_of _ (by decide +kernel)) ggX6_hoursNow_X6_isHeard
theorem dX6_hoursNow_0 : decode cX6_hoursNow 0 = .ok (.iconst 0, 1) := by decide +kernel
theorem dX6_hoursNow_1 : decode cX6_hoursNow 1 = .ok (.istore_n 1, 1) := by decide +kernel
theorem dX6_hoursNow_2 : decode cX6_hoursNow 2 = .ok (.iconst 0, 1) := by decide +kernel
theorem dX6_hoursNow_3 : decode cX6_hoursNow 3 = .ok (.istore_n 2, 1) := by decide +kernel
theorem dX6_hoursNow_4 : decode cX6_hoursNow 4 = .ok (.iload_n 2, 1) := by decide +kernel
theorem dX6_hoursNow_5 : decode cX6_hoursNow 5 = .ok (.bipush 9, 2) := by decide +kernel
theorem dX6_hoursNow_7 : decode cX6_hoursNow 7 = .ok (.if_icmp .gt 27, 3) := by decide +kernel
theorem dX6_hoursNow_10 : decode cX6_hoursNow 10 = .ok (.iload_n 1, 1) := by decide +kernel
theorem dX6_hoursNow_11 : decode cX6_hoursNow 11 = .ok (.aload_n 0, 1) := by decide +kernel
theorem dX6_hoursNow_12 : decode cX6_hoursNow 12 = .ok (.iload_n 2, 1) := by decide +kernel
theorem dX6_hoursNow_13 : decode cX6_hoursNow 13 = .ok (.invokevirtual 170, 3) := by decide +kernel
theorem dX6_hoursNow_16 : decode cX6_hoursNow 16 = .ok (.ifCond .eq 9, 3) := by decide +kernel
theorem dX6_hoursNow_19 : decode cX6_hoursNow 19 = .ok (.iconst 1, 1) := by decide +kernel
theorem dX6_hoursNow_20 : decode cX6_hoursNow 20 = .ok (.iload_n 2, 1) := by decide +kernel
theorem dX6_hoursNow_21 : decode cX6_hoursNow 21 = .ok (.ishl, 1) := by decide +kernel
theorem dX6_hoursNow_22 : decode cX6_hoursNow 22 = .ok (.goto 4, 3) := by decide +kernel
theorem dX6_hoursNow_25 : decode cX6_hoursNow 25 = .ok (.iconst 0, 1) := by decide +kernel
theorem dX6_hoursNow_26 : decode cX6_hoursNow 26 = .ok (.ior, 1) := by decide +kernel
theorem dX6_hoursNow_27 : decode cX6_hoursNow 27 = .ok (.istore_n 1, 1) := by decide +kernel
theorem dX6_hoursNow_28 : decode cX6_hoursNow 28 = .ok (.iinc 2 1, 3) := by decide +kernel
theorem dX6_hoursNow_31 : decode cX6_hoursNow 31 = .ok (.goto (-27), 3) := by decide +kernel
theorem dX6_hoursNow_34 : decode cX6_hoursNow 34 = .ok (.iload_n 1, 1) := by decide +kernel
theorem dX6_hoursNow_35 : decode cX6_hoursNow 35 = .ok (.ireturn, 1) := by decide +kernel
set_option maxRecDepth 20000 in
theorem ggX6_hours_X6_hoursNow : GoodIn wsX6_hours wsX6_hoursNow := goodIn_r _ [6, 7, 8, 9, 5, 10, 11, 12, 13, 14, 15, 16, 17, 18, 19, 20, 21, 22, 23, 24, 25, 26, 27, 28, 29, 30, 31, 32, 33, 34, 35, 36, 37, 38, 39, 40, 41, 42, 43, 44, 45, 46, 47, 48, 49, 50, 51, 52, 53, 54, 55, 56, 57, 58, 59, 60, 61, 62, 63, 64, 65, 66, 67, 68, 69, 70, 71, 72, 73, 74, 75, 76, 77, 78] (by decide +kernel) (by decide +kernel)
set_option maxRecDepth 20000 in
theorem gX6_hours_X6_hoursNow : GoodIn wsX6_hours (wsV RX6 173 RX6 yX6_hoursNow wsX6_hoursNow) := goodIn_app (goodIn_of _ (by decide +kernel)) ggX6_hours_X6_hoursNow
theorem dX6_hours_0 : decode cX6_hours 0 = .ok (.aload_n 0, 1) := by decide +kernel
theorem dX6_hours_1 : decode cX6_hours 1 = .ok (.getfield 94, 3) := by decide +kernel
theorem dX6_hours_4 : decode cX6_hours 4 = .ok (.ifCond .ne 8, 3) := by decide +kernel
theorem dX6_hours_7 : decode cX6_hours 7 = .ok (.bipush (-103), 2) := by decide +kernel
theorem dX6_hours_9 : decode cX6_hours 9 = .ok (.goto 7, 3) := by decide +kernel
theorem dX6_hours_12 : decode cX6_hours 12 = .ok (.aload_n 0, 1) := by decide +kernel
theorem dX6_hours_13 : decode cX6_hours 13 = .ok (.invokevirtual 173, 3) := by decide +kernel
theorem dX6_hours_16 : decode cX6_hours 16 = .ok (.ireturn, 1) := by decide +kernel
set_option maxRecDepth 20000 in
theorem ggX6_worstIn_X6_think : GoodIn wsX6_worstIn wsX6_think := goodIn_r _ [8, 9, 10, 11, 3, 36, 37, 38, 39, 40, 41, 42, 43, 44, 45, 46, 47, 48, 49, 50, 51, 52, 53, 54, 55, 56, 57, 58, 59, 60, 61, 62, 63, 64, 65, 66, 67, 68, 69] (by decide +kernel) (by decide +kernel)
set_option maxRecDepth 20000 in
theorem gX6_worstIn_X6_think : GoodIn wsX6_worstIn (wsV RX6 160 RX6 yX6_think wsX6_think) := goodIn_app (goodIn_of _ (by decide +kernel)) ggX6_worstIn_X6_think
set_option maxRecDepth 20000 in
theorem ggX6_worstIn_X6_howAt : GoodIn wsX6_worstIn wsX6_howAt := goodIn_r _ [15, 16, 17, 18, 7, 19, 20, 21, 22, 23, 24, 25, 10, 3, 9, 11, 26, 27, 28, 29, 30, 31, 32, 36, 37, 38, 39, 40, 41, 42, 43, 44, 45, 46, 47, 48, 49, 50, 51, 52, 53, 54, 55, 56, 57, 58, 59, 60, 61, 62, 63, 64, 65, 66, 67, 68, 69] (by decide +kernel) (by decide +kernel)
set_option maxRecDepth 20000 in
theorem gX6_worstIn_X6_howAt : GoodIn wsX6_worstIn (wsV RX6 125 RX6 yX6_howAt wsX6_howAt) := goodIn_app (goodIn_of _ (by decide +kernel)) ggX6_worstIn_X6_howAt
set_option maxRecDepth 20000 in
theorem ggX6_worstIn_X6_isIn : GoodIn wsX6_worstIn wsX6_isIn := goodIn_r _ [35] (by decide +kernel) (by decide +kernel)
set_option maxRecDepth 20000 in
theorem gX6_worstIn_X6_isIn : GoodIn wsX6_worstIn (va_wsS RX6 150 yX6_isIn wsX6_isIn) := goodIn_app (goodIn_of _ (by decide +kernel)) ggX6_worstIn_X6_isIn
theorem dX6_worstIn_0 : decode cX6_worstIn 0 = .ok (.iconst 0, 1) := by decide +kernel
theorem dX6_worstIn_1 : decode cX6_worstIn 1 = .ok (.istore 4, 2) := by decide +kernel
theorem dX6_worstIn_3 : decode cX6_worstIn 3 = .ok (.iconst 0, 1) := by decide +kernel
theorem dX6_worstIn_4 : decode cX6_worstIn 4 = .ok (.istore 5, 2) := by decide +kernel
theorem dX6_worstIn_6 : decode cX6_worstIn 6 = .ok (.iconst 0, 1) := by decide +kernel
theorem dX6_worstIn_7 : decode cX6_worstIn 7 = .ok (.istore 6, 2) := by decide +kernel
theorem dX6_worstIn_9 : decode cX6_worstIn 9 = .ok (.iconst 0, 1) := by decide +kernel
theorem dX6_worstIn_10 : decode cX6_worstIn 10 = .ok (.istore 7, 2) := by decide +kernel
theorem dX6_worstIn_12 : decode cX6_worstIn 12 = .ok (.iload 7, 2) := by decide +kernel
theorem dX6_worstIn_14 : decode cX6_worstIn 14 = .ok (.bipush 9, 2) := by decide +kernel
theorem dX6_worstIn_16 : decode cX6_worstIn 16 = .ok (.if_icmp .gt 108, 3) := by decide +kernel
theorem dX6_worstIn_19 : decode cX6_worstIn 19 = .ok (.aload_n 0, 1) := by decide +kernel
theorem dX6_worstIn_20 : decode cX6_worstIn 20 = .ok (.iload 7, 2) := by decide +kernel
theorem dX6_worstIn_22 : decode cX6_worstIn 22 = .ok (.aload_n 0, 1) := by decide +kernel
theorem dX6_worstIn_23 : decode cX6_worstIn 23 = .ok (.getfield 28, 3) := by decide +kernel
theorem dX6_worstIn_26 : decode cX6_worstIn 26 = .ok (.aload_n 0, 1) := by decide +kernel
theorem dX6_worstIn_27 : decode cX6_worstIn 27 = .ok (.getfield 106, 3) := by decide +kernel
theorem dX6_worstIn_30 : decode cX6_worstIn 30 = .ok (.iconst 1, 1) := by decide +kernel
theorem dX6_worstIn_31 : decode cX6_worstIn 31 = .ok (.isub, 1) := by decide +kernel
theorem dX6_worstIn_32 : decode cX6_worstIn 32 = .ok (.iaload, 1) := by decide +kernel
theorem dX6_worstIn_33 : decode cX6_worstIn 33 = .ok (.invokevirtual 160, 3) := by decide +kernel
theorem dX6_worstIn_36 : decode cX6_worstIn 36 = .ok (.aload_n 0, 1) := by decide +kernel
theorem dX6_worstIn_37 : decode cX6_worstIn 37 = .ok (.iload_n 2, 1) := by decide +kernel
theorem dX6_worstIn_38 : decode cX6_worstIn 38 = .ok (.iload_n 3, 1) := by decide +kernel
theorem dX6_worstIn_39 : decode cX6_worstIn 39 = .ok (.invokevirtual 125, 3) := by decide +kernel
theorem dX6_worstIn_42 : decode cX6_worstIn 42 = .ok (.istore 8, 2) := by decide +kernel
theorem dX6_worstIn_44 : decode cX6_worstIn 44 = .ok (.iload 4, 2) := by decide +kernel
theorem dX6_worstIn_46 : decode cX6_worstIn 46 = .ok (.iload_n 1, 1) := by decide +kernel
theorem dX6_worstIn_47 : decode cX6_worstIn 47 = .ok (.iload 7, 2) := by decide +kernel
theorem dX6_worstIn_49 : decode cX6_worstIn 49 = .ok (.invokestatic 150, 3) := by decide +kernel
theorem dX6_worstIn_52 : decode cX6_worstIn 52 = .ok (.ifCond .eq 12, 3) := by decide +kernel
theorem dX6_worstIn_55 : decode cX6_worstIn 55 = .ok (.iload 8, 2) := by decide +kernel
theorem dX6_worstIn_57 : decode cX6_worstIn 57 = .ok (.ifCond .ne 7, 3) := by decide +kernel
theorem dX6_worstIn_60 : decode cX6_worstIn 60 = .ok (.iconst 1, 1) := by decide +kernel
theorem dX6_worstIn_61 : decode cX6_worstIn 61 = .ok (.goto 4, 3) := by decide +kernel
theorem dX6_worstIn_64 : decode cX6_worstIn 64 = .ok (.iconst 0, 1) := by decide +kernel
theorem dX6_worstIn_65 : decode cX6_worstIn 65 = .ok (.iadd, 1) := by decide +kernel
theorem dX6_worstIn_66 : decode cX6_worstIn 66 = .ok (.istore 4, 2) := by decide +kernel
theorem dX6_worstIn_68 : decode cX6_worstIn 68 = .ok (.iload 5, 2) := by decide +kernel
theorem dX6_worstIn_70 : decode cX6_worstIn 70 = .ok (.iload_n 1, 1) := by decide +kernel
theorem dX6_worstIn_71 : decode cX6_worstIn 71 = .ok (.iload 7, 2) := by decide +kernel
theorem dX6_worstIn_73 : decode cX6_worstIn 73 = .ok (.invokestatic 150, 3) := by decide +kernel
theorem dX6_worstIn_76 : decode cX6_worstIn 76 = .ok (.ifCond .eq 13, 3) := by decide +kernel
theorem dX6_worstIn_79 : decode cX6_worstIn 79 = .ok (.iload 8, 2) := by decide +kernel
theorem dX6_worstIn_81 : decode cX6_worstIn 81 = .ok (.iconst 1, 1) := by decide +kernel
theorem dX6_worstIn_82 : decode cX6_worstIn 82 = .ok (.if_icmp .ne 7, 3) := by decide +kernel
theorem dX6_worstIn_85 : decode cX6_worstIn 85 = .ok (.iconst 1, 1) := by decide +kernel
theorem dX6_worstIn_86 : decode cX6_worstIn 86 = .ok (.goto 4, 3) := by decide +kernel
theorem dX6_worstIn_89 : decode cX6_worstIn 89 = .ok (.iconst 0, 1) := by decide +kernel
theorem dX6_worstIn_90 : decode cX6_worstIn 90 = .ok (.iadd, 1) := by decide +kernel
theorem dX6_worstIn_91 : decode cX6_worstIn 91 = .ok (.istore 5, 2) := by decide +kernel
theorem dX6_worstIn_93 : decode cX6_worstIn 93 = .ok (.iload 6, 2) := by decide +kernel
theorem dX6_worstIn_95 : decode cX6_worstIn 95 = .ok (.iload_n 1, 1) := by decide +kernel
theorem dX6_worstIn_96 : decode cX6_worstIn 96 = .ok (.iload 7, 2) := by decide +kernel
theorem dX6_worstIn_98 : decode cX6_worstIn 98 = .ok (.invokestatic 150, 3) := by decide +kernel
theorem dX6_worstIn_101 : decode cX6_worstIn 101 = .ok (.ifCond .eq 13, 3) := by decide +kernel
theorem dX6_worstIn_104 : decode cX6_worstIn 104 = .ok (.iload 8, 2) := by decide +kernel
theorem dX6_worstIn_106 : decode cX6_worstIn 106 = .ok (.iconst 2, 1) := by decide +kernel
theorem dX6_worstIn_107 : decode cX6_worstIn 107 = .ok (.if_icmp .ne 7, 3) := by decide +kernel
theorem dX6_worstIn_110 : decode cX6_worstIn 110 = .ok (.iconst 1, 1) := by decide +kernel
theorem dX6_worstIn_111 : decode cX6_worstIn 111 = .ok (.goto 4, 3) := by decide +kernel
theorem dX6_worstIn_114 : decode cX6_worstIn 114 = .ok (.iconst 0, 1) := by decide +kernel
theorem dX6_worstIn_115 : decode cX6_worstIn 115 = .ok (.iadd, 1) := by decide +kernel
theorem dX6_worstIn_116 : decode cX6_worstIn 116 = .ok (.istore 6, 2) := by decide +kernel
theorem dX6_worstIn_118 : decode cX6_worstIn 118 = .ok (.iinc 7 1, 3) := by decide +kernel
theorem dX6_worstIn_121 : decode cX6_worstIn 121 = .ok (.goto (-109), 3) := by decide +kernel
theorem dX6_worstIn_124 : decode cX6_worstIn 124 = .ok (.aload_n 0, 1) := by decide +kernel
theorem dX6_worstIn_125 : decode cX6_worstIn 125 = .ok (.iconst 0, 1) := by decide +kernel
theorem dX6_worstIn_126 : decode cX6_worstIn 126 = .ok (.putfield 109, 3) := by decide +kernel
theorem dX6_worstIn_129 : decode cX6_worstIn 129 = .ok (.iload 4, 2) := by decide +kernel
theorem dX6_worstIn_131 : decode cX6_worstIn 131 = .ok (.iload 5, 2) := by decide +kernel
theorem dX6_worstIn_133 : decode cX6_worstIn 133 = .ok (.if_icmp .le 8, 3) := by decide +kernel
theorem dX6_worstIn_136 : decode cX6_worstIn 136 = .ok (.iload 4, 2) := by decide +kernel
theorem dX6_worstIn_138 : decode cX6_worstIn 138 = .ok (.goto 5, 3) := by decide +kernel
theorem dX6_worstIn_141 : decode cX6_worstIn 141 = .ok (.iload 5, 2) := by decide +kernel
theorem dX6_worstIn_143 : decode cX6_worstIn 143 = .ok (.istore 7, 2) := by decide +kernel
theorem dX6_worstIn_145 : decode cX6_worstIn 145 = .ok (.iload 7, 2) := by decide +kernel
theorem dX6_worstIn_147 : decode cX6_worstIn 147 = .ok (.iload 6, 2) := by decide +kernel
theorem dX6_worstIn_149 : decode cX6_worstIn 149 = .ok (.if_icmp .le 8, 3) := by decide +kernel
theorem dX6_worstIn_152 : decode cX6_worstIn 152 = .ok (.iload 7, 2) := by decide +kernel
theorem dX6_worstIn_154 : decode cX6_worstIn 154 = .ok (.goto 5, 3) := by decide +kernel
theorem dX6_worstIn_157 : decode cX6_worstIn 157 = .ok (.iload 6, 2) := by decide +kernel
theorem dX6_worstIn_159 : decode cX6_worstIn 159 = .ok (.ireturn, 1) := by decide +kernel
set_option maxRecDepth 20000 in
theorem ggX6_askNow_X6_hoursNow : GoodIn wsX6_askNow wsX6_hoursNow := goodIn_r _ [8, 9, 10, 11, 7, 12, 1, 13, 14, 15, 16, 17, 18, 19, 20, 21, 22, 23, 24, 25, 26, 27, 28, 29, 30, 31, 32, 33, 34, 35, 36, 37, 38, 39, 40, 41, 42, 43, 44, 45, 53, 54, 55, 56, 57, 58, 59, 60, 61, 62, 63, 64, 65, 66, 67, 68, 69, 70, 71, 72, 73, 74, 75, 76, 77, 78, 79, 80, 81, 82, 83, 84, 85, 86] (by decide +kernel) (by decide +kernel)
set_option maxRecDepth 20000 in
theorem gX6_askNow_X6_hoursNow : GoodIn wsX6_askNow (wsV RX6 173 RX6 yX6_hoursNow wsX6_hoursNow) := goodIn_app (goodIn_of _ (by decide +kernel)) ggX6_askNow_X6_hoursNow
set_option maxRecDepth 20000 in
theorem ggX6_askNow_X6_worstIn : GoodIn wsX6_askNow wsX6_worstIn := goodIn_r _ [49, 13, 1, 17, 18, 19, 20, 7, 21, 22, 23, 24, 25, 26, 27, 28, 29, 30, 31, 32, 33, 34, 35, 36, 37, 38, 39, 40, 41, 42, 43, 44, 45, 50, 51, 52, 53, 54, 55, 56, 57, 58, 59, 60, 61, 62, 63, 64, 65, 66, 67, 68, 69, 70, 71, 72, 73, 74, 75, 76, 77, 78, 79, 80, 81, 82, 83, 84, 85, 86] (by decide +kernel) (by decide +kernel)
set_option maxRecDepth 20000 in
theorem gX6_askNow_X6_worstIn : GoodIn wsX6_askNow (wsV RX6 177 RX6 yX6_worstIn wsX6_worstIn) := goodIn_app (goodIn_of _ (by decide +kernel)) ggX6_askNow_X6_worstIn
theorem dX6_askNow_0 : decode cX6_askNow 0 = .ok (.aload_n 0, 1) := by decide +kernel
theorem dX6_askNow_1 : decode cX6_askNow 1 = .ok (.getfield 106, 3) := by decide +kernel
theorem dX6_askNow_4 : decode cX6_askNow 4 = .ok (.ifCond .ne 7, 3) := by decide +kernel
theorem dX6_askNow_7 : decode cX6_askNow 7 = .ok (.iconst 0, 1) := by decide +kernel
theorem dX6_askNow_8 : decode cX6_askNow 8 = .ok (.goto 7, 3) := by decide +kernel
theorem dX6_askNow_11 : decode cX6_askNow 11 = .ok (.aload_n 0, 1) := by decide +kernel
theorem dX6_askNow_12 : decode cX6_askNow 12 = .ok (.invokevirtual 173, 3) := by decide +kernel
theorem dX6_askNow_15 : decode cX6_askNow 15 = .ok (.istore_n 2, 1) := by decide +kernel
theorem dX6_askNow_16 : decode cX6_askNow 16 = .ok (.iconst (-1), 1) := by decide +kernel
theorem dX6_askNow_17 : decode cX6_askNow 17 = .ok (.istore_n 3, 1) := by decide +kernel
theorem dX6_askNow_18 : decode cX6_askNow 18 = .ok (.ldc 176, 2) := by decide +kernel
theorem dX6_askNow_20 : decode cX6_askNow 20 = .ok (.istore 4, 2) := by decide +kernel
theorem dX6_askNow_22 : decode cX6_askNow 22 = .ok (.iconst 0, 1) := by decide +kernel
theorem dX6_askNow_23 : decode cX6_askNow 23 = .ok (.istore 5, 2) := by decide +kernel
theorem dX6_askNow_25 : decode cX6_askNow 25 = .ok (.iload 5, 2) := by decide +kernel
theorem dX6_askNow_27 : decode cX6_askNow 27 = .ok (.aload_n 0, 1) := by decide +kernel
theorem dX6_askNow_28 : decode cX6_askNow 28 = .ok (.getfield 94, 3) := by decide +kernel
theorem dX6_askNow_31 : decode cX6_askNow 31 = .ok (.if_icmp .ge 53, 3) := by decide +kernel
theorem dX6_askNow_34 : decode cX6_askNow 34 = .ok (.iload_n 2, 1) := by decide +kernel
theorem dX6_askNow_35 : decode cX6_askNow 35 = .ok (.ifCond .eq 49, 3) := by decide +kernel
theorem dX6_askNow_38 : decode cX6_askNow 38 = .ok (.aload_n 0, 1) := by decide +kernel
theorem dX6_askNow_39 : decode cX6_askNow 39 = .ok (.iload_n 2, 1) := by decide +kernel
theorem dX6_askNow_40 : decode cX6_askNow 40 = .ok (.iload 5, 2) := by decide +kernel
theorem dX6_askNow_42 : decode cX6_askNow 42 = .ok (.iload_n 1, 1) := by decide +kernel
theorem dX6_askNow_43 : decode cX6_askNow 43 = .ok (.invokevirtual 177, 3) := by decide +kernel
theorem dX6_askNow_46 : decode cX6_askNow 46 = .ok (.istore 6, 2) := by decide +kernel
theorem dX6_askNow_48 : decode cX6_askNow 48 = .ok (.iload 6, 2) := by decide +kernel
theorem dX6_askNow_50 : decode cX6_askNow 50 = .ok (.iload 4, 2) := by decide +kernel
theorem dX6_askNow_52 : decode cX6_askNow 52 = .ok (.if_icmp .ge 8, 3) := by decide +kernel
theorem dX6_askNow_55 : decode cX6_askNow 55 = .ok (.iload 5, 2) := by decide +kernel
theorem dX6_askNow_57 : decode cX6_askNow 57 = .ok (.goto 4, 3) := by decide +kernel
theorem dX6_askNow_60 : decode cX6_askNow 60 = .ok (.iload_n 3, 1) := by decide +kernel
theorem dX6_askNow_61 : decode cX6_askNow 61 = .ok (.istore_n 3, 1) := by decide +kernel
theorem dX6_askNow_62 : decode cX6_askNow 62 = .ok (.iload 6, 2) := by decide +kernel
theorem dX6_askNow_64 : decode cX6_askNow 64 = .ok (.iload 4, 2) := by decide +kernel
theorem dX6_askNow_66 : decode cX6_askNow 66 = .ok (.if_icmp .ge 8, 3) := by decide +kernel
theorem dX6_askNow_69 : decode cX6_askNow 69 = .ok (.iload 6, 2) := by decide +kernel
theorem dX6_askNow_71 : decode cX6_askNow 71 = .ok (.goto 5, 3) := by decide +kernel
theorem dX6_askNow_74 : decode cX6_askNow 74 = .ok (.iload 4, 2) := by decide +kernel
theorem dX6_askNow_76 : decode cX6_askNow 76 = .ok (.istore 4, 2) := by decide +kernel
theorem dX6_askNow_78 : decode cX6_askNow 78 = .ok (.iinc 5 1, 3) := by decide +kernel
theorem dX6_askNow_81 : decode cX6_askNow 81 = .ok (.goto (-56), 3) := by decide +kernel
theorem dX6_askNow_84 : decode cX6_askNow 84 = .ok (.iload_n 3, 1) := by decide +kernel
theorem dX6_askNow_85 : decode cX6_askNow 85 = .ok (.ireturn, 1) := by decide +kernel
set_option maxRecDepth 20000 in
theorem ggX6_ask_X6_isHour : GoodIn wsX6_ask wsX6_isHour := goodIn_r _ [5, 6, 7, 4, 8] (by decide +kernel) (by decide +kernel)
set_option maxRecDepth 20000 in
theorem gX6_ask_X6_isHour : GoodIn wsX6_ask (va_wsS RX6 141 yX6_isHour wsX6_isHour) := goodIn_app (goodIn_of _ (by decide +kernel)) ggX6_ask_X6_isHour
set_option maxRecDepth 20000 in
theorem ggX6_ask_X6_askNow : GoodIn wsX6_ask wsX6_askNow := goodIn_r _ [12, 13, 14, 1, 15, 16, 17, 4, 18, 19, 20, 21, 22, 23, 24, 25, 26, 27, 28, 29, 30, 31, 32, 33, 34, 35, 36, 37, 38, 39, 40, 41, 42, 43, 44, 45, 46, 47, 48, 49, 50, 51, 52, 53, 54, 55, 56, 57, 58, 59, 60, 61, 62, 63, 64, 65, 66, 67, 68, 69, 70, 71, 72, 73, 74, 75, 76, 77, 78, 79, 80, 81, 82, 83, 84, 85, 86, 87, 88, 89, 90, 91, 92, 93, 94, 95, 96] (by decide +kernel) (by decide +kernel)
set_option maxRecDepth 20000 in
theorem gX6_ask_X6_askNow : GoodIn wsX6_ask (wsV RX6 181 RX6 yX6_askNow wsX6_askNow) := goodIn_app (goodIn_of _ (by decide +kernel)) ggX6_ask_X6_askNow
theorem dX6_ask_0 : decode cX6_ask 0 = .ok (.iload_n 1, 1) := by decide +kernel
theorem dX6_ask_1 : decode cX6_ask 1 = .ok (.invokestatic 141, 3) := by decide +kernel
theorem dX6_ask_4 : decode cX6_ask 4 = .ok (.ifCond .ne 6, 3) := by decide +kernel
theorem dX6_ask_7 : decode cX6_ask 7 = .ok (.bipush (-102), 2) := by decide +kernel
theorem dX6_ask_9 : decode cX6_ask 9 = .ok (.ireturn, 1) := by decide +kernel
theorem dX6_ask_10 : decode cX6_ask 10 = .ok (.aload_n 0, 1) := by decide +kernel
theorem dX6_ask_11 : decode cX6_ask 11 = .ok (.getfield 94, 3) := by decide +kernel
theorem dX6_ask_14 : decode cX6_ask 14 = .ok (.ifCond .ne 8, 3) := by decide +kernel
theorem dX6_ask_17 : decode cX6_ask 17 = .ok (.bipush (-103), 2) := by decide +kernel
theorem dX6_ask_19 : decode cX6_ask 19 = .ok (.goto 8, 3) := by decide +kernel
theorem dX6_ask_22 : decode cX6_ask 22 = .ok (.aload_n 0, 1) := by decide +kernel
theorem dX6_ask_23 : decode cX6_ask 23 = .ok (.iload_n 1, 1) := by decide +kernel
theorem dX6_ask_24 : decode cX6_ask 24 = .ok (.invokevirtual 181, 3) := by decide +kernel
theorem dX6_ask_27 : decode cX6_ask 27 = .ok (.ireturn, 1) := by decide +kernel
theorem dX6_draw_0 : decode cX6_draw 0 = .ok (.aload_n 0, 1) := by decide +kernel
theorem dX6_draw_1 : decode cX6_draw 1 = .ok (.ldc2_w 184, 3) := by decide +kernel
theorem dX6_draw_4 : decode cX6_draw 4 = .ok (.aload_n 0, 1) := by decide +kernel
theorem dX6_draw_5 : decode cX6_draw 5 = .ok (.getfield 186, 3) := by decide +kernel
theorem dX6_draw_8 : decode cX6_draw 8 = .ok (.lmul, 1) := by decide +kernel
theorem dX6_draw_9 : decode cX6_draw 9 = .ok (.ldc2_w 190, 3) := by decide +kernel
theorem dX6_draw_12 : decode cX6_draw 12 = .ok (.ladd, 1) := by decide +kernel
theorem dX6_draw_13 : decode cX6_draw 13 = .ok (.ldc2_w 192, 3) := by decide +kernel
theorem dX6_draw_16 : decode cX6_draw 16 = .ok (.land, 1) := by decide +kernel
theorem dX6_draw_17 : decode cX6_draw 17 = .ok (.putfield 186, 3) := by decide +kernel
theorem dX6_draw_20 : decode cX6_draw 20 = .ok (.aload_n 0, 1) := by decide +kernel
theorem dX6_draw_21 : decode cX6_draw 21 = .ok (.getfield 186, 3) := by decide +kernel
theorem dX6_draw_24 : decode cX6_draw 24 = .ok (.ldc2_w 194, 3) := by decide +kernel
theorem dX6_draw_27 : decode cX6_draw 27 = .ok (.ldiv, 1) := by decide +kernel
theorem dX6_draw_28 : decode cX6_draw 28 = .ok (.iload_n 1, 1) := by decide +kernel
theorem dX6_draw_29 : decode cX6_draw 29 = .ok (.i2l, 1) := by decide +kernel
theorem dX6_draw_30 : decode cX6_draw 30 = .ok (.lrem, 1) := by decide +kernel
theorem dX6_draw_31 : decode cX6_draw 31 = .ok (.l2i, 1) := by decide +kernel
theorem dX6_draw_32 : decode cX6_draw 32 = .ok (.ireturn, 1) := by decide +kernel
set_option maxRecDepth 20000 in
theorem ggX6_weeksNow_X6_draw : GoodIn wsX6_weeksNow wsX6_draw := goodIn_r _ [9, 10, 3, 11, 12, 13, 46, 47, 48, 49, 50, 51, 52, 53, 54, 55, 56, 57, 58, 59, 60, 61, 62, 63, 64, 65, 66, 67, 68, 69, 70, 71, 72, 73, 74, 75, 76, 77, 78, 79] (by decide +kernel) (by decide +kernel)
set_option maxRecDepth 20000 in
theorem gX6_weeksNow_X6_draw : GoodIn wsX6_weeksNow (wsV RX6 196 RX6 yX6_draw wsX6_draw) := goodIn_app (goodIn_of _ (by decide +kernel)) ggX6_weeksNow_X6_draw
set_option maxRecDepth 20000 in
theorem ggX6_weeksNow_X6_hoursAll : GoodIn wsX6_weeksNow wsX6_hoursAll := goodIn_r _ [17, 18, 19, 20, 21, 8, 22, 23, 24, 25, 26, 27, 28, 29, 30, 31, 32, 33, 34, 35, 36, 4, 37, 2, 38, 39, 40, 41, 42, 43, 44, 45, 46, 47, 48, 49, 50, 51, 52, 53, 54, 55, 56, 57, 58, 59, 60, 61, 62, 63, 64, 65, 66, 67, 68, 69, 70, 71, 72, 73, 74, 75, 76, 77, 78, 79] (by decide +kernel) (by decide +kernel)
set_option maxRecDepth 20000 in
theorem gX6_weeksNow_X6_hoursAll : GoodIn wsX6_weeksNow (wsV RX6 164 RX6 yX6_hoursAll wsX6_hoursAll) := goodIn_app (goodIn_of _ (by decide +kernel)) ggX6_weeksNow_X6_hoursAll
set_option maxRecDepth 20000 in
theorem ggX6_weeksNow_X6_tideAt : GoodIn wsX6_weeksNow wsX6_tideAt := goodIn_r _ [36, 4, 37, 2, 38, 46, 47, 48, 49, 50, 51, 52, 53, 54, 55, 56, 57, 58, 59, 60, 61, 62, 63, 64, 65, 66, 67, 68, 69, 70, 71, 72, 73, 74, 75, 76, 77, 78, 79] (by decide +kernel) (by decide +kernel)
set_option maxRecDepth 20000 in
theorem gX6_weeksNow_X6_tideAt : GoodIn wsX6_weeksNow (wsV RX6 112 RX6 yX6_tideAt wsX6_tideAt) := goodIn_app (goodIn_of _ (by decide +kernel)) ggX6_weeksNow_X6_tideAt
theorem dX6_weeksNow_0 : decode cX6_weeksNow 0 = .ok (.iconst 0, 1) := by decide +kernel
theorem dX6_weeksNow_1 : decode cX6_weeksNow 1 = .ok (.istore 4, 2) := by decide +kernel
theorem dX6_weeksNow_3 : decode cX6_weeksNow 3 = .ok (.iload 4, 2) := by decide +kernel
theorem dX6_weeksNow_5 : decode cX6_weeksNow 5 = .ok (.bipush 7, 2) := by decide +kernel
theorem dX6_weeksNow_7 : decode cX6_weeksNow 7 = .ok (.if_icmp .ge 23, 3) := by decide +kernel
theorem dX6_weeksNow_10 : decode cX6_weeksNow 10 = .ok (.aload_n 0, 1) := by decide +kernel
theorem dX6_weeksNow_11 : decode cX6_weeksNow 11 = .ok (.getfield 38, 3) := by decide +kernel
theorem dX6_weeksNow_14 : decode cX6_weeksNow 14 = .ok (.iload 4, 2) := by decide +kernel
theorem dX6_weeksNow_16 : decode cX6_weeksNow 16 = .ok (.aload_n 0, 1) := by decide +kernel
theorem dX6_weeksNow_17 : decode cX6_weeksNow 17 = .ok (.getfield 16, 3) := by decide +kernel
theorem dX6_weeksNow_20 : decode cX6_weeksNow 20 = .ok (.iload 4, 2) := by decide +kernel
theorem dX6_weeksNow_22 : decode cX6_weeksNow 22 = .ok (.iaload, 1) := by decide +kernel
theorem dX6_weeksNow_23 : decode cX6_weeksNow 23 = .ok (.iastore, 1) := by decide +kernel
theorem dX6_weeksNow_24 : decode cX6_weeksNow 24 = .ok (.iinc 4 1, 3) := by decide +kernel
theorem dX6_weeksNow_27 : decode cX6_weeksNow 27 = .ok (.goto (-24), 3) := by decide +kernel
theorem dX6_weeksNow_30 : decode cX6_weeksNow 30 = .ok (.aload_n 0, 1) := by decide +kernel
theorem dX6_weeksNow_31 : decode cX6_weeksNow 31 = .ok (.iload_n 2, 1) := by decide +kernel
theorem dX6_weeksNow_32 : decode cX6_weeksNow 32 = .ok (.i2l, 1) := by decide +kernel
theorem dX6_weeksNow_33 : decode cX6_weeksNow 33 = .ok (.putfield 186, 3) := by decide +kernel
theorem dX6_weeksNow_36 : decode cX6_weeksNow 36 = .ok (.iconst 0, 1) := by decide +kernel
theorem dX6_weeksNow_37 : decode cX6_weeksNow 37 = .ok (.istore 4, 2) := by decide +kernel
theorem dX6_weeksNow_39 : decode cX6_weeksNow 39 = .ok (.iconst 0, 1) := by decide +kernel
theorem dX6_weeksNow_40 : decode cX6_weeksNow 40 = .ok (.istore 5, 2) := by decide +kernel
theorem dX6_weeksNow_42 : decode cX6_weeksNow 42 = .ok (.iconst 0, 1) := by decide +kernel
theorem dX6_weeksNow_43 : decode cX6_weeksNow 43 = .ok (.istore 6, 2) := by decide +kernel
theorem dX6_weeksNow_45 : decode cX6_weeksNow 45 = .ok (.iload 6, 2) := by decide +kernel
theorem dX6_weeksNow_47 : decode cX6_weeksNow 47 = .ok (.iload_n 1, 1) := by decide +kernel
theorem dX6_weeksNow_48 : decode cX6_weeksNow 48 = .ok (.if_icmp .ge 61, 3) := by decide +kernel
theorem dX6_weeksNow_51 : decode cX6_weeksNow 51 = .ok (.iconst 0, 1) := by decide +kernel
theorem dX6_weeksNow_52 : decode cX6_weeksNow 52 = .ok (.istore 7, 2) := by decide +kernel
theorem dX6_weeksNow_54 : decode cX6_weeksNow 54 = .ok (.iload 7, 2) := by decide +kernel
theorem dX6_weeksNow_56 : decode cX6_weeksNow 56 = .ok (.aload_n 0, 1) := by decide +kernel
theorem dX6_weeksNow_57 : decode cX6_weeksNow 57 = .ok (.getfield 97, 3) := by decide +kernel
theorem dX6_weeksNow_60 : decode cX6_weeksNow 60 = .ok (.if_icmp .ge 22, 3) := by decide +kernel
theorem dX6_weeksNow_63 : decode cX6_weeksNow 63 = .ok (.aload_n 0, 1) := by decide +kernel
theorem dX6_weeksNow_64 : decode cX6_weeksNow 64 = .ok (.getfield 16, 3) := by decide +kernel
theorem dX6_weeksNow_67 : decode cX6_weeksNow 67 = .ok (.iload 7, 2) := by decide +kernel
theorem dX6_weeksNow_69 : decode cX6_weeksNow 69 = .ok (.aload_n 0, 1) := by decide +kernel
theorem dX6_weeksNow_70 : decode cX6_weeksNow 70 = .ok (.bipush 10, 2) := by decide +kernel
theorem dX6_weeksNow_72 : decode cX6_weeksNow 72 = .ok (.invokevirtual 196, 3) := by decide +kernel
theorem dX6_weeksNow_75 : decode cX6_weeksNow 75 = .ok (.iastore, 1) := by decide +kernel
theorem dX6_weeksNow_76 : decode cX6_weeksNow 76 = .ok (.iinc 7 1, 3) := by decide +kernel
theorem dX6_weeksNow_79 : decode cX6_weeksNow 79 = .ok (.goto (-25), 3) := by decide +kernel
theorem dX6_weeksNow_82 : decode cX6_weeksNow 82 = .ok (.iload 4, 2) := by decide +kernel
theorem dX6_weeksNow_84 : decode cX6_weeksNow 84 = .ok (.aload_n 0, 1) := by decide +kernel
theorem dX6_weeksNow_85 : decode cX6_weeksNow 85 = .ok (.iconst 0, 1) := by decide +kernel
theorem dX6_weeksNow_86 : decode cX6_weeksNow 86 = .ok (.invokevirtual 164, 3) := by decide +kernel
theorem dX6_weeksNow_89 : decode cX6_weeksNow 89 = .ok (.iadd, 1) := by decide +kernel
theorem dX6_weeksNow_90 : decode cX6_weeksNow 90 = .ok (.istore 4, 2) := by decide +kernel
theorem dX6_weeksNow_92 : decode cX6_weeksNow 92 = .ok (.iload 5, 2) := by decide +kernel
theorem dX6_weeksNow_94 : decode cX6_weeksNow 94 = .ok (.aload_n 0, 1) := by decide +kernel
theorem dX6_weeksNow_95 : decode cX6_weeksNow 95 = .ok (.bipush 11, 2) := by decide +kernel
theorem dX6_weeksNow_97 : decode cX6_weeksNow 97 = .ok (.invokevirtual 112, 3) := by decide +kernel
theorem dX6_weeksNow_100 : decode cX6_weeksNow 100 = .ok (.iadd, 1) := by decide +kernel
theorem dX6_weeksNow_101 : decode cX6_weeksNow 101 = .ok (.istore 5, 2) := by decide +kernel
theorem dX6_weeksNow_103 : decode cX6_weeksNow 103 = .ok (.iinc 6 1, 3) := by decide +kernel
theorem dX6_weeksNow_106 : decode cX6_weeksNow 106 = .ok (.goto (-61), 3) := by decide +kernel
theorem dX6_weeksNow_109 : decode cX6_weeksNow 109 = .ok (.iconst 0, 1) := by decide +kernel
theorem dX6_weeksNow_110 : decode cX6_weeksNow 110 = .ok (.istore 6, 2) := by decide +kernel
theorem dX6_weeksNow_112 : decode cX6_weeksNow 112 = .ok (.iload 6, 2) := by decide +kernel
theorem dX6_weeksNow_114 : decode cX6_weeksNow 114 = .ok (.bipush 7, 2) := by decide +kernel
theorem dX6_weeksNow_116 : decode cX6_weeksNow 116 = .ok (.if_icmp .ge 23, 3) := by decide +kernel
theorem dX6_weeksNow_119 : decode cX6_weeksNow 119 = .ok (.aload_n 0, 1) := by decide +kernel
theorem dX6_weeksNow_120 : decode cX6_weeksNow 120 = .ok (.getfield 16, 3) := by decide +kernel
theorem dX6_weeksNow_123 : decode cX6_weeksNow 123 = .ok (.iload 6, 2) := by decide +kernel
theorem dX6_weeksNow_125 : decode cX6_weeksNow 125 = .ok (.aload_n 0, 1) := by decide +kernel
theorem dX6_weeksNow_126 : decode cX6_weeksNow 126 = .ok (.getfield 38, 3) := by decide +kernel
theorem dX6_weeksNow_129 : decode cX6_weeksNow 129 = .ok (.iload 6, 2) := by decide +kernel
theorem dX6_weeksNow_131 : decode cX6_weeksNow 131 = .ok (.iaload, 1) := by decide +kernel
theorem dX6_weeksNow_132 : decode cX6_weeksNow 132 = .ok (.iastore, 1) := by decide +kernel
theorem dX6_weeksNow_133 : decode cX6_weeksNow 133 = .ok (.iinc 6 1, 3) := by decide +kernel
theorem dX6_weeksNow_136 : decode cX6_weeksNow 136 = .ok (.goto (-24), 3) := by decide +kernel
theorem dX6_weeksNow_139 : decode cX6_weeksNow 139 = .ok (.iload_n 3, 1) := by decide +kernel
theorem dX6_weeksNow_140 : decode cX6_weeksNow 140 = .ok (.ifCond .ne 8, 3) := by decide +kernel
theorem dX6_weeksNow_143 : decode cX6_weeksNow 143 = .ok (.iload 4, 2) := by decide +kernel
theorem dX6_weeksNow_145 : decode cX6_weeksNow 145 = .ok (.goto 18, 3) := by decide +kernel
theorem dX6_weeksNow_148 : decode cX6_weeksNow 148 = .ok (.iload_n 3, 1) := by decide +kernel
theorem dX6_weeksNow_149 : decode cX6_weeksNow 149 = .ok (.iconst 1, 1) := by decide +kernel
theorem dX6_weeksNow_150 : decode cX6_weeksNow 150 = .ok (.if_icmp .ne 8, 3) := by decide +kernel
theorem dX6_weeksNow_153 : decode cX6_weeksNow 153 = .ok (.iload 5, 2) := by decide +kernel
theorem dX6_weeksNow_155 : decode cX6_weeksNow 155 = .ok (.goto 8, 3) := by decide +kernel
theorem dX6_weeksNow_158 : decode cX6_weeksNow 158 = .ok (.aload_n 0, 1) := by decide +kernel
theorem dX6_weeksNow_159 : decode cX6_weeksNow 159 = .ok (.getfield 186, 3) := by decide +kernel
theorem dX6_weeksNow_162 : decode cX6_weeksNow 162 = .ok (.l2i, 1) := by decide +kernel
theorem dX6_weeksNow_163 : decode cX6_weeksNow 163 = .ok (.ireturn, 1) := by decide +kernel
set_option maxRecDepth 20000 in
theorem ggX6_weeks_X6_within : GoodIn wsX6_weeks wsX6_within := goodIn_r _ [5] (by decide +kernel) (by decide +kernel)
set_option maxRecDepth 20000 in
theorem gX6_weeks_X6_within : GoodIn wsX6_weeks (va_wsS RX6 62 yX6_within wsX6_within) := goodIn_app (goodIn_of _ (by decide +kernel)) ggX6_weeks_X6_within
set_option maxRecDepth 20000 in
theorem ggX6_weeks_X6_weeksNow : GoodIn wsX6_weeks wsX6_weeksNow := goodIn_r _ [9, 10, 11, 12, 13, 14, 15, 16, 4, 17, 18, 19, 20, 21, 22, 23, 24, 25, 1, 26, 27, 28, 29, 30, 31, 32, 33, 34, 35, 36, 37, 38, 39, 40, 41, 42, 43, 44, 45, 46, 47, 48, 49, 50, 51, 52, 53, 54, 55, 56, 57, 58, 59, 60, 61, 62, 63, 64, 65, 66, 67, 68, 69, 70, 71, 72, 73, 74, 75, 76, 77, 78, 79, 80, 81, 82, 83, 84, 85, 86] (by decide +kernel) (by decide +kernel)
set_option maxRecDepth 20000 in
theorem gX6_weeks_X6_weeksNow : GoodIn wsX6_weeks (wsV RX6 199 RX6 yX6_weeksNow wsX6_weeksNow) := goodIn_app (goodIn_of _ (by decide +kernel)) ggX6_weeks_X6_weeksNow
theorem dX6_weeks_0 : decode cX6_weeks 0 = .ok (.iload_n 1, 1) := by decide +kernel
theorem dX6_weeks_1 : decode cX6_weeks 1 = .ok (.iconst 1, 1) := by decide +kernel
theorem dX6_weeks_2 : decode cX6_weeks 2 = .ok (.bipush 30, 2) := by decide +kernel
theorem dX6_weeks_4 : decode cX6_weeks 4 = .ok (.invokestatic 62, 3) := by decide +kernel
theorem dX6_weeks_7 : decode cX6_weeks 7 = .ok (.ifCond .eq 16, 3) := by decide +kernel
theorem dX6_weeks_10 : decode cX6_weeks 10 = .ok (.iload_n 2, 1) := by decide +kernel
theorem dX6_weeks_11 : decode cX6_weeks 11 = .ok (.ifCond .lt 12, 3) := by decide +kernel
theorem dX6_weeks_14 : decode cX6_weeks 14 = .ok (.iload_n 3, 1) := by decide +kernel
theorem dX6_weeks_15 : decode cX6_weeks 15 = .ok (.iconst 0, 1) := by decide +kernel
theorem dX6_weeks_16 : decode cX6_weeks 16 = .ok (.iconst 2, 1) := by decide +kernel
theorem dX6_weeks_17 : decode cX6_weeks 17 = .ok (.invokestatic 62, 3) := by decide +kernel
theorem dX6_weeks_20 : decode cX6_weeks 20 = .ok (.ifCond .ne 6, 3) := by decide +kernel
theorem dX6_weeks_23 : decode cX6_weeks 23 = .ok (.bipush (-102), 2) := by decide +kernel
theorem dX6_weeks_25 : decode cX6_weeks 25 = .ok (.ireturn, 1) := by decide +kernel
theorem dX6_weeks_26 : decode cX6_weeks 26 = .ok (.aload_n 0, 1) := by decide +kernel
theorem dX6_weeks_27 : decode cX6_weeks 27 = .ok (.getfield 94, 3) := by decide +kernel
theorem dX6_weeks_30 : decode cX6_weeks 30 = .ok (.ifCond .ne 8, 3) := by decide +kernel
theorem dX6_weeks_33 : decode cX6_weeks 33 = .ok (.bipush (-103), 2) := by decide +kernel
theorem dX6_weeks_35 : decode cX6_weeks 35 = .ok (.goto 10, 3) := by decide +kernel
theorem dX6_weeks_38 : decode cX6_weeks 38 = .ok (.aload_n 0, 1) := by decide +kernel
theorem dX6_weeks_39 : decode cX6_weeks 39 = .ok (.iload_n 1, 1) := by decide +kernel
theorem dX6_weeks_40 : decode cX6_weeks 40 = .ok (.iload_n 2, 1) := by decide +kernel
theorem dX6_weeks_41 : decode cX6_weeks 41 = .ok (.iload_n 3, 1) := by decide +kernel
theorem dX6_weeks_42 : decode cX6_weeks 42 = .ok (.invokevirtual 199, 3) := by decide +kernel
theorem dX6_weeks_45 : decode cX6_weeks 45 = .ok (.ireturn, 1) := by decide +kernel
theorem dX6_image_0 : decode cX6_image 0 = .ok (.aload_n 0, 1) := by decide +kernel
theorem dX6_image_1 : decode cX6_image 1 = .ok (.getfield 94, 3) := by decide +kernel
theorem dX6_image_4 : decode cX6_image 4 = .ok (.ifCond .ne 6, 3) := by decide +kernel
theorem dX6_image_7 : decode cX6_image 7 = .ok (.bipush (-103), 2) := by decide +kernel
theorem dX6_image_9 : decode cX6_image 9 = .ok (.ireturn, 1) := by decide +kernel
theorem dX6_image_10 : decode cX6_image 10 = .ok (.aload_n 0, 1) := by decide +kernel
theorem dX6_image_11 : decode cX6_image 11 = .ok (.iconst 1, 1) := by decide +kernel
theorem dX6_image_12 : decode cX6_image 12 = .ok (.putfield 202, 3) := by decide +kernel
theorem dX6_image_15 : decode cX6_image 15 = .ok (.aload_n 0, 1) := by decide +kernel
theorem dX6_image_16 : decode cX6_image 16 = .ok (.aload_n 0, 1) := by decide +kernel
theorem dX6_image_17 : decode cX6_image 17 = .ok (.getfield 100, 3) := by decide +kernel
theorem dX6_image_20 : decode cX6_image 20 = .ok (.putfield 205, 3) := by decide +kernel
theorem dX6_image_23 : decode cX6_image 23 = .ok (.aload_n 0, 1) := by decide +kernel
theorem dX6_image_24 : decode cX6_image 24 = .ok (.aload_n 0, 1) := by decide +kernel
theorem dX6_image_25 : decode cX6_image 25 = .ok (.getfield 97, 3) := by decide +kernel
theorem dX6_image_28 : decode cX6_image 28 = .ok (.putfield 208, 3) := by decide +kernel
theorem dX6_image_31 : decode cX6_image 31 = .ok (.aload_n 0, 1) := by decide +kernel
theorem dX6_image_32 : decode cX6_image 32 = .ok (.aload_n 0, 1) := by decide +kernel
theorem dX6_image_33 : decode cX6_image 33 = .ok (.getfield 103, 3) := by decide +kernel
theorem dX6_image_36 : decode cX6_image 36 = .ok (.putfield 211, 3) := by decide +kernel
theorem dX6_image_39 : decode cX6_image 39 = .ok (.aload_n 0, 1) := by decide +kernel
theorem dX6_image_40 : decode cX6_image 40 = .ok (.aload_n 0, 1) := by decide +kernel
theorem dX6_image_41 : decode cX6_image 41 = .ok (.getfield 106, 3) := by decide +kernel
theorem dX6_image_44 : decode cX6_image 44 = .ok (.putfield 214, 3) := by decide +kernel
theorem dX6_image_47 : decode cX6_image 47 = .ok (.iconst 0, 1) := by decide +kernel
theorem dX6_image_48 : decode cX6_image 48 = .ok (.istore_n 1, 1) := by decide +kernel
theorem dX6_image_49 : decode cX6_image 49 = .ok (.iload_n 1, 1) := by decide +kernel
theorem dX6_image_50 : decode cX6_image 50 = .ok (.iconst 5, 1) := by decide +kernel
theorem dX6_image_51 : decode cX6_image 51 = .ok (.if_icmp .ge 21, 3) := by decide +kernel
theorem dX6_image_54 : decode cX6_image 54 = .ok (.aload_n 0, 1) := by decide +kernel
theorem dX6_image_55 : decode cX6_image 55 = .ok (.getfield 41, 3) := by decide +kernel
theorem dX6_image_58 : decode cX6_image 58 = .ok (.iload_n 1, 1) := by decide +kernel
theorem dX6_image_59 : decode cX6_image 59 = .ok (.aload_n 0, 1) := by decide +kernel
theorem dX6_image_60 : decode cX6_image 60 = .ok (.getfield 13, 3) := by decide +kernel
theorem dX6_image_63 : decode cX6_image 63 = .ok (.iload_n 1, 1) := by decide +kernel
theorem dX6_image_64 : decode cX6_image 64 = .ok (.iaload, 1) := by decide +kernel
theorem dX6_image_65 : decode cX6_image 65 = .ok (.iastore, 1) := by decide +kernel
theorem dX6_image_66 : decode cX6_image 66 = .ok (.iinc 1 1, 3) := by decide +kernel
theorem dX6_image_69 : decode cX6_image 69 = .ok (.goto (-20), 3) := by decide +kernel
theorem dX6_image_72 : decode cX6_image 72 = .ok (.iconst 0, 1) := by decide +kernel
theorem dX6_image_73 : decode cX6_image 73 = .ok (.istore_n 1, 1) := by decide +kernel
theorem dX6_image_74 : decode cX6_image 74 = .ok (.iload_n 1, 1) := by decide +kernel
theorem dX6_image_75 : decode cX6_image 75 = .ok (.bipush 6, 2) := by decide +kernel
theorem dX6_image_77 : decode cX6_image 77 = .ok (.if_icmp .ge 81, 3) := by decide +kernel
theorem dX6_image_80 : decode cX6_image 80 = .ok (.aload_n 0, 1) := by decide +kernel
theorem dX6_image_81 : decode cX6_image 81 = .ok (.getfield 44, 3) := by decide +kernel
theorem dX6_image_84 : decode cX6_image 84 = .ok (.iload_n 1, 1) := by decide +kernel
theorem dX6_image_85 : decode cX6_image 85 = .ok (.aload_n 0, 1) := by decide +kernel
theorem dX6_image_86 : decode cX6_image 86 = .ok (.getfield 16, 3) := by decide +kernel
theorem dX6_image_89 : decode cX6_image 89 = .ok (.iload_n 1, 1) := by decide +kernel
theorem dX6_image_90 : decode cX6_image 90 = .ok (.iaload, 1) := by decide +kernel
theorem dX6_image_91 : decode cX6_image 91 = .ok (.iastore, 1) := by decide +kernel
theorem dX6_image_92 : decode cX6_image 92 = .ok (.aload_n 0, 1) := by decide +kernel
theorem dX6_image_93 : decode cX6_image 93 = .ok (.getfield 47, 3) := by decide +kernel
theorem dX6_image_96 : decode cX6_image 96 = .ok (.iload_n 1, 1) := by decide +kernel
theorem dX6_image_97 : decode cX6_image 97 = .ok (.aload_n 0, 1) := by decide +kernel
theorem dX6_image_98 : decode cX6_image 98 = .ok (.getfield 19, 3) := by decide +kernel
theorem dX6_image_101 : decode cX6_image 101 = .ok (.iload_n 1, 1) := by decide +kernel
theorem dX6_image_102 : decode cX6_image 102 = .ok (.iaload, 1) := by decide +kernel
theorem dX6_image_103 : decode cX6_image 103 = .ok (.iastore, 1) := by decide +kernel
theorem dX6_image_104 : decode cX6_image 104 = .ok (.aload_n 0, 1) := by decide +kernel
theorem dX6_image_105 : decode cX6_image 105 = .ok (.getfield 50, 3) := by decide +kernel
theorem dX6_image_108 : decode cX6_image 108 = .ok (.iload_n 1, 1) := by decide +kernel
theorem dX6_image_109 : decode cX6_image 109 = .ok (.aload_n 0, 1) := by decide +kernel
theorem dX6_image_110 : decode cX6_image 110 = .ok (.getfield 22, 3) := by decide +kernel
theorem dX6_image_113 : decode cX6_image 113 = .ok (.iload_n 1, 1) := by decide +kernel
theorem dX6_image_114 : decode cX6_image 114 = .ok (.iaload, 1) := by decide +kernel
theorem dX6_image_115 : decode cX6_image 115 = .ok (.iastore, 1) := by decide +kernel
theorem dX6_image_116 : decode cX6_image 116 = .ok (.aload_n 0, 1) := by decide +kernel
theorem dX6_image_117 : decode cX6_image 117 = .ok (.getfield 53, 3) := by decide +kernel
theorem dX6_image_120 : decode cX6_image 120 = .ok (.iload_n 1, 1) := by decide +kernel
theorem dX6_image_121 : decode cX6_image 121 = .ok (.aload_n 0, 1) := by decide +kernel
theorem dX6_image_122 : decode cX6_image 122 = .ok (.getfield 25, 3) := by decide +kernel
theorem dX6_image_125 : decode cX6_image 125 = .ok (.iload_n 1, 1) := by decide +kernel
theorem dX6_image_126 : decode cX6_image 126 = .ok (.iaload, 1) := by decide +kernel
theorem dX6_image_127 : decode cX6_image 127 = .ok (.iastore, 1) := by decide +kernel
theorem dX6_image_128 : decode cX6_image 128 = .ok (.aload_n 0, 1) := by decide +kernel
theorem dX6_image_129 : decode cX6_image 129 = .ok (.getfield 56, 3) := by decide +kernel
theorem dX6_image_132 : decode cX6_image 132 = .ok (.iload_n 1, 1) := by decide +kernel
theorem dX6_image_133 : decode cX6_image 133 = .ok (.aload_n 0, 1) := by decide +kernel
theorem dX6_image_134 : decode cX6_image 134 = .ok (.getfield 28, 3) := by decide +kernel
theorem dX6_image_137 : decode cX6_image 137 = .ok (.iload_n 1, 1) := by decide +kernel
theorem dX6_image_138 : decode cX6_image 138 = .ok (.iaload, 1) := by decide +kernel
theorem dX6_image_139 : decode cX6_image 139 = .ok (.iastore, 1) := by decide +kernel
theorem dX6_image_140 : decode cX6_image 140 = .ok (.aload_n 0, 1) := by decide +kernel
theorem dX6_image_141 : decode cX6_image 141 = .ok (.getfield 59, 3) := by decide +kernel
theorem dX6_image_144 : decode cX6_image 144 = .ok (.iload_n 1, 1) := by decide +kernel
theorem dX6_image_145 : decode cX6_image 145 = .ok (.aload_n 0, 1) := by decide +kernel
theorem dX6_image_146 : decode cX6_image 146 = .ok (.getfield 31, 3) := by decide +kernel
theorem dX6_image_149 : decode cX6_image 149 = .ok (.iload_n 1, 1) := by decide +kernel
theorem dX6_image_150 : decode cX6_image 150 = .ok (.iaload, 1) := by decide +kernel
theorem dX6_image_151 : decode cX6_image 151 = .ok (.iastore, 1) := by decide +kernel
theorem dX6_image_152 : decode cX6_image 152 = .ok (.iinc 1 1, 3) := by decide +kernel
theorem dX6_image_155 : decode cX6_image 155 = .ok (.goto (-81), 3) := by decide +kernel
theorem dX6_image_158 : decode cX6_image 158 = .ok (.aload_n 0, 1) := by decide +kernel
theorem dX6_image_159 : decode cX6_image 159 = .ok (.getfield 103, 3) := by decide +kernel
theorem dX6_image_162 : decode cX6_image 162 = .ok (.ireturn, 1) := by decide +kernel
theorem dX6_restore_0 : decode cX6_restore 0 = .ok (.aload_n 0, 1) := by decide +kernel
theorem dX6_restore_1 : decode cX6_restore 1 = .ok (.getfield 202, 3) := by decide +kernel
theorem dX6_restore_4 : decode cX6_restore 4 = .ok (.ifCond .eq 14, 3) := by decide +kernel
theorem dX6_restore_7 : decode cX6_restore 7 = .ok (.aload_n 0, 1) := by decide +kernel
theorem dX6_restore_8 : decode cX6_restore 8 = .ok (.getfield 205, 3) := by decide +kernel
theorem dX6_restore_11 : decode cX6_restore 11 = .ok (.aload_n 0, 1) := by decide +kernel
theorem dX6_restore_12 : decode cX6_restore 12 = .ok (.getfield 100, 3) := by decide +kernel
theorem dX6_restore_15 : decode cX6_restore 15 = .ok (.if_icmp .eq 6, 3) := by decide +kernel
theorem dX6_restore_18 : decode cX6_restore 18 = .ok (.bipush (-103), 2) := by decide +kernel
theorem dX6_restore_20 : decode cX6_restore 20 = .ok (.ireturn, 1) := by decide +kernel
theorem dX6_restore_21 : decode cX6_restore 21 = .ok (.aload_n 0, 1) := by decide +kernel
theorem dX6_restore_22 : decode cX6_restore 22 = .ok (.aload_n 0, 1) := by decide +kernel
theorem dX6_restore_23 : decode cX6_restore 23 = .ok (.getfield 208, 3) := by decide +kernel
theorem dX6_restore_26 : decode cX6_restore 26 = .ok (.putfield 97, 3) := by decide +kernel
theorem dX6_restore_29 : decode cX6_restore 29 = .ok (.aload_n 0, 1) := by decide +kernel
theorem dX6_restore_30 : decode cX6_restore 30 = .ok (.aload_n 0, 1) := by decide +kernel
theorem dX6_restore_31 : decode cX6_restore 31 = .ok (.getfield 211, 3) := by decide +kernel
theorem dX6_restore_34 : decode cX6_restore 34 = .ok (.putfield 103, 3) := by decide +kernel
theorem dX6_restore_37 : decode cX6_restore 37 = .ok (.aload_n 0, 1) := by decide +kernel
theorem dX6_restore_38 : decode cX6_restore 38 = .ok (.aload_n 0, 1) := by decide +kernel
theorem dX6_restore_39 : decode cX6_restore 39 = .ok (.getfield 214, 3) := by decide +kernel
theorem dX6_restore_42 : decode cX6_restore 42 = .ok (.putfield 106, 3) := by decide +kernel
theorem dX6_restore_45 : decode cX6_restore 45 = .ok (.iconst 0, 1) := by decide +kernel
theorem dX6_restore_46 : decode cX6_restore 46 = .ok (.istore_n 1, 1) := by decide +kernel
theorem dX6_restore_47 : decode cX6_restore 47 = .ok (.iload_n 1, 1) := by decide +kernel
theorem dX6_restore_48 : decode cX6_restore 48 = .ok (.iconst 5, 1) := by decide +kernel
theorem dX6_restore_49 : decode cX6_restore 49 = .ok (.if_icmp .ge 21, 3) := by decide +kernel
theorem dX6_restore_52 : decode cX6_restore 52 = .ok (.aload_n 0, 1) := by decide +kernel
theorem dX6_restore_53 : decode cX6_restore 53 = .ok (.getfield 13, 3) := by decide +kernel
theorem dX6_restore_56 : decode cX6_restore 56 = .ok (.iload_n 1, 1) := by decide +kernel
theorem dX6_restore_57 : decode cX6_restore 57 = .ok (.aload_n 0, 1) := by decide +kernel
theorem dX6_restore_58 : decode cX6_restore 58 = .ok (.getfield 41, 3) := by decide +kernel
theorem dX6_restore_61 : decode cX6_restore 61 = .ok (.iload_n 1, 1) := by decide +kernel
theorem dX6_restore_62 : decode cX6_restore 62 = .ok (.iaload, 1) := by decide +kernel
theorem dX6_restore_63 : decode cX6_restore 63 = .ok (.iastore, 1) := by decide +kernel
theorem dX6_restore_64 : decode cX6_restore 64 = .ok (.iinc 1 1, 3) := by decide +kernel
theorem dX6_restore_67 : decode cX6_restore 67 = .ok (.goto (-20), 3) := by decide +kernel
theorem dX6_restore_70 : decode cX6_restore 70 = .ok (.iconst 0, 1) := by decide +kernel
theorem dX6_restore_71 : decode cX6_restore 71 = .ok (.istore_n 1, 1) := by decide +kernel
theorem dX6_restore_72 : decode cX6_restore 72 = .ok (.iload_n 1, 1) := by decide +kernel
theorem dX6_restore_73 : decode cX6_restore 73 = .ok (.bipush 6, 2) := by decide +kernel
theorem dX6_restore_75 : decode cX6_restore 75 = .ok (.if_icmp .ge 81, 3) := by decide +kernel
theorem dX6_restore_78 : decode cX6_restore 78 = .ok (.aload_n 0, 1) := by decide +kernel
theorem dX6_restore_79 : decode cX6_restore 79 = .ok (.getfield 16, 3) := by decide +kernel
theorem dX6_restore_82 : decode cX6_restore 82 = .ok (.iload_n 1, 1) := by decide +kernel
theorem dX6_restore_83 : decode cX6_restore 83 = .ok (.aload_n 0, 1) := by decide +kernel
theorem dX6_restore_84 : decode cX6_restore 84 = .ok (.getfield 44, 3) := by decide +kernel
theorem dX6_restore_87 : decode cX6_restore 87 = .ok (.iload_n 1, 1) := by decide +kernel
theorem dX6_restore_88 : decode cX6_restore 88 = .ok (.iaload, 1) := by decide +kernel
theorem dX6_restore_89 : decode cX6_restore 89 = .ok (.iastore, 1) := by decide +kernel
theorem dX6_restore_90 : decode cX6_restore 90 = .ok (.aload_n 0, 1) := by decide +kernel
theorem dX6_restore_91 : decode cX6_restore 91 = .ok (.getfield 19, 3) := by decide +kernel
theorem dX6_restore_94 : decode cX6_restore 94 = .ok (.iload_n 1, 1) := by decide +kernel
theorem dX6_restore_95 : decode cX6_restore 95 = .ok (.aload_n 0, 1) := by decide +kernel
theorem dX6_restore_96 : decode cX6_restore 96 = .ok (.getfield 47, 3) := by decide +kernel
theorem dX6_restore_99 : decode cX6_restore 99 = .ok (.iload_n 1, 1) := by decide +kernel
theorem dX6_restore_100 : decode cX6_restore 100 = .ok (.iaload, 1) := by decide +kernel
theorem dX6_restore_101 : decode cX6_restore 101 = .ok (.iastore, 1) := by decide +kernel
theorem dX6_restore_102 : decode cX6_restore 102 = .ok (.aload_n 0, 1) := by decide +kernel
theorem dX6_restore_103 : decode cX6_restore 103 = .ok (.getfield 22, 3) := by decide +kernel
theorem dX6_restore_106 : decode cX6_restore 106 = .ok (.iload_n 1, 1) := by decide +kernel
theorem dX6_restore_107 : decode cX6_restore 107 = .ok (.aload_n 0, 1) := by decide +kernel
theorem dX6_restore_108 : decode cX6_restore 108 = .ok (.getfield 50, 3) := by decide +kernel
theorem dX6_restore_111 : decode cX6_restore 111 = .ok (.iload_n 1, 1) := by decide +kernel
theorem dX6_restore_112 : decode cX6_restore 112 = .ok (.iaload, 1) := by decide +kernel
theorem dX6_restore_113 : decode cX6_restore 113 = .ok (.iastore, 1) := by decide +kernel
theorem dX6_restore_114 : decode cX6_restore 114 = .ok (.aload_n 0, 1) := by decide +kernel
theorem dX6_restore_115 : decode cX6_restore 115 = .ok (.getfield 25, 3) := by decide +kernel
theorem dX6_restore_118 : decode cX6_restore 118 = .ok (.iload_n 1, 1) := by decide +kernel
theorem dX6_restore_119 : decode cX6_restore 119 = .ok (.aload_n 0, 1) := by decide +kernel
theorem dX6_restore_120 : decode cX6_restore 120 = .ok (.getfield 53, 3) := by decide +kernel
theorem dX6_restore_123 : decode cX6_restore 123 = .ok (.iload_n 1, 1) := by decide +kernel
theorem dX6_restore_124 : decode cX6_restore 124 = .ok (.iaload, 1) := by decide +kernel
theorem dX6_restore_125 : decode cX6_restore 125 = .ok (.iastore, 1) := by decide +kernel
theorem dX6_restore_126 : decode cX6_restore 126 = .ok (.aload_n 0, 1) := by decide +kernel
theorem dX6_restore_127 : decode cX6_restore 127 = .ok (.getfield 28, 3) := by decide +kernel
theorem dX6_restore_130 : decode cX6_restore 130 = .ok (.iload_n 1, 1) := by decide +kernel
theorem dX6_restore_131 : decode cX6_restore 131 = .ok (.aload_n 0, 1) := by decide +kernel
theorem dX6_restore_132 : decode cX6_restore 132 = .ok (.getfield 56, 3) := by decide +kernel
theorem dX6_restore_135 : decode cX6_restore 135 = .ok (.iload_n 1, 1) := by decide +kernel
theorem dX6_restore_136 : decode cX6_restore 136 = .ok (.iaload, 1) := by decide +kernel
theorem dX6_restore_137 : decode cX6_restore 137 = .ok (.iastore, 1) := by decide +kernel
theorem dX6_restore_138 : decode cX6_restore 138 = .ok (.aload_n 0, 1) := by decide +kernel
theorem dX6_restore_139 : decode cX6_restore 139 = .ok (.getfield 31, 3) := by decide +kernel
theorem dX6_restore_142 : decode cX6_restore 142 = .ok (.iload_n 1, 1) := by decide +kernel
theorem dX6_restore_143 : decode cX6_restore 143 = .ok (.aload_n 0, 1) := by decide +kernel
theorem dX6_restore_144 : decode cX6_restore 144 = .ok (.getfield 59, 3) := by decide +kernel
theorem dX6_restore_147 : decode cX6_restore 147 = .ok (.iload_n 1, 1) := by decide +kernel
theorem dX6_restore_148 : decode cX6_restore 148 = .ok (.iaload, 1) := by decide +kernel
theorem dX6_restore_149 : decode cX6_restore 149 = .ok (.iastore, 1) := by decide +kernel
theorem dX6_restore_150 : decode cX6_restore 150 = .ok (.iinc 1 1, 3) := by decide +kernel
theorem dX6_restore_153 : decode cX6_restore 153 = .ok (.goto (-81), 3) := by decide +kernel
theorem dX6_restore_156 : decode cX6_restore 156 = .ok (.aload_n 0, 1) := by decide +kernel
theorem dX6_restore_157 : decode cX6_restore 157 = .ok (.getfield 103, 3) := by decide +kernel
theorem dX6_restore_160 : decode cX6_restore 160 = .ok (.ireturn, 1) := by decide +kernel
set_option maxRecDepth 20000 in
theorem ggX6_highest_X6_tideAt : GoodIn wsX6_highest wsX6_tideAt := goodIn_r _ [6, 7, 8, 9, 10, 11, 12, 13, 14, 15, 16, 17, 18, 19, 20, 21, 22, 23, 24, 25, 26, 27, 28, 29, 30, 31, 32, 33, 34, 35, 36, 37, 38, 39, 40, 41, 42, 43, 44] (by decide +kernel) (by decide +kernel)
set_option maxRecDepth 20000 in
theorem gX6_highest_X6_tideAt : GoodIn wsX6_highest (wsV RX6 112 RX6 yX6_tideAt wsX6_tideAt) := goodIn_app (goodIn_of _ (by decide +kernel)) ggX6_highest_X6_tideAt
theorem dX6_highest_0 : decode cX6_highest 0 = .ok (.iconst 0, 1) := by decide +kernel
theorem dX6_highest_1 : decode cX6_highest 1 = .ok (.istore_n 1, 1) := by decide +kernel
theorem dX6_highest_2 : decode cX6_highest 2 = .ok (.iconst 0, 1) := by decide +kernel
theorem dX6_highest_3 : decode cX6_highest 3 = .ok (.istore_n 2, 1) := by decide +kernel
theorem dX6_highest_4 : decode cX6_highest 4 = .ok (.iload_n 2, 1) := by decide +kernel
theorem dX6_highest_5 : decode cX6_highest 5 = .ok (.bipush 12, 2) := by decide +kernel
theorem dX6_highest_7 : decode cX6_highest 7 = .ok (.if_icmp .ge 35, 3) := by decide +kernel
theorem dX6_highest_10 : decode cX6_highest 10 = .ok (.aload_n 0, 1) := by decide +kernel
theorem dX6_highest_11 : decode cX6_highest 11 = .ok (.getfield 94, 3) := by decide +kernel
theorem dX6_highest_14 : decode cX6_highest 14 = .ok (.ifCond .le 28, 3) := by decide +kernel
theorem dX6_highest_17 : decode cX6_highest 17 = .ok (.aload_n 0, 1) := by decide +kernel
theorem dX6_highest_18 : decode cX6_highest 18 = .ok (.iload_n 2, 1) := by decide +kernel
theorem dX6_highest_19 : decode cX6_highest 19 = .ok (.invokevirtual 112, 3) := by decide +kernel
theorem dX6_highest_22 : decode cX6_highest 22 = .ok (.iload_n 1, 1) := by decide +kernel
theorem dX6_highest_23 : decode cX6_highest 23 = .ok (.if_icmp .le 11, 3) := by decide +kernel
theorem dX6_highest_26 : decode cX6_highest 26 = .ok (.aload_n 0, 1) := by decide +kernel
theorem dX6_highest_27 : decode cX6_highest 27 = .ok (.iload_n 2, 1) := by decide +kernel
theorem dX6_highest_28 : decode cX6_highest 28 = .ok (.invokevirtual 112, 3) := by decide +kernel
theorem dX6_highest_31 : decode cX6_highest 31 = .ok (.goto 4, 3) := by decide +kernel
theorem dX6_highest_34 : decode cX6_highest 34 = .ok (.iload_n 1, 1) := by decide +kernel
theorem dX6_highest_35 : decode cX6_highest 35 = .ok (.istore_n 1, 1) := by decide +kernel
theorem dX6_highest_36 : decode cX6_highest 36 = .ok (.iinc 2 1, 3) := by decide +kernel
theorem dX6_highest_39 : decode cX6_highest 39 = .ok (.goto (-35), 3) := by decide +kernel
theorem dX6_highest_42 : decode cX6_highest 42 = .ok (.iload_n 1, 1) := by decide +kernel
theorem dX6_highest_43 : decode cX6_highest 43 = .ok (.ireturn, 1) := by decide +kernel
set_option maxRecDepth 20000 in
theorem ggX6_howMany_X6_highest : GoodIn wsX6_howMany wsX6_highest := goodIn_r _ [11, 1, 12, 13, 14, 10, 15, 2, 16, 17, 18, 44, 45, 46, 47, 48, 49, 50, 51, 52, 53, 54, 55, 56, 57, 58, 59, 60, 61, 62, 63, 64, 65, 66, 67, 68, 69, 70, 71, 72, 73, 74, 75, 76, 77] (by decide +kernel) (by decide +kernel)
set_option maxRecDepth 20000 in
theorem gX6_howMany_X6_highest : GoodIn wsX6_howMany (wsV RX6 217 RX6 yX6_highest wsX6_highest) := goodIn_app (goodIn_of _ (by decide +kernel)) ggX6_howMany_X6_highest
set_option maxRecDepth 20000 in
theorem ggX6_howMany_X6_hoursAll : GoodIn wsX6_howMany wsX6_hoursAll := goodIn_r _ [22, 1, 23, 24, 25, 10, 26, 27, 28, 29, 30, 31, 32, 33, 34, 35, 36, 12, 13, 14, 15, 2, 16, 17, 18, 37, 38, 39, 40, 41, 42, 43, 44, 45, 46, 47, 48, 49, 50, 51, 52, 53, 54, 55, 56, 57, 58, 59, 60, 61, 62, 63, 64, 65, 66, 67, 68, 69, 70, 71, 72, 73, 74, 75, 76, 77] (by decide +kernel) (by decide +kernel)
set_option maxRecDepth 20000 in
theorem gX6_howMany_X6_hoursAll : GoodIn wsX6_howMany (wsV RX6 164 RX6 yX6_hoursAll wsX6_hoursAll) := goodIn_app (goodIn_of _ (by decide +kernel)) ggX6_howMany_X6_hoursAll
theorem dX6_howMany_0 : decode cX6_howMany 0 = .ok (.iload_n 1, 1) := by decide +kernel
theorem dX6_howMany_1 : decode cX6_howMany 1 = .ok (.tableswitch 98 0 8 #[51, 56, 61, 66, 72, 78, 83, 88, 93], 51) := by decide +kernel
theorem dX6_howMany_52 : decode cX6_howMany 52 = .ok (.aload_n 0, 1) := by decide +kernel
theorem dX6_howMany_53 : decode cX6_howMany 53 = .ok (.getfield 94, 3) := by decide +kernel
theorem dX6_howMany_56 : decode cX6_howMany 56 = .ok (.ireturn, 1) := by decide +kernel
theorem dX6_howMany_57 : decode cX6_howMany 57 = .ok (.aload_n 0, 1) := by decide +kernel
theorem dX6_howMany_58 : decode cX6_howMany 58 = .ok (.getfield 97, 3) := by decide +kernel
theorem dX6_howMany_61 : decode cX6_howMany 61 = .ok (.ireturn, 1) := by decide +kernel
theorem dX6_howMany_62 : decode cX6_howMany 62 = .ok (.aload_n 0, 1) := by decide +kernel
theorem dX6_howMany_63 : decode cX6_howMany 63 = .ok (.invokevirtual 217, 3) := by decide +kernel
theorem dX6_howMany_66 : decode cX6_howMany 66 = .ok (.ireturn, 1) := by decide +kernel
theorem dX6_howMany_67 : decode cX6_howMany 67 = .ok (.aload_n 0, 1) := by decide +kernel
theorem dX6_howMany_68 : decode cX6_howMany 68 = .ok (.iconst 0, 1) := by decide +kernel
theorem dX6_howMany_69 : decode cX6_howMany 69 = .ok (.invokevirtual 164, 3) := by decide +kernel
theorem dX6_howMany_72 : decode cX6_howMany 72 = .ok (.ireturn, 1) := by decide +kernel
theorem dX6_howMany_73 : decode cX6_howMany 73 = .ok (.aload_n 0, 1) := by decide +kernel
theorem dX6_howMany_74 : decode cX6_howMany 74 = .ok (.iconst 2, 1) := by decide +kernel
theorem dX6_howMany_75 : decode cX6_howMany 75 = .ok (.invokevirtual 164, 3) := by decide +kernel
theorem dX6_howMany_78 : decode cX6_howMany 78 = .ok (.ireturn, 1) := by decide +kernel
theorem dX6_howMany_79 : decode cX6_howMany 79 = .ok (.aload_n 0, 1) := by decide +kernel
theorem dX6_howMany_80 : decode cX6_howMany 80 = .ok (.getfield 103, 3) := by decide +kernel
theorem dX6_howMany_83 : decode cX6_howMany 83 = .ok (.ireturn, 1) := by decide +kernel
theorem dX6_howMany_84 : decode cX6_howMany 84 = .ok (.aload_n 0, 1) := by decide +kernel
theorem dX6_howMany_85 : decode cX6_howMany 85 = .ok (.getfield 106, 3) := by decide +kernel
theorem dX6_howMany_88 : decode cX6_howMany 88 = .ok (.ireturn, 1) := by decide +kernel
theorem dX6_howMany_89 : decode cX6_howMany 89 = .ok (.aload_n 0, 1) := by decide +kernel
theorem dX6_howMany_90 : decode cX6_howMany 90 = .ok (.getfield 66, 3) := by decide +kernel
theorem dX6_howMany_93 : decode cX6_howMany 93 = .ok (.ireturn, 1) := by decide +kernel
theorem dX6_howMany_94 : decode cX6_howMany 94 = .ok (.aload_n 0, 1) := by decide +kernel
theorem dX6_howMany_95 : decode cX6_howMany 95 = .ok (.getfield 100, 3) := by decide +kernel
theorem dX6_howMany_98 : decode cX6_howMany 98 = .ok (.ireturn, 1) := by decide +kernel
theorem dX6_howMany_99 : decode cX6_howMany 99 = .ok (.bipush (-102), 2) := by decide +kernel
theorem dX6_howMany_101 : decode cX6_howMany 101 = .ok (.ireturn, 1) := by decide +kernel
set_option maxRecDepth 20000 in
theorem ggX6_count_X6_howMany : GoodIn wsX6_count wsX6_howMany := goodIn_r _ [5, 6, 7, 8, 9, 10, 11, 12, 13, 14, 4, 15, 16, 17, 18, 19, 20, 21, 22, 23, 24, 25, 26, 27, 28, 29, 30, 31, 32, 33, 34, 35, 36, 37, 38, 39, 40, 41, 42, 43, 44, 45, 46, 47, 48, 49, 50, 51, 52, 53, 54, 55, 56, 57, 58, 59, 60, 61, 62, 63, 64, 65, 66, 67, 68, 69, 70, 71, 72, 73, 74, 75, 76, 77, 78, 79, 80, 81] (by decide +kernel) (by decide +kernel)
set_option maxRecDepth 20000 in
theorem gX6_count_X6_howMany : GoodIn wsX6_count (wsV RX6 220 RX6 yX6_howMany wsX6_howMany) := goodIn_app (goodIn_of _ (by decide +kernel)) ggX6_count_X6_howMany
theorem dX6_count_0 : decode cX6_count 0 = .ok (.aload_n 0, 1) := by decide +kernel
theorem dX6_count_1 : decode cX6_count 1 = .ok (.iload_n 1, 1) := by decide +kernel
theorem dX6_count_2 : decode cX6_count 2 = .ok (.invokevirtual 220, 3) := by decide +kernel
theorem dX6_count_5 : decode cX6_count 5 = .ok (.ireturn, 1) := by decide +kernel
theorem dX6_mix_0 : decode cX6_mix 0 = .ok (.aload_n 0, 1) := by decide +kernel
theorem dX6_mix_1 : decode cX6_mix 1 = .ok (.ldc2_w 223, 3) := by decide +kernel
theorem dX6_mix_4 : decode cX6_mix 4 = .ok (.aload_n 0, 1) := by decide +kernel
theorem dX6_mix_5 : decode cX6_mix 5 = .ok (.getfield 225, 3) := by decide +kernel
theorem dX6_mix_8 : decode cX6_mix 8 = .ok (.lmul, 1) := by decide +kernel
theorem dX6_mix_9 : decode cX6_mix 9 = .ok (.lload_n 1, 1) := by decide +kernel
theorem dX6_mix_10 : decode cX6_mix 10 = .ok (.ladd, 1) := by decide +kernel
theorem dX6_mix_11 : decode cX6_mix 11 = .ok (.putfield 225, 3) := by decide +kernel
theorem dX6_mix_14 : decode cX6_mix 14 = .ok (.return_, 1) := by decide +kernel
set_option maxRecDepth 20000 in
theorem ggX6_digest_X6_houseNow : GoodIn wsX6_digest wsX6_houseNow := goodIn_r _ [11, 12, 13, 14, 15, 16, 10, 17, 18, 19, 20, 21, 22, 23, 24, 25, 26, 27, 28, 29, 4, 30, 31, 32, 33, 34, 35, 36, 37, 38, 39, 40, 41, 42, 43, 114, 115, 116, 117, 118, 119, 120, 121, 122, 123, 124, 125, 126, 127, 128, 129, 130, 131, 132, 133, 134, 135, 136, 137, 138, 139, 140, 141, 142, 143, 144, 145, 146, 147] (by decide +kernel) (by decide +kernel)
set_option maxRecDepth 20000 in
theorem gX6_digest_X6_houseNow : GoodIn wsX6_digest (wsV RX6 138 RX6 yX6_houseNow wsX6_houseNow) := goodIn_app (goodIn_of _ (by decide +kernel)) ggX6_digest_X6_houseNow
set_option maxRecDepth 20000 in
theorem ggX6_digest_X6_mix : GoodIn wsX6_digest wsX6_mix := goodIn_r _ [47, 48, 2, 114, 115, 116, 117, 118, 119, 120, 121, 122, 123, 124, 125, 126, 127, 128, 129, 130, 131, 132, 133, 134, 135, 136, 137, 138, 139, 140, 141, 142, 143, 144, 145, 146, 147] (by decide +kernel) (by decide +kernel)
set_option maxRecDepth 20000 in
theorem gX6_digest_X6_mix : GoodIn wsX6_digest (wsV RX6 230 RX6 yX6_mix wsX6_mix) := goodIn_app (goodIn_of _ (by decide +kernel)) ggX6_digest_X6_mix
set_option maxRecDepth 20000 in
theorem ggX6_digest_X6_strokeNow : GoodIn wsX6_digest wsX6_strokeNow := goodIn_r _ [52, 31, 32, 53, 54, 10, 55, 56, 57, 58, 114, 115, 116, 117, 118, 119, 120, 121, 122, 123, 124, 125, 126, 127, 128, 129, 130, 131, 132, 133, 134, 135, 136, 137, 138, 139, 140, 141, 142, 143, 144, 145, 146, 147] (by decide +kernel) (by decide +kernel)
set_option maxRecDepth 20000 in
theorem gX6_digest_X6_strokeNow : GoodIn wsX6_digest (wsV RX6 147 RX6 yX6_strokeNow wsX6_strokeNow) := goodIn_app (goodIn_of _ (by decide +kernel)) ggX6_digest_X6_strokeNow
set_option maxRecDepth 20000 in
theorem ggX6_digest_X6_tideAt : GoodIn wsX6_digest wsX6_tideAt := goodIn_r _ [29, 4, 30, 31, 32, 114, 115, 116, 117, 118, 119, 120, 121, 122, 123, 124, 125, 126, 127, 128, 129, 130, 131, 132, 133, 134, 135, 136, 137, 138, 139, 140, 141, 142, 143, 144, 145, 146, 147] (by decide +kernel) (by decide +kernel)
set_option maxRecDepth 20000 in
theorem gX6_digest_X6_tideAt : GoodIn wsX6_digest (wsV RX6 112 RX6 yX6_tideAt wsX6_tideAt) := goodIn_app (goodIn_of _ (by decide +kernel)) ggX6_digest_X6_tideAt
set_option maxRecDepth 20000 in
theorem ggX6_digest_X6_dinnerNow : GoodIn wsX6_digest wsX6_dinnerNow := goodIn_r _ [62, 63, 64, 65, 10, 66, 3, 67, 68, 69, 18, 19, 20, 21, 22, 23, 24, 25, 13, 12, 26, 27, 28, 29, 4, 30, 31, 32, 33, 34, 35, 36, 37, 38, 39, 114, 115, 116, 117, 118, 119, 120, 121, 122, 123, 124, 125, 126, 127, 128, 129, 130, 131, 132, 133, 134, 135, 136, 137, 138, 139, 140, 141, 142, 143, 144, 145, 146, 147] (by decide +kernel) (by decide +kernel)
set_option maxRecDepth 20000 in
theorem gX6_digest_X6_dinnerNow : GoodIn wsX6_digest (wsV RX6 157 RX6 yX6_dinnerNow wsX6_dinnerNow) := goodIn_app (goodIn_of _ (by decide +kernel)) ggX6_digest_X6_dinnerNow
set_option maxRecDepth 20000 in
theorem ggX6_digest_X6_bestNow : GoodIn wsX6_digest wsX6_bestNow := goodIn_r _ [73, 30, 74, 75, 76, 10, 77, 31, 4, 32, 78, 79, 80, 81, 3, 14, 15, 16, 17, 18, 19, 20, 21, 22, 23, 24, 25, 13, 12, 26, 27, 28, 29, 33, 34, 35, 36, 37, 38, 39, 114, 115, 116, 117, 118, 119, 120, 121, 122, 123, 124, 125, 126, 127, 128, 129, 130, 131, 132, 133, 134, 135, 136, 137, 138, 139, 140, 141, 142, 143, 144, 145, 146, 147] (by decide +kernel) (by decide +kernel)
set_option maxRecDepth 20000 in
theorem gX6_digest_X6_bestNow : GoodIn wsX6_digest (wsV RX6 167 RX6 yX6_bestNow wsX6_bestNow) := goodIn_app (goodIn_of _ (by decide +kernel)) ggX6_digest_X6_bestNow
set_option maxRecDepth 20000 in
theorem ggX6_digest_X6_hoursNow : GoodIn wsX6_digest wsX6_hoursNow := goodIn_r _ [85, 86, 87, 88, 10, 89, 90, 91, 92, 93, 94, 30, 74, 75, 76, 77, 31, 4, 32, 18, 19, 20, 21, 22, 23, 24, 25, 13, 12, 26, 27, 28, 29, 33, 34, 35, 36, 37, 38, 39, 114, 115, 116, 117, 118, 119, 120, 121, 122, 123, 124, 125, 126, 127, 128, 129, 130, 131, 132, 133, 134, 135, 136, 137, 138, 139, 140, 141, 142, 143, 144, 145, 146, 147] (by decide +kernel) (by decide +kernel)
set_option maxRecDepth 20000 in
theorem gX6_digest_X6_hoursNow : GoodIn wsX6_digest (wsV RX6 173 RX6 yX6_hoursNow wsX6_hoursNow) := goodIn_app (goodIn_of _ (by decide +kernel)) ggX6_digest_X6_hoursNow
set_option maxRecDepth 20000 in
theorem ggX6_digest_X6_askNow : GoodIn wsX6_digest wsX6_askNow := goodIn_r _ [98, 90, 99, 3, 82, 83, 84, 10, 85, 86, 87, 88, 89, 91, 92, 93, 94, 30, 74, 75, 76, 77, 31, 4, 32, 18, 19, 20, 21, 22, 23, 24, 25, 13, 12, 26, 27, 28, 29, 33, 34, 35, 36, 37, 38, 39, 100, 101, 102, 103, 67, 68, 69, 114, 115, 116, 117, 118, 119, 120, 121, 122, 123, 124, 125, 126, 127, 128, 129, 130, 131, 132, 133, 134, 135, 136, 137, 138, 139, 140, 141, 142, 143, 144, 145, 146, 147] (by decide +kernel) (by decide +kernel)
set_option maxRecDepth 20000 in
theorem gX6_digest_X6_askNow : GoodIn wsX6_digest (wsV RX6 181 RX6 yX6_askNow wsX6_askNow) := goodIn_app (goodIn_of _ (by decide +kernel)) ggX6_digest_X6_askNow
set_option maxRecDepth 20000 in
theorem ggX6_digest_X6_howMany : GoodIn wsX6_digest wsX6_howMany := goodIn_r _ [107, 3, 4, 108, 90, 5, 109, 110, 111, 112, 10, 113, 26, 27, 28, 29, 30, 31, 32, 78, 79, 80, 81, 14, 15, 16, 17, 18, 19, 20, 21, 22, 23, 24, 25, 13, 12, 33, 34, 35, 36, 37, 38, 39, 114, 115, 116, 117, 118, 119, 120, 121, 122, 123, 124, 125, 126, 127, 128, 129, 130, 131, 132, 133, 134, 135, 136, 137, 138, 139, 140, 141, 142, 143, 144, 145, 146, 147] (by decide +kernel) (by decide +kernel)
set_option maxRecDepth 20000 in
theorem gX6_digest_X6_howMany : GoodIn wsX6_digest (wsV RX6 220 RX6 yX6_howMany wsX6_howMany) := goodIn_app (goodIn_of _ (by decide +kernel)) ggX6_digest_X6_howMany
theorem dX6_digest_0 : decode cX6_digest 0 = .ok (.aload_n 0, 1) := by decide +kernel
theorem dX6_digest_1 : decode cX6_digest 1 = .ok (.ldc2_w 228, 3) := by decide +kernel
theorem dX6_digest_4 : decode cX6_digest 4 = .ok (.putfield 225, 3) := by decide +kernel
theorem dX6_digest_7 : decode cX6_digest 7 = .ok (.iconst 0, 1) := by decide +kernel
theorem dX6_digest_8 : decode cX6_digest 8 = .ok (.istore_n 1, 1) := by decide +kernel
theorem dX6_digest_9 : decode cX6_digest 9 = .ok (.iload_n 1, 1) := by decide +kernel
theorem dX6_digest_10 : decode cX6_digest 10 = .ok (.aload_n 0, 1) := by decide +kernel
theorem dX6_digest_11 : decode cX6_digest 11 = .ok (.getfield 94, 3) := by decide +kernel
theorem dX6_digest_14 : decode cX6_digest 14 = .ok (.if_icmp .ge 45, 3) := by decide +kernel
theorem dX6_digest_17 : decode cX6_digest 17 = .ok (.iconst 0, 1) := by decide +kernel
theorem dX6_digest_18 : decode cX6_digest 18 = .ok (.istore_n 2, 1) := by decide +kernel
theorem dX6_digest_19 : decode cX6_digest 19 = .ok (.iload_n 2, 1) := by decide +kernel
theorem dX6_digest_20 : decode cX6_digest 20 = .ok (.bipush 22, 2) := by decide +kernel
theorem dX6_digest_22 : decode cX6_digest 22 = .ok (.if_icmp .ge 31, 3) := by decide +kernel
theorem dX6_digest_25 : decode cX6_digest 25 = .ok (.iload_n 2, 1) := by decide +kernel
theorem dX6_digest_26 : decode cX6_digest 26 = .ok (.iconst 5, 1) := by decide +kernel
theorem dX6_digest_27 : decode cX6_digest 27 = .ok (.if_icmp .lt 9, 3) := by decide +kernel
theorem dX6_digest_30 : decode cX6_digest 30 = .ok (.iload_n 2, 1) := by decide +kernel
theorem dX6_digest_31 : decode cX6_digest 31 = .ok (.bipush 9, 2) := by decide +kernel
theorem dX6_digest_33 : decode cX6_digest 33 = .ok (.if_icmp .le 14, 3) := by decide +kernel
theorem dX6_digest_36 : decode cX6_digest 36 = .ok (.aload_n 0, 1) := by decide +kernel
theorem dX6_digest_37 : decode cX6_digest 37 = .ok (.aload_n 0, 1) := by decide +kernel
theorem dX6_digest_38 : decode cX6_digest 38 = .ok (.iload_n 1, 1) := by decide +kernel
theorem dX6_digest_39 : decode cX6_digest 39 = .ok (.iload_n 2, 1) := by decide +kernel
theorem dX6_digest_40 : decode cX6_digest 40 = .ok (.invokevirtual 138, 3) := by decide +kernel
theorem dX6_digest_43 : decode cX6_digest 43 = .ok (.i2l, 1) := by decide +kernel
theorem dX6_digest_44 : decode cX6_digest 44 = .ok (.invokevirtual 230, 3) := by decide +kernel
theorem dX6_digest_47 : decode cX6_digest 47 = .ok (.iinc 2 1, 3) := by decide +kernel
theorem dX6_digest_50 : decode cX6_digest 50 = .ok (.goto (-31), 3) := by decide +kernel
theorem dX6_digest_53 : decode cX6_digest 53 = .ok (.iinc 1 1, 3) := by decide +kernel
theorem dX6_digest_56 : decode cX6_digest 56 = .ok (.goto (-47), 3) := by decide +kernel
theorem dX6_digest_59 : decode cX6_digest 59 = .ok (.iconst 0, 1) := by decide +kernel
theorem dX6_digest_60 : decode cX6_digest 60 = .ok (.istore_n 1, 1) := by decide +kernel
theorem dX6_digest_61 : decode cX6_digest 61 = .ok (.iload_n 1, 1) := by decide +kernel
theorem dX6_digest_62 : decode cX6_digest 62 = .ok (.aload_n 0, 1) := by decide +kernel
theorem dX6_digest_63 : decode cX6_digest 63 = .ok (.getfield 97, 3) := by decide +kernel
theorem dX6_digest_66 : decode cX6_digest 66 = .ok (.if_icmp .ge 33, 3) := by decide +kernel
theorem dX6_digest_69 : decode cX6_digest 69 = .ok (.iconst 0, 1) := by decide +kernel
theorem dX6_digest_70 : decode cX6_digest 70 = .ok (.istore_n 2, 1) := by decide +kernel
theorem dX6_digest_71 : decode cX6_digest 71 = .ok (.iload_n 2, 1) := by decide +kernel
theorem dX6_digest_72 : decode cX6_digest 72 = .ok (.iconst 3, 1) := by decide +kernel
theorem dX6_digest_73 : decode cX6_digest 73 = .ok (.if_icmp .ge 20, 3) := by decide +kernel
theorem dX6_digest_76 : decode cX6_digest 76 = .ok (.aload_n 0, 1) := by decide +kernel
theorem dX6_digest_77 : decode cX6_digest 77 = .ok (.aload_n 0, 1) := by decide +kernel
theorem dX6_digest_78 : decode cX6_digest 78 = .ok (.iload_n 1, 1) := by decide +kernel
theorem dX6_digest_79 : decode cX6_digest 79 = .ok (.iload_n 2, 1) := by decide +kernel
theorem dX6_digest_80 : decode cX6_digest 80 = .ok (.invokevirtual 147, 3) := by decide +kernel
theorem dX6_digest_83 : decode cX6_digest 83 = .ok (.i2l, 1) := by decide +kernel
theorem dX6_digest_84 : decode cX6_digest 84 = .ok (.invokevirtual 230, 3) := by decide +kernel
theorem dX6_digest_87 : decode cX6_digest 87 = .ok (.iinc 2 1, 3) := by decide +kernel
theorem dX6_digest_90 : decode cX6_digest 90 = .ok (.goto (-19), 3) := by decide +kernel
theorem dX6_digest_93 : decode cX6_digest 93 = .ok (.iinc 1 1, 3) := by decide +kernel
theorem dX6_digest_96 : decode cX6_digest 96 = .ok (.goto (-35), 3) := by decide +kernel
theorem dX6_digest_99 : decode cX6_digest 99 = .ok (.aload_n 0, 1) := by decide +kernel
theorem dX6_digest_100 : decode cX6_digest 100 = .ok (.getfield 94, 3) := by decide +kernel
theorem dX6_digest_103 : decode cX6_digest 103 = .ok (.ifCond .le 86, 3) := by decide +kernel
theorem dX6_digest_106 : decode cX6_digest 106 = .ok (.iconst 0, 1) := by decide +kernel
theorem dX6_digest_107 : decode cX6_digest 107 = .ok (.istore_n 1, 1) := by decide +kernel
theorem dX6_digest_108 : decode cX6_digest 108 = .ok (.iload_n 1, 1) := by decide +kernel
theorem dX6_digest_109 : decode cX6_digest 109 = .ok (.bipush 12, 2) := by decide +kernel
theorem dX6_digest_111 : decode cX6_digest 111 = .ok (.if_icmp .ge 19, 3) := by decide +kernel
theorem dX6_digest_114 : decode cX6_digest 114 = .ok (.aload_n 0, 1) := by decide +kernel
theorem dX6_digest_115 : decode cX6_digest 115 = .ok (.aload_n 0, 1) := by decide +kernel
theorem dX6_digest_116 : decode cX6_digest 116 = .ok (.iload_n 1, 1) := by decide +kernel
theorem dX6_digest_117 : decode cX6_digest 117 = .ok (.invokevirtual 112, 3) := by decide +kernel
theorem dX6_digest_120 : decode cX6_digest 120 = .ok (.i2l, 1) := by decide +kernel
theorem dX6_digest_121 : decode cX6_digest 121 = .ok (.invokevirtual 230, 3) := by decide +kernel
theorem dX6_digest_124 : decode cX6_digest 124 = .ok (.iinc 1 1, 3) := by decide +kernel
theorem dX6_digest_127 : decode cX6_digest 127 = .ok (.goto (-19), 3) := by decide +kernel
theorem dX6_digest_130 : decode cX6_digest 130 = .ok (.aload_n 0, 1) := by decide +kernel
theorem dX6_digest_131 : decode cX6_digest 131 = .ok (.aload_n 0, 1) := by decide +kernel
theorem dX6_digest_132 : decode cX6_digest 132 = .ok (.iconst 1, 1) := by decide +kernel
theorem dX6_digest_133 : decode cX6_digest 133 = .ok (.aload_n 0, 1) := by decide +kernel
theorem dX6_digest_134 : decode cX6_digest 134 = .ok (.getfield 94, 3) := by decide +kernel
theorem dX6_digest_137 : decode cX6_digest 137 = .ok (.ishl, 1) := by decide +kernel
theorem dX6_digest_138 : decode cX6_digest 138 = .ok (.iconst 1, 1) := by decide +kernel
theorem dX6_digest_139 : decode cX6_digest 139 = .ok (.isub, 1) := by decide +kernel
theorem dX6_digest_140 : decode cX6_digest 140 = .ok (.iconst 2, 1) := by decide +kernel
theorem dX6_digest_141 : decode cX6_digest 141 = .ok (.invokevirtual 157, 3) := by decide +kernel
theorem dX6_digest_144 : decode cX6_digest 144 = .ok (.i2l, 1) := by decide +kernel
theorem dX6_digest_145 : decode cX6_digest 145 = .ok (.invokevirtual 230, 3) := by decide +kernel
theorem dX6_digest_148 : decode cX6_digest 148 = .ok (.aload_n 0, 1) := by decide +kernel
theorem dX6_digest_149 : decode cX6_digest 149 = .ok (.aload_n 0, 1) := by decide +kernel
theorem dX6_digest_150 : decode cX6_digest 150 = .ok (.iconst 5, 1) := by decide +kernel
theorem dX6_digest_151 : decode cX6_digest 151 = .ok (.iconst 0, 1) := by decide +kernel
theorem dX6_digest_152 : decode cX6_digest 152 = .ok (.invokevirtual 167, 3) := by decide +kernel
theorem dX6_digest_155 : decode cX6_digest 155 = .ok (.i2l, 1) := by decide +kernel
theorem dX6_digest_156 : decode cX6_digest 156 = .ok (.invokevirtual 230, 3) := by decide +kernel
theorem dX6_digest_159 : decode cX6_digest 159 = .ok (.aload_n 0, 1) := by decide +kernel
theorem dX6_digest_160 : decode cX6_digest 160 = .ok (.aload_n 0, 1) := by decide +kernel
theorem dX6_digest_161 : decode cX6_digest 161 = .ok (.iconst 5, 1) := by decide +kernel
theorem dX6_digest_162 : decode cX6_digest 162 = .ok (.iconst 1, 1) := by decide +kernel
theorem dX6_digest_163 : decode cX6_digest 163 = .ok (.invokevirtual 167, 3) := by decide +kernel
theorem dX6_digest_166 : decode cX6_digest 166 = .ok (.i2l, 1) := by decide +kernel
theorem dX6_digest_167 : decode cX6_digest 167 = .ok (.invokevirtual 230, 3) := by decide +kernel
theorem dX6_digest_170 : decode cX6_digest 170 = .ok (.aload_n 0, 1) := by decide +kernel
theorem dX6_digest_171 : decode cX6_digest 171 = .ok (.aload_n 0, 1) := by decide +kernel
theorem dX6_digest_172 : decode cX6_digest 172 = .ok (.invokevirtual 173, 3) := by decide +kernel
theorem dX6_digest_175 : decode cX6_digest 175 = .ok (.i2l, 1) := by decide +kernel
theorem dX6_digest_176 : decode cX6_digest 176 = .ok (.invokevirtual 230, 3) := by decide +kernel
theorem dX6_digest_179 : decode cX6_digest 179 = .ok (.aload_n 0, 1) := by decide +kernel
theorem dX6_digest_180 : decode cX6_digest 180 = .ok (.aload_n 0, 1) := by decide +kernel
theorem dX6_digest_181 : decode cX6_digest 181 = .ok (.iconst 4, 1) := by decide +kernel
theorem dX6_digest_182 : decode cX6_digest 182 = .ok (.invokevirtual 181, 3) := by decide +kernel
theorem dX6_digest_185 : decode cX6_digest 185 = .ok (.i2l, 1) := by decide +kernel
theorem dX6_digest_186 : decode cX6_digest 186 = .ok (.invokevirtual 230, 3) := by decide +kernel
theorem dX6_digest_189 : decode cX6_digest 189 = .ok (.iconst 0, 1) := by decide +kernel
theorem dX6_digest_190 : decode cX6_digest 190 = .ok (.istore_n 1, 1) := by decide +kernel
theorem dX6_digest_191 : decode cX6_digest 191 = .ok (.iload_n 1, 1) := by decide +kernel
theorem dX6_digest_192 : decode cX6_digest 192 = .ok (.aload_n 0, 1) := by decide +kernel
theorem dX6_digest_193 : decode cX6_digest 193 = .ok (.getfield 66, 3) := by decide +kernel
theorem dX6_digest_196 : decode cX6_digest 196 = .ok (.if_icmp .ge 20, 3) := by decide +kernel
theorem dX6_digest_199 : decode cX6_digest 199 = .ok (.aload_n 0, 1) := by decide +kernel
theorem dX6_digest_200 : decode cX6_digest 200 = .ok (.aload_n 0, 1) := by decide +kernel
theorem dX6_digest_201 : decode cX6_digest 201 = .ok (.getfield 34, 3) := by decide +kernel
theorem dX6_digest_204 : decode cX6_digest 204 = .ok (.iload_n 1, 1) := by decide +kernel
theorem dX6_digest_205 : decode cX6_digest 205 = .ok (.baload, 1) := by decide +kernel
theorem dX6_digest_206 : decode cX6_digest 206 = .ok (.i2l, 1) := by decide +kernel
theorem dX6_digest_207 : decode cX6_digest 207 = .ok (.invokevirtual 230, 3) := by decide +kernel
theorem dX6_digest_210 : decode cX6_digest 210 = .ok (.iinc 1 1, 3) := by decide +kernel
theorem dX6_digest_213 : decode cX6_digest 213 = .ok (.goto (-22), 3) := by decide +kernel
theorem dX6_digest_216 : decode cX6_digest 216 = .ok (.iconst 0, 1) := by decide +kernel
theorem dX6_digest_217 : decode cX6_digest 217 = .ok (.istore_n 1, 1) := by decide +kernel
theorem dX6_digest_218 : decode cX6_digest 218 = .ok (.iload_n 1, 1) := by decide +kernel
theorem dX6_digest_219 : decode cX6_digest 219 = .ok (.bipush 9, 2) := by decide +kernel
theorem dX6_digest_221 : decode cX6_digest 221 = .ok (.if_icmp .ge 19, 3) := by decide +kernel
theorem dX6_digest_224 : decode cX6_digest 224 = .ok (.aload_n 0, 1) := by decide +kernel
theorem dX6_digest_225 : decode cX6_digest 225 = .ok (.aload_n 0, 1) := by decide +kernel
theorem dX6_digest_226 : decode cX6_digest 226 = .ok (.iload_n 1, 1) := by decide +kernel
theorem dX6_digest_227 : decode cX6_digest 227 = .ok (.invokevirtual 220, 3) := by decide +kernel
theorem dX6_digest_230 : decode cX6_digest 230 = .ok (.i2l, 1) := by decide +kernel
theorem dX6_digest_231 : decode cX6_digest 231 = .ok (.invokevirtual 230, 3) := by decide +kernel
theorem dX6_digest_234 : decode cX6_digest 234 = .ok (.iinc 1 1, 3) := by decide +kernel
theorem dX6_digest_237 : decode cX6_digest 237 = .ok (.goto (-19), 3) := by decide +kernel
theorem dX6_digest_240 : decode cX6_digest 240 = .ok (.aload_n 0, 1) := by decide +kernel
theorem dX6_digest_241 : decode cX6_digest 241 = .ok (.getfield 225, 3) := by decide +kernel
theorem dX6_digest_244 : decode cX6_digest 244 = .ok (.lreturn, 1) := by decide +kernel
theorem dJ9_max_7cf53_0 : decode cJ9_max_7cf53 0 = .ok (.iload_n 0, 1) := by decide +kernel
theorem dJ9_max_7cf53_1 : decode cJ9_max_7cf53 1 = .ok (.iload_n 1, 1) := by decide +kernel
theorem dJ9_max_7cf53_2 : decode cJ9_max_7cf53 2 = .ok (.if_icmp .lt 7, 3) := by decide +kernel
theorem dJ9_max_7cf53_5 : decode cJ9_max_7cf53 5 = .ok (.iload_n 0, 1) := by decide +kernel
theorem dJ9_max_7cf53_6 : decode cJ9_max_7cf53 6 = .ok (.goto 4, 3) := by decide +kernel
theorem dJ9_max_7cf53_9 : decode cJ9_max_7cf53 9 = .ok (.iload_n 1, 1) := by decide +kernel
theorem dJ9_max_7cf53_10 : decode cJ9_max_7cf53 10 = .ok (.ireturn, 1) := by decide +kernel
theorem dJ9_min_7cf53_0 : decode cJ9_min_7cf53 0 = .ok (.iload_n 0, 1) := by decide +kernel
theorem dJ9_min_7cf53_1 : decode cJ9_min_7cf53 1 = .ok (.iload_n 1, 1) := by decide +kernel
theorem dJ9_min_7cf53_2 : decode cJ9_min_7cf53 2 = .ok (.if_icmp .gt 7, 3) := by decide +kernel
theorem dJ9_min_7cf53_5 : decode cJ9_min_7cf53 5 = .ok (.iload_n 0, 1) := by decide +kernel
theorem dJ9_min_7cf53_6 : decode cJ9_min_7cf53 6 = .ok (.goto 4, 3) := by decide +kernel
theorem dJ9_min_7cf53_9 : decode cJ9_min_7cf53 9 = .ok (.iload_n 1, 1) := by decide +kernel
theorem dJ9_min_7cf53_10 : decode cJ9_min_7cf53 10 = .ok (.ireturn, 1) := by decide +kernel
set_option maxRecDepth 20000 in
theorem ggL_law_X5_init : GoodIn wsL_law wsX5_init := goodIn_r _ [8, 9, 10, 11, 12, 13, 14, 15, 16, 17, 18, 19, 20, 21, 22, 23, 24, 25, 26, 27, 28, 29, 30, 31, 32, 33, 34, 35, 36, 37, 38, 39, 40, 41, 42, 43, 44, 45, 46, 47, 48, 49, 50, 51, 52, 53, 54, 55, 56, 57, 58, 59, 725, 726, 682, 683, 684, 685, 686, 687, 688, 689, 690, 727, 728, 729, 730, 731, 732, 733, 734, 735, 736, 737, 738, 739] (by decide +kernel) (by decide +kernel)
set_option maxRecDepth 20000 in
theorem gL_law_X5_init : GoodIn wsL_law (wsX5_init) := ggL_law_X5_init
set_option maxRecDepth 20000 in
theorem ggL_law_X6_init : GoodIn wsL_law wsX6_init := goodIn_r _ [62, 63, 10, 11, 16, 64, 65, 66, 67, 68, 69, 70, 71, 72, 73, 74, 75, 76, 77, 78, 79, 80, 81, 691, 692, 693, 694, 695, 696, 697, 698, 699, 700, 701, 702, 703, 704, 705, 706, 707, 708, 709, 710, 711, 712, 713, 714, 715, 716, 717, 718, 719, 720, 721, 722, 723, 724] (by decide +kernel) (by decide +kernel)
set_option maxRecDepth 20000 in
theorem gL_law_X6_init : GoodIn wsL_law (wsX6_init) := ggL_law_X6_init
set_option maxRecDepth 20000 in
theorem ggL_law_X5_letter : GoodIn wsL_law wsX5_letter := goodIn_r _ [85, 15, 86, 87, 2, 88, 89, 90, 91, 14, 92, 93, 31, 94, 95, 96, 97, 682, 683, 684, 685, 686, 687, 688, 689, 690, 725, 726] (by decide +kernel) (by decide +kernel)
set_option maxRecDepth 20000 in
theorem gL_law_X5_letter : GoodIn wsL_law (wsV RL 13 RX5 yX5_letter wsX5_letter) := goodIn_app (goodIn_of _ (by decide +kernel)) ggL_law_X5_letter
set_option maxRecDepth 20000 in
theorem ggL_law_X6_letter : GoodIn wsL_law wsX6_letter := goodIn_r _ [101, 102, 73, 103, 104, 5, 105, 691, 692, 693, 694, 695, 696, 697, 698, 699, 700, 701, 702, 703, 704, 705, 706, 707, 708, 709, 710, 711, 712, 713, 714, 715, 716, 717, 718, 719, 720, 721, 722, 723, 724] (by decide +kernel) (by decide +kernel)
set_option maxRecDepth 20000 in
theorem gL_law_X6_letter : GoodIn wsL_law (wsV RL 17 RX6 yX6_letter wsX6_letter) := goodIn_app (goodIn_of _ (by decide +kernel)) ggL_law_X6_letter
set_option maxRecDepth 20000 in
theorem ggL_law_X5_blank : GoodIn wsL_law wsX5_blank := goodIn_r _ [109, 15, 110, 111, 112, 14, 113, 93, 682, 683, 684, 685, 686, 687, 688, 689, 690, 725, 726] (by decide +kernel) (by decide +kernel)
set_option maxRecDepth 20000 in
theorem gL_law_X5_blank : GoodIn wsL_law (wsV RL 18 RX5 yX5_blank wsX5_blank) := goodIn_app (goodIn_of _ (by decide +kernel)) ggL_law_X5_blank
set_option maxRecDepth 20000 in
theorem ggL_law_X6_blank : GoodIn wsL_law wsX6_blank := goodIn_r _ [117, 102, 691, 692, 693, 694, 695, 696, 697, 698, 699, 700, 701, 702, 703, 704, 705, 706, 707, 708, 709, 710, 711, 712, 713, 714, 715, 716, 717, 718, 719, 720, 721, 722, 723, 724] (by decide +kernel) (by decide +kernel)
set_option maxRecDepth 20000 in
theorem gL_law_X6_blank : GoodIn wsL_law (wsV RL 22 RX6 yX6_blank wsX6_blank) := goodIn_app (goodIn_of _ (by decide +kernel)) ggL_law_X6_blank
set_option maxRecDepth 20000 in
theorem ggL_law_X5_fault : GoodIn wsL_law wsX5_fault := goodIn_r _ [121, 15, 122, 123, 124, 14, 125, 93, 126, 127, 128, 129, 130, 131, 132, 133, 31, 87, 2, 88, 134, 135, 136, 137, 138, 139, 140, 141, 682, 683, 684, 685, 686, 687, 688, 689, 690, 725, 726] (by decide +kernel) (by decide +kernel)
set_option maxRecDepth 20000 in
theorem gL_law_X5_fault : GoodIn wsL_law (wsV RL 23 RX5 yX5_fault wsX5_fault) := goodIn_app (goodIn_of _ (by decide +kernel)) ggL_law_X5_fault
set_option maxRecDepth 20000 in
theorem ggL_law_X6_fault : GoodIn wsL_law wsX6_fault := goodIn_r _ [145, 146, 147, 148, 5, 149, 150, 151, 152, 102, 73, 153, 154, 155, 156, 157, 158, 159, 103, 104, 105, 160, 161, 162, 163, 691, 692, 693, 694, 695, 696, 697, 698, 699, 700, 701, 702, 703, 704, 705, 706, 707, 708, 709, 710, 711, 712, 713, 714, 715, 716, 717, 718, 719, 720, 721, 722, 723, 724] (by decide +kernel) (by decide +kernel)
set_option maxRecDepth 20000 in
theorem gL_law_X6_fault : GoodIn wsL_law (wsV RL 26 RX6 yX6_fault wsX6_fault) := goodIn_app (goodIn_of _ (by decide +kernel)) ggL_law_X6_fault
set_option maxRecDepth 20000 in
theorem ggL_law_X5_colony : GoodIn wsL_law wsX5_colony := goodIn_r _ [167, 15, 168, 21, 17, 169, 170, 171, 172, 173, 174, 14, 175, 93, 126, 127, 128, 129, 130, 131, 132, 133, 31, 87, 2, 88, 176, 123, 124, 125, 134, 135, 136, 137, 138, 139, 140, 141, 177, 178, 179, 180, 20, 181, 39, 43, 182, 183, 184, 185, 38, 186, 187, 188, 189, 190, 42, 191, 192, 193, 194, 195, 196, 197, 198, 199, 200, 201, 202, 35, 94, 95, 96, 97, 203, 204, 205, 206, 47, 48, 110, 111, 112, 113, 682, 683, 684, 685, 686, 687, 688, 689, 690, 727, 728, 729, 730, 725, 726, 732, 733, 734, 735, 736, 737, 738, 739] (by decide +kernel) (by decide +kernel)
set_option maxRecDepth 20000 in
theorem gL_law_X5_colony : GoodIn wsL_law (wsV RL 27 RX5 yX5_colony wsX5_colony) := goodIn_app (goodIn_of _ (by decide +kernel)) ggL_law_X5_colony
set_option maxRecDepth 20000 in
theorem ggL_law_X6_colony : GoodIn wsL_law wsX6_colony := goodIn_r _ [210, 150, 151, 211, 152, 212, 64, 73, 65, 66, 67, 213, 214, 215, 102, 146, 147, 148, 5, 149, 153, 154, 155, 156, 157, 158, 159, 103, 104, 105, 160, 161, 162, 163, 691, 692, 693, 694, 695, 696, 697, 698, 699, 700, 701, 702, 703, 704, 705, 706, 707, 708, 709, 710, 711, 712, 713, 714, 715, 716, 717, 718, 719, 720, 721, 722, 723, 724] (by decide +kernel) (by decide +kernel)
set_option maxRecDepth 20000 in
theorem gL_law_X6_colony : GoodIn wsL_law (wsV RL 30 RX6 yX6_colony wsX6_colony) := goodIn_app (goodIn_of _ (by decide +kernel)) ggL_law_X6_colony
set_option maxRecDepth 20000 in
theorem ggL_law_X5_about : GoodIn wsL_law wsX5_about := goodIn_r _ [219, 21, 220, 221, 222, 2, 223, 168, 86, 87, 88, 224, 225, 226, 227, 26, 169, 228, 229, 230, 25, 231, 59, 232, 233, 234, 38, 235, 187, 236, 237, 238, 239, 47, 240, 241, 242, 243, 244, 245, 246, 247, 48, 248, 249, 250, 251, 252, 253, 254, 255, 256, 257, 258, 259, 17, 260, 261, 262, 20, 263, 35, 264, 265, 266, 267, 268, 269, 270, 271, 272, 273, 274, 275, 276, 277, 278, 279, 280, 281, 282, 283, 284, 285, 286, 287, 288, 289, 290, 682, 683, 684, 685, 686, 687, 688, 689, 690, 727, 728, 729, 730, 731, 732, 733, 734] (by decide +kernel) (by decide +kernel)
set_option maxRecDepth 20000 in
theorem gL_law_X5_about : GoodIn wsL_law (wsV RL 31 RX5 yX5_about wsX5_about) := goodIn_app (goodIn_of _ (by decide +kernel)) ggL_law_X5_about
set_option maxRecDepth 20000 in
theorem ggL_law_X6_about : GoodIn wsL_law wsX6_about := goodIn_r _ [294, 295, 296, 297, 5, 298, 211, 103, 104, 105, 299, 300, 301, 302, 64, 65, 303, 304, 305, 306, 307, 308, 309, 310, 311, 312, 313, 314, 315, 316, 317, 318, 212, 319, 66, 67, 320, 321, 322, 323, 324, 325, 326, 327, 328, 329, 330, 691, 692, 693, 694, 695, 696, 697, 698, 699, 700, 701, 702, 703, 704, 705, 706, 707, 708, 709, 710, 711, 712, 713, 714, 715, 716, 717, 718, 719, 720, 721, 722, 723, 724] (by decide +kernel) (by decide +kernel)
set_option maxRecDepth 20000 in
theorem gL_law_X6_about : GoodIn wsL_law (wsV RL 35 RX6 yX6_about wsX6_about) := goodIn_app (goodIn_of _ (by decide +kernel)) ggL_law_X6_about
set_option maxRecDepth 20000 in
theorem ggL_law_X5_as : GoodIn wsL_law wsX5_as := goodIn_r _ [334, 220, 221, 222, 2, 223, 168, 86, 87, 88, 256, 257, 258, 259, 17, 682, 683, 684, 685, 686, 687, 688, 689, 690] (by decide +kernel) (by decide +kernel)
set_option maxRecDepth 20000 in
theorem gL_law_X5_as : GoodIn wsL_law (wsV RL 36 RX5 yX5_as wsX5_as) := goodIn_app (goodIn_of _ (by decide +kernel)) ggL_law_X5_as
set_option maxRecDepth 20000 in
theorem ggL_law_X6_as : GoodIn wsL_law wsX6_as := goodIn_r _ [338, 64, 295, 296, 297, 5, 298, 211, 103, 104, 105, 691, 692, 693, 694, 695, 696, 697, 698, 699, 700, 701, 702, 703, 704, 705, 706, 707, 708, 709, 710, 711, 712, 713, 714, 715, 716, 717, 718, 719, 720, 721, 722, 723, 724] (by decide +kernel) (by decide +kernel)
set_option maxRecDepth 20000 in
theorem gL_law_X6_as : GoodIn wsL_law (wsV RL 39 RX6 yX6_as wsX6_as) := goodIn_app (goodIn_of _ (by decide +kernel)) ggL_law_X6_as
set_option maxRecDepth 20000 in
theorem ggL_law_X5_raise : GoodIn wsL_law wsX5_raise := goodIn_r _ [342, 21, 343, 220, 221, 222, 2, 223, 168, 86, 87, 88, 260, 261, 262, 20, 263, 35, 199, 200, 201, 202, 682, 683, 684, 685, 686, 687, 688, 689, 690, 727, 728, 729, 730] (by decide +kernel) (by decide +kernel)
set_option maxRecDepth 20000 in
theorem gL_law_X5_raise : GoodIn wsL_law (wsV RL 40 RX5 yX5_raise wsX5_raise) := goodIn_app (goodIn_of _ (by decide +kernel)) ggL_law_X5_raise
set_option maxRecDepth 20000 in
theorem ggL_law_X6_raise : GoodIn wsL_law wsX6_raise := goodIn_r _ [347, 65, 214, 295, 296, 297, 5, 298, 211, 103, 104, 105, 691, 692, 693, 694, 695, 696, 697, 698, 699, 700, 701, 702, 703, 704, 705, 706, 707, 708, 709, 710, 711, 712, 713, 714, 715, 716, 717, 718, 719, 720, 721, 722, 723, 724] (by decide +kernel) (by decide +kernel)
set_option maxRecDepth 20000 in
theorem gL_law_X6_raise : GoodIn wsL_law (wsV RL 43 RX6 yX6_raise wsX6_raise) := goodIn_app (goodIn_of _ (by decide +kernel)) ggL_law_X6_raise
set_option maxRecDepth 20000 in
theorem ggL_law_X5_tide : GoodIn wsL_law wsX5_tide := goodIn_r _ [351, 352, 353, 2, 354, 86, 87, 88, 355, 356, 357, 358, 168, 224, 225, 226, 227, 26, 21, 169, 228, 229, 230, 25, 231, 59, 232, 233, 234, 38, 235, 187, 236, 237, 238, 239, 47, 240, 241, 242, 243, 244, 245, 246, 247, 48, 248, 249, 250, 251, 252, 253, 254, 255, 276, 277, 278, 279, 280, 274, 275, 682, 683, 684, 685, 686, 687, 688, 689, 690, 727, 728, 729, 730, 731, 732, 733, 734] (by decide +kernel) (by decide +kernel)
set_option maxRecDepth 20000 in
theorem gL_law_X5_tide : GoodIn wsL_law (wsV RL 44 RX5 yX5_tide wsX5_tide) := goodIn_app (goodIn_of _ (by decide +kernel)) ggL_law_X5_tide
set_option maxRecDepth 20000 in
theorem ggL_law_X6_tide : GoodIn wsL_law wsX6_tide := goodIn_r _ [362, 211, 363, 364, 5, 365, 103, 104, 105, 315, 316, 317, 318, 212, 319, 66, 67, 691, 692, 693, 694, 695, 696, 697, 698, 699, 700, 701, 702, 703, 704, 705, 706, 707, 708, 709, 710, 711, 712, 713, 714, 715, 716, 717, 718, 719, 720, 721, 722, 723, 724] (by decide +kernel) (by decide +kernel)
set_option maxRecDepth 20000 in
theorem gL_law_X6_tide : GoodIn wsL_law (wsV RL 47 RX6 yX6_tide wsX6_tide) := goodIn_app (goodIn_of _ (by decide +kernel)) ggL_law_X6_tide
set_option maxRecDepth 20000 in
theorem ggL_law_X5_strike : GoodIn wsL_law wsX5_strike := goodIn_r _ [369, 21, 169, 343, 86, 87, 2, 88, 370, 371, 372, 355, 356, 357, 358, 168, 203, 204, 205, 38, 206, 187, 47, 48, 232, 233, 234, 235, 682, 683, 684, 685, 686, 687, 688, 689, 690, 727, 728, 729, 730, 732, 733, 734] (by decide +kernel) (by decide +kernel)
set_option maxRecDepth 20000 in
theorem gL_law_X5_strike : GoodIn wsL_law (wsV RL 48 RX5 yX5_strike wsX5_strike) := goodIn_app (goodIn_of _ (by decide +kernel)) ggL_law_X5_strike
set_option maxRecDepth 20000 in
theorem ggL_law_X6_strike : GoodIn wsL_law wsX6_strike := goodIn_r _ [376, 211, 212, 66, 67, 214, 103, 104, 5, 105, 691, 692, 693, 694, 695, 696, 697, 698, 699, 700, 701, 702, 703, 704, 705, 706, 707, 708, 709, 710, 711, 712, 713, 714, 715, 716, 717, 718, 719, 720, 721, 722, 723, 724] (by decide +kernel) (by decide +kernel)
set_option maxRecDepth 20000 in
theorem gL_law_X6_strike : GoodIn wsL_law (wsV RL 51 RX6 yX6_strike wsX6_strike) := goodIn_app (goodIn_of _ (by decide +kernel)) ggL_law_X6_strike
set_option maxRecDepth 20000 in
theorem ggL_law_X5_felt : GoodIn wsL_law wsX5_felt := goodIn_r _ [380, 21, 169, 343, 381, 241, 242, 38, 243, 187, 87, 2, 88, 86, 244, 245, 246, 247, 48, 240, 382, 383, 384, 385, 682, 683, 684, 685, 686, 687, 688, 689, 690, 727, 728, 729, 730, 732, 733, 734] (by decide +kernel) (by decide +kernel)
set_option maxRecDepth 20000 in
theorem gL_law_X5_felt : GoodIn wsL_law (wsV RL 52 RX5 yX5_felt wsX5_felt) := goodIn_app (goodIn_of _ (by decide +kernel)) ggL_law_X5_felt
set_option maxRecDepth 20000 in
theorem ggL_law_X6_felt : GoodIn wsL_law wsX6_felt := goodIn_r _ [389, 67, 214, 390, 391, 392, 5, 393, 212, 103, 104, 105, 691, 692, 693, 694, 695, 696, 697, 698, 699, 700, 701, 702, 703, 704, 705, 706, 707, 708, 709, 710, 711, 712, 713, 714, 715, 716, 717, 718, 719, 720, 721, 722, 723, 724] (by decide +kernel) (by decide +kernel)
set_option maxRecDepth 20000 in
theorem gL_law_X6_felt : GoodIn wsL_law (wsV RL 55 RX6 yX6_felt wsX6_felt) := goodIn_app (goodIn_of _ (by decide +kernel)) ggL_law_X6_felt
set_option maxRecDepth 20000 in
theorem ggL_law_X5_stroke : GoodIn wsL_law wsX5_stroke := goodIn_r _ [397, 21, 169, 381, 241, 242, 38, 243, 187, 87, 2, 88, 236, 237, 238, 239, 47, 240, 244, 245, 246, 247, 48, 398, 399, 400, 401, 402, 403, 682, 683, 684, 685, 686, 687, 688, 689, 690, 727, 728, 729, 730, 732, 733, 734] (by decide +kernel) (by decide +kernel)
set_option maxRecDepth 20000 in
theorem gL_law_X5_stroke : GoodIn wsL_law (wsV RL 56 RX5 yX5_stroke wsX5_stroke) := goodIn_app (goodIn_of _ (by decide +kernel)) ggL_law_X5_stroke
set_option maxRecDepth 20000 in
theorem ggL_law_X6_stroke : GoodIn wsL_law wsX6_stroke := goodIn_r _ [407, 390, 391, 392, 5, 393, 212, 103, 104, 105, 408, 409, 410, 411, 66, 67, 363, 364, 365, 691, 692, 693, 694, 695, 696, 697, 698, 699, 700, 701, 702, 703, 704, 705, 706, 707, 708, 709, 710, 711, 712, 713, 714, 715, 716, 717, 718, 719, 720, 721, 722, 723, 724] (by decide +kernel) (by decide +kernel)
set_option maxRecDepth 20000 in
theorem gL_law_X6_stroke : GoodIn wsL_law (wsV RL 59 RX6 yX6_stroke wsX6_stroke) := goodIn_app (goodIn_of _ (by decide +kernel)) ggL_law_X6_stroke
set_option maxRecDepth 20000 in
theorem ggL_law_X5_dinner : GoodIn wsL_law wsX5_dinner := goodIn_r _ [415, 416, 417, 418, 2, 419, 168, 86, 87, 88, 224, 225, 226, 227, 26, 21, 169, 228, 229, 230, 25, 231, 59, 232, 233, 234, 38, 235, 187, 236, 237, 238, 239, 47, 240, 241, 242, 243, 244, 245, 246, 247, 48, 248, 249, 250, 251, 252, 253, 254, 255, 420, 421, 422, 423, 268, 269, 270, 271, 272, 273, 274, 275, 260, 261, 262, 20, 263, 35, 256, 257, 258, 259, 17, 276, 277, 278, 279, 280, 281, 282, 283, 284, 285, 286, 682, 683, 684, 685, 686, 687, 688, 689, 690, 727, 728, 729, 730, 731, 732, 733, 734] (by decide +kernel) (by decide +kernel)
set_option maxRecDepth 20000 in
theorem gL_law_X5_dinner : GoodIn wsL_law (wsV RL 60 RX5 yX5_dinner wsX5_dinner) := goodIn_app (goodIn_of _ (by decide +kernel)) ggL_law_X5_dinner
set_option maxRecDepth 20000 in
theorem ggL_law_X6_dinner : GoodIn wsL_law wsX6_dinner := goodIn_r _ [427, 211, 103, 104, 5, 105, 428, 429, 430, 431, 432, 433, 434, 435, 436, 437, 438, 307, 308, 309, 310, 311, 312, 313, 314, 65, 64, 315, 316, 317, 318, 212, 319, 66, 67, 320, 321, 322, 323, 324, 325, 326, 691, 692, 693, 694, 695, 696, 697, 698, 699, 700, 701, 702, 703, 704, 705, 706, 707, 708, 709, 710, 711, 712, 713, 714, 715, 716, 717, 718, 719, 720, 721, 722, 723, 724] (by decide +kernel) (by decide +kernel)
set_option maxRecDepth 20000 in
theorem gL_law_X6_dinner : GoodIn wsL_law (wsV RL 63 RX6 yX6_dinner wsX6_dinner) := goodIn_app (goodIn_of _ (by decide +kernel)) ggL_law_X6_dinner
set_option maxRecDepth 20000 in
theorem ggL_law_X5_best : GoodIn wsL_law wsX5_best := goodIn_r _ [442, 168, 370, 371, 2, 372, 86, 87, 88, 355, 356, 357, 358, 224, 225, 226, 227, 26, 21, 169, 228, 229, 230, 25, 231, 59, 232, 233, 234, 38, 235, 187, 236, 237, 238, 239, 47, 240, 241, 242, 243, 244, 245, 246, 247, 48, 248, 249, 250, 251, 252, 253, 254, 255, 443, 444, 445, 446, 27, 447, 448, 449, 450, 451, 452, 453, 454, 264, 265, 266, 267, 268, 269, 270, 271, 272, 273, 274, 275, 260, 261, 262, 20, 263, 35, 256, 257, 258, 259, 17, 276, 277, 278, 279, 280, 281, 282, 283, 284, 285, 286, 682, 683, 684, 685, 686, 687, 688, 689, 690, 727, 728, 729, 730, 731, 732, 733, 734] (by decide +kernel) (by decide +kernel)
set_option maxRecDepth 20000 in
theorem gL_law_X5_best : GoodIn wsL_law (wsV RL 64 RX5 yX5_best wsX5_best) := goodIn_app (goodIn_of _ (by decide +kernel)) ggL_law_X5_best
set_option maxRecDepth 20000 in
theorem ggL_law_X6_best : GoodIn wsL_law wsX6_best := goodIn_r _ [458, 211, 103, 104, 5, 105, 459, 460, 461, 462, 319, 463, 464, 465, 466, 66, 212, 67, 467, 468, 469, 470, 303, 304, 305, 306, 307, 308, 309, 310, 311, 312, 313, 314, 65, 64, 315, 316, 317, 318, 320, 321, 322, 323, 324, 325, 326, 691, 692, 693, 694, 695, 696, 697, 698, 699, 700, 701, 702, 703, 704, 705, 706, 707, 708, 709, 710, 711, 712, 713, 714, 715, 716, 717, 718, 719, 720, 721, 722, 723, 724] (by decide +kernel) (by decide +kernel)
set_option maxRecDepth 20000 in
theorem gL_law_X6_best : GoodIn wsL_law (wsV RL 67 RX6 yX6_best wsX6_best) := goodIn_app (goodIn_of _ (by decide +kernel)) ggL_law_X6_best
set_option maxRecDepth 20000 in
theorem ggL_law_X5_hear : GoodIn wsL_law wsX5_hear := goodIn_r _ [474, 21, 475, 220, 221, 222, 2, 223, 168, 86, 87, 88, 352, 353, 354, 370, 371, 372, 476, 477, 478, 42, 479, 192, 52, 53, 54, 55, 480, 481, 482, 483, 682, 683, 684, 685, 686, 687, 688, 689, 690, 727, 728, 729, 730, 735, 736, 737, 738, 739] (by decide +kernel) (by decide +kernel)
set_option maxRecDepth 20000 in
theorem gL_law_X5_hear : GoodIn wsL_law (wsV RL 68 RX5 yX5_hear wsX5_hear) := goodIn_app (goodIn_of _ (by decide +kernel)) ggL_law_X5_hear
set_option maxRecDepth 20000 in
theorem ggL_law_X6_hear : GoodIn wsL_law wsX6_hear := goodIn_r _ [487, 215, 68, 69, 70, 71, 295, 296, 297, 5, 298, 211, 103, 104, 105, 363, 364, 365, 691, 692, 693, 694, 695, 696, 697, 698, 699, 700, 701, 702, 703, 704, 705, 706, 707, 708, 709, 710, 711, 712, 713, 714, 715, 716, 717, 718, 719, 720, 721, 722, 723, 724] (by decide +kernel) (by decide +kernel)
set_option maxRecDepth 20000 in
theorem gL_law_X6_hear : GoodIn wsL_law (wsV RL 72 RX6 yX6_hear wsX6_hear) := goodIn_app (goodIn_of _ (by decide +kernel)) ggL_law_X6_hear
set_option maxRecDepth 20000 in
theorem ggL_law_X5_forget : GoodIn wsL_law wsX5_forget := goodIn_r _ [491, 21, 475, 492, 189, 190, 42, 191, 192, 682, 683, 684, 685, 686, 687, 688, 689, 690, 727, 728, 729, 730, 735, 736, 737, 738, 739] (by decide +kernel) (by decide +kernel)
set_option maxRecDepth 20000 in
theorem gL_law_X5_forget : GoodIn wsL_law (wsV RL 73 RX5 yX5_forget wsX5_forget) := goodIn_app (goodIn_of _ (by decide +kernel)) ggL_law_X5_forget
set_option maxRecDepth 20000 in
theorem ggL_law_X6_forget : GoodIn wsL_law wsX6_forget := goodIn_r _ [496, 215, 691, 692, 693, 694, 695, 696, 697, 698, 699, 700, 701, 702, 703, 704, 705, 706, 707, 708, 709, 710, 711, 712, 713, 714, 715, 716, 717, 718, 719, 720, 721, 722, 723, 724] (by decide +kernel) (by decide +kernel)
set_option maxRecDepth 20000 in
theorem gL_law_X6_forget : GoodIn wsL_law (wsV RL 76 RX6 yX6_forget wsX6_forget) := goodIn_app (goodIn_of _ (by decide +kernel)) ggL_law_X6_forget
set_option maxRecDepth 20000 in
theorem ggL_law_X5_hours : GoodIn wsL_law wsX5_hours := goodIn_r _ [500, 355, 356, 357, 2, 358, 168, 224, 225, 226, 227, 26, 21, 169, 228, 229, 230, 25, 231, 59, 232, 233, 234, 38, 235, 187, 236, 237, 238, 239, 47, 240, 241, 242, 243, 87, 88, 244, 245, 246, 247, 48, 248, 249, 250, 251, 252, 253, 254, 255, 501, 502, 503, 504, 475, 480, 481, 482, 42, 483, 192, 505, 506, 507, 508, 54, 509, 510, 511, 512, 443, 444, 445, 446, 27, 447, 448, 449, 450, 513, 514, 515, 516, 52, 517, 518, 519, 520, 53, 268, 269, 270, 271, 272, 273, 274, 275, 260, 261, 262, 20, 263, 35, 256, 257, 258, 259, 17, 86, 276, 277, 278, 279, 280, 281, 282, 283, 284, 285, 286, 521, 522, 523, 524, 55, 682, 683, 684, 685, 686, 687, 688, 689, 690, 727, 728, 729, 730, 731, 732, 733, 734, 735, 736, 737, 738, 739] (by decide +kernel) (by decide +kernel)
set_option maxRecDepth 20000 in
theorem gL_law_X5_hours : GoodIn wsL_law (wsV RL 77 RX5 yX5_hours wsX5_hours) := goodIn_app (goodIn_of _ (by decide +kernel)) ggL_law_X5_hours
set_option maxRecDepth 20000 in
theorem ggL_law_X6_hours : GoodIn wsL_law wsX6_hours := goodIn_r _ [528, 211, 529, 530, 531, 5, 532, 533, 534, 535, 536, 215, 70, 68, 69, 71, 319, 463, 464, 465, 466, 66, 212, 67, 307, 308, 309, 310, 311, 312, 313, 314, 65, 64, 315, 316, 317, 318, 320, 321, 322, 323, 324, 325, 326, 691, 692, 693, 694, 695, 696, 697, 698, 699, 700, 701, 702, 703, 704, 705, 706, 707, 708, 709, 710, 711, 712, 713, 714, 715, 716, 717, 718, 719, 720, 721, 722, 723, 724] (by decide +kernel) (by decide +kernel)
set_option maxRecDepth 20000 in
theorem gL_law_X6_hours : GoodIn wsL_law (wsV RL 80 RX6 yX6_hours wsX6_hours) := goodIn_app (goodIn_of _ (by decide +kernel)) ggL_law_X6_hours
set_option maxRecDepth 20000 in
theorem ggL_law_X5_ask : GoodIn wsL_law wsX5_ask := goodIn_r _ [540, 21, 475, 168, 352, 353, 2, 354, 86, 87, 88, 355, 356, 357, 358, 541, 498, 499, 500, 224, 225, 226, 227, 26, 169, 228, 229, 230, 25, 231, 59, 232, 233, 234, 38, 235, 187, 236, 237, 238, 239, 47, 240, 241, 242, 243, 244, 245, 246, 247, 48, 248, 249, 250, 251, 252, 253, 254, 255, 501, 502, 503, 504, 480, 481, 482, 42, 483, 192, 505, 506, 507, 508, 54, 509, 510, 511, 512, 443, 444, 445, 446, 27, 447, 448, 449, 450, 513, 514, 515, 516, 52, 517, 518, 519, 520, 53, 268, 269, 270, 271, 272, 273, 274, 275, 260, 261, 262, 20, 263, 35, 256, 257, 258, 259, 17, 276, 277, 278, 279, 280, 281, 282, 283, 284, 285, 286, 521, 522, 523, 524, 55, 542, 543, 544, 545, 546, 547, 548, 549, 550, 682, 683, 684, 685, 686, 687, 688, 689, 690, 727, 728, 729, 730, 731, 732, 733, 734, 735, 736, 737, 738, 739] (by decide +kernel) (by decide +kernel)
set_option maxRecDepth 20000 in
theorem gL_law_X5_ask : GoodIn wsL_law (wsV RL 81 RX5 yX5_ask wsX5_ask) := goodIn_app (goodIn_of _ (by decide +kernel)) ggL_law_X5_ask
set_option maxRecDepth 20000 in
theorem ggL_law_X6_ask : GoodIn wsL_law wsX6_ask := goodIn_r _ [554, 211, 363, 364, 5, 365, 103, 104, 105, 555, 556, 557, 558, 215, 559, 529, 530, 531, 532, 533, 534, 535, 536, 70, 68, 69, 71, 319, 463, 464, 465, 466, 66, 212, 67, 307, 308, 309, 310, 311, 312, 313, 314, 65, 64, 315, 316, 317, 318, 320, 321, 322, 323, 324, 325, 326, 560, 561, 562, 563, 436, 437, 438, 691, 692, 693, 694, 695, 696, 697, 698, 699, 700, 701, 702, 703, 704, 705, 706, 707, 708, 709, 710, 711, 712, 713, 714, 715, 716, 717, 718, 719, 720, 721, 722, 723, 724] (by decide +kernel) (by decide +kernel)
set_option maxRecDepth 20000 in
theorem gL_law_X6_ask : GoodIn wsL_law (wsV RL 84 RX6 yX6_ask wsX6_ask) := goodIn_app (goodIn_of _ (by decide +kernel)) ggL_law_X6_ask
set_option maxRecDepth 20000 in
theorem ggL_law_X5_weeks : GoodIn wsL_law wsX5_weeks := goodIn_r _ [567, 27, 86, 87, 2, 88, 355, 356, 357, 358, 168, 568, 569, 570, 571, 21, 169, 572, 573, 574, 575, 228, 229, 230, 25, 231, 59, 232, 233, 234, 38, 235, 187, 244, 245, 246, 247, 48, 240, 241, 242, 243, 248, 249, 250, 251, 252, 253, 254, 255, 451, 452, 453, 454, 264, 265, 266, 267, 268, 269, 270, 271, 272, 273, 274, 275, 260, 261, 262, 20, 263, 35, 256, 257, 258, 259, 17, 276, 277, 278, 279, 280, 281, 282, 283, 284, 285, 286, 682, 683, 684, 685, 686, 687, 688, 689, 690, 727, 728, 729, 730, 731, 732, 733, 734] (by decide +kernel) (by decide +kernel)
set_option maxRecDepth 20000 in
theorem gL_law_X5_weeks : GoodIn wsL_law (wsV RL 85 RX5 yX5_weeks wsX5_weeks) := goodIn_app (goodIn_of _ (by decide +kernel)) ggL_law_X5_weeks
set_option maxRecDepth 20000 in
theorem ggL_law_X6_weeks : GoodIn wsL_law wsX6_weeks := goodIn_r _ [579, 211, 103, 104, 5, 105, 580, 581, 582, 583, 74, 66, 584, 212, 585, 586, 587, 588, 589, 590, 591, 592, 467, 468, 469, 470, 303, 304, 305, 306, 307, 308, 309, 310, 311, 312, 313, 314, 65, 64, 315, 316, 317, 318, 319, 67, 320, 321, 322, 323, 324, 325, 326, 691, 692, 693, 694, 695, 696, 697, 698, 699, 700, 701, 702, 703, 704, 705, 706, 707, 708, 709, 710, 711, 712, 713, 714, 715, 716, 717, 718, 719, 720, 721, 722, 723, 724] (by decide +kernel) (by decide +kernel)
set_option maxRecDepth 20000 in
theorem gL_law_X6_weeks : GoodIn wsL_law (wsV RL 89 RX6 yX6_weeks wsX6_weeks) := goodIn_app (goodIn_of _ (by decide +kernel)) ggL_law_X6_weeks
set_option maxRecDepth 20000 in
theorem ggL_law_X5_image : GoodIn wsL_law wsX5_image := goodIn_r _ [596, 22, 21, 170, 343, 355, 356, 357, 2, 358, 168, 597, 598, 599, 20, 600, 35, 39, 43, 182, 601, 602, 603, 38, 604, 187, 47, 48, 605, 606, 607, 42, 608, 192, 52, 53, 54, 55, 682, 683, 684, 685, 686, 687, 688, 689, 690, 727, 728, 729, 730, 732, 733, 734, 735, 736, 737, 738, 739] (by decide +kernel) (by decide +kernel)
set_option maxRecDepth 20000 in
theorem gL_law_X5_image : GoodIn wsL_law (wsV RL 90 RX5 yX5_image wsX5_image) := goodIn_app (goodIn_of _ (by decide +kernel)) ggL_law_X5_image
set_option maxRecDepth 20000 in
theorem ggL_law_X6_image : GoodIn wsL_law wsX6_image := goodIn_r _ [612, 211, 613, 213, 614, 212, 615, 214, 616, 215, 617, 75, 65, 76, 66, 77, 67, 78, 68, 79, 69, 80, 70, 81, 71, 691, 692, 693, 694, 695, 696, 697, 698, 699, 700, 701, 702, 703, 704, 705, 706, 707, 708, 709, 710, 711, 712, 713, 714, 715, 716, 717, 718, 719, 720, 721, 722, 723, 724] (by decide +kernel) (by decide +kernel)
set_option maxRecDepth 20000 in
theorem gL_law_X6_image : GoodIn wsL_law (wsV RL 93 RX6 yX6_image wsX6_image) := goodIn_app (goodIn_of _ (by decide +kernel)) ggL_law_X6_image
set_option maxRecDepth 20000 in
theorem ggL_law_X5_restore : GoodIn wsL_law wsX5_restore := goodIn_r _ [621, 170, 21, 22, 343, 597, 598, 599, 20, 600, 35, 39, 43, 182, 601, 602, 603, 38, 604, 187, 47, 48, 605, 606, 607, 42, 608, 192, 52, 53, 54, 55, 682, 683, 684, 685, 686, 687, 688, 689, 690, 727, 728, 729, 730, 732, 733, 734, 735, 736, 737, 738, 739] (by decide +kernel) (by decide +kernel)
set_option maxRecDepth 20000 in
theorem gL_law_X5_restore : GoodIn wsL_law (wsV RL 94 RX5 yX5_restore wsX5_restore) := goodIn_app (goodIn_of _ (by decide +kernel)) ggL_law_X5_restore
set_option maxRecDepth 20000 in
theorem ggL_law_X6_restore : GoodIn wsL_law wsX6_restore := goodIn_r _ [625, 613, 614, 213, 615, 212, 616, 214, 617, 215, 65, 75, 66, 76, 67, 77, 68, 78, 69, 79, 70, 80, 71, 81, 691, 692, 693, 694, 695, 696, 697, 698, 699, 700, 701, 702, 703, 704, 705, 706, 707, 708, 709, 710, 711, 712, 713, 714, 715, 716, 717, 718, 719, 720, 721, 722, 723, 724] (by decide +kernel) (by decide +kernel)
set_option maxRecDepth 20000 in
theorem gL_law_X6_restore : GoodIn wsL_law (wsV RL 97 RX6 yX6_restore wsX6_restore) := goodIn_app (goodIn_of _ (by decide +kernel)) ggL_law_X6_restore
set_option maxRecDepth 20000 in
theorem ggL_law_X5_count : GoodIn wsL_law wsX5_count := goodIn_r _ [629, 168, 21, 169, 343, 475, 15, 171, 232, 233, 234, 38, 235, 187, 224, 225, 226, 2, 227, 26, 228, 229, 230, 25, 231, 59, 236, 237, 238, 239, 47, 240, 241, 242, 243, 87, 88, 244, 245, 246, 247, 48, 248, 249, 250, 251, 252, 253, 254, 255, 630, 631, 632, 633, 634, 277, 278, 279, 280, 274, 275, 451, 452, 453, 454, 264, 265, 266, 267, 268, 269, 270, 271, 272, 273, 260, 261, 262, 20, 263, 35, 256, 257, 258, 259, 17, 86, 276, 281, 282, 283, 284, 285, 286, 480, 481, 482, 42, 483, 192, 94, 95, 96, 14, 97, 93, 682, 683, 684, 685, 686, 687, 688, 689, 690, 727, 728, 729, 730, 732, 733, 734, 731, 735, 736, 737, 738, 739, 725, 726] (by decide +kernel) (by decide +kernel)
set_option maxRecDepth 20000 in
theorem gL_law_X5_count : GoodIn wsL_law (wsV RL 98 RX5 yX5_count wsX5_count) := goodIn_app (goodIn_of _ (by decide +kernel)) ggL_law_X5_count
set_option maxRecDepth 20000 in
theorem ggL_law_X6_count : GoodIn wsL_law wsX6_count := goodIn_r _ [638, 639, 640, 641, 5, 642, 211, 212, 214, 215, 102, 213, 643, 644, 645, 646, 315, 316, 317, 318, 319, 66, 67, 467, 468, 469, 470, 303, 304, 305, 306, 307, 308, 309, 310, 311, 312, 313, 314, 65, 64, 320, 321, 322, 323, 324, 325, 326, 691, 692, 693, 694, 695, 696, 697, 698, 699, 700, 701, 702, 703, 704, 705, 706, 707, 708, 709, 710, 711, 712, 713, 714, 715, 716, 717, 718, 719, 720, 721, 722, 723, 724] (by decide +kernel) (by decide +kernel)
set_option maxRecDepth 20000 in
theorem gL_law_X6_count : GoodIn wsL_law (wsV RL 101 RX6 yX6_count wsX6_count) := goodIn_app (goodIn_of _ (by decide +kernel)) ggL_law_X6_count
set_option maxRecDepth 20000 in
theorem ggL_law_X5_digest : GoodIn wsL_law wsX5_digest := goodIn_r _ [650, 651, 15, 652, 653, 654, 2, 655, 168, 656, 217, 218, 219, 21, 220, 221, 222, 223, 86, 87, 88, 224, 225, 226, 227, 26, 169, 228, 229, 230, 25, 231, 59, 232, 233, 234, 38, 235, 187, 236, 237, 238, 239, 47, 240, 241, 242, 243, 244, 245, 246, 247, 48, 248, 249, 250, 251, 252, 253, 254, 255, 256, 257, 258, 259, 17, 260, 261, 262, 20, 263, 35, 264, 265, 266, 267, 268, 269, 270, 271, 272, 273, 274, 275, 276, 277, 278, 279, 280, 281, 282, 283, 284, 285, 286, 287, 288, 289, 290, 657, 658, 659, 660, 661, 662, 663, 664, 665, 395, 396, 397, 381, 398, 399, 400, 401, 402, 403, 355, 356, 357, 358, 666, 349, 350, 351, 352, 353, 354, 416, 417, 418, 419, 667, 413, 414, 415, 420, 421, 422, 423, 668, 440, 441, 442, 370, 371, 372, 443, 444, 445, 446, 27, 447, 448, 449, 450, 451, 452, 453, 454, 541, 498, 499, 500, 501, 502, 503, 504, 475, 480, 481, 482, 42, 483, 192, 505, 506, 507, 508, 54, 509, 510, 511, 512, 513, 514, 515, 516, 52, 517, 518, 519, 520, 53, 521, 522, 523, 524, 55, 669, 538, 539, 540, 542, 543, 544, 545, 546, 547, 548, 549, 550, 94, 95, 96, 14, 97, 93, 193, 131, 132, 133, 31, 670, 627, 628, 629, 343, 171, 630, 631, 632, 633, 634, 682, 683, 684, 685, 686, 687, 688, 689, 690, 727, 728, 729, 730, 731, 732, 733, 734, 735, 736, 737, 738, 739, 725, 726] (by decide +kernel) (by decide +kernel)
set_option maxRecDepth 20000 in
theorem gL_law_X5_digest : GoodIn wsL_law (wsV RL 102 RX5 yX5_digest wsX5_digest) := goodIn_app (goodIn_of _ (by decide +kernel)) ggL_law_X5_digest
set_option maxRecDepth 20000 in
theorem ggL_law_X6_digest : GoodIn wsL_law wsX6_digest := goodIn_r _ [674, 675, 676, 211, 212, 102, 73, 299, 300, 301, 5, 302, 64, 65, 303, 304, 305, 306, 307, 308, 309, 310, 311, 312, 313, 314, 315, 316, 317, 318, 319, 66, 67, 320, 321, 322, 323, 324, 325, 326, 327, 328, 329, 330, 677, 678, 679, 680, 681, 408, 409, 410, 411, 363, 364, 365, 103, 104, 105, 428, 429, 430, 431, 432, 433, 434, 435, 436, 437, 438, 459, 460, 461, 462, 463, 464, 465, 466, 467, 468, 469, 470, 529, 530, 531, 532, 533, 534, 535, 536, 215, 70, 68, 69, 71, 555, 556, 557, 558, 559, 560, 561, 562, 563, 639, 640, 641, 642, 214, 213, 643, 644, 645, 646, 691, 692, 693, 694, 695, 696, 697, 698, 699, 700, 701, 702, 703, 704, 705, 706, 707, 708, 709, 710, 711, 712, 713, 714, 715, 716, 717, 718, 719, 720, 721, 722, 723, 724] (by decide +kernel) (by decide +kernel)
set_option maxRecDepth 20000 in
theorem gL_law_X6_digest : GoodIn wsL_law (wsV RL 106 RX6 yX6_digest wsX6_digest) := goodIn_app (goodIn_of _ (by decide +kernel)) ggL_law_X6_digest
theorem dL_law_0 : decode cL_law 0 = .ok (.new 7, 3) := by decide +kernel
theorem dL_law_3 : decode cL_law 3 = .ok (.dup, 1) := by decide +kernel
theorem dL_law_4 : decode cL_law 4 = .ok (.invokespecial 9, 3) := by decide +kernel
theorem dL_law_7 : decode cL_law 7 = .ok (.astore_n 1, 1) := by decide +kernel
theorem dL_law_8 : decode cL_law 8 = .ok (.new 10, 3) := by decide +kernel
theorem dL_law_11 : decode cL_law 11 = .ok (.dup, 1) := by decide +kernel
theorem dL_law_12 : decode cL_law 12 = .ok (.invokespecial 12, 3) := by decide +kernel
theorem dL_law_15 : decode cL_law 15 = .ok (.astore_n 2, 1) := by decide +kernel
theorem dL_law_16 : decode cL_law 16 = .ok (.iconst 0, 1) := by decide +kernel
theorem dL_law_17 : decode cL_law 17 = .ok (.istore_n 3, 1) := by decide +kernel
theorem dL_law_18 : decode cL_law 18 = .ok (.iload_n 3, 1) := by decide +kernel
theorem dL_law_19 : decode cL_law 19 = .ok (.aload_n 0, 1) := by decide +kernel
theorem dL_law_20 : decode cL_law 20 = .ok (.arraylength, 1) := by decide +kernel
theorem dL_law_21 : decode cL_law 21 = .ok (.iconst 5, 1) := by decide +kernel
theorem dL_law_22 : decode cL_law 22 = .ok (.isub, 1) := by decide +kernel
theorem dL_law_23 : decode cL_law 23 = .ok (.if_icmp .gt 676, 3) := by decide +kernel
theorem dL_law_26 : decode cL_law 26 = .ok (.aload_n 0, 1) := by decide +kernel
theorem dL_law_27 : decode cL_law 27 = .ok (.iload_n 3, 1) := by decide +kernel
theorem dL_law_28 : decode cL_law 28 = .ok (.iaload, 1) := by decide +kernel
theorem dL_law_29 : decode cL_law 29 = .ok (.bipush 31, 2) := by decide +kernel
theorem dL_law_31 : decode cL_law 31 = .ok (.iand, 1) := by decide +kernel
theorem dL_law_32 : decode cL_law 32 = .ok (.tableswitch 661 0 21 #[104, 127, 140, 153, 166, 199, 232, 265, 288, 321, 354, 387, 420, 453, 506, 519, 532, 555, 598, 611, 624, 647], 104) := by decide +kernel
theorem dL_law_136 : decode cL_law 136 = .ok (.aload_n 1, 1) := by decide +kernel
theorem dL_law_137 : decode cL_law 137 = .ok (.aload_n 0, 1) := by decide +kernel
theorem dL_law_138 : decode cL_law 138 = .ok (.iload_n 3, 1) := by decide +kernel
theorem dL_law_139 : decode cL_law 139 = .ok (.iconst 1, 1) := by decide +kernel
theorem dL_law_140 : decode cL_law 140 = .ok (.iadd, 1) := by decide +kernel
theorem dL_law_141 : decode cL_law 141 = .ok (.iaload, 1) := by decide +kernel
theorem dL_law_142 : decode cL_law 142 = .ok (.invokevirtual 13, 3) := by decide +kernel
theorem dL_law_145 : decode cL_law 145 = .ok (.aload_n 2, 1) := by decide +kernel
theorem dL_law_146 : decode cL_law 146 = .ok (.aload_n 0, 1) := by decide +kernel
theorem dL_law_147 : decode cL_law 147 = .ok (.iload_n 3, 1) := by decide +kernel
theorem dL_law_148 : decode cL_law 148 = .ok (.iconst 1, 1) := by decide +kernel
theorem dL_law_149 : decode cL_law 149 = .ok (.iadd, 1) := by decide +kernel
theorem dL_law_150 : decode cL_law 150 = .ok (.iaload, 1) := by decide +kernel
theorem dL_law_151 : decode cL_law 151 = .ok (.invokevirtual 17, 3) := by decide +kernel
theorem dL_law_154 : decode cL_law 154 = .ok (.if_icmp .eq 539, 3) := by decide +kernel
theorem dL_law_157 : decode cL_law 157 = .ok (.iconst 0, 1) := by decide +kernel
theorem dL_law_158 : decode cL_law 158 = .ok (.ireturn, 1) := by decide +kernel
theorem dL_law_159 : decode cL_law 159 = .ok (.aload_n 1, 1) := by decide +kernel
end
section
theorem dL_law_160 : decode cL_law 160 = .ok (.invokevirtual 18, 3) := by decide +kernel
theorem dL_law_163 : decode cL_law 163 = .ok (.aload_n 2, 1) := by decide +kernel
theorem dL_law_164 : decode cL_law 164 = .ok (.invokevirtual 22, 3) := by decide +kernel
theorem dL_law_167 : decode cL_law 167 = .ok (.if_icmp .eq 526, 3) := by decide +kernel
theorem dL_law_170 : decode cL_law 170 = .ok (.iconst 0, 1) := by decide +kernel
theorem dL_law_171 : decode cL_law 171 = .ok (.ireturn, 1) := by decide +kernel
theorem dL_law_172 : decode cL_law 172 = .ok (.aload_n 1, 1) := by decide +kernel
theorem dL_law_173 : decode cL_law 173 = .ok (.invokevirtual 23, 3) := by decide +kernel
theorem dL_law_176 : decode cL_law 176 = .ok (.aload_n 2, 1) := by decide +kernel
theorem dL_law_177 : decode cL_law 177 = .ok (.invokevirtual 26, 3) := by decide +kernel
theorem dL_law_180 : decode cL_law 180 = .ok (.if_icmp .eq 513, 3) := by decide +kernel
theorem dL_law_183 : decode cL_law 183 = .ok (.iconst 0, 1) := by decide +kernel
theorem dL_law_184 : decode cL_law 184 = .ok (.ireturn, 1) := by decide +kernel
theorem dL_law_185 : decode cL_law 185 = .ok (.aload_n 1, 1) := by decide +kernel
theorem dL_law_186 : decode cL_law 186 = .ok (.invokevirtual 27, 3) := by decide +kernel
theorem dL_law_189 : decode cL_law 189 = .ok (.aload_n 2, 1) := by decide +kernel
theorem dL_law_190 : decode cL_law 190 = .ok (.invokevirtual 30, 3) := by decide +kernel
theorem dL_law_193 : decode cL_law 193 = .ok (.if_icmp .eq 500, 3) := by decide +kernel
theorem dL_law_196 : decode cL_law 196 = .ok (.iconst 0, 1) := by decide +kernel
theorem dL_law_197 : decode cL_law 197 = .ok (.ireturn, 1) := by decide +kernel
theorem dL_law_198 : decode cL_law 198 = .ok (.aload_n 1, 1) := by decide +kernel
theorem dL_law_199 : decode cL_law 199 = .ok (.aload_n 0, 1) := by decide +kernel
theorem dL_law_200 : decode cL_law 200 = .ok (.iload_n 3, 1) := by decide +kernel
theorem dL_law_201 : decode cL_law 201 = .ok (.iconst 1, 1) := by decide +kernel
theorem dL_law_202 : decode cL_law 202 = .ok (.iadd, 1) := by decide +kernel
theorem dL_law_203 : decode cL_law 203 = .ok (.iaload, 1) := by decide +kernel
theorem dL_law_204 : decode cL_law 204 = .ok (.aload_n 0, 1) := by decide +kernel
theorem dL_law_205 : decode cL_law 205 = .ok (.iload_n 3, 1) := by decide +kernel
theorem dL_law_206 : decode cL_law 206 = .ok (.iconst 2, 1) := by decide +kernel
theorem dL_law_207 : decode cL_law 207 = .ok (.iadd, 1) := by decide +kernel
theorem dL_law_208 : decode cL_law 208 = .ok (.iaload, 1) := by decide +kernel
theorem dL_law_209 : decode cL_law 209 = .ok (.invokevirtual 31, 3) := by decide +kernel
theorem dL_law_212 : decode cL_law 212 = .ok (.aload_n 2, 1) := by decide +kernel
theorem dL_law_213 : decode cL_law 213 = .ok (.aload_n 0, 1) := by decide +kernel
theorem dL_law_214 : decode cL_law 214 = .ok (.iload_n 3, 1) := by decide +kernel
theorem dL_law_215 : decode cL_law 215 = .ok (.iconst 1, 1) := by decide +kernel
theorem dL_law_216 : decode cL_law 216 = .ok (.iadd, 1) := by decide +kernel
theorem dL_law_217 : decode cL_law 217 = .ok (.iaload, 1) := by decide +kernel
theorem dL_law_218 : decode cL_law 218 = .ok (.aload_n 0, 1) := by decide +kernel
theorem dL_law_219 : decode cL_law 219 = .ok (.iload_n 3, 1) := by decide +kernel
theorem dL_law_220 : decode cL_law 220 = .ok (.iconst 2, 1) := by decide +kernel
theorem dL_law_221 : decode cL_law 221 = .ok (.iadd, 1) := by decide +kernel
theorem dL_law_222 : decode cL_law 222 = .ok (.iaload, 1) := by decide +kernel
theorem dL_law_223 : decode cL_law 223 = .ok (.invokevirtual 35, 3) := by decide +kernel
theorem dL_law_226 : decode cL_law 226 = .ok (.if_icmp .eq 467, 3) := by decide +kernel
theorem dL_law_229 : decode cL_law 229 = .ok (.iconst 0, 1) := by decide +kernel
theorem dL_law_230 : decode cL_law 230 = .ok (.ireturn, 1) := by decide +kernel
theorem dL_law_231 : decode cL_law 231 = .ok (.aload_n 1, 1) := by decide +kernel
theorem dL_law_232 : decode cL_law 232 = .ok (.aload_n 0, 1) := by decide +kernel
theorem dL_law_233 : decode cL_law 233 = .ok (.iload_n 3, 1) := by decide +kernel
theorem dL_law_234 : decode cL_law 234 = .ok (.iconst 1, 1) := by decide +kernel
theorem dL_law_235 : decode cL_law 235 = .ok (.iadd, 1) := by decide +kernel
theorem dL_law_236 : decode cL_law 236 = .ok (.iaload, 1) := by decide +kernel
theorem dL_law_237 : decode cL_law 237 = .ok (.aload_n 0, 1) := by decide +kernel
theorem dL_law_238 : decode cL_law 238 = .ok (.iload_n 3, 1) := by decide +kernel
theorem dL_law_239 : decode cL_law 239 = .ok (.iconst 2, 1) := by decide +kernel
theorem dL_law_240 : decode cL_law 240 = .ok (.iadd, 1) := by decide +kernel
theorem dL_law_241 : decode cL_law 241 = .ok (.iaload, 1) := by decide +kernel
theorem dL_law_242 : decode cL_law 242 = .ok (.invokevirtual 36, 3) := by decide +kernel
theorem dL_law_245 : decode cL_law 245 = .ok (.aload_n 2, 1) := by decide +kernel
theorem dL_law_246 : decode cL_law 246 = .ok (.aload_n 0, 1) := by decide +kernel
theorem dL_law_247 : decode cL_law 247 = .ok (.iload_n 3, 1) := by decide +kernel
theorem dL_law_248 : decode cL_law 248 = .ok (.iconst 1, 1) := by decide +kernel
theorem dL_law_249 : decode cL_law 249 = .ok (.iadd, 1) := by decide +kernel
theorem dL_law_250 : decode cL_law 250 = .ok (.iaload, 1) := by decide +kernel
theorem dL_law_251 : decode cL_law 251 = .ok (.aload_n 0, 1) := by decide +kernel
theorem dL_law_252 : decode cL_law 252 = .ok (.iload_n 3, 1) := by decide +kernel
theorem dL_law_253 : decode cL_law 253 = .ok (.iconst 2, 1) := by decide +kernel
theorem dL_law_254 : decode cL_law 254 = .ok (.iadd, 1) := by decide +kernel
theorem dL_law_255 : decode cL_law 255 = .ok (.iaload, 1) := by decide +kernel
theorem dL_law_256 : decode cL_law 256 = .ok (.invokevirtual 39, 3) := by decide +kernel
theorem dL_law_259 : decode cL_law 259 = .ok (.if_icmp .eq 434, 3) := by decide +kernel
theorem dL_law_262 : decode cL_law 262 = .ok (.iconst 0, 1) := by decide +kernel
theorem dL_law_263 : decode cL_law 263 = .ok (.ireturn, 1) := by decide +kernel
theorem dL_law_264 : decode cL_law 264 = .ok (.aload_n 1, 1) := by decide +kernel
theorem dL_law_265 : decode cL_law 265 = .ok (.aload_n 0, 1) := by decide +kernel
theorem dL_law_266 : decode cL_law 266 = .ok (.iload_n 3, 1) := by decide +kernel
theorem dL_law_267 : decode cL_law 267 = .ok (.iconst 1, 1) := by decide +kernel
theorem dL_law_268 : decode cL_law 268 = .ok (.iadd, 1) := by decide +kernel
theorem dL_law_269 : decode cL_law 269 = .ok (.iaload, 1) := by decide +kernel
theorem dL_law_270 : decode cL_law 270 = .ok (.aload_n 0, 1) := by decide +kernel
theorem dL_law_271 : decode cL_law 271 = .ok (.iload_n 3, 1) := by decide +kernel
theorem dL_law_272 : decode cL_law 272 = .ok (.iconst 2, 1) := by decide +kernel
theorem dL_law_273 : decode cL_law 273 = .ok (.iadd, 1) := by decide +kernel
theorem dL_law_274 : decode cL_law 274 = .ok (.iaload, 1) := by decide +kernel
theorem dL_law_275 : decode cL_law 275 = .ok (.invokevirtual 40, 3) := by decide +kernel
theorem dL_law_278 : decode cL_law 278 = .ok (.aload_n 2, 1) := by decide +kernel
theorem dL_law_279 : decode cL_law 279 = .ok (.aload_n 0, 1) := by decide +kernel
theorem dL_law_280 : decode cL_law 280 = .ok (.iload_n 3, 1) := by decide +kernel
theorem dL_law_281 : decode cL_law 281 = .ok (.iconst 1, 1) := by decide +kernel
theorem dL_law_282 : decode cL_law 282 = .ok (.iadd, 1) := by decide +kernel
theorem dL_law_283 : decode cL_law 283 = .ok (.iaload, 1) := by decide +kernel
theorem dL_law_284 : decode cL_law 284 = .ok (.aload_n 0, 1) := by decide +kernel
theorem dL_law_285 : decode cL_law 285 = .ok (.iload_n 3, 1) := by decide +kernel
theorem dL_law_286 : decode cL_law 286 = .ok (.iconst 2, 1) := by decide +kernel
theorem dL_law_287 : decode cL_law 287 = .ok (.iadd, 1) := by decide +kernel
theorem dL_law_288 : decode cL_law 288 = .ok (.iaload, 1) := by decide +kernel
theorem dL_law_289 : decode cL_law 289 = .ok (.invokevirtual 43, 3) := by decide +kernel
theorem dL_law_292 : decode cL_law 292 = .ok (.if_icmp .eq 401, 3) := by decide +kernel
theorem dL_law_295 : decode cL_law 295 = .ok (.iconst 0, 1) := by decide +kernel
theorem dL_law_296 : decode cL_law 296 = .ok (.ireturn, 1) := by decide +kernel
theorem dL_law_297 : decode cL_law 297 = .ok (.aload_n 1, 1) := by decide +kernel
theorem dL_law_298 : decode cL_law 298 = .ok (.aload_n 0, 1) := by decide +kernel
theorem dL_law_299 : decode cL_law 299 = .ok (.iload_n 3, 1) := by decide +kernel
theorem dL_law_300 : decode cL_law 300 = .ok (.iconst 1, 1) := by decide +kernel
theorem dL_law_301 : decode cL_law 301 = .ok (.iadd, 1) := by decide +kernel
theorem dL_law_302 : decode cL_law 302 = .ok (.iaload, 1) := by decide +kernel
theorem dL_law_303 : decode cL_law 303 = .ok (.invokevirtual 44, 3) := by decide +kernel
theorem dL_law_306 : decode cL_law 306 = .ok (.aload_n 2, 1) := by decide +kernel
theorem dL_law_307 : decode cL_law 307 = .ok (.aload_n 0, 1) := by decide +kernel
theorem dL_law_308 : decode cL_law 308 = .ok (.iload_n 3, 1) := by decide +kernel
theorem dL_law_309 : decode cL_law 309 = .ok (.iconst 1, 1) := by decide +kernel
theorem dL_law_310 : decode cL_law 310 = .ok (.iadd, 1) := by decide +kernel
theorem dL_law_311 : decode cL_law 311 = .ok (.iaload, 1) := by decide +kernel
theorem dL_law_312 : decode cL_law 312 = .ok (.invokevirtual 47, 3) := by decide +kernel
theorem dL_law_315 : decode cL_law 315 = .ok (.if_icmp .eq 378, 3) := by decide +kernel
theorem dL_law_318 : decode cL_law 318 = .ok (.iconst 0, 1) := by decide +kernel
theorem dL_law_319 : decode cL_law 319 = .ok (.ireturn, 1) := by decide +kernel
theorem dL_law_320 : decode cL_law 320 = .ok (.aload_n 1, 1) := by decide +kernel
theorem dL_law_321 : decode cL_law 321 = .ok (.aload_n 0, 1) := by decide +kernel
theorem dL_law_322 : decode cL_law 322 = .ok (.iload_n 3, 1) := by decide +kernel
theorem dL_law_323 : decode cL_law 323 = .ok (.iconst 1, 1) := by decide +kernel
theorem dL_law_324 : decode cL_law 324 = .ok (.iadd, 1) := by decide +kernel
theorem dL_law_325 : decode cL_law 325 = .ok (.iaload, 1) := by decide +kernel
theorem dL_law_326 : decode cL_law 326 = .ok (.aload_n 0, 1) := by decide +kernel
theorem dL_law_327 : decode cL_law 327 = .ok (.iload_n 3, 1) := by decide +kernel
theorem dL_law_328 : decode cL_law 328 = .ok (.iconst 2, 1) := by decide +kernel
theorem dL_law_329 : decode cL_law 329 = .ok (.iadd, 1) := by decide +kernel
theorem dL_law_330 : decode cL_law 330 = .ok (.iaload, 1) := by decide +kernel
theorem dL_law_331 : decode cL_law 331 = .ok (.invokevirtual 48, 3) := by decide +kernel
theorem dL_law_334 : decode cL_law 334 = .ok (.aload_n 2, 1) := by decide +kernel
theorem dL_law_335 : decode cL_law 335 = .ok (.aload_n 0, 1) := by decide +kernel
theorem dL_law_336 : decode cL_law 336 = .ok (.iload_n 3, 1) := by decide +kernel
theorem dL_law_337 : decode cL_law 337 = .ok (.iconst 1, 1) := by decide +kernel
theorem dL_law_338 : decode cL_law 338 = .ok (.iadd, 1) := by decide +kernel
theorem dL_law_339 : decode cL_law 339 = .ok (.iaload, 1) := by decide +kernel
theorem dL_law_340 : decode cL_law 340 = .ok (.aload_n 0, 1) := by decide +kernel
theorem dL_law_341 : decode cL_law 341 = .ok (.iload_n 3, 1) := by decide +kernel
theorem dL_law_342 : decode cL_law 342 = .ok (.iconst 2, 1) := by decide +kernel
theorem dL_law_343 : decode cL_law 343 = .ok (.iadd, 1) := by decide +kernel
theorem dL_law_344 : decode cL_law 344 = .ok (.iaload, 1) := by decide +kernel
theorem dL_law_345 : decode cL_law 345 = .ok (.invokevirtual 51, 3) := by decide +kernel
theorem dL_law_348 : decode cL_law 348 = .ok (.if_icmp .eq 345, 3) := by decide +kernel
theorem dL_law_351 : decode cL_law 351 = .ok (.iconst 0, 1) := by decide +kernel
theorem dL_law_352 : decode cL_law 352 = .ok (.ireturn, 1) := by decide +kernel
theorem dL_law_353 : decode cL_law 353 = .ok (.aload_n 1, 1) := by decide +kernel
theorem dL_law_354 : decode cL_law 354 = .ok (.aload_n 0, 1) := by decide +kernel
theorem dL_law_355 : decode cL_law 355 = .ok (.iload_n 3, 1) := by decide +kernel
theorem dL_law_356 : decode cL_law 356 = .ok (.iconst 1, 1) := by decide +kernel
theorem dL_law_357 : decode cL_law 357 = .ok (.iadd, 1) := by decide +kernel
theorem dL_law_358 : decode cL_law 358 = .ok (.iaload, 1) := by decide +kernel
theorem dL_law_359 : decode cL_law 359 = .ok (.aload_n 0, 1) := by decide +kernel
theorem dL_law_360 : decode cL_law 360 = .ok (.iload_n 3, 1) := by decide +kernel
theorem dL_law_361 : decode cL_law 361 = .ok (.iconst 2, 1) := by decide +kernel
theorem dL_law_362 : decode cL_law 362 = .ok (.iadd, 1) := by decide +kernel
theorem dL_law_363 : decode cL_law 363 = .ok (.iaload, 1) := by decide +kernel
theorem dL_law_364 : decode cL_law 364 = .ok (.invokevirtual 52, 3) := by decide +kernel
theorem dL_law_367 : decode cL_law 367 = .ok (.aload_n 2, 1) := by decide +kernel
theorem dL_law_368 : decode cL_law 368 = .ok (.aload_n 0, 1) := by decide +kernel
theorem dL_law_369 : decode cL_law 369 = .ok (.iload_n 3, 1) := by decide +kernel
theorem dL_law_370 : decode cL_law 370 = .ok (.iconst 1, 1) := by decide +kernel
theorem dL_law_371 : decode cL_law 371 = .ok (.iadd, 1) := by decide +kernel
theorem dL_law_372 : decode cL_law 372 = .ok (.iaload, 1) := by decide +kernel
theorem dL_law_373 : decode cL_law 373 = .ok (.aload_n 0, 1) := by decide +kernel
theorem dL_law_374 : decode cL_law 374 = .ok (.iload_n 3, 1) := by decide +kernel
theorem dL_law_375 : decode cL_law 375 = .ok (.iconst 2, 1) := by decide +kernel
theorem dL_law_376 : decode cL_law 376 = .ok (.iadd, 1) := by decide +kernel
theorem dL_law_377 : decode cL_law 377 = .ok (.iaload, 1) := by decide +kernel
theorem dL_law_378 : decode cL_law 378 = .ok (.invokevirtual 55, 3) := by decide +kernel
theorem dL_law_381 : decode cL_law 381 = .ok (.if_icmp .eq 312, 3) := by decide +kernel
theorem dL_law_384 : decode cL_law 384 = .ok (.iconst 0, 1) := by decide +kernel
theorem dL_law_385 : decode cL_law 385 = .ok (.ireturn, 1) := by decide +kernel
theorem dL_law_386 : decode cL_law 386 = .ok (.aload_n 1, 1) := by decide +kernel
theorem dL_law_387 : decode cL_law 387 = .ok (.aload_n 0, 1) := by decide +kernel
theorem dL_law_388 : decode cL_law 388 = .ok (.iload_n 3, 1) := by decide +kernel
theorem dL_law_389 : decode cL_law 389 = .ok (.iconst 1, 1) := by decide +kernel
theorem dL_law_390 : decode cL_law 390 = .ok (.iadd, 1) := by decide +kernel
theorem dL_law_391 : decode cL_law 391 = .ok (.iaload, 1) := by decide +kernel
theorem dL_law_392 : decode cL_law 392 = .ok (.aload_n 0, 1) := by decide +kernel
theorem dL_law_393 : decode cL_law 393 = .ok (.iload_n 3, 1) := by decide +kernel
theorem dL_law_394 : decode cL_law 394 = .ok (.iconst 2, 1) := by decide +kernel
theorem dL_law_395 : decode cL_law 395 = .ok (.iadd, 1) := by decide +kernel
theorem dL_law_396 : decode cL_law 396 = .ok (.iaload, 1) := by decide +kernel
theorem dL_law_397 : decode cL_law 397 = .ok (.invokevirtual 56, 3) := by decide +kernel
theorem dL_law_400 : decode cL_law 400 = .ok (.aload_n 2, 1) := by decide +kernel
theorem dL_law_401 : decode cL_law 401 = .ok (.aload_n 0, 1) := by decide +kernel
theorem dL_law_402 : decode cL_law 402 = .ok (.iload_n 3, 1) := by decide +kernel
theorem dL_law_403 : decode cL_law 403 = .ok (.iconst 1, 1) := by decide +kernel
theorem dL_law_404 : decode cL_law 404 = .ok (.iadd, 1) := by decide +kernel
theorem dL_law_405 : decode cL_law 405 = .ok (.iaload, 1) := by decide +kernel
theorem dL_law_406 : decode cL_law 406 = .ok (.aload_n 0, 1) := by decide +kernel
theorem dL_law_407 : decode cL_law 407 = .ok (.iload_n 3, 1) := by decide +kernel
theorem dL_law_408 : decode cL_law 408 = .ok (.iconst 2, 1) := by decide +kernel
theorem dL_law_409 : decode cL_law 409 = .ok (.iadd, 1) := by decide +kernel
theorem dL_law_410 : decode cL_law 410 = .ok (.iaload, 1) := by decide +kernel
theorem dL_law_411 : decode cL_law 411 = .ok (.invokevirtual 59, 3) := by decide +kernel
theorem dL_law_414 : decode cL_law 414 = .ok (.if_icmp .eq 279, 3) := by decide +kernel
theorem dL_law_417 : decode cL_law 417 = .ok (.iconst 0, 1) := by decide +kernel
theorem dL_law_418 : decode cL_law 418 = .ok (.ireturn, 1) := by decide +kernel
theorem dL_law_419 : decode cL_law 419 = .ok (.aload_n 1, 1) := by decide +kernel
theorem dL_law_420 : decode cL_law 420 = .ok (.aload_n 0, 1) := by decide +kernel
theorem dL_law_421 : decode cL_law 421 = .ok (.iload_n 3, 1) := by decide +kernel
theorem dL_law_422 : decode cL_law 422 = .ok (.iconst 1, 1) := by decide +kernel
theorem dL_law_423 : decode cL_law 423 = .ok (.iadd, 1) := by decide +kernel
theorem dL_law_424 : decode cL_law 424 = .ok (.iaload, 1) := by decide +kernel
theorem dL_law_425 : decode cL_law 425 = .ok (.aload_n 0, 1) := by decide +kernel
theorem dL_law_426 : decode cL_law 426 = .ok (.iload_n 3, 1) := by decide +kernel
theorem dL_law_427 : decode cL_law 427 = .ok (.iconst 2, 1) := by decide +kernel
theorem dL_law_428 : decode cL_law 428 = .ok (.iadd, 1) := by decide +kernel
theorem dL_law_429 : decode cL_law 429 = .ok (.iaload, 1) := by decide +kernel
theorem dL_law_430 : decode cL_law 430 = .ok (.invokevirtual 60, 3) := by decide +kernel
theorem dL_law_433 : decode cL_law 433 = .ok (.aload_n 2, 1) := by decide +kernel
theorem dL_law_434 : decode cL_law 434 = .ok (.aload_n 0, 1) := by decide +kernel
theorem dL_law_435 : decode cL_law 435 = .ok (.iload_n 3, 1) := by decide +kernel
theorem dL_law_436 : decode cL_law 436 = .ok (.iconst 1, 1) := by decide +kernel
theorem dL_law_437 : decode cL_law 437 = .ok (.iadd, 1) := by decide +kernel
theorem dL_law_438 : decode cL_law 438 = .ok (.iaload, 1) := by decide +kernel
theorem dL_law_439 : decode cL_law 439 = .ok (.aload_n 0, 1) := by decide +kernel
theorem dL_law_440 : decode cL_law 440 = .ok (.iload_n 3, 1) := by decide +kernel
theorem dL_law_441 : decode cL_law 441 = .ok (.iconst 2, 1) := by decide +kernel
theorem dL_law_442 : decode cL_law 442 = .ok (.iadd, 1) := by decide +kernel
theorem dL_law_443 : decode cL_law 443 = .ok (.iaload, 1) := by decide +kernel
theorem dL_law_444 : decode cL_law 444 = .ok (.invokevirtual 63, 3) := by decide +kernel
theorem dL_law_447 : decode cL_law 447 = .ok (.if_icmp .eq 246, 3) := by decide +kernel
theorem dL_law_450 : decode cL_law 450 = .ok (.iconst 0, 1) := by decide +kernel
theorem dL_law_451 : decode cL_law 451 = .ok (.ireturn, 1) := by decide +kernel
theorem dL_law_452 : decode cL_law 452 = .ok (.aload_n 1, 1) := by decide +kernel
theorem dL_law_453 : decode cL_law 453 = .ok (.aload_n 0, 1) := by decide +kernel
theorem dL_law_454 : decode cL_law 454 = .ok (.iload_n 3, 1) := by decide +kernel
theorem dL_law_455 : decode cL_law 455 = .ok (.iconst 1, 1) := by decide +kernel
theorem dL_law_456 : decode cL_law 456 = .ok (.iadd, 1) := by decide +kernel
theorem dL_law_457 : decode cL_law 457 = .ok (.iaload, 1) := by decide +kernel
theorem dL_law_458 : decode cL_law 458 = .ok (.aload_n 0, 1) := by decide +kernel
theorem dL_law_459 : decode cL_law 459 = .ok (.iload_n 3, 1) := by decide +kernel
theorem dL_law_460 : decode cL_law 460 = .ok (.iconst 2, 1) := by decide +kernel
theorem dL_law_461 : decode cL_law 461 = .ok (.iadd, 1) := by decide +kernel
theorem dL_law_462 : decode cL_law 462 = .ok (.iaload, 1) := by decide +kernel
theorem dL_law_463 : decode cL_law 463 = .ok (.invokevirtual 64, 3) := by decide +kernel
theorem dL_law_466 : decode cL_law 466 = .ok (.aload_n 2, 1) := by decide +kernel
theorem dL_law_467 : decode cL_law 467 = .ok (.aload_n 0, 1) := by decide +kernel
theorem dL_law_468 : decode cL_law 468 = .ok (.iload_n 3, 1) := by decide +kernel
theorem dL_law_469 : decode cL_law 469 = .ok (.iconst 1, 1) := by decide +kernel
theorem dL_law_470 : decode cL_law 470 = .ok (.iadd, 1) := by decide +kernel
theorem dL_law_471 : decode cL_law 471 = .ok (.iaload, 1) := by decide +kernel
theorem dL_law_472 : decode cL_law 472 = .ok (.aload_n 0, 1) := by decide +kernel
theorem dL_law_473 : decode cL_law 473 = .ok (.iload_n 3, 1) := by decide +kernel
theorem dL_law_474 : decode cL_law 474 = .ok (.iconst 2, 1) := by decide +kernel
theorem dL_law_475 : decode cL_law 475 = .ok (.iadd, 1) := by decide +kernel
theorem dL_law_476 : decode cL_law 476 = .ok (.iaload, 1) := by decide +kernel
theorem dL_law_477 : decode cL_law 477 = .ok (.invokevirtual 67, 3) := by decide +kernel
theorem dL_law_480 : decode cL_law 480 = .ok (.if_icmp .eq 213, 3) := by decide +kernel
theorem dL_law_483 : decode cL_law 483 = .ok (.iconst 0, 1) := by decide +kernel
theorem dL_law_484 : decode cL_law 484 = .ok (.ireturn, 1) := by decide +kernel
theorem dL_law_485 : decode cL_law 485 = .ok (.aload_n 1, 1) := by decide +kernel
theorem dL_law_486 : decode cL_law 486 = .ok (.aload_n 0, 1) := by decide +kernel
theorem dL_law_487 : decode cL_law 487 = .ok (.iload_n 3, 1) := by decide +kernel
theorem dL_law_488 : decode cL_law 488 = .ok (.iconst 1, 1) := by decide +kernel
theorem dL_law_489 : decode cL_law 489 = .ok (.iadd, 1) := by decide +kernel
theorem dL_law_490 : decode cL_law 490 = .ok (.iaload, 1) := by decide +kernel
theorem dL_law_491 : decode cL_law 491 = .ok (.aload_n 0, 1) := by decide +kernel
theorem dL_law_492 : decode cL_law 492 = .ok (.iload_n 3, 1) := by decide +kernel
theorem dL_law_493 : decode cL_law 493 = .ok (.iconst 2, 1) := by decide +kernel
theorem dL_law_494 : decode cL_law 494 = .ok (.iadd, 1) := by decide +kernel
theorem dL_law_495 : decode cL_law 495 = .ok (.iaload, 1) := by decide +kernel
theorem dL_law_496 : decode cL_law 496 = .ok (.aload_n 0, 1) := by decide +kernel
theorem dL_law_497 : decode cL_law 497 = .ok (.iload_n 3, 1) := by decide +kernel
theorem dL_law_498 : decode cL_law 498 = .ok (.iconst 3, 1) := by decide +kernel
theorem dL_law_499 : decode cL_law 499 = .ok (.iadd, 1) := by decide +kernel
theorem dL_law_500 : decode cL_law 500 = .ok (.iaload, 1) := by decide +kernel
theorem dL_law_501 : decode cL_law 501 = .ok (.aload_n 0, 1) := by decide +kernel
theorem dL_law_502 : decode cL_law 502 = .ok (.iload_n 3, 1) := by decide +kernel
theorem dL_law_503 : decode cL_law 503 = .ok (.iconst 4, 1) := by decide +kernel
theorem dL_law_504 : decode cL_law 504 = .ok (.iadd, 1) := by decide +kernel
theorem dL_law_505 : decode cL_law 505 = .ok (.iaload, 1) := by decide +kernel
theorem dL_law_506 : decode cL_law 506 = .ok (.invokevirtual 68, 3) := by decide +kernel
theorem dL_law_509 : decode cL_law 509 = .ok (.aload_n 2, 1) := by decide +kernel
theorem dL_law_510 : decode cL_law 510 = .ok (.aload_n 0, 1) := by decide +kernel
theorem dL_law_511 : decode cL_law 511 = .ok (.iload_n 3, 1) := by decide +kernel
theorem dL_law_512 : decode cL_law 512 = .ok (.iconst 1, 1) := by decide +kernel
theorem dL_law_513 : decode cL_law 513 = .ok (.iadd, 1) := by decide +kernel
theorem dL_law_514 : decode cL_law 514 = .ok (.iaload, 1) := by decide +kernel
theorem dL_law_515 : decode cL_law 515 = .ok (.aload_n 0, 1) := by decide +kernel
theorem dL_law_516 : decode cL_law 516 = .ok (.iload_n 3, 1) := by decide +kernel
theorem dL_law_517 : decode cL_law 517 = .ok (.iconst 2, 1) := by decide +kernel
theorem dL_law_518 : decode cL_law 518 = .ok (.iadd, 1) := by decide +kernel
theorem dL_law_519 : decode cL_law 519 = .ok (.iaload, 1) := by decide +kernel
theorem dL_law_520 : decode cL_law 520 = .ok (.aload_n 0, 1) := by decide +kernel
theorem dL_law_521 : decode cL_law 521 = .ok (.iload_n 3, 1) := by decide +kernel
theorem dL_law_522 : decode cL_law 522 = .ok (.iconst 3, 1) := by decide +kernel
theorem dL_law_523 : decode cL_law 523 = .ok (.iadd, 1) := by decide +kernel
theorem dL_law_524 : decode cL_law 524 = .ok (.iaload, 1) := by decide +kernel
theorem dL_law_525 : decode cL_law 525 = .ok (.aload_n 0, 1) := by decide +kernel
theorem dL_law_526 : decode cL_law 526 = .ok (.iload_n 3, 1) := by decide +kernel
theorem dL_law_527 : decode cL_law 527 = .ok (.iconst 4, 1) := by decide +kernel
theorem dL_law_528 : decode cL_law 528 = .ok (.iadd, 1) := by decide +kernel
theorem dL_law_529 : decode cL_law 529 = .ok (.iaload, 1) := by decide +kernel
theorem dL_law_530 : decode cL_law 530 = .ok (.invokevirtual 72, 3) := by decide +kernel
theorem dL_law_533 : decode cL_law 533 = .ok (.if_icmp .eq 160, 3) := by decide +kernel
theorem dL_law_536 : decode cL_law 536 = .ok (.iconst 0, 1) := by decide +kernel
theorem dL_law_537 : decode cL_law 537 = .ok (.ireturn, 1) := by decide +kernel
theorem dL_law_538 : decode cL_law 538 = .ok (.aload_n 1, 1) := by decide +kernel
theorem dL_law_539 : decode cL_law 539 = .ok (.invokevirtual 73, 3) := by decide +kernel
theorem dL_law_542 : decode cL_law 542 = .ok (.aload_n 2, 1) := by decide +kernel
theorem dL_law_543 : decode cL_law 543 = .ok (.invokevirtual 76, 3) := by decide +kernel
theorem dL_law_546 : decode cL_law 546 = .ok (.if_icmp .eq 147, 3) := by decide +kernel
theorem dL_law_549 : decode cL_law 549 = .ok (.iconst 0, 1) := by decide +kernel
theorem dL_law_550 : decode cL_law 550 = .ok (.ireturn, 1) := by decide +kernel
theorem dL_law_551 : decode cL_law 551 = .ok (.aload_n 1, 1) := by decide +kernel
theorem dL_law_552 : decode cL_law 552 = .ok (.invokevirtual 77, 3) := by decide +kernel
theorem dL_law_555 : decode cL_law 555 = .ok (.aload_n 2, 1) := by decide +kernel
theorem dL_law_556 : decode cL_law 556 = .ok (.invokevirtual 80, 3) := by decide +kernel
theorem dL_law_559 : decode cL_law 559 = .ok (.if_icmp .eq 134, 3) := by decide +kernel
theorem dL_law_562 : decode cL_law 562 = .ok (.iconst 0, 1) := by decide +kernel
theorem dL_law_563 : decode cL_law 563 = .ok (.ireturn, 1) := by decide +kernel
theorem dL_law_564 : decode cL_law 564 = .ok (.aload_n 1, 1) := by decide +kernel
theorem dL_law_565 : decode cL_law 565 = .ok (.aload_n 0, 1) := by decide +kernel
theorem dL_law_566 : decode cL_law 566 = .ok (.iload_n 3, 1) := by decide +kernel
theorem dL_law_567 : decode cL_law 567 = .ok (.iconst 1, 1) := by decide +kernel
theorem dL_law_568 : decode cL_law 568 = .ok (.iadd, 1) := by decide +kernel
theorem dL_law_569 : decode cL_law 569 = .ok (.iaload, 1) := by decide +kernel
theorem dL_law_570 : decode cL_law 570 = .ok (.invokevirtual 81, 3) := by decide +kernel
theorem dL_law_573 : decode cL_law 573 = .ok (.aload_n 2, 1) := by decide +kernel
theorem dL_law_574 : decode cL_law 574 = .ok (.aload_n 0, 1) := by decide +kernel
theorem dL_law_575 : decode cL_law 575 = .ok (.iload_n 3, 1) := by decide +kernel
theorem dL_law_576 : decode cL_law 576 = .ok (.iconst 1, 1) := by decide +kernel
theorem dL_law_577 : decode cL_law 577 = .ok (.iadd, 1) := by decide +kernel
theorem dL_law_578 : decode cL_law 578 = .ok (.iaload, 1) := by decide +kernel
theorem dL_law_579 : decode cL_law 579 = .ok (.invokevirtual 84, 3) := by decide +kernel
theorem dL_law_582 : decode cL_law 582 = .ok (.if_icmp .eq 111, 3) := by decide +kernel
theorem dL_law_585 : decode cL_law 585 = .ok (.iconst 0, 1) := by decide +kernel
theorem dL_law_586 : decode cL_law 586 = .ok (.ireturn, 1) := by decide +kernel
theorem dL_law_587 : decode cL_law 587 = .ok (.aload_n 1, 1) := by decide +kernel
theorem dL_law_588 : decode cL_law 588 = .ok (.aload_n 0, 1) := by decide +kernel
theorem dL_law_589 : decode cL_law 589 = .ok (.iload_n 3, 1) := by decide +kernel
theorem dL_law_590 : decode cL_law 590 = .ok (.iconst 1, 1) := by decide +kernel
theorem dL_law_591 : decode cL_law 591 = .ok (.iadd, 1) := by decide +kernel
theorem dL_law_592 : decode cL_law 592 = .ok (.iaload, 1) := by decide +kernel
theorem dL_law_593 : decode cL_law 593 = .ok (.aload_n 0, 1) := by decide +kernel
theorem dL_law_594 : decode cL_law 594 = .ok (.iload_n 3, 1) := by decide +kernel
theorem dL_law_595 : decode cL_law 595 = .ok (.iconst 2, 1) := by decide +kernel
theorem dL_law_596 : decode cL_law 596 = .ok (.iadd, 1) := by decide +kernel
theorem dL_law_597 : decode cL_law 597 = .ok (.iaload, 1) := by decide +kernel
theorem dL_law_598 : decode cL_law 598 = .ok (.aload_n 0, 1) := by decide +kernel
theorem dL_law_599 : decode cL_law 599 = .ok (.iload_n 3, 1) := by decide +kernel
theorem dL_law_600 : decode cL_law 600 = .ok (.iconst 3, 1) := by decide +kernel
theorem dL_law_601 : decode cL_law 601 = .ok (.iadd, 1) := by decide +kernel
theorem dL_law_602 : decode cL_law 602 = .ok (.iaload, 1) := by decide +kernel
theorem dL_law_603 : decode cL_law 603 = .ok (.invokevirtual 85, 3) := by decide +kernel
theorem dL_law_606 : decode cL_law 606 = .ok (.aload_n 2, 1) := by decide +kernel
theorem dL_law_607 : decode cL_law 607 = .ok (.aload_n 0, 1) := by decide +kernel
theorem dL_law_608 : decode cL_law 608 = .ok (.iload_n 3, 1) := by decide +kernel
theorem dL_law_609 : decode cL_law 609 = .ok (.iconst 1, 1) := by decide +kernel
theorem dL_law_610 : decode cL_law 610 = .ok (.iadd, 1) := by decide +kernel
theorem dL_law_611 : decode cL_law 611 = .ok (.iaload, 1) := by decide +kernel
theorem dL_law_612 : decode cL_law 612 = .ok (.aload_n 0, 1) := by decide +kernel
theorem dL_law_613 : decode cL_law 613 = .ok (.iload_n 3, 1) := by decide +kernel
theorem dL_law_614 : decode cL_law 614 = .ok (.iconst 2, 1) := by decide +kernel
theorem dL_law_615 : decode cL_law 615 = .ok (.iadd, 1) := by decide +kernel
theorem dL_law_616 : decode cL_law 616 = .ok (.iaload, 1) := by decide +kernel
theorem dL_law_617 : decode cL_law 617 = .ok (.aload_n 0, 1) := by decide +kernel
theorem dL_law_618 : decode cL_law 618 = .ok (.iload_n 3, 1) := by decide +kernel
theorem dL_law_619 : decode cL_law 619 = .ok (.iconst 3, 1) := by decide +kernel
theorem dL_law_620 : decode cL_law 620 = .ok (.iadd, 1) := by decide +kernel
theorem dL_law_621 : decode cL_law 621 = .ok (.iaload, 1) := by decide +kernel
theorem dL_law_622 : decode cL_law 622 = .ok (.invokevirtual 89, 3) := by decide +kernel
theorem dL_law_625 : decode cL_law 625 = .ok (.if_icmp .eq 68, 3) := by decide +kernel
theorem dL_law_628 : decode cL_law 628 = .ok (.iconst 0, 1) := by decide +kernel
theorem dL_law_629 : decode cL_law 629 = .ok (.ireturn, 1) := by decide +kernel
theorem dL_law_630 : decode cL_law 630 = .ok (.aload_n 1, 1) := by decide +kernel
theorem dL_law_631 : decode cL_law 631 = .ok (.invokevirtual 90, 3) := by decide +kernel
theorem dL_law_634 : decode cL_law 634 = .ok (.aload_n 2, 1) := by decide +kernel
theorem dL_law_635 : decode cL_law 635 = .ok (.invokevirtual 93, 3) := by decide +kernel
theorem dL_law_638 : decode cL_law 638 = .ok (.if_icmp .eq 55, 3) := by decide +kernel
theorem dL_law_641 : decode cL_law 641 = .ok (.iconst 0, 1) := by decide +kernel
theorem dL_law_642 : decode cL_law 642 = .ok (.ireturn, 1) := by decide +kernel
theorem dL_law_643 : decode cL_law 643 = .ok (.aload_n 1, 1) := by decide +kernel
theorem dL_law_644 : decode cL_law 644 = .ok (.invokevirtual 94, 3) := by decide +kernel
theorem dL_law_647 : decode cL_law 647 = .ok (.aload_n 2, 1) := by decide +kernel
theorem dL_law_648 : decode cL_law 648 = .ok (.invokevirtual 97, 3) := by decide +kernel
theorem dL_law_651 : decode cL_law 651 = .ok (.if_icmp .eq 42, 3) := by decide +kernel
theorem dL_law_654 : decode cL_law 654 = .ok (.iconst 0, 1) := by decide +kernel
theorem dL_law_655 : decode cL_law 655 = .ok (.ireturn, 1) := by decide +kernel
theorem dL_law_656 : decode cL_law 656 = .ok (.aload_n 1, 1) := by decide +kernel
theorem dL_law_657 : decode cL_law 657 = .ok (.aload_n 0, 1) := by decide +kernel
theorem dL_law_658 : decode cL_law 658 = .ok (.iload_n 3, 1) := by decide +kernel
theorem dL_law_659 : decode cL_law 659 = .ok (.iconst 1, 1) := by decide +kernel
theorem dL_law_660 : decode cL_law 660 = .ok (.iadd, 1) := by decide +kernel
theorem dL_law_661 : decode cL_law 661 = .ok (.iaload, 1) := by decide +kernel
theorem dL_law_662 : decode cL_law 662 = .ok (.invokevirtual 98, 3) := by decide +kernel
theorem dL_law_665 : decode cL_law 665 = .ok (.aload_n 2, 1) := by decide +kernel
theorem dL_law_666 : decode cL_law 666 = .ok (.aload_n 0, 1) := by decide +kernel
theorem dL_law_667 : decode cL_law 667 = .ok (.iload_n 3, 1) := by decide +kernel
theorem dL_law_668 : decode cL_law 668 = .ok (.iconst 1, 1) := by decide +kernel
theorem dL_law_669 : decode cL_law 669 = .ok (.iadd, 1) := by decide +kernel
theorem dL_law_670 : decode cL_law 670 = .ok (.iaload, 1) := by decide +kernel
theorem dL_law_671 : decode cL_law 671 = .ok (.invokevirtual 101, 3) := by decide +kernel
theorem dL_law_674 : decode cL_law 674 = .ok (.if_icmp .eq 19, 3) := by decide +kernel
theorem dL_law_677 : decode cL_law 677 = .ok (.iconst 0, 1) := by decide +kernel
theorem dL_law_678 : decode cL_law 678 = .ok (.ireturn, 1) := by decide +kernel
theorem dL_law_679 : decode cL_law 679 = .ok (.aload_n 1, 1) := by decide +kernel
theorem dL_law_680 : decode cL_law 680 = .ok (.invokevirtual 102, 3) := by decide +kernel
theorem dL_law_683 : decode cL_law 683 = .ok (.aload_n 2, 1) := by decide +kernel
theorem dL_law_684 : decode cL_law 684 = .ok (.invokevirtual 106, 3) := by decide +kernel
theorem dL_law_687 : decode cL_law 687 = .ok (.lcmp, 1) := by decide +kernel
theorem dL_law_688 : decode cL_law 688 = .ok (.ifCond .eq 5, 3) := by decide +kernel
theorem dL_law_691 : decode cL_law 691 = .ok (.iconst 0, 1) := by decide +kernel
theorem dL_law_692 : decode cL_law 692 = .ok (.ireturn, 1) := by decide +kernel
theorem dL_law_693 : decode cL_law 693 = .ok (.iinc 3 5, 3) := by decide +kernel
theorem dL_law_696 : decode cL_law 696 = .ok (.goto (-678), 3) := by decide +kernel
theorem dL_law_699 : decode cL_law 699 = .ok (.iconst 1, 1) := by decide +kernel
theorem dL_law_700 : decode cL_law 700 = .ok (.ireturn, 1) := by decide +kernel
abbrev vwCl : List vw_C := [(RX0, TX0, 4), (RX1, TX1, 5), (RX2, TX2, 2), (RX3, TX3, 3), (RX4, TX4, 1), (RX5, TX5, 9), (RX6, TX6, 34)]
end
section
/-! My own rows over the kit's: ints as jI z (z an Int), a picture (locals, stack, cells) in one judgement jW. -/
def jI (z : Int) : Int32 := Int32.ofInt z
theorem jI_add (a b : Int) : jI a + jI b = jI (a + b) := (Int32.ofInt_add a b).symm
theorem jI_sub (a b : Int) : jI a - jI b = jI (a - b) := (Int32.ofInt_sub a b).symm
theorem jI_mul (a b : Int) : jI a * jI b = jI (a * b) := (Int32.ofInt_mul a b).symm
theorem jI_t {z : Int} (h : -2147483648 ≤ z ∧ z < 2147483648) : (jI z).toInt = z := Int32.toInt_ofInt_of_le (by omega) (by omega)
theorem jI_of (x : Int32) : x = jI x.toInt := (Int32.ofInt_toInt x).symm
theorem jI_rg (x : Int32) : -2147483648 ≤ x.toInt ∧ x.toInt < 2147483648 := ⟨by have := Int32.le_toInt x; omega, by have := Int32.toInt_lt x; omega⟩
theorem jI_eq {x y : Int} (hx : -2147483648 ≤ x ∧ x < 2147483648) (hy : -2147483648 ≤ y ∧ y < 2147483648) : jI x = jI y ↔ x = y := by
  rw [← Int32.toInt_inj, jI_t hx, jI_t hy]
theorem jI_lt {x y : Int} (hx : -2147483648 ≤ x ∧ x < 2147483648) (hy : -2147483648 ≤ y ∧ y < 2147483648) : jI x < jI y ↔ x < y := by
  rw [Int32.lt_iff_toInt_lt, jI_t hx, jI_t hy]
theorem jI_le {x y : Int} (hx : -2147483648 ≤ x ∧ x < 2147483648) (hy : -2147483648 ≤ y ∧ y < 2147483648) : jI x ≤ jI y ↔ x ≤ y := by
  rw [Int32.le_iff_toInt_le, jI_t hx, jI_t hy]
theorem jI_0 : jI 0 = 0 := rfl
theorem jI_clamp {z : Int} {k : Nat} (hk : z = (k : Int)) (h : k < 2147483648) : (jI z).toNatClampNeg = k := by
  show (jI z).toInt.toNat = k
  rw [jI_t (by omega)]
  omega
theorem jI_in {z : Int} {k n : Nat} (hk : z = (k : Int)) (h : k < n) (hn : n < 2147483648) : vp_in (jI z) n := by
  refine vp_in_iff.mpr ?_
  rw [jI_t (by omega)]
  omega
/-- a truth value as an int -/
def jb (c : Prop) [Decidable c] : Int := if c then 1 else 0
theorem jb_t {c : Prop} [Decidable c] (h : c) : jb c = 1 := if_pos h
theorem jb_f {c : Prop} [Decidable c] (h : ¬ c) : jb c = 0 := if_neg h
theorem jb_01 (c : Prop) [Decidable c] : 0 ≤ jb c ∧ jb c ≤ 1 := by unfold jb; split <;> omega
theorem jb_n (c : Prop) [Decidable c] : narrow .boolean (.int (jI (jb c))) = .int (jI (jb c)) := by
  unfold jb; split <;> rfl
theorem jb_fit (c : Prop) [Decidable c] : fits .boolean (.int (jI (jb c))) = true := by
  unfold jb; split <;> rfl
/-- what the tables say: the classes, the two array classes, the links between nest mates -/
def jK (D : va_G) (cI cB : ClassId) (U : State) : Prop := va_K D vwCl [(cI, .int), (cB, .byte)] U ∧ va_Nw (.methodLinkNest RX5 9 yX2_init RX5) U ∧ va_Nw (.methodLinkNest RX5 22 yX0_init RX5) U ∧ va_Nw (.methodLinkNest RX0 17 yX3_init RX5) U ∧ va_Nw (.methodLinkNest RX0 24 yX1_init RX5) U ∧ va_Nw (.methodLinkNest RX5 32 yX4_init RX5) U ∧ va_Nw (.methodLinkNest RX2 19 yX5_isWithin RX5) U ∧ va_Nw (.methodLinkNest RX2 41 yX5_kindOf RX5) U ∧ va_Nw (.methodLinkNest RX0 39 yX5_isWithin RX5) U ∧ va_Nw (.methodLinkNest RX3 22 yX5_isWithin RX5) U ∧ va_Nw (.methodLinkNest RX1 28 yX5_isWithin RX5) U
theorem jK.warm {D : va_G} {cI cB : ClassId} {s U : State} (hW : s.WarmedH U.vm) (h : jK D cI cB s) : jK D cI cB U := by
  obtain ⟨h0, h1, h2, h3, h4, h5, h6, h7, h8, h9, h10⟩ := h
  exact ⟨va_K.moved hW.alike h0, va_Nw.warmM hW h1, va_Nw.warmM hW h2, va_Nw.warmM hW h3, va_Nw.warmM hW h4, va_Nw.warmM hW h5, va_Nw.warmM hW h6, va_Nw.warmM hW h7, va_Nw.warmM hW h8, va_Nw.warmM hW h9, va_Nw.warmM hW h10⟩
theorem jK.same {D : va_G} {cI cB : ClassId} {u U : State} (h : u.vm = U.vm) (hK : jK D cI cB u) : jK D cI cB U := by
  obtain ⟨h0, h1, h2, h3, h4, h5, h6, h7, h8, h9, h10⟩ := hK
  exact ⟨va_K.moved (h ▸ Vm.Alike.refl _) h0, va_Nw.same rfl h h1, va_Nw.same rfl h h2, va_Nw.same rfl h h3, va_Nw.same rfl h h4, va_Nw.same rfl h h5, va_Nw.same rfl h h6, va_Nw.same rfl h h7, va_Nw.same rfl h h8, va_Nw.same rfl h h9, va_Nw.same rfl h h10⟩
/-- where a walk stands, in one name -/
abbrev jX : Type := Program × Launch × Env × Room × State × MethodId × Array Value × List Frame × Method × Code × Nat × va_G × (Nat → Prop) × Bool × Nat × Nat × (State → Prop)
def jW (X : jX) (pc : Nat) (lv : List (Nat × Value)) (st : List Value) (ws : va_W) : Prop := match X with
  | (p, l, e, R, s, m, args, below, meth, c, nL, D, A, ro, cells, slots, Q) => ∀ (H : Heap) (locs : List Loc) (ls : Array Slot), va_P D vwCl ws H → (ro = false → va_D A ws ∧ va_S A s.heap H locs) → (ro = true → H = s.heap ∧ locs = []) → lv_has ls nL lv → W p l e R s m args below meth c H locs cells slots Q (F0 m pc ls st)
def jC (X : jX) (l : Launch) (cc : ByteArray) (own : String) (Ts : List Cond) (rm : Room) (nL : Nat) (D : va_G) (cI cB : ClassId) (ro : Bool) : Prop := match X with
  | (p, l', _, R, s, m, args, _, _, c, nL', D', A, ro', cells, slots, _) => l' = l ∧ R = rm ∧ nL' = nL ∧ D' = D ∧ ro' = ro ∧ p.tables.exec = Jvm.exec ∧ c.code = cc ∧ c.maxLocals = nL ∧ s.vm.findClass own = some m.cls ∧ (∀ w ∈ Ts, w.before args s = true) ∧ jK D cI cB s ∧ (∀ q : Nat, s.heap.size ≤ q → A q) ∧ cells ≤ R.cells ∧ slots ≤ R.slots
section JR
variable {X : jX} {l : Launch} {cc : ByteArray} {own : String} {Ts : List Cond} {rm : Room} {nL : Nat} {D : va_G} {cI cB : ClassId} {ro : Bool} {pc : Nat} {lv : List (Nat × Value)} {st : List Value} {ws : va_W}
theorem jw_iconst (C : jC X l cc own Ts rm nL D cI cB ro) {n : Int} (d : decode cc pc = .ok (.iconst n, 1)) (k : jW X (pc + 1) lv (.int (jI n) :: st) ws) : jW X pc lv st ws := by
  obtain ⟨p, l', e, R, s, m, args, below, meth, c, nL', D', A, ro', cells, slots, Q⟩ := X
  intro H locs ls hP h1 h2 hl
  exact lv_iconst C.2.2.2.2.2.1 C.2.2.2.2.2.2.1 d rfl (k H locs ls hP h1 h2 hl)
theorem jw_bipush (C : jC X l cc own Ts rm nL D cI cB ro) {n : Int} (d : decode cc pc = .ok (.bipush n, 2)) (hn : (Int8.ofInt n).toInt32 = jI n) (k : jW X (pc + 2) lv (.int (jI n) :: st) ws) : jW X pc lv st ws := by
  obtain ⟨p, l', e, R, s, m, args, below, meth, c, nL', D', A, ro', cells, slots, Q⟩ := X
  intro H locs ls hP h1 h2 hl
  exact lv_bipush C.2.2.2.2.2.1 C.2.2.2.2.2.2.1 d hn (k H locs ls hP h1 h2 hl)
theorem jw_sipush (C : jC X l cc own Ts rm nL D cI cB ro) {n : Int} (d : decode cc pc = .ok (.sipush n, 3)) (hn : (Int16.ofInt n).toInt32 = jI n) (k : jW X (pc + 3) lv (.int (jI n) :: st) ws) : jW X pc lv st ws := by
  obtain ⟨p, l', e, R, s, m, args, below, meth, c, nL', D', A, ro', cells, slots, Q⟩ := X
  intro H locs ls hP h1 h2 hl
  exact lv_sipush C.2.2.2.2.2.1 C.2.2.2.2.2.2.1 d hn (k H locs ls hP h1 h2 hl)
theorem jw_ldc (C : jC X l cc own Ts rm nL D cI cB ro) {index : Nat} {v : Int32} {z : Int} (d : decode cc pc = .ok (.ldc index, 2)) (hw : Cond.constant own index v ∈ Ts) (hv : v = jI z) (k : jW X (pc + 2) lv (.int (jI z) :: st) ws) : jW X pc lv st ws := by
  obtain ⟨p, l', e, R, s, m, args, below, meth, c, nL', D', A, ro', cells, slots, Q⟩ := X
  intro H locs ls hP h1 h2 hl
  subst hv
  exact lv_ldc C.2.2.2.2.2.1 C.2.2.2.2.2.2.1 C.2.2.2.2.2.2.2.2.1 (C.2.2.2.2.2.2.2.2.2.1 _ hw) d (k H locs ls hP h1 h2 hl)
theorem jw_ldc2 (C : jC X l cc own Ts rm nL D cI cB ro) {index : Nat} {v : Int64} (d : decode cc pc = .ok (.ldc2_w index, 3)) (hw : Cond.constantLong own index v ∈ Ts) (k : jW X (pc + 3) lv (.long v :: st) ws) : jW X pc lv st ws := by
  obtain ⟨p, l', e, R, s, m, args, below, meth, c, nL', D', A, ro', cells, slots, Q⟩ := X
  intro H locs ls hP h1 h2 hl
  exact lv_ldc2 C.2.2.2.2.2.1 C.2.2.2.2.2.2.1 C.2.2.2.2.2.2.2.2.1 (C.2.2.2.2.2.2.2.2.2.1 _ hw) d (k H locs ls hP h1 h2 hl)
theorem jw_iload_n (C : jC X l cc own Ts rm nL D cI cB ro) {k : Fin 4} {x : Int32} (d : decode cc pc = .ok (.iload_n k, 1)) (j : Nat) (hk : lv[j]? = some ((k : Nat), .int x)) (kk : jW X (pc + 1) lv (.int x :: st) ws) : jW X pc lv st ws := by
  obtain ⟨p, l', e, R, s, m, args, below, meth, c, nL', D', A, ro', cells, slots, Q⟩ := X
  intro H locs ls hP h1 h2 hl
  exact lv_iload_n C.2.2.2.2.2.1 C.2.2.2.2.2.2.1 d rfl (lv_at hl j hk) (kk H locs ls hP h1 h2 hl)
theorem jw_iload (C : jC X l cc own Ts rm nL D cI cB ro) {i : Nat} {x : Int32} (d : decode cc pc = .ok (.iload i, 2)) (j : Nat) (hk : lv[j]? = some (i, .int x)) (kk : jW X (pc + 2) lv (.int x :: st) ws) : jW X pc lv st ws := by
  obtain ⟨p, l', e, R, s, m, args, below, meth, c, nL', D', A, ro', cells, slots, Q⟩ := X
  intro H locs ls hP h1 h2 hl
  exact lv_iload C.2.2.2.2.2.1 C.2.2.2.2.2.2.1 d (lv_at hl j hk) (kk H locs ls hP h1 h2 hl)
theorem jw_lload_n (C : jC X l cc own Ts rm nL D cI cB ro) {k : Fin 4} {x : Int64} (d : decode cc pc = .ok (.lload_n k, 1)) (j : Nat) (hk : lv[j]? = some ((k : Nat), .long x)) (kk : jW X (pc + 1) lv (.long x :: st) ws) : jW X pc lv st ws := by
  obtain ⟨p, l', e, R, s, m, args, below, meth, c, nL', D', A, ro', cells, slots, Q⟩ := X
  intro H locs ls hP h1 h2 hl
  exact lv_lload_n C.2.2.2.2.2.1 C.2.2.2.2.2.2.1 d rfl (lv_at hl j hk) (kk H locs ls hP h1 h2 hl)
theorem jw_aload_n (C : jC X l cc own Ts rm nL D cI cB ro) {k : Fin 4} {x : Nat} (d : decode cc pc = .ok (.aload_n k, 1)) (j : Nat) (hk : lv[j]? = some ((k : Nat), .ref x)) (kk : jW X (pc + 1) lv (.ref x :: st) ws) : jW X pc lv st ws := by
  obtain ⟨p, l', e, R, s, m, args, below, meth, c, nL', D', A, ro', cells, slots, Q⟩ := X
  intro H locs ls hP h1 h2 hl
  exact lv_aload_n C.2.2.2.2.2.1 C.2.2.2.2.2.2.1 d rfl (lv_at hl j hk) (kk H locs ls hP h1 h2 hl)
theorem jw_aload (C : jC X l cc own Ts rm nL D cI cB ro) {i : Nat} {x : Nat} (d : decode cc pc = .ok (.aload i, 2)) (j : Nat) (hk : lv[j]? = some (i, .ref x)) (kk : jW X (pc + 2) lv (.ref x :: st) ws) : jW X pc lv st ws := by
  obtain ⟨p, l', e, R, s, m, args, below, meth, c, nL', D', A, ro', cells, slots, Q⟩ := X
  intro H locs ls hP h1 h2 hl
  exact lv_aload C.2.2.2.2.2.1 C.2.2.2.2.2.2.1 d (lv_at hl j hk) (kk H locs ls hP h1 h2 hl)
theorem jw_istore_n (C : jC X l cc own Ts rm nL D cI cB ro) {k : Fin 4} {x : Int32} {lv' : List (Nat × Value)} (d : decode cc pc = .ok (.istore_n k, 1)) (hn : (k : Nat) < nL) (hl' : ((k : Nat), Value.int x) :: lv.filter (fun q => !(q.1 == (k : Nat)) && !(q.1 + 1 == (k : Nat) && q.2.category == 2)) = lv') (kk : jW X (pc + 1) lv' st ws) : jW X pc lv (.int x :: st) ws := by
  obtain ⟨p, l', e, R, s, m, args, below, meth, c, nL', D', A, ro', cells, slots, Q⟩ := X
  intro H locs ls hP h1 h2 hl
  exact lv_istore_n C.2.2.2.2.2.1 C.2.2.2.2.2.2.1 d rfl hl (by rw [C.2.2.1]; exact hn) hl' (fun ls' hl2 => kk H locs ls' hP h1 h2 hl2)
theorem jw_istore (C : jC X l cc own Ts rm nL D cI cB ro) {i : Nat} {x : Int32} {lv' : List (Nat × Value)} (d : decode cc pc = .ok (.istore i, 2)) (hn : i < nL) (hl' : (i, Value.int x) :: lv.filter (fun q => !(q.1 == i) && !(q.1 + 1 == i && q.2.category == 2)) = lv') (kk : jW X (pc + 2) lv' st ws) : jW X pc lv (.int x :: st) ws := by
  obtain ⟨p, l', e, R, s, m, args, below, meth, c, nL', D', A, ro', cells, slots, Q⟩ := X
  intro H locs ls hP h1 h2 hl
  exact lv_istore C.2.2.2.2.2.1 C.2.2.2.2.2.2.1 d hl (by rw [C.2.2.1]; exact hn) hl' (fun ls' hl2 => kk H locs ls' hP h1 h2 hl2)
theorem jw_astore_n (C : jC X l cc own Ts rm nL D cI cB ro) {k : Fin 4} {x : Nat} {lv' : List (Nat × Value)} (d : decode cc pc = .ok (.astore_n k, 1)) (hn : (k : Nat) < nL) (hl' : ((k : Nat), Value.ref x) :: lv.filter (fun q => !(q.1 == (k : Nat)) && !(q.1 + 1 == (k : Nat) && q.2.category == 2)) = lv') (kk : jW X (pc + 1) lv' st ws) : jW X pc lv (.ref x :: st) ws := by
  obtain ⟨p, l', e, R, s, m, args, below, meth, c, nL', D', A, ro', cells, slots, Q⟩ := X
  intro H locs ls hP h1 h2 hl
  exact lv_astore_n C.2.2.2.2.2.1 C.2.2.2.2.2.2.1 d rfl hl (by rw [C.2.2.1]; exact hn) hl' (fun ls' hl2 => kk H locs ls' hP h1 h2 hl2)
theorem jw_astore (C : jC X l cc own Ts rm nL D cI cB ro) {i : Nat} {x : Nat} {lv' : List (Nat × Value)} (d : decode cc pc = .ok (.astore i, 2)) (hn : i < nL) (hl' : (i, Value.ref x) :: lv.filter (fun q => !(q.1 == i) && !(q.1 + 1 == i && q.2.category == 2)) = lv') (kk : jW X (pc + 2) lv' st ws) : jW X pc lv (.ref x :: st) ws := by
  obtain ⟨p, l', e, R, s, m, args, below, meth, c, nL', D', A, ro', cells, slots, Q⟩ := X
  intro H locs ls hP h1 h2 hl
  exact lv_astore C.2.2.2.2.2.1 C.2.2.2.2.2.2.1 d hl (by rw [C.2.2.1]; exact hn) hl' (fun ls' hl2 => kk H locs ls' hP h1 h2 hl2)
theorem jw_lstore_n (C : jC X l cc own Ts rm nL D cI cB ro) {k : Fin 4} {x : Int64} {lv' : List (Nat × Value)} (d : decode cc pc = .ok (.lstore_n k, 1)) (hn : (k : Nat) + 1 < nL) (hl' : ((k : Nat), Value.long x) :: lv.filter (fun q => !(q.1 == (k : Nat)) && (!(q.1 == (k : Nat) + 1) && !(q.1 + 1 == (k : Nat) && q.2.category == 2))) = lv') (kk : jW X (pc + 1) lv' st ws) : jW X pc lv (.long x :: st) ws := by
  obtain ⟨p, l', e, R, s, m, args, below, meth, c, nL', D', A, ro', cells, slots, Q⟩ := X
  intro H locs ls hP h1 h2 hl
  exact lv_lstore_n C.2.2.2.2.2.1 C.2.2.2.2.2.2.1 d rfl hl (by rw [C.2.2.1]; exact hn) hl' (fun ls' hl2 => kk H locs ls' hP h1 h2 hl2)
theorem jw_iinc (C : jC X l cc own Ts rm nL D cI cB ro) {i : Nat} {n x z : Int} {lv' : List (Nat × Value)} (d : decode cc pc = .ok (.iinc i n, 3)) (j : Nat) (hk : lv[j]? = some (i, .int (jI x))) (hz : x + n = z) (hn : i < nL) (hl' : (i, Value.int (jI z)) :: lv.filter (fun q => !(q.1 == i) && !(q.1 + 1 == i && q.2.category == 2)) = lv') (kk : jW X (pc + 3) lv' st ws) : jW X pc lv st ws := by
  obtain ⟨p, l', e, R, s, m, args, below, meth, c, nL', D', A, ro', cells, slots, Q⟩ := X
  intro H locs ls hP h1 h2 hl
  exact lv_iinc C.2.2.2.2.2.1 C.2.2.2.2.2.2.1 d hl hk (by rw [← hz]; exact jI_add x n) (by rw [C.2.2.1]; exact hn) hl' (fun ls' hl2 => kk H locs ls' hP h1 h2 hl2)
theorem jw_iadd (C : jC X l cc own Ts rm nL D cI cB ro) {x y z : Int} (d : decode cc pc = .ok (.iadd, 1)) (hz : x + y = z) (k : jW X (pc + 1) lv (.int (jI z) :: st) ws) : jW X pc lv (.int (jI y) :: .int (jI x) :: st) ws := by
  obtain ⟨p, l', e, R, s, m, args, below, meth, c, nL', D', A, ro', cells, slots, Q⟩ := X
  intro H locs ls hP h1 h2 hl
  exact lv_iadd C.2.2.2.2.2.1 C.2.2.2.2.2.2.1 d (by rw [jI_add, hz]; exact k H locs ls hP h1 h2 hl)
theorem jw_isub (C : jC X l cc own Ts rm nL D cI cB ro) {x y z : Int} (d : decode cc pc = .ok (.isub, 1)) (hz : x - y = z) (k : jW X (pc + 1) lv (.int (jI z) :: st) ws) : jW X pc lv (.int (jI y) :: .int (jI x) :: st) ws := by
  obtain ⟨p, l', e, R, s, m, args, below, meth, c, nL', D', A, ro', cells, slots, Q⟩ := X
  intro H locs ls hP h1 h2 hl
  exact lv_isub C.2.2.2.2.2.1 C.2.2.2.2.2.2.1 d (by rw [jI_sub, hz]; exact k H locs ls hP h1 h2 hl)
theorem jw_imul (C : jC X l cc own Ts rm nL D cI cB ro) {x y z : Int} (d : decode cc pc = .ok (.imul, 1)) (hz : x * y = z) (k : jW X (pc + 1) lv (.int (jI z) :: st) ws) : jW X pc lv (.int (jI y) :: .int (jI x) :: st) ws := by
  obtain ⟨p, l', e, R, s, m, args, below, meth, c, nL', D', A, ro', cells, slots, Q⟩ := X
  intro H locs ls hP h1 h2 hl
  exact lv_imul C.2.2.2.2.2.1 C.2.2.2.2.2.2.1 d (by rw [jI_mul, hz]; exact k H locs ls hP h1 h2 hl)
theorem jw_idiv (C : jC X l cc own Ts rm nL D cI cB ro) {x y : Int} (z : Int32) (d : decode cc pc = .ok (.idiv, 1)) (hne : ¬ jI y = 0) (hz : jI x / jI y = z) (k : jW X (pc + 1) lv (.int z :: st) ws) : jW X pc lv (.int (jI y) :: .int (jI x) :: st) ws := by
  obtain ⟨p, l', e, R, s, m, args, below, meth, c, nL', D', A, ro', cells, slots, Q⟩ := X
  intro H locs ls hP h1 h2 hl
  exact lv_idiv C.2.2.2.2.2.1 C.2.2.2.2.2.2.1 d hne (by rw [hz]; exact k H locs ls hP h1 h2 hl)
theorem jw_irem (C : jC X l cc own Ts rm nL D cI cB ro) {x y : Int} (z : Int32) (d : decode cc pc = .ok (.irem, 1)) (hne : ¬ jI y = 0) (hz : jI x - jI x / jI y * jI y = z) (k : jW X (pc + 1) lv (.int z :: st) ws) : jW X pc lv (.int (jI y) :: .int (jI x) :: st) ws := by
  obtain ⟨p, l', e, R, s, m, args, below, meth, c, nL', D', A, ro', cells, slots, Q⟩ := X
  intro H locs ls hP h1 h2 hl
  exact lv_irem C.2.2.2.2.2.1 C.2.2.2.2.2.2.1 d hne (by rw [hz]; exact k H locs ls hP h1 h2 hl)
theorem jw_ishl (C : jC X l cc own Ts rm nL D cI cB ro) {x y : Int32} (z : Int32) (d : decode cc pc = .ok (.ishl, 1)) (hz : x <<< (y &&& 31) = z) (k : jW X (pc + 1) lv (.int z :: st) ws) : jW X pc lv (.int y :: .int x :: st) ws := by
  obtain ⟨p, l', e, R, s, m, args, below, meth, c, nL', D', A, ro', cells, slots, Q⟩ := X
  intro H locs ls hP h1 h2 hl
  exact lv_ishl C.2.2.2.2.2.1 C.2.2.2.2.2.2.1 d (by rw [hz]; exact k H locs ls hP h1 h2 hl)
theorem jw_ishr (C : jC X l cc own Ts rm nL D cI cB ro) {x y : Int32} (z : Int32) (d : decode cc pc = .ok (.ishr, 1)) (hz : x >>> (y &&& 31) = z) (k : jW X (pc + 1) lv (.int z :: st) ws) : jW X pc lv (.int y :: .int x :: st) ws := by
  obtain ⟨p, l', e, R, s, m, args, below, meth, c, nL', D', A, ro', cells, slots, Q⟩ := X
  intro H locs ls hP h1 h2 hl
  exact lv_ishr C.2.2.2.2.2.1 C.2.2.2.2.2.2.1 d (by rw [hz]; exact k H locs ls hP h1 h2 hl)
theorem jw_iand (C : jC X l cc own Ts rm nL D cI cB ro) {x y : Int32} (z : Int32) (d : decode cc pc = .ok (.iand, 1)) (hz : x &&& y = z) (k : jW X (pc + 1) lv (.int z :: st) ws) : jW X pc lv (.int y :: .int x :: st) ws := by
  obtain ⟨p, l', e, R, s, m, args, below, meth, c, nL', D', A, ro', cells, slots, Q⟩ := X
  intro H locs ls hP h1 h2 hl
  exact lv_iand C.2.2.2.2.2.1 C.2.2.2.2.2.2.1 d (by rw [hz]; exact k H locs ls hP h1 h2 hl)
theorem jw_ior (C : jC X l cc own Ts rm nL D cI cB ro) {x y : Int32} (z : Int32) (d : decode cc pc = .ok (.ior, 1)) (hz : x ||| y = z) (k : jW X (pc + 1) lv (.int z :: st) ws) : jW X pc lv (.int y :: .int x :: st) ws := by
  obtain ⟨p, l', e, R, s, m, args, below, meth, c, nL', D', A, ro', cells, slots, Q⟩ := X
  intro H locs ls hP h1 h2 hl
  exact lv_ior C.2.2.2.2.2.1 C.2.2.2.2.2.2.1 d (by rw [hz]; exact k H locs ls hP h1 h2 hl)
theorem jw_i2l (C : jC X l cc own Ts rm nL D cI cB ro) {x : Int32} (z : Int64) (d : decode cc pc = .ok (.i2l, 1)) (hz : x.toInt64 = z) (k : jW X (pc + 1) lv (.long z :: st) ws) : jW X pc lv (.int x :: st) ws := by
  obtain ⟨p, l', e, R, s, m, args, below, meth, c, nL', D', A, ro', cells, slots, Q⟩ := X
  intro H locs ls hP h1 h2 hl
  exact lv_i2l C.2.2.2.2.2.1 C.2.2.2.2.2.2.1 d hz (k H locs ls hP h1 h2 hl)
theorem jw_l2i (C : jC X l cc own Ts rm nL D cI cB ro) {x : Int64} (z : Int32) (d : decode cc pc = .ok (.l2i, 1)) (hz : x.toInt32 = z) (k : jW X (pc + 1) lv (.int z :: st) ws) : jW X pc lv (.long x :: st) ws := by
  obtain ⟨p, l', e, R, s, m, args, below, meth, c, nL', D', A, ro', cells, slots, Q⟩ := X
  intro H locs ls hP h1 h2 hl
  exact lv_l2i C.2.2.2.2.2.1 C.2.2.2.2.2.2.1 d hz (k H locs ls hP h1 h2 hl)
theorem jw_i2b (C : jC X l cc own Ts rm nL D cI cB ro) {x : Int32} (z : Int32) (d : decode cc pc = .ok (.i2b, 1)) (hz : x.toInt8.toInt32 = z) (k : jW X (pc + 1) lv (.int z :: st) ws) : jW X pc lv (.int x :: st) ws := by
  obtain ⟨p, l', e, R, s, m, args, below, meth, c, nL', D', A, ro', cells, slots, Q⟩ := X
  intro H locs ls hP h1 h2 hl
  exact lv_i2b C.2.2.2.2.2.1 C.2.2.2.2.2.2.1 d hz (k H locs ls hP h1 h2 hl)
theorem jw_ladd (C : jC X l cc own Ts rm nL D cI cB ro) {x y : Int64} (z : Int64) (d : decode cc pc = .ok (.ladd, 1)) (hz : x + y = z) (k : jW X (pc + 1) lv (.long z :: st) ws) : jW X pc lv (.long y :: .long x :: st) ws := by
  obtain ⟨p, l', e, R, s, m, args, below, meth, c, nL', D', A, ro', cells, slots, Q⟩ := X
  intro H locs ls hP h1 h2 hl
  exact lv_ladd C.2.2.2.2.2.1 C.2.2.2.2.2.2.1 d (by rw [hz]; exact k H locs ls hP h1 h2 hl)
theorem jw_lmul (C : jC X l cc own Ts rm nL D cI cB ro) {x y : Int64} (z : Int64) (d : decode cc pc = .ok (.lmul, 1)) (hz : x * y = z) (k : jW X (pc + 1) lv (.long z :: st) ws) : jW X pc lv (.long y :: .long x :: st) ws := by
  obtain ⟨p, l', e, R, s, m, args, below, meth, c, nL', D', A, ro', cells, slots, Q⟩ := X
  intro H locs ls hP h1 h2 hl
  exact lv_lmul C.2.2.2.2.2.1 C.2.2.2.2.2.2.1 d (by rw [hz]; exact k H locs ls hP h1 h2 hl)
theorem jw_land (C : jC X l cc own Ts rm nL D cI cB ro) {x y : Int64} (z : Int64) (d : decode cc pc = .ok (.land, 1)) (hz : x &&& y = z) (k : jW X (pc + 1) lv (.long z :: st) ws) : jW X pc lv (.long y :: .long x :: st) ws := by
  obtain ⟨p, l', e, R, s, m, args, below, meth, c, nL', D', A, ro', cells, slots, Q⟩ := X
  intro H locs ls hP h1 h2 hl
  exact lv_land C.2.2.2.2.2.1 C.2.2.2.2.2.2.1 d (by rw [hz]; exact k H locs ls hP h1 h2 hl)
theorem jw_ldiv (C : jC X l cc own Ts rm nL D cI cB ro) {x y : Int64} (z : Int64) (d : decode cc pc = .ok (.ldiv, 1)) (hne : ¬ y = 0) (hz : x / y = z) (k : jW X (pc + 1) lv (.long z :: st) ws) : jW X pc lv (.long y :: .long x :: st) ws := by
  obtain ⟨p, l', e, R, s, m, args, below, meth, c, nL', D', A, ro', cells, slots, Q⟩ := X
  intro H locs ls hP h1 h2 hl
  exact lv_ldiv C.2.2.2.2.2.1 C.2.2.2.2.2.2.1 d hne (by rw [hz]; exact k H locs ls hP h1 h2 hl)
theorem jw_lrem (C : jC X l cc own Ts rm nL D cI cB ro) {x y : Int64} (z : Int64) (d : decode cc pc = .ok (.lrem, 1)) (hne : ¬ y = 0) (hz : x - x / y * y = z) (k : jW X (pc + 1) lv (.long z :: st) ws) : jW X pc lv (.long y :: .long x :: st) ws := by
  obtain ⟨p, l', e, R, s, m, args, below, meth, c, nL', D', A, ro', cells, slots, Q⟩ := X
  intro H locs ls hP h1 h2 hl
  exact lv_lrem C.2.2.2.2.2.1 C.2.2.2.2.2.2.1 d hne (by rw [hz]; exact k H locs ls hP h1 h2 hl)
theorem jw_dup (C : jC X l cc own Ts rm nL D cI cB ro) {a : Value} (d : decode cc pc = .ok (.dup, 1)) (ha : a.category = 1) (k : jW X (pc + 1) lv (a :: a :: st) ws) : jW X pc lv (a :: st) ws := by
  obtain ⟨p, l', e, R, s, m, args, below, meth, c, nL', D', A, ro', cells, slots, Q⟩ := X
  intro H locs ls hP h1 h2 hl
  exact lv_dup C.2.2.2.2.2.1 C.2.2.2.2.2.2.1 d ha (k H locs ls hP h1 h2 hl)
theorem jw_pop (C : jC X l cc own Ts rm nL D cI cB ro) {a : Value} (d : decode cc pc = .ok (.pop, 1)) (ha : a.category = 1) (k : jW X (pc + 1) lv st ws) : jW X pc lv (a :: st) ws := by
  obtain ⟨p, l', e, R, s, m, args, below, meth, c, nL', D', A, ro', cells, slots, Q⟩ := X
  intro H locs ls hP h1 h2 hl
  exact lv_pop C.2.2.2.2.2.1 C.2.2.2.2.2.2.1 d ha (k H locs ls hP h1 h2 hl)
theorem jw_dup2 (C : jC X l cc own Ts rm nL D cI cB ro) {a b : Value} (d : decode cc pc = .ok (.dup2, 1)) (ha : a.category = 1) (hb : b.category = 1) (k : jW X (pc + 1) lv (a :: b :: a :: b :: st) ws) : jW X pc lv (a :: b :: st) ws := by
  obtain ⟨p, l', e, R, s, m, args, below, meth, c, nL', D', A, ro', cells, slots, Q⟩ := X
  intro H locs ls hP h1 h2 hl
  exact lv_dup2_11 C.2.2.2.2.2.1 C.2.2.2.2.2.2.1 d ha hb (k H locs ls hP h1 h2 hl)
theorem jw_dup_x1 (C : jC X l cc own Ts rm nL D cI cB ro) {a b : Value} (d : decode cc pc = .ok (.dup_x1, 1)) (ha : a.category = 1) (hb : b.category = 1) (k : jW X (pc + 1) lv (a :: b :: a :: st) ws) : jW X pc lv (a :: b :: st) ws := by
  obtain ⟨p, l', e, R, s, m, args, below, meth, c, nL', D', A, ro', cells, slots, Q⟩ := X
  intro H locs ls hP h1 h2 hl
  exact lv_dup_x1 C.2.2.2.2.2.1 C.2.2.2.2.2.2.1 d ha hb (k H locs ls hP h1 h2 hl)
theorem jw_goto (C : jC X l cc own Ts rm nL D cI cB ro) {off : Int} {tgt : Nat} (d : decode cc pc = .ok (.goto off, 3)) (ht : (pc : Int) + off = (tgt : Int)) (k : jW X tgt lv st ws) : jW X pc lv st ws := by
  obtain ⟨p, l', e, R, s, m, args, below, meth, c, nL', D', A, ro', cells, slots, Q⟩ := X
  intro H locs ls hP h1 h2 hl
  exact lv_goto C.2.2.2.2.2.1 C.2.2.2.2.2.2.1 d ht (k H locs ls hP h1 h2 hl)
theorem jw_icmp_eq (C : jC X l cc own Ts rm nL D cI cB ro) {x y : Int} {off : Int} {tgt : Nat} (d : decode cc pc = .ok (.if_icmp .eq off, 3)) (ht : (pc : Int) + off = (tgt : Int)) (hx : -2147483648 ≤ x ∧ x < 2147483648) (hy : -2147483648 ≤ y ∧ y < 2147483648) (kt : x = y → jW X tgt lv st ws) (kf : ¬ x = y → jW X (pc + 3) lv st ws) : jW X pc lv (.int (jI y) :: .int (jI x) :: st) ws := by
  obtain ⟨p, l', e, R, s, m, args, below, meth, c, nL', D', A, ro', cells, slots, Q⟩ := X
  intro H locs ls hP h1 h2 hl
  exact lv_icmp_eq C.2.2.2.2.2.1 C.2.2.2.2.2.2.1 d ht (fun q => kt ((jI_eq hx hy).mp q) H locs ls hP h1 h2 hl) (fun q => kf (fun hh => q ((jI_eq hx hy).mpr hh)) H locs ls hP h1 h2 hl)
theorem jw_if_eq (C : jC X l cc own Ts rm nL D cI cB ro) {x : Int} {off : Int} {tgt : Nat} (d : decode cc pc = .ok (.ifCond .eq off, 3)) (ht : (pc : Int) + off = (tgt : Int)) (hx : -2147483648 ≤ x ∧ x < 2147483648) (kt : x = 0 → jW X tgt lv st ws) (kf : ¬ x = 0 → jW X (pc + 3) lv st ws) : jW X pc lv (.int (jI x) :: st) ws := by
  obtain ⟨p, l', e, R, s, m, args, below, meth, c, nL', D', A, ro', cells, slots, Q⟩ := X
  intro H locs ls hP h1 h2 hl
  exact lv_if_eq C.2.2.2.2.2.1 C.2.2.2.2.2.2.1 d ht (fun q => kt ((jI_eq (y := 0) hx ⟨by decide, by decide⟩).mp q) H locs ls hP h1 h2 hl) (fun q => kf (fun hh => q ((jI_eq (y := 0) hx ⟨by decide, by decide⟩).mpr hh)) H locs ls hP h1 h2 hl)
theorem jw_icmp_ne (C : jC X l cc own Ts rm nL D cI cB ro) {x y : Int} {off : Int} {tgt : Nat} (d : decode cc pc = .ok (.if_icmp .ne off, 3)) (ht : (pc : Int) + off = (tgt : Int)) (hx : -2147483648 ≤ x ∧ x < 2147483648) (hy : -2147483648 ≤ y ∧ y < 2147483648) (kt : ¬ x = y → jW X tgt lv st ws) (kf : x = y → jW X (pc + 3) lv st ws) : jW X pc lv (.int (jI y) :: .int (jI x) :: st) ws := by
  obtain ⟨p, l', e, R, s, m, args, below, meth, c, nL', D', A, ro', cells, slots, Q⟩ := X
  intro H locs ls hP h1 h2 hl
  exact lv_icmp_ne C.2.2.2.2.2.1 C.2.2.2.2.2.2.1 d ht (fun q => kt (fun hh => q ((jI_eq hx hy).mpr hh)) H locs ls hP h1 h2 hl) (fun q => kf ((jI_eq hx hy).mp q) H locs ls hP h1 h2 hl)
theorem jw_if_ne (C : jC X l cc own Ts rm nL D cI cB ro) {x : Int} {off : Int} {tgt : Nat} (d : decode cc pc = .ok (.ifCond .ne off, 3)) (ht : (pc : Int) + off = (tgt : Int)) (hx : -2147483648 ≤ x ∧ x < 2147483648) (kt : ¬ x = 0 → jW X tgt lv st ws) (kf : x = 0 → jW X (pc + 3) lv st ws) : jW X pc lv (.int (jI x) :: st) ws := by
  obtain ⟨p, l', e, R, s, m, args, below, meth, c, nL', D', A, ro', cells, slots, Q⟩ := X
  intro H locs ls hP h1 h2 hl
  exact lv_if_ne C.2.2.2.2.2.1 C.2.2.2.2.2.2.1 d ht (fun q => kt (fun hh => q ((jI_eq (y := 0) hx ⟨by decide, by decide⟩).mpr hh)) H locs ls hP h1 h2 hl) (fun q => kf ((jI_eq (y := 0) hx ⟨by decide, by decide⟩).mp q) H locs ls hP h1 h2 hl)
theorem jw_icmp_lt (C : jC X l cc own Ts rm nL D cI cB ro) {x y : Int} {off : Int} {tgt : Nat} (d : decode cc pc = .ok (.if_icmp .lt off, 3)) (ht : (pc : Int) + off = (tgt : Int)) (hx : -2147483648 ≤ x ∧ x < 2147483648) (hy : -2147483648 ≤ y ∧ y < 2147483648) (kt : x < y → jW X tgt lv st ws) (kf : ¬ x < y → jW X (pc + 3) lv st ws) : jW X pc lv (.int (jI y) :: .int (jI x) :: st) ws := by
  obtain ⟨p, l', e, R, s, m, args, below, meth, c, nL', D', A, ro', cells, slots, Q⟩ := X
  intro H locs ls hP h1 h2 hl
  exact lv_icmp_lt C.2.2.2.2.2.1 C.2.2.2.2.2.2.1 d ht (fun q => kt ((jI_lt hx hy).mp q) H locs ls hP h1 h2 hl) (fun q => kf (fun hh => q ((jI_lt hx hy).mpr hh)) H locs ls hP h1 h2 hl)
theorem jw_if_lt (C : jC X l cc own Ts rm nL D cI cB ro) {x : Int} {off : Int} {tgt : Nat} (d : decode cc pc = .ok (.ifCond .lt off, 3)) (ht : (pc : Int) + off = (tgt : Int)) (hx : -2147483648 ≤ x ∧ x < 2147483648) (kt : x < 0 → jW X tgt lv st ws) (kf : ¬ x < 0 → jW X (pc + 3) lv st ws) : jW X pc lv (.int (jI x) :: st) ws := by
  obtain ⟨p, l', e, R, s, m, args, below, meth, c, nL', D', A, ro', cells, slots, Q⟩ := X
  intro H locs ls hP h1 h2 hl
  exact lv_if_lt C.2.2.2.2.2.1 C.2.2.2.2.2.2.1 d ht (fun q => kt ((jI_lt (y := 0) hx ⟨by decide, by decide⟩).mp q) H locs ls hP h1 h2 hl) (fun q => kf (fun hh => q ((jI_lt (y := 0) hx ⟨by decide, by decide⟩).mpr hh)) H locs ls hP h1 h2 hl)
theorem jw_icmp_ge (C : jC X l cc own Ts rm nL D cI cB ro) {x y : Int} {off : Int} {tgt : Nat} (d : decode cc pc = .ok (.if_icmp .ge off, 3)) (ht : (pc : Int) + off = (tgt : Int)) (hx : -2147483648 ≤ x ∧ x < 2147483648) (hy : -2147483648 ≤ y ∧ y < 2147483648) (kt : y ≤ x → jW X tgt lv st ws) (kf : ¬ y ≤ x → jW X (pc + 3) lv st ws) : jW X pc lv (.int (jI y) :: .int (jI x) :: st) ws := by
  obtain ⟨p, l', e, R, s, m, args, below, meth, c, nL', D', A, ro', cells, slots, Q⟩ := X
  intro H locs ls hP h1 h2 hl
  exact lv_icmp_ge C.2.2.2.2.2.1 C.2.2.2.2.2.2.1 d ht (fun q => kt ((jI_le hy hx).mp q) H locs ls hP h1 h2 hl) (fun q => kf (fun hh => q ((jI_le hy hx).mpr hh)) H locs ls hP h1 h2 hl)
theorem jw_if_ge (C : jC X l cc own Ts rm nL D cI cB ro) {x : Int} {off : Int} {tgt : Nat} (d : decode cc pc = .ok (.ifCond .ge off, 3)) (ht : (pc : Int) + off = (tgt : Int)) (hx : -2147483648 ≤ x ∧ x < 2147483648) (kt : 0 ≤ x → jW X tgt lv st ws) (kf : ¬ 0 ≤ x → jW X (pc + 3) lv st ws) : jW X pc lv (.int (jI x) :: st) ws := by
  obtain ⟨p, l', e, R, s, m, args, below, meth, c, nL', D', A, ro', cells, slots, Q⟩ := X
  intro H locs ls hP h1 h2 hl
  exact lv_if_ge C.2.2.2.2.2.1 C.2.2.2.2.2.2.1 d ht (fun q => kt ((jI_le (x := 0) ⟨by decide, by decide⟩ hx).mp q) H locs ls hP h1 h2 hl) (fun q => kf (fun hh => q ((jI_le (x := 0) ⟨by decide, by decide⟩ hx).mpr hh)) H locs ls hP h1 h2 hl)
theorem jw_icmp_gt (C : jC X l cc own Ts rm nL D cI cB ro) {x y : Int} {off : Int} {tgt : Nat} (d : decode cc pc = .ok (.if_icmp .gt off, 3)) (ht : (pc : Int) + off = (tgt : Int)) (hx : -2147483648 ≤ x ∧ x < 2147483648) (hy : -2147483648 ≤ y ∧ y < 2147483648) (kt : y < x → jW X tgt lv st ws) (kf : ¬ y < x → jW X (pc + 3) lv st ws) : jW X pc lv (.int (jI y) :: .int (jI x) :: st) ws := by
  obtain ⟨p, l', e, R, s, m, args, below, meth, c, nL', D', A, ro', cells, slots, Q⟩ := X
  intro H locs ls hP h1 h2 hl
  exact lv_icmp_gt C.2.2.2.2.2.1 C.2.2.2.2.2.2.1 d ht (fun q => kt ((jI_lt hy hx).mp q) H locs ls hP h1 h2 hl) (fun q => kf (fun hh => q ((jI_lt hy hx).mpr hh)) H locs ls hP h1 h2 hl)
theorem jw_if_gt (C : jC X l cc own Ts rm nL D cI cB ro) {x : Int} {off : Int} {tgt : Nat} (d : decode cc pc = .ok (.ifCond .gt off, 3)) (ht : (pc : Int) + off = (tgt : Int)) (hx : -2147483648 ≤ x ∧ x < 2147483648) (kt : 0 < x → jW X tgt lv st ws) (kf : ¬ 0 < x → jW X (pc + 3) lv st ws) : jW X pc lv (.int (jI x) :: st) ws := by
  obtain ⟨p, l', e, R, s, m, args, below, meth, c, nL', D', A, ro', cells, slots, Q⟩ := X
  intro H locs ls hP h1 h2 hl
  exact lv_if_gt C.2.2.2.2.2.1 C.2.2.2.2.2.2.1 d ht (fun q => kt ((jI_lt (x := 0) ⟨by decide, by decide⟩ hx).mp q) H locs ls hP h1 h2 hl) (fun q => kf (fun hh => q ((jI_lt (x := 0) ⟨by decide, by decide⟩ hx).mpr hh)) H locs ls hP h1 h2 hl)
theorem jw_icmp_le (C : jC X l cc own Ts rm nL D cI cB ro) {x y : Int} {off : Int} {tgt : Nat} (d : decode cc pc = .ok (.if_icmp .le off, 3)) (ht : (pc : Int) + off = (tgt : Int)) (hx : -2147483648 ≤ x ∧ x < 2147483648) (hy : -2147483648 ≤ y ∧ y < 2147483648) (kt : x ≤ y → jW X tgt lv st ws) (kf : ¬ x ≤ y → jW X (pc + 3) lv st ws) : jW X pc lv (.int (jI y) :: .int (jI x) :: st) ws := by
  obtain ⟨p, l', e, R, s, m, args, below, meth, c, nL', D', A, ro', cells, slots, Q⟩ := X
  intro H locs ls hP h1 h2 hl
  exact lv_icmp_le C.2.2.2.2.2.1 C.2.2.2.2.2.2.1 d ht (fun q => kt ((jI_le hx hy).mp q) H locs ls hP h1 h2 hl) (fun q => kf (fun hh => q ((jI_le hx hy).mpr hh)) H locs ls hP h1 h2 hl)
theorem jw_if_le (C : jC X l cc own Ts rm nL D cI cB ro) {x : Int} {off : Int} {tgt : Nat} (d : decode cc pc = .ok (.ifCond .le off, 3)) (ht : (pc : Int) + off = (tgt : Int)) (hx : -2147483648 ≤ x ∧ x < 2147483648) (kt : x ≤ 0 → jW X tgt lv st ws) (kf : ¬ x ≤ 0 → jW X (pc + 3) lv st ws) : jW X pc lv (.int (jI x) :: st) ws := by
  obtain ⟨p, l', e, R, s, m, args, below, meth, c, nL', D', A, ro', cells, slots, Q⟩ := X
  intro H locs ls hP h1 h2 hl
  exact lv_if_le C.2.2.2.2.2.1 C.2.2.2.2.2.2.1 d ht (fun q => kt ((jI_le (y := 0) hx ⟨by decide, by decide⟩).mp q) H locs ls hP h1 h2 hl) (fun q => kf (fun hh => q ((jI_le (y := 0) hx ⟨by decide, by decide⟩).mpr hh)) H locs ls hP h1 h2 hl)
theorem jw_ifb_eq (C : jC X l cc own Ts rm nL D cI cB ro) {b : Prop} [Decidable b] {off : Int} {tgt : Nat} (d : decode cc pc = .ok (.ifCond .eq off, 3)) (ht : (pc : Int) + off = (tgt : Int)) (kt : ¬ b → jW X tgt lv st ws) (kf : b → jW X (pc + 3) lv st ws) : jW X pc lv (.int (jI (jb b)) :: st) ws := by
  obtain ⟨p, l', e, R, s, m, args, below, meth, c, nL', D', A, ro', cells, slots, Q⟩ := X
  intro H locs ls hP h1 h2 hl
  exact lv_if_eq C.2.2.2.2.2.1 C.2.2.2.2.2.2.1 d ht (fun q => kt (fun hb => by rw [jb_t hb] at q; exact absurd q (by decide)) H locs ls hP h1 h2 hl) (fun q => kf (Decidable.of_not_not (fun hb => q (by rw [jb_f hb]; rfl))) H locs ls hP h1 h2 hl)
theorem jw_ifb_ne (C : jC X l cc own Ts rm nL D cI cB ro) {b : Prop} [Decidable b] {off : Int} {tgt : Nat} (d : decode cc pc = .ok (.ifCond .ne off, 3)) (ht : (pc : Int) + off = (tgt : Int)) (kt : b → jW X tgt lv st ws) (kf : ¬ b → jW X (pc + 3) lv st ws) : jW X pc lv (.int (jI (jb b)) :: st) ws := by
  obtain ⟨p, l', e, R, s, m, args, below, meth, c, nL', D', A, ro', cells, slots, Q⟩ := X
  intro H locs ls hP h1 h2 hl
  exact lv_if_ne C.2.2.2.2.2.1 C.2.2.2.2.2.2.1 d ht (fun q => kt (Decidable.of_not_not (fun hb => q (by rw [jb_f hb]; rfl))) H locs ls hP h1 h2 hl) (fun q => kf (fun hb => by rw [jb_t hb] at q; exact absurd q (by decide)) H locs ls hP h1 h2 hl)
theorem jw_table (C : jC X l cc own Ts rm nL D cI cB ro) {dflt lo hi : Int} {offs : Array Int} {len : Nat} {x : Int} (d : decode cc pc = .ok (.tableswitch dflt lo hi offs, len)) (hx : -2147483648 ≤ x ∧ x < 2147483648) {off : Int} {tgt : Nat} (h1 : ¬ x < lo) (h2 : ¬ hi < x) (ho : offs[(x - lo).toNat]? = some off) (ht : (pc : Int) + off = (tgt : Int)) (kt : jW X tgt lv st ws) : jW X pc lv (.int (jI x) :: st) ws := by
  obtain ⟨p, l', e, R, s, m, args, below, meth, c, nL', D', A, ro', cells, slots, Q⟩ := X
  intro H locs ls hP g1 g2 hl
  refine lv_tableIn C.2.2.2.2.2.1 C.2.2.2.2.2.2.1 d (by rw [jI_t hx]; exact h1) (by rw [jI_t hx]; exact h2) (by rw [jI_t hx]; exact ho) ht (kt H locs ls hP g1 g2 hl)
theorem jw_tableOut (C : jC X l cc own Ts rm nL D cI cB ro) {dflt lo hi : Int} {offs : Array Int} {len : Nat} {x : Int} (d : decode cc pc = .ok (.tableswitch dflt lo hi offs, len)) (hx : -2147483648 ≤ x ∧ x < 2147483648) {tgt : Nat} (h : x < lo ∨ hi < x) (ht : (pc : Int) + dflt = (tgt : Int)) (kt : jW X tgt lv st ws) : jW X pc lv (.int (jI x) :: st) ws := by
  obtain ⟨p, l', e, R, s, m, args, below, meth, c, nL', D', A, ro', cells, slots, Q⟩ := X
  intro H locs ls hP g1 g2 hl
  exact lv_tableOut C.2.2.2.2.2.1 C.2.2.2.2.2.2.1 d (by rw [jI_t hx]; exact h) ht (kt H locs ls hP g1 g2 hl)
theorem jw_lookup (C : jC X l cc own Ts rm nL D cI cB ro) {dflt : Int} {ps : Array (Int × Int)} {len : Nat} {x : Int} (d : decode cc pc = .ok (.lookupswitch dflt ps, len)) (hp : (ps.toList.zip (ps.toList.drop 1)).all (fun (a, next) => a.1 < next.1) = true) (hx : -2147483648 ≤ x ∧ x < 2147483648) {off : Int} {tgt : Nat} (ho : Op.lookupswitch.offset ps.toList dflt x = off) (ht : (pc : Int) + off = (tgt : Int)) (kt : jW X tgt lv st ws) : jW X pc lv (.int (jI x) :: st) ws := by
  obtain ⟨p, l', e, R, s, m, args, below, meth, c, nL', D', A, ro', cells, slots, Q⟩ := X
  intro H locs ls hP g1 g2 hl
  exact lv_lookup C.2.2.2.2.2.1 C.2.2.2.2.2.2.1 d hp (by rw [jI_t hx]; exact ho) ht (kt H locs ls hP g1 g2 hl)
theorem jw_get (C : jC X l cc own Ts rm nL D cI cB ro) {ref Cn : String} {T : u_T} {N ci index a : Nat} (hin : ∀ w ∈ u_ws Cn T N, w ∈ Ts) (q0 : Nat) {fs : List Value} (he : ws[q0]? = some (a, .inr (ci, fs))) (hc : vwCl[ci]? = some (Cn, T, N)) (k : Nat) (hk : k < N) (hlink : Cond.fieldLink own index ref (T k).2.1 (T k).2.2.1 ∈ Ts) (href : (T k).1 = ref) {v : Value} (hv : fs[k]? = some v) (d : decode cc pc = .ok (.getfield index, 3)) (kk : jW X (pc + 3) lv (v :: st) ws) : jW X pc lv (.ref a :: st) ws := by
  obtain ⟨p, l', e, R, s, m, args, below, meth, c, nL', D', A, ro', cells, slots, Q⟩ := X
  intro H locs ls hP h1 h2 hl
  obtain ⟨rfl, rfl, rfl, rfl, rfl, hx, hb, hml, hown, hts, hK, hA, hcs, hss⟩ := id C
  subst href
  exact va_get (D := D') hx hb hts hin hown hK.1 hP q0 he hc k hk (hts _ hlink) (fun _ h9 => h9) hv d (kk H locs ls hP h1 h2 hl)
theorem jw_put (C : jC X l cc own Ts rm nL D cI cB false) {ref Cn : String} {T : u_T} {N ci index a : Nat} (hin : ∀ w ∈ u_ws Cn T N, w ∈ Ts) (ty0 : Nat → FieldType) (hty : ∀ k, k < N → parseFieldDescriptor (T k).2.2.1 = some (ty0 k)) (hnm : ∀ a, a < N → ∀ b, b < N → a ≠ b → (T a).2.1 ≠ (T b).2.1) (q0 : Nat) {fs : List Value} (he : ws[q0]? = some (a, .inr (ci, fs))) (hc : vwCl[ci]? = some (Cn, T, N)) (k : Nat) (hk : k < N) (hlink : Cond.fieldLink own index ref (T k).2.1 (T k).2.2.1 ∈ Ts) (href : (T k).1 = ref) (hfin : (T k).2.2.2 = false) {ty : FieldType} {v : Value} (hd : parseFieldDescriptor (T k).2.2.1 = some ty) (hn : narrow ty v = v) (hfit : fits ty v = true) (hlen : k < fs.length) {ws' : va_W} (hw : ws.set q0 (a, .inr (ci, fs.set k v)) = ws') (d : decode cc pc = .ok (.putfield index, 3)) (kk : jW X (pc + 3) lv st ws') : jW X pc lv (v :: .ref a :: st) ws := by
  obtain ⟨p, l', e, R, s, m, args, below, meth, c, nL', D', A, ro', cells, slots, Q⟩ := X
  intro H locs ls hP h1 h2 hl
  obtain ⟨rfl, rfl, rfl, rfl, hro, hx, hb, hml, hown, hts, hK, hA, hcs, hss⟩ := id C
  subst href
  subst hw
  refine va_put (D := D') hx hb hts hin ty0 hty hnm hown hK.1 hP (h1 hro).1 (h1 hro).2 q0 he hc k hk (hts _ hlink) (fun _ h9 => h9) hfin hd hn hfit hlen d (fun H1 locs1 a1 a2 a3 => ?_)
  exact kk H1 locs1 ls a1 (fun _ => ⟨a2, a3⟩) (fun q => absurd (hro.symm.trans q) (by decide)) hl
/-- an int array's place read, a byte array's -/
theorem jw_iald (C : jC X l cc own Ts rm nL D cI cB ro) {a n : Nat} {f : Nat → Int} {z : Int} (q0 k : Nat) (ha : ws[q0]? = some (a, .inl (cI, n, .inl (fun j => jI (f j))))) (hk : z = (k : Int)) (hlt : k < n) (hn : n < 2147483648) (d : decode cc pc = .ok (.iaload, 1)) (kk : jW X (pc + 1) lv (.int (jI (f k)) :: st) ws) : jW X pc lv (.int (jI z) :: .ref a :: st) ws := by
  obtain ⟨p, l', e, R, s, m, args, below, meth, c, nL', D', A, ro', cells, slots, Q⟩ := X
  intro H locs ls hP h1 h2 hl
  obtain ⟨rfl, rfl, rfl, rfl, rfl, hx, hb, hml, hown, hts, hK, hA, hcs, hss⟩ := id C
  refine va_iald (D := D') hx hb hK.1 hP q0 0 ha rfl (jI_in hk hlt hn) d ?_
  rw [jI_clamp hk (by omega)]
  exact kk H locs ls hP h1 h2 hl
theorem jw_bald (C : jC X l cc own Ts rm nL D cI cB ro) {a n : Nat} {f : Nat → Int} {z : Int} (q0 k : Nat) (ha : ws[q0]? = some (a, .inl (cB, n, .inl (fun j => jI (f j))))) (hk : z = (k : Int)) (hlt : k < n) (hn : n < 2147483648) (d : decode cc pc = .ok (.baload, 1)) (kk : jW X (pc + 1) lv (.int (jI (f k)) :: st) ws) : jW X pc lv (.int (jI z) :: .ref a :: st) ws := by
  obtain ⟨p, l', e, R, s, m, args, below, meth, c, nL', D', A, ro', cells, slots, Q⟩ := X
  intro H locs ls hP h1 h2 hl
  obtain ⟨rfl, rfl, rfl, rfl, rfl, hx, hb, hml, hown, hts, hK, hA, hcs, hss⟩ := id C
  refine va_bald (D := D') hx hb hK.1 hP q0 1 ha rfl (jI_in hk hlt hn) d ?_
  rw [jI_clamp hk (by omega)]
  exact kk H locs ls hP h1 h2 hl
theorem jI_up (f : Nat → Int) (k : Nat) (v : Int) : upd (fun j => jI (f j)) k (jI v) = fun j => jI (va_up f k v j) := by
  funext j
  by_cases h : j = k <;> simp [upd, va_up, h]
theorem jw_iast (C : jC X l cc own Ts rm nL D cI cB false) {a n : Nat} {f : Nat → Int} {z v : Int} (q0 k : Nat) (ha : ws[q0]? = some (a, .inl (cI, n, .inl (fun j => jI (f j))))) (hk : z = (k : Int)) (hlt : k < n) (hn : n < 2147483648) {ws' : va_W} (hw : ws.set q0 (a, .inl (cI, n, .inl (fun j => jI (va_up f k v j)))) = ws') (d : decode cc pc = .ok (.iastore, 1)) (kk : jW X (pc + 1) lv st ws') : jW X pc lv (.int (jI v) :: .int (jI z) :: .ref a :: st) ws := by
  obtain ⟨p, l', e, R, s, m, args, below, meth, c, nL', D', A, ro', cells, slots, Q⟩ := X
  intro H locs ls hP h1 h2 hl
  obtain ⟨rfl, rfl, rfl, rfl, hro, hx, hb, hml, hown, hts, hK, hA, hcs, hss⟩ := id C
  subst hw
  refine va_iast (D := D') hx hb hK.1 hP (h1 hro).1 (h1 hro).2 q0 0 ha rfl (jI_in hk hlt hn) d (fun H1 locs1 a1 a2 a3 => ?_)
  rw [jI_clamp hk (by omega), jI_up] at a1 a2
  exact kk H1 locs1 ls a1 (fun _ => ⟨a2, a3⟩) (fun q => absurd (hro.symm.trans q) (by decide)) hl
theorem jw_bast (C : jC X l cc own Ts rm nL D cI cB false) {a n : Nat} {f : Nat → Int} {z v : Int} (q0 k : Nat) (ha : ws[q0]? = some (a, .inl (cB, n, .inl (fun j => jI (f j))))) (hk : z = (k : Int)) (hlt : k < n) (hn : n < 2147483648) (hv : (jI v).toInt8.toInt32 = jI v) {ws' : va_W} (hw : ws.set q0 (a, .inl (cB, n, .inl (fun j => jI (va_up f k v j)))) = ws') (d : decode cc pc = .ok (.bastore, 1)) (kk : jW X (pc + 1) lv st ws') : jW X pc lv (.int (jI v) :: .int (jI z) :: .ref a :: st) ws := by
  obtain ⟨p, l', e, R, s, m, args, below, meth, c, nL', D', A, ro', cells, slots, Q⟩ := X
  intro H locs ls hP h1 h2 hl
  obtain ⟨rfl, rfl, rfl, rfl, hro, hx, hb, hml, hown, hts, hK, hA, hcs, hss⟩ := id C
  subst hw
  refine va_bast (D := D') hx hb hK.1 hP (h1 hro).1 (h1 hro).2 q0 1 ha rfl (jI_in hk hlt hn) d (fun H1 locs1 a1 a2 a3 => ?_)
  rw [jI_clamp hk (by omega), vp_nar_byte, hv, jI_up] at a1 a2
  exact kk H1 locs1 ls a1 (fun _ => ⟨a2, a3⟩) (fun q => absurd (hro.symm.trans q) (by decide)) hl
/-- the top by another name; locals and cells by equal ones -/
theorem jw_top {x y : Int32} (h : x = y) (k : jW X pc lv (.int y :: st) ws) : jW X pc lv (.int x :: st) ws := h ▸ k
theorem jw_eq {lv' : List (Nat × Value)} {st' : List Value} {ws' : va_W} (k : jW X pc lv' st' ws') (h1 : lv' = lv) (h2 : st' = st) (h3 : ws' = ws) : jW X pc lv st ws := by
  subst h1 h2 h3
  exact k
theorem jw_lv (ks : List Nat) {lv' : List (Nat × Value)} (h : lv_pick lv ks = lv') (k : jW X pc lv' st ws) : jW X pc lv st ws := by
  obtain ⟨p, l', e, R, s, m, args, below, meth, c, nL', D', A, ro', cells, slots, Q⟩ := X
  intro H locs ls hP h1 h2 hl
  exact k H locs ls hP h1 h2 (lv_sub hl ks h)
end JR
end
section
/-! My own contracts: jMR a method that only reads and answers v; jMW one that writes its cells. Calls by contract. -/
def jS (v : Value) : Array Value → State → Outcome → State → Prop := fun _ st oc t => oc = .returned (some v) ∧ t.heap = st.heap
def jPR (D : va_G) (cI cB : ClassId) (av : List Value) (wd : va_W) : Array Value → State → Prop := fun a U => a = av.toArray ∧ va_P D vwCl wd U.heap ∧ jK D cI cB U
def jMR (l : Launch) (y : MethodName) (ws : List Cond) (rm : Room) (D : va_G) (cI cB : ClassId) (av : List Value) (wd : va_W) (v : Value) : Prop := Met l y ws rm (jPR D cI cB av wd) (jS v) 0 0 (fun _ => False)
def jQ {S : Type} (rv : S → Option Value) (post : S → Prop) (w1 : S → va_W) (D : va_G) (A : Nat → Prop) : Array Value → State → Outcome → State → Prop := fun _ st oc t => (∃ u : S, oc = .returned (rv u) ∧ post u ∧ va_P D vwCl (w1 u) t.heap) ∧ va_F A st t
def jPW (D : va_G) (cI cB : ClassId) (av : List Value) (wd : va_W) (sz : Nat) : Array Value → State → Prop := fun a U => a = av.toArray ∧ U.heap.size = sz ∧ va_P D vwCl wd U.heap ∧ jK D cI cB U ∧ va_D (fun _ => True) wd
def jMW {S : Type} (l : Launch) (y : MethodName) (ws : List Cond) (rm : Room) (D : va_G) (cI cB : ClassId) (av : List Value) (wd : va_W) (rv : S → Option Value) (post : S → Prop) (w1 : S → va_W) : Prop := ∀ sz : Nat, Met l y ws rm (jPW D cI cB av wd sz) (jQ rv post w1 D (va_A wd sz)) 0 0 (va_A wd sz)
theorem jPR.blind {D : va_G} {cI cB : ClassId} {av : List Value} {wd : va_W} : FrameBlind (jPR D cI cB av wd) := fun a U g mk h => ⟨h.1, h.2.1, jK.same (u := U) (U := U.calling g mk a) rfl h.2.2⟩
theorem jPW.blind {D : va_G} {cI cB : ClassId} {av : List Value} {wd : va_W} {sz : Nat} : FrameBlind (jPW D cI cB av wd sz) := fun a U g mk h => ⟨h.1, h.2.1, h.2.2.1, jK.same (u := U) (U := U.calling g mk a) rfl h.2.2.2.1, h.2.2.2.2⟩
def jER (X : jX) (ret : Option FieldType) (v : Value) : Prop := match X with
  | (_, _, _, _, s, _, args, below, meth, _, _, _, _, _, cells, slots, Q) => meth.sig.returnType = ret ∧ meth.locks = false ∧ Q = MQ below (jS v) args s cells slots (fun _ => False)
def jEW {S : Type} (X : jX) (ret : Option FieldType) (rv : S → Option Value) (post : S → Prop) (w1 : S → va_W) : Prop := match X with
  | (_, _, _, _, s, _, args, below, meth, _, _, D, A, _, cells, slots, Q) => meth.sig.returnType = ret ∧ meth.locks = false ∧ Q = MQ below (jQ rv post w1 D A) args s cells slots A
theorem jMR.of {l : Launch} {y : MethodName} {ws ws' : List Cond} {rm : Room} {D : va_G} {cI cB : ClassId} {av : List Value} {wd : va_W} {v : Value} {cc : ByteArray} {maxL : Nat} {ret : Option FieldType} {own : String} (ho : y.cls = own) (hy : plainName y.cls = true) (hw : ws = Cond.code y cc maxL ret :: ws') (hlen : (lg_sl av).length ≤ maxL)
    (body : ∀ X : jX, jC X l cc own ws rm maxL D cI cB true → jER X ret v → jW X 0 (lv_args 0 av) [] wd) : jMR l y ws rm D cI cB av wd v := by
  refine Met.ofW hy hw ?_
  intro p e s m args below meth c s₁ B hml hv
  obtain ⟨rfl, hP, hK⟩ := hv
  have hts := atoms_spec (ws := ws) B.pre
  rw [lg_entry_eq]
  exact body (p, l, e, rm, s, m, av.toArray, below, meth, c, maxL, D, (fun _ => True), true, 0, 0, MQ below (jS v) av.toArray s 0 0 (fun _ => False)) ⟨rfl, rfl, rfl, rfl, rfl, B.exec, B.bytes, hml, ho ▸ findClass_of_methodNamed B.named, hts, hK, fun _ _ => trivial, Nat.zero_le _, Nat.zero_le _⟩ ⟨B.returns, B.notSynchronized, rfl⟩ s.heap [] _ hP (fun q => absurd q (by decide)) (fun _ => ⟨rfl, rfl⟩) (lv_entry av hlen)
theorem jMW.of {S : Type} {l : Launch} {y : MethodName} {ws ws' : List Cond} {rm : Room} {D : va_G} {cI cB : ClassId} {av : List Value} {wd : va_W} {rv : S → Option Value} {post : S → Prop} {w1 : S → va_W} {cc : ByteArray} {maxL : Nat} {ret : Option FieldType} {own : String} (ho : y.cls = own) (hy : plainName y.cls = true) (hw : ws = Cond.code y cc maxL ret :: ws') (hlen : (lg_sl av).length ≤ maxL)
    (body : ∀ X : jX, jC X l cc own ws rm maxL D cI cB false → jEW X ret rv post w1 → jW X 0 (lv_args 0 av) [] wd) : jMW l y ws rm D cI cB av wd rv post w1 := by
  intro sz
  refine Met.ofW hy hw ?_
  intro p e s m args below meth c s₁ B hml hv
  obtain ⟨rfl, hsz, hP, hK, hD0⟩ := hv
  subst hsz
  have hD := hD0.self (sz := s.heap.size)
  have hts := atoms_spec (ws := ws) B.pre
  rw [lg_entry_eq]
  exact body (p, l, e, rm, s, m, av.toArray, below, meth, c, maxL, D, va_A wd s.heap.size, false, 0, 0, MQ below (jQ rv post w1 D (va_A wd s.heap.size)) av.toArray s 0 0 (va_A wd s.heap.size)) ⟨rfl, rfl, rfl, rfl, rfl, B.exec, B.bytes, hml, ho ▸ findClass_of_methodNamed B.named, hts, hK, fun _ h => Or.inr h, Nat.zero_le _, Nat.zero_le _⟩ ⟨B.returns, B.notSynchronized, rfl⟩ s.heap [] _ hP (fun _ => ⟨hD, va_S.rf⟩) (fun q => absurd q (by decide)) (lv_entry av hlen)
section JRET
variable {X : jX} {l : Launch} {cc : ByteArray} {own : String} {Ts : List Cond} {rm : Room} {nL : Nat} {D : va_G} {cI cB : ClassId} {pc : Nat} {lv : List (Nat × Value)} {ws : va_W}
theorem jw_iretR (C : jC X l cc own Ts rm nL D cI cB true) {x x' : Int32} (E : jER X (some .int) (.int x')) (d : decode cc pc = .ok (.ireturn, 1)) (hv : x = x') : jW X pc lv [.int x] ws := by
  obtain ⟨p, l', e, R, s, m, args, below, meth, c, nL', D', A, ro', cells, slots, Q⟩ := X
  intro H locs ls hP h1 h2 hl
  obtain ⟨rfl, rfl, rfl, rfl, hro, hx, hb, hml, hown, hts, hK, hA, hcs, hss⟩ := id C
  obtain ⟨hr, hlk, rfl⟩ := E
  obtain ⟨rfl, rfl⟩ := h2 hro
  subst hv
  exact W.iret hx hb hr (fun t ht hW => ⟨rfl, ht⟩) (fun q hq => absurd hq List.not_mem_nil) d hlk
theorem jw_zretR (C : jC X l cc own Ts rm nL D cI cB true) {x x' : Int32} (E : jER X (some .boolean) (.int x')) (d : decode cc pc = .ok (.ireturn, 1)) (hv : x = x') (hn : narrow .boolean (.int x') = .int x') : jW X pc lv [.int x] ws := by
  obtain ⟨p, l', e, R, s, m, args, below, meth, c, nL', D', A, ro', cells, slots, Q⟩ := X
  intro H locs ls hP h1 h2 hl
  obtain ⟨rfl, rfl, rfl, rfl, hro, hx, hb, hml, hown, hts, hK, hA, hcs, hss⟩ := id C
  obtain ⟨hr, hlk, rfl⟩ := E
  obtain ⟨rfl, rfl⟩ := h2 hro
  subst hv
  exact W.zret hx hb hr hn (fun t ht hW => ⟨rfl, ht⟩) (fun q hq => absurd hq List.not_mem_nil) d hlk
theorem jw_lretR (C : jC X l cc own Ts rm nL D cI cB true) {x x' : Int64} (E : jER X (some .long) (.long x')) (d : decode cc pc = .ok (.lreturn, 1)) (hv : x = x') : jW X pc lv [.long x] ws := by
  obtain ⟨p, l', e, R, s, m, args, below, meth, c, nL', D', A, ro', cells, slots, Q⟩ := X
  intro H locs ls hP h1 h2 hl
  obtain ⟨rfl, rfl, rfl, rfl, hro, hx, hb, hml, hown, hts, hK, hA, hcs, hss⟩ := id C
  obtain ⟨hr, hlk, rfl⟩ := E
  obtain ⟨rfl, rfl⟩ := h2 hro
  subst hv
  exact W.lret hx hb hr (fun t ht hW => ⟨rfl, ht⟩) (fun q hq => absurd hq List.not_mem_nil) d hlk
variable {S : Type} {rv : S → Option Value} {post : S → Prop} {w1 : S → va_W}
theorem jw_iretW (C : jC X l cc own Ts rm nL D cI cB false) {x : Int32} (E : jEW X (some .int) rv post w1) (d : decode cc pc = .ok (.ireturn, 1)) (u : S) (hu : some (.int x) = rv u) (hp : post u) (hw : ws = w1 u) : jW X pc lv [.int x] ws := by
  obtain ⟨p, l', e, R, s, m, args, below, meth, c, nL', D', A, ro', cells, slots, Q⟩ := X
  intro H locs ls hP h1 h2 hl
  obtain ⟨rfl, rfl, rfl, rfl, hro, hx, hb, hml, hown, hts, hK, hA, hcs, hss⟩ := id C
  obtain ⟨hr, hlk, rfl⟩ := E
  subst hw
  exact W.iret hx hb hr (fun t ht hW => ⟨⟨u, by rw [hu], hp, by rw [ht]; exact hP⟩, (h1 hro).2.F ht⟩) (h1 hro).2.2.2 d hlk
theorem jw_zretW (C : jC X l cc own Ts rm nL D cI cB false) {x : Int32} (E : jEW X (some .boolean) rv post w1) (d : decode cc pc = .ok (.ireturn, 1)) (u : S) (hu : some (.int x) = rv u) (hp : post u) (hw : ws = w1 u) (hn : narrow .boolean (.int x) = .int x) : jW X pc lv [.int x] ws := by
  obtain ⟨p, l', e, R, s, m, args, below, meth, c, nL', D', A, ro', cells, slots, Q⟩ := X
  intro H locs ls hP h1 h2 hl
  obtain ⟨rfl, rfl, rfl, rfl, hro, hx, hb, hml, hown, hts, hK, hA, hcs, hss⟩ := id C
  obtain ⟨hr, hlk, rfl⟩ := E
  subst hw
  exact W.zret hx hb hr hn (fun t ht hW => ⟨⟨u, by rw [hu], hp, by rw [ht]; exact hP⟩, (h1 hro).2.F ht⟩) (h1 hro).2.2.2 d hlk
theorem jw_lretW (C : jC X l cc own Ts rm nL D cI cB false) {x : Int64} (E : jEW X (some .long) rv post w1) (d : decode cc pc = .ok (.lreturn, 1)) (u : S) (hu : some (.long x) = rv u) (hp : post u) (hw : ws = w1 u) : jW X pc lv [.long x] ws := by
  obtain ⟨p, l', e, R, s, m, args, below, meth, c, nL', D', A, ro', cells, slots, Q⟩ := X
  intro H locs ls hP h1 h2 hl
  obtain ⟨rfl, rfl, rfl, rfl, hro, hx, hb, hml, hown, hts, hK, hA, hcs, hss⟩ := id C
  obtain ⟨hr, hlk, rfl⟩ := E
  subst hw
  exact W.lret hx hb hr (fun t ht hW => ⟨⟨u, by rw [hu], hp, by rw [ht]; exact hP⟩, (h1 hro).2.F ht⟩) (h1 hro).2.2.2 d hlk
theorem jw_vretW (C : jC X l cc own Ts rm nL D cI cB false) (E : jEW X none rv post w1) (d : decode cc pc = .ok (.return_, 1)) (u : S) (hu : none = rv u) (hp : post u) (hw : ws = w1 u) : jW X pc lv [] ws := by
  obtain ⟨p, l', e, R, s, m, args, below, meth, c, nL', D', A, ro', cells, slots, Q⟩ := X
  intro H locs ls hP h1 h2 hl
  obtain ⟨rfl, rfl, rfl, rfl, hro, hx, hb, hml, hown, hts, hK, hA, hcs, hss⟩ := id C
  obtain ⟨hr, hlk, rfl⟩ := E
  subst hw
  exact W.vret hx hb hr (fun t ht hW => ⟨⟨u, by rw [hu], hp, by rw [ht]; exact hP⟩, (h1 hro).2.F ht⟩) (h1 hro).2.2.2 d hlk
theorem jw_aretW (C : jC X l cc own Ts rm nL D cI cB false) {a : Nat} {nm : String} (E : jEW X (some (.object nm)) rv post w1) (d : decode cc pc = .ok (.areturn, 1)) (u : S) (hu : some (.ref a) = rv u) (hp : post u) (hw : ws = w1 u) : jW X pc lv [.ref a] ws := by
  obtain ⟨p, l', e, R, s, m, args, below, meth, c, nL', D', A, ro', cells, slots, Q⟩ := X
  intro H locs ls hP h1 h2 hl
  obtain ⟨rfl, rfl, rfl, rfl, hro, hx, hb, hml, hown, hts, hK, hA, hcs, hss⟩ := id C
  obtain ⟨hr, hlk, rfl⟩ := E
  subst hw
  exact W.aret hx hb hr (Or.inl ⟨nm, rfl⟩) (Or.inr ⟨a, rfl⟩) (fun t ht hW => ⟨⟨u, by rw [hu], hp, by rw [ht]; exact hP⟩, (h1 hro).2.F ht⟩) (h1 hro).2.2.2 d hlk
end JRET
theorem jfm {ws wd : va_W} {is : List Nat} (h : is.map (fun i => ws[i]?) = wd.map some) : is.filterMap (fun i => ws[i]?) = wd := by
  have e : is.filterMap (fun i => ws[i]?) = (is.map (fun i => ws[i]?)).filterMap id := by rw [List.filterMap_map]; rfl
  rw [e, h, List.filterMap_map]
  show List.filterMap (fun x => some x) wd = wd
  exact List.filterMap_some
theorem jD_fst {A : Nat → Prop} {ws ws' : va_W} (h : va_D A ws) (e : ws'.map (·.1) = ws.map (·.1)) : va_D A ws' := by
  have key : ∀ (k : Nat) (q : Nat × va_E), ws'[k]? = some q → ∃ q0 : Nat × va_E, ws[k]? = some q0 ∧ q0.1 = q.1 := by
    intro k q hq
    have h1 : (ws'.map (·.1))[k]? = some q.1 := by rw [List.getElem?_map, hq]; rfl
    rw [e, List.getElem?_map] at h1
    cases hx : ws[k]? with
    | none => rw [hx] at h1; cases h1
    | some q0 => rw [hx] at h1; exact ⟨q0, rfl, Option.some.inj h1⟩
  refine ⟨fun i j p q hi hj hpq => ?_, fun k q hq => ?_⟩
  · obtain ⟨p0, a1, a2⟩ := key i p hi
    obtain ⟨q0, b1, b2⟩ := key j q hj
    exact h.1 i j p0 q0 a1 b1 (by rw [a2, b2]; exact hpq)
  · obtain ⟨q0, b1, b2⟩ := key k q hq
    rw [← b2]
    exact h.2 k q0 b1
section JCALL
variable {X : jX} {l : Launch} {cc : ByteArray} {own : String} {Ts : List Cond} {rm : Room} {nL : Nat} {D : va_G} {cI cB : ClassId} {ro : Bool} {pc : Nat} {lv : List (Nat × Value)} {st : List Value} {ws : va_W}
variable {y : MethodName} {bytes : ByteArray} {maxL' index b ci N : Nat} {ret' : Option FieldType} {ws1 ws2 : List Cond} {rm' : Room} {wd : va_W} {v : Value} {fs : List Value} {T : u_T}
theorem jw_callRV (C : jC X l cc own Ts rm nL D cI cB ro) (As rest : List Value) (n : Nat) (hM : jMR l y ws1 rm' D cI cB (.ref b :: As) wd v) (hG : GoodIn Ts (wsV own index y.cls y ws1)) (hw : ws1 = Cond.code y bytes maxL' ret' :: ws2) (hc0 : rm'.cells = 0) (hs0 : rm'.slots = 0)
    (hd : y.cls = y.cls ∧ y.cls ≠ "java/lang/invoke/MethodHandle" ∧ y.cls ≠ "java/lang/invoke/VarHandle" ∧ (parseMethodDescriptor y.desc).map (fun d => d.parameters.length) = some n) (hR : rm'.frames + 1 ≤ rm.frames ∧ 8 + (maxL' + 11) + rm'.locals ≤ rm.locals)
    (q0 : Nat) (he : ws[q0]? = some (b, .inr (ci, fs))) (hcl : vwCl[ci]? = some (y.cls, T, N)) (is : List Nat) (his : is.filterMap (fun i => ws[i]?) = wd) (hn : As.length = n) (hst : (rest.map fun v => v.category).sum ≤ 8) (hstk : st = As.reverse ++ .ref b :: rest) (d : decode cc pc = .ok (.invokevirtual index, 3))
    (kk : jW X (pc + 3) lv (v :: rest) ws) : jW X pc lv st ws := by
  subst hstk
  obtain ⟨p, l', e, R, s, m, args, below, meth, c, nL', D', A, ro', cells, slots, Q⟩ := X
  intro H locs ls hP h1 h2 hl
  obtain ⟨rfl, rfl, rfl, rfl, hro, hx, hb, hml, hown, hts, hK, hA, hcs, hss⟩ := id C
  have hr := va_runV (e := e) (below := below) (meth := meth) (cells := cells) (slots := slots) (locs := locs) (H := H) (g := F0 m pc ls (As.reverse ++ .ref b :: rest)) (As := As) (rest := rest) ⟨hx, hb, hml, hown, hts⟩ hM (cwV n hts hG hw hc0 hs0 hd hR) ⟨jPR.blind, va_recv hK.1 hP hcl he, fun U hU hW => ⟨rfl, by rw [hU]; exact hP.sub is his, hK.warm hW⟩⟩ rfl hn hl.1 rfl (lv_room hst) d ⟨hcs, hss⟩
  intro T1 hT XX
  obtain ⟨v', st₀, t, T', L, h0, X', hL, e1, e2, ⟨hv, hh⟩, sg⟩ := hr T1 hT XX
  cases hv
  obtain ⟨t2, a1, b1⟩ := kk H locs ls hP h1 h2 hl T' (by rw [e1, hh, h0]) (Stand.forget X' (fun q h => (hL q h).elim))
  exact ⟨t2, sg t2 a1, b1⟩
theorem jw_callRS (C : jC X l cc own Ts rm nL D cI cB ro) (As rest : List Value) (n : Nat) (hM : jMR l y ws1 rm' D cI cB As wd v) (hG : GoodIn Ts (va_wsS own index y ws1)) (hw : ws1 = Cond.code y bytes maxL' ret' :: ws2) (hc0 : rm'.cells = 0) (hs0 : rm'.slots = 0)
    (hd : y.cls ≠ "java/lang/invoke/MethodHandle" ∧ y.cls ≠ "java/lang/invoke/VarHandle" ∧ (parseMethodDescriptor y.desc).map (fun d => d.parameters.length) = some n) (hR : rm'.frames + 1 ≤ rm.frames ∧ 8 + (maxL' + 11) + rm'.locals ≤ rm.locals)
    (is : List Nat) (his : is.filterMap (fun i => ws[i]?) = wd) (hn : As.length = n) (hst : (rest.map fun v => v.category).sum ≤ 8) (hstk : st = As.reverse ++ rest) (d : decode cc pc = .ok (.invokestatic index, 3))
    (kk : jW X (pc + 3) lv (v :: rest) ws) : jW X pc lv st ws := by
  subst hstk
  obtain ⟨p, l', e, R, s, m, args, below, meth, c, nL', D', A, ro', cells, slots, Q⟩ := X
  intro H locs ls hP h1 h2 hl
  obtain ⟨rfl, rfl, rfl, rfl, hro, hx, hb, hml, hown, hts, hK, hA, hcs, hss⟩ := id C
  have hr := va_runS (e := e) (below := below) (meth := meth) (cells := cells) (slots := slots) (locs := locs) (H := H) (g := F0 m pc ls (As.reverse ++ rest)) (As := As) (rest := rest) ⟨hx, hb, hml, hown, hts⟩ hM (va_cwS n hts hG hw hc0 hs0 hd hR) ⟨jPR.blind, fun U hU hW => ⟨rfl, by rw [hU]; exact hP.sub is his, hK.warm hW⟩⟩ rfl hn hl.1 rfl (lv_room hst) d ⟨hcs, hss⟩
  intro T1 hT XX
  obtain ⟨v', st₀, t, T', L, h0, X', hL, e1, e2, ⟨hv, hh⟩, sg⟩ := hr T1 hT XX
  cases hv
  obtain ⟨t2, a1, b1⟩ := kk H locs ls hP h1 h2 hl T' (by rw [e1, hh, h0]) (Stand.forget X' (fun q h => (hL q h).elim))
  exact ⟨t2, sg t2 a1, b1⟩
theorem jw_callRN (C : jC X l cc own Ts rm nL D cI cB ro) {host : String} (As rest : List Value) (n : Nat) (hM : jMR l y ws1 rm' D cI cB As wd v) (hG : GoodIn Ts ws1) (hw : ws1 = Cond.code y bytes maxL' ret' :: ws2) (hc0 : rm'.cells = 0) (hs0 : rm'.slots = 0)
    (hlk : ∀ U : State, jK D cI cB U → va_Nw (.methodLinkNest own index y host) U) (hini : Cond.initialized y.cls ∈ Ts) (hstc : Cond.static y ∈ Ts)
    (hd : y.cls ≠ "java/lang/invoke/MethodHandle" ∧ y.cls ≠ "java/lang/invoke/VarHandle" ∧ (parseMethodDescriptor y.desc).map (fun d => d.parameters.length) = some n) (hR : rm'.frames + 1 ≤ rm.frames ∧ 8 + (maxL' + 11) + rm'.locals ≤ rm.locals)
    (is : List Nat) (his : is.filterMap (fun i => ws[i]?) = wd) (hn : As.length = n) (hst : (rest.map fun v => v.category).sum ≤ 8) (hstk : st = As.reverse ++ rest) (d : decode cc pc = .ok (.invokestatic index, 3))
    (kk : jW X (pc + 3) lv (v :: rest) ws) : jW X pc lv st ws := by
  subst hstk
  obtain ⟨p, l', e, R, s, m, args, below, meth, c, nL', D', A, ro', cells, slots, Q⟩ := X
  intro H locs ls hP h1 h2 hl
  obtain ⟨rfl, rfl, rfl, rfl, hro, hx, hb, hml, hown, hts, hK, hA, hcs, hss⟩ := id C
  have hr := va_runSN (e := e) (below := below) (meth := meth) (cells := cells) (slots := slots) (locs := locs) (H := H) (g := F0 m pc ls (As.reverse ++ rest)) (As := As) (rest := rest) ⟨hx, hb, hml, hown, hts⟩ hM ⟨va_cnB n hts hG hw hc0 hs0 (hlk s hK) (hts _ hini) hd hR, hts _ hstc, trivial⟩ ⟨jPR.blind, fun U hU hW => ⟨rfl, by rw [hU]; exact hP.sub is his, hK.warm hW⟩⟩ rfl hn hl.1 rfl (lv_room hst) d ⟨hcs, hss⟩
  intro T1 hT XX
  obtain ⟨v', st₀, t, T', L, h0, X', hL, e1, e2, ⟨hv, hh⟩, sg⟩ := hr T1 hT XX
  cases hv
  obtain ⟨t2, a1, b1⟩ := kk H locs ls hP h1 h2 hl T' (by rw [e1, hh, h0]) (Stand.forget X' (fun q h => (hL q h).elim))
  exact ⟨t2, sg t2 a1, b1⟩
theorem jw_callWV {S : Type} {rv : S → Option Value} {post : S → Prop} {w1 : S → va_W} (C : jC X l cc own Ts rm nL D cI cB false) (As rest : List Value) (n : Nat) (hM : jMW l y ws1 rm' D cI cB (.ref b :: As) wd rv post w1) (hG : GoodIn Ts (wsV own index y.cls y ws1)) (hw : ws1 = Cond.code y bytes maxL' ret' :: ws2) (hc0 : rm'.cells = 0) (hs0 : rm'.slots = 0)
    (hd : y.cls = y.cls ∧ y.cls ≠ "java/lang/invoke/MethodHandle" ∧ y.cls ≠ "java/lang/invoke/VarHandle" ∧ (parseMethodDescriptor y.desc).map (fun d => d.parameters.length) = some n) (hR : rm'.frames + 1 ≤ rm.frames ∧ 8 + (maxL' + 11) + rm'.locals ≤ rm.locals)
    (q0 : Nat) (he : ws[q0]? = some (b, .inr (ci, fs))) (hcl : vwCl[ci]? = some (y.cls, T, N)) (isC isR perm : List Nat) {wr : va_W} (hC : isC.map (fun i => ws[i]?) = wd.map some) (hRr : isR.map (fun i => ws[i]?) = wr.map some) (hnd : va_nd isC = true ∧ va_nd isR = true ∧ va_nd perm = true) (hdis : ∀ i ∈ isR, i ∉ isC) (hfst : ∀ u, (w1 u).map (·.1) = wd.map (·.1))
    {wN : S → va_W} (hN : ∀ u, perm.map (fun i => (wr ++ w1 u)[i]?) = (wN u).map some) {stN : S → List Value} (hsN : ∀ u, (rv u).toList ++ rest = stN u)
    (hn : As.length = n) (hst : (rest.map fun v => v.category).sum ≤ 8) (hstk : st = As.reverse ++ .ref b :: rest) (d : decode cc pc = .ok (.invokevirtual index, 3))
    (kk : ∀ u : S, post u → jW X (pc + 3) lv (stN u) (wN u)) : jW X pc lv st ws := by
  subst hstk
  obtain ⟨p, l', e, R, s, m, args, below, meth, c, nL', D', A, ro', cells, slots, Q⟩ := X
  intro H locs ls hP h1 h2 hl
  obtain ⟨rfl, rfl, rfl, rfl, hro, hx, hb, hml, hown, hts, hK, hA, hcs, hss⟩ := id C
  obtain ⟨hD, hS⟩ := h1 hro
  have hPc := hP.sub isC (jfm hC)
  have hDc := hD.sub isC hnd.1 hC
  have hFc := va_free (wc := wd) hD hS hA isC hC
  have hr := va_runV (e := e) (below := below) (meth := meth) (cells := cells) (slots := slots) (locs := locs) (H := H) (g := F0 m pc ls (As.reverse ++ .ref b :: rest)) (As := As) (rest := rest) ⟨hx, hb, hml, hown, hts⟩ (hM H.size) (cwV n hts hG hw hc0 hs0 hd hR) ⟨jPW.blind, va_recv hK.1 hP hcl he, fun U hU hW => ⟨rfl, by rw [hU], by rw [hU]; exact hPc, hK.warm hW, hDc.weaken (fun _ _ _ _ => trivial)⟩⟩ rfl hn hl.1 rfl (lv_room hst) d ⟨hcs, hss⟩
  intro T1 hT XX
  obtain ⟨v', st₀, t, T', L, h0, X', hL, e1, e2, ⟨⟨u, hv, hp, hb1⟩, hz, hk⟩, sg⟩ := hr T1 hT XX
  cases hv
  rw [h0] at hz hk
  have hD1 : va_D (va_A wd H.size) (w1 u) := jD_fst (va_D.self (A := A) hDc) (hfst u)
  obtain ⟨hPN, hDN⟩ := va_join hP hD isC isR hC hRr hnd.2.1 hdis hk hFc hb1 hD1
  have hPN' : va_P D' vwCl (wN u) T'.heap := by rw [e1]; exact hPN.sub perm (jfm (hN u))
  have hSN : va_S A s.heap T'.heap (locs ++ L) := ⟨Nat.le_trans hS.1 (by rw [e1]; exact hz), fun q g1 g2 => by rw [e1, hk q (Nat.lt_of_lt_of_le g1 hS.1) (fun z => g2 (hFc q z))]; exact hS.2.1 q g1 g2, fun q hq => by
    rcases List.mem_append.mp hq with h | h
    · exact hS.2.2 q h
    · exact hFc _ (hL q h)⟩
  obtain ⟨t2, a1, b1⟩ := kk u hp T'.heap (locs ++ L) ls hPN' (fun _ => ⟨hDN.sub perm hnd.2.2 (hN u), hSN⟩) (fun q => absurd (hro.symm.trans q) (by decide)) hl T' rfl X'
  rw [← hsN u] at a1
  exact ⟨t2, sg t2 a1, b1⟩
theorem jI_max {x y : Int} (hx : -2147483648 ≤ x ∧ x < 2147483648) (hy : -2147483648 ≤ y ∧ y < 2147483648) : (if jI x < jI y then jI y else jI x) = jI (if x < y then y else x) := by
  by_cases h : x < y
  · rw [if_pos h, if_pos ((jI_lt hx hy).mpr h)]
  · rw [if_neg h, if_neg (fun q => h ((jI_lt hx hy).mp q))]
theorem jw_max (C : jC X l cc own Ts rm nL D cI cB ro) {x y : Int} (h1 : Cond.methodLink own index Lib.Math.max.name ∈ Ts) (h2 : Cond.static Lib.Math.max.name ∈ Ts) (h3 : Cond.initialized "java/lang/Math" ∈ Ts) (h4 : Cond.code Lib.Math.max.name Lib.Math.max.code 2 (some .int) ∈ Ts) (hf : 1 ≤ rm.frames) (hlo : (st.map fun v => v.category).sum + 13 ≤ rm.locals) (hx : -2147483648 ≤ x ∧ x < 2147483648) (hy : -2147483648 ≤ y ∧ y < 2147483648) (d : decode cc pc = .ok (.invokestatic index, 3)) {z : Int} (hz : (if x < y then y else x) = z)
    (kk : jW X (pc + 3) lv (.int (jI z) :: st) ws) : jW X pc lv (.int (jI y) :: .int (jI x) :: st) ws := by
  obtain ⟨p, l', e, R, s, m, args, below, meth, c, nL', D', A, ro', cells, slots, Q⟩ := X
  intro H locs ls hP g1 g2 hl
  obtain ⟨rfl, rfl, rfl, rfl, hro, hxx, hb, hml, hown, hts, hK, hA, hcs, hss⟩ := id C
  refine va_mmax hxx hb (by rw [hml]; exact hl.1.symm) hown (hts _ h1) (hts _ h2) (hts _ h3) (hts _ h4) hf hlo hcs hss d ?_
  rw [jI_max hx hy, hz]
  exact kk H locs ls hP g1 g2 hl
theorem jw_min (C : jC X l cc own Ts rm nL D cI cB ro) {x y : Int} (h1 : Cond.methodLink own index Lib.Math.min.name ∈ Ts) (h2 : Cond.static Lib.Math.min.name ∈ Ts) (h3 : Cond.initialized "java/lang/Math" ∈ Ts) (h4 : Cond.code Lib.Math.min.name Lib.Math.min.code 2 (some .int) ∈ Ts) (hf : 1 ≤ rm.frames) (hlo : (st.map fun v => v.category).sum + 13 ≤ rm.locals) (hx : -2147483648 ≤ x ∧ x < 2147483648) (hy : -2147483648 ≤ y ∧ y < 2147483648) (d : decode cc pc = .ok (.invokestatic index, 3)) {z : Int} (hz : (if y < x then y else x) = z)
    (kk : jW X (pc + 3) lv (.int (jI z) :: st) ws) : jW X pc lv (.int (jI y) :: .int (jI x) :: st) ws := by
  obtain ⟨p, l', e, R, s, m, args, below, meth, c, nL', D', A, ro', cells, slots, Q⟩ := X
  intro H locs ls hP g1 g2 hl
  obtain ⟨rfl, rfl, rfl, rfl, hro, hxx, hb, hml, hown, hts, hK, hA, hcs, hss⟩ := id C
  refine va_mmin hxx hb (by rw [hml]; exact hl.1.symm) hown (hts _ h1) (hts _ h2) (hts _ h3) (hts _ h4) hf hlo hcs hss d ?_
  have e1 : (if jI y < jI x then jI y else jI x) = jI z := by
    rw [← hz]
    by_cases h : y < x
    · rw [if_pos h, if_pos ((jI_lt hy hx).mpr h)]
    · rw [if_neg h, if_neg (fun q => h ((jI_lt hy hx).mp q))]
  rw [e1]
  exact kk H locs ls hP g1 g2 hl
end JCALL
/-! cells by their kinds -/
abbrev aI (cI : ClassId) (q n : Nat) (f : Nat → Int) : Nat × va_E := (q, .inl (cI, n, .inl (fun j => jI (f j))))
abbrev oA (a le sr he : Nat) (ch : Int) : Nat × va_E := (a, .inr (0, [.ref le, .ref sr, .ref he, .int (jI ch)]))
abbrev oH (a ho hr lo hw : Nat) (n : Int) : Nat × va_E := (a, .inr (1, [.ref ho, .ref hr, .ref lo, .ref hw, .int (jI n)]))
abbrev oP (a co : Nat) (n : Int) : Nat × va_E := (a, .inr (2, [.ref co, .int (jI n)]))
abbrev oS (a hr lo : Nat) (n : Int) : Nat × va_E := (a, .inr (3, [.ref hr, .ref lo, .int (jI n)]))
abbrev oT (a su : Nat) : Nat × va_E := (a, .inr (4, [.ref su]))
abbrev oG (a pg ki : Nat) (nh rd : Int) (af kp : Nat) (ik : Int) (no su : Nat) : Nat × va_E := (a, .inr (5, [.ref pg, .ref ki, .int (jI nh), .int (jI rd), .ref af, .ref kp, .int (jI ik), .ref no, .ref su]))
abbrev oM (a : Nat) (co nh : Int) (ki le : Nat) (ns : Int) (hr lo : Nat) (ch hd : Int) (h9 h10 h11 h12 : Nat) (pl : Int) (pg : Nat) (iw nw nz th : Int) (sd : Int64) (sv : Nat) (ik kc ks kg kh : Int) (k26 k27 k28 k29 k30 k31 k32 : Nat) (hh : Int64) : Nat × va_E := (a, .inr (6, [.int (jI co), .int (jI nh), .ref ki, .ref le, .int (jI ns), .ref hr, .ref lo, .int (jI ch), .int (jI hd), .ref h9, .ref h10, .ref h11, .ref h12, .int (jI pl), .ref pg, .int (jI iw), .int (jI nw), .int (jI nz), .int (jI th), .long sd, .ref sv, .int (jI ik), .int (jI kc), .int (jI ks), .int (jI kg), .int (jI kh), .ref k26, .ref k27, .ref k28, .ref k29, .ref k30, .ref k31, .ref k32, .long hh]))
end
section
/-! What the colony's numbers are, as plain functions (both sides are tied to them); and rows on division and arrays. -/
theorem jI_div {x d : Int} (hx : 0 ≤ x ∧ x < 2147483648) (hd : 0 < d ∧ d < 2147483648) : jI x / jI d = jI (x / d) := by
  have h1 : 0 ≤ x / d := Int.ediv_nonneg hx.1 (by omega)
  have h2 : x / d ≤ x := Int.ediv_le_self d hx.1
  apply Int32.toInt_inj.mp
  rw [Int32.toInt_div_of_ne_right _ _ (fun q => by
    have e := congrArg Int32.toInt q
    rw [jI_t (by omega), show (-1 : Int32).toInt = -1 by decide] at e
    omega), jI_t (by omega), jI_t (by omega), jI_t (by omega), Int.tdiv_eq_ediv_of_nonneg hx.1]
theorem jI_rem {x d : Int} (hx : 0 ≤ x ∧ x < 2147483648) (hd : 0 < d ∧ d < 2147483648) : jI x - jI x / jI d * jI d = jI (x % d) := by
  rw [jI_div hx hd, jI_mul, jI_sub, Int.emod_def, Int.mul_comm]
theorem jI_ne0 {d : Int} (hd : 0 < d ∧ d < 2147483648) : ¬ jI d = 0 := fun q => by
  have e := congrArg Int32.toInt q
  rw [jI_t (by omega), Int32.toInt_zero] at e
  omega
theorem arrV_ext (cA : ClassId) (n : Nat) {f g : Nat → Int} (h : ∀ j, j < n → f j = g j) : vp_cell cA (n, .inl (fun j => jI (f j))) = vp_cell cA (n, .inl (fun j => jI (g j))) := by
  show arrV cA n (fun j => .int (jI (f j))) = arrV cA n (fun j => .int (jI (g j)))
  unfold arrV
  congr 1
  apply Array.ext
  · simp
  · intro i h1 h2
    simp only [Array.getElem_ofFn]
    rw [h i (by simpa using h1)]
/-- an array's places by another function that agrees on them -/
theorem jw_arr {X : jX} {pc : Nat} {lv : List (Nat × Value)} {st : List Value} {ws : va_W} {a n : Nat} {cA : ClassId} {f g : Nat → Int} {ws' : va_W} (q0 : Nat) (ha : ws[q0]? = some (a, .inl (cA, n, .inl (fun j => jI (f j))))) (h : ∀ j, j < n → f j = g j) (hw : ws.set q0 (a, .inl (cA, n, .inl (fun j => jI (g j)))) = ws') (k : jW X pc lv st ws') : jW X pc lv st ws := by
  subst hw
  obtain ⟨p, l', e, R, s, m, args, below, meth, c, nL', D', A, ro', cells, slots, Q⟩ := X
  intro H locs ls hP h1 h2 hl
  refine k H locs ls (fun j q hj => ?_) (fun hro => ⟨(h1 hro).1.set ha, (h1 hro).2⟩) h2 hl
  by_cases e : q0 = j
  · subst e
    have hlt : q0 < ws.length := (List.getElem?_eq_some_iff.mp ha).1
    rw [List.getElem?_set_self hlt] at hj
    cases hj
    have := hP q0 _ ha
    show H[a]? = some (vp_cell cA (n, .inl (fun j => jI (g j))))
    rw [← arrV_ext cA n h]
    exact this
  · rw [List.getElem?_set_ne e] at hj
    exact hP j q hj
def sp_zero : Nat → Int := fun _ => 0
def sp_con (a l : Int) (h : Nat) : Int := if (h : Int) < a then 0 else if 0 < l - 2 * ((h : Int) - a) then l - 2 * ((h : Int) - a) else 0
def sp_add (R : Nat → Int) (a l : Int) : Nat → Int := fun h => R h + sp_con a l h
def sp_sum (SH SL : Nat → Int) : Nat → Nat → Int
  | 0 => sp_zero
  | n + 1 => sp_add (sp_sum SH SL n) (SH n) (SL n)
def sp_cap (x : Int) : Int := if 20 < x then 20 else x
def sp_at (R : Nat → Int) (z : Int) : Int := if z < 0 then 0 else sp_cap (R z.toNat)
theorem sp_at_nat (R : Nat → Int) (i : Nat) : sp_at R ((i : Nat) : Int) = sp_cap (R i) := by
  unfold sp_at
  rw [if_neg (by omega), Int.toNat_natCast]
def sp_gr (R : Nat → Int) : Nat → Int
  | 0 => 0
  | n + 1 => if sp_gr R n < sp_cap (R n) then sp_cap (R n) else sp_gr R n
theorem sp_con_b {a l : Int} (hl : 0 ≤ l ∧ l ≤ 9) (h : Nat) : 0 ≤ sp_con a l h ∧ sp_con a l h ≤ 9 := by
  unfold sp_con
  (repeat' split) <;> omega
theorem sp_sum_b {SH SL : Nat → Int} (n : Nat) (hl : ∀ k, k < n → 0 ≤ SL k ∧ SL k ≤ 9) (h : Nat) : 0 ≤ sp_sum SH SL n h ∧ sp_sum SH SL n h ≤ 9 * (n : Int) := by
  induction n with
  | zero => simp [sp_sum, sp_zero]
  | succ n ih =>
    have h1 := ih (fun k hk => hl k (by omega))
    have h2 := sp_con_b (a := SH n) (hl n (by omega)) h
    show 0 ≤ sp_sum SH SL n h + sp_con (SH n) (SL n) h ∧ sp_sum SH SL n h + sp_con (SH n) (SL n) h ≤ _
    omega
theorem sp_cap_b {x : Int} (h : 0 ≤ x) : 0 ≤ sp_cap x ∧ sp_cap x ≤ 20 := by
  unfold sp_cap
  split <;> omega
theorem sp_at_b {R : Nat → Int} (hf : ∀ k, k < 12 → 0 ≤ R k ∧ R k ≤ 99) {z : Int} (hz : -1 ≤ z ∧ z ≤ 11) : 0 ≤ sp_at R z ∧ sp_at R z ≤ 20 := by
  unfold sp_at
  split
  · omega
  · exact sp_cap_b (hf _ (by omega)).1
theorem sp_add_step {f c : Nat → Int} {a l left : Int} {i : Nat} (hl : left = l - 2 * ((i : Int) - a)) (ha : a ≤ i) (hp : 0 < left) (hi : i < 12) (hc : ∀ j, j < 12 → c j = f j + (if j < i then sp_con a l j else 0)) : ∀ j, j < 12 → va_up c i (c i + left) j = f j + (if j < i + 1 then sp_con a l j else 0) := by
  intro j hj
  by_cases e : j = i
  · subst e
    rw [va_up_self, hc j hj, if_neg (by omega), if_pos (by omega)]
    unfold sp_con
    rw [if_neg (by omega), if_pos (by omega)]
    omega
  · rw [va_up_ne _ _ e, hc j hj]
    by_cases g : j < i
    · rw [if_pos g, if_pos (by omega)]
    · rw [if_neg g, if_neg (by omega)]
theorem sp_add_end {f c : Nat → Int} {a l left : Int} {i : Nat} (hl : left = l - 2 * ((i : Int) - a)) (h : 12 ≤ i ∨ left ≤ 0) (hc : ∀ j, j < 12 → c j = f j + (if j < i then sp_con a l j else 0)) : ∀ j, j < 12 → c j = sp_add f a l j := by
  intro j hj
  rw [hc j hj]
  unfold sp_add
  by_cases g : j < i
  · rw [if_pos g]
  · rw [if_neg g]
    unfold sp_con
    (repeat' split) <;> omega
theorem sp_add_start {f : Nat → Int} {a l : Int} {i : Nat} (hi : a = i) : ∀ j, j < 12 → f j = f j + (if j < i then sp_con a l j else 0) := by
  intro j hj
  unfold sp_con
  (repeat' split) <;> omega
/-- the steps of a copy, or of a fill -/
theorem sp_cpy_step {n : Nat} {c g : Nat → Int} {i : Nat} {v : Int} (hv : v = g i) (hc : ∀ j, j < i → c j = g j) : ∀ j, j < i + 1 → va_up c i v j = g j := by
  intro j hj
  by_cases e : j = i
  · subst e
    rw [va_up_self, hv]
  · rw [va_up_ne _ _ e]
    exact hc j (by omega)
def sp_gone (a l : Int) : Int := if a + (l + 1) / 2 < 12 then a + (l + 1) / 2 else -1
def sp_less (a b : Int) : Int := if b < a then a - b else 0
def sp_how (m : Int) : Int := if m = 0 then 0 else if m < 5 then 1 else 2
def sp_kind (c : Int) : Int := if c = 104 then 0 else if c = 108 then 1 else if c = 111 then 2 else if c = 100 then 3 else if c = 99 then 4 else -1
theorem sp_how_b (m : Int) : 0 ≤ sp_how m ∧ sp_how m ≤ 2 := by
  unfold sp_how
  (repeat' split) <;> omega
theorem sp_kind_b (m : Int) : -1 ≤ sp_kind m ∧ sp_kind m ≤ 4 := by
  unfold sp_kind
  (repeat' split) <;> omega
end
section
def rmX5_isWithin : Room := { frames := 0, cells := 0, slots := 0, locals := 0 }
set_option maxHeartbeats 4000000 in
set_option maxRecDepth 100000 in
theorem con_X5_isWithin (lau : Launch) (D : va_G) (cI cB : ClassId) (z : Int) (lo : Int) (hi : Int) (h1 : -2147483648 ≤ z ∧ z < 2147483648) (h2 : -2147483648 ≤ lo ∧ lo < 2147483648) (h3 : -2147483648 ≤ hi ∧ hi < 2147483648) : jMR lau yX5_isWithin wsX5_isWithin rmX5_isWithin D cI cB [.int (jI z), .int (jI lo), .int (jI hi)] [] (.int (jI (jb (lo ≤ z ∧ z ≤ hi)))) := by
  refine jMR.of (own := RX5) (cc := cX5_isWithin) (maxL := 3) (ret := (some .boolean)) rfl (by decide) rfl (Nat.le_of_ble_eq_true rfl) ?_
  intro X C E
  refine jw_lv (lv' := [(0, .int (jI z)), (1, .int (jI lo)), (2, .int (jI hi))]) [0, 1, 2] rfl ?_
  refine jw_iload_n (pc := 0) C dX5_isWithin_0 0 rfl ?_
  refine jw_iload_n (pc := 1) C dX5_isWithin_1 1 rfl ?_
  refine jw_icmp_lt (pc := 2) (tgt := 14) C dX5_isWithin_2 (by decide) (by omega) (by omega) (fun c_2 => ?_) (fun c_2 => ?_)
  · -- 2 t
    refine jw_iconst (pc := 14) C dX5_isWithin_14 ?_
    exact jw_zretR (pc := 15) C E dX5_isWithin_15 (congrArg jI (by unfold jb; split <;> omega)) (jb_n _)
  · -- 2 f
    refine jw_iload_n (pc := 5) C dX5_isWithin_5 0 rfl ?_
    refine jw_iload_n (pc := 6) C dX5_isWithin_6 2 rfl ?_
    refine jw_icmp_gt (pc := 7) (tgt := 14) C dX5_isWithin_7 (by decide) (by omega) (by omega) (fun c_7 => ?_) (fun c_7 => ?_)
    · -- 7 t
      refine jw_iconst (pc := 14) C dX5_isWithin_14 ?_
      exact jw_zretR (pc := 15) C E dX5_isWithin_15 (congrArg jI (by unfold jb; split <;> omega)) (jb_n _)
    · -- 7 f
      refine jw_iconst (pc := 10) C dX5_isWithin_10 ?_
      refine jw_goto (pc := 11) (tgt := 15) C dX5_isWithin_11 (by decide) ?_
      exact jw_zretR (pc := 15) C E dX5_isWithin_15 (congrArg jI (by unfold jb; split <;> omega)) (jb_n _)
def rmX5_isHourOfDay : Room := { frames := 1, cells := 0, slots := 0, locals := 22 }
set_option maxHeartbeats 4000000 in
set_option maxRecDepth 100000 in
theorem con_X5_isHourOfDay (lau : Launch) (D : va_G) (cI cB : ClassId) (z : Int) (h1 : -2147483648 ≤ z ∧ z < 2147483648) : jMR lau yX5_isHourOfDay wsX5_isHourOfDay rmX5_isHourOfDay D cI cB [.int (jI z)] [] (.int (jI (jb (0 ≤ z ∧ z ≤ 11)))) := by
  refine jMR.of (own := RX5) (cc := cX5_isHourOfDay) (maxL := 1) (ret := (some .boolean)) rfl (by decide) rfl (Nat.le_of_ble_eq_true rfl) ?_
  intro X C E
  refine jw_lv (lv' := [(0, .int (jI z))]) [0] rfl ?_
  refine jw_iload_n (pc := 0) C dX5_isHourOfDay_0 0 rfl ?_
  refine jw_iconst (pc := 1) C dX5_isHourOfDay_1 ?_
  refine jw_bipush (pc := 2) C dX5_isHourOfDay_2 (by decide +kernel) ?_
  refine jw_callRS (pc := 4) C [.int (jI z), .int (jI 0), .int (jI 11)] [] 3 (con_X5_isWithin lau D cI cB z 0 11 (by omega) (by omega) (by omega)) gX5_isHourOfDay_X5_isWithin rfl rfl rfl (by decide +kernel) ⟨Nat.le_of_ble_eq_true rfl, Nat.le_of_ble_eq_true rfl⟩ [] rfl rfl (Nat.le_of_ble_eq_true rfl) rfl dX5_isHourOfDay_4 ?_
  exact jw_zretR (pc := 7) C E dX5_isHourOfDay_7 rfl (jb_n _)
def rmX5_isHeardLoud : Room := { frames := 1, cells := 0, slots := 0, locals := 22 }
set_option maxHeartbeats 4000000 in
set_option maxRecDepth 100000 in
theorem con_X5_isHeardLoud (lau : Launch) (D : va_G) (cI cB : ClassId) (z : Int) (h1 : -2147483648 ≤ z ∧ z < 2147483648) : jMR lau yX5_isHeardLoud wsX5_isHeardLoud rmX5_isHeardLoud D cI cB [.int (jI z)] [] (.int (jI (jb (1 ≤ z ∧ z ≤ 9)))) := by
  refine jMR.of (own := RX5) (cc := cX5_isHeardLoud) (maxL := 1) (ret := (some .boolean)) rfl (by decide) rfl (Nat.le_of_ble_eq_true rfl) ?_
  intro X C E
  refine jw_lv (lv' := [(0, .int (jI z))]) [0] rfl ?_
  refine jw_iload_n (pc := 0) C dX5_isHeardLoud_0 0 rfl ?_
  refine jw_iconst (pc := 1) C dX5_isHeardLoud_1 ?_
  refine jw_bipush (pc := 2) C dX5_isHeardLoud_2 (by decide +kernel) ?_
  refine jw_callRS (pc := 4) C [.int (jI z), .int (jI 1), .int (jI 9)] [] 3 (con_X5_isWithin lau D cI cB z 1 9 (by omega) (by omega) (by omega)) gX5_isHeardLoud_X5_isWithin rfl rfl rfl (by decide +kernel) ⟨Nat.le_of_ble_eq_true rfl, Nat.le_of_ble_eq_true rfl⟩ [] rfl rfl (Nat.le_of_ble_eq_true rfl) rfl dX5_isHeardLoud_4 ?_
  exact jw_zretR (pc := 7) C E dX5_isHeardLoud_7 rfl (jb_n _)
theorem mt1_X5_above_254 : Cond.methodLink RX5 254 Lib.Math.max.name ∈ wsX5_above := by decide +kernel
theorem mt2_X5_above_254 : Cond.static Lib.Math.max.name ∈ wsX5_above := by decide +kernel
theorem mt3_X5_above_254 : Cond.initialized "java/lang/Math" ∈ wsX5_above := by decide +kernel
theorem mt4_X5_above_254 : Cond.code Lib.Math.max.name Lib.Math.max.code 2 (some .int) ∈ wsX5_above := by decide +kernel
def rmX5_above : Room := { frames := 1, cells := 0, slots := 0, locals := 21 }
set_option maxHeartbeats 4000000 in
set_option maxRecDepth 100000 in
theorem con_X5_above (lau : Launch) (D : va_G) (cI cB : ClassId) (lv : Int) (ht : Int) (h1 : 0 ≤ lv ∧ lv ≤ 99) (h2 : 0 ≤ ht ∧ ht ≤ 99) : jMR lau yX5_above wsX5_above rmX5_above D cI cB [.int (jI lv), .int (jI ht)] [] (.int (jI (sp_less ht lv))) := by
  refine jMR.of (own := RX5) (cc := cX5_above) (maxL := 2) (ret := (some .int)) rfl (by decide) rfl (Nat.le_of_ble_eq_true rfl) ?_
  intro X C E
  refine jw_lv (lv' := [(0, .int (jI lv)), (1, .int (jI ht))]) [0, 1] rfl ?_
  refine jw_iconst (pc := 0) C dX5_above_0 ?_
  refine jw_iload_n (pc := 1) C dX5_above_1 1 rfl ?_
  refine jw_iload_n (pc := 2) C dX5_above_2 0 rfl ?_
  refine jw_isub (pc := 3) (z := (ht - lv)) C dX5_above_3 rfl ?_
  refine jw_max (pc := 4) C mt1_X5_above_254 mt2_X5_above_254 mt3_X5_above_254 mt4_X5_above_254 (Nat.le_of_ble_eq_true rfl) (Nat.le_of_ble_eq_true rfl) (by omega) (by omega) dX5_above_4 (z := (if 0 < (ht - lv) then (ht - lv) else 0)) rfl ?_
  exact jw_iretR (pc := 7) C E dX5_above_7 (congrArg jI (by unfold sp_less; (repeat' split) <;> omega))
def rmX5_howAt : Room := { frames := 0, cells := 0, slots := 0, locals := 0 }
set_option maxHeartbeats 4000000 in
set_option maxRecDepth 100000 in
theorem con_X5_howAt (lau : Launch) (D : va_G) (cI cB : ClassId) (m : Int) (h1 : -2147483648 ≤ m ∧ m < 2147483648) : jMR lau yX5_howAt wsX5_howAt rmX5_howAt D cI cB [.int (jI m)] [] (.int (jI (sp_how m))) := by
  refine jMR.of (own := RX5) (cc := cX5_howAt) (maxL := 1) (ret := (some .int)) rfl (by decide) rfl (Nat.le_of_ble_eq_true rfl) ?_
  intro X C E
  refine jw_lv (lv' := [(0, .int (jI m))]) [0] rfl ?_
  refine jw_iload_n (pc := 0) C dX5_howAt_0 0 rfl ?_
  refine jw_if_ne (pc := 1) (tgt := 6) C dX5_howAt_1 (by decide) (by omega) (fun c_1 => ?_) (fun c_1 => ?_)
  · -- 1 t
    refine jw_iload_n (pc := 6) C dX5_howAt_6 0 rfl ?_
    refine jw_iconst (pc := 7) C dX5_howAt_7 ?_
    refine jw_icmp_ge (pc := 8) (tgt := 15) C dX5_howAt_8 (by decide) (by omega) (by omega) (fun c_8 => ?_) (fun c_8 => ?_)
    · -- 8 t
      refine jw_iconst (pc := 15) C dX5_howAt_15 ?_
      exact jw_iretR (pc := 16) C E dX5_howAt_16 (congrArg jI (by unfold sp_how; (repeat' split) <;> omega))
    · -- 8 f
      refine jw_iconst (pc := 11) C dX5_howAt_11 ?_
      refine jw_goto (pc := 12) (tgt := 16) C dX5_howAt_12 (by decide) ?_
      exact jw_iretR (pc := 16) C E dX5_howAt_16 (congrArg jI (by unfold sp_how; (repeat' split) <;> omega))
  · -- 1 f
    refine jw_iconst (pc := 4) C dX5_howAt_4 ?_
    exact jw_iretR (pc := 5) C E dX5_howAt_5 (congrArg jI (by unfold sp_how; (repeat' split) <;> omega))
theorem cn_X5_mix_239 : Cond.constantLong RX5 239 (31) ∈ wsX5_mix := by decide +kernel
def rmX5_mix : Room := { frames := 0, cells := 0, slots := 0, locals := 0 }
set_option maxHeartbeats 4000000 in
set_option maxRecDepth 100000 in
theorem con_X5_mix (lau : Launch) (D : va_G) (cI cB : ClassId) (h : Int64) (v : Int64)  : jMR lau yX5_mix wsX5_mix rmX5_mix D cI cB [.long h, .long v] [] (.long (31 * h + v)) := by
  refine jMR.of (own := RX5) (cc := cX5_mix) (maxL := 4) (ret := (some .long)) rfl (by decide) rfl (Nat.le_of_ble_eq_true rfl) ?_
  intro X C E
  refine jw_lv (lv' := [(0, .long h), (2, .long v)]) [0, 1] rfl ?_
  refine jw_ldc2 (pc := 0) C dX5_mix_0 cn_X5_mix_239 ?_
  refine jw_lload_n (pc := 3) C dX5_mix_3 0 rfl ?_
  refine jw_lmul (pc := 4) C (31 * h) dX5_mix_4 rfl ?_
  refine jw_lload_n (pc := 5) C dX5_mix_5 1 rfl ?_
  refine jw_ladd (pc := 6) C ((31 * h) + v) dX5_mix_6 rfl ?_
  exact jw_lretR (pc := 7) C E dX5_mix_7 rfl
def rmX5_kindOf : Room := { frames := 0, cells := 0, slots := 0, locals := 0 }
set_option maxHeartbeats 4000000 in
set_option maxRecDepth 100000 in
theorem con_X5_kindOf (lau : Launch) (D : va_G) (cI cB : ClassId) (c : Int) (h1 : -2147483648 ≤ c ∧ c < 2147483648) : jMR lau yX5_kindOf wsX5_kindOf rmX5_kindOf D cI cB [.int (jI c)] [] (.int (jI (sp_kind c))) := by
  refine jMR.of (own := RX5) (cc := cX5_kindOf) (maxL := 1) (ret := (some .int)) rfl (by decide) rfl (Nat.le_of_ble_eq_true rfl) ?_
  intro X C E
  refine jw_lv (lv' := [(0, .int (jI c))]) [0] rfl ?_
  refine jw_iload_n (pc := 0) C dX5_kindOf_0 0 rfl ?_
  by_cases sw_1_99 : c = 99
  · -- case 99
    refine jw_table (pc := 1) (tgt := 76) C dX5_kindOf_1 (by omega) (by omega) (by omega) (by rw [sw_1_99]; rfl) (by decide) ?_
    refine jw_iconst (pc := 76) C dX5_kindOf_76 ?_
    exact jw_iretR (pc := 77) C E dX5_kindOf_77 (congrArg jI (by unfold sp_kind; (repeat' split) <;> omega))
  ·
    by_cases sw_1_100 : c = 100
    · -- case 100
      refine jw_table (pc := 1) (tgt := 74) C dX5_kindOf_1 (by omega) (by omega) (by omega) (by rw [sw_1_100]; rfl) (by decide) ?_
      refine jw_iconst (pc := 74) C dX5_kindOf_74 ?_
      exact jw_iretR (pc := 75) C E dX5_kindOf_75 (congrArg jI (by unfold sp_kind; (repeat' split) <;> omega))
    ·
      by_cases sw_1_104 : c = 104
      · -- case 104
        refine jw_table (pc := 1) (tgt := 68) C dX5_kindOf_1 (by omega) (by omega) (by omega) (by rw [sw_1_104]; rfl) (by decide) ?_
        refine jw_iconst (pc := 68) C dX5_kindOf_68 ?_
        exact jw_iretR (pc := 69) C E dX5_kindOf_69 (congrArg jI (by unfold sp_kind; (repeat' split) <;> omega))
      ·
        by_cases sw_1_108 : c = 108
        · -- case 108
          refine jw_table (pc := 1) (tgt := 70) C dX5_kindOf_1 (by omega) (by omega) (by omega) (by rw [sw_1_108]; rfl) (by decide) ?_
          refine jw_iconst (pc := 70) C dX5_kindOf_70 ?_
          exact jw_iretR (pc := 71) C E dX5_kindOf_71 (congrArg jI (by unfold sp_kind; (repeat' split) <;> omega))
        ·
          by_cases sw_1_111 : c = 111
          · -- case 111
            refine jw_table (pc := 1) (tgt := 72) C dX5_kindOf_1 (by omega) (by omega) (by omega) (by rw [sw_1_111]; rfl) (by decide) ?_
            refine jw_iconst (pc := 72) C dX5_kindOf_72 ?_
            exact jw_iretR (pc := 73) C E dX5_kindOf_73 (congrArg jI (by unfold sp_kind; (repeat' split) <;> omega))
          ·
            by_cases sw_1_101 : c = 101
            · -- hole 101
              refine jw_table (pc := 1) (tgt := 78) C dX5_kindOf_1 (by omega) (by omega) (by omega) (by rw [sw_1_101]; rfl) (by decide) ?_
              refine jw_iconst (pc := 78) C dX5_kindOf_78 ?_
              exact jw_iretR (pc := 79) C E dX5_kindOf_79 (congrArg jI (by unfold sp_kind; (repeat' split) <;> omega))
            ·
              by_cases sw_1_102 : c = 102
              · -- hole 102
                refine jw_table (pc := 1) (tgt := 78) C dX5_kindOf_1 (by omega) (by omega) (by omega) (by rw [sw_1_102]; rfl) (by decide) ?_
                refine jw_iconst (pc := 78) C dX5_kindOf_78 ?_
                exact jw_iretR (pc := 79) C E dX5_kindOf_79 (congrArg jI (by unfold sp_kind; (repeat' split) <;> omega))
              ·
                by_cases sw_1_103 : c = 103
                · -- hole 103
                  refine jw_table (pc := 1) (tgt := 78) C dX5_kindOf_1 (by omega) (by omega) (by omega) (by rw [sw_1_103]; rfl) (by decide) ?_
                  refine jw_iconst (pc := 78) C dX5_kindOf_78 ?_
                  exact jw_iretR (pc := 79) C E dX5_kindOf_79 (congrArg jI (by unfold sp_kind; (repeat' split) <;> omega))
                ·
                  by_cases sw_1_105 : c = 105
                  · -- hole 105
                    refine jw_table (pc := 1) (tgt := 78) C dX5_kindOf_1 (by omega) (by omega) (by omega) (by rw [sw_1_105]; rfl) (by decide) ?_
                    refine jw_iconst (pc := 78) C dX5_kindOf_78 ?_
                    exact jw_iretR (pc := 79) C E dX5_kindOf_79 (congrArg jI (by unfold sp_kind; (repeat' split) <;> omega))
                  ·
                    by_cases sw_1_106 : c = 106
                    · -- hole 106
                      refine jw_table (pc := 1) (tgt := 78) C dX5_kindOf_1 (by omega) (by omega) (by omega) (by rw [sw_1_106]; rfl) (by decide) ?_
                      refine jw_iconst (pc := 78) C dX5_kindOf_78 ?_
                      exact jw_iretR (pc := 79) C E dX5_kindOf_79 (congrArg jI (by unfold sp_kind; (repeat' split) <;> omega))
                    ·
                      by_cases sw_1_107 : c = 107
                      · -- hole 107
                        refine jw_table (pc := 1) (tgt := 78) C dX5_kindOf_1 (by omega) (by omega) (by omega) (by rw [sw_1_107]; rfl) (by decide) ?_
                        refine jw_iconst (pc := 78) C dX5_kindOf_78 ?_
                        exact jw_iretR (pc := 79) C E dX5_kindOf_79 (congrArg jI (by unfold sp_kind; (repeat' split) <;> omega))
                      ·
                        by_cases sw_1_109 : c = 109
                        · -- hole 109
                          refine jw_table (pc := 1) (tgt := 78) C dX5_kindOf_1 (by omega) (by omega) (by omega) (by rw [sw_1_109]; rfl) (by decide) ?_
                          refine jw_iconst (pc := 78) C dX5_kindOf_78 ?_
                          exact jw_iretR (pc := 79) C E dX5_kindOf_79 (congrArg jI (by unfold sp_kind; (repeat' split) <;> omega))
                        ·
                          by_cases sw_1_110 : c = 110
                          · -- hole 110
                            refine jw_table (pc := 1) (tgt := 78) C dX5_kindOf_1 (by omega) (by omega) (by omega) (by rw [sw_1_110]; rfl) (by decide) ?_
                            refine jw_iconst (pc := 78) C dX5_kindOf_78 ?_
                            exact jw_iretR (pc := 79) C E dX5_kindOf_79 (congrArg jI (by unfold sp_kind; (repeat' split) <;> omega))
                          ·
                            refine jw_tableOut (pc := 1) (tgt := 78) C dX5_kindOf_1 (by omega) (by omega) (by decide) ?_
                            refine jw_iconst (pc := 78) C dX5_kindOf_78 ?_
                            exact jw_iretR (pc := 79) C E dX5_kindOf_79 (congrArg jI (by unfold sp_kind; (repeat' split) <;> omega))
theorem fl_X4_at_9 : Cond.fieldLink RX4 9 "GongTide$Tide" "sums" "[I" ∈ wsX4_at := by decide +kernel
theorem hi_X4_at_X4 : ∀ w ∈ wsX40, w ∈ wsX4_at := fun w h => List.mem_cons_of_mem _ (List.mem_append_right _ h)
theorem mt1_X4_at_21 : Cond.methodLink RX4 21 Lib.Math.min.name ∈ wsX4_at := by decide +kernel
theorem mt2_X4_at_21 : Cond.static Lib.Math.min.name ∈ wsX4_at := by decide +kernel
theorem mt3_X4_at_21 : Cond.initialized "java/lang/Math" ∈ wsX4_at := by decide +kernel
theorem mt4_X4_at_21 : Cond.code Lib.Math.min.name Lib.Math.min.code 2 (some .int) ∈ wsX4_at := by decide +kernel
def rmX4_at : Room := { frames := 1, cells := 0, slots := 0, locals := 21 }
set_option maxHeartbeats 4000000 in
set_option maxRecDepth 100000 in
theorem con_X4_at (lau : Launch) (D : va_G) (cI cB : ClassId) (t : Nat) (q : Nat) (f : Nat → Int) (z : Int) (hz : -1 ≤ z ∧ z ≤ 11) (hf : ∀ k, k < 12 → 0 ≤ f k ∧ f k ≤ 99) : jMR lau yX4_at wsX4_at rmX4_at D cI cB [.ref t, .int (jI z)] [oT t q, aI cI q 12 f] (.int (jI (sp_at f z))) := by
  refine jMR.of (own := RX4) (cc := cX4_at) (maxL := 2) (ret := (some .int)) rfl (by decide) rfl (Nat.le_of_ble_eq_true rfl) ?_
  intro X C E
  refine jw_lv (lv' := [(0, .ref t), (1, .int (jI z))]) [0, 1] rfl ?_
  refine jw_iload_n (pc := 0) C dX4_at_0 1 rfl ?_
  refine jw_if_lt (pc := 1) (tgt := 10) C dX4_at_1 (by decide) (by omega) (fun c_1 => ?_) (fun c_1 => ?_)
  · -- 1 t
    refine jw_iconst (pc := 10) C dX4_at_10 ?_
    exact jw_iretR (pc := 11) C E dX4_at_11 (congrArg jI (by unfold sp_at; rw [if_pos (by omega)]))
  · -- 1 f
    refine jw_iload_n (pc := 4) C dX4_at_4 1 rfl ?_
    refine jw_bipush (pc := 5) C dX4_at_5 (by decide +kernel) ?_
    refine jw_icmp_lt (pc := 7) (tgt := 12) C dX4_at_7 (by decide) (by omega) (by omega) (fun c_7 => ?_) (fun c_7 => ?_)
    · -- 7 t
      refine jw_bipush (pc := 12) C dX4_at_12 (by decide +kernel) ?_
      refine jw_aload_n (pc := 14) C dX4_at_14 0 rfl ?_
      refine jw_get (pc := 15) C hi_X4_at_X4 0 rfl rfl 0 (by decide) fl_X4_at_9 rfl rfl dX4_at_15 ?_
      refine jw_iload_n (pc := 18) C dX4_at_18 1 rfl ?_
      refine jw_iald (pc := 19) C (f := f) 1 ((z).toNat) rfl (by omega) (by omega) (by decide) dX4_at_19 ?_
      have r_19 := hf ((z).toNat) (by omega)
      refine jw_min (pc := 20) C mt1_X4_at_21 mt2_X4_at_21 mt3_X4_at_21 mt4_X4_at_21 (Nat.le_of_ble_eq_true rfl) (Nat.le_of_ble_eq_true rfl) (by omega) (by omega) dX4_at_20 (z := (if (f ((z).toNat)) < 20 then (f ((z).toNat)) else 20)) rfl ?_
      exact jw_iretR (pc := 23) C E dX4_at_23 (congrArg jI (by unfold sp_at sp_cap; (repeat' split) <;> omega))
    · exfalso; omega
theorem fl_X4_clear_9 : Cond.fieldLink RX4 9 "GongTide$Tide" "sums" "[I" ∈ wsX4_clear := by decide +kernel
theorem hi_X4_clear_X4 : ∀ w ∈ wsX40, w ∈ wsX4_clear := fun w h => List.mem_cons_of_mem _ (List.mem_append_right _ h)
def rmX4_clear : Room := { frames := 0, cells := 0, slots := 0, locals := 0 }
set_option maxHeartbeats 4000000 in
set_option maxRecDepth 100000 in
theorem con_X4_clear (lau : Launch) (D : va_G) (cI cB : ClassId) (t : Nat) (q : Nat) (f : Nat → Int)  : jMW (S := Unit) lau yX4_clear wsX4_clear rmX4_clear D cI cB [.ref t] [oT t q, aI cI q 12 f] (fun u => none) (fun u => True) (fun u => [oT t q, aI cI q 12 sp_zero]) := by
  refine jMW.of (own := RX4) (cc := cX4_clear) (maxL := 2) (ret := none) rfl (by decide) rfl (Nat.le_of_ble_eq_true rfl) ?_
  intro X C E
  refine jw_lv (lv' := [(0, .ref t)]) [0] rfl ?_
  refine jw_iconst (pc := 0) C dX4_clear_0 ?_
  refine jw_istore_n (pc := 1) (lv' := [(1, .int (jI 0)), (0, .ref t)]) C dX4_clear_1 (by decide) rfl ?_
  have lp_2_1 : ∀ (fu : Nat) (i : Nat) (c : Nat → Int), (i ≤ 12) → (∀ j, j < i → c j = sp_zero j) → 12 - i < fu → jW X 2 [(0, .ref t), (1, .int (jI ((i : Nat) : Int)))] [] [oT t q, aI cI q 12 c] := by
    intro fu
    induction fu with
    | zero => intro i c hi hc hm; exact absurd hm (Nat.not_lt_zero _)
    | succ fu ih_2 =>
      intro i c hi hc hm
      refine jw_iload_n (pc := 2) C dX4_clear_2 1 rfl ?_
      refine jw_bipush (pc := 3) C dX4_clear_3 (by decide +kernel) ?_
      refine jw_icmp_ge (pc := 5) (tgt := 21) C dX4_clear_5 (by decide) (by omega) (by omega) (fun c_5 => ?_) (fun c_5 => ?_)
      · -- 5 t
        refine jw_arr (f := c) (g := sp_zero) (ws' := [oT t q, aI cI q 12 sp_zero]) 1 rfl (by exact fun j hj => hc j (by omega)) rfl ?_
        exact jw_vretW (pc := 21) C E dX4_clear_21 (()) rfl trivial rfl
      · -- 5 f
        refine jw_aload_n (pc := 8) C dX4_clear_8 0 rfl ?_
        refine jw_get (pc := 9) C hi_X4_clear_X4 0 rfl rfl 0 (by decide) fl_X4_clear_9 rfl rfl dX4_clear_9 ?_
        refine jw_iload_n (pc := 12) C dX4_clear_12 1 rfl ?_
        refine jw_iconst (pc := 13) C dX4_clear_13 ?_
        refine jw_iast (pc := 14) C (f := c) 1 i rfl rfl (by omega) (by decide) (ws' := [oT t q, aI cI q 12 (va_up c i 0)]) rfl dX4_clear_14 ?_
        refine jw_iinc (pc := 15) (z := ((i + 1 : Nat) : Int)) (lv' := [(1, .int (jI ((i + 1 : Nat) : Int))), (0, .ref t)]) C dX4_clear_15 1 rfl (by omega) (by decide) rfl ?_
        refine jw_goto (pc := 18) (tgt := 2) C dX4_clear_18 (by decide) ?_
        refine jw_lv [1, 0] rfl ?_
        exact ih_2 (i + 1) (va_up c i 0) (by omega) (sp_cpy_step (n := 12) rfl hc) (by omega)
  refine jw_lv [1, 0] rfl ?_
  exact lp_2_1 ((12 - 0) + 1) 0 f (by omega) (fun j hj => absurd hj (Nat.not_lt_zero _)) (Nat.lt_succ_self _)
theorem fl_X4_add_9 : Cond.fieldLink RX4 9 "GongTide$Tide" "sums" "[I" ∈ wsX4_add := by decide +kernel
theorem hi_X4_add_X4 : ∀ w ∈ wsX40, w ∈ wsX4_add := fun w h => List.mem_cons_of_mem _ (List.mem_append_right _ h)
theorem mt1_X4_add_15 : Cond.methodLink RX4 15 Lib.Math.max.name ∈ wsX4_add := by decide +kernel
theorem mt2_X4_add_15 : Cond.static Lib.Math.max.name ∈ wsX4_add := by decide +kernel
theorem mt3_X4_add_15 : Cond.initialized "java/lang/Math" ∈ wsX4_add := by decide +kernel
theorem mt4_X4_add_15 : Cond.code Lib.Math.max.name Lib.Math.max.code 2 (some .int) ∈ wsX4_add := by decide +kernel
def rmX4_add : Room := { frames := 1, cells := 0, slots := 0, locals := 21 }
set_option maxHeartbeats 4000000 in
set_option maxRecDepth 100000 in
theorem con_X4_add (lau : Launch) (D : va_G) (cI cB : ClassId) (t : Nat) (q : Nat) (f : Nat → Int) (a : Int) (l : Int) (ha : 0 ≤ a ∧ a ≤ 9) (hl9 : 0 ≤ l ∧ l ≤ 9) : jMW (S := Unit) lau yX4_add wsX4_add rmX4_add D cI cB [.ref t, .int (jI a), .int (jI l)] [oT t q, aI cI q 12 f] (fun u => none) (fun u => True) (fun u => [oT t q, aI cI q 12 (sp_add f a l)]) := by
  refine jMW.of (own := RX4) (cc := cX4_add) (maxL := 5) (ret := none) rfl (by decide) rfl (Nat.le_of_ble_eq_true rfl) ?_
  intro X C E
  refine jw_lv (lv' := [(0, .ref t), (1, .int (jI a)), (2, .int (jI l))]) [0, 1, 2] rfl ?_
  obtain ⟨ka, rfl⟩ : ∃ ka : Nat, a = ((ka : Nat) : Int) := ⟨(a).toNat, by omega⟩
  refine jw_iload_n (pc := 0) C dX4_add_0 2 rfl ?_
  refine jw_istore_n (pc := 1) (lv' := [(3, .int (jI l)), (0, .ref t), (1, .int (jI ((ka : Nat) : Int))), (2, .int (jI l))]) C dX4_add_1 (by decide) rfl ?_
  refine jw_iconst (pc := 2) C dX4_add_2 ?_
  refine jw_iload_n (pc := 3) C dX4_add_3 2 rfl ?_
  refine jw_max (pc := 4) C mt1_X4_add_15 mt2_X4_add_15 mt3_X4_add_15 mt4_X4_add_15 (Nat.le_of_ble_eq_true rfl) (Nat.le_of_ble_eq_true rfl) (by omega) (by omega) dX4_add_4 (z := ((ka : Nat) : Int)) (by split <;> omega) ?_
  refine jw_istore (pc := 7) (lv' := [(4, .int (jI ((ka : Nat) : Int))), (3, .int (jI l)), (0, .ref t), (1, .int (jI ((ka : Nat) : Int))), (2, .int (jI l))]) C dX4_add_7 (by decide) rfl ?_
  have lp_9_1 : ∀ (fu : Nat) (i : Nat) (left : Int) (c : Nat → Int), (ka ≤ i ∧ i ≤ 12) → (left = l - 2 * ((i : Int) - (ka : Int))) → (∀ j, j < 12 → c j = f j + (if j < i then sp_con (ka : Int) l j else 0)) → 12 - i < fu → jW X 9 [(0, .ref t), (1, .int (jI ((ka : Nat) : Int))), (2, .int (jI l)), (3, .int (jI left)), (4, .int (jI ((i : Nat) : Int)))] [] [oT t q, aI cI q 12 c] := by
    intro fu
    induction fu with
    | zero => intro i left c hi hl hc hm; exact absurd hm (Nat.not_lt_zero _)
    | succ fu ih_2 =>
      intro i left c hi hl hc hm
      refine jw_iload (pc := 9) C dX4_add_9 4 rfl ?_
      refine jw_bipush (pc := 11) C dX4_add_11 (by decide +kernel) ?_
      refine jw_icmp_ge (pc := 13) (tgt := 40) C dX4_add_13 (by decide) (by omega) (by omega) (fun c_13 => ?_) (fun c_13 => ?_)
      · -- 13 t
        refine jw_arr (f := c) (g := sp_add f (ka : Int) l) (ws' := [oT t q, aI cI q 12 (sp_add f (ka : Int) l)]) 1 rfl (by exact sp_add_end hl (by omega) hc) rfl ?_
        exact jw_vretW (pc := 40) C E dX4_add_40 (()) rfl trivial rfl
      · -- 13 f
        refine jw_iload_n (pc := 16) C dX4_add_16 3 rfl ?_
        refine jw_if_le (pc := 17) (tgt := 40) C dX4_add_17 (by decide) (by omega) (fun c_17 => ?_) (fun c_17 => ?_)
        · -- 17 t
          refine jw_arr (f := c) (g := sp_add f (ka : Int) l) (ws' := [oT t q, aI cI q 12 (sp_add f (ka : Int) l)]) 1 rfl (by exact sp_add_end hl (by omega) hc) rfl ?_
          exact jw_vretW (pc := 40) C E dX4_add_40 (()) rfl trivial rfl
        · -- 17 f
          refine jw_aload_n (pc := 20) C dX4_add_20 0 rfl ?_
          refine jw_get (pc := 21) C hi_X4_add_X4 0 rfl rfl 0 (by decide) fl_X4_add_9 rfl rfl dX4_add_21 ?_
          refine jw_iload (pc := 24) C dX4_add_24 4 rfl ?_
          refine jw_dup2 (pc := 26) C dX4_add_26 rfl rfl ?_
          refine jw_iald (pc := 27) C (f := c) 1 i rfl rfl (by omega) (by decide) dX4_add_27 ?_
          refine jw_iload_n (pc := 28) C dX4_add_28 3 rfl ?_
          refine jw_iadd (pc := 29) (z := ((c i) + left)) C dX4_add_29 rfl ?_
          refine jw_iast (pc := 30) C (f := c) 1 i rfl rfl (by omega) (by decide) (ws' := [oT t q, aI cI q 12 (va_up c i ((c i) + left))]) rfl dX4_add_30 ?_
          refine jw_iinc (pc := 31) (z := (left + (-2))) (lv' := [(3, .int (jI (left + (-2)))), (0, .ref t), (1, .int (jI ((ka : Nat) : Int))), (2, .int (jI l)), (4, .int (jI ((i : Nat) : Int)))]) C dX4_add_31 3 rfl rfl (by decide) rfl ?_
          refine jw_iinc (pc := 34) (z := ((i + 1 : Nat) : Int)) (lv' := [(4, .int (jI ((i + 1 : Nat) : Int))), (3, .int (jI (left + (-2)))), (0, .ref t), (1, .int (jI ((ka : Nat) : Int))), (2, .int (jI l))]) C dX4_add_34 4 rfl (by omega) (by decide) rfl ?_
          refine jw_goto (pc := 37) (tgt := 9) C dX4_add_37 (by decide) ?_
          refine jw_lv [2, 3, 4, 1, 0] rfl ?_
          exact ih_2 (i + 1) ((left + (-2))) (va_up c i ((c i) + left)) (by omega) (by omega) (sp_add_step hl (by omega) (by omega) (by omega) hc) (by omega)
  refine jw_lv [2, 3, 4, 1, 0] rfl ?_
  exact lp_9_1 ((12 - ka) + 1) ka l f (by omega) (by omega) (sp_add_start rfl) (Nat.lt_succ_self _)
theorem fl_X4_copyFrom_9 : Cond.fieldLink RX4 9 "GongTide$Tide" "sums" "[I" ∈ wsX4_copyFrom := by decide +kernel
theorem hi_X4_copyFrom_X4 : ∀ w ∈ wsX40, w ∈ wsX4_copyFrom := fun w h => List.mem_cons_of_mem _ (List.mem_append_right _ h)
def rmX4_copyFrom : Room := { frames := 0, cells := 0, slots := 0, locals := 0 }
set_option maxHeartbeats 4000000 in
set_option maxRecDepth 100000 in
theorem con_X4_copyFrom (lau : Launch) (D : va_G) (cI cB : ClassId) (t : Nat) (q : Nat) (f : Nat → Int) (t2 : Nat) (q2 : Nat) (g : Nat → Int)  : jMW (S := Unit) lau yX4_copyFrom wsX4_copyFrom rmX4_copyFrom D cI cB [.ref t, .ref t2] [oT t q, aI cI q 12 f, oT t2 q2, aI cI q2 12 g] (fun u => none) (fun u => True) (fun u => [oT t q, aI cI q 12 g, oT t2 q2, aI cI q2 12 g]) := by
  refine jMW.of (own := RX4) (cc := cX4_copyFrom) (maxL := 3) (ret := none) rfl (by decide) rfl (Nat.le_of_ble_eq_true rfl) ?_
  intro X C E
  refine jw_lv (lv' := [(0, .ref t), (1, .ref t2)]) [0, 1] rfl ?_
  refine jw_iconst (pc := 0) C dX4_copyFrom_0 ?_
  refine jw_istore_n (pc := 1) (lv' := [(2, .int (jI 0)), (0, .ref t), (1, .ref t2)]) C dX4_copyFrom_1 (by decide) rfl ?_
  have lp_2_1 : ∀ (fu : Nat) (i : Nat) (c : Nat → Int), (i ≤ 12) → (∀ j, j < i → c j = g j) → 12 - i < fu → jW X 2 [(0, .ref t), (1, .ref t2), (2, .int (jI ((i : Nat) : Int)))] [] [oT t q, aI cI q 12 c, oT t2 q2, aI cI q2 12 g] := by
    intro fu
    induction fu with
    | zero => intro i c hi hc hm; exact absurd hm (Nat.not_lt_zero _)
    | succ fu ih_2 =>
      intro i c hi hc hm
      refine jw_iload_n (pc := 2) C dX4_copyFrom_2 2 rfl ?_
      refine jw_bipush (pc := 3) C dX4_copyFrom_3 (by decide +kernel) ?_
      refine jw_icmp_ge (pc := 5) (tgt := 26) C dX4_copyFrom_5 (by decide) (by omega) (by omega) (fun c_5 => ?_) (fun c_5 => ?_)
      · -- 5 t
        refine jw_arr (f := c) (g := g) (ws' := [oT t q, aI cI q 12 g, oT t2 q2, aI cI q2 12 g]) 1 rfl (by exact fun j hj => hc j (by omega)) rfl ?_
        exact jw_vretW (pc := 26) C E dX4_copyFrom_26 (()) rfl trivial rfl
      · -- 5 f
        refine jw_aload_n (pc := 8) C dX4_copyFrom_8 0 rfl ?_
        refine jw_get (pc := 9) C hi_X4_copyFrom_X4 0 rfl rfl 0 (by decide) fl_X4_copyFrom_9 rfl rfl dX4_copyFrom_9 ?_
        refine jw_iload_n (pc := 12) C dX4_copyFrom_12 2 rfl ?_
        refine jw_aload_n (pc := 13) C dX4_copyFrom_13 1 rfl ?_
        refine jw_get (pc := 14) C hi_X4_copyFrom_X4 2 rfl rfl 0 (by decide) fl_X4_copyFrom_9 rfl rfl dX4_copyFrom_14 ?_
        refine jw_iload_n (pc := 17) C dX4_copyFrom_17 2 rfl ?_
        refine jw_iald (pc := 18) C (f := g) 3 i rfl rfl (by omega) (by decide) dX4_copyFrom_18 ?_
        refine jw_iast (pc := 19) C (f := c) 1 i rfl rfl (by omega) (by decide) (ws' := [oT t q, aI cI q 12 (va_up c i (g i)), oT t2 q2, aI cI q2 12 g]) rfl dX4_copyFrom_19 ?_
        refine jw_iinc (pc := 20) (z := ((i + 1 : Nat) : Int)) (lv' := [(2, .int (jI ((i + 1 : Nat) : Int))), (0, .ref t), (1, .ref t2)]) C dX4_copyFrom_20 2 rfl (by omega) (by decide) rfl ?_
        refine jw_goto (pc := 23) (tgt := 2) C dX4_copyFrom_23 (by decide) ?_
        refine jw_lv [1, 2, 0] rfl ?_
        exact ih_2 (i + 1) (va_up c i (g i)) (by omega) (sp_cpy_step (n := 12) rfl hc) (by omega)
  refine jw_lv [1, 2, 0] rfl ?_
  exact lp_2_1 ((12 - 0) + 1) 0 f (by omega) (fun j hj => absurd hj (Nat.not_lt_zero _)) (Nat.lt_succ_self _)
theorem mt1_X4_greatest_15 : Cond.methodLink RX4 15 Lib.Math.max.name ∈ wsX4_greatest := by decide +kernel
theorem mt2_X4_greatest_15 : Cond.static Lib.Math.max.name ∈ wsX4_greatest := by decide +kernel
theorem mt3_X4_greatest_15 : Cond.initialized "java/lang/Math" ∈ wsX4_greatest := by decide +kernel
theorem mt4_X4_greatest_15 : Cond.code Lib.Math.max.name Lib.Math.max.code 2 (some .int) ∈ wsX4_greatest := by decide +kernel
def rmX4_greatest : Room := { frames := 2, cells := 0, slots := 0, locals := 42 }
set_option maxHeartbeats 4000000 in
set_option maxRecDepth 100000 in
theorem con_X4_greatest (lau : Launch) (D : va_G) (cI cB : ClassId) (t : Nat) (q : Nat) (f : Nat → Int) (hf : ∀ k, k < 12 → 0 ≤ f k ∧ f k ≤ 99) : jMR lau yX4_greatest wsX4_greatest rmX4_greatest D cI cB [.ref t] [oT t q, aI cI q 12 f] (.int (jI (sp_gr f 12))) := by
  refine jMR.of (own := RX4) (cc := cX4_greatest) (maxL := 3) (ret := (some .int)) rfl (by decide) rfl (Nat.le_of_ble_eq_true rfl) ?_
  intro X C E
  refine jw_lv (lv' := [(0, .ref t)]) [0] rfl ?_
  refine jw_iconst (pc := 0) C dX4_greatest_0 ?_
  refine jw_istore_n (pc := 1) (lv' := [(1, .int (jI 0)), (0, .ref t)]) C dX4_greatest_1 (by decide) rfl ?_
  refine jw_iconst (pc := 2) C dX4_greatest_2 ?_
  refine jw_istore_n (pc := 3) (lv' := [(2, .int (jI 0)), (1, .int (jI 0)), (0, .ref t)]) C dX4_greatest_3 (by decide) rfl ?_
  have lp_4_1 : ∀ (fu : Nat) (i : Nat) (g : Int), (i ≤ 12) → (g = sp_gr f i) → (0 ≤ g ∧ g ≤ 20) → 12 - i < fu → jW X 4 [(0, .ref t), (1, .int (jI g)), (2, .int (jI ((i : Nat) : Int)))] [] [oT t q, aI cI q 12 f] := by
    intro fu
    induction fu with
    | zero => intro i g hi hg hb hm; exact absurd hm (Nat.not_lt_zero _)
    | succ fu ih_2 =>
      intro i g hi hg hb hm
      refine jw_iload_n (pc := 4) C dX4_greatest_4 2 rfl ?_
      refine jw_bipush (pc := 5) C dX4_greatest_5 (by decide +kernel) ?_
      refine jw_icmp_ge (pc := 7) (tgt := 26) C dX4_greatest_7 (by decide) (by omega) (by omega) (fun c_7 => ?_) (fun c_7 => ?_)
      · -- 7 t
        refine jw_iload_n (pc := 26) C dX4_greatest_26 1 rfl ?_
        exact jw_iretR (pc := 27) C E dX4_greatest_27 (congrArg jI (by rw [hg, show i = 12 by omega]))
      · -- 7 f
        refine jw_iload_n (pc := 10) C dX4_greatest_10 1 rfl ?_
        refine jw_aload_n (pc := 11) C dX4_greatest_11 0 rfl ?_
        refine jw_iload_n (pc := 12) C dX4_greatest_12 2 rfl ?_
        refine jw_callRV (pc := 13) C [.int (jI ((((i : Nat) : Int))))] [.int (jI g)] 1 (con_X4_at lau D cI cB t q f (((i : Nat) : Int)) (by omega) hf) gX4_greatest_X4_at rfl rfl rfl (by decide +kernel) ⟨Nat.le_of_ble_eq_true rfl, Nat.le_of_ble_eq_true rfl⟩ 0 rfl rfl [0, 1] rfl rfl (Nat.le_of_ble_eq_true rfl) rfl dX4_greatest_13 ?_
        have b_13_0 := (sp_at_b hf (by omega) : 0 ≤ sp_at f (((i : Nat) : Int)) ∧ sp_at f (((i : Nat) : Int)) ≤ 20)
        refine jw_top (y := jI (sp_cap (f i))) (congrArg jI (sp_at_nat f i)) ?_
        rw [sp_at_nat] at b_13_0
        refine jw_max (pc := 16) C mt1_X4_greatest_15 mt2_X4_greatest_15 mt3_X4_greatest_15 mt4_X4_greatest_15 (Nat.le_of_ble_eq_true rfl) (Nat.le_of_ble_eq_true rfl) (by omega) (by omega) dX4_greatest_16 (z := (if g < (sp_cap (f i)) then (sp_cap (f i)) else g)) rfl ?_
        refine jw_istore_n (pc := 19) (lv' := [(1, .int (jI (if g < (sp_cap (f i)) then (sp_cap (f i)) else g))), (0, .ref t), (2, .int (jI ((i : Nat) : Int)))]) C dX4_greatest_19 (by decide) rfl ?_
        refine jw_iinc (pc := 20) (z := ((i + 1 : Nat) : Int)) (lv' := [(2, .int (jI ((i + 1 : Nat) : Int))), (1, .int (jI (if g < (sp_cap (f i)) then (sp_cap (f i)) else g))), (0, .ref t)]) C dX4_greatest_20 2 rfl (by omega) (by decide) rfl ?_
        refine jw_goto (pc := 23) (tgt := 4) C dX4_greatest_23 (by decide) ?_
        refine jw_lv [2, 1, 0] rfl ?_
        exact ih_2 (i + 1) ((if g < (sp_cap (f i)) then (sp_cap (f i)) else g)) (by omega) (by rw [hg]; rfl) (by split <;> omega) (by omega)
  refine jw_lv [2, 1, 0] rfl ?_
  exact lp_4_1 ((12 - 0) + 1) 0 0 (by omega) rfl (by omega) (Nat.lt_succ_self _)
end
section
theorem fl_X3_size_18 : Cond.fieldLink RX3 18 "GongTide$Strokes" "size" "I" ∈ wsX3_size := by decide +kernel
theorem hi_X3_size_X3 : ∀ w ∈ wsX30, w ∈ wsX3_size := fun w h => List.mem_cons_of_mem _ (List.mem_append_right _ h)
def rmX3_size : Room := { frames := 0, cells := 0, slots := 0, locals := 0 }
set_option maxHeartbeats 4000000 in
set_option maxRecDepth 100000 in
theorem con_X3_size (lau : Launch) (D : va_G) (cI cB : ClassId) (s : Nat) (hr : Nat) (lo : Nat) (n : Nat)  : jMR lau yX3_size wsX3_size rmX3_size D cI cB [.ref s] [oS s hr lo ((n : Nat) : Int)] (.int (jI ((n : Nat) : Int))) := by
  refine jMR.of (own := RX3) (cc := cX3_size) (maxL := 1) (ret := (some .int)) rfl (by decide) rfl (Nat.le_of_ble_eq_true rfl) ?_
  intro X C E
  refine jw_lv (lv' := [(0, .ref s)]) [0] rfl ?_
  refine jw_aload_n (pc := 0) C dX3_size_0 0 rfl ?_
  refine jw_get (pc := 1) C hi_X3_size_X3 0 rfl rfl 2 (by decide) fl_X3_size_18 rfl rfl dX3_size_1 ?_
  exact jw_iretR (pc := 4) C E dX3_size_4 rfl
theorem fl_X3_clear_18 : Cond.fieldLink RX3 18 "GongTide$Strokes" "size" "I" ∈ wsX3_clear := by decide +kernel
theorem hi_X3_clear_X3 : ∀ w ∈ wsX30, w ∈ wsX3_clear := fun w h => List.mem_cons_of_mem _ (List.mem_append_right _ h)
def rmX3_clear : Room := { frames := 0, cells := 0, slots := 0, locals := 0 }
set_option maxHeartbeats 4000000 in
set_option maxRecDepth 100000 in
theorem con_X3_clear (lau : Launch) (D : va_G) (cI cB : ClassId) (s : Nat) (hr : Nat) (lo : Nat) (n : Int)  : jMW (S := Unit) lau yX3_clear wsX3_clear rmX3_clear D cI cB [.ref s] [oS s hr lo n] (fun u => none) (fun u => True) (fun u => [oS s hr lo ((0 : Nat) : Int)]) := by
  refine jMW.of (own := RX3) (cc := cX3_clear) (maxL := 1) (ret := none) rfl (by decide) rfl (Nat.le_of_ble_eq_true rfl) ?_
  intro X C E
  refine jw_lv (lv' := [(0, .ref s)]) [0] rfl ?_
  refine jw_aload_n (pc := 0) C dX3_clear_0 0 rfl ?_
  refine jw_iconst (pc := 1) C dX3_clear_1 ?_
  refine jw_put (pc := 2) (ty := .int) (ws' := [oS s hr lo 0]) C hi_X3_clear_X3 tyX3 tyX3_ok nmX3 0 rfl rfl 2 (by decide) fl_X3_clear_18 rfl rfl (by decide +kernel) rfl rfl (Nat.le_of_ble_eq_true rfl) rfl dX3_clear_2 ?_
  exact jw_vretW (pc := 5) C E dX3_clear_5 (()) rfl trivial rfl
theorem fl_X3_has_18 : Cond.fieldLink RX3 18 "GongTide$Strokes" "size" "I" ∈ wsX3_has := by decide +kernel
theorem hi_X3_has_X3 : ∀ w ∈ wsX30, w ∈ wsX3_has := fun w h => List.mem_cons_of_mem _ (List.mem_append_right _ h)
theorem ni_X3_has_X5_isWithin : Cond.initialized RX5 ∈ wsX3_has := by decide +kernel
theorem ns_X3_has_X5_isWithin : Cond.static yX5_isWithin ∈ wsX3_has := by decide +kernel
def rmX3_has : Room := { frames := 1, cells := 0, slots := 0, locals := 22 }
set_option maxHeartbeats 4000000 in
set_option maxRecDepth 100000 in
theorem con_X3_has (lau : Launch) (D : va_G) (cI cB : ClassId) (s : Nat) (hr : Nat) (lo : Nat) (n : Nat) (z : Int) (h1 : -2147483648 ≤ z ∧ z < 2147483648) (h2 : n ≤ 6) : jMR lau yX3_has wsX3_has rmX3_has D cI cB [.ref s, .int (jI z)] [oS s hr lo ((n : Nat) : Int)] (.int (jI (jb (0 ≤ z ∧ z ≤ ((n : Nat) : Int) - 1)))) := by
  refine jMR.of (own := RX3) (cc := cX3_has) (maxL := 2) (ret := (some .boolean)) rfl (by decide) rfl (Nat.le_of_ble_eq_true rfl) ?_
  intro X C E
  refine jw_lv (lv' := [(0, .ref s), (1, .int (jI z))]) [0, 1] rfl ?_
  refine jw_iload_n (pc := 0) C dX3_has_0 1 rfl ?_
  refine jw_iconst (pc := 1) C dX3_has_1 ?_
  refine jw_aload_n (pc := 2) C dX3_has_2 0 rfl ?_
  refine jw_get (pc := 3) C hi_X3_has_X3 0 rfl rfl 2 (by decide) fl_X3_has_18 rfl rfl dX3_has_3 ?_
  refine jw_iconst (pc := 6) C dX3_has_6 ?_
  refine jw_isub (pc := 7) (z := (((n : Nat) : Int) - 1)) C dX3_has_7 rfl ?_
  refine jw_callRN (pc := 8) C [.int (jI z), .int (jI 0), .int (jI (((((n : Nat) : Int) - 1))))] [] 3 (con_X5_isWithin lau D cI cB z 0 ((((n : Nat) : Int) - 1)) (by omega) (by omega) (by omega)) gX3_has_X5_isWithin_n22 rfl rfl rfl (fun U h => h.2.2.2.2.2.2.2.2.2.1) ni_X3_has_X5_isWithin ns_X3_has_X5_isWithin (by decide +kernel) ⟨Nat.le_of_ble_eq_true rfl, Nat.le_of_ble_eq_true rfl⟩ [] rfl rfl (Nat.le_of_ble_eq_true rfl) rfl dX3_has_8 ?_
  exact jw_zretR (pc := 11) C E dX3_has_11 rfl (jb_n _)
theorem fl_X3_hour_9 : Cond.fieldLink RX3 9 "GongTide$Strokes" "hours" "[I" ∈ wsX3_hour := by decide +kernel
theorem hi_X3_hour_X3 : ∀ w ∈ wsX30, w ∈ wsX3_hour := fun w h => List.mem_cons_of_mem _ (List.mem_append_right _ h)
def rmX3_hour : Room := { frames := 2, cells := 0, slots := 0, locals := 43 }
set_option maxHeartbeats 4000000 in
set_option maxRecDepth 100000 in
theorem con_X3_hour (lau : Launch) (D : va_G) (cI cB : ClassId) (s : Nat) (hr : Nat) (lo : Nat) (n : Nat) (SH : Nat → Int) (SL : Nat → Int) (k : Nat) (h2 : n ≤ 6) (hk : k < n) : jMR lau yX3_hour wsX3_hour rmX3_hour D cI cB [.ref s, .int (jI ((k : Nat) : Int))] [oS s hr lo ((n : Nat) : Int), aI cI hr 6 SH, aI cI lo 6 SL] (.int (jI (SH k))) := by
  refine jMR.of (own := RX3) (cc := cX3_hour) (maxL := 2) (ret := (some .int)) rfl (by decide) rfl (Nat.le_of_ble_eq_true rfl) ?_
  intro X C E
  refine jw_lv (lv' := [(0, .ref s), (1, .int (jI ((k : Nat) : Int)))]) [0, 1] rfl ?_
  refine jw_aload_n (pc := 0) C dX3_hour_0 0 rfl ?_
  refine jw_iload_n (pc := 1) C dX3_hour_1 1 rfl ?_
  refine jw_callRV (pc := 2) C [.int (jI ((((k : Nat) : Int))))] [] 1 (con_X3_has lau D cI cB s hr lo n (((k : Nat) : Int)) (by omega) (by omega)) gX3_hour_X3_has rfl rfl rfl (by decide +kernel) ⟨Nat.le_of_ble_eq_true rfl, Nat.le_of_ble_eq_true rfl⟩ 0 rfl rfl [0] rfl rfl (Nat.le_of_ble_eq_true rfl) rfl dX3_hour_2 ?_
  refine jw_ifb_eq (pc := 5) (tgt := 17) C dX3_hour_5 (by decide) (fun c_5 => ?_) (fun c_5 => ?_)
  · exfalso; omega
  · -- 5 f
    refine jw_aload_n (pc := 8) C dX3_hour_8 0 rfl ?_
    refine jw_get (pc := 9) C hi_X3_hour_X3 0 rfl rfl 0 (by decide) fl_X3_hour_9 rfl rfl dX3_hour_9 ?_
    refine jw_iload_n (pc := 12) C dX3_hour_12 1 rfl ?_
    refine jw_iald (pc := 13) C (f := SH) 1 k rfl rfl (by omega) (by decide) dX3_hour_13 ?_
    refine jw_goto (pc := 14) (tgt := 18) C dX3_hour_14 (by decide) ?_
    exact jw_iretR (pc := 18) C E dX3_hour_18 rfl
theorem fl_X3_loud_15 : Cond.fieldLink RX3 15 "GongTide$Strokes" "louds" "[I" ∈ wsX3_loud := by decide +kernel
theorem hi_X3_loud_X3 : ∀ w ∈ wsX30, w ∈ wsX3_loud := fun w h => List.mem_cons_of_mem _ (List.mem_append_right _ h)
def rmX3_loud : Room := { frames := 2, cells := 0, slots := 0, locals := 43 }
set_option maxHeartbeats 4000000 in
set_option maxRecDepth 100000 in
theorem con_X3_loud (lau : Launch) (D : va_G) (cI cB : ClassId) (s : Nat) (hr : Nat) (lo : Nat) (n : Nat) (SH : Nat → Int) (SL : Nat → Int) (k : Nat) (h2 : n ≤ 6) (hk : k < n) : jMR lau yX3_loud wsX3_loud rmX3_loud D cI cB [.ref s, .int (jI ((k : Nat) : Int))] [oS s hr lo ((n : Nat) : Int), aI cI hr 6 SH, aI cI lo 6 SL] (.int (jI (SL k))) := by
  refine jMR.of (own := RX3) (cc := cX3_loud) (maxL := 2) (ret := (some .int)) rfl (by decide) rfl (Nat.le_of_ble_eq_true rfl) ?_
  intro X C E
  refine jw_lv (lv' := [(0, .ref s), (1, .int (jI ((k : Nat) : Int)))]) [0, 1] rfl ?_
  refine jw_aload_n (pc := 0) C dX3_loud_0 0 rfl ?_
  refine jw_iload_n (pc := 1) C dX3_loud_1 1 rfl ?_
  refine jw_callRV (pc := 2) C [.int (jI ((((k : Nat) : Int))))] [] 1 (con_X3_has lau D cI cB s hr lo n (((k : Nat) : Int)) (by omega) (by omega)) gX3_loud_X3_has rfl rfl rfl (by decide +kernel) ⟨Nat.le_of_ble_eq_true rfl, Nat.le_of_ble_eq_true rfl⟩ 0 rfl rfl [0] rfl rfl (Nat.le_of_ble_eq_true rfl) rfl dX3_loud_2 ?_
  refine jw_ifb_eq (pc := 5) (tgt := 17) C dX3_loud_5 (by decide) (fun c_5 => ?_) (fun c_5 => ?_)
  · exfalso; omega
  · -- 5 f
    refine jw_aload_n (pc := 8) C dX3_loud_8 0 rfl ?_
    refine jw_get (pc := 9) C hi_X3_loud_X3 0 rfl rfl 1 (by decide) fl_X3_loud_15 rfl rfl dX3_loud_9 ?_
    refine jw_iload_n (pc := 12) C dX3_loud_12 1 rfl ?_
    refine jw_iald (pc := 13) C (f := SL) 2 k rfl rfl (by omega) (by decide) dX3_loud_13 ?_
    refine jw_goto (pc := 14) (tgt := 18) C dX3_loud_14 (by decide) ?_
    exact jw_iretR (pc := 18) C E dX3_loud_18 rfl
theorem fl_X3_setLoud_15 : Cond.fieldLink RX3 15 "GongTide$Strokes" "louds" "[I" ∈ wsX3_setLoud := by decide +kernel
theorem hi_X3_setLoud_X3 : ∀ w ∈ wsX30, w ∈ wsX3_setLoud := fun w h => List.mem_cons_of_mem _ (List.mem_append_right _ h)
def rmX3_setLoud : Room := { frames := 2, cells := 0, slots := 0, locals := 43 }
set_option maxHeartbeats 4000000 in
set_option maxRecDepth 100000 in
theorem con_X3_setLoud (lau : Launch) (D : va_G) (cI cB : ClassId) (s : Nat) (hr : Nat) (lo : Nat) (n : Nat) (SH : Nat → Int) (SL : Nat → Int) (k : Nat) (v : Int) (h2 : n ≤ 6) (hk : k < n) : jMW (S := Unit) lau yX3_setLoud wsX3_setLoud rmX3_setLoud D cI cB [.ref s, .int (jI ((k : Nat) : Int)), .int (jI v)] [oS s hr lo ((n : Nat) : Int), aI cI hr 6 SH, aI cI lo 6 SL] (fun u => none) (fun u => True) (fun u => [oS s hr lo ((n : Nat) : Int), aI cI hr 6 SH, aI cI lo 6 (va_up SL k v)]) := by
  refine jMW.of (own := RX3) (cc := cX3_setLoud) (maxL := 3) (ret := none) rfl (by decide) rfl (Nat.le_of_ble_eq_true rfl) ?_
  intro X C E
  refine jw_lv (lv' := [(0, .ref s), (1, .int (jI ((k : Nat) : Int))), (2, .int (jI v))]) [0, 1, 2] rfl ?_
  refine jw_aload_n (pc := 0) C dX3_setLoud_0 0 rfl ?_
  refine jw_iload_n (pc := 1) C dX3_setLoud_1 1 rfl ?_
  refine jw_callRV (pc := 2) C [.int (jI ((((k : Nat) : Int))))] [] 1 (con_X3_has lau D cI cB s hr lo n (((k : Nat) : Int)) (by omega) (by omega)) gX3_setLoud_X3_has rfl rfl rfl (by decide +kernel) ⟨Nat.le_of_ble_eq_true rfl, Nat.le_of_ble_eq_true rfl⟩ 0 rfl rfl [0] rfl rfl (Nat.le_of_ble_eq_true rfl) rfl dX3_setLoud_2 ?_
  refine jw_ifb_eq (pc := 5) (tgt := 15) C dX3_setLoud_5 (by decide) (fun c_5 => ?_) (fun c_5 => ?_)
  · exfalso; omega
  · -- 5 f
    refine jw_aload_n (pc := 8) C dX3_setLoud_8 0 rfl ?_
    refine jw_get (pc := 9) C hi_X3_setLoud_X3 0 rfl rfl 1 (by decide) fl_X3_setLoud_15 rfl rfl dX3_setLoud_9 ?_
    refine jw_iload_n (pc := 12) C dX3_setLoud_12 1 rfl ?_
    refine jw_iload_n (pc := 13) C dX3_setLoud_13 2 rfl ?_
    refine jw_iast (pc := 14) C (f := SL) 2 k rfl rfl (by omega) (by decide) (ws' := [oS s hr lo ((n : Nat) : Int), aI cI hr 6 SH, aI cI lo 6 (va_up SL k v)]) rfl dX3_setLoud_14 ?_
    exact jw_vretW (pc := 15) C E dX3_setLoud_15 (()) rfl trivial rfl
theorem fl_X3_add_9 : Cond.fieldLink RX3 9 "GongTide$Strokes" "hours" "[I" ∈ wsX3_add := by decide +kernel
theorem fl_X3_add_15 : Cond.fieldLink RX3 15 "GongTide$Strokes" "louds" "[I" ∈ wsX3_add := by decide +kernel
theorem fl_X3_add_18 : Cond.fieldLink RX3 18 "GongTide$Strokes" "size" "I" ∈ wsX3_add := by decide +kernel
theorem hi_X3_add_X3 : ∀ w ∈ wsX30, w ∈ wsX3_add := fun w h => List.mem_cons_of_mem _ (List.mem_append_right _ h)
def rmX3_add : Room := { frames := 0, cells := 0, slots := 0, locals := 0 }
set_option maxHeartbeats 4000000 in
set_option maxRecDepth 100000 in
theorem con_X3_add (lau : Launch) (D : va_G) (cI cB : ClassId) (s : Nat) (hr : Nat) (lo : Nat) (n : Nat) (SH : Nat → Int) (SL : Nat → Int) (a : Int) (v : Int) (h2 : n < 6) : jMW (S := Unit) lau yX3_add wsX3_add rmX3_add D cI cB [.ref s, .int (jI a), .int (jI v)] [oS s hr lo ((n : Nat) : Int), aI cI hr 6 SH, aI cI lo 6 SL] (fun u => some (.int (jI 1))) (fun u => True) (fun u => [oS s hr lo ((n + 1 : Nat) : Int), aI cI hr 6 (va_up SH n a), aI cI lo 6 (va_up SL n v)]) := by
  refine jMW.of (own := RX3) (cc := cX3_add) (maxL := 3) (ret := (some .boolean)) rfl (by decide) rfl (Nat.le_of_ble_eq_true rfl) ?_
  intro X C E
  refine jw_lv (lv' := [(0, .ref s), (1, .int (jI a)), (2, .int (jI v))]) [0, 1, 2] rfl ?_
  refine jw_aload_n (pc := 0) C dX3_add_0 0 rfl ?_
  refine jw_get (pc := 1) C hi_X3_add_X3 0 rfl rfl 2 (by decide) fl_X3_add_18 rfl rfl dX3_add_1 ?_
  refine jw_bipush (pc := 4) C dX3_add_4 (by decide +kernel) ?_
  refine jw_icmp_lt (pc := 6) (tgt := 11) C dX3_add_6 (by decide) (by omega) (by omega) (fun c_6 => ?_) (fun c_6 => ?_)
  · -- 6 t
    refine jw_aload_n (pc := 11) C dX3_add_11 0 rfl ?_
    refine jw_get (pc := 12) C hi_X3_add_X3 0 rfl rfl 0 (by decide) fl_X3_add_9 rfl rfl dX3_add_12 ?_
    refine jw_aload_n (pc := 15) C dX3_add_15 0 rfl ?_
    refine jw_get (pc := 16) C hi_X3_add_X3 0 rfl rfl 2 (by decide) fl_X3_add_18 rfl rfl dX3_add_16 ?_
    refine jw_iload_n (pc := 19) C dX3_add_19 1 rfl ?_
    refine jw_iast (pc := 20) C (f := SH) 1 n rfl rfl (by omega) (by decide) (ws' := [oS s hr lo ((n : Nat) : Int), aI cI hr 6 (va_up SH n a), aI cI lo 6 SL]) rfl dX3_add_20 ?_
    refine jw_aload_n (pc := 21) C dX3_add_21 0 rfl ?_
    refine jw_get (pc := 22) C hi_X3_add_X3 0 rfl rfl 1 (by decide) fl_X3_add_15 rfl rfl dX3_add_22 ?_
    refine jw_aload_n (pc := 25) C dX3_add_25 0 rfl ?_
    refine jw_get (pc := 26) C hi_X3_add_X3 0 rfl rfl 2 (by decide) fl_X3_add_18 rfl rfl dX3_add_26 ?_
    refine jw_iload_n (pc := 29) C dX3_add_29 2 rfl ?_
    refine jw_iast (pc := 30) C (f := SL) 2 n rfl rfl (by omega) (by decide) (ws' := [oS s hr lo ((n : Nat) : Int), aI cI hr 6 (va_up SH n a), aI cI lo 6 (va_up SL n v)]) rfl dX3_add_30 ?_
    refine jw_aload_n (pc := 31) C dX3_add_31 0 rfl ?_
    refine jw_dup (pc := 32) C dX3_add_32 rfl ?_
    refine jw_get (pc := 33) C hi_X3_add_X3 0 rfl rfl 2 (by decide) fl_X3_add_18 rfl rfl dX3_add_33 ?_
    refine jw_iconst (pc := 36) C dX3_add_36 ?_
    refine jw_iadd (pc := 37) (z := ((n + 1 : Nat) : Int)) C dX3_add_37 (by omega) ?_
    refine jw_put (pc := 38) (ty := .int) (ws' := [oS s hr lo ((n + 1 : Nat) : Int), aI cI hr 6 (va_up SH n a), aI cI lo 6 (va_up SL n v)]) C hi_X3_add_X3 tyX3 tyX3_ok nmX3 0 rfl rfl 2 (by decide) fl_X3_add_18 rfl rfl (by decide +kernel) rfl rfl (Nat.le_of_ble_eq_true rfl) rfl dX3_add_38 ?_
    refine jw_iconst (pc := 41) C dX3_add_41 ?_
    exact jw_zretW (pc := 42) C E dX3_add_42 (()) rfl trivial rfl rfl
  · exfalso; omega
set_option maxHeartbeats 4000000 in
set_option maxRecDepth 100000 in
theorem con_X3_addF (lau : Launch) (D : va_G) (cI cB : ClassId) (s : Nat) (hr : Nat) (lo : Nat) (n : Nat) (SH : Nat → Int) (SL : Nat → Int) (a : Int) (v : Int) (h2 : n = 6) : jMW (S := Unit) lau yX3_add wsX3_add rmX3_add D cI cB [.ref s, .int (jI a), .int (jI v)] [oS s hr lo ((n : Nat) : Int), aI cI hr 6 SH, aI cI lo 6 SL] (fun u => some (.int (jI 0))) (fun u => True) (fun u => [oS s hr lo ((n : Nat) : Int), aI cI hr 6 SH, aI cI lo 6 SL]) := by
  refine jMW.of (own := RX3) (cc := cX3_add) (maxL := 3) (ret := (some .boolean)) rfl (by decide) rfl (Nat.le_of_ble_eq_true rfl) ?_
  intro X C E
  refine jw_lv (lv' := [(0, .ref s), (1, .int (jI a)), (2, .int (jI v))]) [0, 1, 2] rfl ?_
  refine jw_aload_n (pc := 0) C dX3_add_0 0 rfl ?_
  refine jw_get (pc := 1) C hi_X3_add_X3 0 rfl rfl 2 (by decide) fl_X3_add_18 rfl rfl dX3_add_1 ?_
  refine jw_bipush (pc := 4) C dX3_add_4 (by decide +kernel) ?_
  refine jw_icmp_lt (pc := 6) (tgt := 11) C dX3_add_6 (by decide) (by omega) (by omega) (fun c_6 => ?_) (fun c_6 => ?_)
  · exfalso; omega
  · -- 6 f
    refine jw_iconst (pc := 9) C dX3_add_9 ?_
    exact jw_zretW (pc := 10) C E dX3_add_10 (()) rfl trivial rfl rfl
def rmX3_goneAt : Room := { frames := 3, cells := 0, slots := 0, locals := 64 }
set_option maxHeartbeats 4000000 in
set_option maxRecDepth 100000 in
theorem con_X3_goneAt (lau : Launch) (D : va_G) (cI cB : ClassId) (s : Nat) (hr : Nat) (lo : Nat) (n : Nat) (SH : Nat → Int) (SL : Nat → Int) (k : Nat) (h2 : n ≤ 6) (hk : k < n) (hb : 0 ≤ SH k ∧ SH k ≤ 9 ∧ 0 ≤ SL k ∧ SL k ≤ 9) : jMR lau yX3_goneAt wsX3_goneAt rmX3_goneAt D cI cB [.ref s, .int (jI ((k : Nat) : Int))] [oS s hr lo ((n : Nat) : Int), aI cI hr 6 SH, aI cI lo 6 SL] (.int (jI (sp_gone (SH k) (SL k)))) := by
  refine jMR.of (own := RX3) (cc := cX3_goneAt) (maxL := 3) (ret := (some .int)) rfl (by decide) rfl (Nat.le_of_ble_eq_true rfl) ?_
  intro X C E
  refine jw_lv (lv' := [(0, .ref s), (1, .int (jI ((k : Nat) : Int)))]) [0, 1] rfl ?_
  refine jw_aload_n (pc := 0) C dX3_goneAt_0 0 rfl ?_
  refine jw_iload_n (pc := 1) C dX3_goneAt_1 1 rfl ?_
  refine jw_callRV (pc := 2) C [.int (jI ((k : Nat) : Int))] [] 1 (con_X3_hour lau D cI cB s hr lo n SH SL k (by omega) (by omega)) gX3_goneAt_X3_hour rfl rfl rfl (by decide +kernel) ⟨Nat.le_of_ble_eq_true rfl, Nat.le_of_ble_eq_true rfl⟩ 0 rfl rfl [0, 1, 2] rfl rfl (Nat.le_of_ble_eq_true rfl) rfl dX3_goneAt_2 ?_
  refine jw_aload_n (pc := 5) C dX3_goneAt_5 0 rfl ?_
  refine jw_iload_n (pc := 6) C dX3_goneAt_6 1 rfl ?_
  refine jw_callRV (pc := 7) C [.int (jI ((k : Nat) : Int))] [.int (jI (SH k))] 1 (con_X3_loud lau D cI cB s hr lo n SH SL k (by omega) (by omega)) gX3_goneAt_X3_loud rfl rfl rfl (by decide +kernel) ⟨Nat.le_of_ble_eq_true rfl, Nat.le_of_ble_eq_true rfl⟩ 0 rfl rfl [0, 1, 2] rfl rfl (Nat.le_of_ble_eq_true rfl) rfl dX3_goneAt_7 ?_
  refine jw_iconst (pc := 10) C dX3_goneAt_10 ?_
  refine jw_iadd (pc := 11) (z := ((SL k) + 2)) C dX3_goneAt_11 rfl ?_
  refine jw_iconst (pc := 12) C dX3_goneAt_12 ?_
  refine jw_isub (pc := 13) (z := (((SL k) + 2) - 1)) C dX3_goneAt_13 rfl ?_
  refine jw_iconst (pc := 14) C dX3_goneAt_14 ?_
  refine jw_idiv (pc := 15) C (jI ((SL k + 2 - 1) / 2)) dX3_goneAt_15 (jI_ne0 (by omega)) (jI_div (by omega) (by omega)) ?_
  refine jw_iadd (pc := 16) (z := ((SH k) + ((SL k + 2 - 1) / 2))) C dX3_goneAt_16 rfl ?_
  refine jw_istore_n (pc := 17) (lv' := [(2, .int (jI ((SH k) + ((SL k + 2 - 1) / 2)))), (0, .ref s), (1, .int (jI ((k : Nat) : Int)))]) C dX3_goneAt_17 (by decide) rfl ?_
  refine jw_iload_n (pc := 18) C dX3_goneAt_18 0 rfl ?_
  refine jw_bipush (pc := 19) C dX3_goneAt_19 (by decide +kernel) ?_
  refine jw_icmp_ge (pc := 21) (tgt := 28) C dX3_goneAt_21 (by decide) (by omega) (by omega) (fun c_21 => ?_) (fun c_21 => ?_)
  · -- 21 t
    refine jw_iconst (pc := 28) C dX3_goneAt_28 ?_
    exact jw_iretR (pc := 29) C E dX3_goneAt_29 (congrArg jI (by unfold sp_gone; (repeat' split) <;> omega))
  · -- 21 f
    refine jw_iload_n (pc := 24) C dX3_goneAt_24 0 rfl ?_
    refine jw_goto (pc := 25) (tgt := 29) C dX3_goneAt_25 (by decide) ?_
    exact jw_iretR (pc := 29) C E dX3_goneAt_29 (congrArg jI (by unfold sp_gone; (repeat' split) <;> omega))
theorem fl_X3_copyFrom_9 : Cond.fieldLink RX3 9 "GongTide$Strokes" "hours" "[I" ∈ wsX3_copyFrom := by decide +kernel
theorem fl_X3_copyFrom_15 : Cond.fieldLink RX3 15 "GongTide$Strokes" "louds" "[I" ∈ wsX3_copyFrom := by decide +kernel
theorem fl_X3_copyFrom_18 : Cond.fieldLink RX3 18 "GongTide$Strokes" "size" "I" ∈ wsX3_copyFrom := by decide +kernel
theorem hi_X3_copyFrom_X3 : ∀ w ∈ wsX30, w ∈ wsX3_copyFrom := fun w h => List.mem_cons_of_mem _ (List.mem_append_right _ h)
def rmX3_copyFrom : Room := { frames := 0, cells := 0, slots := 0, locals := 0 }
set_option maxHeartbeats 4000000 in
set_option maxRecDepth 100000 in
theorem con_X3_copyFrom (lau : Launch) (D : va_G) (cI cB : ClassId) (s : Nat) (hr : Nat) (lo : Nat) (n : Int) (SH : Nat → Int) (SL : Nat → Int) (s2 : Nat) (hr2 : Nat) (lo2 : Nat) (n2 : Nat) (SH2 : Nat → Int) (SL2 : Nat → Int)  : jMW (S := Unit) lau yX3_copyFrom wsX3_copyFrom rmX3_copyFrom D cI cB [.ref s, .ref s2] [oS s hr lo n, aI cI hr 6 SH, aI cI lo 6 SL, oS s2 hr2 lo2 ((n2 : Nat) : Int), aI cI hr2 6 SH2, aI cI lo2 6 SL2] (fun u => none) (fun u => True) (fun u => [oS s hr lo ((n2 : Nat) : Int), aI cI hr 6 SH2, aI cI lo 6 SL2, oS s2 hr2 lo2 ((n2 : Nat) : Int), aI cI hr2 6 SH2, aI cI lo2 6 SL2]) := by
  refine jMW.of (own := RX3) (cc := cX3_copyFrom) (maxL := 3) (ret := none) rfl (by decide) rfl (Nat.le_of_ble_eq_true rfl) ?_
  intro X C E
  refine jw_lv (lv' := [(0, .ref s), (1, .ref s2)]) [0, 1] rfl ?_
  refine jw_aload_n (pc := 0) C dX3_copyFrom_0 0 rfl ?_
  refine jw_aload_n (pc := 1) C dX3_copyFrom_1 1 rfl ?_
  refine jw_get (pc := 2) C hi_X3_copyFrom_X3 3 rfl rfl 2 (by decide) fl_X3_copyFrom_18 rfl rfl dX3_copyFrom_2 ?_
  refine jw_put (pc := 5) (ty := .int) (ws' := [oS s hr lo ((n2 : Nat) : Int), aI cI hr 6 SH, aI cI lo 6 SL, oS s2 hr2 lo2 ((n2 : Nat) : Int), aI cI hr2 6 SH2, aI cI lo2 6 SL2]) C hi_X3_copyFrom_X3 tyX3 tyX3_ok nmX3 0 rfl rfl 2 (by decide) fl_X3_copyFrom_18 rfl rfl (by decide +kernel) rfl rfl (Nat.le_of_ble_eq_true rfl) rfl dX3_copyFrom_5 ?_
  refine jw_iconst (pc := 8) C dX3_copyFrom_8 ?_
  refine jw_istore_n (pc := 9) (lv' := [(2, .int (jI 0)), (0, .ref s), (1, .ref s2)]) C dX3_copyFrom_9 (by decide) rfl ?_
  have lp_10_1 : ∀ (fu : Nat) (i : Nat) (c0 : Nat → Int) (c1 : Nat → Int), (i ≤ 6) → (∀ j, j < i → c0 j = SH2 j) → (∀ j, j < i → c1 j = SL2 j) → 6 - i < fu → jW X 10 [(0, .ref s), (1, .ref s2), (2, .int (jI ((i : Nat) : Int)))] [] [oS s hr lo ((n2 : Nat) : Int), aI cI hr 6 c0, aI cI lo 6 c1, oS s2 hr2 lo2 ((n2 : Nat) : Int), aI cI hr2 6 SH2, aI cI lo2 6 SL2] := by
    intro fu
    induction fu with
    | zero => intro i c0 c1 hi hc0 hc1 hm; exact absurd hm (Nat.not_lt_zero _)
    | succ fu ih_2 =>
      intro i c0 c1 hi hc0 hc1 hm
      refine jw_iload_n (pc := 10) C dX3_copyFrom_10 2 rfl ?_
      refine jw_bipush (pc := 11) C dX3_copyFrom_11 (by decide +kernel) ?_
      refine jw_icmp_ge (pc := 13) (tgt := 46) C dX3_copyFrom_13 (by decide) (by omega) (by omega) (fun c_13 => ?_) (fun c_13 => ?_)
      · -- 13 t
        refine jw_arr (f := c0) (g := SH2) (ws' := [oS s hr lo ((n2 : Nat) : Int), aI cI hr 6 SH2, aI cI lo 6 c1, oS s2 hr2 lo2 ((n2 : Nat) : Int), aI cI hr2 6 SH2, aI cI lo2 6 SL2]) 1 rfl (by exact fun j hj => hc0 j (by omega)) rfl ?_
        refine jw_arr (f := c1) (g := SL2) (ws' := [oS s hr lo ((n2 : Nat) : Int), aI cI hr 6 SH2, aI cI lo 6 SL2, oS s2 hr2 lo2 ((n2 : Nat) : Int), aI cI hr2 6 SH2, aI cI lo2 6 SL2]) 2 rfl (by exact fun j hj => hc1 j (by omega)) rfl ?_
        exact jw_vretW (pc := 46) C E dX3_copyFrom_46 (()) rfl trivial rfl
      · -- 13 f
        refine jw_aload_n (pc := 16) C dX3_copyFrom_16 0 rfl ?_
        refine jw_get (pc := 17) C hi_X3_copyFrom_X3 0 rfl rfl 0 (by decide) fl_X3_copyFrom_9 rfl rfl dX3_copyFrom_17 ?_
        refine jw_iload_n (pc := 20) C dX3_copyFrom_20 2 rfl ?_
        refine jw_aload_n (pc := 21) C dX3_copyFrom_21 1 rfl ?_
        refine jw_get (pc := 22) C hi_X3_copyFrom_X3 3 rfl rfl 0 (by decide) fl_X3_copyFrom_9 rfl rfl dX3_copyFrom_22 ?_
        refine jw_iload_n (pc := 25) C dX3_copyFrom_25 2 rfl ?_
        refine jw_iald (pc := 26) C (f := SH2) 4 i rfl rfl (by omega) (by decide) dX3_copyFrom_26 ?_
        refine jw_iast (pc := 27) C (f := c0) 1 i rfl rfl (by omega) (by decide) (ws' := [oS s hr lo ((n2 : Nat) : Int), aI cI hr 6 (va_up c0 i (SH2 i)), aI cI lo 6 c1, oS s2 hr2 lo2 ((n2 : Nat) : Int), aI cI hr2 6 SH2, aI cI lo2 6 SL2]) rfl dX3_copyFrom_27 ?_
        refine jw_aload_n (pc := 28) C dX3_copyFrom_28 0 rfl ?_
        refine jw_get (pc := 29) C hi_X3_copyFrom_X3 0 rfl rfl 1 (by decide) fl_X3_copyFrom_15 rfl rfl dX3_copyFrom_29 ?_
        refine jw_iload_n (pc := 32) C dX3_copyFrom_32 2 rfl ?_
        refine jw_aload_n (pc := 33) C dX3_copyFrom_33 1 rfl ?_
        refine jw_get (pc := 34) C hi_X3_copyFrom_X3 3 rfl rfl 1 (by decide) fl_X3_copyFrom_15 rfl rfl dX3_copyFrom_34 ?_
        refine jw_iload_n (pc := 37) C dX3_copyFrom_37 2 rfl ?_
        refine jw_iald (pc := 38) C (f := SL2) 5 i rfl rfl (by omega) (by decide) dX3_copyFrom_38 ?_
        refine jw_iast (pc := 39) C (f := c1) 2 i rfl rfl (by omega) (by decide) (ws' := [oS s hr lo ((n2 : Nat) : Int), aI cI hr 6 (va_up c0 i (SH2 i)), aI cI lo 6 (va_up c1 i (SL2 i)), oS s2 hr2 lo2 ((n2 : Nat) : Int), aI cI hr2 6 SH2, aI cI lo2 6 SL2]) rfl dX3_copyFrom_39 ?_
        refine jw_iinc (pc := 40) (z := ((i + 1 : Nat) : Int)) (lv' := [(2, .int (jI ((i + 1 : Nat) : Int))), (0, .ref s), (1, .ref s2)]) C dX3_copyFrom_40 2 rfl (by omega) (by decide) rfl ?_
        refine jw_goto (pc := 43) (tgt := 10) C dX3_copyFrom_43 (by decide) ?_
        refine jw_lv [1, 2, 0] rfl ?_
        exact ih_2 (i + 1) (va_up c0 i (SH2 i)) (va_up c1 i (SL2 i)) (by omega) (sp_cpy_step (n := 6) rfl hc0) (sp_cpy_step (n := 6) rfl hc1) (by omega)
  refine jw_lv [1, 2, 0] rfl ?_
  exact lp_10_1 ((6 - 0) + 1) 0 SH SL (by omega) (fun j hj => absurd hj (Nat.not_lt_zero _)) (fun j hj => absurd hj (Nat.not_lt_zero _)) (Nat.lt_succ_self _)
theorem fl_X1_size_24 : Cond.fieldLink RX1 24 "GongTide$Heard" "size" "I" ∈ wsX1_size := by decide +kernel
theorem hi_X1_size_X1 : ∀ w ∈ wsX10, w ∈ wsX1_size := fun w h => List.mem_cons_of_mem _ (List.mem_append_right _ h)
def rmX1_size : Room := { frames := 0, cells := 0, slots := 0, locals := 0 }
set_option maxHeartbeats 4000000 in
set_option maxRecDepth 100000 in
theorem con_X1_size (lau : Launch) (D : va_G) (cI cB : ClassId) (h : Nat) (hh : Nat) (hq : Nat) (hl : Nat) (hw : Nat) (n : Nat)  : jMR lau yX1_size wsX1_size rmX1_size D cI cB [.ref h] [oH h hh hq hl hw ((n : Nat) : Int)] (.int (jI ((n : Nat) : Int))) := by
  refine jMR.of (own := RX1) (cc := cX1_size) (maxL := 1) (ret := (some .int)) rfl (by decide) rfl (Nat.le_of_ble_eq_true rfl) ?_
  intro X C E
  refine jw_lv (lv' := [(0, .ref h)]) [0] rfl ?_
  refine jw_aload_n (pc := 0) C dX1_size_0 0 rfl ?_
  refine jw_get (pc := 1) C hi_X1_size_X1 0 rfl rfl 4 (by decide) fl_X1_size_24 rfl rfl dX1_size_1 ?_
  exact jw_iretR (pc := 4) C E dX1_size_4 rfl
theorem fl_X1_clear_24 : Cond.fieldLink RX1 24 "GongTide$Heard" "size" "I" ∈ wsX1_clear := by decide +kernel
theorem hi_X1_clear_X1 : ∀ w ∈ wsX10, w ∈ wsX1_clear := fun w h => List.mem_cons_of_mem _ (List.mem_append_right _ h)
def rmX1_clear : Room := { frames := 0, cells := 0, slots := 0, locals := 0 }
set_option maxHeartbeats 4000000 in
set_option maxRecDepth 100000 in
theorem con_X1_clear (lau : Launch) (D : va_G) (cI cB : ClassId) (h : Nat) (hh : Nat) (hq : Nat) (hl : Nat) (hw : Nat) (n : Nat)  : jMW (S := Unit) lau yX1_clear wsX1_clear rmX1_clear D cI cB [.ref h] [oH h hh hq hl hw ((n : Nat) : Int)] (fun u => some (.int (jI ((n : Nat) : Int)))) (fun u => True) (fun u => [oH h hh hq hl hw ((0 : Nat) : Int)]) := by
  refine jMW.of (own := RX1) (cc := cX1_clear) (maxL := 2) (ret := (some .int)) rfl (by decide) rfl (Nat.le_of_ble_eq_true rfl) ?_
  intro X C E
  refine jw_lv (lv' := [(0, .ref h)]) [0] rfl ?_
  refine jw_aload_n (pc := 0) C dX1_clear_0 0 rfl ?_
  refine jw_get (pc := 1) C hi_X1_clear_X1 0 rfl rfl 4 (by decide) fl_X1_clear_24 rfl rfl dX1_clear_1 ?_
  refine jw_istore_n (pc := 4) (lv' := [(1, .int (jI ((n : Nat) : Int))), (0, .ref h)]) C dX1_clear_4 (by decide) rfl ?_
  refine jw_aload_n (pc := 5) C dX1_clear_5 1 rfl ?_
  refine jw_iconst (pc := 6) C dX1_clear_6 ?_
  refine jw_put (pc := 7) (ty := .int) (ws' := [oH h hh hq hl hw 0]) C hi_X1_clear_X1 tyX1 tyX1_ok nmX1 0 rfl rfl 4 (by decide) fl_X1_clear_24 rfl rfl (by decide +kernel) rfl rfl (Nat.le_of_ble_eq_true rfl) rfl dX1_clear_7 ?_
  refine jw_iload_n (pc := 10) C dX1_clear_10 0 rfl ?_
  exact jw_iretW (pc := 11) C E dX1_clear_11 (()) rfl trivial rfl
theorem fl_X1_has_24 : Cond.fieldLink RX1 24 "GongTide$Heard" "size" "I" ∈ wsX1_has := by decide +kernel
theorem hi_X1_has_X1 : ∀ w ∈ wsX10, w ∈ wsX1_has := fun w h => List.mem_cons_of_mem _ (List.mem_append_right _ h)
theorem ni_X1_has_X5_isWithin : Cond.initialized RX5 ∈ wsX1_has := by decide +kernel
theorem ns_X1_has_X5_isWithin : Cond.static yX5_isWithin ∈ wsX1_has := by decide +kernel
def rmX1_has : Room := { frames := 1, cells := 0, slots := 0, locals := 22 }
set_option maxHeartbeats 4000000 in
set_option maxRecDepth 100000 in
theorem con_X1_has (lau : Launch) (D : va_G) (cI cB : ClassId) (h : Nat) (hh : Nat) (hq : Nat) (hl : Nat) (hw : Nat) (n : Nat) (z : Int) (h1 : -2147483648 ≤ z ∧ z < 2147483648) (h2 : n ≤ 6) : jMR lau yX1_has wsX1_has rmX1_has D cI cB [.ref h, .int (jI z)] [oH h hh hq hl hw ((n : Nat) : Int)] (.int (jI (jb (0 ≤ z ∧ z ≤ ((n : Nat) : Int) - 1)))) := by
  refine jMR.of (own := RX1) (cc := cX1_has) (maxL := 2) (ret := (some .boolean)) rfl (by decide) rfl (Nat.le_of_ble_eq_true rfl) ?_
  intro X C E
  refine jw_lv (lv' := [(0, .ref h), (1, .int (jI z))]) [0, 1] rfl ?_
  refine jw_iload_n (pc := 0) C dX1_has_0 1 rfl ?_
  refine jw_iconst (pc := 1) C dX1_has_1 ?_
  refine jw_aload_n (pc := 2) C dX1_has_2 0 rfl ?_
  refine jw_get (pc := 3) C hi_X1_has_X1 0 rfl rfl 4 (by decide) fl_X1_has_24 rfl rfl dX1_has_3 ?_
  refine jw_iconst (pc := 6) C dX1_has_6 ?_
  refine jw_isub (pc := 7) (z := (((n : Nat) : Int) - 1)) C dX1_has_7 rfl ?_
  refine jw_callRN (pc := 8) C [.int (jI z), .int (jI 0), .int (jI (((((n : Nat) : Int) - 1))))] [] 3 (con_X5_isWithin lau D cI cB z 0 ((((n : Nat) : Int) - 1)) (by omega) (by omega) (by omega)) gX1_has_X5_isWithin_n28 rfl rfl rfl (fun U h => h.2.2.2.2.2.2.2.2.2.2) ni_X1_has_X5_isWithin ns_X1_has_X5_isWithin (by decide +kernel) ⟨Nat.le_of_ble_eq_true rfl, Nat.le_of_ble_eq_true rfl⟩ [] rfl rfl (Nat.le_of_ble_eq_true rfl) rfl dX1_has_8 ?_
  exact jw_zretR (pc := 11) C E dX1_has_11 rfl (jb_n _)
theorem fl_X1_house_9 : Cond.fieldLink RX1 9 "GongTide$Heard" "houses" "[I" ∈ wsX1_house := by decide +kernel
theorem hi_X1_house_X1 : ∀ w ∈ wsX10, w ∈ wsX1_house := fun w h => List.mem_cons_of_mem _ (List.mem_append_right _ h)
def rmX1_house : Room := { frames := 2, cells := 0, slots := 0, locals := 43 }
set_option maxHeartbeats 4000000 in
set_option maxRecDepth 100000 in
theorem con_X1_house (lau : Launch) (D : va_G) (cI cB : ClassId) (h : Nat) (hh : Nat) (hq : Nat) (hl : Nat) (hw : Nat) (n : Nat) (HH : Nat → Int) (k : Nat) (h2 : n ≤ 6) (hk : k < n) : jMR lau yX1_house wsX1_house rmX1_house D cI cB [.ref h, .int (jI ((k : Nat) : Int))] [oH h hh hq hl hw ((n : Nat) : Int), aI cI hh 6 HH] (.int (jI (HH k))) := by
  refine jMR.of (own := RX1) (cc := cX1_house) (maxL := 2) (ret := (some .int)) rfl (by decide) rfl (Nat.le_of_ble_eq_true rfl) ?_
  intro X C E
  refine jw_lv (lv' := [(0, .ref h), (1, .int (jI ((k : Nat) : Int)))]) [0, 1] rfl ?_
  refine jw_aload_n (pc := 0) C dX1_house_0 0 rfl ?_
  refine jw_iload_n (pc := 1) C dX1_house_1 1 rfl ?_
  refine jw_callRV (pc := 2) C [.int (jI ((((k : Nat) : Int))))] [] 1 (con_X1_has lau D cI cB h hh hq hl hw n (((k : Nat) : Int)) (by omega) (by omega)) gX1_house_X1_has rfl rfl rfl (by decide +kernel) ⟨Nat.le_of_ble_eq_true rfl, Nat.le_of_ble_eq_true rfl⟩ 0 rfl rfl [0] rfl rfl (Nat.le_of_ble_eq_true rfl) rfl dX1_house_2 ?_
  refine jw_ifb_eq (pc := 5) (tgt := 17) C dX1_house_5 (by decide) (fun c_5 => ?_) (fun c_5 => ?_)
  · exfalso; omega
  · -- 5 f
    refine jw_aload_n (pc := 8) C dX1_house_8 0 rfl ?_
    refine jw_get (pc := 9) C hi_X1_house_X1 0 rfl rfl 0 (by decide) fl_X1_house_9 rfl rfl dX1_house_9 ?_
    refine jw_iload_n (pc := 12) C dX1_house_12 1 rfl ?_
    refine jw_iald (pc := 13) C (f := HH) 1 k rfl rfl (by omega) (by decide) dX1_house_13 ?_
    refine jw_goto (pc := 14) (tgt := 18) C dX1_house_14 (by decide) ?_
    exact jw_iretR (pc := 18) C E dX1_house_18 rfl
theorem fl_X1_hour_15 : Cond.fieldLink RX1 15 "GongTide$Heard" "hours" "[I" ∈ wsX1_hour := by decide +kernel
theorem hi_X1_hour_X1 : ∀ w ∈ wsX10, w ∈ wsX1_hour := fun w h => List.mem_cons_of_mem _ (List.mem_append_right _ h)
def rmX1_hour : Room := { frames := 2, cells := 0, slots := 0, locals := 43 }
set_option maxHeartbeats 4000000 in
set_option maxRecDepth 100000 in
theorem con_X1_hour (lau : Launch) (D : va_G) (cI cB : ClassId) (h : Nat) (hh : Nat) (hq : Nat) (hl : Nat) (hw : Nat) (n : Nat) (HO : Nat → Int) (k : Nat) (h2 : n ≤ 6) (hk : k < n) : jMR lau yX1_hour wsX1_hour rmX1_hour D cI cB [.ref h, .int (jI ((k : Nat) : Int))] [oH h hh hq hl hw ((n : Nat) : Int), aI cI hq 6 HO] (.int (jI (HO k))) := by
  refine jMR.of (own := RX1) (cc := cX1_hour) (maxL := 2) (ret := (some .int)) rfl (by decide) rfl (Nat.le_of_ble_eq_true rfl) ?_
  intro X C E
  refine jw_lv (lv' := [(0, .ref h), (1, .int (jI ((k : Nat) : Int)))]) [0, 1] rfl ?_
  refine jw_aload_n (pc := 0) C dX1_hour_0 0 rfl ?_
  refine jw_iload_n (pc := 1) C dX1_hour_1 1 rfl ?_
  refine jw_callRV (pc := 2) C [.int (jI ((((k : Nat) : Int))))] [] 1 (con_X1_has lau D cI cB h hh hq hl hw n (((k : Nat) : Int)) (by omega) (by omega)) gX1_hour_X1_has rfl rfl rfl (by decide +kernel) ⟨Nat.le_of_ble_eq_true rfl, Nat.le_of_ble_eq_true rfl⟩ 0 rfl rfl [0] rfl rfl (Nat.le_of_ble_eq_true rfl) rfl dX1_hour_2 ?_
  refine jw_ifb_eq (pc := 5) (tgt := 17) C dX1_hour_5 (by decide) (fun c_5 => ?_) (fun c_5 => ?_)
  · exfalso; omega
  · -- 5 f
    refine jw_aload_n (pc := 8) C dX1_hour_8 0 rfl ?_
    refine jw_get (pc := 9) C hi_X1_hour_X1 0 rfl rfl 1 (by decide) fl_X1_hour_15 rfl rfl dX1_hour_9 ?_
    refine jw_iload_n (pc := 12) C dX1_hour_12 1 rfl ?_
    refine jw_iald (pc := 13) C (f := HO) 1 k rfl rfl (by omega) (by decide) dX1_hour_13 ?_
    refine jw_goto (pc := 14) (tgt := 18) C dX1_hour_14 (by decide) ?_
    exact jw_iretR (pc := 18) C E dX1_hour_18 rfl
theorem fl_X1_loud_18 : Cond.fieldLink RX1 18 "GongTide$Heard" "louds" "[I" ∈ wsX1_loud := by decide +kernel
theorem hi_X1_loud_X1 : ∀ w ∈ wsX10, w ∈ wsX1_loud := fun w h => List.mem_cons_of_mem _ (List.mem_append_right _ h)
def rmX1_loud : Room := { frames := 2, cells := 0, slots := 0, locals := 43 }
set_option maxHeartbeats 4000000 in
set_option maxRecDepth 100000 in
theorem con_X1_loud (lau : Launch) (D : va_G) (cI cB : ClassId) (h : Nat) (hh : Nat) (hq : Nat) (hl : Nat) (hw : Nat) (n : Nat) (HL : Nat → Int) (k : Nat) (h2 : n ≤ 6) (hk : k < n) : jMR lau yX1_loud wsX1_loud rmX1_loud D cI cB [.ref h, .int (jI ((k : Nat) : Int))] [oH h hh hq hl hw ((n : Nat) : Int), aI cI hl 6 HL] (.int (jI (HL k))) := by
  refine jMR.of (own := RX1) (cc := cX1_loud) (maxL := 2) (ret := (some .int)) rfl (by decide) rfl (Nat.le_of_ble_eq_true rfl) ?_
  intro X C E
  refine jw_lv (lv' := [(0, .ref h), (1, .int (jI ((k : Nat) : Int)))]) [0, 1] rfl ?_
  refine jw_aload_n (pc := 0) C dX1_loud_0 0 rfl ?_
  refine jw_iload_n (pc := 1) C dX1_loud_1 1 rfl ?_
  refine jw_callRV (pc := 2) C [.int (jI ((((k : Nat) : Int))))] [] 1 (con_X1_has lau D cI cB h hh hq hl hw n (((k : Nat) : Int)) (by omega) (by omega)) gX1_loud_X1_has rfl rfl rfl (by decide +kernel) ⟨Nat.le_of_ble_eq_true rfl, Nat.le_of_ble_eq_true rfl⟩ 0 rfl rfl [0] rfl rfl (Nat.le_of_ble_eq_true rfl) rfl dX1_loud_2 ?_
  refine jw_ifb_eq (pc := 5) (tgt := 17) C dX1_loud_5 (by decide) (fun c_5 => ?_) (fun c_5 => ?_)
  · exfalso; omega
  · -- 5 f
    refine jw_aload_n (pc := 8) C dX1_loud_8 0 rfl ?_
    refine jw_get (pc := 9) C hi_X1_loud_X1 0 rfl rfl 2 (by decide) fl_X1_loud_18 rfl rfl dX1_loud_9 ?_
    refine jw_iload_n (pc := 12) C dX1_loud_12 1 rfl ?_
    refine jw_iald (pc := 13) C (f := HL) 1 k rfl rfl (by omega) (by decide) dX1_loud_13 ?_
    refine jw_goto (pc := 14) (tgt := 18) C dX1_loud_14 (by decide) ?_
    exact jw_iretR (pc := 18) C E dX1_loud_18 rfl
theorem fl_X1_how_21 : Cond.fieldLink RX1 21 "GongTide$Heard" "hows" "[I" ∈ wsX1_how := by decide +kernel
theorem hi_X1_how_X1 : ∀ w ∈ wsX10, w ∈ wsX1_how := fun w h => List.mem_cons_of_mem _ (List.mem_append_right _ h)
def rmX1_how : Room := { frames := 2, cells := 0, slots := 0, locals := 43 }
set_option maxHeartbeats 4000000 in
set_option maxRecDepth 100000 in
theorem con_X1_how (lau : Launch) (D : va_G) (cI cB : ClassId) (h : Nat) (hh : Nat) (hq : Nat) (hl : Nat) (hw : Nat) (n : Nat) (HW : Nat → Int) (k : Nat) (h2 : n ≤ 6) (hk : k < n) : jMR lau yX1_how wsX1_how rmX1_how D cI cB [.ref h, .int (jI ((k : Nat) : Int))] [oH h hh hq hl hw ((n : Nat) : Int), aI cI hw 6 HW] (.int (jI (HW k))) := by
  refine jMR.of (own := RX1) (cc := cX1_how) (maxL := 2) (ret := (some .int)) rfl (by decide) rfl (Nat.le_of_ble_eq_true rfl) ?_
  intro X C E
  refine jw_lv (lv' := [(0, .ref h), (1, .int (jI ((k : Nat) : Int)))]) [0, 1] rfl ?_
  refine jw_aload_n (pc := 0) C dX1_how_0 0 rfl ?_
  refine jw_iload_n (pc := 1) C dX1_how_1 1 rfl ?_
  refine jw_callRV (pc := 2) C [.int (jI ((((k : Nat) : Int))))] [] 1 (con_X1_has lau D cI cB h hh hq hl hw n (((k : Nat) : Int)) (by omega) (by omega)) gX1_how_X1_has rfl rfl rfl (by decide +kernel) ⟨Nat.le_of_ble_eq_true rfl, Nat.le_of_ble_eq_true rfl⟩ 0 rfl rfl [0] rfl rfl (Nat.le_of_ble_eq_true rfl) rfl dX1_how_2 ?_
  refine jw_ifb_eq (pc := 5) (tgt := 17) C dX1_how_5 (by decide) (fun c_5 => ?_) (fun c_5 => ?_)
  · exfalso; omega
  · -- 5 f
    refine jw_aload_n (pc := 8) C dX1_how_8 0 rfl ?_
    refine jw_get (pc := 9) C hi_X1_how_X1 0 rfl rfl 3 (by decide) fl_X1_how_21 rfl rfl dX1_how_9 ?_
    refine jw_iload_n (pc := 12) C dX1_how_12 1 rfl ?_
    refine jw_iald (pc := 13) C (f := HW) 1 k rfl rfl (by omega) (by decide) dX1_how_13 ?_
    refine jw_goto (pc := 14) (tgt := 18) C dX1_how_14 (by decide) ?_
    exact jw_iretR (pc := 18) C E dX1_how_18 rfl
theorem fl_X1_lastLoud_24 : Cond.fieldLink RX1 24 "GongTide$Heard" "size" "I" ∈ wsX1_lastLoud := by decide +kernel
theorem hi_X1_lastLoud_X1 : ∀ w ∈ wsX10, w ∈ wsX1_lastLoud := fun w h => List.mem_cons_of_mem _ (List.mem_append_right _ h)
def rmX1_lastLoud : Room := { frames := 3, cells := 0, slots := 0, locals := 64 }
set_option maxHeartbeats 4000000 in
set_option maxRecDepth 100000 in
theorem con_X1_lastLoud (lau : Launch) (D : va_G) (cI cB : ClassId) (h : Nat) (hh : Nat) (hq : Nat) (hl : Nat) (hw : Nat) (n : Nat) (HL : Nat → Int) (h2 : n ≤ 6) (h0 : 0 < n) : jMR lau yX1_lastLoud wsX1_lastLoud rmX1_lastLoud D cI cB [.ref h] [oH h hh hq hl hw ((n : Nat) : Int), aI cI hl 6 HL] (.int (jI (HL (n - 1)))) := by
  refine jMR.of (own := RX1) (cc := cX1_lastLoud) (maxL := 1) (ret := (some .int)) rfl (by decide) rfl (Nat.le_of_ble_eq_true rfl) ?_
  intro X C E
  refine jw_lv (lv' := [(0, .ref h)]) [0] rfl ?_
  refine jw_aload_n (pc := 0) C dX1_lastLoud_0 0 rfl ?_
  refine jw_aload_n (pc := 1) C dX1_lastLoud_1 0 rfl ?_
  refine jw_get (pc := 2) C hi_X1_lastLoud_X1 0 rfl rfl 4 (by decide) fl_X1_lastLoud_24 rfl rfl dX1_lastLoud_2 ?_
  refine jw_iconst (pc := 5) C dX1_lastLoud_5 ?_
  refine jw_isub (pc := 6) (z := ((n - 1 : Nat) : Int)) C dX1_lastLoud_6 (by omega) ?_
  refine jw_callRV (pc := 7) C [.int (jI (((n - 1) : Nat) : Int))] [] 1 (con_X1_loud lau D cI cB h hh hq hl hw n HL (n - 1) (by omega) (by omega)) gX1_lastLoud_X1_loud rfl rfl rfl (by decide +kernel) ⟨Nat.le_of_ble_eq_true rfl, Nat.le_of_ble_eq_true rfl⟩ 0 rfl rfl [0, 1] rfl rfl (Nat.le_of_ble_eq_true rfl) rfl dX1_lastLoud_7 ?_
  exact jw_iretR (pc := 10) C E dX1_lastLoud_10 rfl
theorem fl_X1_add_9 : Cond.fieldLink RX1 9 "GongTide$Heard" "houses" "[I" ∈ wsX1_add := by decide +kernel
theorem fl_X1_add_15 : Cond.fieldLink RX1 15 "GongTide$Heard" "hours" "[I" ∈ wsX1_add := by decide +kernel
theorem fl_X1_add_18 : Cond.fieldLink RX1 18 "GongTide$Heard" "louds" "[I" ∈ wsX1_add := by decide +kernel
theorem fl_X1_add_21 : Cond.fieldLink RX1 21 "GongTide$Heard" "hows" "[I" ∈ wsX1_add := by decide +kernel
theorem fl_X1_add_24 : Cond.fieldLink RX1 24 "GongTide$Heard" "size" "I" ∈ wsX1_add := by decide +kernel
theorem hi_X1_add_X1 : ∀ w ∈ wsX10, w ∈ wsX1_add := fun w h => List.mem_cons_of_mem _ (List.mem_append_right _ h)
def rmX1_add : Room := { frames := 0, cells := 0, slots := 0, locals := 0 }
set_option maxHeartbeats 4000000 in
set_option maxRecDepth 100000 in
theorem con_X1_add (lau : Launch) (D : va_G) (cI cB : ClassId) (h : Nat) (hh : Nat) (hq : Nat) (hl : Nat) (hw : Nat) (n : Nat) (HH : Nat → Int) (HO : Nat → Int) (HL : Nat → Int) (HW : Nat → Int) (a1 : Int) (a2 : Int) (a3 : Int) (a4 : Int) (h2 : n < 6) : jMW (S := Unit) lau yX1_add wsX1_add rmX1_add D cI cB [.ref h, .int (jI a1), .int (jI a2), .int (jI a3), .int (jI a4)] [oH h hh hq hl hw ((n : Nat) : Int), aI cI hh 6 HH, aI cI hq 6 HO, aI cI hl 6 HL, aI cI hw 6 HW] (fun u => some (.int (jI 1))) (fun u => True) (fun u => [oH h hh hq hl hw ((n + 1 : Nat) : Int), aI cI hh 6 (va_up HH n a1), aI cI hq 6 (va_up HO n a2), aI cI hl 6 (va_up HL n a3), aI cI hw 6 (va_up HW n a4)]) := by
  refine jMW.of (own := RX1) (cc := cX1_add) (maxL := 5) (ret := (some .boolean)) rfl (by decide) rfl (Nat.le_of_ble_eq_true rfl) ?_
  intro X C E
  refine jw_lv (lv' := [(0, .ref h), (1, .int (jI a1)), (2, .int (jI a2)), (3, .int (jI a3)), (4, .int (jI a4))]) [0, 1, 2, 3, 4] rfl ?_
  refine jw_aload_n (pc := 0) C dX1_add_0 0 rfl ?_
  refine jw_get (pc := 1) C hi_X1_add_X1 0 rfl rfl 4 (by decide) fl_X1_add_24 rfl rfl dX1_add_1 ?_
  refine jw_bipush (pc := 4) C dX1_add_4 (by decide +kernel) ?_
  refine jw_icmp_lt (pc := 6) (tgt := 11) C dX1_add_6 (by decide) (by omega) (by omega) (fun c_6 => ?_) (fun c_6 => ?_)
  · -- 6 t
    refine jw_aload_n (pc := 11) C dX1_add_11 0 rfl ?_
    refine jw_get (pc := 12) C hi_X1_add_X1 0 rfl rfl 0 (by decide) fl_X1_add_9 rfl rfl dX1_add_12 ?_
    refine jw_aload_n (pc := 15) C dX1_add_15 0 rfl ?_
    refine jw_get (pc := 16) C hi_X1_add_X1 0 rfl rfl 4 (by decide) fl_X1_add_24 rfl rfl dX1_add_16 ?_
    refine jw_iload_n (pc := 19) C dX1_add_19 1 rfl ?_
    refine jw_iast (pc := 20) C (f := HH) 1 n rfl rfl (by omega) (by decide) (ws' := [oH h hh hq hl hw ((n : Nat) : Int), aI cI hh 6 (va_up HH n a1), aI cI hq 6 HO, aI cI hl 6 HL, aI cI hw 6 HW]) rfl dX1_add_20 ?_
    refine jw_aload_n (pc := 21) C dX1_add_21 0 rfl ?_
    refine jw_get (pc := 22) C hi_X1_add_X1 0 rfl rfl 1 (by decide) fl_X1_add_15 rfl rfl dX1_add_22 ?_
    refine jw_aload_n (pc := 25) C dX1_add_25 0 rfl ?_
    refine jw_get (pc := 26) C hi_X1_add_X1 0 rfl rfl 4 (by decide) fl_X1_add_24 rfl rfl dX1_add_26 ?_
    refine jw_iload_n (pc := 29) C dX1_add_29 2 rfl ?_
    refine jw_iast (pc := 30) C (f := HO) 2 n rfl rfl (by omega) (by decide) (ws' := [oH h hh hq hl hw ((n : Nat) : Int), aI cI hh 6 (va_up HH n a1), aI cI hq 6 (va_up HO n a2), aI cI hl 6 HL, aI cI hw 6 HW]) rfl dX1_add_30 ?_
    refine jw_aload_n (pc := 31) C dX1_add_31 0 rfl ?_
    refine jw_get (pc := 32) C hi_X1_add_X1 0 rfl rfl 2 (by decide) fl_X1_add_18 rfl rfl dX1_add_32 ?_
    refine jw_aload_n (pc := 35) C dX1_add_35 0 rfl ?_
    refine jw_get (pc := 36) C hi_X1_add_X1 0 rfl rfl 4 (by decide) fl_X1_add_24 rfl rfl dX1_add_36 ?_
    refine jw_iload_n (pc := 39) C dX1_add_39 3 rfl ?_
    refine jw_iast (pc := 40) C (f := HL) 3 n rfl rfl (by omega) (by decide) (ws' := [oH h hh hq hl hw ((n : Nat) : Int), aI cI hh 6 (va_up HH n a1), aI cI hq 6 (va_up HO n a2), aI cI hl 6 (va_up HL n a3), aI cI hw 6 HW]) rfl dX1_add_40 ?_
    refine jw_aload_n (pc := 41) C dX1_add_41 0 rfl ?_
    refine jw_get (pc := 42) C hi_X1_add_X1 0 rfl rfl 3 (by decide) fl_X1_add_21 rfl rfl dX1_add_42 ?_
    refine jw_aload_n (pc := 45) C dX1_add_45 0 rfl ?_
    refine jw_get (pc := 46) C hi_X1_add_X1 0 rfl rfl 4 (by decide) fl_X1_add_24 rfl rfl dX1_add_46 ?_
    refine jw_iload (pc := 49) C dX1_add_49 4 rfl ?_
    refine jw_iast (pc := 51) C (f := HW) 4 n rfl rfl (by omega) (by decide) (ws' := [oH h hh hq hl hw ((n : Nat) : Int), aI cI hh 6 (va_up HH n a1), aI cI hq 6 (va_up HO n a2), aI cI hl 6 (va_up HL n a3), aI cI hw 6 (va_up HW n a4)]) rfl dX1_add_51 ?_
    refine jw_aload_n (pc := 52) C dX1_add_52 0 rfl ?_
    refine jw_dup (pc := 53) C dX1_add_53 rfl ?_
    refine jw_get (pc := 54) C hi_X1_add_X1 0 rfl rfl 4 (by decide) fl_X1_add_24 rfl rfl dX1_add_54 ?_
    refine jw_iconst (pc := 57) C dX1_add_57 ?_
    refine jw_iadd (pc := 58) (z := ((n + 1 : Nat) : Int)) C dX1_add_58 (by omega) ?_
    refine jw_put (pc := 59) (ty := .int) (ws' := [oH h hh hq hl hw ((n + 1 : Nat) : Int), aI cI hh 6 (va_up HH n a1), aI cI hq 6 (va_up HO n a2), aI cI hl 6 (va_up HL n a3), aI cI hw 6 (va_up HW n a4)]) C hi_X1_add_X1 tyX1 tyX1_ok nmX1 0 rfl rfl 4 (by decide) fl_X1_add_24 rfl rfl (by decide +kernel) rfl rfl (Nat.le_of_ble_eq_true rfl) rfl dX1_add_59 ?_
    refine jw_iconst (pc := 62) C dX1_add_62 ?_
    exact jw_zretW (pc := 63) C E dX1_add_63 (()) rfl trivial rfl rfl
  · exfalso; omega
set_option maxHeartbeats 4000000 in
set_option maxRecDepth 100000 in
theorem con_X1_addF (lau : Launch) (D : va_G) (cI cB : ClassId) (h : Nat) (hh : Nat) (hq : Nat) (hl : Nat) (hw : Nat) (n : Nat) (HH : Nat → Int) (HO : Nat → Int) (HL : Nat → Int) (HW : Nat → Int) (a1 : Int) (a2 : Int) (a3 : Int) (a4 : Int) (h2 : n = 6) : jMW (S := Unit) lau yX1_add wsX1_add rmX1_add D cI cB [.ref h, .int (jI a1), .int (jI a2), .int (jI a3), .int (jI a4)] [oH h hh hq hl hw ((n : Nat) : Int), aI cI hh 6 HH, aI cI hq 6 HO, aI cI hl 6 HL, aI cI hw 6 HW] (fun u => some (.int (jI 0))) (fun u => True) (fun u => [oH h hh hq hl hw ((n : Nat) : Int), aI cI hh 6 HH, aI cI hq 6 HO, aI cI hl 6 HL, aI cI hw 6 HW]) := by
  refine jMW.of (own := RX1) (cc := cX1_add) (maxL := 5) (ret := (some .boolean)) rfl (by decide) rfl (Nat.le_of_ble_eq_true rfl) ?_
  intro X C E
  refine jw_lv (lv' := [(0, .ref h), (1, .int (jI a1)), (2, .int (jI a2)), (3, .int (jI a3)), (4, .int (jI a4))]) [0, 1, 2, 3, 4] rfl ?_
  refine jw_aload_n (pc := 0) C dX1_add_0 0 rfl ?_
  refine jw_get (pc := 1) C hi_X1_add_X1 0 rfl rfl 4 (by decide) fl_X1_add_24 rfl rfl dX1_add_1 ?_
  refine jw_bipush (pc := 4) C dX1_add_4 (by decide +kernel) ?_
  refine jw_icmp_lt (pc := 6) (tgt := 11) C dX1_add_6 (by decide) (by omega) (by omega) (fun c_6 => ?_) (fun c_6 => ?_)
  · exfalso; omega
  · -- 6 f
    refine jw_iconst (pc := 9) C dX1_add_9 ?_
    exact jw_zretW (pc := 10) C E dX1_add_10 (()) rfl trivial rfl rfl
theorem fl_X1_copyFrom_9 : Cond.fieldLink RX1 9 "GongTide$Heard" "houses" "[I" ∈ wsX1_copyFrom := by decide +kernel
theorem fl_X1_copyFrom_15 : Cond.fieldLink RX1 15 "GongTide$Heard" "hours" "[I" ∈ wsX1_copyFrom := by decide +kernel
theorem fl_X1_copyFrom_18 : Cond.fieldLink RX1 18 "GongTide$Heard" "louds" "[I" ∈ wsX1_copyFrom := by decide +kernel
theorem fl_X1_copyFrom_21 : Cond.fieldLink RX1 21 "GongTide$Heard" "hows" "[I" ∈ wsX1_copyFrom := by decide +kernel
theorem fl_X1_copyFrom_24 : Cond.fieldLink RX1 24 "GongTide$Heard" "size" "I" ∈ wsX1_copyFrom := by decide +kernel
theorem hi_X1_copyFrom_X1 : ∀ w ∈ wsX10, w ∈ wsX1_copyFrom := fun w h => List.mem_cons_of_mem _ (List.mem_append_right _ h)
def rmX1_copyFrom : Room := { frames := 0, cells := 0, slots := 0, locals := 0 }
set_option maxHeartbeats 4000000 in
set_option maxRecDepth 100000 in
theorem con_X1_copyFrom (lau : Launch) (D : va_G) (cI cB : ClassId) (h : Nat) (hh : Nat) (hq : Nat) (hl : Nat) (hw : Nat) (n : Int) (HH : Nat → Int) (HO : Nat → Int) (HL : Nat → Int) (HW : Nat → Int) (h2 : Nat) (hh2 : Nat) (hq2 : Nat) (hl2 : Nat) (hw2 : Nat) (n2 : Nat) (HH2 : Nat → Int) (HO2 : Nat → Int) (HL2 : Nat → Int) (HW2 : Nat → Int)  : jMW (S := Unit) lau yX1_copyFrom wsX1_copyFrom rmX1_copyFrom D cI cB [.ref h, .ref h2] [oH h hh hq hl hw n, aI cI hh 6 HH, aI cI hq 6 HO, aI cI hl 6 HL, aI cI hw 6 HW, oH h2 hh2 hq2 hl2 hw2 ((n2 : Nat) : Int), aI cI hh2 6 HH2, aI cI hq2 6 HO2, aI cI hl2 6 HL2, aI cI hw2 6 HW2] (fun u => none) (fun u => True) (fun u => [oH h hh hq hl hw ((n2 : Nat) : Int), aI cI hh 6 HH2, aI cI hq 6 HO2, aI cI hl 6 HL2, aI cI hw 6 HW2, oH h2 hh2 hq2 hl2 hw2 ((n2 : Nat) : Int), aI cI hh2 6 HH2, aI cI hq2 6 HO2, aI cI hl2 6 HL2, aI cI hw2 6 HW2]) := by
  refine jMW.of (own := RX1) (cc := cX1_copyFrom) (maxL := 3) (ret := none) rfl (by decide) rfl (Nat.le_of_ble_eq_true rfl) ?_
  intro X C E
  refine jw_lv (lv' := [(0, .ref h), (1, .ref h2)]) [0, 1] rfl ?_
  refine jw_aload_n (pc := 0) C dX1_copyFrom_0 0 rfl ?_
  refine jw_aload_n (pc := 1) C dX1_copyFrom_1 1 rfl ?_
  refine jw_get (pc := 2) C hi_X1_copyFrom_X1 5 rfl rfl 4 (by decide) fl_X1_copyFrom_24 rfl rfl dX1_copyFrom_2 ?_
  refine jw_put (pc := 5) (ty := .int) (ws' := [oH h hh hq hl hw ((n2 : Nat) : Int), aI cI hh 6 HH, aI cI hq 6 HO, aI cI hl 6 HL, aI cI hw 6 HW, oH h2 hh2 hq2 hl2 hw2 ((n2 : Nat) : Int), aI cI hh2 6 HH2, aI cI hq2 6 HO2, aI cI hl2 6 HL2, aI cI hw2 6 HW2]) C hi_X1_copyFrom_X1 tyX1 tyX1_ok nmX1 0 rfl rfl 4 (by decide) fl_X1_copyFrom_24 rfl rfl (by decide +kernel) rfl rfl (Nat.le_of_ble_eq_true rfl) rfl dX1_copyFrom_5 ?_
  refine jw_iconst (pc := 8) C dX1_copyFrom_8 ?_
  refine jw_istore_n (pc := 9) (lv' := [(2, .int (jI 0)), (0, .ref h), (1, .ref h2)]) C dX1_copyFrom_9 (by decide) rfl ?_
  have lp_10_1 : ∀ (fu : Nat) (i : Nat) (c0 : Nat → Int) (c1 : Nat → Int) (c2 : Nat → Int) (c3 : Nat → Int), (i ≤ 6) → (∀ j, j < i → c0 j = HH2 j) → (∀ j, j < i → c1 j = HO2 j) → (∀ j, j < i → c2 j = HL2 j) → (∀ j, j < i → c3 j = HW2 j) → 6 - i < fu → jW X 10 [(0, .ref h), (1, .ref h2), (2, .int (jI ((i : Nat) : Int)))] [] [oH h hh hq hl hw ((n2 : Nat) : Int), aI cI hh 6 c0, aI cI hq 6 c1, aI cI hl 6 c2, aI cI hw 6 c3, oH h2 hh2 hq2 hl2 hw2 ((n2 : Nat) : Int), aI cI hh2 6 HH2, aI cI hq2 6 HO2, aI cI hl2 6 HL2, aI cI hw2 6 HW2] := by
    intro fu
    induction fu with
    | zero => intro i c0 c1 c2 c3 hi hc0 hc1 hc2 hc3 hm; exact absurd hm (Nat.not_lt_zero _)
    | succ fu ih_2 =>
      intro i c0 c1 c2 c3 hi hc0 hc1 hc2 hc3 hm
      refine jw_iload_n (pc := 10) C dX1_copyFrom_10 2 rfl ?_
      refine jw_bipush (pc := 11) C dX1_copyFrom_11 (by decide +kernel) ?_
      refine jw_icmp_ge (pc := 13) (tgt := 70) C dX1_copyFrom_13 (by decide) (by omega) (by omega) (fun c_13 => ?_) (fun c_13 => ?_)
      · -- 13 t
        refine jw_arr (f := c0) (g := HH2) (ws' := [oH h hh hq hl hw ((n2 : Nat) : Int), aI cI hh 6 HH2, aI cI hq 6 c1, aI cI hl 6 c2, aI cI hw 6 c3, oH h2 hh2 hq2 hl2 hw2 ((n2 : Nat) : Int), aI cI hh2 6 HH2, aI cI hq2 6 HO2, aI cI hl2 6 HL2, aI cI hw2 6 HW2]) 1 rfl (by exact fun j hj => hc0 j (by omega)) rfl ?_
        refine jw_arr (f := c1) (g := HO2) (ws' := [oH h hh hq hl hw ((n2 : Nat) : Int), aI cI hh 6 HH2, aI cI hq 6 HO2, aI cI hl 6 c2, aI cI hw 6 c3, oH h2 hh2 hq2 hl2 hw2 ((n2 : Nat) : Int), aI cI hh2 6 HH2, aI cI hq2 6 HO2, aI cI hl2 6 HL2, aI cI hw2 6 HW2]) 2 rfl (by exact fun j hj => hc1 j (by omega)) rfl ?_
        refine jw_arr (f := c2) (g := HL2) (ws' := [oH h hh hq hl hw ((n2 : Nat) : Int), aI cI hh 6 HH2, aI cI hq 6 HO2, aI cI hl 6 HL2, aI cI hw 6 c3, oH h2 hh2 hq2 hl2 hw2 ((n2 : Nat) : Int), aI cI hh2 6 HH2, aI cI hq2 6 HO2, aI cI hl2 6 HL2, aI cI hw2 6 HW2]) 3 rfl (by exact fun j hj => hc2 j (by omega)) rfl ?_
        refine jw_arr (f := c3) (g := HW2) (ws' := [oH h hh hq hl hw ((n2 : Nat) : Int), aI cI hh 6 HH2, aI cI hq 6 HO2, aI cI hl 6 HL2, aI cI hw 6 HW2, oH h2 hh2 hq2 hl2 hw2 ((n2 : Nat) : Int), aI cI hh2 6 HH2, aI cI hq2 6 HO2, aI cI hl2 6 HL2, aI cI hw2 6 HW2]) 4 rfl (by exact fun j hj => hc3 j (by omega)) rfl ?_
        exact jw_vretW (pc := 70) C E dX1_copyFrom_70 (()) rfl trivial rfl
      · -- 13 f
        refine jw_aload_n (pc := 16) C dX1_copyFrom_16 0 rfl ?_
        refine jw_get (pc := 17) C hi_X1_copyFrom_X1 0 rfl rfl 0 (by decide) fl_X1_copyFrom_9 rfl rfl dX1_copyFrom_17 ?_
        refine jw_iload_n (pc := 20) C dX1_copyFrom_20 2 rfl ?_
        refine jw_aload_n (pc := 21) C dX1_copyFrom_21 1 rfl ?_
        refine jw_get (pc := 22) C hi_X1_copyFrom_X1 5 rfl rfl 0 (by decide) fl_X1_copyFrom_9 rfl rfl dX1_copyFrom_22 ?_
        refine jw_iload_n (pc := 25) C dX1_copyFrom_25 2 rfl ?_
        refine jw_iald (pc := 26) C (f := HH2) 6 i rfl rfl (by omega) (by decide) dX1_copyFrom_26 ?_
        refine jw_iast (pc := 27) C (f := c0) 1 i rfl rfl (by omega) (by decide) (ws' := [oH h hh hq hl hw ((n2 : Nat) : Int), aI cI hh 6 (va_up c0 i (HH2 i)), aI cI hq 6 c1, aI cI hl 6 c2, aI cI hw 6 c3, oH h2 hh2 hq2 hl2 hw2 ((n2 : Nat) : Int), aI cI hh2 6 HH2, aI cI hq2 6 HO2, aI cI hl2 6 HL2, aI cI hw2 6 HW2]) rfl dX1_copyFrom_27 ?_
        refine jw_aload_n (pc := 28) C dX1_copyFrom_28 0 rfl ?_
        refine jw_get (pc := 29) C hi_X1_copyFrom_X1 0 rfl rfl 1 (by decide) fl_X1_copyFrom_15 rfl rfl dX1_copyFrom_29 ?_
        refine jw_iload_n (pc := 32) C dX1_copyFrom_32 2 rfl ?_
        refine jw_aload_n (pc := 33) C dX1_copyFrom_33 1 rfl ?_
        refine jw_get (pc := 34) C hi_X1_copyFrom_X1 5 rfl rfl 1 (by decide) fl_X1_copyFrom_15 rfl rfl dX1_copyFrom_34 ?_
        refine jw_iload_n (pc := 37) C dX1_copyFrom_37 2 rfl ?_
        refine jw_iald (pc := 38) C (f := HO2) 7 i rfl rfl (by omega) (by decide) dX1_copyFrom_38 ?_
        refine jw_iast (pc := 39) C (f := c1) 2 i rfl rfl (by omega) (by decide) (ws' := [oH h hh hq hl hw ((n2 : Nat) : Int), aI cI hh 6 (va_up c0 i (HH2 i)), aI cI hq 6 (va_up c1 i (HO2 i)), aI cI hl 6 c2, aI cI hw 6 c3, oH h2 hh2 hq2 hl2 hw2 ((n2 : Nat) : Int), aI cI hh2 6 HH2, aI cI hq2 6 HO2, aI cI hl2 6 HL2, aI cI hw2 6 HW2]) rfl dX1_copyFrom_39 ?_
        refine jw_aload_n (pc := 40) C dX1_copyFrom_40 0 rfl ?_
        refine jw_get (pc := 41) C hi_X1_copyFrom_X1 0 rfl rfl 2 (by decide) fl_X1_copyFrom_18 rfl rfl dX1_copyFrom_41 ?_
        refine jw_iload_n (pc := 44) C dX1_copyFrom_44 2 rfl ?_
        refine jw_aload_n (pc := 45) C dX1_copyFrom_45 1 rfl ?_
        refine jw_get (pc := 46) C hi_X1_copyFrom_X1 5 rfl rfl 2 (by decide) fl_X1_copyFrom_18 rfl rfl dX1_copyFrom_46 ?_
        refine jw_iload_n (pc := 49) C dX1_copyFrom_49 2 rfl ?_
        refine jw_iald (pc := 50) C (f := HL2) 8 i rfl rfl (by omega) (by decide) dX1_copyFrom_50 ?_
        refine jw_iast (pc := 51) C (f := c2) 3 i rfl rfl (by omega) (by decide) (ws' := [oH h hh hq hl hw ((n2 : Nat) : Int), aI cI hh 6 (va_up c0 i (HH2 i)), aI cI hq 6 (va_up c1 i (HO2 i)), aI cI hl 6 (va_up c2 i (HL2 i)), aI cI hw 6 c3, oH h2 hh2 hq2 hl2 hw2 ((n2 : Nat) : Int), aI cI hh2 6 HH2, aI cI hq2 6 HO2, aI cI hl2 6 HL2, aI cI hw2 6 HW2]) rfl dX1_copyFrom_51 ?_
        refine jw_aload_n (pc := 52) C dX1_copyFrom_52 0 rfl ?_
        refine jw_get (pc := 53) C hi_X1_copyFrom_X1 0 rfl rfl 3 (by decide) fl_X1_copyFrom_21 rfl rfl dX1_copyFrom_53 ?_
        refine jw_iload_n (pc := 56) C dX1_copyFrom_56 2 rfl ?_
        refine jw_aload_n (pc := 57) C dX1_copyFrom_57 1 rfl ?_
        refine jw_get (pc := 58) C hi_X1_copyFrom_X1 5 rfl rfl 3 (by decide) fl_X1_copyFrom_21 rfl rfl dX1_copyFrom_58 ?_
        refine jw_iload_n (pc := 61) C dX1_copyFrom_61 2 rfl ?_
        refine jw_iald (pc := 62) C (f := HW2) 9 i rfl rfl (by omega) (by decide) dX1_copyFrom_62 ?_
        refine jw_iast (pc := 63) C (f := c3) 4 i rfl rfl (by omega) (by decide) (ws' := [oH h hh hq hl hw ((n2 : Nat) : Int), aI cI hh 6 (va_up c0 i (HH2 i)), aI cI hq 6 (va_up c1 i (HO2 i)), aI cI hl 6 (va_up c2 i (HL2 i)), aI cI hw 6 (va_up c3 i (HW2 i)), oH h2 hh2 hq2 hl2 hw2 ((n2 : Nat) : Int), aI cI hh2 6 HH2, aI cI hq2 6 HO2, aI cI hl2 6 HL2, aI cI hw2 6 HW2]) rfl dX1_copyFrom_63 ?_
        refine jw_iinc (pc := 64) (z := ((i + 1 : Nat) : Int)) (lv' := [(2, .int (jI ((i + 1 : Nat) : Int))), (0, .ref h), (1, .ref h2)]) C dX1_copyFrom_64 2 rfl (by omega) (by decide) rfl ?_
        refine jw_goto (pc := 67) (tgt := 10) C dX1_copyFrom_67 (by decide) ?_
        refine jw_lv [1, 2, 0] rfl ?_
        exact ih_2 (i + 1) (va_up c0 i (HH2 i)) (va_up c1 i (HO2 i)) (va_up c2 i (HL2 i)) (va_up c3 i (HW2 i)) (by omega) (sp_cpy_step (n := 6) rfl hc0) (sp_cpy_step (n := 6) rfl hc1) (sp_cpy_step (n := 6) rfl hc2) (sp_cpy_step (n := 6) rfl hc3) (by omega)
  refine jw_lv [1, 2, 0] rfl ?_
  exact lp_10_1 ((6 - 0) + 1) 0 HH HO HL HW (by omega) (fun j hj => absurd hj (Nat.not_lt_zero _)) (fun j hj => absurd hj (Nat.not_lt_zero _)) (fun j hj => absurd hj (Nat.not_lt_zero _)) (fun j hj => absurd hj (Nat.not_lt_zero _)) (Nat.lt_succ_self _)
theorem fl_X0_level_9 : Cond.fieldLink RX0 9 "GongTide$Affairs" "levels" "[I" ∈ wsX0_level := by decide +kernel
theorem hi_X0_level_X0 : ∀ w ∈ wsX00, w ∈ wsX0_level := fun w h => List.mem_cons_of_mem _ (List.mem_append_right _ h)
theorem ni_X0_level_X5_isWithin : Cond.initialized RX5 ∈ wsX0_level := by decide +kernel
theorem ns_X0_level_X5_isWithin : Cond.static yX5_isWithin ∈ wsX0_level := by decide +kernel
def rmX0_level : Room := { frames := 1, cells := 0, slots := 0, locals := 22 }
set_option maxHeartbeats 4000000 in
set_option maxRecDepth 100000 in
theorem con_X0_level (lau : Launch) (D : va_G) (cI cB : ClassId) (a : Nat) (le : Nat) (s : Nat) (h : Nat) (ch : Int) (V : Nat → Int) (k : Nat) (hk : k < 5) : jMR lau yX0_level wsX0_level rmX0_level D cI cB [.ref a, .int (jI ((k : Nat) : Int))] [oA a le s h ch, aI cI le 5 V] (.int (jI (V k))) := by
  refine jMR.of (own := RX0) (cc := cX0_level) (maxL := 2) (ret := (some .int)) rfl (by decide) rfl (Nat.le_of_ble_eq_true rfl) ?_
  intro X C E
  refine jw_lv (lv' := [(0, .ref a), (1, .int (jI ((k : Nat) : Int)))]) [0, 1] rfl ?_
  refine jw_iload_n (pc := 0) C dX0_level_0 1 rfl ?_
  refine jw_iconst (pc := 1) C dX0_level_1 ?_
  refine jw_iconst (pc := 2) C dX0_level_2 ?_
  refine jw_callRN (pc := 3) C [.int (jI ((((k : Nat) : Int)))), .int (jI 0), .int (jI 4)] [] 3 (con_X5_isWithin lau D cI cB (((k : Nat) : Int)) 0 4 (by omega) (by omega) (by omega)) gX0_level_X5_isWithin_n39 rfl rfl rfl (fun U h => h.2.2.2.2.2.2.2.2.1) ni_X0_level_X5_isWithin ns_X0_level_X5_isWithin (by decide +kernel) ⟨Nat.le_of_ble_eq_true rfl, Nat.le_of_ble_eq_true rfl⟩ [] rfl rfl (Nat.le_of_ble_eq_true rfl) rfl dX0_level_3 ?_
  refine jw_ifb_eq (pc := 6) (tgt := 18) C dX0_level_6 (by decide) (fun c_6 => ?_) (fun c_6 => ?_)
  · exfalso; omega
  · -- 6 f
    refine jw_aload_n (pc := 9) C dX0_level_9 0 rfl ?_
    refine jw_get (pc := 10) C hi_X0_level_X0 0 rfl rfl 0 (by decide) fl_X0_level_9 rfl rfl dX0_level_10 ?_
    refine jw_iload_n (pc := 13) C dX0_level_13 1 rfl ?_
    refine jw_iald (pc := 14) C (f := V) 1 k rfl rfl (by omega) (by decide) dX0_level_14 ?_
    refine jw_goto (pc := 15) (tgt := 19) C dX0_level_15 (by decide) ?_
    exact jw_iretR (pc := 19) C E dX0_level_19 rfl
theorem fl_X0_setLevel_9 : Cond.fieldLink RX0 9 "GongTide$Affairs" "levels" "[I" ∈ wsX0_setLevel := by decide +kernel
theorem hi_X0_setLevel_X0 : ∀ w ∈ wsX00, w ∈ wsX0_setLevel := fun w h => List.mem_cons_of_mem _ (List.mem_append_right _ h)
theorem ni_X0_setLevel_X5_isWithin : Cond.initialized RX5 ∈ wsX0_setLevel := by decide +kernel
theorem ns_X0_setLevel_X5_isWithin : Cond.static yX5_isWithin ∈ wsX0_setLevel := by decide +kernel
def rmX0_setLevel : Room := { frames := 1, cells := 0, slots := 0, locals := 22 }
set_option maxHeartbeats 4000000 in
set_option maxRecDepth 100000 in
theorem con_X0_setLevel (lau : Launch) (D : va_G) (cI cB : ClassId) (a : Nat) (le : Nat) (s : Nat) (h : Nat) (ch : Int) (V : Nat → Int) (k : Nat) (v : Int) (hk : k < 5) : jMW (S := Unit) lau yX0_setLevel wsX0_setLevel rmX0_setLevel D cI cB [.ref a, .int (jI ((k : Nat) : Int)), .int (jI v)] [oA a le s h ch, aI cI le 5 V] (fun u => none) (fun u => True) (fun u => [oA a le s h ch, aI cI le 5 (va_up V k v)]) := by
  refine jMW.of (own := RX0) (cc := cX0_setLevel) (maxL := 3) (ret := none) rfl (by decide) rfl (Nat.le_of_ble_eq_true rfl) ?_
  intro X C E
  refine jw_lv (lv' := [(0, .ref a), (1, .int (jI ((k : Nat) : Int))), (2, .int (jI v))]) [0, 1, 2] rfl ?_
  refine jw_iload_n (pc := 0) C dX0_setLevel_0 1 rfl ?_
  refine jw_iconst (pc := 1) C dX0_setLevel_1 ?_
  refine jw_iconst (pc := 2) C dX0_setLevel_2 ?_
  refine jw_callRN (pc := 3) C [.int (jI ((((k : Nat) : Int)))), .int (jI 0), .int (jI 4)] [] 3 (con_X5_isWithin lau D cI cB (((k : Nat) : Int)) 0 4 (by omega) (by omega) (by omega)) gX0_setLevel_X5_isWithin_n39 rfl rfl rfl (fun U h => h.2.2.2.2.2.2.2.2.1) ni_X0_setLevel_X5_isWithin ns_X0_setLevel_X5_isWithin (by decide +kernel) ⟨Nat.le_of_ble_eq_true rfl, Nat.le_of_ble_eq_true rfl⟩ [] rfl rfl (Nat.le_of_ble_eq_true rfl) rfl dX0_setLevel_3 ?_
  refine jw_ifb_eq (pc := 6) (tgt := 16) C dX0_setLevel_6 (by decide) (fun c_6 => ?_) (fun c_6 => ?_)
  · exfalso; omega
  · -- 6 f
    refine jw_aload_n (pc := 9) C dX0_setLevel_9 0 rfl ?_
    refine jw_get (pc := 10) C hi_X0_setLevel_X0 0 rfl rfl 0 (by decide) fl_X0_setLevel_9 rfl rfl dX0_setLevel_10 ?_
    refine jw_iload_n (pc := 13) C dX0_setLevel_13 1 rfl ?_
    refine jw_iload_n (pc := 14) C dX0_setLevel_14 2 rfl ?_
    refine jw_iast (pc := 15) C (f := V) 1 k rfl rfl (by omega) (by decide) (ws' := [oA a le s h ch, aI cI le 5 (va_up V k v)]) rfl dX0_setLevel_15 ?_
    exact jw_vretW (pc := 16) C E dX0_setLevel_16 (()) rfl trivial rfl
theorem fl_X0_clear_18 : Cond.fieldLink RX0 18 "GongTide$Affairs" "strokes" "LGongTide$Strokes;" ∈ wsX0_clear := by decide +kernel
theorem fl_X0_clear_25 : Cond.fieldLink RX0 25 "GongTide$Affairs" "heard" "LGongTide$Heard;" ∈ wsX0_clear := by decide +kernel
theorem fl_X0_clear_35 : Cond.fieldLink RX0 35 "GongTide$Affairs" "changes" "I" ∈ wsX0_clear := by decide +kernel
theorem hi_X0_clear_X0 : ∀ w ∈ wsX00, w ∈ wsX0_clear := fun w h => List.mem_cons_of_mem _ (List.mem_append_left _ (List.mem_append_left _ (List.mem_append_right _ h)))
def rmX0_clear : Room := { frames := 1, cells := 0, slots := 0, locals := 21 }
set_option maxHeartbeats 4000000 in
set_option maxRecDepth 100000 in
theorem con_X0_clear (lau : Launch) (D : va_G) (cI cB : ClassId) (a : Nat) (le : Nat) (s : Nat) (h : Nat) (ch : Int) (hr : Nat) (lo : Nat) (n : Nat) (hh : Nat) (hq : Nat) (hl : Nat) (hw : Nat) (m : Nat)  : jMW (S := Unit) lau yX0_clear wsX0_clear rmX0_clear D cI cB [.ref a] [oA a le s h ch, oS s hr lo ((n : Nat) : Int), oH h hh hq hl hw ((m : Nat) : Int)] (fun u => none) (fun u => True) (fun u => [oA a le s h 0, oS s hr lo ((0 : Nat) : Int), oH h hh hq hl hw ((0 : Nat) : Int)]) := by
  refine jMW.of (own := RX0) (cc := cX0_clear) (maxL := 1) (ret := none) rfl (by decide) rfl (Nat.le_of_ble_eq_true rfl) ?_
  intro X C E
  refine jw_lv (lv' := [(0, .ref a)]) [0] rfl ?_
  refine jw_aload_n (pc := 0) C dX0_clear_0 0 rfl ?_
  refine jw_get (pc := 1) C hi_X0_clear_X0 0 rfl rfl 1 (by decide) fl_X0_clear_18 rfl rfl dX0_clear_1 ?_
  refine jw_callWV (pc := 4) C [] [] 0 (con_X3_clear lau D cI cB s hr lo (((n : Nat) : Int)) ) gX0_clear_X3_clear rfl rfl rfl (by decide +kernel) ⟨Nat.le_of_ble_eq_true rfl, Nat.le_of_ble_eq_true rfl⟩ 1 rfl rfl [1] [0, 2] [0, 2, 1] (wr := [oA a le s h ch, oH h hh hq hl hw ((m : Nat) : Int)]) rfl rfl (by decide) (by decide) (fun _ => rfl) (wN := fun u_4_1 => [oA a le s h ch, oS s hr lo ((0 : Nat) : Int), oH h hh hq hl hw ((m : Nat) : Int)]) (fun _ => rfl) (stN := fun u_4_1 => []) (fun _ => rfl) rfl (Nat.le_of_ble_eq_true rfl) rfl dX0_clear_4 (fun u_4_1 hu_4_1 => ?_)
  refine jw_aload_n (pc := 7) C dX0_clear_7 0 rfl ?_
  refine jw_get (pc := 8) C hi_X0_clear_X0 0 rfl rfl 2 (by decide) fl_X0_clear_25 rfl rfl dX0_clear_8 ?_
  refine jw_callWV (pc := 11) C [] [] 0 (con_X1_clear lau D cI cB h hh hq hl hw m ) gX0_clear_X1_clear rfl rfl rfl (by decide +kernel) ⟨Nat.le_of_ble_eq_true rfl, Nat.le_of_ble_eq_true rfl⟩ 2 rfl rfl [2] [0, 1] [0, 1, 2] (wr := [oA a le s h ch, oS s hr lo ((0 : Nat) : Int)]) rfl rfl (by decide) (by decide) (fun _ => rfl) (wN := fun u_11_2 => [oA a le s h ch, oS s hr lo ((0 : Nat) : Int), oH h hh hq hl hw ((0 : Nat) : Int)]) (fun _ => rfl) (stN := fun u_11_2 => [.int (jI ((m : Nat) : Int))]) (fun _ => rfl) rfl (Nat.le_of_ble_eq_true rfl) rfl dX0_clear_11 (fun u_11_2 hu_11_2 => ?_)
  refine jw_pop (pc := 14) C dX0_clear_14 rfl ?_
  refine jw_aload_n (pc := 15) C dX0_clear_15 0 rfl ?_
  refine jw_iconst (pc := 16) C dX0_clear_16 ?_
  refine jw_put (pc := 17) (ty := .int) (ws' := [oA a le s h 0, oS s hr lo ((0 : Nat) : Int), oH h hh hq hl hw ((0 : Nat) : Int)]) C hi_X0_clear_X0 tyX0 tyX0_ok nmX0 0 rfl rfl 3 (by decide) fl_X0_clear_35 rfl rfl (by decide +kernel) rfl rfl (Nat.le_of_ble_eq_true rfl) rfl dX0_clear_17 ?_
  exact jw_vretW (pc := 20) C E dX0_clear_20 (()) rfl trivial rfl
theorem fl_X0_copyFrom_9 : Cond.fieldLink RX0 9 "GongTide$Affairs" "levels" "[I" ∈ wsX0_copyFrom := by decide +kernel
theorem fl_X0_copyFrom_18 : Cond.fieldLink RX0 18 "GongTide$Affairs" "strokes" "LGongTide$Strokes;" ∈ wsX0_copyFrom := by decide +kernel
theorem fl_X0_copyFrom_25 : Cond.fieldLink RX0 25 "GongTide$Affairs" "heard" "LGongTide$Heard;" ∈ wsX0_copyFrom := by decide +kernel
theorem fl_X0_copyFrom_35 : Cond.fieldLink RX0 35 "GongTide$Affairs" "changes" "I" ∈ wsX0_copyFrom := by decide +kernel
theorem hi_X0_copyFrom_X0 : ∀ w ∈ wsX00, w ∈ wsX0_copyFrom := fun w h => List.mem_cons_of_mem _ (List.mem_append_left _ (List.mem_append_left _ (List.mem_append_right _ h)))
def rmX0_copyFrom : Room := { frames := 1, cells := 0, slots := 0, locals := 22 }
set_option maxHeartbeats 4000000 in
set_option maxRecDepth 100000 in
theorem con_X0_copyFrom (lau : Launch) (D : va_G) (cI cB : ClassId) (a : Nat) (le : Nat) (s : Nat) (h : Nat) (hr : Nat) (lo : Nat) (hh : Nat) (hq : Nat) (hl : Nat) (hw : Nat) (ch : Int) (V : Nat → Int) (n : Nat) (SH : Nat → Int) (SL : Nat → Int) (m : Nat) (HH : Nat → Int) (HO : Nat → Int) (HL : Nat → Int) (HW : Nat → Int) (a2 : Nat) (le2 : Nat) (s2 : Nat) (h2 : Nat) (hr2 : Nat) (lo2 : Nat) (hh2 : Nat) (hq2 : Nat) (hl2 : Nat) (hw2 : Nat) (ch2 : Int) (V2 : Nat → Int) (n2 : Nat) (SH2 : Nat → Int) (SL2 : Nat → Int) (m2 : Nat) (HH2 : Nat → Int) (HO2 : Nat → Int) (HL2 : Nat → Int) (HW2 : Nat → Int)  : jMW (S := Unit) lau yX0_copyFrom wsX0_copyFrom rmX0_copyFrom D cI cB [.ref a, .ref a2] [oA a le s h ch, aI cI le 5 V, oS s hr lo ((n : Nat) : Int), aI cI hr 6 SH, aI cI lo 6 SL, oH h hh hq hl hw ((m : Nat) : Int), aI cI hh 6 HH, aI cI hq 6 HO, aI cI hl 6 HL, aI cI hw 6 HW, oA a2 le2 s2 h2 ch2, aI cI le2 5 V2, oS s2 hr2 lo2 ((n2 : Nat) : Int), aI cI hr2 6 SH2, aI cI lo2 6 SL2, oH h2 hh2 hq2 hl2 hw2 ((m2 : Nat) : Int), aI cI hh2 6 HH2, aI cI hq2 6 HO2, aI cI hl2 6 HL2, aI cI hw2 6 HW2] (fun u => none) (fun u => True) (fun u => [oA a le s h ch2, aI cI le 5 V2, oS s hr lo ((n2 : Nat) : Int), aI cI hr 6 SH2, aI cI lo 6 SL2, oH h hh hq hl hw ((m2 : Nat) : Int), aI cI hh 6 HH2, aI cI hq 6 HO2, aI cI hl 6 HL2, aI cI hw 6 HW2, oA a2 le2 s2 h2 ch2, aI cI le2 5 V2, oS s2 hr2 lo2 ((n2 : Nat) : Int), aI cI hr2 6 SH2, aI cI lo2 6 SL2, oH h2 hh2 hq2 hl2 hw2 ((m2 : Nat) : Int), aI cI hh2 6 HH2, aI cI hq2 6 HO2, aI cI hl2 6 HL2, aI cI hw2 6 HW2]) := by
  refine jMW.of (own := RX0) (cc := cX0_copyFrom) (maxL := 3) (ret := none) rfl (by decide) rfl (Nat.le_of_ble_eq_true rfl) ?_
  intro X C E
  refine jw_lv (lv' := [(0, .ref a), (1, .ref a2)]) [0, 1] rfl ?_
  refine jw_iconst (pc := 0) C dX0_copyFrom_0 ?_
  refine jw_istore_n (pc := 1) (lv' := [(2, .int (jI 0)), (0, .ref a), (1, .ref a2)]) C dX0_copyFrom_1 (by decide) rfl ?_
  have lp_2_1 : ∀ (fu : Nat) (i : Nat) (c : Nat → Int), (i ≤ 5) → (∀ j, j < i → c j = V2 j) → 5 - i < fu → jW X 2 [(0, .ref a), (1, .ref a2), (2, .int (jI ((i : Nat) : Int)))] [] [oA a le s h ch, aI cI le 5 c, oS s hr lo ((n : Nat) : Int), aI cI hr 6 SH, aI cI lo 6 SL, oH h hh hq hl hw ((m : Nat) : Int), aI cI hh 6 HH, aI cI hq 6 HO, aI cI hl 6 HL, aI cI hw 6 HW, oA a2 le2 s2 h2 ch2, aI cI le2 5 V2, oS s2 hr2 lo2 ((n2 : Nat) : Int), aI cI hr2 6 SH2, aI cI lo2 6 SL2, oH h2 hh2 hq2 hl2 hw2 ((m2 : Nat) : Int), aI cI hh2 6 HH2, aI cI hq2 6 HO2, aI cI hl2 6 HL2, aI cI hw2 6 HW2] := by
    intro fu
    induction fu with
    | zero => intro i c hi hc hm; exact absurd hm (Nat.not_lt_zero _)
    | succ fu ih_2 =>
      intro i c hi hc hm
      refine jw_iload_n (pc := 2) C dX0_copyFrom_2 2 rfl ?_
      refine jw_iconst (pc := 3) C dX0_copyFrom_3 ?_
      refine jw_icmp_ge (pc := 4) (tgt := 25) C dX0_copyFrom_4 (by decide) (by omega) (by omega) (fun c_4 => ?_) (fun c_4 => ?_)
      · -- 4 t
        refine jw_arr (f := c) (g := V2) (ws' := [oA a le s h ch, aI cI le 5 V2, oS s hr lo ((n : Nat) : Int), aI cI hr 6 SH, aI cI lo 6 SL, oH h hh hq hl hw ((m : Nat) : Int), aI cI hh 6 HH, aI cI hq 6 HO, aI cI hl 6 HL, aI cI hw 6 HW, oA a2 le2 s2 h2 ch2, aI cI le2 5 V2, oS s2 hr2 lo2 ((n2 : Nat) : Int), aI cI hr2 6 SH2, aI cI lo2 6 SL2, oH h2 hh2 hq2 hl2 hw2 ((m2 : Nat) : Int), aI cI hh2 6 HH2, aI cI hq2 6 HO2, aI cI hl2 6 HL2, aI cI hw2 6 HW2]) 1 rfl (by exact fun j hj => hc j (by omega)) rfl ?_
        refine jw_aload_n (pc := 25) C dX0_copyFrom_25 0 rfl ?_
        refine jw_get (pc := 26) C hi_X0_copyFrom_X0 0 rfl rfl 1 (by decide) fl_X0_copyFrom_18 rfl rfl dX0_copyFrom_26 ?_
        refine jw_aload_n (pc := 29) C dX0_copyFrom_29 1 rfl ?_
        refine jw_get (pc := 30) C hi_X0_copyFrom_X0 10 rfl rfl 1 (by decide) fl_X0_copyFrom_18 rfl rfl dX0_copyFrom_30 ?_
        refine jw_callWV (pc := 33) C [.ref s2] [] 1 (con_X3_copyFrom lau D cI cB s hr lo (((n : Nat) : Int)) SH SL s2 hr2 lo2 n2 SH2 SL2 ) gX0_copyFrom_X3_copyFrom rfl rfl rfl (by decide +kernel) ⟨Nat.le_of_ble_eq_true rfl, Nat.le_of_ble_eq_true rfl⟩ 2 rfl rfl [2, 3, 4, 12, 13, 14] [0, 1, 5, 6, 7, 8, 9, 10, 11, 15, 16, 17, 18, 19] [0, 1, 14, 15, 16, 2, 3, 4, 5, 6, 7, 8, 17, 18, 19, 9, 10, 11, 12, 13] (wr := [oA a le s h ch, aI cI le 5 V2, oH h hh hq hl hw ((m : Nat) : Int), aI cI hh 6 HH, aI cI hq 6 HO, aI cI hl 6 HL, aI cI hw 6 HW, oA a2 le2 s2 h2 ch2, aI cI le2 5 V2, oH h2 hh2 hq2 hl2 hw2 ((m2 : Nat) : Int), aI cI hh2 6 HH2, aI cI hq2 6 HO2, aI cI hl2 6 HL2, aI cI hw2 6 HW2]) rfl rfl (by decide) (by decide) (fun _ => rfl) (wN := fun u_33_3 => [oA a le s h ch, aI cI le 5 V2, oS s hr lo ((n2 : Nat) : Int), aI cI hr 6 SH2, aI cI lo 6 SL2, oH h hh hq hl hw ((m : Nat) : Int), aI cI hh 6 HH, aI cI hq 6 HO, aI cI hl 6 HL, aI cI hw 6 HW, oA a2 le2 s2 h2 ch2, aI cI le2 5 V2, oS s2 hr2 lo2 ((n2 : Nat) : Int), aI cI hr2 6 SH2, aI cI lo2 6 SL2, oH h2 hh2 hq2 hl2 hw2 ((m2 : Nat) : Int), aI cI hh2 6 HH2, aI cI hq2 6 HO2, aI cI hl2 6 HL2, aI cI hw2 6 HW2]) (fun _ => rfl) (stN := fun u_33_3 => []) (fun _ => rfl) rfl (Nat.le_of_ble_eq_true rfl) rfl dX0_copyFrom_33 (fun u_33_3 hu_33_3 => ?_)
        refine jw_aload_n (pc := 36) C dX0_copyFrom_36 0 rfl ?_
        refine jw_get (pc := 37) C hi_X0_copyFrom_X0 0 rfl rfl 2 (by decide) fl_X0_copyFrom_25 rfl rfl dX0_copyFrom_37 ?_
        refine jw_aload_n (pc := 40) C dX0_copyFrom_40 1 rfl ?_
        refine jw_get (pc := 41) C hi_X0_copyFrom_X0 10 rfl rfl 2 (by decide) fl_X0_copyFrom_25 rfl rfl dX0_copyFrom_41 ?_
        refine jw_callWV (pc := 44) C [.ref h2] [] 1 (con_X1_copyFrom lau D cI cB h hh hq hl hw (((m : Nat) : Int)) HH HO HL HW h2 hh2 hq2 hl2 hw2 m2 HH2 HO2 HL2 HW2 ) gX0_copyFrom_X1_copyFrom rfl rfl rfl (by decide +kernel) ⟨Nat.le_of_ble_eq_true rfl, Nat.le_of_ble_eq_true rfl⟩ 5 rfl rfl [5, 6, 7, 8, 9, 15, 16, 17, 18, 19] [0, 1, 2, 3, 4, 10, 11, 12, 13, 14] [0, 1, 2, 3, 4, 10, 11, 12, 13, 14, 5, 6, 7, 8, 9, 15, 16, 17, 18, 19] (wr := [oA a le s h ch, aI cI le 5 V2, oS s hr lo ((n2 : Nat) : Int), aI cI hr 6 SH2, aI cI lo 6 SL2, oA a2 le2 s2 h2 ch2, aI cI le2 5 V2, oS s2 hr2 lo2 ((n2 : Nat) : Int), aI cI hr2 6 SH2, aI cI lo2 6 SL2]) rfl rfl (by decide) (by decide) (fun _ => rfl) (wN := fun u_44_4 => [oA a le s h ch, aI cI le 5 V2, oS s hr lo ((n2 : Nat) : Int), aI cI hr 6 SH2, aI cI lo 6 SL2, oH h hh hq hl hw ((m2 : Nat) : Int), aI cI hh 6 HH2, aI cI hq 6 HO2, aI cI hl 6 HL2, aI cI hw 6 HW2, oA a2 le2 s2 h2 ch2, aI cI le2 5 V2, oS s2 hr2 lo2 ((n2 : Nat) : Int), aI cI hr2 6 SH2, aI cI lo2 6 SL2, oH h2 hh2 hq2 hl2 hw2 ((m2 : Nat) : Int), aI cI hh2 6 HH2, aI cI hq2 6 HO2, aI cI hl2 6 HL2, aI cI hw2 6 HW2]) (fun _ => rfl) (stN := fun u_44_4 => []) (fun _ => rfl) rfl (Nat.le_of_ble_eq_true rfl) rfl dX0_copyFrom_44 (fun u_44_4 hu_44_4 => ?_)
        refine jw_aload_n (pc := 47) C dX0_copyFrom_47 0 rfl ?_
        refine jw_aload_n (pc := 48) C dX0_copyFrom_48 1 rfl ?_
        refine jw_get (pc := 49) C hi_X0_copyFrom_X0 10 rfl rfl 3 (by decide) fl_X0_copyFrom_35 rfl rfl dX0_copyFrom_49 ?_
        refine jw_put (pc := 52) (ty := .int) (ws' := [oA a le s h ch2, aI cI le 5 V2, oS s hr lo ((n2 : Nat) : Int), aI cI hr 6 SH2, aI cI lo 6 SL2, oH h hh hq hl hw ((m2 : Nat) : Int), aI cI hh 6 HH2, aI cI hq 6 HO2, aI cI hl 6 HL2, aI cI hw 6 HW2, oA a2 le2 s2 h2 ch2, aI cI le2 5 V2, oS s2 hr2 lo2 ((n2 : Nat) : Int), aI cI hr2 6 SH2, aI cI lo2 6 SL2, oH h2 hh2 hq2 hl2 hw2 ((m2 : Nat) : Int), aI cI hh2 6 HH2, aI cI hq2 6 HO2, aI cI hl2 6 HL2, aI cI hw2 6 HW2]) C hi_X0_copyFrom_X0 tyX0 tyX0_ok nmX0 0 rfl rfl 3 (by decide) fl_X0_copyFrom_35 rfl rfl (by decide +kernel) rfl rfl (Nat.le_of_ble_eq_true rfl) rfl dX0_copyFrom_52 ?_
        exact jw_vretW (pc := 55) C E dX0_copyFrom_55 (()) rfl trivial rfl
      · -- 4 f
        refine jw_aload_n (pc := 7) C dX0_copyFrom_7 0 rfl ?_
        refine jw_get (pc := 8) C hi_X0_copyFrom_X0 0 rfl rfl 0 (by decide) fl_X0_copyFrom_9 rfl rfl dX0_copyFrom_8 ?_
        refine jw_iload_n (pc := 11) C dX0_copyFrom_11 2 rfl ?_
        refine jw_aload_n (pc := 12) C dX0_copyFrom_12 1 rfl ?_
        refine jw_get (pc := 13) C hi_X0_copyFrom_X0 10 rfl rfl 0 (by decide) fl_X0_copyFrom_9 rfl rfl dX0_copyFrom_13 ?_
        refine jw_iload_n (pc := 16) C dX0_copyFrom_16 2 rfl ?_
        refine jw_iald (pc := 17) C (f := V2) 11 i rfl rfl (by omega) (by decide) dX0_copyFrom_17 ?_
        refine jw_iast (pc := 18) C (f := c) 1 i rfl rfl (by omega) (by decide) (ws' := [oA a le s h ch, aI cI le 5 (va_up c i (V2 i)), oS s hr lo ((n : Nat) : Int), aI cI hr 6 SH, aI cI lo 6 SL, oH h hh hq hl hw ((m : Nat) : Int), aI cI hh 6 HH, aI cI hq 6 HO, aI cI hl 6 HL, aI cI hw 6 HW, oA a2 le2 s2 h2 ch2, aI cI le2 5 V2, oS s2 hr2 lo2 ((n2 : Nat) : Int), aI cI hr2 6 SH2, aI cI lo2 6 SL2, oH h2 hh2 hq2 hl2 hw2 ((m2 : Nat) : Int), aI cI hh2 6 HH2, aI cI hq2 6 HO2, aI cI hl2 6 HL2, aI cI hw2 6 HW2]) rfl dX0_copyFrom_18 ?_
        refine jw_iinc (pc := 19) (z := ((i + 1 : Nat) : Int)) (lv' := [(2, .int (jI ((i + 1 : Nat) : Int))), (0, .ref a), (1, .ref a2)]) C dX0_copyFrom_19 2 rfl (by omega) (by decide) rfl ?_
        refine jw_goto (pc := 22) (tgt := 2) C dX0_copyFrom_22 (by decide) ?_
        refine jw_lv [1, 2, 0] rfl ?_
        exact ih_2 (i + 1) (va_up c i (V2 i)) (by omega) (sp_cpy_step (n := 5) rfl hc) (by omega)
  refine jw_lv [1, 2, 0] rfl ?_
  exact lp_2_1 ((5 - 0) + 1) 0 V (by omega) (fun j hj => absurd hj (Nat.not_lt_zero _)) (Nat.lt_succ_self _)
end
