/-! My own contracts: jMR a method that only reads and answers v; jMW one that writes its cells. Calls by contract. -/
def jS (v : Value) : Array Value → State → Outcome → State → Prop := fun _ st oc t => oc = .returned (some v) ∧ t.heap = st.heap
def jPR (D : va_G) (cI cB : ClassId) (av : List Value) (wd : va_W) : Array Value → State → Prop := fun a U => a = av.toArray ∧ va_P D vwCl wd U.heap ∧ jK D cI cB U
def jMR (l : Launch) (y : MethodName) (ws : List Cond) (rm : Room) (D : va_G) (cI cB : ClassId) (av : List Value) (wd : va_W) (v : Value) : Prop := Met l y ws rm (jPR D cI cB av wd) (jS v) 0 0 (fun _ => False)
def jQ {S : Type} (rv : S → Option Value) (post : S → Prop) (w1 : S → va_W) (D : va_G) (A : Nat → Prop) : Array Value → State → Outcome → State → Prop := fun _ st oc t => (∃ u : S, oc = .returned (rv u) ∧ post u ∧ va_P D vwCl (w1 u) t.heap) ∧ va_F A st t
def jPW (D : va_G) (cI cB : ClassId) (av : List Value) (wd : va_W) (sz : Nat) : Array Value → State → Prop := fun a U => a = av.toArray ∧ U.heap.size = sz ∧ va_P D vwCl wd U.heap ∧ jK D cI cB U ∧ va_D (fun _ => True) wd
def jMW {S : Type} (l : Launch) (y : MethodName) (ws : List Cond) (rm : Room) (D : va_G) (cI cB : ClassId) (av : List Value) (wd : va_W) (rv : S → Option Value) (post : S → Prop) (w1 : S → va_W) : Prop := ∀ sz : Nat, Met l y ws rm (jPW D cI cB av wd sz) (jQ rv post w1 D (va_A wd sz)) 0 0 (va_A wd sz)
theorem jPR.blind {D : va_G} {cI cB : ClassId} {av : List Value} {wd : va_W} : FrameBlind (jPR D cI cB av wd) := fun a U g mk h => ⟨h.1, h.2.1, jK.same (u := U) (U := U.calling g mk a) rfl h.2.2⟩
theorem jPW.blind {D : va_G} {cI cB : ClassId} {av : List Value} {wd : va_W} {sz : Nat} : FrameBlind (jPW D cI cB av wd sz) := fun a U g mk h => ⟨h.1, h.2.1, h.2.2.1, jK.same (u := U) (U := U.calling g mk a) rfl h.2.2.2.1, h.2.2.2.2⟩
def jER (X : jX) (ret : Option FieldType) (v : Value) : Prop := match X with
  | (_, _, _, _, s, _, args, below, meth, _, _, _, _, _, cells, slots, Q) => meth.sig.returnType = ret ∧ meth.locks = false ∧ Q = MQ below (jS v) args s cells slots (fun _ => False)
def jEW {S : Type} (X : jX) (ret : Option FieldType) (rv : S → Option Value) (post : S → Prop) (w1 : S → va_W) : Prop := match X with
  | (_, _, _, _, s, _, args, below, meth, _, _, D, A, _, cells, slots, Q) => meth.sig.returnType = ret ∧ meth.locks = false ∧ Q = MQ below (jQ rv post w1 D A) args s cells slots A
theorem jMR.of {l : Launch} {y : MethodName} {ws ws' : List Cond} {rm : Room} {D : va_G} {cI cB : ClassId} {av : List Value} {wd : va_W} {v : Value} {cc : ByteArray} {maxL : Nat} {ret : Option FieldType} {own : String} (ho : y.cls = own) (hy : plainName y.cls = true) (hw : ws = Cond.code y cc maxL ret :: ws') (hlen : (lg_sl av).length ≤ maxL)
    (body : ∀ X : jX, jC X l cc own ws rm maxL D cI cB true → jER X ret v → jW X 0 (lv_args 0 av) [] wd) : jMR l y ws rm D cI cB av wd v := by
  refine Met.ofW hy hw ?_
  intro p e s m args below meth c s₁ B hml hv
  obtain ⟨rfl, hP, hK⟩ := hv
  have hts := atoms_spec (ws := ws) B.pre
  rw [lg_entry_eq]
  exact body (p, l, e, rm, s, m, av.toArray, below, meth, c, maxL, D, (fun _ => True), true, 0, 0, MQ below (jS v) av.toArray s 0 0 (fun _ => False)) ⟨rfl, rfl, rfl, rfl, rfl, B.exec, B.bytes, hml, ho ▸ findClass_of_methodNamed B.named, hts, hK, fun _ _ => trivial, Nat.zero_le _, Nat.zero_le _⟩ ⟨B.returns, B.notSynchronized, rfl⟩ s.heap [] _ hP (fun q => absurd q (by decide)) (fun _ => ⟨rfl, rfl⟩) (lv_entry av hlen)
theorem jMW.of {S : Type} {l : Launch} {y : MethodName} {ws ws' : List Cond} {rm : Room} {D : va_G} {cI cB : ClassId} {av : List Value} {wd : va_W} {rv : S → Option Value} {post : S → Prop} {w1 : S → va_W} {cc : ByteArray} {maxL : Nat} {ret : Option FieldType} {own : String} (ho : y.cls = own) (hy : plainName y.cls = true) (hw : ws = Cond.code y cc maxL ret :: ws') (hlen : (lg_sl av).length ≤ maxL)
    (body : ∀ X : jX, jC X l cc own ws rm maxL D cI cB false → jEW X ret rv post w1 → jW X 0 (lv_args 0 av) [] wd) : jMW l y ws rm D cI cB av wd rv post w1 := by
  intro sz
  refine Met.ofW hy hw ?_
  intro p e s m args below meth c s₁ B hml hv
  obtain ⟨rfl, hsz, hP, hK, hD0⟩ := hv
  subst hsz
  have hD := hD0.self (sz := s.heap.size)
  have hts := atoms_spec (ws := ws) B.pre
  rw [lg_entry_eq]
  exact body (p, l, e, rm, s, m, av.toArray, below, meth, c, maxL, D, va_A wd s.heap.size, false, 0, 0, MQ below (jQ rv post w1 D (va_A wd s.heap.size)) av.toArray s 0 0 (va_A wd s.heap.size)) ⟨rfl, rfl, rfl, rfl, rfl, B.exec, B.bytes, hml, ho ▸ findClass_of_methodNamed B.named, hts, hK, fun _ h => Or.inr h, Nat.zero_le _, Nat.zero_le _⟩ ⟨B.returns, B.notSynchronized, rfl⟩ s.heap [] _ hP (fun _ => ⟨hD, va_S.rf⟩) (fun q => absurd q (by decide)) (lv_entry av hlen)
section JRET
variable {X : jX} {l : Launch} {cc : ByteArray} {own : String} {Ts : List Cond} {rm : Room} {nL : Nat} {D : va_G} {cI cB : ClassId} {pc : Nat} {lv : List (Nat × Value)} {ws : va_W}
theorem jw_iretR (C : jC X l cc own Ts rm nL D cI cB true) {x x' : Int32} (E : jER X (some .int) (.int x')) (d : decode cc pc = .ok (.ireturn, 1)) (hv : x = x') : jW X pc lv [.int x] ws := by
  obtain ⟨p, l', e, R, s, m, args, below, meth, c, nL', D', A, ro', cells, slots, Q⟩ := X
  intro H locs ls hP h1 h2 hl
  obtain ⟨rfl, rfl, rfl, rfl, hro, hx, hb, hml, hown, hts, hK, hA, hcs, hss⟩ := id C
  obtain ⟨hr, hlk, rfl⟩ := E
  obtain ⟨rfl, rfl⟩ := h2 hro
  subst hv
  exact W.iret hx hb hr (fun t ht hW => ⟨rfl, ht⟩) (fun q hq => absurd hq List.not_mem_nil) d hlk
theorem jw_zretR (C : jC X l cc own Ts rm nL D cI cB true) {x x' : Int32} (E : jER X (some .boolean) (.int x')) (d : decode cc pc = .ok (.ireturn, 1)) (hv : x = x') (hn : narrow .boolean (.int x') = .int x') : jW X pc lv [.int x] ws := by
  obtain ⟨p, l', e, R, s, m, args, below, meth, c, nL', D', A, ro', cells, slots, Q⟩ := X
  intro H locs ls hP h1 h2 hl
  obtain ⟨rfl, rfl, rfl, rfl, hro, hx, hb, hml, hown, hts, hK, hA, hcs, hss⟩ := id C
  obtain ⟨hr, hlk, rfl⟩ := E
  obtain ⟨rfl, rfl⟩ := h2 hro
  subst hv
  exact W.zret hx hb hr hn (fun t ht hW => ⟨rfl, ht⟩) (fun q hq => absurd hq List.not_mem_nil) d hlk
theorem jw_lretR (C : jC X l cc own Ts rm nL D cI cB true) {x x' : Int64} (E : jER X (some .long) (.long x')) (d : decode cc pc = .ok (.lreturn, 1)) (hv : x = x') : jW X pc lv [.long x] ws := by
  obtain ⟨p, l', e, R, s, m, args, below, meth, c, nL', D', A, ro', cells, slots, Q⟩ := X
  intro H locs ls hP h1 h2 hl
  obtain ⟨rfl, rfl, rfl, rfl, hro, hx, hb, hml, hown, hts, hK, hA, hcs, hss⟩ := id C
  obtain ⟨hr, hlk, rfl⟩ := E
  obtain ⟨rfl, rfl⟩ := h2 hro
  subst hv
  exact W.lret hx hb hr (fun t ht hW => ⟨rfl, ht⟩) (fun q hq => absurd hq List.not_mem_nil) d hlk
variable {S : Type} {rv : S → Option Value} {post : S → Prop} {w1 : S → va_W}
theorem jw_iretW (C : jC X l cc own Ts rm nL D cI cB false) {x : Int32} (E : jEW X (some .int) rv post w1) (d : decode cc pc = .ok (.ireturn, 1)) (u : S) (hu : some (.int x) = rv u) (hp : post u) (hw : ws = w1 u) : jW X pc lv [.int x] ws := by
  obtain ⟨p, l', e, R, s, m, args, below, meth, c, nL', D', A, ro', cells, slots, Q⟩ := X
  intro H locs ls hP h1 h2 hl
  obtain ⟨rfl, rfl, rfl, rfl, hro, hx, hb, hml, hown, hts, hK, hA, hcs, hss⟩ := id C
  obtain ⟨hr, hlk, rfl⟩ := E
  subst hw
  exact W.iret hx hb hr (fun t ht hW => ⟨⟨u, by rw [hu], hp, by rw [ht]; exact hP⟩, (h1 hro).2.F ht⟩) (h1 hro).2.2.2 d hlk
theorem jw_zretW (C : jC X l cc own Ts rm nL D cI cB false) {x : Int32} (E : jEW X (some .boolean) rv post w1) (d : decode cc pc = .ok (.ireturn, 1)) (u : S) (hu : some (.int x) = rv u) (hp : post u) (hw : ws = w1 u) (hn : narrow .boolean (.int x) = .int x) : jW X pc lv [.int x] ws := by
  obtain ⟨p, l', e, R, s, m, args, below, meth, c, nL', D', A, ro', cells, slots, Q⟩ := X
  intro H locs ls hP h1 h2 hl
  obtain ⟨rfl, rfl, rfl, rfl, hro, hx, hb, hml, hown, hts, hK, hA, hcs, hss⟩ := id C
  obtain ⟨hr, hlk, rfl⟩ := E
  subst hw
  exact W.zret hx hb hr hn (fun t ht hW => ⟨⟨u, by rw [hu], hp, by rw [ht]; exact hP⟩, (h1 hro).2.F ht⟩) (h1 hro).2.2.2 d hlk
theorem jw_lretW (C : jC X l cc own Ts rm nL D cI cB false) {x : Int64} (E : jEW X (some .long) rv post w1) (d : decode cc pc = .ok (.lreturn, 1)) (u : S) (hu : some (.long x) = rv u) (hp : post u) (hw : ws = w1 u) : jW X pc lv [.long x] ws := by
  obtain ⟨p, l', e, R, s, m, args, below, meth, c, nL', D', A, ro', cells, slots, Q⟩ := X
  intro H locs ls hP h1 h2 hl
  obtain ⟨rfl, rfl, rfl, rfl, hro, hx, hb, hml, hown, hts, hK, hA, hcs, hss⟩ := id C
  obtain ⟨hr, hlk, rfl⟩ := E
  subst hw
  exact W.lret hx hb hr (fun t ht hW => ⟨⟨u, by rw [hu], hp, by rw [ht]; exact hP⟩, (h1 hro).2.F ht⟩) (h1 hro).2.2.2 d hlk
theorem jw_vretW (C : jC X l cc own Ts rm nL D cI cB false) (E : jEW X none rv post w1) (d : decode cc pc = .ok (.return_, 1)) (u : S) (hu : none = rv u) (hp : post u) (hw : ws = w1 u) : jW X pc lv [] ws := by
  obtain ⟨p, l', e, R, s, m, args, below, meth, c, nL', D', A, ro', cells, slots, Q⟩ := X
  intro H locs ls hP h1 h2 hl
  obtain ⟨rfl, rfl, rfl, rfl, hro, hx, hb, hml, hown, hts, hK, hA, hcs, hss⟩ := id C
  obtain ⟨hr, hlk, rfl⟩ := E
  subst hw
  exact W.vret hx hb hr (fun t ht hW => ⟨⟨u, by rw [hu], hp, by rw [ht]; exact hP⟩, (h1 hro).2.F ht⟩) (h1 hro).2.2.2 d hlk
theorem jw_aretW (C : jC X l cc own Ts rm nL D cI cB false) {a : Nat} {nm : String} (E : jEW X (some (.object nm)) rv post w1) (d : decode cc pc = .ok (.areturn, 1)) (u : S) (hu : some (.ref a) = rv u) (hp : post u) (hw : ws = w1 u) : jW X pc lv [.ref a] ws := by
  obtain ⟨p, l', e, R, s, m, args, below, meth, c, nL', D', A, ro', cells, slots, Q⟩ := X
  intro H locs ls hP h1 h2 hl
  obtain ⟨rfl, rfl, rfl, rfl, hro, hx, hb, hml, hown, hts, hK, hA, hcs, hss⟩ := id C
  obtain ⟨hr, hlk, rfl⟩ := E
  subst hw
  exact W.aret hx hb hr (Or.inl ⟨nm, rfl⟩) (Or.inr ⟨a, rfl⟩) (fun t ht hW => ⟨⟨u, by rw [hu], hp, by rw [ht]; exact hP⟩, (h1 hro).2.F ht⟩) (h1 hro).2.2.2 d hlk
end JRET
theorem jfm {ws wd : va_W} {is : List Nat} (h : is.map (fun i => ws[i]?) = wd.map some) : is.filterMap (fun i => ws[i]?) = wd := by
  have e : is.filterMap (fun i => ws[i]?) = (is.map (fun i => ws[i]?)).filterMap id := by rw [List.filterMap_map]; rfl
  rw [e, h, List.filterMap_map]
  show List.filterMap (fun x => some x) wd = wd
  exact List.filterMap_some
theorem jD_fst {A : Nat → Prop} {ws ws' : va_W} (h : va_D A ws) (e : ws'.map (·.1) = ws.map (·.1)) : va_D A ws' := by
  have key : ∀ (k : Nat) (q : Nat × va_E), ws'[k]? = some q → ∃ q0 : Nat × va_E, ws[k]? = some q0 ∧ q0.1 = q.1 := by
    intro k q hq
    have h1 : (ws'.map (·.1))[k]? = some q.1 := by rw [List.getElem?_map, hq]; rfl
    rw [e, List.getElem?_map] at h1
    cases hx : ws[k]? with
    | none => rw [hx] at h1; cases h1
    | some q0 => rw [hx] at h1; exact ⟨q0, rfl, Option.some.inj h1⟩
  refine ⟨fun i j p q hi hj hpq => ?_, fun k q hq => ?_⟩
  · obtain ⟨p0, a1, a2⟩ := key i p hi
    obtain ⟨q0, b1, b2⟩ := key j q hj
    exact h.1 i j p0 q0 a1 b1 (by rw [a2, b2]; exact hpq)
  · obtain ⟨q0, b1, b2⟩ := key k q hq
    rw [← b2]
    exact h.2 k q0 b1
section JCALL
variable {X : jX} {l : Launch} {cc : ByteArray} {own : String} {Ts : List Cond} {rm : Room} {nL : Nat} {D : va_G} {cI cB : ClassId} {ro : Bool} {pc : Nat} {lv : List (Nat × Value)} {st : List Value} {ws : va_W}
variable {y : MethodName} {bytes : ByteArray} {maxL' index b ci N : Nat} {ret' : Option FieldType} {ws1 ws2 : List Cond} {rm' : Room} {wd : va_W} {v : Value} {fs : List Value} {T : u_T}
theorem jw_callRV (C : jC X l cc own Ts rm nL D cI cB ro) (As rest : List Value) (n : Nat) (hM : jMR l y ws1 rm' D cI cB (.ref b :: As) wd v) (hG : GoodIn Ts (wsV own index y.cls y ws1)) (hw : ws1 = Cond.code y bytes maxL' ret' :: ws2) (hc0 : rm'.cells = 0) (hs0 : rm'.slots = 0)
    (hd : y.cls = y.cls ∧ y.cls ≠ "java/lang/invoke/MethodHandle" ∧ y.cls ≠ "java/lang/invoke/VarHandle" ∧ (parseMethodDescriptor y.desc).map (fun d => d.parameters.length) = some n) (hR : rm'.frames + 1 ≤ rm.frames ∧ 8 + (maxL' + 11) + rm'.locals ≤ rm.locals)
    (q0 : Nat) (he : ws[q0]? = some (b, .inr (ci, fs))) (hcl : vwCl[ci]? = some (y.cls, T, N)) (is : List Nat) (his : is.filterMap (fun i => ws[i]?) = wd) (hn : As.length = n) (hst : (rest.map fun v => v.category).sum ≤ 8) (hstk : st = As.reverse ++ .ref b :: rest) (d : decode cc pc = .ok (.invokevirtual index, 3))
    (kk : jW X (pc + 3) lv (v :: rest) ws) : jW X pc lv st ws := by
  subst hstk
  obtain ⟨p, l', e, R, s, m, args, below, meth, c, nL', D', A, ro', cells, slots, Q⟩ := X
  intro H locs ls hP h1 h2 hl
  obtain ⟨rfl, rfl, rfl, rfl, hro, hx, hb, hml, hown, hts, hK, hA, hcs, hss⟩ := id C
  have hr := va_runV (e := e) (below := below) (meth := meth) (cells := cells) (slots := slots) (locs := locs) (H := H) (g := F0 m pc ls (As.reverse ++ .ref b :: rest)) (As := As) (rest := rest) ⟨hx, hb, hml, hown, hts⟩ hM (cwV n hts hG hw hc0 hs0 hd hR) ⟨jPR.blind, va_recv hK.1 hP hcl he, fun U hU hW => ⟨rfl, by rw [hU]; exact hP.sub is his, hK.warm hW⟩⟩ rfl hn hl.1 rfl (lv_room hst) d ⟨hcs, hss⟩
  intro T1 hT XX
  obtain ⟨v', st₀, t, T', L, h0, X', hL, e1, e2, ⟨hv, hh⟩, sg⟩ := hr T1 hT XX
  cases hv
  obtain ⟨t2, a1, b1⟩ := kk H locs ls hP h1 h2 hl T' (by rw [e1, hh, h0]) (Stand.forget X' (fun q h => (hL q h).elim))
  exact ⟨t2, sg t2 a1, b1⟩
theorem jw_callRS (C : jC X l cc own Ts rm nL D cI cB ro) (As rest : List Value) (n : Nat) (hM : jMR l y ws1 rm' D cI cB As wd v) (hG : GoodIn Ts (va_wsS own index y ws1)) (hw : ws1 = Cond.code y bytes maxL' ret' :: ws2) (hc0 : rm'.cells = 0) (hs0 : rm'.slots = 0)
    (hd : y.cls ≠ "java/lang/invoke/MethodHandle" ∧ y.cls ≠ "java/lang/invoke/VarHandle" ∧ (parseMethodDescriptor y.desc).map (fun d => d.parameters.length) = some n) (hR : rm'.frames + 1 ≤ rm.frames ∧ 8 + (maxL' + 11) + rm'.locals ≤ rm.locals)
    (is : List Nat) (his : is.filterMap (fun i => ws[i]?) = wd) (hn : As.length = n) (hst : (rest.map fun v => v.category).sum ≤ 8) (hstk : st = As.reverse ++ rest) (d : decode cc pc = .ok (.invokestatic index, 3))
    (kk : jW X (pc + 3) lv (v :: rest) ws) : jW X pc lv st ws := by
  subst hstk
  obtain ⟨p, l', e, R, s, m, args, below, meth, c, nL', D', A, ro', cells, slots, Q⟩ := X
  intro H locs ls hP h1 h2 hl
  obtain ⟨rfl, rfl, rfl, rfl, hro, hx, hb, hml, hown, hts, hK, hA, hcs, hss⟩ := id C
  have hr := va_runS (e := e) (below := below) (meth := meth) (cells := cells) (slots := slots) (locs := locs) (H := H) (g := F0 m pc ls (As.reverse ++ rest)) (As := As) (rest := rest) ⟨hx, hb, hml, hown, hts⟩ hM (va_cwS n hts hG hw hc0 hs0 hd hR) ⟨jPR.blind, fun U hU hW => ⟨rfl, by rw [hU]; exact hP.sub is his, hK.warm hW⟩⟩ rfl hn hl.1 rfl (lv_room hst) d ⟨hcs, hss⟩
  intro T1 hT XX
  obtain ⟨v', st₀, t, T', L, h0, X', hL, e1, e2, ⟨hv, hh⟩, sg⟩ := hr T1 hT XX
  cases hv
  obtain ⟨t2, a1, b1⟩ := kk H locs ls hP h1 h2 hl T' (by rw [e1, hh, h0]) (Stand.forget X' (fun q h => (hL q h).elim))
  exact ⟨t2, sg t2 a1, b1⟩
theorem jw_callRN (C : jC X l cc own Ts rm nL D cI cB ro) {host : String} (As rest : List Value) (n : Nat) (hM : jMR l y ws1 rm' D cI cB As wd v) (hG : GoodIn Ts ws1) (hw : ws1 = Cond.code y bytes maxL' ret' :: ws2) (hc0 : rm'.cells = 0) (hs0 : rm'.slots = 0)
    (hlk : ∀ U : State, jK D cI cB U → va_Nw (.methodLinkNest own index y host) U) (hini : Cond.initialized y.cls ∈ Ts) (hstc : Cond.static y ∈ Ts)
    (hd : y.cls ≠ "java/lang/invoke/MethodHandle" ∧ y.cls ≠ "java/lang/invoke/VarHandle" ∧ (parseMethodDescriptor y.desc).map (fun d => d.parameters.length) = some n) (hR : rm'.frames + 1 ≤ rm.frames ∧ 8 + (maxL' + 11) + rm'.locals ≤ rm.locals)
    (is : List Nat) (his : is.filterMap (fun i => ws[i]?) = wd) (hn : As.length = n) (hst : (rest.map fun v => v.category).sum ≤ 8) (hstk : st = As.reverse ++ rest) (d : decode cc pc = .ok (.invokestatic index, 3))
    (kk : jW X (pc + 3) lv (v :: rest) ws) : jW X pc lv st ws := by
  subst hstk
  obtain ⟨p, l', e, R, s, m, args, below, meth, c, nL', D', A, ro', cells, slots, Q⟩ := X
  intro H locs ls hP h1 h2 hl
  obtain ⟨rfl, rfl, rfl, rfl, hro, hx, hb, hml, hown, hts, hK, hA, hcs, hss⟩ := id C
  have hr := va_runSN (e := e) (below := below) (meth := meth) (cells := cells) (slots := slots) (locs := locs) (H := H) (g := F0 m pc ls (As.reverse ++ rest)) (As := As) (rest := rest) ⟨hx, hb, hml, hown, hts⟩ hM ⟨va_cnB n hts hG hw hc0 hs0 (hlk s hK) (hts _ hini) hd hR, hts _ hstc, trivial⟩ ⟨jPR.blind, fun U hU hW => ⟨rfl, by rw [hU]; exact hP.sub is his, hK.warm hW⟩⟩ rfl hn hl.1 rfl (lv_room hst) d ⟨hcs, hss⟩
  intro T1 hT XX
  obtain ⟨v', st₀, t, T', L, h0, X', hL, e1, e2, ⟨hv, hh⟩, sg⟩ := hr T1 hT XX
  cases hv
  obtain ⟨t2, a1, b1⟩ := kk H locs ls hP h1 h2 hl T' (by rw [e1, hh, h0]) (Stand.forget X' (fun q h => (hL q h).elim))
  exact ⟨t2, sg t2 a1, b1⟩
theorem jw_callWV {S : Type} {rv : S → Option Value} {post : S → Prop} {w1 : S → va_W} (C : jC X l cc own Ts rm nL D cI cB false) (As rest : List Value) (n : Nat) (hM : jMW l y ws1 rm' D cI cB (.ref b :: As) wd rv post w1) (hG : GoodIn Ts (wsV own index y.cls y ws1)) (hw : ws1 = Cond.code y bytes maxL' ret' :: ws2) (hc0 : rm'.cells = 0) (hs0 : rm'.slots = 0)
    (hd : y.cls = y.cls ∧ y.cls ≠ "java/lang/invoke/MethodHandle" ∧ y.cls ≠ "java/lang/invoke/VarHandle" ∧ (parseMethodDescriptor y.desc).map (fun d => d.parameters.length) = some n) (hR : rm'.frames + 1 ≤ rm.frames ∧ 8 + (maxL' + 11) + rm'.locals ≤ rm.locals)
    (q0 : Nat) (he : ws[q0]? = some (b, .inr (ci, fs))) (hcl : vwCl[ci]? = some (y.cls, T, N)) (isC isR perm : List Nat) {wr : va_W} (hC : isC.map (fun i => ws[i]?) = wd.map some) (hRr : isR.map (fun i => ws[i]?) = wr.map some) (hnd : va_nd isC = true ∧ va_nd isR = true ∧ va_nd perm = true) (hdis : ∀ i ∈ isR, i ∉ isC) (hfst : ∀ u, (w1 u).map (·.1) = wd.map (·.1))
    {wN : S → va_W} (hN : ∀ u, perm.map (fun i => (wr ++ w1 u)[i]?) = (wN u).map some) {stN : S → List Value} (hsN : ∀ u, (rv u).toList ++ rest = stN u)
    (hn : As.length = n) (hst : (rest.map fun v => v.category).sum ≤ 8) (hstk : st = As.reverse ++ .ref b :: rest) (d : decode cc pc = .ok (.invokevirtual index, 3))
    (kk : ∀ u : S, post u → jW X (pc + 3) lv (stN u) (wN u)) : jW X pc lv st ws := by
  subst hstk
  obtain ⟨p, l', e, R, s, m, args, below, meth, c, nL', D', A, ro', cells, slots, Q⟩ := X
  intro H locs ls hP h1 h2 hl
  obtain ⟨rfl, rfl, rfl, rfl, hro, hx, hb, hml, hown, hts, hK, hA, hcs, hss⟩ := id C
  obtain ⟨hD, hS⟩ := h1 hro
  have hPc := hP.sub isC (jfm hC)
  have hDc := hD.sub isC hnd.1 hC
  have hFc := va_free (wc := wd) hD hS hA isC hC
  have hr := va_runV (e := e) (below := below) (meth := meth) (cells := cells) (slots := slots) (locs := locs) (H := H) (g := F0 m pc ls (As.reverse ++ .ref b :: rest)) (As := As) (rest := rest) ⟨hx, hb, hml, hown, hts⟩ (hM H.size) (cwV n hts hG hw hc0 hs0 hd hR) ⟨jPW.blind, va_recv hK.1 hP hcl he, fun U hU hW => ⟨rfl, by rw [hU], by rw [hU]; exact hPc, hK.warm hW, hDc.weaken (fun _ _ _ _ => trivial)⟩⟩ rfl hn hl.1 rfl (lv_room hst) d ⟨hcs, hss⟩
  intro T1 hT XX
  obtain ⟨v', st₀, t, T', L, h0, X', hL, e1, e2, ⟨⟨u, hv, hp, hb1⟩, hz, hk⟩, sg⟩ := hr T1 hT XX
  cases hv
  rw [h0] at hz hk
  have hD1 : va_D (va_A wd H.size) (w1 u) := jD_fst (va_D.self (A := A) hDc) (hfst u)
  obtain ⟨hPN, hDN⟩ := va_join hP hD isC isR hC hRr hnd.2.1 hdis hk hFc hb1 hD1
  have hPN' : va_P D' vwCl (wN u) T'.heap := by rw [e1]; exact hPN.sub perm (jfm (hN u))
  have hSN : va_S A s.heap T'.heap (locs ++ L) := ⟨Nat.le_trans hS.1 (by rw [e1]; exact hz), fun q g1 g2 => by rw [e1, hk q (Nat.lt_of_lt_of_le g1 hS.1) (fun z => g2 (hFc q z))]; exact hS.2.1 q g1 g2, fun q hq => by
    rcases List.mem_append.mp hq with h | h
    · exact hS.2.2 q h
    · exact hFc _ (hL q h)⟩
  obtain ⟨t2, a1, b1⟩ := kk u hp T'.heap (locs ++ L) ls hPN' (fun _ => ⟨hDN.sub perm hnd.2.2 (hN u), hSN⟩) (fun q => absurd (hro.symm.trans q) (by decide)) hl T' rfl X'
  rw [← hsN u] at a1
  exact ⟨t2, sg t2 a1, b1⟩
theorem jI_max {x y : Int} (hx : -2147483648 ≤ x ∧ x < 2147483648) (hy : -2147483648 ≤ y ∧ y < 2147483648) : (if jI x < jI y then jI y else jI x) = jI (if x < y then y else x) := by
  by_cases h : x < y
  · rw [if_pos h, if_pos ((jI_lt hx hy).mpr h)]
  · rw [if_neg h, if_neg (fun q => h ((jI_lt hx hy).mp q))]
theorem jw_max (C : jC X l cc own Ts rm nL D cI cB ro) {x y : Int} (h1 : Cond.methodLink own index Lib.Math.max.name ∈ Ts) (h2 : Cond.static Lib.Math.max.name ∈ Ts) (h3 : Cond.initialized "java/lang/Math" ∈ Ts) (h4 : Cond.code Lib.Math.max.name Lib.Math.max.code 2 (some .int) ∈ Ts) (hf : 1 ≤ rm.frames) (hlo : (st.map fun v => v.category).sum + 13 ≤ rm.locals) (hx : -2147483648 ≤ x ∧ x < 2147483648) (hy : -2147483648 ≤ y ∧ y < 2147483648) (d : decode cc pc = .ok (.invokestatic index, 3)) {z : Int} (hz : (if x < y then y else x) = z)
    (kk : jW X (pc + 3) lv (.int (jI z) :: st) ws) : jW X pc lv (.int (jI y) :: .int (jI x) :: st) ws := by
  obtain ⟨p, l', e, R, s, m, args, below, meth, c, nL', D', A, ro', cells, slots, Q⟩ := X
  intro H locs ls hP g1 g2 hl
  obtain ⟨rfl, rfl, rfl, rfl, hro, hxx, hb, hml, hown, hts, hK, hA, hcs, hss⟩ := id C
  refine va_mmax hxx hb (by rw [hml]; exact hl.1.symm) hown (hts _ h1) (hts _ h2) (hts _ h3) (hts _ h4) hf hlo hcs hss d ?_
  rw [jI_max hx hy, hz]
  exact kk H locs ls hP g1 g2 hl
theorem jw_min (C : jC X l cc own Ts rm nL D cI cB ro) {x y : Int} (h1 : Cond.methodLink own index Lib.Math.min.name ∈ Ts) (h2 : Cond.static Lib.Math.min.name ∈ Ts) (h3 : Cond.initialized "java/lang/Math" ∈ Ts) (h4 : Cond.code Lib.Math.min.name Lib.Math.min.code 2 (some .int) ∈ Ts) (hf : 1 ≤ rm.frames) (hlo : (st.map fun v => v.category).sum + 13 ≤ rm.locals) (hx : -2147483648 ≤ x ∧ x < 2147483648) (hy : -2147483648 ≤ y ∧ y < 2147483648) (d : decode cc pc = .ok (.invokestatic index, 3)) {z : Int} (hz : (if y < x then y else x) = z)
    (kk : jW X (pc + 3) lv (.int (jI z) :: st) ws) : jW X pc lv (.int (jI y) :: .int (jI x) :: st) ws := by
  obtain ⟨p, l', e, R, s, m, args, below, meth, c, nL', D', A, ro', cells, slots, Q⟩ := X
  intro H locs ls hP g1 g2 hl
  obtain ⟨rfl, rfl, rfl, rfl, hro, hxx, hb, hml, hown, hts, hK, hA, hcs, hss⟩ := id C
  refine va_mmin hxx hb (by rw [hml]; exact hl.1.symm) hown (hts _ h1) (hts _ h2) (hts _ h3) (hts _ h4) hf hlo hcs hss d ?_
  have e1 : (if jI y < jI x then jI y else jI x) = jI z := by
    rw [← hz]
    by_cases h : y < x
    · rw [if_pos h, if_pos ((jI_lt hy hx).mpr h)]
    · rw [if_neg h, if_neg (fun q => h ((jI_lt hy hx).mp q))]
  rw [e1]
  exact kk H locs ls hP g1 g2 hl
end JCALL
/-! cells by their kinds -/
abbrev aI (cI : ClassId) (q n : Nat) (f : Nat → Int) : Nat × va_E := (q, .inl (cI, n, .inl (fun j => jI (f j))))
abbrev oA (a le sr he : Nat) (ch : Int) : Nat × va_E := (a, .inr (0, [.ref le, .ref sr, .ref he, .int (jI ch)]))
abbrev oH (a ho hr lo hw : Nat) (n : Int) : Nat × va_E := (a, .inr (1, [.ref ho, .ref hr, .ref lo, .ref hw, .int (jI n)]))
abbrev oP (a co : Nat) (n : Int) : Nat × va_E := (a, .inr (2, [.ref co, .int (jI n)]))
abbrev oS (a hr lo : Nat) (n : Int) : Nat × va_E := (a, .inr (3, [.ref hr, .ref lo, .int (jI n)]))
abbrev oT (a su : Nat) : Nat × va_E := (a, .inr (4, [.ref su]))
abbrev oG (a pg ki : Nat) (nh rd : Int) (af kp : Nat) (ik : Int) (no su : Nat) : Nat × va_E := (a, .inr (5, [.ref pg, .ref ki, .int (jI nh), .int (jI rd), .ref af, .ref kp, .int (jI ik), .ref no, .ref su]))
abbrev oM (a : Nat) (co nh : Int) (ki le : Nat) (ns : Int) (hr lo : Nat) (ch hd : Int) (h9 h10 h11 h12 : Nat) (pl : Int) (pg : Nat) (iw nw nz th : Int) (sd : Int64) (sv : Nat) (ik kc ks kg kh : Int) (k26 k27 k28 k29 k30 k31 k32 : Nat) (hh : Int64) : Nat × va_E := (a, .inr (6, [.int (jI co), .int (jI nh), .ref ki, .ref le, .int (jI ns), .ref hr, .ref lo, .int (jI ch), .int (jI hd), .ref h9, .ref h10, .ref h11, .ref h12, .int (jI pl), .ref pg, .int (jI iw), .int (jI nw), .int (jI nz), .int (jI th), .long sd, .ref sv, .int (jI ik), .int (jI kc), .int (jI ks), .int (jI kg), .int (jI kh), .ref k26, .ref k27, .ref k28, .ref k29, .ref k30, .ref k31, .ref k32, .long hh]))
