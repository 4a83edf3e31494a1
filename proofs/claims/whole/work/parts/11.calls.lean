section FC
variable {p : Program} {l : Launch} {e : Env} {R : Room} {s : State} {m : MethodId} {args : Array Value} {below : List Frame} {meth : Method} {c : Code}
variable {D : va_G} {A : Nat → Prop} {nL : Nat} {Q : State → Prop} {ws : va_W} {cells slots : Nat} {lv : List (Nat × Value)} {pc : Nat} {st : List Value}
variable {cc : ByteArray} {own : String} {Ts : List Cond} {tys : List (ClassId × FieldType)}
/-- a world behind a method -/
def fw_B (D : va_G) (tys : List (ClassId × FieldType)) (A : Nat → Prop) (ws : va_W) (t : State) : Prop := va_P D vwCl ws t.heap ∧ va_K D vwCl tys t ∧ va_D A ws
def fw_S : List (Nat × String) := [(167, "a parameter is out of range"), (111, "the consignment is under way"), (70, "no more consignments can be announced"), (82, "the consignment is not under way"), (117, "the consignment is not at the door"), (144, "both stores are the same"), (62, "more than that is held"), (164, "there is no such consignment"), (169, "there is less of the sort in the store"), (95, "the manifest has nothing"), (128, "the consignment has to be searched"), (87, "the manifest says so already"), (136, "the guarantee does not reach")]
def fw_IA : String := "java/lang/IllegalArgumentException"
def fw_IS : String := "java/lang/IllegalStateException"
def fw_IO : String := "java/lang/IndexOutOfBoundsException"
def fw_anc : List String := ["java/lang/RuntimeException", "java/lang/Exception", Bundle.tN]
/-- what a method that throws needs of the machine's own statics, texts and tables (b: whether it throws) -/
def fw_E (b : Bool) (A : Nat → Prop) (U : State) : Prop := b = true →
  vx_Zq Bundle.tN "UNASSIGNED_STACK" Bundle.steD A U U.heap ∧ vx_Zq Bundle.tN "SUPPRESSED_SENTINEL" Bundle.listD A U U.heap ∧ (∀ q ∈ fw_S, ∃ a, vk_R RX1 q.1 q.2 a U) ∧ (∀ C ∈ [fw_IA, fw_IS, fw_IO], va_Nw (.castable C C) U) ∧ (∀ C ∈ fw_anc, va_Nw (.declares (Bundle.initS C)) U) ∧ va_Nw (.methodLinkNest RX0 50 yX1_placeOf RX1) U ∧ va_AO RX0 U ∧ va_Nc fw_IA fw_IO U ∧ va_Nc fw_IS fw_IO U ∧ va_Nc fw_IS fw_IA U
theorem fw_E_call {b b' : Bool} {A B : Nat → Prop} {s U : State} {H : Heap} {locs : List Loc} (hb : b' = true → b = true) (h : fw_E b A s) (hS : va_S A s.heap H locs) (hU : U.heap = H) (hW : s.WarmedH U.vm) (hAB : ∀ q, B q → A q) : fw_E b' B U := fun hb' => by
  obtain ⟨h1, h2, h3, h4, h6, h5, h7, h8, h9, h10⟩ := h (hb hb')
  refine ⟨?_, ?_, fun q hq => (h3 q hq).imp fun a ha => vk_R.warm hW ha, fun C hC => va_Nw.warmC hW (h4 C hC), fun C hC => va_Nw.warmD hW (h6 C hC), va_Nw.warmM hW h5, va_AO.moved hW.alike h7, h8.moved hW.alike, h9.moved hW.alike, h10.moved hW.alike⟩
  · rw [hU]; exact vx_Zq.moved hW.alike ((h1.kept hS.2.1).narrow hAB)
  · rw [hU]; exact vx_Zq.moved hW.alike ((h2.kept hS.2.1).narrow hAB)
theorem fw_E_blind {b : Bool} {A : Nat → Prop} {U : State} {g : JFrame} {mk : MethodId} {a : Array Value} (h : fw_E b A U) : fw_E b A (U.calling g mk a) := fun hb => by
  obtain ⟨h1, h2, h3, h4, h6, h5, h7, h8, h9, h10⟩ := h hb
  refine ⟨vx_Zq.moved (u := U) (U := U.calling g mk a) (Vm.Alike.refl U.vm) h1, vx_Zq.moved (u := U) (U := U.calling g mk a) (Vm.Alike.refl U.vm) h2, fun q hq => (h3 q hq).imp fun a ha => vk_R.same rfl ha, fun C hC => va_Nw.same rfl rfl (h4 C hC), fun C hC => va_Nw.same rfl rfl (h6 C hC), va_Nw.same rfl rfl h5, va_AO.moved (u := U) (U := U.calling g mk a) (Vm.Alike.refl U.vm) h7, va_Nc.moved (u := U) (U := U.calling g mk a) (Vm.Alike.refl U.vm) h8, va_Nc.moved (u := U) (U := U.calling g mk a) (Vm.Alike.refl U.vm) h9, va_Nc.moved (u := U) (U := U.calling g mk a) (Vm.Alike.refl U.vm) h10⟩
def fw_Pre (b : Bool) (D : va_G) (tys : List (ClassId × FieldType)) (ws : va_W) (sz : Nat) (U : State) : Prop := U.heap.size = sz ∧ va_P D vwCl ws U.heap ∧ va_K D vwCl tys U ∧ va_D (fun _ => True) ws ∧ fw_E b (va_A ws sz) U
def fw_Q {S : Type} (D : va_G) (tys : List (ClassId × FieldType)) (A : Nat → Prop) (post : Option Value → S → Prop) (WS : S → va_W) : Array Value → State → Outcome → State → Prop := fun _ st oc t => (∃ (r : Option Value) (u : S), oc = .returned r ∧ post r u ∧ fw_B D tys A (WS u) t) ∧ va_F A st t
def fw_XC (D : va_G) (tys : List (ClassId × FieldType)) (A : Nat → Prop) (PX : String → Prop) (ws : va_W) : String → State → State → Prop := fun E st t => PX E ∧ fw_B D tys A ws t ∧ va_F A st t
/-- THE CONTRACT: from the world ws, with the arguments av: it returns r with post r u and the world WS u, or throws a class with PX and the world is as before -/
def fw_C {S : Type} (l : Launch) (y : MethodName) (wy : List Cond) (rm : Room) (mc ms : Nat) (b : Bool) (av : List Value) (D : va_G) (tys : List (ClassId × FieldType)) (ws : va_W) (post : Option Value → S → Prop) (WS : S → va_W) (PX : String → Prop) : Prop :=
  ∀ sz : Nat, vx_Met l y wy rm (va_Pc av (fw_Pre b D tys ws sz)) (fw_Q D tys (va_A ws sz) post WS) (fw_XC D tys (va_A ws sz) PX ws) mc ms (va_A ws sz)
theorem fw_blind {av : List Value} {b : Bool} {sz : Nat} : FrameBlind (va_Pc av (fw_Pre b D tys ws sz)) := fun a U g mk q => by
  obtain ⟨q0, q1, qP, qK, qD, qE⟩ := q
  exact ⟨q0, q1, qP, va_K.moved (u := U) (U := U.calling g mk a) (Vm.Alike.refl U.vm) qK, qD, fw_E_blind qE⟩
/-- a method's entry -/
theorem fw_met {S : Type} {y : MethodName} {wy wy' : List Cond} {rm : Room} {mc ms : Nat} {b : Bool} {av : List Value} {post : Option Value → S → Prop} {WS : S → va_W} {PX : String → Prop} {maxL : Nat} {ret : Option FieldType} (hy : plainName y.cls = true) (hw : wy = Cond.code y cc maxL ret :: wy') (hsl : (lg_sl av).length ≤ maxL)
    (body : ∀ (p : Program) (e : Env) (s : State) (m : MethodId) (args : Array Value) (below : List Frame) (meth : Method) (c : Code) (A : Nat → Prop), fw_X p s m args c D A maxL cc y.cls wy tys → meth.sig.returnType = ret → meth.locks = false → meth.name = y.name → (∀ x ∈ c.exceptionTable.toList, False) → fw_E b A s →
      fw_W p l e rm s m args below meth c D A maxL (vx_MQ below (fw_Q D tys A post WS) (fw_XC D tys A PX ws) args s mc ms A) ws 0 0 (lv_args 0 av) 0 []) : fw_C l y wy rm mc ms b av D tys ws post WS PX := by
  intro sz
  refine vx_ofW (cc := cc) (maxL := maxL) (ret := ret) hy hw ?_
  intro p e s m args below meth c s₁ B hml htab hv
  obtain ⟨rfl, hsz, hP, hK, hD0, hE⟩ := hv
  have hts := atoms_spec (ws := wy) B.pre
  have hown : s.vm.findClass y.cls = some m.cls := findClass_of_methodNamed B.named
  have hA : ∀ q, s.heap.size ≤ q → va_A ws sz q := fun q h => Or.inr (by rw [← hsz]; exact h)
  have hl := lv_entry av (n := maxL) hsl
  have K := body p e s m av.toArray below meth c (va_A ws sz) ⟨⟨B.exec, B.bytes, hml, hown, hts⟩, hK, hA⟩ B.returns B.notSynchronized (name_of_methodNamed B.named B.method).1 htab hE
  rw [lg_entry_eq]
  exact K s.heap [] _ hl hP hD0.self va_S.rf
section Ends
variable {S : Type} {post : Option Value → S → Prop} {WS : S → va_W} {XC : String → State → State → Prop} {mc ms : Nat}
theorem fw_iret {v : Int32} (X : fw_X p s m args c D A nL cc own Ts tys) (hr : meth.sig.returnType = some .int) (hlk : meth.locks = false) (hc : cells ≤ mc) (hs : slots ≤ ms) (hdg : decode cc pc = .ok (.ireturn, 1)) (u : S) (hp : post (some (.int v)) u) (hw : ws = WS u) :
    fw_W p l e R s m args below meth c D A nL (vx_MQ below (fw_Q D tys A post WS) XC args s mc ms A) ws cells slots lv pc [.int v] := fun H locs ls h1 h2 h3 h4 =>
  W.widen hc hs (vx_ret (W.iret X.1.1 X.1.2.1 hr (fun t ht hW => ⟨⟨_, u, rfl, hp, by rw [ht, ← hw]; exact h2, va_K.moved hW.alike X.2.1, hw ▸ h3⟩, h4.F ht⟩) h4.2.2 hdg hlk))
theorem fw_zret {v : Int32} (X : fw_X p s m args c D A nL cc own Ts tys) (hr : meth.sig.returnType = some .boolean) (hn : narrow .boolean (.int v) = .int v) (hlk : meth.locks = false) (hc : cells ≤ mc) (hs : slots ≤ ms) (hdg : decode cc pc = .ok (.ireturn, 1)) (u : S) (hp : post (some (.int v)) u) (hw : ws = WS u) :
    fw_W p l e R s m args below meth c D A nL (vx_MQ below (fw_Q D tys A post WS) XC args s mc ms A) ws cells slots lv pc [.int v] := fun H locs ls h1 h2 h3 h4 =>
  W.widen hc hs (vx_ret (W.zret X.1.1 X.1.2.1 hr hn (fun t ht hW => ⟨⟨_, u, rfl, hp, by rw [ht, ← hw]; exact h2, va_K.moved hW.alike X.2.1, hw ▸ h3⟩, h4.F ht⟩) h4.2.2 hdg hlk))
theorem fw_vret (X : fw_X p s m args c D A nL cc own Ts tys) (hr : meth.sig.returnType = none) (hlk : meth.locks = false) (hc : cells ≤ mc) (hs : slots ≤ ms) (hdg : decode cc pc = .ok (.return_, 1)) (u : S) (hp : post none u) (hw : ws = WS u) :
    fw_W p l e R s m args below meth c D A nL (vx_MQ below (fw_Q D tys A post WS) XC args s mc ms A) ws cells slots lv pc [] := fun H locs ls h1 h2 h3 h4 =>
  W.widen hc hs (vx_ret (W.vret X.1.1 X.1.2.1 hr (fun t ht hW => ⟨⟨_, u, rfl, hp, by rw [ht, ← hw]; exact h2, va_K.moved hW.alike X.2.1, hw ▸ h3⟩, h4.F ht⟩) h4.2.2 hdg hlk))
theorem fw_aret {v : Nat} {C : String} (X : fw_X p s m args c D A nL cc own Ts tys) (hr : meth.sig.returnType = some (.object C)) (hlk : meth.locks = false) (hc : cells ≤ mc) (hs : slots ≤ ms) (hdg : decode cc pc = .ok (.areturn, 1)) (u : S) (hp : post (some (.ref v)) u) (hw : ws = WS u) :
    fw_W p l e R s m args below meth c D A nL (vx_MQ below (fw_Q D tys A post WS) XC args s mc ms A) ws cells slots lv pc [.ref v] := fun H locs ls h1 h2 h3 h4 =>
  W.widen hc hs (vx_ret (W.aret X.1.1 X.1.2.1 hr (Or.inl ⟨_, rfl⟩) (Or.inr ⟨_, rfl⟩) (fun t ht hW => ⟨⟨_, u, rfl, hp, by rw [ht, ← hw]; exact h2, va_K.moved hW.alike X.2.1, hw ▸ h3⟩, h4.F ht⟩) h4.2.2 hdg hlk))
/-- an exception of a callee goes on to the caller -/
theorem fw_out {Qc : Array Value → State → Outcome → State → Prop} {PX : String → Prop} {ws0 : va_W} {E : String} (X : fw_X p s m args c D A nL cc own Ts tys) (htab : ∀ x ∈ c.exceptionTable.toList, False) (hlk : meth.locks = false) (hc : cells ≤ mc) (hs : slots ≤ ms) (hp : PX E) (hw : ws = ws0) :
    fw_V p l e R s m args below meth c D A nL (vx_MQ below Qc (fw_XC D tys A PX ws0) args s mc ms A) ws cells slots lv pc st E := fun H locs ls ce q h1 h2 h3 h4 g1 g2 g3 =>
  vx_out (fun x hx => (htab x hx).elim) hlk g1 g2 g3 (fun t ht hW => ⟨hp, ⟨by rw [ht, ← hw]; exact h2, va_K.moved hW X.2.1, hw ▸ h3⟩, h4.F ht⟩) h4.2.2 hc hs
end Ends
theorem fw_free (X : fw_X p s m args c D A nL cc own Ts tys) {H : Heap} {locs : List Loc} (h3 : va_D A ws) (h4 : va_S A s.heap H locs) : ∀ q, va_A ws H.size q → A q := fun q h => by
  rcases h with ⟨k, e, h⟩ | h
  · exact h3.2 k (q, e) h
  · exact X.2.2 q (Nat.le_trans h4.1 h)
/-- a call, its world the whole one -/
theorem fw_run {S : Type} {post : Option Value → S → Prop} {WS : S → va_W} {PX : String → Prop} {mc ms : Nat} {av : Array Value} {stk : List Value} (X : fw_X p s m args c D A nL cc own Ts tys)
    (hr : ∀ (H : Heap) (locs : List Loc) (ls : Array Slot), lv_has ls nL lv → va_P D vwCl ws H → va_D A ws → va_S A s.heap H locs → vx_Run p l e R s m args below meth c H locs cells slots mc ms (F0 m pc ls stk) st (fw_Q D tys (va_A ws H.size) post WS av) (fw_XC D tys (va_A ws H.size) PX ws) (va_A ws H.size))
    (kx : ∀ E, PX E → fw_V p l e R s m args below meth c D A nL Q ws (cells + mc) (slots + ms) lv pc st E)
    (kk : ∀ (r : Option Value) (u : S), post r u → fw_W p l e R s m args below meth c D A nL Q (WS u) (cells + mc) (slots + ms) lv (pc + 3) (r.toList ++ st)) :
    fw_W p l e R s m args below meth c D A nL Q ws cells slots lv pc stk := fun H locs ls h1 h2 h3 h4 T hT X0 => by
  have hf := fw_free X h3 h4
  rcases hr H locs ls h1 h2 h3 h4 T hT X0 with ⟨v, st₀, t, T', L, h0, X', hL, e1, e2, ⟨⟨r, u, hv, hp, hb⟩, hF⟩, go⟩ | ⟨q, st₀, t, T', L, E, ce, h0, X', hL, e1, e2, ⟨hp, hb, hF⟩, hce, hcv, hcl, go⟩
  · cases hv
    obtain ⟨k1, k2, k3⟩ := vx_keep h0 e1 h4 (fun q _ h => hf q h) hf hL hF
    obtain ⟨t2, a1, b1⟩ := kk v u hp T'.heap (locs ++ L) ls h1 (by rw [e1]; exact hb.1) (hb.2.2.weaken (fun k q _ h => hf q.1 h)) k3 T' rfl X'
    exact ⟨t2, go t2 a1, b1⟩
  · obtain ⟨k1, k2, k3⟩ := vx_keep h0 e1 h4 (fun q _ h => hf q h) hf hL hF
    obtain ⟨t2, a1, b1⟩ := kx E hp T'.heap (locs ++ L) ls ce q h1 (by rw [e1]; exact hb.1) (hb.2.2.weaken (fun k q _ h => hf q.1 h)) k3 (by rw [e1]; exact hce) hcv hcl T' rfl X'
    exact ⟨t2, go.trans a1, b1⟩
section Calls
variable {S : Type} {y : MethodName} {bytes : ByteArray} {maxL n index : Nat} {ret : Option FieldType} {wy wy' : List Cond} {rm : Room} {mc ms : Nat} {b b' : Bool} {post : Option Value → S → Prop} {WS : S → va_W} {PX : String → Prop} {stk : List Value}
abbrev fw_dsc (y : MethodName) (n : Nat) : Prop := y.cls ≠ "java/lang/invoke/MethodHandle" ∧ y.cls ≠ "java/lang/invoke/VarHandle" ∧ (parseMethodDescriptor y.desc).map (fun d => d.parameters.length) = some n
theorem fw_callS (X : fw_X p s m args c D A nL cc own Ts tys) (hE : fw_E b A s) (As : List Value) (hM : fw_C l y wy rm mc ms b' As D tys ws post WS PX) (hb : b' = true → b = true) (hG : GoodIn Ts (va_wsS own index y wy)) (hw : wy = Cond.code y bytes maxL ret :: wy') (hrc : rm.cells = mc ∧ rm.slots = ms) (hd : fw_dsc y n) (hR : rm.frames + 1 ≤ R.frames ∧ 8 + (maxL + 11) + rm.locals ≤ R.locals)
    (hn : As.length = n) (hstk : stk = As.reverse ++ st) (hcat : (st.map fun v => v.category).sum ≤ 8) (hdg : decode cc pc = .ok (.invokestatic index, 3)) (hf : cells + mc ≤ R.cells ∧ slots + ms ≤ R.slots)
    (kx : ∀ E, PX E → fw_V p l e R s m args below meth c D A nL Q ws (cells + mc) (slots + ms) lv pc st E)
    (kk : ∀ (r : Option Value) (u : S), post r u → fw_W p l e R s m args below meth c D A nL Q (WS u) (cells + mc) (slots + ms) lv (pc + 3) (r.toList ++ st)) :
    fw_W p l e R s m args below meth c D A nL Q ws cells slots lv pc stk :=
  fw_run X (fun H locs ls h1 h2 h3 h4 => vx_runS X.1 (hM H.size) (va_cwS n X.1.2.2.2.2 hG hw hrc.1 hrc.2 hd hR) ⟨fw_blind, fun U hU hW => ⟨rfl, by rw [hU], by rw [hU]; exact h2, va_K.moved hW.alike X.2.1, h3.weaken (fun _ _ _ _ => trivial), fw_E_call hb hE h4 hU hW (fw_free X h3 h4)⟩⟩ rfl hn h1.1 hstk (lv_room hcat) hdg hf) kx kk
theorem fw_callV {C : vw_C} {ci q0 b0 : Nat} {fs : List Value} (X : fw_X p s m args c D A nL cc own Ts tys) (hE : fw_E b A s) (As : List Value) (hM : fw_C l y wy rm mc ms b' (.ref b0 :: As) D tys ws post WS PX) (hb : b' = true → b = true) (hG : GoodIn Ts (wsV own index C.1 y wy)) (hw : wy = Cond.code y bytes maxL ret :: wy') (hrc : rm.cells = mc ∧ rm.slots = ms) (hd : y.cls = C.1 ∧ fw_dsc y n) (hR : rm.frames + 1 ≤ R.frames ∧ 8 + (maxL + 11) + rm.locals ≤ R.locals)
    (hc : vwCl[ci]? = some C) (he : ws[q0]? = some (b0, .inr (ci, fs)))
    (hn : As.length = n) (hstk : stk = As.reverse ++ .ref b0 :: st) (hcat : (st.map fun v => v.category).sum ≤ 8) (hdg : decode cc pc = .ok (.invokevirtual index, 3)) (hf : cells + mc ≤ R.cells ∧ slots + ms ≤ R.slots)
    (kx : ∀ E, PX E → fw_V p l e R s m args below meth c D A nL Q ws (cells + mc) (slots + ms) lv pc st E)
    (kk : ∀ (r : Option Value) (u : S), post r u → fw_W p l e R s m args below meth c D A nL Q (WS u) (cells + mc) (slots + ms) lv (pc + 3) (r.toList ++ st)) :
    fw_W p l e R s m args below meth c D A nL Q ws cells slots lv pc stk :=
  fw_run X (fun H locs ls h1 h2 h3 h4 => vx_runV X.1 (hM H.size) (cwV n X.1.2.2.2.2 hG hw hrc.1 hrc.2 hd hR) ⟨fw_blind, va_recv X.2.1 h2 hc he, fun U hU hW => ⟨rfl, by rw [hU], by rw [hU]; exact h2, va_K.moved hW.alike X.2.1, h3.weaken (fun _ _ _ _ => trivial), fw_E_call hb hE h4 hU hW (fw_free X h3 h4)⟩⟩ rfl hn h1.1 hstk (lv_room hcat) hdg hf) kx kk
end Calls
section Throws
variable {Qc : Array Value → State → Outcome → State → Prop} {PX : String → Prop} {ws0 : va_W} {mc ms : Nat}
abbrev fw_chn : List String := ["java/lang/RuntimeException", "java/lang/Exception"]
theorem fw_chn_fit : ∀ n ∈ fw_chn, Bundle.fit n = true := by decide +kernel
theorem fw_throw (X : fw_X p s m args c D A nL cc RX1 Ts tys) (hE : fw_E true A s) (hl : l.stackTraces = false) {ik is ic : Nat} {cls text : String} (hfit : Bundle.fit cls = true) (hgood : ∀ w ∈ Cond.classLink RX1 ik cls :: Cond.initialized cls :: vx_atS RX1 ic cls fw_chn, vx_ot w = true) (hbad : ∀ w ∈ (vx_atS RX1 ic cls fw_chn).filter (fun w => !goodWord w), w ∈ Cond.castable cls cls :: fw_anc.map (fun C => Cond.declares (Bundle.initS C)))
    (hcls : cls ∈ [fw_IA, fw_IS, fw_IO]) (hin : (is, text) ∈ fw_S) (hk : Cond.classLink RX1 ik cls ∈ Ts) (hini : Cond.initialized cls ∈ Ts) (hat : ∀ w ∈ (vx_atS RX1 ic cls fw_chn).filter goodWord, w ∈ Ts)
    (d0 : decode cc pc = .ok (.new ik, 3)) (d3 : decode cc (pc + 3) = .ok (.dup, 1)) (d4 : decode cc (pc + 4) = .ok (.ldc is, 2)) (d6 : decode cc (pc + 6) = .ok (.invokespecial ic, 3)) (d9 : decode cc (pc + 9) = .ok (.athrow, 1))
    (hR : 5 < R.frames ∧ (st.map fun v => v.category).sum + 82 ≤ R.locals ∧ cells + 1 ≤ R.cells ∧ slots + 6 ≤ R.slots) (htab : ∀ x ∈ c.exceptionTable.toList, False) (hlk : meth.locks = false) (hp : PX cls) (hc : cells + 1 ≤ mc) (hs : slots + 6 ≤ ms) (hw : ws = ws0) :
    fw_W p l e R s m args below meth c D A nL (vx_MQ below Qc (fw_XC D tys A PX ws0) args s mc ms A) ws cells slots lv pc st := fun H locs ls h1 h2 h3 h4 => by
  obtain ⟨e1, e2, e3, e4, e5, -⟩ := hE rfl
  obtain ⟨sa, hsa⟩ := e3 _ hin
  have hts := X.1.2.2.2.2
  exact vx_throwS (names := fw_chn) X.1.1 X.1.2.1 hl X.1.2.2.2.1 hfit fw_chn_fit (hts _ hk) (hts _ hini) hsa (vx_hat (fun w hw => hts w (hat w hw)) hbad (vx_c (va_Nw.use rfl (e4 cls hcls)) (fun w hw => by obtain ⟨C, hC, rfl⟩ := List.mem_map.mp hw; exact va_Nw.use rfl (e5 C hC)))) hgood e1 e2 h4 (h1.1.trans X.1.2.2.1.symm) d0 d3 d4 d6 d9 (fun x hx => (htab x hx).elim) hR.1 hR.2.1 hR.2.2.1 hR.2.2.2 hlk
    (fun t hW g1 g2 => ⟨hp, ⟨by rw [← hw]; exact h2.kept (fun k q hk => g2 q.1 (h2 k q hk).lt), va_K.moved hW X.2.1, hw ▸ h3⟩, ⟨Nat.le_trans h4.1 g1, fun q g3 g4 => by rw [g2 q (Nat.lt_of_lt_of_le g3 h4.1)]; exact h4.2.1 q g3 g4⟩⟩) h4.2.2 hc hs
theorem fw_good_IA : ∀ w ∈ Cond.classLink RX1 142 fw_IA :: Cond.initialized fw_IA :: vx_atS RX1 146 fw_IA fw_chn, vx_ot w = true := by decide +kernel
theorem fw_good_IS : ∀ w ∈ Cond.classLink RX1 60 fw_IS :: Cond.initialized fw_IS :: vx_atS RX1 64 fw_IS fw_chn, vx_ot w = true := by decide +kernel
theorem fw_good_IO : ∀ w ∈ Cond.classLink RX1 162 fw_IO :: Cond.initialized fw_IO :: vx_atS RX1 166 fw_IO fw_chn, vx_ot w = true := by decide +kernel
theorem fw_bad_IA : ∀ w ∈ (vx_atS RX1 146 fw_IA fw_chn).filter (fun w => !goodWord w), w ∈ Cond.castable fw_IA fw_IA :: fw_anc.map (fun C => Cond.declares (Bundle.initS C)) := by decide +kernel
theorem fw_bad_IS : ∀ w ∈ (vx_atS RX1 64 fw_IS fw_chn).filter (fun w => !goodWord w), w ∈ Cond.castable fw_IS fw_IS :: fw_anc.map (fun C => Cond.declares (Bundle.initS C)) := by decide +kernel
theorem fw_bad_IO : ∀ w ∈ (vx_atS RX1 166 fw_IO fw_chn).filter (fun w => !goodWord w), w ∈ Cond.castable fw_IO fw_IO :: fw_anc.map (fun C => Cond.declares (Bundle.initS C)) := by decide +kernel
theorem fw_fit_IA : Bundle.fit fw_IA = true := by decide +kernel
theorem fw_fit_IS : Bundle.fit fw_IS = true := by decide +kernel
theorem fw_fit_IO : Bundle.fit fw_IO = true := by decide +kernel
end Throws
end FC
