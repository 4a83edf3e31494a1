section CTI
variable {p : Program} {l : Launch} {e : Env} {R : Room} {s : State} {m : MethodId} {args : Array Value} {below : List Frame} {meth : Method} {c : Code} {locs : List Loc} {cells slots : Nat}
section
variable {T : State}
theorem vx_callI (X : Stand p l e R s m args below meth c T locs cells slots) (hexec : p.tables.exec = Jvm.exec) {own : String} {index : Nat} {y : MethodName} {bytes : ByteArray} {maxL : Nat}
    (hown : s.vm.findClass own = some m.cls) (hy1 : y.name = "<init>") (hlink : (Cond.methodLink own index y).before args s = true) (hinst : (Cond.instanceMethod y).before args s = true)
    (hcode : (Cond.code y bytes maxL none).before args s = true) (hy : y.cls ≠ "java/lang/invoke/MethodHandle" ∧ y.cls ≠ "java/lang/invoke/VarHandle")
    {W9 : Nat} {Pre : Pt → Array Value → Prop} {Post : Pt → Array Value → Option Value → Pt → Prop} {PostX : Pt → Array Value → Addr → Pt → Prop} (hK : vx_Back l R p e below s args y 3 W9 Pre Post PostX)
    {g : JFrame} (hg : g.method = m) (hsize : g.locals.size = c.maxLocals) {a : Addr} {argsL rest : List Value} (hlen : ∀ sig, parseMethodDescriptor y.desc = some sig → argsL.length = sig.parameters.length)
    (hstack : g.stack = argsL.reverse ++ .ref a :: rest) (hW : 2 * g.monitorRoom + (rest.map fun v => v.category).sum ≤ W9) (hdg : decode c.code g.pc = .ok (.invokespecial index, 3))
    (hpre : ∀ vm₁, s.WarmedH vm₁ → Pre ⟨T.setVm vm₁, locs, cells, slots⟩ (Value.ref a :: argsL).toArray) :
    (∃ (v : Option Value) (vm₁ : Vm) (B : Pt), s.WarmedH vm₁ ∧ Stand p l e R s m args below meth c B.U B.locs B.cells B.slots ∧ Post ⟨T.setVm vm₁, locs, cells, slots⟩ (Value.ref a :: argsL).toArray v B ∧
      ∀ target, Steps p.tables e below (B.U.setTop { g with pc := g.pc + 3, stack := v.toList ++ rest }) target → Steps p.tables e below (T.setTop g) target) ∨
    (∃ (q : Addr) (vm₁ : Vm) (B : Pt), s.WarmedH vm₁ ∧ Stand p l e R s m args below meth c B.U B.locs B.cells B.slots ∧ PostX ⟨T.setVm vm₁, locs, cells, slots⟩ (Value.ref a :: argsL).toArray q B ∧
      Steps p.tables e below (T.setTop g) ((B.U.setTop { g with stack := rest }).pushFrame (.throwing q))) := by
  subst hg
  have hpl : e.platform.magicAccessors = ({} : Platform).magicAccessors := by rw [X.admits.platform]
  obtain ⟨mk, methM, cM, kP, vm₁, hnamed, hmethM, hcodeM, -, hlocalsM, -, hkP, -, hW₁, hstep₁⟩ := Steps.initColdArgs (e := e) X.here hexec X.warmed hpl hown hy1 hy hlink hinst hcode (f := g) rfl hlen hstack hdg
  have X₁ := X.noted hW₁
  rcases hK g.method meth c ⟨T.setVm vm₁, locs, cells, slots⟩ { g with stack := rest } (.invokespecial index) mk (Value.ref a :: argsL).toArray X₁ rfl hsize hdg hW (X₁.named hnamed) (hpre vm₁ X₁.warmed) with ⟨v, B, X', hpost, hsteps⟩ | ⟨q, B, X', hpost, hsteps⟩
  · exact Or.inl ⟨v, vm₁, B, X₁.warmed, X', hpost, fun target h => hstep₁ _ fun acts => by rw [doInvoke_state]; exact hsteps.trans h⟩
  · exact Or.inr ⟨q, vm₁, B, X₁.warmed, X', hpost, hstep₁ _ fun acts => by rw [doInvoke_state]; exact hsteps⟩
end
section
variable {H : Heap}
variable {y : MethodName} {bytes cc : ByteArray} {maxL nL mc ms n index : Nat} {ret : Option FieldType} {ws : List Cond} {rm : Room} {Pc : Array Value → State → Prop} {Qc : Array Value → State → Outcome → State → Prop} {XC : String → State → State → Prop} {free : Addr → Prop} {Ts : List Cond} {own C : String} {b : Addr} {As rest : List Value} {g : JFrame}
theorem vx_runI (S : CallFix p m c cc nL s args Ts own) (hM : vx_Met l y ws rm Pc Qc XC mc ms free) (cw : CallB R s args own index y bytes maxL none ws rm mc ms n ∧ y.name = "<init>" ∧ (Cond.instanceMethod y).before args s = true) (hp : PreS s H Pc (.ref b :: As))
    (hg : g.method = m) (hn : As.length = n) (hsize : g.locals.size = nL) (hstack : g.stack = As.reverse ++ .ref b :: rest) (hW : 2 * g.monitorRoom + (rest.map fun v => v.category).sum ≤ 8) (hdg : decode cc g.pc = .ok (.invokespecial index, 3)) (hf : cells + mc ≤ R.cells ∧ slots + ms ≤ R.slots) :
    vx_Run p l e R s m args below meth c H locs cells slots mc ms g rest (Qc (Value.ref b :: As).toArray) XC free := by
  have hK : vx_Back l R p e below s args y 3 8 (PreOf R mc ms Pc) (PostOf Qc mc ms free) (vx_Post XC mc ms free) := vx_callBack cw.1 hM hp.1
  obtain ⟨⟨-, -, -, -, -, -, hcode, -, hy, hlen, hl⟩, hy1, hin⟩ := cw
  obtain ⟨hx, hb, hml, ho, -⟩ := S
  have hPc := hp.2
  intro T hT X
  rcases vx_callI X hx (bytes := bytes) (maxL := maxL) ho hy1 hl hin hcode hy hK hg (hsize.trans hml.symm) (a := b) (argsL := As) (rest := rest) (fun sig h => hn.trans (hlen sig h)) hstack hW (by rw [hb]; exact hdg)
    (fun vm₁ hW₁ => ⟨hf.1, hf.2, hPc (T.setVm vm₁) hT hW₁⟩) with ⟨v, vm₁, ⟨U', l2, c2, s2⟩, hW₁, X', ⟨g', mk, t, L, e1, e2, hq, h1, hL, h2, h3⟩, st⟩ | ⟨q, vm₁, ⟨U', l2, c2, s2⟩, hW₁, X', ⟨g', mk, t, L, E, ce, e1, e2, hq, hce, hcv, hcl, h1, hL, h2, h3⟩, st⟩
  · dsimp only [Pt.U, Pt.locs, Pt.cells, Pt.slots] at X' e1 e2 h1 h2 h3 st
    subst h1; subst h2; subst h3
    exact Or.inl ⟨v, (T.setVm vm₁).calling g' mk (Value.ref b :: As).toArray, t, U', L, hT, X', hL, e1, e2, hq, st⟩
  · dsimp only [Pt.U, Pt.locs, Pt.cells, Pt.slots] at X' e1 e2 h1 h2 h3 st hcl
    subst h1; subst h2; subst h3
    exact Or.inr ⟨q, (T.setVm vm₁).calling g' mk (Value.ref b :: As).toArray, t, U', L, E, ce, hT, X', hL, e1, e2, hq, hce, hcv, vx_cls hW₁ hcl, st⟩
end
variable {D : va_G} {A : Nat → Prop} {nL : Nat} {Q : State → Prop} {ws : va_W} {lv : List (Nat × Value)} {pc : Nat} {st : List Value} {cc : ByteArray} {own : String} {Ts : List Cond} {tys : List (ClassId × FieldType)}
theorem fw_cA {U : State} {a b : ClassId} {ty : FieldType} (h1 : va_RA U a ty) (h2 : va_RA U b ty) : a = b := by
  cases ty with
  | object C =>
    obtain ⟨_, _, _, _, _, e1⟩ := h1
    obtain ⟨_, _, _, _, _, e2⟩ := h2
    exact Option.some.inj (e1.symm.trans e2)
  | _ => exact Option.some.inj (Eq.trans (Eq.symm h1) h2)
theorem fw_newa (X : fw_X p s m args c D A nL cc own Ts tys) {atype : ArrayType} {ty : FieldType} (hty : newarray.typeOf atype = ty) (harr : Cond.arrayClass (newarray.typeOf atype) ∈ Ts) (t0 : Nat) {cA : ClassId} (ht : tys[t0]? = some (cA, ty)) {a0 : vp_A} {N : Nat} (ha : ∀ cA, vp_cell cA a0 = arrV cA N (fun _ => defaultValue ty)) {x : Int32} (hx : x = nI N) (hN : N < 2 ^ 31) (hbytes : N * componentBytes ty ≤ 536870912) (hcells : cells + 1 ≤ R.cells) (hslots : slots + N ≤ R.slots) (hdg : decode cc pc = .ok (.newarray atype, 2))
    (kk : ∀ q : Nat, fw_W p l e R s m args below meth c D A nL Q (ws ++ [(q, .inl (cA, a0))]) (cells + 1) (slots + N) lv (pc + 2) (.ref q :: st)) : fw_W p l e R s m args below meth c D A nL Q ws cells slots lv pc (.int x :: st) := fun H locs ls h1 h2 h3 h4 => by
  subst hx
  refine va_newa X.1.1 X.1.2.1 (X.1.2.2.2.2 _ harr) hty X.2.1 h2 h3 h4 X.2.2 ha (nI_pos hN) (nI_clamp hN) hbytes hcells hslots hdg (fun q cA1 H1 hK1 g2 g3 g4 => ?_)
  have e1 : cA1 = cA := fw_cA (hK1.2 tys.length (cA1, ty) (by simp)).2 (X.2.1.2 t0 _ ht).2
  subst e1
  exact kk q H1 locs ls h1 g2 g3 g4
theorem fw_newq (X : fw_X p s m args c D A nL cc own Ts tys) {C : String} {index : Nat} (hover : va_AO C s) (hlink : Cond.classLink own index C ∈ Ts) (t0 : Nat) {cA : ClassId} (ht : tys[t0]? = some (cA, .object C)) {N : Nat} {x : Int32} (hx : x = nI N) (hN : N < 2 ^ 31) (hbytes : N * 4 ≤ 536870912) (hcells : cells + 1 ≤ R.cells) (hslots : slots + N ≤ R.slots) (hdg : decode cc pc = .ok (.anewarray index, 3))
    (kk : ∀ q : Nat, fw_W p l e R s m args below meth c D A nL Q (ws ++ [(q, .inl (cA, N, .inr (.inr (.inr (.inr (fun _ => none))))))]) (cells + 1) (slots + N) lv (pc + 3) (.ref q :: st)) : fw_W p l e R s m args below meth c D A nL Q ws cells slots lv pc (.int x :: st) := fun H locs ls h1 h2 h3 h4 => by
  subst hx
  refine va_newq X.1.1 X.1.2.1 X.1.2.2.2.1 (X.1.2.2.2.2 _ hlink) hover X.2.1 h2 h3 h4 X.2.2 (nI_pos hN) (nI_clamp hN) hbytes hcells hslots hdg (fun q cA1 H1 hK1 g2 g3 g4 => ?_)
  have e1 : cA1 = cA := fw_cA (hK1.2 tys.length (cA1, .object C) (by simp)).2 (X.2.1.2 t0 _ ht).2
  subst e1
  exact kk q H1 locs ls h1 g2 g3 g4
theorem fw_new (X : fw_X p s m args c D A nL cc own Ts tys) {C : String} {T : u_T} {N ci index : Nat} (hin : ∀ w ∈ u_ws C T N, w ∈ Ts) (ty : Nat → FieldType) (hty : ∀ k, k < N → parseFieldDescriptor (T k).2.2.1 = some (ty k)) (hcl : Cond.classLink own index C ∈ Ts) (hinst : Cond.instantiable C N ∈ Ts) (hini : Cond.initialized C ∈ Ts) (hc : vwCl[ci]? = some (C, T, N)) {fs : List Value} (hfs : ∀ j, j < N → defaultValue (ty j) = vp_V fs j) (hcells : cells + 1 ≤ R.cells) (hslots : slots + N ≤ R.slots) (hdg : decode cc pc = .ok (.new index, 3))
    (kk : ∀ q : Nat, fw_W p l e R s m args below meth c D A nL Q (ws ++ [(q, .inr (ci, fs))]) (cells + 1) (slots + N) lv (pc + 3) (.ref q :: st)) : fw_W p l e R s m args below meth c D A nL Q ws cells slots lv pc st := fun H locs ls h1 h2 h3 h4 =>
  va_new X.1.1 X.1.2.1 X.1.2.2.2.2 hin ty hty X.1.2.2.2.1 (X.1.2.2.2.2 _ hcl) (X.1.2.2.2.2 _ hinst) (X.1.2.2.2.2 _ hini) X.2.1 h2 h3 h4 X.2.2 hc hfs hcells hslots hdg (fun q H1 g2 g3 g4 => kk q H1 locs ls h1 g2 g3 g4)
theorem fw_objInit (X : fw_X p s m args c D A nL cc own Ts tys) {a idx : Nat} (hlink : Cond.methodLink own idx objectInit ∈ Ts) (hinst : Cond.instanceMethod objectInit ∈ Ts) (hcode : Cond.code objectInit ⟨#[0xb1]⟩ 1 none ∈ Ts) (hd : decode cc pc = .ok (.invokespecial idx, 3)) (hfr : 1 ≤ R.frames) (hlo : (st.map fun v => v.category).sum + 12 ≤ R.locals)
    (kk : fw_W p l e R s m args below meth c D A nL Q ws cells slots lv (pc + 3) st) : fw_W p l e R s m args below meth c D A nL Q ws cells slots lv pc (.ref a :: st) := fun H locs ls h1 h2 h3 h4 => by
  have hts := X.1.2.2.2.2
  exact W.objInit X.1.1 X.1.2.1 X.1.2.2.2.1 (hts _ hlink) (hts _ hinst) (hts _ hcode) (g := F0 m pc ls (.ref a :: st)) rfl (h1.1.trans X.1.2.2.1.symm) rfl hd hfr (by show 2 * 0 + _ + 12 ≤ _; omega) (kk H locs ls h1 h2 h3 h4)
/-- a call whose world is a part of the caller's -/
theorem fw_runR {S : Type} {wc wr : va_W} {post : Option Value → S → Prop} {WS : S → va_W} {PX : String → Prop} {mc ms : Nat} {av : Array Value} {stk : List Value} (X : fw_X p s m args c D A nL cc own Ts tys)
    (hr : ∀ (H : Heap) (locs : List Loc) (ls : Array Slot), lv_has ls nL lv → va_P D vwCl wc H → va_D A wc → va_S A s.heap H locs → vx_Run p l e R s m args below meth c H locs cells slots mc ms (F0 m pc ls stk) st (fw_Q D tys (va_A wc H.size) post WS av) (fw_XC D tys (va_A wc H.size) PX wc) (va_A wc H.size))
    (kx : ∀ E, PX E → fw_V p l e R s m args below meth c D A nL Q (wc ++ wr) (cells + mc) (slots + ms) lv pc st E)
    (kk : ∀ (r : Option Value) (u : S), post r u → fw_W p l e R s m args below meth c D A nL Q (WS u ++ wr) (cells + mc) (slots + ms) lv (pc + 3) (r.toList ++ st)) :
    fw_W p l e R s m args below meth c D A nL Q (wc ++ wr) cells slots lv pc stk := fun H locs ls h1 h2 h3 h4 T hT X0 => by
  have hPc : va_P D vwCl wc H := fun k q hk => h2 k q (by rw [List.getElem?_append_left (List.getElem?_eq_some_iff.mp hk).1]; exact hk)
  have hPr : va_P D vwCl wr H := fun k q hk => h2 (wc.length + k) q (by rw [List.getElem?_append_right (by omega), Nat.add_sub_cancel_left]; exact hk)
  have hDc : va_D A wc := ⟨fun i j a b ha hb hab => h3.1 i j a b (by rw [List.getElem?_append_left (List.getElem?_eq_some_iff.mp ha).1]; exact ha) (by rw [List.getElem?_append_left (List.getElem?_eq_some_iff.mp hb).1]; exact hb) hab, fun k q hk => h3.2 k q (by rw [List.getElem?_append_left (List.getElem?_eq_some_iff.mp hk).1]; exact hk)⟩
  have hDr : va_D A wr := ⟨fun i j a b ha hb hab => by
    have := h3.1 (wc.length + i) (wc.length + j) a b (by rw [List.getElem?_append_right (by omega), Nat.add_sub_cancel_left]; exact ha) (by rw [List.getElem?_append_right (by omega), Nat.add_sub_cancel_left]; exact hb) hab
    omega, fun k q hk => h3.2 (wc.length + k) q (by rw [List.getElem?_append_right (by omega), Nat.add_sub_cancel_left]; exact hk)⟩
  have hap : ∀ (k : Nat) (q : Nat × va_E), wr[k]? = some q → q.1 < H.size ∧ ¬ va_A wc H.size q.1 := by
    intro k q hk
    refine ⟨(hPr k q hk).lt, fun h => ?_⟩
    rcases h with ⟨i, e, h⟩ | h
    · have hi := (List.getElem?_eq_some_iff.mp h).1
      have := h3.1 i (wc.length + k) (q.1, e) q (by rw [List.getElem?_append_left hi]; exact h) (by rw [List.getElem?_append_right (by omega), Nat.add_sub_cancel_left]; exact hk) rfl
      omega
    · exact absurd (hPr k q hk).lt (by omega)
  have hf := fw_free X hDc h4
  have hjoin : ∀ (w1 : va_W) (H1 : Heap), va_P D vwCl w1 H1 → va_D (va_A wc H.size) w1 → (∀ q : Nat, q < H.size → ¬ va_A wc H.size q → H1[q]? = H[q]?) → va_P D vwCl (w1 ++ wr) H1 ∧ va_D A (w1 ++ wr) := by
    intro w1 H1 g1 g2 g3
    refine ⟨va_P.app g1 (hPr.kept (fun k q hk => g3 q.1 (hap k q hk).1 (hap k q hk).2)), va_D.app (g2.weaken (fun k q _ h => hf q.1 h)) hDr (fun i j a b ha hb hab => ?_)⟩
    exact (hap j b hb).2 (by rw [← hab]; exact g2.2 i a ha)
  rcases hr H locs ls h1 hPc hDc h4 T hT X0 with ⟨v, st₀, t, T', L, h0, X', hL, e1, e2, ⟨⟨r, u, hv, hp, hb⟩, hF⟩, go⟩ | ⟨q, st₀, t, T', L, E, ce, h0, X', hL, e1, e2, ⟨hp, hb, hF⟩, hce, hcv, hcl, go⟩
  · cases hv
    obtain ⟨k1, k2, k3⟩ := vx_keep h0 e1 h4 (fun q _ h => hf q h) hf hL hF
    obtain ⟨j1, j2⟩ := hjoin (WS u) T'.heap (by rw [e1]; exact hb.1) hb.2.2 k2
    obtain ⟨t2, a1, b1⟩ := kk v u hp T'.heap (locs ++ L) ls h1 j1 j2 k3 T' rfl X'
    exact ⟨t2, go t2 a1, b1⟩
  · obtain ⟨k1, k2, k3⟩ := vx_keep h0 e1 h4 (fun q _ h => hf q h) hf hL hF
    obtain ⟨j1, j2⟩ := hjoin wc T'.heap (by rw [e1]; exact hb.1) hb.2.2 k2
    obtain ⟨t2, a1, b1⟩ := kx E hp T'.heap (locs ++ L) ls ce q h1 j1 j2 k3 (by rw [e1]; exact hce) hcv hcl T' rfl X'
    exact ⟨t2, go.trans a1, b1⟩
section
variable {S : Type} {y : MethodName} {bytes : ByteArray} {maxL n index : Nat} {ret : Option FieldType} {wy wy' : List Cond} {rm : Room} {mc ms : Nat} {b b' : Bool} {post : Option Value → S → Prop} {WS : S → va_W} {PX : String → Prop} {stk : List Value} {wc wr : va_W}
theorem fw_callIR {b0 : Nat} (X : fw_X p s m args c D A nL cc own Ts tys) (hE : fw_E b A s) (As : List Value) (hM : fw_C l y wy rm mc ms b' (.ref b0 :: As) D tys wc post WS PX) (hb : b' = true → b = true) (hG : GoodIn Ts wy) (hw : wy = Cond.code y bytes maxL none :: wy') (hrc : rm.cells = mc ∧ rm.slots = ms) (hd : fw_dsc y n) (hR : rm.frames + 1 ≤ R.frames ∧ 8 + (maxL + 11) + rm.locals ≤ R.locals)
    (hini : Cond.initialized y.cls ∈ Ts) (hl : Cond.methodLink own index y ∈ Ts) (hin : Cond.instanceMethod y ∈ Ts) (hy1 : y.name = "<init>")
    (hn : As.length = n) (hstk : stk = As.reverse ++ .ref b0 :: st) (hcat : (st.map fun v => v.category).sum ≤ 8) (hdg : decode cc pc = .ok (.invokespecial index, 3)) (hf : cells + mc ≤ R.cells ∧ slots + ms ≤ R.slots)
    (kx : ∀ E, PX E → fw_V p l e R s m args below meth c D A nL Q (wc ++ wr) (cells + mc) (slots + ms) lv pc st E)
    (kk : ∀ (r : Option Value) (u : S), post r u → fw_W p l e R s m args below meth c D A nL Q (WS u ++ wr) (cells + mc) (slots + ms) lv (pc + 3) (r.toList ++ st)) :
    fw_W p l e R s m args below meth c D A nL Q (wc ++ wr) cells slots lv pc stk :=
  fw_runR X (fun H locs ls h1 h2 h3 h4 => vx_runI X.1 (hM H.size) (cwI n X.1.2.2.2.2 hG hw hrc.1 hrc.2 (X.1.2.2.2.2 _ hini) (X.1.2.2.2.2 _ hl) (X.1.2.2.2.2 _ hin) hy1 hd hR) ⟨fw_blind, fun U hU hW => ⟨rfl, by rw [hU], by rw [hU]; exact h2, va_K.moved hW.alike X.2.1, h3.weaken (fun _ _ _ _ => trivial), fw_E_call hb hE h4 hU hW (fw_free X h3 h4)⟩⟩ rfl hn h1.1 hstk (lv_room hcat) hdg hf) kx kk
end
end CTI
def F0M : Nat → Int32 := fun k => if k = 3 then 25 else 0
def b_one : Nat → Int32 := upd (upd (upd (upd (upd (upd (fun _ => 0) 0 1) 1 1) 2 1) 3 1) 4 1) 5 1
def G0M : Nat → Nat → Int32 := fun k => if k = 1 then b_one else fun _ => 0
def f0B : Nat → Int32 := fun k => if k = 8 then 25 else 0
def g0B : Nat → Nat → Int32 := fun k => if k = 0 then b_one else fun _ => 0
def c0F (x y : Int32) : Nat → Int32 := fun k => if k = 0 then x else if k = 1 then y else 0
def c0G : Nat → Nat → Int32 := fun _ _ => 0
def adM (l : List Nat) : Nat → Nat := fun k => l.getD k 0
def NW (K : Nat → ClassId) (a : Nat → Nat) (f : Nat → Int32) (g : Nat → Nat → Int32) : va_W := [(a 0, .inr (0, [.int (f 0), .int (f 1), .ref (a 2), .ref (a 3), .ref (a 4), .int (f 5), .int (f 6), .int (f 7), .int (f 8), .int (f 9), .int (f 10), .int (f 11)])), (a 2, .inl (K 0, 6, .inl (g 2))), (a 3, .inl (K 0, 6, .inl (g 3))), (a 4, .inl (K 0, 18, .inl (g 4)))]
theorem kX2_init_oi : Cond.methodLink RX2 1 objectInit ∈ wsX2_init := by decide +kernel
theorem kX2_init_oj : Cond.instanceMethod objectInit ∈ wsX2_init := by decide +kernel
theorem kX2_init_ok : Cond.code objectInit ⟨#[0xb1]⟩ 1 none ∈ wsX2_init := by decide +kernel
theorem kX2_init_acint : Cond.arrayClass .int ∈ wsX2_init := by decide +kernel
theorem kX2_init_7 : Cond.fieldLink RX2 7 (TX2 1).1 (TX2 1).2.1 (TX2 1).2.2.1 ∈ wsX2_init := by decide +kernel
set_option maxRecDepth 20000 in
theorem iX2_init_X2 : ∀ w ∈ wsX20, w ∈ wsX2_init := by decide +kernel
theorem kX2_init_13 : Cond.fieldLink RX2 13 (TX2 2).1 (TX2 2).2.1 (TX2 2).2.2.1 ∈ wsX2_init := by decide +kernel
theorem kX2_init_16 : Cond.fieldLink RX2 16 (TX2 3).1 (TX2 3).2.1 (TX2 3).2.2.1 ∈ wsX2_init := by decide +kernel
theorem kX2_init_20 : Cond.fieldLink RX2 20 (TX2 5).1 (TX2 5).2.1 (TX2 5).2.2.1 ∈ wsX2_init := by decide +kernel
theorem kX2_init_23 : Cond.fieldLink RX2 23 (TX2 6).1 (TX2 6).2.1 (TX2 6).2.2.1 ∈ wsX2_init := by decide +kernel
theorem kX2_init_26 : Cond.fieldLink RX2 26 (TX2 7).1 (TX2 7).2.1 (TX2 7).2.2.1 ∈ wsX2_init := by decide +kernel
theorem kX2_init_29 : Cond.fieldLink RX2 29 (TX2 8).1 (TX2 8).2.1 (TX2 8).2.2.1 ∈ wsX2_init := by decide +kernel
theorem kX2_init_32 : Cond.fieldLink RX2 32 (TX2 9).1 (TX2 9).2.1 (TX2 9).2.2.1 ∈ wsX2_init := by decide +kernel
theorem kX2_init_35 : Cond.fieldLink RX2 35 (TX2 10).1 (TX2 10).2.1 (TX2 10).2.2.1 ∈ wsX2_init := by decide +kernel
theorem kX2_init_38 : Cond.fieldLink RX2 38 (TX2 11).1 (TX2 11).2.1 (TX2 11).2.2.1 ∈ wsX2_init := by decide +kernel
theorem kX2_init_41 : Cond.fieldLink RX2 41 (TX2 12).1 (TX2 12).2.1 (TX2 12).2.2.1 ∈ wsX2_init := by decide +kernel
theorem kX2_init_44 : Cond.fieldLink RX2 44 (TX2 13).1 (TX2 13).2.1 (TX2 13).2.2.1 ∈ wsX2_init := by decide +kernel
theorem kX2_init_acboolean : Cond.arrayClass .boolean ∈ wsX2_init := by decide +kernel
theorem kX2_init_47 : Cond.fieldLink RX2 47 (TX2 14).1 (TX2 14).2.1 (TX2 14).2.2.1 ∈ wsX2_init := by decide +kernel
theorem kX2_init_51 : Cond.fieldLink RX2 51 (TX2 15).1 (TX2 15).2.1 (TX2 15).2.2.1 ∈ wsX2_init := by decide +kernel
theorem kX2_init_54 : Cond.fieldLink RX2 54 (TX2 16).1 (TX2 16).2.1 (TX2 16).2.2.1 ∈ wsX2_init := by decide +kernel
theorem kX2_init_57 : Cond.fieldLink RX2 57 (TX2 17).1 (TX2 17).2.1 (TX2 17).2.2.1 ∈ wsX2_init := by decide +kernel
theorem kX2_init_60 : Cond.fieldLink RX2 60 (TX2 18).1 (TX2 18).2.1 (TX2 18).2.2.1 ∈ wsX2_init := by decide +kernel
theorem dsc_X2_init : fw_dsc yX2_init 0 := by decide +kernel
set_option maxHeartbeats 4000000 in
set_option maxRecDepth 100000 in
theorem ct_X2_init {l : Launch} {D : va_G} {K : Nat → ClassId} (h0 : Nat)  : fw_C (S := Nat → Nat) l yX2_init wsX2_init ({ frames := 1, cells := 16, slots := 594, locals := 12 }) 16 594 true [.ref h0] D (tyS K) ([(h0, .inr (2, [.int 0, .null, .null, .int 0, .int 0, .null, .null, .null, .null, .null, .null, .null, .null, .null, .null, .null, .null, .null, .null, .int 0, .int 0]))]) (fun r u => r = none ∧ u 0 = h0) (fun u => MW K u F0M G0M) (fun _ => False) := by
  refine fw_met (maxL := 2) (ret := none) (by decide) rfl (Nat.le_of_ble_eq_true rfl) ?_
  intro p e s m args below meth c A X hr hlk hnm htab hE
  refine fw_lv (lv' := [(0, .ref h0)]) [0] rfl ?_
  refine fw_aload_n (pc := 0) X dX2_init_0 rfl 0 rfl ?_
  refine fw_objInit (pc := 1) X kX2_init_oi kX2_init_oj kX2_init_ok dX2_init_1 (Nat.le_of_ble_eq_true rfl) (Nat.le_of_ble_eq_true rfl) ?_
  refine fw_aload_n (pc := 4) X dX2_init_4 rfl 0 rfl ?_
  refine fw_bipush (pc := 5) (v := 6) X dX2_init_5 (by decide) ?_
  refine fw_newa (pc := 7) (atype := .int) (ty := .int) (cA := K 0) (a0 := (6, .inl (fun _ => 0))) (N := 6) X rfl kX2_init_acint 0 rfl (fun _ => rfl) rfl (by decide) (by decide) (Nat.le_of_ble_eq_true rfl) (Nat.le_of_ble_eq_true rfl) dX2_init_7 (fun q7 => ?_)
  refine fw_ws (ws' := [(h0, .inr (2, [.int 0, .null, .null, .int 0, .int 0, .null, .null, .null, .null, .null, .null, .null, .null, .null, .null, .null, .null, .null, .null, .int 0, .int 0])), (q7, .inl (K 0, 6, .inl (fun _ => 0)))]) rfl ?_
  refine fw_putF (pc := 9) (ws' := [(h0, .inr (2, [.int 0, .ref q7, .null, .int 0, .int 0, .null, .null, .null, .null, .null, .null, .null, .null, .null, .null, .null, .null, .null, .null, .int 0, .int 0])), (q7, .inl (K 0, 6, .inl (fun _ => 0)))]) X iX2_init_X2 tyX2 tyX2_ok nmX2 0 rfl rfl 1 (by decide) kX2_init_7 rfl hnm rfl rfl rfl (Nat.le_of_ble_eq_true rfl) dX2_init_9 rfl ?_
  refine fw_aload_n (pc := 12) X dX2_init_12 rfl 0 rfl ?_
  refine fw_bipush (pc := 13) (v := 6) X dX2_init_13 (by decide) ?_
  refine fw_newa (pc := 15) (atype := .int) (ty := .int) (cA := K 0) (a0 := (6, .inl (fun _ => 0))) (N := 6) X rfl kX2_init_acint 0 rfl (fun _ => rfl) rfl (by decide) (by decide) (Nat.le_of_ble_eq_true rfl) (Nat.le_of_ble_eq_true rfl) dX2_init_15 (fun q15 => ?_)
  refine fw_ws (ws' := [(h0, .inr (2, [.int 0, .ref q7, .null, .int 0, .int 0, .null, .null, .null, .null, .null, .null, .null, .null, .null, .null, .null, .null, .null, .null, .int 0, .int 0])), (q7, .inl (K 0, 6, .inl (fun _ => 0))), (q15, .inl (K 0, 6, .inl (fun _ => 0)))]) rfl ?_
  refine fw_putF (pc := 17) (ws' := [(h0, .inr (2, [.int 0, .ref q7, .ref q15, .int 0, .int 0, .null, .null, .null, .null, .null, .null, .null, .null, .null, .null, .null, .null, .null, .null, .int 0, .int 0])), (q7, .inl (K 0, 6, .inl (fun _ => 0))), (q15, .inl (K 0, 6, .inl (fun _ => 0)))]) X iX2_init_X2 tyX2 tyX2_ok nmX2 0 rfl rfl 2 (by decide) kX2_init_13 rfl hnm rfl rfl rfl (Nat.le_of_ble_eq_true rfl) dX2_init_17 rfl ?_
  refine fw_aload_n (pc := 20) X dX2_init_20 rfl 0 rfl ?_
  refine fw_bipush (pc := 21) (v := 25) X dX2_init_21 (by decide) ?_
  refine fw_put (pc := 23) (ws' := [(h0, .inr (2, [.int 0, .ref q7, .ref q15, .int 25, .int 0, .null, .null, .null, .null, .null, .null, .null, .null, .null, .null, .null, .null, .null, .null, .int 0, .int 0])), (q7, .inl (K 0, 6, .inl (fun _ => 0))), (q15, .inl (K 0, 6, .inl (fun _ => 0)))]) X iX2_init_X2 tyX2 tyX2_ok nmX2 0 rfl rfl 3 (by decide) kX2_init_16 rfl rfl rfl (Nat.le_of_ble_eq_true rfl) dX2_init_23 rfl ?_
  refine fw_aload_n (pc := 26) X dX2_init_26 rfl 0 rfl ?_
  refine fw_iconst (pc := 27) (v := 4) X dX2_init_27 (by decide) ?_
  refine fw_newa (pc := 28) (atype := .int) (ty := .int) (cA := K 0) (a0 := (4, .inl (fun _ => 0))) (N := 4) X rfl kX2_init_acint 0 rfl (fun _ => rfl) rfl (by decide) (by decide) (Nat.le_of_ble_eq_true rfl) (Nat.le_of_ble_eq_true rfl) dX2_init_28 (fun q28 => ?_)
  refine fw_ws (ws' := [(h0, .inr (2, [.int 0, .ref q7, .ref q15, .int 25, .int 0, .null, .null, .null, .null, .null, .null, .null, .null, .null, .null, .null, .null, .null, .null, .int 0, .int 0])), (q7, .inl (K 0, 6, .inl (fun _ => 0))), (q15, .inl (K 0, 6, .inl (fun _ => 0))), (q28, .inl (K 0, 4, .inl (fun _ => 0)))]) rfl ?_
  refine fw_putF (pc := 30) (ws' := [(h0, .inr (2, [.int 0, .ref q7, .ref q15, .int 25, .int 0, .ref q28, .null, .null, .null, .null, .null, .null, .null, .null, .null, .null, .null, .null, .null, .int 0, .int 0])), (q7, .inl (K 0, 6, .inl (fun _ => 0))), (q15, .inl (K 0, 6, .inl (fun _ => 0))), (q28, .inl (K 0, 4, .inl (fun _ => 0)))]) X iX2_init_X2 tyX2 tyX2_ok nmX2 0 rfl rfl 5 (by decide) kX2_init_20 rfl hnm rfl rfl rfl (Nat.le_of_ble_eq_true rfl) dX2_init_30 rfl ?_
  refine fw_aload_n (pc := 33) X dX2_init_33 rfl 0 rfl ?_
  refine fw_iconst (pc := 34) (v := 4) X dX2_init_34 (by decide) ?_
  refine fw_newa (pc := 35) (atype := .int) (ty := .int) (cA := K 0) (a0 := (4, .inl (fun _ => 0))) (N := 4) X rfl kX2_init_acint 0 rfl (fun _ => rfl) rfl (by decide) (by decide) (Nat.le_of_ble_eq_true rfl) (Nat.le_of_ble_eq_true rfl) dX2_init_35 (fun q35 => ?_)
  refine fw_ws (ws' := [(h0, .inr (2, [.int 0, .ref q7, .ref q15, .int 25, .int 0, .ref q28, .null, .null, .null, .null, .null, .null, .null, .null, .null, .null, .null, .null, .null, .int 0, .int 0])), (q7, .inl (K 0, 6, .inl (fun _ => 0))), (q15, .inl (K 0, 6, .inl (fun _ => 0))), (q28, .inl (K 0, 4, .inl (fun _ => 0))), (q35, .inl (K 0, 4, .inl (fun _ => 0)))]) rfl ?_
  refine fw_putF (pc := 37) (ws' := [(h0, .inr (2, [.int 0, .ref q7, .ref q15, .int 25, .int 0, .ref q28, .ref q35, .null, .null, .null, .null, .null, .null, .null, .null, .null, .null, .null, .null, .int 0, .int 0])), (q7, .inl (K 0, 6, .inl (fun _ => 0))), (q15, .inl (K 0, 6, .inl (fun _ => 0))), (q28, .inl (K 0, 4, .inl (fun _ => 0))), (q35, .inl (K 0, 4, .inl (fun _ => 0)))]) X iX2_init_X2 tyX2 tyX2_ok nmX2 0 rfl rfl 6 (by decide) kX2_init_23 rfl hnm rfl rfl rfl (Nat.le_of_ble_eq_true rfl) dX2_init_37 rfl ?_
  refine fw_aload_n (pc := 40) X dX2_init_40 rfl 0 rfl ?_
  refine fw_iconst (pc := 41) (v := 4) X dX2_init_41 (by decide) ?_
  refine fw_newa (pc := 42) (atype := .int) (ty := .int) (cA := K 0) (a0 := (4, .inl (fun _ => 0))) (N := 4) X rfl kX2_init_acint 0 rfl (fun _ => rfl) rfl (by decide) (by decide) (Nat.le_of_ble_eq_true rfl) (Nat.le_of_ble_eq_true rfl) dX2_init_42 (fun q42 => ?_)
  refine fw_ws (ws' := [(h0, .inr (2, [.int 0, .ref q7, .ref q15, .int 25, .int 0, .ref q28, .ref q35, .null, .null, .null, .null, .null, .null, .null, .null, .null, .null, .null, .null, .int 0, .int 0])), (q7, .inl (K 0, 6, .inl (fun _ => 0))), (q15, .inl (K 0, 6, .inl (fun _ => 0))), (q28, .inl (K 0, 4, .inl (fun _ => 0))), (q35, .inl (K 0, 4, .inl (fun _ => 0))), (q42, .inl (K 0, 4, .inl (fun _ => 0)))]) rfl ?_
  refine fw_putF (pc := 44) (ws' := [(h0, .inr (2, [.int 0, .ref q7, .ref q15, .int 25, .int 0, .ref q28, .ref q35, .ref q42, .null, .null, .null, .null, .null, .null, .null, .null, .null, .null, .null, .int 0, .int 0])), (q7, .inl (K 0, 6, .inl (fun _ => 0))), (q15, .inl (K 0, 6, .inl (fun _ => 0))), (q28, .inl (K 0, 4, .inl (fun _ => 0))), (q35, .inl (K 0, 4, .inl (fun _ => 0))), (q42, .inl (K 0, 4, .inl (fun _ => 0)))]) X iX2_init_X2 tyX2 tyX2_ok nmX2 0 rfl rfl 7 (by decide) kX2_init_26 rfl hnm rfl rfl rfl (Nat.le_of_ble_eq_true rfl) dX2_init_44 rfl ?_
  refine fw_aload_n (pc := 47) X dX2_init_47 rfl 0 rfl ?_
  refine fw_bipush (pc := 48) (v := 15) X dX2_init_48 (by decide) ?_
  refine fw_newa (pc := 50) (atype := .int) (ty := .int) (cA := K 0) (a0 := (15, .inl (fun _ => 0))) (N := 15) X rfl kX2_init_acint 0 rfl (fun _ => rfl) rfl (by decide) (by decide) (Nat.le_of_ble_eq_true rfl) (Nat.le_of_ble_eq_true rfl) dX2_init_50 (fun q50 => ?_)
  refine fw_ws (ws' := [(h0, .inr (2, [.int 0, .ref q7, .ref q15, .int 25, .int 0, .ref q28, .ref q35, .ref q42, .null, .null, .null, .null, .null, .null, .null, .null, .null, .null, .null, .int 0, .int 0])), (q7, .inl (K 0, 6, .inl (fun _ => 0))), (q15, .inl (K 0, 6, .inl (fun _ => 0))), (q28, .inl (K 0, 4, .inl (fun _ => 0))), (q35, .inl (K 0, 4, .inl (fun _ => 0))), (q42, .inl (K 0, 4, .inl (fun _ => 0))), (q50, .inl (K 0, 15, .inl (fun _ => 0)))]) rfl ?_
  refine fw_putF (pc := 52) (ws' := [(h0, .inr (2, [.int 0, .ref q7, .ref q15, .int 25, .int 0, .ref q28, .ref q35, .ref q42, .ref q50, .null, .null, .null, .null, .null, .null, .null, .null, .null, .null, .int 0, .int 0])), (q7, .inl (K 0, 6, .inl (fun _ => 0))), (q15, .inl (K 0, 6, .inl (fun _ => 0))), (q28, .inl (K 0, 4, .inl (fun _ => 0))), (q35, .inl (K 0, 4, .inl (fun _ => 0))), (q42, .inl (K 0, 4, .inl (fun _ => 0))), (q50, .inl (K 0, 15, .inl (fun _ => 0)))]) X iX2_init_X2 tyX2 tyX2_ok nmX2 0 rfl rfl 8 (by decide) kX2_init_29 rfl hnm rfl rfl rfl (Nat.le_of_ble_eq_true rfl) dX2_init_52 rfl ?_
  refine fw_aload_n (pc := 55) X dX2_init_55 rfl 0 rfl ?_
  refine fw_bipush (pc := 56) (v := 15) X dX2_init_56 (by decide) ?_
  refine fw_newa (pc := 58) (atype := .int) (ty := .int) (cA := K 0) (a0 := (15, .inl (fun _ => 0))) (N := 15) X rfl kX2_init_acint 0 rfl (fun _ => rfl) rfl (by decide) (by decide) (Nat.le_of_ble_eq_true rfl) (Nat.le_of_ble_eq_true rfl) dX2_init_58 (fun q58 => ?_)
  refine fw_ws (ws' := [(h0, .inr (2, [.int 0, .ref q7, .ref q15, .int 25, .int 0, .ref q28, .ref q35, .ref q42, .ref q50, .null, .null, .null, .null, .null, .null, .null, .null, .null, .null, .int 0, .int 0])), (q7, .inl (K 0, 6, .inl (fun _ => 0))), (q15, .inl (K 0, 6, .inl (fun _ => 0))), (q28, .inl (K 0, 4, .inl (fun _ => 0))), (q35, .inl (K 0, 4, .inl (fun _ => 0))), (q42, .inl (K 0, 4, .inl (fun _ => 0))), (q50, .inl (K 0, 15, .inl (fun _ => 0))), (q58, .inl (K 0, 15, .inl (fun _ => 0)))]) rfl ?_
  refine fw_putF (pc := 60) (ws' := [(h0, .inr (2, [.int 0, .ref q7, .ref q15, .int 25, .int 0, .ref q28, .ref q35, .ref q42, .ref q50, .ref q58, .null, .null, .null, .null, .null, .null, .null, .null, .null, .int 0, .int 0])), (q7, .inl (K 0, 6, .inl (fun _ => 0))), (q15, .inl (K 0, 6, .inl (fun _ => 0))), (q28, .inl (K 0, 4, .inl (fun _ => 0))), (q35, .inl (K 0, 4, .inl (fun _ => 0))), (q42, .inl (K 0, 4, .inl (fun _ => 0))), (q50, .inl (K 0, 15, .inl (fun _ => 0))), (q58, .inl (K 0, 15, .inl (fun _ => 0)))]) X iX2_init_X2 tyX2 tyX2_ok nmX2 0 rfl rfl 9 (by decide) kX2_init_32 rfl hnm rfl rfl rfl (Nat.le_of_ble_eq_true rfl) dX2_init_60 rfl ?_
  refine fw_aload_n (pc := 63) X dX2_init_63 rfl 0 rfl ?_
  refine fw_bipush (pc := 64) (v := 15) X dX2_init_64 (by decide) ?_
  refine fw_newa (pc := 66) (atype := .int) (ty := .int) (cA := K 0) (a0 := (15, .inl (fun _ => 0))) (N := 15) X rfl kX2_init_acint 0 rfl (fun _ => rfl) rfl (by decide) (by decide) (Nat.le_of_ble_eq_true rfl) (Nat.le_of_ble_eq_true rfl) dX2_init_66 (fun q66 => ?_)
  refine fw_ws (ws' := [(h0, .inr (2, [.int 0, .ref q7, .ref q15, .int 25, .int 0, .ref q28, .ref q35, .ref q42, .ref q50, .ref q58, .null, .null, .null, .null, .null, .null, .null, .null, .null, .int 0, .int 0])), (q7, .inl (K 0, 6, .inl (fun _ => 0))), (q15, .inl (K 0, 6, .inl (fun _ => 0))), (q28, .inl (K 0, 4, .inl (fun _ => 0))), (q35, .inl (K 0, 4, .inl (fun _ => 0))), (q42, .inl (K 0, 4, .inl (fun _ => 0))), (q50, .inl (K 0, 15, .inl (fun _ => 0))), (q58, .inl (K 0, 15, .inl (fun _ => 0))), (q66, .inl (K 0, 15, .inl (fun _ => 0)))]) rfl ?_
  refine fw_putF (pc := 68) (ws' := [(h0, .inr (2, [.int 0, .ref q7, .ref q15, .int 25, .int 0, .ref q28, .ref q35, .ref q42, .ref q50, .ref q58, .ref q66, .null, .null, .null, .null, .null, .null, .null, .null, .int 0, .int 0])), (q7, .inl (K 0, 6, .inl (fun _ => 0))), (q15, .inl (K 0, 6, .inl (fun _ => 0))), (q28, .inl (K 0, 4, .inl (fun _ => 0))), (q35, .inl (K 0, 4, .inl (fun _ => 0))), (q42, .inl (K 0, 4, .inl (fun _ => 0))), (q50, .inl (K 0, 15, .inl (fun _ => 0))), (q58, .inl (K 0, 15, .inl (fun _ => 0))), (q66, .inl (K 0, 15, .inl (fun _ => 0)))]) X iX2_init_X2 tyX2 tyX2_ok nmX2 0 rfl rfl 10 (by decide) kX2_init_35 rfl hnm rfl rfl rfl (Nat.le_of_ble_eq_true rfl) dX2_init_68 rfl ?_
  refine fw_aload_n (pc := 71) X dX2_init_71 rfl 0 rfl ?_
  refine fw_bipush (pc := 72) (v := 15) X dX2_init_72 (by decide) ?_
  refine fw_newa (pc := 74) (atype := .int) (ty := .int) (cA := K 0) (a0 := (15, .inl (fun _ => 0))) (N := 15) X rfl kX2_init_acint 0 rfl (fun _ => rfl) rfl (by decide) (by decide) (Nat.le_of_ble_eq_true rfl) (Nat.le_of_ble_eq_true rfl) dX2_init_74 (fun q74 => ?_)
  refine fw_ws (ws' := [(h0, .inr (2, [.int 0, .ref q7, .ref q15, .int 25, .int 0, .ref q28, .ref q35, .ref q42, .ref q50, .ref q58, .ref q66, .null, .null, .null, .null, .null, .null, .null, .null, .int 0, .int 0])), (q7, .inl (K 0, 6, .inl (fun _ => 0))), (q15, .inl (K 0, 6, .inl (fun _ => 0))), (q28, .inl (K 0, 4, .inl (fun _ => 0))), (q35, .inl (K 0, 4, .inl (fun _ => 0))), (q42, .inl (K 0, 4, .inl (fun _ => 0))), (q50, .inl (K 0, 15, .inl (fun _ => 0))), (q58, .inl (K 0, 15, .inl (fun _ => 0))), (q66, .inl (K 0, 15, .inl (fun _ => 0))), (q74, .inl (K 0, 15, .inl (fun _ => 0)))]) rfl ?_
  refine fw_putF (pc := 76) (ws' := [(h0, .inr (2, [.int 0, .ref q7, .ref q15, .int 25, .int 0, .ref q28, .ref q35, .ref q42, .ref q50, .ref q58, .ref q66, .ref q74, .null, .null, .null, .null, .null, .null, .null, .int 0, .int 0])), (q7, .inl (K 0, 6, .inl (fun _ => 0))), (q15, .inl (K 0, 6, .inl (fun _ => 0))), (q28, .inl (K 0, 4, .inl (fun _ => 0))), (q35, .inl (K 0, 4, .inl (fun _ => 0))), (q42, .inl (K 0, 4, .inl (fun _ => 0))), (q50, .inl (K 0, 15, .inl (fun _ => 0))), (q58, .inl (K 0, 15, .inl (fun _ => 0))), (q66, .inl (K 0, 15, .inl (fun _ => 0))), (q74, .inl (K 0, 15, .inl (fun _ => 0)))]) X iX2_init_X2 tyX2 tyX2_ok nmX2 0 rfl rfl 11 (by decide) kX2_init_38 rfl hnm rfl rfl rfl (Nat.le_of_ble_eq_true rfl) dX2_init_76 rfl ?_
  refine fw_aload_n (pc := 79) X dX2_init_79 rfl 0 rfl ?_
  refine fw_bipush (pc := 80) (v := 15) X dX2_init_80 (by decide) ?_
  refine fw_newa (pc := 82) (atype := .int) (ty := .int) (cA := K 0) (a0 := (15, .inl (fun _ => 0))) (N := 15) X rfl kX2_init_acint 0 rfl (fun _ => rfl) rfl (by decide) (by decide) (Nat.le_of_ble_eq_true rfl) (Nat.le_of_ble_eq_true rfl) dX2_init_82 (fun q82 => ?_)
  refine fw_ws (ws' := [(h0, .inr (2, [.int 0, .ref q7, .ref q15, .int 25, .int 0, .ref q28, .ref q35, .ref q42, .ref q50, .ref q58, .ref q66, .ref q74, .null, .null, .null, .null, .null, .null, .null, .int 0, .int 0])), (q7, .inl (K 0, 6, .inl (fun _ => 0))), (q15, .inl (K 0, 6, .inl (fun _ => 0))), (q28, .inl (K 0, 4, .inl (fun _ => 0))), (q35, .inl (K 0, 4, .inl (fun _ => 0))), (q42, .inl (K 0, 4, .inl (fun _ => 0))), (q50, .inl (K 0, 15, .inl (fun _ => 0))), (q58, .inl (K 0, 15, .inl (fun _ => 0))), (q66, .inl (K 0, 15, .inl (fun _ => 0))), (q74, .inl (K 0, 15, .inl (fun _ => 0))), (q82, .inl (K 0, 15, .inl (fun _ => 0)))]) rfl ?_
  refine fw_putF (pc := 84) (ws' := [(h0, .inr (2, [.int 0, .ref q7, .ref q15, .int 25, .int 0, .ref q28, .ref q35, .ref q42, .ref q50, .ref q58, .ref q66, .ref q74, .ref q82, .null, .null, .null, .null, .null, .null, .int 0, .int 0])), (q7, .inl (K 0, 6, .inl (fun _ => 0))), (q15, .inl (K 0, 6, .inl (fun _ => 0))), (q28, .inl (K 0, 4, .inl (fun _ => 0))), (q35, .inl (K 0, 4, .inl (fun _ => 0))), (q42, .inl (K 0, 4, .inl (fun _ => 0))), (q50, .inl (K 0, 15, .inl (fun _ => 0))), (q58, .inl (K 0, 15, .inl (fun _ => 0))), (q66, .inl (K 0, 15, .inl (fun _ => 0))), (q74, .inl (K 0, 15, .inl (fun _ => 0))), (q82, .inl (K 0, 15, .inl (fun _ => 0)))]) X iX2_init_X2 tyX2 tyX2_ok nmX2 0 rfl rfl 12 (by decide) kX2_init_41 rfl hnm rfl rfl rfl (Nat.le_of_ble_eq_true rfl) dX2_init_84 rfl ?_
  refine fw_aload_n (pc := 87) X dX2_init_87 rfl 0 rfl ?_
  refine fw_bipush (pc := 88) (v := 15) X dX2_init_88 (by decide) ?_
  refine fw_newa (pc := 90) (atype := .int) (ty := .int) (cA := K 0) (a0 := (15, .inl (fun _ => 0))) (N := 15) X rfl kX2_init_acint 0 rfl (fun _ => rfl) rfl (by decide) (by decide) (Nat.le_of_ble_eq_true rfl) (Nat.le_of_ble_eq_true rfl) dX2_init_90 (fun q90 => ?_)
  refine fw_ws (ws' := [(h0, .inr (2, [.int 0, .ref q7, .ref q15, .int 25, .int 0, .ref q28, .ref q35, .ref q42, .ref q50, .ref q58, .ref q66, .ref q74, .ref q82, .null, .null, .null, .null, .null, .null, .int 0, .int 0])), (q7, .inl (K 0, 6, .inl (fun _ => 0))), (q15, .inl (K 0, 6, .inl (fun _ => 0))), (q28, .inl (K 0, 4, .inl (fun _ => 0))), (q35, .inl (K 0, 4, .inl (fun _ => 0))), (q42, .inl (K 0, 4, .inl (fun _ => 0))), (q50, .inl (K 0, 15, .inl (fun _ => 0))), (q58, .inl (K 0, 15, .inl (fun _ => 0))), (q66, .inl (K 0, 15, .inl (fun _ => 0))), (q74, .inl (K 0, 15, .inl (fun _ => 0))), (q82, .inl (K 0, 15, .inl (fun _ => 0))), (q90, .inl (K 0, 15, .inl (fun _ => 0)))]) rfl ?_
  refine fw_putF (pc := 92) (ws' := [(h0, .inr (2, [.int 0, .ref q7, .ref q15, .int 25, .int 0, .ref q28, .ref q35, .ref q42, .ref q50, .ref q58, .ref q66, .ref q74, .ref q82, .ref q90, .null, .null, .null, .null, .null, .int 0, .int 0])), (q7, .inl (K 0, 6, .inl (fun _ => 0))), (q15, .inl (K 0, 6, .inl (fun _ => 0))), (q28, .inl (K 0, 4, .inl (fun _ => 0))), (q35, .inl (K 0, 4, .inl (fun _ => 0))), (q42, .inl (K 0, 4, .inl (fun _ => 0))), (q50, .inl (K 0, 15, .inl (fun _ => 0))), (q58, .inl (K 0, 15, .inl (fun _ => 0))), (q66, .inl (K 0, 15, .inl (fun _ => 0))), (q74, .inl (K 0, 15, .inl (fun _ => 0))), (q82, .inl (K 0, 15, .inl (fun _ => 0))), (q90, .inl (K 0, 15, .inl (fun _ => 0)))]) X iX2_init_X2 tyX2 tyX2_ok nmX2 0 rfl rfl 13 (by decide) kX2_init_44 rfl hnm rfl rfl rfl (Nat.le_of_ble_eq_true rfl) dX2_init_92 rfl ?_
  refine fw_aload_n (pc := 95) X dX2_init_95 rfl 0 rfl ?_
  refine fw_bipush (pc := 96) (v := 15) X dX2_init_96 (by decide) ?_
  refine fw_newa (pc := 98) (atype := .boolean) (ty := .boolean) (cA := K 1) (a0 := (15, .inl (fun _ => 0))) (N := 15) X rfl kX2_init_acboolean 1 rfl (fun _ => rfl) rfl (by decide) (by decide) (Nat.le_of_ble_eq_true rfl) (Nat.le_of_ble_eq_true rfl) dX2_init_98 (fun q98 => ?_)
  refine fw_ws (ws' := [(h0, .inr (2, [.int 0, .ref q7, .ref q15, .int 25, .int 0, .ref q28, .ref q35, .ref q42, .ref q50, .ref q58, .ref q66, .ref q74, .ref q82, .ref q90, .null, .null, .null, .null, .null, .int 0, .int 0])), (q7, .inl (K 0, 6, .inl (fun _ => 0))), (q15, .inl (K 0, 6, .inl (fun _ => 0))), (q28, .inl (K 0, 4, .inl (fun _ => 0))), (q35, .inl (K 0, 4, .inl (fun _ => 0))), (q42, .inl (K 0, 4, .inl (fun _ => 0))), (q50, .inl (K 0, 15, .inl (fun _ => 0))), (q58, .inl (K 0, 15, .inl (fun _ => 0))), (q66, .inl (K 0, 15, .inl (fun _ => 0))), (q74, .inl (K 0, 15, .inl (fun _ => 0))), (q82, .inl (K 0, 15, .inl (fun _ => 0))), (q90, .inl (K 0, 15, .inl (fun _ => 0))), (q98, .inl (K 1, 15, .inl (fun _ => 0)))]) rfl ?_
  refine fw_putF (pc := 100) (ws' := [(h0, .inr (2, [.int 0, .ref q7, .ref q15, .int 25, .int 0, .ref q28, .ref q35, .ref q42, .ref q50, .ref q58, .ref q66, .ref q74, .ref q82, .ref q90, .ref q98, .null, .null, .null, .null, .int 0, .int 0])), (q7, .inl (K 0, 6, .inl (fun _ => 0))), (q15, .inl (K 0, 6, .inl (fun _ => 0))), (q28, .inl (K 0, 4, .inl (fun _ => 0))), (q35, .inl (K 0, 4, .inl (fun _ => 0))), (q42, .inl (K 0, 4, .inl (fun _ => 0))), (q50, .inl (K 0, 15, .inl (fun _ => 0))), (q58, .inl (K 0, 15, .inl (fun _ => 0))), (q66, .inl (K 0, 15, .inl (fun _ => 0))), (q74, .inl (K 0, 15, .inl (fun _ => 0))), (q82, .inl (K 0, 15, .inl (fun _ => 0))), (q90, .inl (K 0, 15, .inl (fun _ => 0))), (q98, .inl (K 1, 15, .inl (fun _ => 0)))]) X iX2_init_X2 tyX2 tyX2_ok nmX2 0 rfl rfl 14 (by decide) kX2_init_47 rfl hnm rfl rfl rfl (Nat.le_of_ble_eq_true rfl) dX2_init_100 rfl ?_
  refine fw_aload_n (pc := 103) X dX2_init_103 rfl 0 rfl ?_
  refine fw_bipush (pc := 104) (v := 15) X dX2_init_104 (by decide) ?_
  refine fw_newa (pc := 106) (atype := .boolean) (ty := .boolean) (cA := K 1) (a0 := (15, .inl (fun _ => 0))) (N := 15) X rfl kX2_init_acboolean 1 rfl (fun _ => rfl) rfl (by decide) (by decide) (Nat.le_of_ble_eq_true rfl) (Nat.le_of_ble_eq_true rfl) dX2_init_106 (fun q106 => ?_)
  refine fw_ws (ws' := [(h0, .inr (2, [.int 0, .ref q7, .ref q15, .int 25, .int 0, .ref q28, .ref q35, .ref q42, .ref q50, .ref q58, .ref q66, .ref q74, .ref q82, .ref q90, .ref q98, .null, .null, .null, .null, .int 0, .int 0])), (q7, .inl (K 0, 6, .inl (fun _ => 0))), (q15, .inl (K 0, 6, .inl (fun _ => 0))), (q28, .inl (K 0, 4, .inl (fun _ => 0))), (q35, .inl (K 0, 4, .inl (fun _ => 0))), (q42, .inl (K 0, 4, .inl (fun _ => 0))), (q50, .inl (K 0, 15, .inl (fun _ => 0))), (q58, .inl (K 0, 15, .inl (fun _ => 0))), (q66, .inl (K 0, 15, .inl (fun _ => 0))), (q74, .inl (K 0, 15, .inl (fun _ => 0))), (q82, .inl (K 0, 15, .inl (fun _ => 0))), (q90, .inl (K 0, 15, .inl (fun _ => 0))), (q98, .inl (K 1, 15, .inl (fun _ => 0))), (q106, .inl (K 1, 15, .inl (fun _ => 0)))]) rfl ?_
  refine fw_putF (pc := 108) (ws' := [(h0, .inr (2, [.int 0, .ref q7, .ref q15, .int 25, .int 0, .ref q28, .ref q35, .ref q42, .ref q50, .ref q58, .ref q66, .ref q74, .ref q82, .ref q90, .ref q98, .ref q106, .null, .null, .null, .int 0, .int 0])), (q7, .inl (K 0, 6, .inl (fun _ => 0))), (q15, .inl (K 0, 6, .inl (fun _ => 0))), (q28, .inl (K 0, 4, .inl (fun _ => 0))), (q35, .inl (K 0, 4, .inl (fun _ => 0))), (q42, .inl (K 0, 4, .inl (fun _ => 0))), (q50, .inl (K 0, 15, .inl (fun _ => 0))), (q58, .inl (K 0, 15, .inl (fun _ => 0))), (q66, .inl (K 0, 15, .inl (fun _ => 0))), (q74, .inl (K 0, 15, .inl (fun _ => 0))), (q82, .inl (K 0, 15, .inl (fun _ => 0))), (q90, .inl (K 0, 15, .inl (fun _ => 0))), (q98, .inl (K 1, 15, .inl (fun _ => 0))), (q106, .inl (K 1, 15, .inl (fun _ => 0)))]) X iX2_init_X2 tyX2 tyX2_ok nmX2 0 rfl rfl 15 (by decide) kX2_init_51 rfl hnm rfl rfl rfl (Nat.le_of_ble_eq_true rfl) dX2_init_108 rfl ?_
  refine fw_aload_n (pc := 111) X dX2_init_111 rfl 0 rfl ?_
  refine fw_bipush (pc := 112) (v := 90) X dX2_init_112 (by decide) ?_
  refine fw_newa (pc := 114) (atype := .int) (ty := .int) (cA := K 0) (a0 := (90, .inl (fun _ => 0))) (N := 90) X rfl kX2_init_acint 0 rfl (fun _ => rfl) rfl (by decide) (by decide) (Nat.le_of_ble_eq_true rfl) (Nat.le_of_ble_eq_true rfl) dX2_init_114 (fun q114 => ?_)
  refine fw_ws (ws' := [(h0, .inr (2, [.int 0, .ref q7, .ref q15, .int 25, .int 0, .ref q28, .ref q35, .ref q42, .ref q50, .ref q58, .ref q66, .ref q74, .ref q82, .ref q90, .ref q98, .ref q106, .null, .null, .null, .int 0, .int 0])), (q7, .inl (K 0, 6, .inl (fun _ => 0))), (q15, .inl (K 0, 6, .inl (fun _ => 0))), (q28, .inl (K 0, 4, .inl (fun _ => 0))), (q35, .inl (K 0, 4, .inl (fun _ => 0))), (q42, .inl (K 0, 4, .inl (fun _ => 0))), (q50, .inl (K 0, 15, .inl (fun _ => 0))), (q58, .inl (K 0, 15, .inl (fun _ => 0))), (q66, .inl (K 0, 15, .inl (fun _ => 0))), (q74, .inl (K 0, 15, .inl (fun _ => 0))), (q82, .inl (K 0, 15, .inl (fun _ => 0))), (q90, .inl (K 0, 15, .inl (fun _ => 0))), (q98, .inl (K 1, 15, .inl (fun _ => 0))), (q106, .inl (K 1, 15, .inl (fun _ => 0))), (q114, .inl (K 0, 90, .inl (fun _ => 0)))]) rfl ?_
  refine fw_putF (pc := 116) (ws' := [(h0, .inr (2, [.int 0, .ref q7, .ref q15, .int 25, .int 0, .ref q28, .ref q35, .ref q42, .ref q50, .ref q58, .ref q66, .ref q74, .ref q82, .ref q90, .ref q98, .ref q106, .ref q114, .null, .null, .int 0, .int 0])), (q7, .inl (K 0, 6, .inl (fun _ => 0))), (q15, .inl (K 0, 6, .inl (fun _ => 0))), (q28, .inl (K 0, 4, .inl (fun _ => 0))), (q35, .inl (K 0, 4, .inl (fun _ => 0))), (q42, .inl (K 0, 4, .inl (fun _ => 0))), (q50, .inl (K 0, 15, .inl (fun _ => 0))), (q58, .inl (K 0, 15, .inl (fun _ => 0))), (q66, .inl (K 0, 15, .inl (fun _ => 0))), (q74, .inl (K 0, 15, .inl (fun _ => 0))), (q82, .inl (K 0, 15, .inl (fun _ => 0))), (q90, .inl (K 0, 15, .inl (fun _ => 0))), (q98, .inl (K 1, 15, .inl (fun _ => 0))), (q106, .inl (K 1, 15, .inl (fun _ => 0))), (q114, .inl (K 0, 90, .inl (fun _ => 0)))]) X iX2_init_X2 tyX2 tyX2_ok nmX2 0 rfl rfl 16 (by decide) kX2_init_54 rfl hnm rfl rfl rfl (Nat.le_of_ble_eq_true rfl) dX2_init_116 rfl ?_
  refine fw_aload_n (pc := 119) X dX2_init_119 rfl 0 rfl ?_
  refine fw_bipush (pc := 120) (v := 90) X dX2_init_120 (by decide) ?_
  refine fw_newa (pc := 122) (atype := .int) (ty := .int) (cA := K 0) (a0 := (90, .inl (fun _ => 0))) (N := 90) X rfl kX2_init_acint 0 rfl (fun _ => rfl) rfl (by decide) (by decide) (Nat.le_of_ble_eq_true rfl) (Nat.le_of_ble_eq_true rfl) dX2_init_122 (fun q122 => ?_)
  refine fw_ws (ws' := [(h0, .inr (2, [.int 0, .ref q7, .ref q15, .int 25, .int 0, .ref q28, .ref q35, .ref q42, .ref q50, .ref q58, .ref q66, .ref q74, .ref q82, .ref q90, .ref q98, .ref q106, .ref q114, .null, .null, .int 0, .int 0])), (q7, .inl (K 0, 6, .inl (fun _ => 0))), (q15, .inl (K 0, 6, .inl (fun _ => 0))), (q28, .inl (K 0, 4, .inl (fun _ => 0))), (q35, .inl (K 0, 4, .inl (fun _ => 0))), (q42, .inl (K 0, 4, .inl (fun _ => 0))), (q50, .inl (K 0, 15, .inl (fun _ => 0))), (q58, .inl (K 0, 15, .inl (fun _ => 0))), (q66, .inl (K 0, 15, .inl (fun _ => 0))), (q74, .inl (K 0, 15, .inl (fun _ => 0))), (q82, .inl (K 0, 15, .inl (fun _ => 0))), (q90, .inl (K 0, 15, .inl (fun _ => 0))), (q98, .inl (K 1, 15, .inl (fun _ => 0))), (q106, .inl (K 1, 15, .inl (fun _ => 0))), (q114, .inl (K 0, 90, .inl (fun _ => 0))), (q122, .inl (K 0, 90, .inl (fun _ => 0)))]) rfl ?_
  refine fw_putF (pc := 124) (ws' := [(h0, .inr (2, [.int 0, .ref q7, .ref q15, .int 25, .int 0, .ref q28, .ref q35, .ref q42, .ref q50, .ref q58, .ref q66, .ref q74, .ref q82, .ref q90, .ref q98, .ref q106, .ref q114, .ref q122, .null, .int 0, .int 0])), (q7, .inl (K 0, 6, .inl (fun _ => 0))), (q15, .inl (K 0, 6, .inl (fun _ => 0))), (q28, .inl (K 0, 4, .inl (fun _ => 0))), (q35, .inl (K 0, 4, .inl (fun _ => 0))), (q42, .inl (K 0, 4, .inl (fun _ => 0))), (q50, .inl (K 0, 15, .inl (fun _ => 0))), (q58, .inl (K 0, 15, .inl (fun _ => 0))), (q66, .inl (K 0, 15, .inl (fun _ => 0))), (q74, .inl (K 0, 15, .inl (fun _ => 0))), (q82, .inl (K 0, 15, .inl (fun _ => 0))), (q90, .inl (K 0, 15, .inl (fun _ => 0))), (q98, .inl (K 1, 15, .inl (fun _ => 0))), (q106, .inl (K 1, 15, .inl (fun _ => 0))), (q114, .inl (K 0, 90, .inl (fun _ => 0))), (q122, .inl (K 0, 90, .inl (fun _ => 0)))]) X iX2_init_X2 tyX2 tyX2_ok nmX2 0 rfl rfl 17 (by decide) kX2_init_57 rfl hnm rfl rfl rfl (Nat.le_of_ble_eq_true rfl) dX2_init_124 rfl ?_
  refine fw_aload_n (pc := 127) X dX2_init_127 rfl 0 rfl ?_
  refine fw_sipush (pc := 128) (v := 270) X dX2_init_128 (by decide) ?_
  refine fw_newa (pc := 131) (atype := .int) (ty := .int) (cA := K 0) (a0 := (270, .inl (fun _ => 0))) (N := 270) X rfl kX2_init_acint 0 rfl (fun _ => rfl) rfl (by decide) (by decide) (Nat.le_of_ble_eq_true rfl) (Nat.le_of_ble_eq_true rfl) dX2_init_131 (fun q131 => ?_)
  refine fw_ws (ws' := [(h0, .inr (2, [.int 0, .ref q7, .ref q15, .int 25, .int 0, .ref q28, .ref q35, .ref q42, .ref q50, .ref q58, .ref q66, .ref q74, .ref q82, .ref q90, .ref q98, .ref q106, .ref q114, .ref q122, .null, .int 0, .int 0])), (q7, .inl (K 0, 6, .inl (fun _ => 0))), (q15, .inl (K 0, 6, .inl (fun _ => 0))), (q28, .inl (K 0, 4, .inl (fun _ => 0))), (q35, .inl (K 0, 4, .inl (fun _ => 0))), (q42, .inl (K 0, 4, .inl (fun _ => 0))), (q50, .inl (K 0, 15, .inl (fun _ => 0))), (q58, .inl (K 0, 15, .inl (fun _ => 0))), (q66, .inl (K 0, 15, .inl (fun _ => 0))), (q74, .inl (K 0, 15, .inl (fun _ => 0))), (q82, .inl (K 0, 15, .inl (fun _ => 0))), (q90, .inl (K 0, 15, .inl (fun _ => 0))), (q98, .inl (K 1, 15, .inl (fun _ => 0))), (q106, .inl (K 1, 15, .inl (fun _ => 0))), (q114, .inl (K 0, 90, .inl (fun _ => 0))), (q122, .inl (K 0, 90, .inl (fun _ => 0))), (q131, .inl (K 0, 270, .inl (fun _ => 0)))]) rfl ?_
  refine fw_putF (pc := 133) (ws' := [(h0, .inr (2, [.int 0, .ref q7, .ref q15, .int 25, .int 0, .ref q28, .ref q35, .ref q42, .ref q50, .ref q58, .ref q66, .ref q74, .ref q82, .ref q90, .ref q98, .ref q106, .ref q114, .ref q122, .ref q131, .int 0, .int 0])), (q7, .inl (K 0, 6, .inl (fun _ => 0))), (q15, .inl (K 0, 6, .inl (fun _ => 0))), (q28, .inl (K 0, 4, .inl (fun _ => 0))), (q35, .inl (K 0, 4, .inl (fun _ => 0))), (q42, .inl (K 0, 4, .inl (fun _ => 0))), (q50, .inl (K 0, 15, .inl (fun _ => 0))), (q58, .inl (K 0, 15, .inl (fun _ => 0))), (q66, .inl (K 0, 15, .inl (fun _ => 0))), (q74, .inl (K 0, 15, .inl (fun _ => 0))), (q82, .inl (K 0, 15, .inl (fun _ => 0))), (q90, .inl (K 0, 15, .inl (fun _ => 0))), (q98, .inl (K 1, 15, .inl (fun _ => 0))), (q106, .inl (K 1, 15, .inl (fun _ => 0))), (q114, .inl (K 0, 90, .inl (fun _ => 0))), (q122, .inl (K 0, 90, .inl (fun _ => 0))), (q131, .inl (K 0, 270, .inl (fun _ => 0)))]) X iX2_init_X2 tyX2 tyX2_ok nmX2 0 rfl rfl 18 (by decide) kX2_init_60 rfl hnm rfl rfl rfl (Nat.le_of_ble_eq_true rfl) dX2_init_133 rfl ?_
  refine fw_iconst (pc := 136) (v := 0) X dX2_init_136 (by decide) ?_
  refine fw_istore_n (pc := 137) (lv' := [(1, .int 0), (0, .ref h0)]) X dX2_init_137 rfl (by decide) rfl ?_
  refine fw_iload_n (pc := 138) X dX2_init_138 rfl 0 rfl ?_
  refine fw_bipush (pc := 139) (v := 6) X dX2_init_139 (by decide) ?_
  refine fw_icmp_ge (pc := 141) (tgt := 157) X dX2_init_141 (by decide) (fun q => absurd q (by decide)) (fun _ => ?_)
  refine fw_aload_n (pc := 144) X dX2_init_144 rfl 1 rfl ?_
  refine fw_get (pc := 145) (v := .ref q7) X iX2_init_X2 0 rfl rfl 1 (by decide) kX2_init_7 rfl dX2_init_145 ?_
  refine fw_iload_n (pc := 148) X dX2_init_148 rfl 0 rfl ?_
  refine fw_iconst (pc := 149) (v := 1) X dX2_init_149 (by decide) ?_
  refine fw_iast (pc := 150) (n := 6) (cA := K 0) (f := fun _ => 0) (ws' := [(h0, .inr (2, [.int 0, .ref q7, .ref q15, .int 25, .int 0, .ref q28, .ref q35, .ref q42, .ref q50, .ref q58, .ref q66, .ref q74, .ref q82, .ref q90, .ref q98, .ref q106, .ref q114, .ref q122, .ref q131, .int 0, .int 0])), (q7, .inl (K 0, 6, .inl (upd (fun _ => 0) 0 1))), (q15, .inl (K 0, 6, .inl (fun _ => 0))), (q28, .inl (K 0, 4, .inl (fun _ => 0))), (q35, .inl (K 0, 4, .inl (fun _ => 0))), (q42, .inl (K 0, 4, .inl (fun _ => 0))), (q50, .inl (K 0, 15, .inl (fun _ => 0))), (q58, .inl (K 0, 15, .inl (fun _ => 0))), (q66, .inl (K 0, 15, .inl (fun _ => 0))), (q74, .inl (K 0, 15, .inl (fun _ => 0))), (q82, .inl (K 0, 15, .inl (fun _ => 0))), (q90, .inl (K 0, 15, .inl (fun _ => 0))), (q98, .inl (K 1, 15, .inl (fun _ => 0))), (q106, .inl (K 1, 15, .inl (fun _ => 0))), (q114, .inl (K 0, 90, .inl (fun _ => 0))), (q122, .inl (K 0, 90, .inl (fun _ => 0))), (q131, .inl (K 0, 270, .inl (fun _ => 0)))]) X 1 0 rfl rfl 0 (show (0 : Int32) = nI 0 from rfl) (by decide) (by decide) dX2_init_150 rfl ?_
  refine fw_iinc (pc := 151) (v := 1) (lv' := [(1, .int 1), (0, .ref h0)]) (j := 0) X dX2_init_151 rfl (by decide) (by decide) rfl ?_
  refine fw_goto (pc := 154) (tgt := 138) X dX2_init_154 (by decide) ?_
  refine fw_iload_n (pc := 138) X dX2_init_138 rfl 0 rfl ?_
  refine fw_bipush (pc := 139) (v := 6) X dX2_init_139 (by decide) ?_
  refine fw_icmp_ge (pc := 141) (tgt := 157) X dX2_init_141 (by decide) (fun q => absurd q (by decide)) (fun _ => ?_)
  refine fw_aload_n (pc := 144) X dX2_init_144 rfl 1 rfl ?_
  refine fw_get (pc := 145) (v := .ref q7) X iX2_init_X2 0 rfl rfl 1 (by decide) kX2_init_7 rfl dX2_init_145 ?_
  refine fw_iload_n (pc := 148) X dX2_init_148 rfl 0 rfl ?_
  refine fw_iconst (pc := 149) (v := 1) X dX2_init_149 (by decide) ?_
  refine fw_iast (pc := 150) (n := 6) (cA := K 0) (f := upd (fun _ => 0) 0 1) (ws' := [(h0, .inr (2, [.int 0, .ref q7, .ref q15, .int 25, .int 0, .ref q28, .ref q35, .ref q42, .ref q50, .ref q58, .ref q66, .ref q74, .ref q82, .ref q90, .ref q98, .ref q106, .ref q114, .ref q122, .ref q131, .int 0, .int 0])), (q7, .inl (K 0, 6, .inl (upd (upd (fun _ => 0) 0 1) 1 1))), (q15, .inl (K 0, 6, .inl (fun _ => 0))), (q28, .inl (K 0, 4, .inl (fun _ => 0))), (q35, .inl (K 0, 4, .inl (fun _ => 0))), (q42, .inl (K 0, 4, .inl (fun _ => 0))), (q50, .inl (K 0, 15, .inl (fun _ => 0))), (q58, .inl (K 0, 15, .inl (fun _ => 0))), (q66, .inl (K 0, 15, .inl (fun _ => 0))), (q74, .inl (K 0, 15, .inl (fun _ => 0))), (q82, .inl (K 0, 15, .inl (fun _ => 0))), (q90, .inl (K 0, 15, .inl (fun _ => 0))), (q98, .inl (K 1, 15, .inl (fun _ => 0))), (q106, .inl (K 1, 15, .inl (fun _ => 0))), (q114, .inl (K 0, 90, .inl (fun _ => 0))), (q122, .inl (K 0, 90, .inl (fun _ => 0))), (q131, .inl (K 0, 270, .inl (fun _ => 0)))]) X 1 0 rfl rfl 1 (show (1 : Int32) = nI 1 from rfl) (by decide) (by decide) dX2_init_150 rfl ?_
  refine fw_iinc (pc := 151) (v := 2) (lv' := [(1, .int 2), (0, .ref h0)]) (j := 0) X dX2_init_151 rfl (by decide) (by decide) rfl ?_
  refine fw_goto (pc := 154) (tgt := 138) X dX2_init_154 (by decide) ?_
  refine fw_iload_n (pc := 138) X dX2_init_138 rfl 0 rfl ?_
  refine fw_bipush (pc := 139) (v := 6) X dX2_init_139 (by decide) ?_
  refine fw_icmp_ge (pc := 141) (tgt := 157) X dX2_init_141 (by decide) (fun q => absurd q (by decide)) (fun _ => ?_)
  refine fw_aload_n (pc := 144) X dX2_init_144 rfl 1 rfl ?_
  refine fw_get (pc := 145) (v := .ref q7) X iX2_init_X2 0 rfl rfl 1 (by decide) kX2_init_7 rfl dX2_init_145 ?_
  refine fw_iload_n (pc := 148) X dX2_init_148 rfl 0 rfl ?_
  refine fw_iconst (pc := 149) (v := 1) X dX2_init_149 (by decide) ?_
  refine fw_iast (pc := 150) (n := 6) (cA := K 0) (f := upd (upd (fun _ => 0) 0 1) 1 1) (ws' := [(h0, .inr (2, [.int 0, .ref q7, .ref q15, .int 25, .int 0, .ref q28, .ref q35, .ref q42, .ref q50, .ref q58, .ref q66, .ref q74, .ref q82, .ref q90, .ref q98, .ref q106, .ref q114, .ref q122, .ref q131, .int 0, .int 0])), (q7, .inl (K 0, 6, .inl (upd (upd (upd (fun _ => 0) 0 1) 1 1) 2 1))), (q15, .inl (K 0, 6, .inl (fun _ => 0))), (q28, .inl (K 0, 4, .inl (fun _ => 0))), (q35, .inl (K 0, 4, .inl (fun _ => 0))), (q42, .inl (K 0, 4, .inl (fun _ => 0))), (q50, .inl (K 0, 15, .inl (fun _ => 0))), (q58, .inl (K 0, 15, .inl (fun _ => 0))), (q66, .inl (K 0, 15, .inl (fun _ => 0))), (q74, .inl (K 0, 15, .inl (fun _ => 0))), (q82, .inl (K 0, 15, .inl (fun _ => 0))), (q90, .inl (K 0, 15, .inl (fun _ => 0))), (q98, .inl (K 1, 15, .inl (fun _ => 0))), (q106, .inl (K 1, 15, .inl (fun _ => 0))), (q114, .inl (K 0, 90, .inl (fun _ => 0))), (q122, .inl (K 0, 90, .inl (fun _ => 0))), (q131, .inl (K 0, 270, .inl (fun _ => 0)))]) X 1 0 rfl rfl 2 (show (2 : Int32) = nI 2 from rfl) (by decide) (by decide) dX2_init_150 rfl ?_
  refine fw_iinc (pc := 151) (v := 3) (lv' := [(1, .int 3), (0, .ref h0)]) (j := 0) X dX2_init_151 rfl (by decide) (by decide) rfl ?_
  refine fw_goto (pc := 154) (tgt := 138) X dX2_init_154 (by decide) ?_
  refine fw_iload_n (pc := 138) X dX2_init_138 rfl 0 rfl ?_
  refine fw_bipush (pc := 139) (v := 6) X dX2_init_139 (by decide) ?_
  refine fw_icmp_ge (pc := 141) (tgt := 157) X dX2_init_141 (by decide) (fun q => absurd q (by decide)) (fun _ => ?_)
  refine fw_aload_n (pc := 144) X dX2_init_144 rfl 1 rfl ?_
  refine fw_get (pc := 145) (v := .ref q7) X iX2_init_X2 0 rfl rfl 1 (by decide) kX2_init_7 rfl dX2_init_145 ?_
  refine fw_iload_n (pc := 148) X dX2_init_148 rfl 0 rfl ?_
  refine fw_iconst (pc := 149) (v := 1) X dX2_init_149 (by decide) ?_
  refine fw_iast (pc := 150) (n := 6) (cA := K 0) (f := upd (upd (upd (fun _ => 0) 0 1) 1 1) 2 1) (ws' := [(h0, .inr (2, [.int 0, .ref q7, .ref q15, .int 25, .int 0, .ref q28, .ref q35, .ref q42, .ref q50, .ref q58, .ref q66, .ref q74, .ref q82, .ref q90, .ref q98, .ref q106, .ref q114, .ref q122, .ref q131, .int 0, .int 0])), (q7, .inl (K 0, 6, .inl (upd (upd (upd (upd (fun _ => 0) 0 1) 1 1) 2 1) 3 1))), (q15, .inl (K 0, 6, .inl (fun _ => 0))), (q28, .inl (K 0, 4, .inl (fun _ => 0))), (q35, .inl (K 0, 4, .inl (fun _ => 0))), (q42, .inl (K 0, 4, .inl (fun _ => 0))), (q50, .inl (K 0, 15, .inl (fun _ => 0))), (q58, .inl (K 0, 15, .inl (fun _ => 0))), (q66, .inl (K 0, 15, .inl (fun _ => 0))), (q74, .inl (K 0, 15, .inl (fun _ => 0))), (q82, .inl (K 0, 15, .inl (fun _ => 0))), (q90, .inl (K 0, 15, .inl (fun _ => 0))), (q98, .inl (K 1, 15, .inl (fun _ => 0))), (q106, .inl (K 1, 15, .inl (fun _ => 0))), (q114, .inl (K 0, 90, .inl (fun _ => 0))), (q122, .inl (K 0, 90, .inl (fun _ => 0))), (q131, .inl (K 0, 270, .inl (fun _ => 0)))]) X 1 0 rfl rfl 3 (show (3 : Int32) = nI 3 from rfl) (by decide) (by decide) dX2_init_150 rfl ?_
  refine fw_iinc (pc := 151) (v := 4) (lv' := [(1, .int 4), (0, .ref h0)]) (j := 0) X dX2_init_151 rfl (by decide) (by decide) rfl ?_
  refine fw_goto (pc := 154) (tgt := 138) X dX2_init_154 (by decide) ?_
  refine fw_iload_n (pc := 138) X dX2_init_138 rfl 0 rfl ?_
  refine fw_bipush (pc := 139) (v := 6) X dX2_init_139 (by decide) ?_
  refine fw_icmp_ge (pc := 141) (tgt := 157) X dX2_init_141 (by decide) (fun q => absurd q (by decide)) (fun _ => ?_)
  refine fw_aload_n (pc := 144) X dX2_init_144 rfl 1 rfl ?_
  refine fw_get (pc := 145) (v := .ref q7) X iX2_init_X2 0 rfl rfl 1 (by decide) kX2_init_7 rfl dX2_init_145 ?_
  refine fw_iload_n (pc := 148) X dX2_init_148 rfl 0 rfl ?_
  refine fw_iconst (pc := 149) (v := 1) X dX2_init_149 (by decide) ?_
  refine fw_iast (pc := 150) (n := 6) (cA := K 0) (f := upd (upd (upd (upd (fun _ => 0) 0 1) 1 1) 2 1) 3 1) (ws' := [(h0, .inr (2, [.int 0, .ref q7, .ref q15, .int 25, .int 0, .ref q28, .ref q35, .ref q42, .ref q50, .ref q58, .ref q66, .ref q74, .ref q82, .ref q90, .ref q98, .ref q106, .ref q114, .ref q122, .ref q131, .int 0, .int 0])), (q7, .inl (K 0, 6, .inl (upd (upd (upd (upd (upd (fun _ => 0) 0 1) 1 1) 2 1) 3 1) 4 1))), (q15, .inl (K 0, 6, .inl (fun _ => 0))), (q28, .inl (K 0, 4, .inl (fun _ => 0))), (q35, .inl (K 0, 4, .inl (fun _ => 0))), (q42, .inl (K 0, 4, .inl (fun _ => 0))), (q50, .inl (K 0, 15, .inl (fun _ => 0))), (q58, .inl (K 0, 15, .inl (fun _ => 0))), (q66, .inl (K 0, 15, .inl (fun _ => 0))), (q74, .inl (K 0, 15, .inl (fun _ => 0))), (q82, .inl (K 0, 15, .inl (fun _ => 0))), (q90, .inl (K 0, 15, .inl (fun _ => 0))), (q98, .inl (K 1, 15, .inl (fun _ => 0))), (q106, .inl (K 1, 15, .inl (fun _ => 0))), (q114, .inl (K 0, 90, .inl (fun _ => 0))), (q122, .inl (K 0, 90, .inl (fun _ => 0))), (q131, .inl (K 0, 270, .inl (fun _ => 0)))]) X 1 0 rfl rfl 4 (show (4 : Int32) = nI 4 from rfl) (by decide) (by decide) dX2_init_150 rfl ?_
  refine fw_iinc (pc := 151) (v := 5) (lv' := [(1, .int 5), (0, .ref h0)]) (j := 0) X dX2_init_151 rfl (by decide) (by decide) rfl ?_
  refine fw_goto (pc := 154) (tgt := 138) X dX2_init_154 (by decide) ?_
  refine fw_iload_n (pc := 138) X dX2_init_138 rfl 0 rfl ?_
  refine fw_bipush (pc := 139) (v := 6) X dX2_init_139 (by decide) ?_
  refine fw_icmp_ge (pc := 141) (tgt := 157) X dX2_init_141 (by decide) (fun q => absurd q (by decide)) (fun _ => ?_)
  refine fw_aload_n (pc := 144) X dX2_init_144 rfl 1 rfl ?_
  refine fw_get (pc := 145) (v := .ref q7) X iX2_init_X2 0 rfl rfl 1 (by decide) kX2_init_7 rfl dX2_init_145 ?_
  refine fw_iload_n (pc := 148) X dX2_init_148 rfl 0 rfl ?_
  refine fw_iconst (pc := 149) (v := 1) X dX2_init_149 (by decide) ?_
  refine fw_iast (pc := 150) (n := 6) (cA := K 0) (f := upd (upd (upd (upd (upd (fun _ => 0) 0 1) 1 1) 2 1) 3 1) 4 1) (ws' := [(h0, .inr (2, [.int 0, .ref q7, .ref q15, .int 25, .int 0, .ref q28, .ref q35, .ref q42, .ref q50, .ref q58, .ref q66, .ref q74, .ref q82, .ref q90, .ref q98, .ref q106, .ref q114, .ref q122, .ref q131, .int 0, .int 0])), (q7, .inl (K 0, 6, .inl (upd (upd (upd (upd (upd (upd (fun _ => 0) 0 1) 1 1) 2 1) 3 1) 4 1) 5 1))), (q15, .inl (K 0, 6, .inl (fun _ => 0))), (q28, .inl (K 0, 4, .inl (fun _ => 0))), (q35, .inl (K 0, 4, .inl (fun _ => 0))), (q42, .inl (K 0, 4, .inl (fun _ => 0))), (q50, .inl (K 0, 15, .inl (fun _ => 0))), (q58, .inl (K 0, 15, .inl (fun _ => 0))), (q66, .inl (K 0, 15, .inl (fun _ => 0))), (q74, .inl (K 0, 15, .inl (fun _ => 0))), (q82, .inl (K 0, 15, .inl (fun _ => 0))), (q90, .inl (K 0, 15, .inl (fun _ => 0))), (q98, .inl (K 1, 15, .inl (fun _ => 0))), (q106, .inl (K 1, 15, .inl (fun _ => 0))), (q114, .inl (K 0, 90, .inl (fun _ => 0))), (q122, .inl (K 0, 90, .inl (fun _ => 0))), (q131, .inl (K 0, 270, .inl (fun _ => 0)))]) X 1 0 rfl rfl 5 (show (5 : Int32) = nI 5 from rfl) (by decide) (by decide) dX2_init_150 rfl ?_
  refine fw_iinc (pc := 151) (v := 6) (lv' := [(1, .int 6), (0, .ref h0)]) (j := 0) X dX2_init_151 rfl (by decide) (by decide) rfl ?_
  refine fw_goto (pc := 154) (tgt := 138) X dX2_init_154 (by decide) ?_
  refine fw_iload_n (pc := 138) X dX2_init_138 rfl 0 rfl ?_
  refine fw_bipush (pc := 139) (v := 6) X dX2_init_139 (by decide) ?_
  refine fw_icmp_ge (pc := 141) (tgt := 157) X dX2_init_141 (by decide) (fun _ => ?_) (fun q => absurd (by decide) q)
  exact fw_vret (pc := 157) X hr hlk (Nat.le_of_ble_eq_true rfl) (Nat.le_of_ble_eq_true rfl) dX2_init_157 (adM [h0, q7, q15, 0, 0, q28, q35, q42, q50, q58, q66, q74, q82, q90, q98, q106, q114, q122, q131]) ⟨rfl, rfl⟩ rfl
theorem kX1_init_oi : Cond.methodLink RX1 1 objectInit ∈ wsX1_init := by decide +kernel
theorem kX1_init_oj : Cond.instanceMethod objectInit ∈ wsX1_init := by decide +kernel
theorem kX1_init_ok : Cond.code objectInit ⟨#[0xb1]⟩ 1 none ∈ wsX1_init := by decide +kernel
theorem kX1_init_acint : Cond.arrayClass .int ∈ wsX1_init := by decide +kernel
theorem kX1_init_9 : Cond.fieldLink RX1 9 (TX1 0).1 (TX1 0).2.1 (TX1 0).2.2.1 ∈ wsX1_init := by decide +kernel
set_option maxRecDepth 20000 in
theorem iX1_init_X1 : ∀ w ∈ wsX10, w ∈ wsX1_init := by decide +kernel
theorem kX1_init_13 : Cond.fieldLink RX1 13 (TX1 1).1 (TX1 1).2.1 (TX1 1).2.2.1 ∈ wsX1_init := by decide +kernel
theorem kX1_init_16 : Cond.fieldLink RX1 16 (TX1 2).1 (TX1 2).2.1 (TX1 2).2.2.1 ∈ wsX1_init := by decide +kernel
theorem kX1_init_19 : Cond.fieldLink RX1 19 (TX1 3).1 (TX1 3).2.1 (TX1 3).2.2.1 ∈ wsX1_init := by decide +kernel
theorem kX1_init_22 : Cond.fieldLink RX1 22 (TX1 4).1 (TX1 4).2.1 (TX1 4).2.2.1 ∈ wsX1_init := by decide +kernel
theorem kX1_init_cl : Cond.classLink RX1 25 RX0 ∈ wsX1_init := by decide +kernel
theorem kX1_init_27 : Cond.fieldLink RX1 27 (TX1 5).1 (TX1 5).2.1 (TX1 5).2.2.1 ∈ wsX1_init := by decide +kernel
theorem kX1_init_31 : Cond.fieldLink RX1 31 (TX1 6).1 (TX1 6).2.1 (TX1 6).2.2.1 ∈ wsX1_init := by decide +kernel
theorem kX1_init_35 : Cond.fieldLink RX1 35 (TX1 7).1 (TX1 7).2.1 (TX1 7).2.2.1 ∈ wsX1_init := by decide +kernel
theorem kX1_init_38 : Cond.fieldLink RX1 38 (TX1 8).1 (TX1 8).2.1 (TX1 8).2.2.1 ∈ wsX1_init := by decide +kernel
theorem kX1_init_41 : Cond.fieldLink RX1 41 (TX1 9).1 (TX1 9).2.1 (TX1 9).2.2.1 ∈ wsX1_init := by decide +kernel
theorem dsc_X1_init : fw_dsc yX1_init 0 := by decide +kernel
set_option maxHeartbeats 4000000 in
set_option maxRecDepth 100000 in
theorem ct_X1_init {l : Launch} {D : va_G} {K : Nat → ClassId} (h0 : Nat)  : fw_C (S := Nat → Nat) l yX1_init wsX1_init ({ frames := 1, cells := 6, slots := 39, locals := 12 }) 6 39 true [.ref h0] D (tyS K) ([(h0, .inr (1, [.null, .null, .null, .null, .null, .null, .int 0, .int 0, .int 0, .int 0]))]) (fun r u => r = none ∧ u 6 = h0) (fun u => BW K u f0B g0B 0 (fun _ _ => 0) (fun _ _ => 0) (fun _ _ _ => 0)) (fun _ => False) := by
  refine fw_met (maxL := 2) (ret := none) (by decide) rfl (Nat.le_of_ble_eq_true rfl) ?_
  intro p e s m args below meth c A X hr hlk hnm htab hE
  refine fw_lv (lv' := [(0, .ref h0)]) [0] rfl ?_
  refine fw_aload_n (pc := 0) X dX1_init_0 rfl 0 rfl ?_
  refine fw_objInit (pc := 1) X kX1_init_oi kX1_init_oj kX1_init_ok dX1_init_1 (Nat.le_of_ble_eq_true rfl) (Nat.le_of_ble_eq_true rfl) ?_
  refine fw_aload_n (pc := 4) X dX1_init_4 rfl 0 rfl ?_
  refine fw_bipush (pc := 5) (v := 6) X dX1_init_5 (by decide) ?_
  refine fw_newa (pc := 7) (atype := .int) (ty := .int) (cA := K 0) (a0 := (6, .inl (fun _ => 0))) (N := 6) X rfl kX1_init_acint 0 rfl (fun _ => rfl) rfl (by decide) (by decide) (Nat.le_of_ble_eq_true rfl) (Nat.le_of_ble_eq_true rfl) dX1_init_7 (fun q7 => ?_)
  refine fw_ws (ws' := [(h0, .inr (1, [.null, .null, .null, .null, .null, .null, .int 0, .int 0, .int 0, .int 0])), (q7, .inl (K 0, 6, .inl (fun _ => 0)))]) rfl ?_
  refine fw_putF (pc := 9) (ws' := [(h0, .inr (1, [.ref q7, .null, .null, .null, .null, .null, .int 0, .int 0, .int 0, .int 0])), (q7, .inl (K 0, 6, .inl (fun _ => 0)))]) X iX1_init_X1 tyX1 tyX1_ok nmX1 0 rfl rfl 0 (by decide) kX1_init_9 rfl hnm rfl rfl rfl (Nat.le_of_ble_eq_true rfl) dX1_init_9 rfl ?_
  refine fw_aload_n (pc := 12) X dX1_init_12 rfl 0 rfl ?_
  refine fw_bipush (pc := 13) (v := 6) X dX1_init_13 (by decide) ?_
  refine fw_newa (pc := 15) (atype := .int) (ty := .int) (cA := K 0) (a0 := (6, .inl (fun _ => 0))) (N := 6) X rfl kX1_init_acint 0 rfl (fun _ => rfl) rfl (by decide) (by decide) (Nat.le_of_ble_eq_true rfl) (Nat.le_of_ble_eq_true rfl) dX1_init_15 (fun q15 => ?_)
  refine fw_ws (ws' := [(h0, .inr (1, [.ref q7, .null, .null, .null, .null, .null, .int 0, .int 0, .int 0, .int 0])), (q7, .inl (K 0, 6, .inl (fun _ => 0))), (q15, .inl (K 0, 6, .inl (fun _ => 0)))]) rfl ?_
  refine fw_putF (pc := 17) (ws' := [(h0, .inr (1, [.ref q7, .ref q15, .null, .null, .null, .null, .int 0, .int 0, .int 0, .int 0])), (q7, .inl (K 0, 6, .inl (fun _ => 0))), (q15, .inl (K 0, 6, .inl (fun _ => 0)))]) X iX1_init_X1 tyX1 tyX1_ok nmX1 0 rfl rfl 1 (by decide) kX1_init_13 rfl hnm rfl rfl rfl (Nat.le_of_ble_eq_true rfl) dX1_init_17 rfl ?_
  refine fw_aload_n (pc := 20) X dX1_init_20 rfl 0 rfl ?_
  refine fw_iconst (pc := 21) (v := 4) X dX1_init_21 (by decide) ?_
  refine fw_newa (pc := 22) (atype := .int) (ty := .int) (cA := K 0) (a0 := (4, .inl (fun _ => 0))) (N := 4) X rfl kX1_init_acint 0 rfl (fun _ => rfl) rfl (by decide) (by decide) (Nat.le_of_ble_eq_true rfl) (Nat.le_of_ble_eq_true rfl) dX1_init_22 (fun q22 => ?_)
  refine fw_ws (ws' := [(h0, .inr (1, [.ref q7, .ref q15, .null, .null, .null, .null, .int 0, .int 0, .int 0, .int 0])), (q7, .inl (K 0, 6, .inl (fun _ => 0))), (q15, .inl (K 0, 6, .inl (fun _ => 0))), (q22, .inl (K 0, 4, .inl (fun _ => 0)))]) rfl ?_
  refine fw_putF (pc := 24) (ws' := [(h0, .inr (1, [.ref q7, .ref q15, .ref q22, .null, .null, .null, .int 0, .int 0, .int 0, .int 0])), (q7, .inl (K 0, 6, .inl (fun _ => 0))), (q15, .inl (K 0, 6, .inl (fun _ => 0))), (q22, .inl (K 0, 4, .inl (fun _ => 0)))]) X iX1_init_X1 tyX1 tyX1_ok nmX1 0 rfl rfl 2 (by decide) kX1_init_16 rfl hnm rfl rfl rfl (Nat.le_of_ble_eq_true rfl) dX1_init_24 rfl ?_
  refine fw_aload_n (pc := 27) X dX1_init_27 rfl 0 rfl ?_
  refine fw_iconst (pc := 28) (v := 4) X dX1_init_28 (by decide) ?_
  refine fw_newa (pc := 29) (atype := .int) (ty := .int) (cA := K 0) (a0 := (4, .inl (fun _ => 0))) (N := 4) X rfl kX1_init_acint 0 rfl (fun _ => rfl) rfl (by decide) (by decide) (Nat.le_of_ble_eq_true rfl) (Nat.le_of_ble_eq_true rfl) dX1_init_29 (fun q29 => ?_)
  refine fw_ws (ws' := [(h0, .inr (1, [.ref q7, .ref q15, .ref q22, .null, .null, .null, .int 0, .int 0, .int 0, .int 0])), (q7, .inl (K 0, 6, .inl (fun _ => 0))), (q15, .inl (K 0, 6, .inl (fun _ => 0))), (q22, .inl (K 0, 4, .inl (fun _ => 0))), (q29, .inl (K 0, 4, .inl (fun _ => 0)))]) rfl ?_
  refine fw_putF (pc := 31) (ws' := [(h0, .inr (1, [.ref q7, .ref q15, .ref q22, .ref q29, .null, .null, .int 0, .int 0, .int 0, .int 0])), (q7, .inl (K 0, 6, .inl (fun _ => 0))), (q15, .inl (K 0, 6, .inl (fun _ => 0))), (q22, .inl (K 0, 4, .inl (fun _ => 0))), (q29, .inl (K 0, 4, .inl (fun _ => 0)))]) X iX1_init_X1 tyX1 tyX1_ok nmX1 0 rfl rfl 3 (by decide) kX1_init_19 rfl hnm rfl rfl rfl (Nat.le_of_ble_eq_true rfl) dX1_init_31 rfl ?_
  refine fw_aload_n (pc := 34) X dX1_init_34 rfl 0 rfl ?_
  refine fw_iconst (pc := 35) (v := 4) X dX1_init_35 (by decide) ?_
  refine fw_newa (pc := 36) (atype := .int) (ty := .int) (cA := K 0) (a0 := (4, .inl (fun _ => 0))) (N := 4) X rfl kX1_init_acint 0 rfl (fun _ => rfl) rfl (by decide) (by decide) (Nat.le_of_ble_eq_true rfl) (Nat.le_of_ble_eq_true rfl) dX1_init_36 (fun q36 => ?_)
  refine fw_ws (ws' := [(h0, .inr (1, [.ref q7, .ref q15, .ref q22, .ref q29, .null, .null, .int 0, .int 0, .int 0, .int 0])), (q7, .inl (K 0, 6, .inl (fun _ => 0))), (q15, .inl (K 0, 6, .inl (fun _ => 0))), (q22, .inl (K 0, 4, .inl (fun _ => 0))), (q29, .inl (K 0, 4, .inl (fun _ => 0))), (q36, .inl (K 0, 4, .inl (fun _ => 0)))]) rfl ?_
  refine fw_putF (pc := 38) (ws' := [(h0, .inr (1, [.ref q7, .ref q15, .ref q22, .ref q29, .ref q36, .null, .int 0, .int 0, .int 0, .int 0])), (q7, .inl (K 0, 6, .inl (fun _ => 0))), (q15, .inl (K 0, 6, .inl (fun _ => 0))), (q22, .inl (K 0, 4, .inl (fun _ => 0))), (q29, .inl (K 0, 4, .inl (fun _ => 0))), (q36, .inl (K 0, 4, .inl (fun _ => 0)))]) X iX1_init_X1 tyX1 tyX1_ok nmX1 0 rfl rfl 4 (by decide) kX1_init_22 rfl hnm rfl rfl rfl (Nat.le_of_ble_eq_true rfl) dX1_init_38 rfl ?_
  refine fw_aload_n (pc := 41) X dX1_init_41 rfl 0 rfl ?_
  refine fw_bipush (pc := 42) (v := 15) X dX1_init_42 (by decide) ?_
  refine fw_newq (pc := 44) (C := RX0) (cA := K 3) (N := 15) X (hE rfl).2.2.2.2.2.2.1 kX1_init_cl 3 rfl rfl (by decide) (by decide) (Nat.le_of_ble_eq_true rfl) (Nat.le_of_ble_eq_true rfl) dX1_init_44 (fun q44 => ?_)
  refine fw_ws (ws' := [(h0, .inr (1, [.ref q7, .ref q15, .ref q22, .ref q29, .ref q36, .null, .int 0, .int 0, .int 0, .int 0])), (q7, .inl (K 0, 6, .inl (fun _ => 0))), (q15, .inl (K 0, 6, .inl (fun _ => 0))), (q22, .inl (K 0, 4, .inl (fun _ => 0))), (q29, .inl (K 0, 4, .inl (fun _ => 0))), (q36, .inl (K 0, 4, .inl (fun _ => 0))), (q44, .inl (K 3, 15, .inr (.inr (.inr (.inr (fun _ => none))))))]) rfl ?_
  refine fw_putF (pc := 47) (ws' := [(h0, .inr (1, [.ref q7, .ref q15, .ref q22, .ref q29, .ref q36, .ref q44, .int 0, .int 0, .int 0, .int 0])), (q7, .inl (K 0, 6, .inl (fun _ => 0))), (q15, .inl (K 0, 6, .inl (fun _ => 0))), (q22, .inl (K 0, 4, .inl (fun _ => 0))), (q29, .inl (K 0, 4, .inl (fun _ => 0))), (q36, .inl (K 0, 4, .inl (fun _ => 0))), (q44, .inl (K 3, 15, .inr (.inr (.inr (.inr (fun _ => none))))))]) X iX1_init_X1 tyX1 tyX1_ok nmX1 0 rfl rfl 5 (by decide) kX1_init_27 rfl hnm rfl rfl rfl (Nat.le_of_ble_eq_true rfl) dX1_init_47 rfl ?_
  refine fw_aload_n (pc := 50) X dX1_init_50 rfl 0 rfl ?_
  refine fw_iconst (pc := 51) (v := 0) X dX1_init_51 (by decide) ?_
  refine fw_put (pc := 52) (ws' := [(h0, .inr (1, [.ref q7, .ref q15, .ref q22, .ref q29, .ref q36, .ref q44, .int 0, .int 0, .int 0, .int 0])), (q7, .inl (K 0, 6, .inl (fun _ => 0))), (q15, .inl (K 0, 6, .inl (fun _ => 0))), (q22, .inl (K 0, 4, .inl (fun _ => 0))), (q29, .inl (K 0, 4, .inl (fun _ => 0))), (q36, .inl (K 0, 4, .inl (fun _ => 0))), (q44, .inl (K 3, 15, .inr (.inr (.inr (.inr (fun _ => none))))))]) X iX1_init_X1 tyX1 tyX1_ok nmX1 0 rfl rfl 6 (by decide) kX1_init_31 rfl rfl rfl (Nat.le_of_ble_eq_true rfl) dX1_init_52 rfl ?_
  refine fw_aload_n (pc := 55) X dX1_init_55 rfl 0 rfl ?_
  refine fw_iconst (pc := 56) (v := 0) X dX1_init_56 (by decide) ?_
  refine fw_put (pc := 57) (ws' := [(h0, .inr (1, [.ref q7, .ref q15, .ref q22, .ref q29, .ref q36, .ref q44, .int 0, .int 0, .int 0, .int 0])), (q7, .inl (K 0, 6, .inl (fun _ => 0))), (q15, .inl (K 0, 6, .inl (fun _ => 0))), (q22, .inl (K 0, 4, .inl (fun _ => 0))), (q29, .inl (K 0, 4, .inl (fun _ => 0))), (q36, .inl (K 0, 4, .inl (fun _ => 0))), (q44, .inl (K 3, 15, .inr (.inr (.inr (.inr (fun _ => none))))))]) X iX1_init_X1 tyX1 tyX1_ok nmX1 0 rfl rfl 7 (by decide) kX1_init_35 rfl rfl rfl (Nat.le_of_ble_eq_true rfl) dX1_init_57 rfl ?_
  refine fw_aload_n (pc := 60) X dX1_init_60 rfl 0 rfl ?_
  refine fw_bipush (pc := 61) (v := 25) X dX1_init_61 (by decide) ?_
  refine fw_put (pc := 63) (ws' := [(h0, .inr (1, [.ref q7, .ref q15, .ref q22, .ref q29, .ref q36, .ref q44, .int 0, .int 0, .int 25, .int 0])), (q7, .inl (K 0, 6, .inl (fun _ => 0))), (q15, .inl (K 0, 6, .inl (fun _ => 0))), (q22, .inl (K 0, 4, .inl (fun _ => 0))), (q29, .inl (K 0, 4, .inl (fun _ => 0))), (q36, .inl (K 0, 4, .inl (fun _ => 0))), (q44, .inl (K 3, 15, .inr (.inr (.inr (.inr (fun _ => none))))))]) X iX1_init_X1 tyX1 tyX1_ok nmX1 0 rfl rfl 8 (by decide) kX1_init_38 rfl rfl rfl (Nat.le_of_ble_eq_true rfl) dX1_init_63 rfl ?_
  refine fw_aload_n (pc := 66) X dX1_init_66 rfl 0 rfl ?_
  refine fw_iconst (pc := 67) (v := 0) X dX1_init_67 (by decide) ?_
  refine fw_put (pc := 68) (ws' := [(h0, .inr (1, [.ref q7, .ref q15, .ref q22, .ref q29, .ref q36, .ref q44, .int 0, .int 0, .int 25, .int 0])), (q7, .inl (K 0, 6, .inl (fun _ => 0))), (q15, .inl (K 0, 6, .inl (fun _ => 0))), (q22, .inl (K 0, 4, .inl (fun _ => 0))), (q29, .inl (K 0, 4, .inl (fun _ => 0))), (q36, .inl (K 0, 4, .inl (fun _ => 0))), (q44, .inl (K 3, 15, .inr (.inr (.inr (.inr (fun _ => none))))))]) X iX1_init_X1 tyX1 tyX1_ok nmX1 0 rfl rfl 9 (by decide) kX1_init_41 rfl rfl rfl (Nat.le_of_ble_eq_true rfl) dX1_init_68 rfl ?_
  refine fw_iconst (pc := 71) (v := 0) X dX1_init_71 (by decide) ?_
  refine fw_istore_n (pc := 72) (lv' := [(1, .int 0), (0, .ref h0)]) X dX1_init_72 rfl (by decide) rfl ?_
  refine fw_iload_n (pc := 73) X dX1_init_73 rfl 0 rfl ?_
  refine fw_bipush (pc := 74) (v := 6) X dX1_init_74 (by decide) ?_
  refine fw_icmp_ge (pc := 76) (tgt := 92) X dX1_init_76 (by decide) (fun q => absurd q (by decide)) (fun _ => ?_)
  refine fw_aload_n (pc := 79) X dX1_init_79 rfl 1 rfl ?_
  refine fw_get (pc := 80) (v := .ref q7) X iX1_init_X1 0 rfl rfl 0 (by decide) kX1_init_9 rfl dX1_init_80 ?_
  refine fw_iload_n (pc := 83) X dX1_init_83 rfl 0 rfl ?_
  refine fw_iconst (pc := 84) (v := 1) X dX1_init_84 (by decide) ?_
  refine fw_iast (pc := 85) (n := 6) (cA := K 0) (f := fun _ => 0) (ws' := [(h0, .inr (1, [.ref q7, .ref q15, .ref q22, .ref q29, .ref q36, .ref q44, .int 0, .int 0, .int 25, .int 0])), (q7, .inl (K 0, 6, .inl (upd (fun _ => 0) 0 1))), (q15, .inl (K 0, 6, .inl (fun _ => 0))), (q22, .inl (K 0, 4, .inl (fun _ => 0))), (q29, .inl (K 0, 4, .inl (fun _ => 0))), (q36, .inl (K 0, 4, .inl (fun _ => 0))), (q44, .inl (K 3, 15, .inr (.inr (.inr (.inr (fun _ => none))))))]) X 1 0 rfl rfl 0 (show (0 : Int32) = nI 0 from rfl) (by decide) (by decide) dX1_init_85 rfl ?_
  refine fw_iinc (pc := 86) (v := 1) (lv' := [(1, .int 1), (0, .ref h0)]) (j := 0) X dX1_init_86 rfl (by decide) (by decide) rfl ?_
  refine fw_goto (pc := 89) (tgt := 73) X dX1_init_89 (by decide) ?_
  refine fw_iload_n (pc := 73) X dX1_init_73 rfl 0 rfl ?_
  refine fw_bipush (pc := 74) (v := 6) X dX1_init_74 (by decide) ?_
  refine fw_icmp_ge (pc := 76) (tgt := 92) X dX1_init_76 (by decide) (fun q => absurd q (by decide)) (fun _ => ?_)
  refine fw_aload_n (pc := 79) X dX1_init_79 rfl 1 rfl ?_
  refine fw_get (pc := 80) (v := .ref q7) X iX1_init_X1 0 rfl rfl 0 (by decide) kX1_init_9 rfl dX1_init_80 ?_
  refine fw_iload_n (pc := 83) X dX1_init_83 rfl 0 rfl ?_
  refine fw_iconst (pc := 84) (v := 1) X dX1_init_84 (by decide) ?_
  refine fw_iast (pc := 85) (n := 6) (cA := K 0) (f := upd (fun _ => 0) 0 1) (ws' := [(h0, .inr (1, [.ref q7, .ref q15, .ref q22, .ref q29, .ref q36, .ref q44, .int 0, .int 0, .int 25, .int 0])), (q7, .inl (K 0, 6, .inl (upd (upd (fun _ => 0) 0 1) 1 1))), (q15, .inl (K 0, 6, .inl (fun _ => 0))), (q22, .inl (K 0, 4, .inl (fun _ => 0))), (q29, .inl (K 0, 4, .inl (fun _ => 0))), (q36, .inl (K 0, 4, .inl (fun _ => 0))), (q44, .inl (K 3, 15, .inr (.inr (.inr (.inr (fun _ => none))))))]) X 1 0 rfl rfl 1 (show (1 : Int32) = nI 1 from rfl) (by decide) (by decide) dX1_init_85 rfl ?_
  refine fw_iinc (pc := 86) (v := 2) (lv' := [(1, .int 2), (0, .ref h0)]) (j := 0) X dX1_init_86 rfl (by decide) (by decide) rfl ?_
  refine fw_goto (pc := 89) (tgt := 73) X dX1_init_89 (by decide) ?_
  refine fw_iload_n (pc := 73) X dX1_init_73 rfl 0 rfl ?_
  refine fw_bipush (pc := 74) (v := 6) X dX1_init_74 (by decide) ?_
  refine fw_icmp_ge (pc := 76) (tgt := 92) X dX1_init_76 (by decide) (fun q => absurd q (by decide)) (fun _ => ?_)
  refine fw_aload_n (pc := 79) X dX1_init_79 rfl 1 rfl ?_
  refine fw_get (pc := 80) (v := .ref q7) X iX1_init_X1 0 rfl rfl 0 (by decide) kX1_init_9 rfl dX1_init_80 ?_
  refine fw_iload_n (pc := 83) X dX1_init_83 rfl 0 rfl ?_
  refine fw_iconst (pc := 84) (v := 1) X dX1_init_84 (by decide) ?_
  refine fw_iast (pc := 85) (n := 6) (cA := K 0) (f := upd (upd (fun _ => 0) 0 1) 1 1) (ws' := [(h0, .inr (1, [.ref q7, .ref q15, .ref q22, .ref q29, .ref q36, .ref q44, .int 0, .int 0, .int 25, .int 0])), (q7, .inl (K 0, 6, .inl (upd (upd (upd (fun _ => 0) 0 1) 1 1) 2 1))), (q15, .inl (K 0, 6, .inl (fun _ => 0))), (q22, .inl (K 0, 4, .inl (fun _ => 0))), (q29, .inl (K 0, 4, .inl (fun _ => 0))), (q36, .inl (K 0, 4, .inl (fun _ => 0))), (q44, .inl (K 3, 15, .inr (.inr (.inr (.inr (fun _ => none))))))]) X 1 0 rfl rfl 2 (show (2 : Int32) = nI 2 from rfl) (by decide) (by decide) dX1_init_85 rfl ?_
  refine fw_iinc (pc := 86) (v := 3) (lv' := [(1, .int 3), (0, .ref h0)]) (j := 0) X dX1_init_86 rfl (by decide) (by decide) rfl ?_
  refine fw_goto (pc := 89) (tgt := 73) X dX1_init_89 (by decide) ?_
  refine fw_iload_n (pc := 73) X dX1_init_73 rfl 0 rfl ?_
  refine fw_bipush (pc := 74) (v := 6) X dX1_init_74 (by decide) ?_
  refine fw_icmp_ge (pc := 76) (tgt := 92) X dX1_init_76 (by decide) (fun q => absurd q (by decide)) (fun _ => ?_)
  refine fw_aload_n (pc := 79) X dX1_init_79 rfl 1 rfl ?_
  refine fw_get (pc := 80) (v := .ref q7) X iX1_init_X1 0 rfl rfl 0 (by decide) kX1_init_9 rfl dX1_init_80 ?_
  refine fw_iload_n (pc := 83) X dX1_init_83 rfl 0 rfl ?_
  refine fw_iconst (pc := 84) (v := 1) X dX1_init_84 (by decide) ?_
  refine fw_iast (pc := 85) (n := 6) (cA := K 0) (f := upd (upd (upd (fun _ => 0) 0 1) 1 1) 2 1) (ws' := [(h0, .inr (1, [.ref q7, .ref q15, .ref q22, .ref q29, .ref q36, .ref q44, .int 0, .int 0, .int 25, .int 0])), (q7, .inl (K 0, 6, .inl (upd (upd (upd (upd (fun _ => 0) 0 1) 1 1) 2 1) 3 1))), (q15, .inl (K 0, 6, .inl (fun _ => 0))), (q22, .inl (K 0, 4, .inl (fun _ => 0))), (q29, .inl (K 0, 4, .inl (fun _ => 0))), (q36, .inl (K 0, 4, .inl (fun _ => 0))), (q44, .inl (K 3, 15, .inr (.inr (.inr (.inr (fun _ => none))))))]) X 1 0 rfl rfl 3 (show (3 : Int32) = nI 3 from rfl) (by decide) (by decide) dX1_init_85 rfl ?_
  refine fw_iinc (pc := 86) (v := 4) (lv' := [(1, .int 4), (0, .ref h0)]) (j := 0) X dX1_init_86 rfl (by decide) (by decide) rfl ?_
  refine fw_goto (pc := 89) (tgt := 73) X dX1_init_89 (by decide) ?_
  refine fw_iload_n (pc := 73) X dX1_init_73 rfl 0 rfl ?_
  refine fw_bipush (pc := 74) (v := 6) X dX1_init_74 (by decide) ?_
  refine fw_icmp_ge (pc := 76) (tgt := 92) X dX1_init_76 (by decide) (fun q => absurd q (by decide)) (fun _ => ?_)
  refine fw_aload_n (pc := 79) X dX1_init_79 rfl 1 rfl ?_
  refine fw_get (pc := 80) (v := .ref q7) X iX1_init_X1 0 rfl rfl 0 (by decide) kX1_init_9 rfl dX1_init_80 ?_
  refine fw_iload_n (pc := 83) X dX1_init_83 rfl 0 rfl ?_
  refine fw_iconst (pc := 84) (v := 1) X dX1_init_84 (by decide) ?_
  refine fw_iast (pc := 85) (n := 6) (cA := K 0) (f := upd (upd (upd (upd (fun _ => 0) 0 1) 1 1) 2 1) 3 1) (ws' := [(h0, .inr (1, [.ref q7, .ref q15, .ref q22, .ref q29, .ref q36, .ref q44, .int 0, .int 0, .int 25, .int 0])), (q7, .inl (K 0, 6, .inl (upd (upd (upd (upd (upd (fun _ => 0) 0 1) 1 1) 2 1) 3 1) 4 1))), (q15, .inl (K 0, 6, .inl (fun _ => 0))), (q22, .inl (K 0, 4, .inl (fun _ => 0))), (q29, .inl (K 0, 4, .inl (fun _ => 0))), (q36, .inl (K 0, 4, .inl (fun _ => 0))), (q44, .inl (K 3, 15, .inr (.inr (.inr (.inr (fun _ => none))))))]) X 1 0 rfl rfl 4 (show (4 : Int32) = nI 4 from rfl) (by decide) (by decide) dX1_init_85 rfl ?_
  refine fw_iinc (pc := 86) (v := 5) (lv' := [(1, .int 5), (0, .ref h0)]) (j := 0) X dX1_init_86 rfl (by decide) (by decide) rfl ?_
  refine fw_goto (pc := 89) (tgt := 73) X dX1_init_89 (by decide) ?_
  refine fw_iload_n (pc := 73) X dX1_init_73 rfl 0 rfl ?_
  refine fw_bipush (pc := 74) (v := 6) X dX1_init_74 (by decide) ?_
  refine fw_icmp_ge (pc := 76) (tgt := 92) X dX1_init_76 (by decide) (fun q => absurd q (by decide)) (fun _ => ?_)
  refine fw_aload_n (pc := 79) X dX1_init_79 rfl 1 rfl ?_
  refine fw_get (pc := 80) (v := .ref q7) X iX1_init_X1 0 rfl rfl 0 (by decide) kX1_init_9 rfl dX1_init_80 ?_
  refine fw_iload_n (pc := 83) X dX1_init_83 rfl 0 rfl ?_
  refine fw_iconst (pc := 84) (v := 1) X dX1_init_84 (by decide) ?_
  refine fw_iast (pc := 85) (n := 6) (cA := K 0) (f := upd (upd (upd (upd (upd (fun _ => 0) 0 1) 1 1) 2 1) 3 1) 4 1) (ws' := [(h0, .inr (1, [.ref q7, .ref q15, .ref q22, .ref q29, .ref q36, .ref q44, .int 0, .int 0, .int 25, .int 0])), (q7, .inl (K 0, 6, .inl (upd (upd (upd (upd (upd (upd (fun _ => 0) 0 1) 1 1) 2 1) 3 1) 4 1) 5 1))), (q15, .inl (K 0, 6, .inl (fun _ => 0))), (q22, .inl (K 0, 4, .inl (fun _ => 0))), (q29, .inl (K 0, 4, .inl (fun _ => 0))), (q36, .inl (K 0, 4, .inl (fun _ => 0))), (q44, .inl (K 3, 15, .inr (.inr (.inr (.inr (fun _ => none))))))]) X 1 0 rfl rfl 5 (show (5 : Int32) = nI 5 from rfl) (by decide) (by decide) dX1_init_85 rfl ?_
  refine fw_iinc (pc := 86) (v := 6) (lv' := [(1, .int 6), (0, .ref h0)]) (j := 0) X dX1_init_86 rfl (by decide) (by decide) rfl ?_
  refine fw_goto (pc := 89) (tgt := 73) X dX1_init_89 (by decide) ?_
  refine fw_iload_n (pc := 73) X dX1_init_73 rfl 0 rfl ?_
  refine fw_bipush (pc := 74) (v := 6) X dX1_init_74 (by decide) ?_
  refine fw_icmp_ge (pc := 76) (tgt := 92) X dX1_init_76 (by decide) (fun _ => ?_) (fun q => absurd (by decide) q)
  exact fw_vret (pc := 92) X hr hlk (Nat.le_of_ble_eq_true rfl) (Nat.le_of_ble_eq_true rfl) dX1_init_92 (adM [q7, q15, q22, q29, q36, q44, h0]) ⟨rfl, rfl⟩ rfl
theorem kX0_init_oi : Cond.methodLink RX0 3 objectInit ∈ wsX0_init := by decide +kernel
theorem kX0_init_oj : Cond.instanceMethod objectInit ∈ wsX0_init := by decide +kernel
theorem kX0_init_ok : Cond.code objectInit ⟨#[0xb1]⟩ 1 none ∈ wsX0_init := by decide +kernel
theorem kX0_init_acint : Cond.arrayClass .int ∈ wsX0_init := by decide +kernel
theorem kX0_init_9 : Cond.fieldLink RX0 9 (TX0 2).1 (TX0 2).2.1 (TX0 2).2.2.1 ∈ wsX0_init := by decide +kernel
set_option maxRecDepth 20000 in
theorem iX0_init_X0 : ∀ w ∈ wsX00, w ∈ wsX0_init := by decide +kernel
theorem kX0_init_15 : Cond.fieldLink RX0 15 (TX0 3).1 (TX0 3).2.1 (TX0 3).2.2.1 ∈ wsX0_init := by decide +kernel
theorem kX0_init_18 : Cond.fieldLink RX0 18 (TX0 4).1 (TX0 4).2.1 (TX0 4).2.2.1 ∈ wsX0_init := by decide +kernel
theorem kX0_init_21 : Cond.fieldLink RX0 21 (TX0 5).1 (TX0 5).2.1 (TX0 5).2.2.1 ∈ wsX0_init := by decide +kernel
theorem kX0_init_25 : Cond.fieldLink RX0 25 (TX0 6).1 (TX0 6).2.1 (TX0 6).2.2.1 ∈ wsX0_init := by decide +kernel
theorem kX0_init_28 : Cond.fieldLink RX0 28 (TX0 7).1 (TX0 7).2.1 (TX0 7).2.2.1 ∈ wsX0_init := by decide +kernel
theorem kX0_init_31 : Cond.fieldLink RX0 31 (TX0 8).1 (TX0 8).2.1 (TX0 8).2.2.1 ∈ wsX0_init := by decide +kernel
theorem kX0_init_34 : Cond.fieldLink RX0 34 (TX0 9).1 (TX0 9).2.1 (TX0 9).2.2.1 ∈ wsX0_init := by decide +kernel
theorem kX0_init_37 : Cond.fieldLink RX0 37 (TX0 10).1 (TX0 10).2.1 (TX0 10).2.2.1 ∈ wsX0_init := by decide +kernel
theorem kX0_init_41 : Cond.fieldLink RX0 41 (TX0 11).1 (TX0 11).2.1 (TX0 11).2.2.1 ∈ wsX0_init := by decide +kernel
theorem kX0_init_44 : Cond.fieldLink RX0 44 (TX0 0).1 (TX0 0).2.1 (TX0 0).2.2.1 ∈ wsX0_init := by decide +kernel
theorem kX0_init_47 : Cond.fieldLink RX0 47 (TX0 1).1 (TX0 1).2.1 (TX0 1).2.2.1 ∈ wsX0_init := by decide +kernel
theorem dsc_X0_init : fw_dsc yX0_init 2 := by decide +kernel
set_option maxHeartbeats 4000000 in
set_option maxRecDepth 100000 in
theorem ct_X0_init {l : Launch} {D : va_G} {K : Nat → ClassId} (h0 : Nat) (x y : Int32) : fw_C (S := Nat → Nat) l yX0_init wsX0_init ({ frames := 1, cells := 3, slots := 30, locals := 12 }) 3 30 true [.ref h0, .int x, .int y] D (tyS K) ([(h0, .inr (0, [.int 0, .int 0, .null, .null, .null, .int 0, .int 0, .int 0, .int 0, .int 0, .int 0, .int 0]))]) (fun r u => r = none ∧ u 0 = h0) (fun u => NW K u (c0F x y) c0G) (fun _ => False) := by
  refine fw_met (maxL := 3) (ret := none) (by decide) rfl (Nat.le_of_ble_eq_true rfl) ?_
  intro p e s m args below meth c A X hr hlk hnm htab hE
  refine fw_lv (lv' := [(0, .ref h0), (1, .int x), (2, .int y)]) [0, 1, 2] rfl ?_
  refine fw_aload_n (pc := 0) X dX0_init_0 rfl 0 rfl ?_
  refine fw_objInit (pc := 1) X kX0_init_oi kX0_init_oj kX0_init_ok dX0_init_1 (Nat.le_of_ble_eq_true rfl) (Nat.le_of_ble_eq_true rfl) ?_
  refine fw_aload_n (pc := 4) X dX0_init_4 rfl 0 rfl ?_
  refine fw_bipush (pc := 5) (v := 6) X dX0_init_5 (by decide) ?_
  refine fw_newa (pc := 7) (atype := .int) (ty := .int) (cA := K 0) (a0 := (6, .inl (fun _ => 0))) (N := 6) X rfl kX0_init_acint 0 rfl (fun _ => rfl) rfl (by decide) (by decide) (Nat.le_of_ble_eq_true rfl) (Nat.le_of_ble_eq_true rfl) dX0_init_7 (fun q7 => ?_)
  refine fw_ws (ws' := [(h0, .inr (0, [.int 0, .int 0, .null, .null, .null, .int 0, .int 0, .int 0, .int 0, .int 0, .int 0, .int 0])), (q7, .inl (K 0, 6, .inl (fun _ => 0)))]) rfl ?_
  refine fw_putF (pc := 9) (ws' := [(h0, .inr (0, [.int 0, .int 0, .ref q7, .null, .null, .int 0, .int 0, .int 0, .int 0, .int 0, .int 0, .int 0])), (q7, .inl (K 0, 6, .inl (fun _ => 0)))]) X iX0_init_X0 tyX0 tyX0_ok nmX0 0 rfl rfl 2 (by decide) kX0_init_9 rfl hnm rfl rfl rfl (Nat.le_of_ble_eq_true rfl) dX0_init_9 rfl ?_
  refine fw_aload_n (pc := 12) X dX0_init_12 rfl 0 rfl ?_
  refine fw_bipush (pc := 13) (v := 6) X dX0_init_13 (by decide) ?_
  refine fw_newa (pc := 15) (atype := .int) (ty := .int) (cA := K 0) (a0 := (6, .inl (fun _ => 0))) (N := 6) X rfl kX0_init_acint 0 rfl (fun _ => rfl) rfl (by decide) (by decide) (Nat.le_of_ble_eq_true rfl) (Nat.le_of_ble_eq_true rfl) dX0_init_15 (fun q15 => ?_)
  refine fw_ws (ws' := [(h0, .inr (0, [.int 0, .int 0, .ref q7, .null, .null, .int 0, .int 0, .int 0, .int 0, .int 0, .int 0, .int 0])), (q7, .inl (K 0, 6, .inl (fun _ => 0))), (q15, .inl (K 0, 6, .inl (fun _ => 0)))]) rfl ?_
  refine fw_putF (pc := 17) (ws' := [(h0, .inr (0, [.int 0, .int 0, .ref q7, .ref q15, .null, .int 0, .int 0, .int 0, .int 0, .int 0, .int 0, .int 0])), (q7, .inl (K 0, 6, .inl (fun _ => 0))), (q15, .inl (K 0, 6, .inl (fun _ => 0)))]) X iX0_init_X0 tyX0 tyX0_ok nmX0 0 rfl rfl 3 (by decide) kX0_init_15 rfl hnm rfl rfl rfl (Nat.le_of_ble_eq_true rfl) dX0_init_17 rfl ?_
  refine fw_aload_n (pc := 20) X dX0_init_20 rfl 0 rfl ?_
  refine fw_bipush (pc := 21) (v := 18) X dX0_init_21 (by decide) ?_
  refine fw_newa (pc := 23) (atype := .int) (ty := .int) (cA := K 0) (a0 := (18, .inl (fun _ => 0))) (N := 18) X rfl kX0_init_acint 0 rfl (fun _ => rfl) rfl (by decide) (by decide) (Nat.le_of_ble_eq_true rfl) (Nat.le_of_ble_eq_true rfl) dX0_init_23 (fun q23 => ?_)
  refine fw_ws (ws' := [(h0, .inr (0, [.int 0, .int 0, .ref q7, .ref q15, .null, .int 0, .int 0, .int 0, .int 0, .int 0, .int 0, .int 0])), (q7, .inl (K 0, 6, .inl (fun _ => 0))), (q15, .inl (K 0, 6, .inl (fun _ => 0))), (q23, .inl (K 0, 18, .inl (fun _ => 0)))]) rfl ?_
  refine fw_putF (pc := 25) (ws' := [(h0, .inr (0, [.int 0, .int 0, .ref q7, .ref q15, .ref q23, .int 0, .int 0, .int 0, .int 0, .int 0, .int 0, .int 0])), (q7, .inl (K 0, 6, .inl (fun _ => 0))), (q15, .inl (K 0, 6, .inl (fun _ => 0))), (q23, .inl (K 0, 18, .inl (fun _ => 0)))]) X iX0_init_X0 tyX0 tyX0_ok nmX0 0 rfl rfl 4 (by decide) kX0_init_18 rfl hnm rfl rfl rfl (Nat.le_of_ble_eq_true rfl) dX0_init_25 rfl ?_
  refine fw_aload_n (pc := 28) X dX0_init_28 rfl 0 rfl ?_
  refine fw_iconst (pc := 29) (v := 0) X dX0_init_29 (by decide) ?_
  refine fw_put (pc := 30) (ws' := [(h0, .inr (0, [.int 0, .int 0, .ref q7, .ref q15, .ref q23, .int 0, .int 0, .int 0, .int 0, .int 0, .int 0, .int 0])), (q7, .inl (K 0, 6, .inl (fun _ => 0))), (q15, .inl (K 0, 6, .inl (fun _ => 0))), (q23, .inl (K 0, 18, .inl (fun _ => 0)))]) X iX0_init_X0 tyX0 tyX0_ok nmX0 0 rfl rfl 5 (by decide) kX0_init_21 rfl rfl rfl (Nat.le_of_ble_eq_true rfl) dX0_init_30 rfl ?_
  refine fw_aload_n (pc := 33) X dX0_init_33 rfl 0 rfl ?_
  refine fw_iconst (pc := 34) (v := 0) X dX0_init_34 (by decide) ?_
  refine fw_put (pc := 35) (ws' := [(h0, .inr (0, [.int 0, .int 0, .ref q7, .ref q15, .ref q23, .int 0, .int 0, .int 0, .int 0, .int 0, .int 0, .int 0])), (q7, .inl (K 0, 6, .inl (fun _ => 0))), (q15, .inl (K 0, 6, .inl (fun _ => 0))), (q23, .inl (K 0, 18, .inl (fun _ => 0)))]) X iX0_init_X0 tyX0 tyX0_ok nmX0 0 rfl rfl 6 (by decide) kX0_init_25 rfl rfl rfl (Nat.le_of_ble_eq_true rfl) dX0_init_35 rfl ?_
  refine fw_aload_n (pc := 38) X dX0_init_38 rfl 0 rfl ?_
  refine fw_iconst (pc := 39) (v := 0) X dX0_init_39 (by decide) ?_
  refine fw_put (pc := 40) (ws' := [(h0, .inr (0, [.int 0, .int 0, .ref q7, .ref q15, .ref q23, .int 0, .int 0, .int 0, .int 0, .int 0, .int 0, .int 0])), (q7, .inl (K 0, 6, .inl (fun _ => 0))), (q15, .inl (K 0, 6, .inl (fun _ => 0))), (q23, .inl (K 0, 18, .inl (fun _ => 0)))]) X iX0_init_X0 tyX0 tyX0_ok nmX0 0 rfl rfl 7 (by decide) kX0_init_28 rfl rfl rfl (Nat.le_of_ble_eq_true rfl) dX0_init_40 rfl ?_
  refine fw_aload_n (pc := 43) X dX0_init_43 rfl 0 rfl ?_
  refine fw_iconst (pc := 44) (v := 0) X dX0_init_44 (by decide) ?_
  refine fw_put (pc := 45) (ws' := [(h0, .inr (0, [.int 0, .int 0, .ref q7, .ref q15, .ref q23, .int 0, .int 0, .int 0, .int 0, .int 0, .int 0, .int 0])), (q7, .inl (K 0, 6, .inl (fun _ => 0))), (q15, .inl (K 0, 6, .inl (fun _ => 0))), (q23, .inl (K 0, 18, .inl (fun _ => 0)))]) X iX0_init_X0 tyX0 tyX0_ok nmX0 0 rfl rfl 8 (by decide) kX0_init_31 rfl rfl rfl (Nat.le_of_ble_eq_true rfl) dX0_init_45 rfl ?_
  refine fw_aload_n (pc := 48) X dX0_init_48 rfl 0 rfl ?_
  refine fw_iconst (pc := 49) (v := 0) X dX0_init_49 (by decide) ?_
  refine fw_put (pc := 50) (ws' := [(h0, .inr (0, [.int 0, .int 0, .ref q7, .ref q15, .ref q23, .int 0, .int 0, .int 0, .int 0, .int 0, .int 0, .int 0])), (q7, .inl (K 0, 6, .inl (fun _ => 0))), (q15, .inl (K 0, 6, .inl (fun _ => 0))), (q23, .inl (K 0, 18, .inl (fun _ => 0)))]) X iX0_init_X0 tyX0 tyX0_ok nmX0 0 rfl rfl 9 (by decide) kX0_init_34 rfl rfl rfl (Nat.le_of_ble_eq_true rfl) dX0_init_50 rfl ?_
  refine fw_aload_n (pc := 53) X dX0_init_53 rfl 0 rfl ?_
  refine fw_iconst (pc := 54) (v := 0) X dX0_init_54 (by decide) ?_
  refine fw_put (pc := 55) (ws' := [(h0, .inr (0, [.int 0, .int 0, .ref q7, .ref q15, .ref q23, .int 0, .int 0, .int 0, .int 0, .int 0, .int 0, .int 0])), (q7, .inl (K 0, 6, .inl (fun _ => 0))), (q15, .inl (K 0, 6, .inl (fun _ => 0))), (q23, .inl (K 0, 18, .inl (fun _ => 0)))]) X iX0_init_X0 tyX0 tyX0_ok nmX0 0 rfl rfl 10 (by decide) kX0_init_37 rfl rfl rfl (Nat.le_of_ble_eq_true rfl) dX0_init_55 rfl ?_
  refine fw_aload_n (pc := 58) X dX0_init_58 rfl 0 rfl ?_
  refine fw_iconst (pc := 59) (v := 0) X dX0_init_59 (by decide) ?_
  refine fw_put (pc := 60) (ws' := [(h0, .inr (0, [.int 0, .int 0, .ref q7, .ref q15, .ref q23, .int 0, .int 0, .int 0, .int 0, .int 0, .int 0, .int 0])), (q7, .inl (K 0, 6, .inl (fun _ => 0))), (q15, .inl (K 0, 6, .inl (fun _ => 0))), (q23, .inl (K 0, 18, .inl (fun _ => 0)))]) X iX0_init_X0 tyX0 tyX0_ok nmX0 0 rfl rfl 11 (by decide) kX0_init_41 rfl rfl rfl (Nat.le_of_ble_eq_true rfl) dX0_init_60 rfl ?_
  refine fw_aload_n (pc := 63) X dX0_init_63 rfl 0 rfl ?_
  refine fw_iload_n (pc := 64) X dX0_init_64 rfl 1 rfl ?_
  refine fw_putF (pc := 65) (ws' := [(h0, .inr (0, [.int x, .int 0, .ref q7, .ref q15, .ref q23, .int 0, .int 0, .int 0, .int 0, .int 0, .int 0, .int 0])), (q7, .inl (K 0, 6, .inl (fun _ => 0))), (q15, .inl (K 0, 6, .inl (fun _ => 0))), (q23, .inl (K 0, 18, .inl (fun _ => 0)))]) X iX0_init_X0 tyX0 tyX0_ok nmX0 0 rfl rfl 0 (by decide) kX0_init_44 rfl hnm rfl rfl rfl (Nat.le_of_ble_eq_true rfl) dX0_init_65 rfl ?_
  refine fw_aload_n (pc := 68) X dX0_init_68 rfl 0 rfl ?_
  refine fw_iload_n (pc := 69) X dX0_init_69 rfl 2 rfl ?_
  refine fw_putF (pc := 70) (ws' := [(h0, .inr (0, [.int x, .int y, .ref q7, .ref q15, .ref q23, .int 0, .int 0, .int 0, .int 0, .int 0, .int 0, .int 0])), (q7, .inl (K 0, 6, .inl (fun _ => 0))), (q15, .inl (K 0, 6, .inl (fun _ => 0))), (q23, .inl (K 0, 18, .inl (fun _ => 0)))]) X iX0_init_X0 tyX0 tyX0_ok nmX0 0 rfl rfl 1 (by decide) kX0_init_47 rfl hnm rfl rfl rfl (Nat.le_of_ble_eq_true rfl) dX0_init_70 rfl ?_
  exact fw_vret (pc := 73) X hr hlk (Nat.le_of_ble_eq_true rfl) (Nat.le_of_ble_eq_true rfl) dX0_init_73 (adM [h0, 0, q7, q15, q23]) ⟨rfl, rfl⟩ rfl
