section NSN
variable {p : Program} {l : Launch} {e : Env} {R : Room} {s : State} {m : MethodId} {args : Array Value} {below : List Frame} {meth : Method} {c : Code} {T : State} {H : Heap} {locs : List Loc} {cells slots : Nat}
theorem vx_callSN (X : Stand p l e R s m args below meth c T locs cells slots) (hexec : p.tables.exec = Jvm.exec) {own : String} {index : Nat} {host : String} {y : MethodName} {bytes : ByteArray} {maxL : Nat} {ret : Option FieldType}
    (hown : s.vm.findClass own = some m.cls) (hlink : (Cond.methodLinkNest own index y host).before args s = true) (hstat : (Cond.static y).before args s = true) (hinit : (Cond.initialized y.cls).before args s = true)
    (hcode : (Cond.code y bytes maxL ret).before args s = true) (hy : y.cls ≠ "java/lang/invoke/MethodHandle" ∧ y.cls ≠ "java/lang/invoke/VarHandle")
    {W : Nat} {Pre : Pt → Array Value → Prop} {Post : Pt → Array Value → Option Value → Pt → Prop} {PostX : Pt → Array Value → Addr → Pt → Prop} (hK : vx_Back l R p e below s args y 3 W Pre Post PostX)
    {g : JFrame} (hg : g.method = m) (hsize : g.locals.size = c.maxLocals) {argsL rest : List Value} (hlen : ∀ sig, parseMethodDescriptor y.desc = some sig → argsL.length = sig.parameters.length)
    (hstack : g.stack = argsL.reverse ++ rest) (hW : 2 * g.monitorRoom + (rest.map fun v => v.category).sum ≤ W) (hdg : decode c.code g.pc = .ok (.invokestatic index, 3))
    (hpre : ∀ vm₁, s.WarmedH vm₁ → Pre ⟨T.setVm vm₁, locs, cells, slots⟩ argsL.toArray) :
    (∃ (v : Option Value) (vm₁ : Vm) (B : Pt), s.WarmedH vm₁ ∧ Stand p l e R s m args below meth c B.U B.locs B.cells B.slots ∧ Post ⟨T.setVm vm₁, locs, cells, slots⟩ argsL.toArray v B ∧
      ∀ target, Steps p.tables e below (B.U.setTop { g with pc := g.pc + 3, stack := v.toList ++ rest }) target → Steps p.tables e below (T.setTop g) target) ∨
    (∃ (q : Addr) (vm₁ : Vm) (B : Pt), s.WarmedH vm₁ ∧ Stand p l e R s m args below meth c B.U B.locs B.cells B.slots ∧ PostX ⟨T.setVm vm₁, locs, cells, slots⟩ argsL.toArray q B ∧
      Steps p.tables e below (T.setTop g) ((B.U.setTop { g with stack := rest }).pushFrame (.throwing q))) := by
  obtain ⟨mk, hnamed⟩ := Cond.code_named hcode
  obtain ⟨methM, cM, hmethM, -, -, -, -, -, -, hsigM⟩ := Cond.code_spec hnamed hcode
  have hstatic : methM.isStatic = true := Cond.static_spec hnamed hmethM hstat
  obtain ⟨kP, hkP, -⟩ := className_of_methodNamed hnamed
  have hinitP : kP.init = .initialized := Cond.initialized_spec (findClass_of_methodNamed hnamed) hkP hinit
  obtain ⟨vm₁, X₁, hstep₁⟩ := X.invokestaticNest hexec hown hlink hnamed hmethM hstatic hkP hinitP hy (g := g) hg (argsL := argsL) (rest := rest) (hlen _ hsigM) hstack hdg
  rcases hK m meth c ⟨T.setVm vm₁, locs, cells, slots⟩ { g with stack := rest } (.invokestatic index) mk argsL.toArray X₁ hg hsize hdg hW (X₁.named hnamed) (hpre vm₁ X₁.warmed) with ⟨v, B, X', hpost, hsteps⟩ | ⟨q, B, X', hpost, hsteps⟩
  · exact Or.inl ⟨v, vm₁, B, X₁.warmed, X', hpost, fun target h => hstep₁ _ fun acts => by rw [doInvoke_state]; exact hsteps.trans h⟩
  · exact Or.inr ⟨q, vm₁, B, X₁.warmed, X', hpost, hstep₁ _ fun acts => by rw [doInvoke_state]; exact hsteps⟩
theorem vx_runSN {y : MethodName} {bytes cc : ByteArray} {maxL nL mc ms n index : Nat} {ret : Option FieldType} {ws : List Cond} {rm : Room} {Pc : Array Value → State → Prop} {Qc : Array Value → State → Outcome → State → Prop} {XC : String → State → State → Prop} {free : Addr → Prop} {Ts : List Cond} {own host : String} {As rest : List Value} {g : JFrame}
    (S : CallFix p m c cc nL s args Ts own) (hM : vx_Met l y ws rm Pc Qc XC mc ms free) (cw : va_CN R s args own index y host bytes maxL ret ws rm mc ms n ∧ (Cond.static y).before args s = true ∧ True) (hp : PreS s H Pc As)
    (hg : g.method = m) (hn : As.length = n) (hsize : g.locals.size = nL) (hstack : g.stack = As.reverse ++ rest) (hW : 2 * g.monitorRoom + (rest.map fun v => v.category).sum ≤ 8) (hdg : decode cc g.pc = .ok (.invokestatic index, 3)) (hf : cells + mc ≤ R.cells ∧ slots + ms ≤ R.slots) :
    vx_Run p l e R s m args below meth c H locs cells slots mc ms g rest (Qc As.toArray) XC free := by
  obtain ⟨⟨⟨hrc, hrs, hfr, hlo, hws, hcw⟩, hcode, hini, hy, hlen, hl⟩, hx1, hx2⟩ := cw
  have hK : vx_Back l R p e below s args y 3 8 (PreOf R mc ms Pc) (PostOf Qc mc ms free) (vx_Post XC mc ms free) := vx_back (bytes := bytes) (maxL := maxL) (ret := ret) hM hp.1 hrc hrs hfr hlo hws hcw (fun a' U hW => word_at hW (Or.inl (by first | rfl | simp [Cond.onTables, Cond.keeps, Cond.steady])) hini)
  obtain ⟨hx, hb, hml, ho, -⟩ := S
  have hPc := hp.2
  intro T hT X
  rcases vx_callSN X hx (bytes := bytes) (maxL := maxL) (ret := ret) ho hl hx1 hini hcode hy hK hg (hsize.trans hml.symm) (argsL := As) (rest := rest) (fun sig h => hn.trans (hlen sig h)) hstack hW (by rw [hb]; exact hdg)
    (fun vm₁ hW₁ => ⟨hf.1, hf.2, hPc (T.setVm vm₁) hT hW₁⟩) with ⟨v, vm₁, ⟨U', l2, c2, s2⟩, hW₁, X', ⟨g', mk, t, L, e1, e2, hq, h1, hL, h2, h3⟩, st⟩ | ⟨q, vm₁, ⟨U', l2, c2, s2⟩, hW₁, X', ⟨g', mk, t, L, E, ce, e1, e2, hq, hce, hcv, hcl, h1, hL, h2, h3⟩, st⟩
  · dsimp only [Pt.U, Pt.locs, Pt.cells, Pt.slots] at X' e1 e2 h1 h2 h3 st
    subst h1; subst h2; subst h3
    exact Or.inl ⟨v, (T.setVm vm₁).calling g' mk As.toArray, t, U', L, hT, X', hL, e1, e2, hq, st⟩
  · dsimp only [Pt.U, Pt.locs, Pt.cells, Pt.slots] at X' e1 e2 h1 h2 h3 st hcl
    subst h1; subst h2; subst h3
    exact Or.inr ⟨q, (T.setVm vm₁).calling g' mk As.toArray, t, U', L, E, ce, hT, X', hL, e1, e2, hq, hce, hcv, vx_cls hW₁ hcl, st⟩
variable {D : va_G} {A : Nat → Prop} {nL : Nat} {Q : State → Prop} {ws : va_W} {lv : List (Nat × Value)} {pc : Nat} {st : List Value} {cc : ByteArray} {own : String} {Ts : List Cond} {tys : List (ClassId × FieldType)}
variable {S : Type} {y : MethodName} {bytes : ByteArray} {maxL n index : Nat} {ret : Option FieldType} {wy wy' : List Cond} {rm : Room} {mc ms : Nat} {b b' : Bool} {post : Option Value → S → Prop} {WS : S → va_W} {PX : String → Prop} {stk : List Value}
theorem fw_callSN {host : String} (X : fw_X p s m args c D A nL cc own Ts tys) (hE : fw_E b A s) (As : List Value) (hM : fw_C l y wy rm mc ms b' As D tys ws post WS PX) (hb : b' = true → b = true) (hG : GoodIn Ts wy) (hw : wy = Cond.code y bytes maxL ret :: wy') (hrc : rm.cells = mc ∧ rm.slots = ms) (hd : fw_dsc y n) (hR : rm.frames + 1 ≤ R.frames ∧ 8 + (maxL + 11) + rm.locals ≤ R.locals)
    (hstat : Cond.static y ∈ Ts) (hini : Cond.initialized y.cls ∈ Ts) (hlk : va_Nw (.methodLinkNest own index y host) s)
    (hn : As.length = n) (hstk : stk = As.reverse ++ st) (hcat : (st.map fun v => v.category).sum ≤ 8) (hdg : decode cc pc = .ok (.invokestatic index, 3)) (hf : cells + mc ≤ R.cells ∧ slots + ms ≤ R.slots)
    (kx : ∀ E, PX E → fw_V p l e R s m args below meth c D A nL Q ws (cells + mc) (slots + ms) lv pc st E)
    (kk : ∀ (r : Option Value) (u : S), post r u → fw_W p l e R s m args below meth c D A nL Q (WS u) (cells + mc) (slots + ms) lv (pc + 3) (r.toList ++ st)) :
    fw_W p l e R s m args below meth c D A nL Q ws cells slots lv pc stk :=
  fw_run X (fun H locs ls h1 h2 h3 h4 => vx_runSN X.1 (hM H.size) ⟨va_cnB n X.1.2.2.2.2 hG hw hrc.1 hrc.2 hlk (X.1.2.2.2.2 _ hini) hd hR, X.1.2.2.2.2 _ hstat, trivial⟩ ⟨fw_blind, fun U hU hW => ⟨rfl, by rw [hU], by rw [hU]; exact h2, va_K.moved hW.alike X.2.1, h3.weaken (fun _ _ _ _ => trivial), fw_E_call hb hE h4 hU hW (fw_free X h3 h4)⟩⟩ rfl hn h1.1 hstk (lv_room hcat) hdg hf) kx kk
end NSN
def b_en_cg (bg : Nat → Nat → Int32) (cg : Nat → Nat → Nat → Int32) (k j : Nat) : Nat → Nat → Nat → Int32 := va_up cg k (va_up (va_up (cg k) 4 (b_es cg k j 6)) 3 (b_ed bg cg k 6))
def b_en_cf (cf : Nat → Nat → Int32) (x : Int32) (k : Nat) : Nat → Nat → Int32 := if x = 0 then va_up cf k (upd (upd (cf k) 9 x) 5 3) else va_up cf k (upd (upd (cf k) 9 x) 5 2)
theorem cg_id {cg : Nat → Nat → Nat → Int32} {k : Nat} : cg = va_up cg k (va_up (va_up (cg k) 4 (cg k 4)) 3 (cg k 3)) := by
  funext a b
  by_cases h : a = k
  · subst h
    by_cases h1 : b = 3
    · subst h1; simp [va_up]
    · by_cases h2 : b = 4
      · subst h2; simp [va_up]
      · simp [va_up, h1, h2]
  · simp [va_up, h]
theorem kX0_enterStore_34 : Cond.fieldLink RX0 34 (TX0 9).1 (TX0 9).2.1 (TX0 9).2.2.1 ∈ wsX0_enterStore := by decide +kernel
theorem kX0_enterStore_21 : Cond.fieldLink RX0 21 (TX0 5).1 (TX0 5).2.1 (TX0 5).2.2.1 ∈ wsX0_enterStore := by decide +kernel
theorem kX0_enterStore_18 : Cond.fieldLink RX0 18 (TX0 4).1 (TX0 4).2.1 (TX0 4).2.2.1 ∈ wsX0_enterStore := by decide +kernel
set_option maxRecDepth 20000 in
theorem iX0_enterStore_X0 : ∀ w ∈ wsX00, w ∈ wsX0_enterStore := by decide +kernel
theorem kX0_enterStore_st_X1_placeOf : Cond.static yX1_placeOf ∈ wsX0_enterStore := by decide +kernel
theorem kX0_enterStore_in_X1 : Cond.initialized RX1 ∈ wsX0_enterStore := by decide +kernel
theorem kX0_enterStore_9 : Cond.fieldLink RX0 9 (TX0 2).1 (TX0 2).2.1 (TX0 2).2.2.1 ∈ wsX0_enterStore := by decide +kernel
theorem kX0_enterStore_15 : Cond.fieldLink RX0 15 (TX0 3).1 (TX0 3).2.1 (TX0 3).2.2.1 ∈ wsX0_enterStore := by decide +kernel
set_option maxHeartbeats 4000000 in
set_option maxRecDepth 100000 in
theorem lp_X0_enterStore_2 {p : Program} {l : Launch} {e : Env} {s : State} {m : MethodId} {args : Array Value} {below : List Frame} {meth : Method} {c : Code} {D : va_G} {A : Nat → Prop} {Q : State → Prop} (hl : l.stackTraces = false) {K : Nat → ClassId} {ba : Nat → Nat} {bf : Nat → Int32} {bg : Nat → Nat → Int32} {n : Nat} {ca : Nat → Nat → Nat} {cf : Nat → Nat → Int32} {cg : Nat → Nat → Nat → Int32} (k : Nat) (hk : k < n) (x : Int32) (j : Nat) (hx : x = nI j) (hj : j < 3) (X : fw_X p s m args c D A 4 cX0_enterStore RX0 wsX0_enterStore (tyS K)) (hE : fw_E true A s) (kk : fw_W p l e ({ frames := 1, cells := 0, slots := 0, locals := 25 }) s m args below meth c D A 4 Q (BW K ba bf bg n ca cf (va_up cg k (va_up (va_up (cg k) 4 (b_es cg k j 6)) 3 (b_ed bg cg k 6)))) 0 0 [(0, .ref (ca k 0)), (1, .int x), (2, .ref (ba 0)), (3, .int (nI 6))] 39 []) : ∀ (d i : Nat), i + d = 6 → fw_W p l e ({ frames := 1, cells := 0, slots := 0, locals := 25 }) s m args below meth c D A 4 Q (BW K ba bf bg n ca cf (va_up cg k (va_up (va_up (cg k) 4 (b_es cg k j i)) 3 (b_ed bg cg k i)))) 0 0 [(0, .ref (ca k 0)), (1, .int x), (2, .ref (ba 0)), (3, .int (nI i))] 2 [] := by
  intro d
  induction d with
  | zero =>
    intro i hi
    obtain rfl : i = 6 := by omega
    refine fw_iload_n (pc := 2) X dX0_enterStore_2 rfl 3 rfl ?_
    refine fw_bipush (pc := 3) (v := 6) X dX0_enterStore_3 (by decide) ?_
    refine fw_icmp_ge (pc := 5) (tgt := 39) X dX0_enterStore_5 (by decide) (fun _ => ?_) (fun q => absurd (by decide) q)
    exact kk
  | succ d ih =>
    intro i hi
    refine fw_iload_n (pc := 2) X dX0_enterStore_2 rfl 3 rfl ?_
    refine fw_bipush (pc := 3) (v := 6) X dX0_enterStore_3 (by decide) ?_
    refine fw_icmp_ge (pc := 5) (tgt := 39) X dX0_enterStore_5 (by decide) (fun q => absurd q (nI_ge (a := i) (b := 6) (by omega) (by omega))) (fun _ => ?_)
    refine fw_aload_n (pc := 8) X dX0_enterStore_8 rfl 0 rfl ?_
    refine fw_get (pc := 9) (v := .ref (ca k 4)) X iX0_enterStore_X0 (4 * k + 0 + 7) (B_co k hk) rfl 4 (by decide) kX0_enterStore_18 rfl dX0_enterStore_9 ?_
    refine fw_iload_n (pc := 12) X dX0_enterStore_12 rfl 3 rfl ?_
    refine fw_iload_n (pc := 13) X dX0_enterStore_13 rfl 1 rfl ?_
    refine fw_callSN (pc := 14) (n := 2) (host := RX1) X hE [.int (nI i), .int x] (ct_X1_placeOf hl (nI i) x) (by decide) gX0_enterStore_X1_placeOf_n50 rfl ⟨rfl, rfl⟩ dsc_X1_placeOf ⟨Nat.le_of_ble_eq_true rfl, Nat.le_of_ble_eq_true rfl⟩ kX0_enterStore_st_X1_placeOf kX0_enterStore_in_X1 (hE rfl).2.2.2.2.2.1 rfl rfl (Nat.le_of_ble_eq_true rfl) dX0_enterStore_14 ⟨Nat.le_of_ble_eq_true rfl, Nat.le_of_ble_eq_true rfl⟩ (fun _ q => q.elim) (fun r0 u0 r_1 => ?_)
    subst r_1
    refine fw_aload_n (pc := 17) X dX0_enterStore_17 rfl 0 rfl ?_
    refine fw_get (pc := 18) (v := .ref (ca k 2)) X iX0_enterStore_X0 (4 * k + 0 + 7) (B_co k hk) rfl 2 (by decide) kX0_enterStore_9 rfl dX0_enterStore_18 ?_
    refine fw_iload_n (pc := 21) X dX0_enterStore_21 rfl 3 rfl ?_
    refine fw_iald (pc := 22) (n := 6) (cA := K 0) (f := cg k 2) X (4 * k + 1 + 7) 0 ((B_c2 (cg := (va_up cg k (va_up (va_up (cg k) 4 (b_es cg k j i)) 3 (b_ed bg cg k i)))) k hk).trans (by simp [va_up])) rfl i rfl (by omega) (by decide) dX0_enterStore_22 ?_
    refine fw_iast (pc := 23) (n := 18) (cA := K 0) (f := b_es cg k j i) (ws' := BW K ba bf bg n ca cf (va_up cg k (va_up (va_up (cg k) 3 (b_ed bg cg k i)) 4 (upd (b_es cg k j i) (i * 3 + j) (cg k 2 i))))) X (4 * k + 3 + 7) 0 ((B_c4 (cg := (va_up cg k (va_up (va_up (cg k) 4 (b_es cg k j i)) 3 (b_ed bg cg k i)))) k hk).trans (by simp [va_up])) rfl (i * 3 + j) (nf_add (nf_mul rfl (show (3 : Int32) = nI 3 from rfl)) hx) (by omega) (by decide) dX0_enterStore_23 ((B_cs4 k hk _).trans (by rw [cg_nm]; rw [cg_sw (by decide)])) ?_
    refine fw_aload_n (pc := 24) X dX0_enterStore_24 rfl 0 rfl ?_
    refine fw_get (pc := 25) (v := .ref (ca k 3)) X iX0_enterStore_X0 (4 * k + 0 + 7) (B_co k hk) rfl 3 (by decide) kX0_enterStore_15 rfl dX0_enterStore_25 ?_
    refine fw_iload_n (pc := 28) X dX0_enterStore_28 rfl 3 rfl ?_
    refine fw_aload_n (pc := 29) X dX0_enterStore_29 rfl 2 rfl ?_
    refine fw_iload_n (pc := 30) X dX0_enterStore_30 rfl 3 rfl ?_
    refine fw_iald (pc := 31) (n := 6) (cA := K 0) (f := bg 0) X 1 0 (B_g0 (bg := bg)) rfl i rfl (by omega) (by decide) dX0_enterStore_31 ?_
    refine fw_iast (pc := 32) (n := 6) (cA := K 0) (f := b_ed bg cg k i) (ws' := BW K ba bf bg n ca cf (va_up cg k (va_up (va_up (cg k) 4 (upd (b_es cg k j i) (i * 3 + j) (cg k 2 i))) 3 (upd (b_ed bg cg k i) i (bg 0 i))))) X (4 * k + 2 + 7) 0 ((B_c3 (cg := (va_up cg k (va_up (va_up (cg k) 3 (b_ed bg cg k i)) 4 (upd (b_es cg k j i) (i * 3 + j) (cg k 2 i))))) k hk).trans (by simp [va_up])) rfl i rfl (by omega) (by decide) dX0_enterStore_32 ((B_cs3 k hk _).trans (by rw [cg_nm]; rw [cg_sw (by decide)])) ?_
    refine fw_iinc (pc := 33) (v := nI (i + 1)) (lv' := [(3, .int (nI (i + 1))), (0, .ref (ca k 0)), (1, .int x), (2, .ref (ba 0))]) (j := 3) X dX0_enterStore_33 rfl (nI_1 _) (by decide) rfl ?_
    refine fw_goto (pc := 36) (tgt := 2) X dX0_enterStore_36 (by decide) ?_
    refine fw_lv (lv' := [(0, .ref (ca k 0)), (1, .int x), (2, .ref (ba 0)), (3, .int (nI (i + 1)))]) [1, 2, 3, 0] rfl ?_
    exact ih (i + 1) (by omega)
theorem dsc_X0_enterStore : fw_dsc yX0_enterStore 2 := by decide +kernel
set_option maxHeartbeats 4000000 in
set_option maxRecDepth 100000 in
theorem ct_X0_enterStore {l : Launch} (hl : l.stackTraces = false) {D : va_G} {K : Nat → ClassId} {ba : Nat → Nat} {bf : Nat → Int32} {bg : Nat → Nat → Int32} {n : Nat} {ca : Nat → Nat → Nat} {cf : Nat → Nat → Int32} {cg : Nat → Nat → Nat → Int32} (k : Nat) (hk : k < n) (x : Int32) (j : Nat) (hx : x = nI j) (hj : j < 3) : fw_C (S := Unit) l yX0_enterStore wsX0_enterStore ({ frames := 1, cells := 0, slots := 0, locals := 25 }) 0 0 true [.ref (ca k 0), .int x, .ref (ba 0)] D (tyS K) (BW K ba bf bg n ca cf cg) (fun r _ => r = none) (fun _ => BW K ba bf bg n ca (b_en_cf cf (b_td (b_en_cg bg cg k j) k 6) k) (b_en_cg bg cg k j)) (fun _ => False) := by
  refine fw_met (maxL := 4) (ret := none) (by decide) rfl (Nat.le_of_ble_eq_true rfl) ?_
  intro p e s m args below meth c A X hr hlk hnm htab hE
  refine fw_lv (lv' := [(0, .ref (ca k 0)), (1, .int x), (2, .ref (ba 0))]) [0, 1, 2] rfl ?_
  refine fw_iconst (pc := 0) (v := 0) X dX0_enterStore_0 (by decide) ?_
  refine fw_istore_n (pc := 1) (lv' := [(3, .int 0), (0, .ref (ca k 0)), (1, .int x), (2, .ref (ba 0))]) X dX0_enterStore_1 rfl (by decide) rfl ?_
  refine fw_lv (lv' := [(0, .ref (ca k 0)), (1, .int x), (2, .ref (ba 0)), (3, .int (nI 0))]) [1, 2, 3, 0] rfl ?_
  refine fw_ws (ws' := BW K ba bf bg n ca cf (va_up cg k (va_up (va_up (cg k) 4 (b_es cg k j 0)) 3 (b_ed bg cg k 0)))) (congrArg (fun z => BW K ba bf bg n ca cf z) cg_id) ?_
  refine lp_X0_enterStore_2 hl k hk x j hx hj X hE ?_ 6 0 (by omega)
  refine fw_aload_n (pc := 39) X dX0_enterStore_39 rfl 0 rfl ?_
  refine fw_aload_n (pc := 40) X dX0_enterStore_40 rfl 0 rfl ?_
  refine fw_callV (pc := 41) (n := 0) (C := (RX0, TX0, 12)) (ci := 0) (q0 := (4 * k + 0 + 7)) X hE [] (ct_X0_totalDeclared hl k hk) (by decide) gX0_enterStore_X0_totalDeclared rfl ⟨rfl, rfl⟩ ⟨rfl, dsc_X0_totalDeclared⟩ ⟨Nat.le_of_ble_eq_true rfl, Nat.le_of_ble_eq_true rfl⟩ rfl (B_co k hk) rfl rfl (Nat.le_of_ble_eq_true rfl) dX0_enterStore_41 ⟨Nat.le_of_ble_eq_true rfl, Nat.le_of_ble_eq_true rfl⟩ (fun _ q => q.elim) (fun r0 u0 r_2 => ?_)
  subst r_2
  refine fw_put (pc := 44) (ws' := BW K ba bf bg n ca (va_up cf k (upd (cf k) 9 (b_td (va_up cg k (va_up (va_up (cg k) 4 (b_es cg k j 6)) 3 (b_ed bg cg k 6))) k 6))) (va_up cg k (va_up (va_up (cg k) 4 (b_es cg k j 6)) 3 (b_ed bg cg k 6)))) X iX0_enterStore_X0 tyX0 tyX0_ok nmX0 (4 * k + 0 + 7) (B_co k hk) rfl 9 (by decide) kX0_enterStore_34 rfl rfl rfl (Nat.le_of_ble_eq_true rfl) dX0_enterStore_44 (B_cf9 k hk _) ?_
  refine fw_aload_n (pc := 47) X dX0_enterStore_47 rfl 0 rfl ?_
  refine fw_aload_n (pc := 48) X dX0_enterStore_48 rfl 0 rfl ?_
  refine fw_get (pc := 49) (v := .int (b_td (va_up cg k (va_up (va_up (cg k) 4 (b_es cg k j 6)) 3 (b_ed bg cg k 6))) k 6)) X iX0_enterStore_X0 (4 * k + 0 + 7) (B_co k hk) rfl 9 (by decide) kX0_enterStore_34 (by simp [CF, va_up, upd]) dX0_enterStore_49 ?_
  refine fw_if_ne (pc := 52) (tgt := 59) X dX0_enterStore_52 (by decide) (fun c_3 => ?_) (fun c_3 => ?_)
  · refine fw_iconst (pc := 59) (v := 2) X dX0_enterStore_59 (by decide) ?_
    refine fw_put (pc := 60) (ws' := BW K ba bf bg n ca (va_up cf k (upd (upd (cf k) 9 (b_td (va_up cg k (va_up (va_up (cg k) 4 (b_es cg k j 6)) 3 (b_ed bg cg k 6))) k 6)) 5 2)) (va_up cg k (va_up (va_up (cg k) 4 (b_es cg k j 6)) 3 (b_ed bg cg k 6)))) X iX0_enterStore_X0 tyX0 tyX0_ok nmX0 (4 * k + 0 + 7) (B_co k hk) rfl 5 (by decide) kX0_enterStore_21 rfl rfl rfl (Nat.le_of_ble_eq_true rfl) dX0_enterStore_60 ((B_cf5 k hk _).trans (by rw [cf_nm])) ?_
    exact fw_vret (pc := 63) X hr hlk (Nat.le_of_ble_eq_true rfl) (Nat.le_of_ble_eq_true rfl) dX0_enterStore_63 () rfl (by simp [b_en_cf, b_en_cg, c_3])
  · refine fw_iconst (pc := 55) (v := 3) X dX0_enterStore_55 (by decide) ?_
    refine fw_goto (pc := 56) (tgt := 60) X dX0_enterStore_56 (by decide) ?_
    refine fw_put (pc := 60) (ws' := BW K ba bf bg n ca (va_up cf k (upd (upd (cf k) 9 (b_td (va_up cg k (va_up (va_up (cg k) 4 (b_es cg k j 6)) 3 (b_ed bg cg k 6))) k 6)) 5 3)) (va_up cg k (va_up (va_up (cg k) 4 (b_es cg k j 6)) 3 (b_ed bg cg k 6)))) X iX0_enterStore_X0 tyX0 tyX0_ok nmX0 (4 * k + 0 + 7) (B_co k hk) rfl 5 (by decide) kX0_enterStore_21 rfl rfl rfl (Nat.le_of_ble_eq_true rfl) dX0_enterStore_60 ((B_cf5 k hk _).trans (by rw [cf_nm])) ?_
    exact fw_vret (pc := 63) X hr hlk (Nat.le_of_ble_eq_true rfl) (Nat.le_of_ble_eq_true rfl) dX0_enterStore_63 () rfl (by simp [b_en_cf, b_en_cg, c_3])
theorem kX1_bond_79 : Cond.fieldLink RX1 79 (TX0 5).1 (TX0 5).2.1 (TX0 5).2.2.1 ∈ wsX1_bond := by decide +kernel
set_option maxRecDepth 20000 in
theorem iX1_bond_X0 : ∀ w ∈ wsX00, w ∈ wsX1_bond := by decide +kernel
theorem kX1_bond_clIS : Cond.classLink RX1 60 fw_IS ∈ wsX1_bond := by decide +kernel
theorem kX1_bond_iniIS : Cond.initialized fw_IS ∈ wsX1_bond := by decide +kernel
set_option maxRecDepth 20000 in
theorem kX1_bond_atIS : ∀ w ∈ (vx_atS RX1 64 fw_IS fw_chn).filter goodWord, w ∈ wsX1_bond := by decide +kernel
theorem kX1_bond_19 : Cond.fieldLink RX1 19 (TX1 3).1 (TX1 3).2.1 (TX1 3).2.2.1 ∈ wsX1_bond := by decide +kernel
set_option maxRecDepth 20000 in
theorem iX1_bond_X1 : ∀ w ∈ wsX10, w ∈ wsX1_bond := by decide +kernel
theorem kX1_bond_133 : Cond.fieldLink RX1 133 (TX0 0).1 (TX0 0).2.1 (TX0 0).2.2.1 ∈ wsX1_bond := by decide +kernel
theorem kX1_bond_16 : Cond.fieldLink RX1 16 (TX1 2).1 (TX1 2).2.1 (TX1 2).2.2.1 ∈ wsX1_bond := by decide +kernel
theorem kX1_bond_9 : Cond.fieldLink RX1 9 (TX1 0).1 (TX1 0).2.1 (TX1 0).2.2.1 ∈ wsX1_bond := by decide +kernel
theorem dsc_X1_bond : fw_dsc yX1_bond 2 := by decide +kernel
set_option maxHeartbeats 4000000 in
set_option maxRecDepth 100000 in
theorem ct_X1_bond {l : Launch} (hl : l.stackTraces = false) {D : va_G} {K : Nat → ClassId} {ba : Nat → Nat} {bf : Nat → Int32} {bg : Nat → Nat → Int32} {n : Nat} {ca : Nat → Nat → Nat} {cf : Nat → Nat → Int32} {cg : Nat → Nat → Nat → Int32} (u x : Int32) (hn15 : n ≤ 15) (hT : ∀ k, k < n → cf k 0 = nI (ix (cf k 0)) ∧ ix (cf k 0) < 4) : fw_C (S := Unit) l yX1_bond wsX1_bond ({ frames := 8, cells := 3, slots := 18, locals := 132 }) 3 18 true [.ref (ba 6), .int u, .int x] D (tyS K) (BW K ba bf bg n ca cf cg) (fun r _ => b_bnd_k bf bg n cf cg u x = 0 ∧ r = some (.int (b_dn bg cg (ix u) 6))) (fun _ => BW K ba bf (va_up bg 3 (upd (bg 3) (ix (cf (ix u) 0)) (bg 3 (ix (cf (ix u) 0)) + b_dn bg cg (ix u) 6))) n ca (b_en_cf cf (b_td (b_en_cg (va_up bg 3 (upd (bg 3) (ix (cf (ix u) 0)) (bg 3 (ix (cf (ix u) 0)) + b_dn bg cg (ix u) 6))) cg (ix u) (ix x)) (ix u) 6) (ix u)) (b_en_cg (va_up bg 3 (upd (bg 3) (ix (cf (ix u) 0)) (bg 3 (ix (cf (ix u) 0)) + b_dn bg cg (ix u) 6))) cg (ix u) (ix x))) (fun E => px3 E (b_bnd_k bf bg n cf cg u x)) := by
  refine fw_met (maxL := 5) (ret := (some .int)) (by decide) rfl (Nat.le_of_ble_eq_true rfl) ?_
  intro p e s m args below meth c A X hr hlk hnm htab hE
  refine fw_lv (lv' := [(0, .ref (ba 6)), (1, .int u), (2, .int x)]) [0, 1, 2] rfl ?_
  refine fw_aload_n (pc := 0) X dX1_bond_0 rfl 0 rfl ?_
  refine fw_iload_n (pc := 1) X dX1_bond_1 rfl 1 rfl ?_
  refine fw_callV (pc := 2) (n := 1) (C := (RX1, TX1, 10)) (ci := 1) (q0 := 0) X hE [.int u] (ct_X1_findConsignment hl u hn15) (by decide) gX1_bond_X1_findConsignment rfl ⟨rfl, rfl⟩ ⟨rfl, dsc_X1_findConsignment⟩ ⟨Nat.le_of_ble_eq_true rfl, Nat.le_of_ble_eq_true rfl⟩ rfl B_obj rfl rfl (Nat.le_of_ble_eq_true rfl) dX1_bond_2 ⟨Nat.le_of_ble_eq_true rfl, Nat.le_of_ble_eq_true rfl⟩ (fun E q => by obtain ⟨rfl, q2⟩ := q; exact fw_out X htab hlk (Nat.le_of_ble_eq_true rfl) (Nat.le_of_ble_eq_true rfl) (px3_IO (by simp [b_bnd_k, q2])) rfl) (fun r0 u0 r_1 => ?_)
  obtain ⟨q_2, rfl⟩ := r_1
  obtain ⟨hx_u, hl_u⟩ := in_con hn15 q_2
  obtain ⟨htx, htl⟩ := hT (ix u) hl_u
  refine fw_astore_n (pc := 5) (lv' := [(3, .ref (ca (ix u) 0)), (0, .ref (ba 6)), (1, .int u), (2, .int x)]) X dX1_bond_5 rfl (by decide) rfl ?_
  refine fw_iload_n (pc := 6) X dX1_bond_6 rfl 3 rfl ?_
  refine fw_callS (pc := 7) (n := 1) X hE [.int x] (ct_X1_checkStore hl x) (by decide) gX1_bond_X1_checkStore rfl ⟨rfl, rfl⟩ dsc_X1_checkStore ⟨Nat.le_of_ble_eq_true rfl, Nat.le_of_ble_eq_true rfl⟩ rfl rfl (Nat.le_of_ble_eq_true rfl) dX1_bond_7 ⟨Nat.le_of_ble_eq_true rfl, Nat.le_of_ble_eq_true rfl⟩ (fun E q => by obtain ⟨rfl, q2⟩ := q; exact fw_out X htab hlk (Nat.le_of_ble_eq_true rfl) (Nat.le_of_ble_eq_true rfl) (px3_IA (by simp [b_bnd_k, q_2, q2])) rfl) (fun r0 u0 r_3 => ?_)
  obtain ⟨q_4, rfl⟩ := r_3
  obtain ⟨hx_x, hl_x⟩ := in_ix (h := 2) (N := 3) (by decide) (by decide) q_4
  refine fw_aload_n (pc := 10) X dX1_bond_10 rfl 0 rfl ?_
  refine fw_get (pc := 11) (v := .int (cf (ix u) 5)) X iX1_bond_X0 (4 * (ix u) + 0 + 7) (B_co (ix u) hl_u) rfl 5 (by decide) kX1_bond_79 rfl dX1_bond_11 ?_
  refine fw_iconst (pc := 14) (v := 1) X dX1_bond_14 (by decide) ?_
  refine fw_icmp_eq (pc := 15) (tgt := 28) X dX1_bond_15 (by decide) (fun c_5 => ?_) (fun c_5 => ?_)
  · refine fw_aload_n (pc := 28) X dX1_bond_28 rfl 1 rfl ?_
    refine fw_aload_n (pc := 29) X dX1_bond_29 rfl 0 rfl ?_
    refine fw_callV (pc := 30) (n := 1) (C := (RX1, TX1, 10)) (ci := 1) (q0 := 0) X hE [.ref (ca (ix u) 0)] (ct_X1_hasToBeSearched hl (ix u) hl_u) (by decide) gX1_bond_X1_hasToBeSearched rfl ⟨rfl, rfl⟩ ⟨rfl, dsc_X1_hasToBeSearched⟩ ⟨Nat.le_of_ble_eq_true rfl, Nat.le_of_ble_eq_true rfl⟩ rfl B_obj rfl rfl (Nat.le_of_ble_eq_true rfl) dX1_bond_30 ⟨Nat.le_of_ble_eq_true rfl, Nat.le_of_ble_eq_true rfl⟩ (fun _ q => q.elim) (fun r0 u0 r_6 => ?_)
    subst r_6
    show fw_W _ _ _ _ _ _ _ _ _ _ _ _ _ _ _ _ _ _ _ (.int (b2i (b_must bf bg cf cg (ix u) = true)) :: _)
    by_cases c_7 : b_must bf bg cf cg (ix u) = true
    · refine fw_iv (y := 1) (if_pos c_7) ?_
      refine fw_if_eq (pc := 33) (tgt := 46) X dX1_bond_33 (by decide) (fun q => absurd q (by decide)) (fun _ => ?_)
      exact fw_throw (pc := 36) (text := "the consignment has to be searched") X hE hl fw_fit_IS fw_good_IS fw_bad_IS fw_c_IS (by decide +kernel) kX1_bond_clIS kX1_bond_iniIS kX1_bond_atIS dX1_bond_36 dX1_bond_39 dX1_bond_40 dX1_bond_42 dX1_bond_45 ⟨Nat.le_of_ble_eq_true rfl, Nat.le_of_ble_eq_true rfl, Nat.le_of_ble_eq_true rfl, Nat.le_of_ble_eq_true rfl⟩ htab hlk (px3_IS (by simp [b_bnd_k, q_2, q_4, c_5, c_7])) (Nat.le_of_ble_eq_true rfl) (Nat.le_of_ble_eq_true rfl) rfl
    · refine fw_iv (y := 0) (if_neg c_7) ?_
      refine fw_if_eq (pc := 33) (tgt := 46) X dX1_bond_33 (by decide) (fun _ => ?_) (fun q => absurd (by decide) q)
      refine fw_aload_n (pc := 46) X dX1_bond_46 rfl 1 rfl ?_
      refine fw_aload_n (pc := 47) X dX1_bond_47 rfl 0 rfl ?_
      refine fw_callV (pc := 48) (n := 1) (C := (RX1, TX1, 10)) (ci := 1) (q0 := 0) X hE [.ref (ca (ix u) 0)] (ct_X1_dutyNow hl (ix u) hl_u) (by decide) gX1_bond_X1_dutyNow rfl ⟨rfl, rfl⟩ ⟨rfl, dsc_X1_dutyNow⟩ ⟨Nat.le_of_ble_eq_true rfl, Nat.le_of_ble_eq_true rfl⟩ rfl B_obj rfl rfl (Nat.le_of_ble_eq_true rfl) dX1_bond_48 ⟨Nat.le_of_ble_eq_true rfl, Nat.le_of_ble_eq_true rfl⟩ (fun _ q => q.elim) (fun r0 u0 r_8 => ?_)
      subst r_8
      refine fw_istore (pc := 51) (lv' := [(4, .int (b_dn bg cg (ix u) 6)), (3, .ref (ca (ix u) 0)), (0, .ref (ba 6)), (1, .int u), (2, .int x)]) X dX1_bond_51 (by decide) rfl ?_
      refine fw_aload_n (pc := 53) X dX1_bond_53 rfl 2 rfl ?_
      refine fw_get (pc := 54) (v := .ref (ba 3)) X iX1_bond_X1 0 B_obj rfl 3 (by decide) kX1_bond_19 rfl dX1_bond_54 ?_
      refine fw_aload_n (pc := 57) X dX1_bond_57 rfl 1 rfl ?_
      refine fw_get (pc := 58) (v := .int (cf (ix u) 0)) X iX1_bond_X0 (4 * (ix u) + 0 + 7) (B_co (ix u) hl_u) rfl 0 (by decide) kX1_bond_133 rfl dX1_bond_58 ?_
      refine fw_iald (pc := 61) (n := 4) (cA := K 0) (f := bg 3) X 4 0 (B_g3 (bg := bg)) rfl (ix (cf (ix u) 0)) htx (by omega) (by decide) dX1_bond_61 ?_
      refine fw_iload (pc := 62) X dX1_bond_62 0 rfl ?_
      refine fw_iadd (pc := 64) X dX1_bond_64 ?_
      refine fw_aload_n (pc := 65) X dX1_bond_65 rfl 2 rfl ?_
      refine fw_get (pc := 66) (v := .ref (ba 2)) X iX1_bond_X1 0 B_obj rfl 2 (by decide) kX1_bond_16 rfl dX1_bond_66 ?_
      refine fw_aload_n (pc := 69) X dX1_bond_69 rfl 1 rfl ?_
      refine fw_get (pc := 70) (v := .int (cf (ix u) 0)) X iX1_bond_X0 (4 * (ix u) + 0 + 7) (B_co (ix u) hl_u) rfl 0 (by decide) kX1_bond_133 rfl dX1_bond_70 ?_
      refine fw_iald (pc := 73) (n := 4) (cA := K 0) (f := bg 2) X 3 0 (B_g2 (bg := bg)) rfl (ix (cf (ix u) 0)) htx (by omega) (by decide) dX1_bond_73 ?_
      refine fw_icmp_le (pc := 74) (tgt := 87) X dX1_bond_74 (by decide) (fun c_9 => ?_) (fun c_9 => ?_)
      · refine fw_aload_n (pc := 87) X dX1_bond_87 rfl 2 rfl ?_
        refine fw_get (pc := 88) (v := .ref (ba 3)) X iX1_bond_X1 0 B_obj rfl 3 (by decide) kX1_bond_19 rfl dX1_bond_88 ?_
        refine fw_aload_n (pc := 91) X dX1_bond_91 rfl 1 rfl ?_
        refine fw_get (pc := 92) (v := .int (cf (ix u) 0)) X iX1_bond_X0 (4 * (ix u) + 0 + 7) (B_co (ix u) hl_u) rfl 0 (by decide) kX1_bond_133 rfl dX1_bond_92 ?_
        refine fw_dup2 (pc := 95) X dX1_bond_95 rfl rfl ?_
        refine fw_iald (pc := 96) (n := 4) (cA := K 0) (f := bg 3) X 4 0 (B_g3 (bg := bg)) rfl (ix (cf (ix u) 0)) htx (by omega) (by decide) dX1_bond_96 ?_
        refine fw_iload (pc := 97) X dX1_bond_97 0 rfl ?_
        refine fw_iadd (pc := 99) X dX1_bond_99 ?_
        refine fw_iast (pc := 100) (n := 4) (cA := K 0) (f := bg 3) (ws' := BW K ba bf (va_up bg 3 (upd (bg 3) (ix (cf (ix u) 0)) ((bg 3 (ix (cf (ix u) 0))) + (b_dn bg cg (ix u) 6)))) n ca cf cg) X 4 0 (B_g3 (bg := bg)) rfl (ix (cf (ix u) 0)) htx (by omega) (by decide) dX1_bond_100 (B_s3 _) ?_
        refine fw_aload_n (pc := 101) X dX1_bond_101 rfl 1 rfl ?_
        refine fw_iload_n (pc := 102) X dX1_bond_102 rfl 4 rfl ?_
        refine fw_aload_n (pc := 103) X dX1_bond_103 rfl 2 rfl ?_
        refine fw_get (pc := 104) (v := .ref (ba 0)) X iX1_bond_X1 0 B_obj rfl 0 (by decide) kX1_bond_9 rfl dX1_bond_104 ?_
        refine fw_callV (pc := 107) (n := 2) (C := (RX0, TX0, 12)) (ci := 0) (q0 := (4 * (ix u) + 0 + 7)) X hE [.int x, .ref (ba 0)] (ct_X0_enterStore hl (ix u) hl_u x (ix x) hx_x (by omega)) (by decide) gX1_bond_X0_enterStore rfl ⟨rfl, rfl⟩ ⟨rfl, dsc_X0_enterStore⟩ ⟨Nat.le_of_ble_eq_true rfl, Nat.le_of_ble_eq_true rfl⟩ rfl (B_co (ix u) hl_u) rfl rfl (Nat.le_of_ble_eq_true rfl) dX1_bond_107 ⟨Nat.le_of_ble_eq_true rfl, Nat.le_of_ble_eq_true rfl⟩ (fun _ q => q.elim) (fun r0 u0 r_10 => ?_)
        subst r_10
        refine fw_iload (pc := 110) X dX1_bond_110 0 rfl ?_
        exact fw_iret (pc := 112) X hr hlk (Nat.le_of_ble_eq_true rfl) (Nat.le_of_ble_eq_true rfl) dX1_bond_112 () ⟨(by simp [b_bnd_k, q_2, q_4, c_5, c_7, c_9]), (by first | rfl | simp [q_2, q_4, c_5, c_7, c_9])⟩ (by first | rfl | simp [q_2, q_4, c_5, c_7, c_9])
      · exact fw_throw (pc := 77) (text := "the guarantee does not reach") X hE hl fw_fit_IS fw_good_IS fw_bad_IS fw_c_IS (by decide +kernel) kX1_bond_clIS kX1_bond_iniIS kX1_bond_atIS dX1_bond_77 dX1_bond_80 dX1_bond_81 dX1_bond_83 dX1_bond_86 ⟨Nat.le_of_ble_eq_true rfl, Nat.le_of_ble_eq_true rfl, Nat.le_of_ble_eq_true rfl, Nat.le_of_ble_eq_true rfl⟩ htab hlk (px3_IS (by simp [b_bnd_k, q_2, q_4, c_5, c_7, c_9])) (Nat.le_of_ble_eq_true rfl) (Nat.le_of_ble_eq_true rfl) rfl
  · exact fw_throw (pc := 18) (text := "the consignment is not at the door") X hE hl fw_fit_IS fw_good_IS fw_bad_IS fw_c_IS (by decide +kernel) kX1_bond_clIS kX1_bond_iniIS kX1_bond_atIS dX1_bond_18 dX1_bond_21 dX1_bond_22 dX1_bond_24 dX1_bond_27 ⟨Nat.le_of_ble_eq_true rfl, Nat.le_of_ble_eq_true rfl, Nat.le_of_ble_eq_true rfl, Nat.le_of_ble_eq_true rfl⟩ htab hlk (px3_IS (by simp [b_bnd_k, q_2, q_4, c_5])) (Nat.le_of_ble_eq_true rfl) (Nat.le_of_ble_eq_true rfl) rfl
