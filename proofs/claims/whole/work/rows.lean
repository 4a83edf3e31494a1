section
-- ===== PART A: goes FIRST, ahead of the names: the tables' words, and 'selects' of the private methods out of them =====
/-- a private method of a class that the tables say can be made, by its rows of tables_1 -/
def lw_okq (q : MethodName × Nat) : Prop := (q.1.cls ≠ "java/lang/invoke/MethodHandle" ∧ q.1.cls ≠ "java/lang/invoke/VarHandle") ∧ Cond.instantiable q.1.cls q.2 ∈ tables_1 ∧ Cond.privateMethod q.1 ∈ tables_1 ∧ Cond.instanceMethod q.1 ∈ tables_1
theorem lw_p0 : lw_okq (⟨"java/lang/Throwable", "fillInStackTrace", "(I)Ljava/lang/Throwable;"⟩, 6) := ⟨⟨by decide +kernel, by decide +kernel⟩, List.mem_of_getElem? (i := 105) (by decide +kernel), List.mem_of_getElem? (i := 103) (by decide +kernel), List.mem_of_getElem? (i := 104) (by decide +kernel)⟩
theorem lw_p1 : lw_okq (⟨"BorderHouse", "countToSearch", "()I"⟩, 10) := ⟨⟨by decide +kernel, by decide +kernel⟩, List.mem_of_getElem? (i := 11) (by decide +kernel), List.mem_of_getElem? (i := 142) (by decide +kernel), List.mem_of_getElem? (i := 143) (by decide +kernel)⟩
theorem lw_p2 : lw_okq (⟨"BorderHouse", "hasToBeSearched", "(LBorderHouse$Consignment;)Z"⟩, 10) := ⟨⟨by decide +kernel, by decide +kernel⟩, List.mem_of_getElem? (i := 11) (by decide +kernel), List.mem_of_getElem? (i := 146) (by decide +kernel), List.mem_of_getElem? (i := 147) (by decide +kernel)⟩
theorem lw_p3 : lw_okq (⟨"BorderHouse", "riskOf", "(LBorderHouse$Consignment;)I"⟩, 10) := ⟨⟨by decide +kernel, by decide +kernel⟩, List.mem_of_getElem? (i := 11) (by decide +kernel), List.mem_of_getElem? (i := 154) (by decide +kernel), List.mem_of_getElem? (i := 155) (by decide +kernel)⟩
theorem lw_p4 : lw_okq (⟨"BorderHouse", "findConsignment", "(I)LBorderHouse$Consignment;"⟩, 10) := ⟨⟨by decide +kernel, by decide +kernel⟩, List.mem_of_getElem? (i := 11) (by decide +kernel), List.mem_of_getElem? (i := 258) (by decide +kernel), List.mem_of_getElem? (i := 259) (by decide +kernel)⟩
theorem lw_p5 : lw_okq (⟨"BorderHouse", "dutyNow", "(LBorderHouse$Consignment;)I"⟩, 10) := ⟨⟨by decide +kernel, by decide +kernel⟩, List.mem_of_getElem? (i := 11) (by decide +kernel), List.mem_of_getElem? (i := 330) (by decide +kernel), List.mem_of_getElem? (i := 331) (by decide +kernel)⟩
theorem lw_p6 : lw_okq (⟨"BorderHouse", "takeOut", "(LBorderHouse$Consignment;III)I"⟩, 10) := ⟨⟨by decide +kernel, by decide +kernel⟩, List.mem_of_getElem? (i := 11) (by decide +kernel), List.mem_of_getElem? (i := 363) (by decide +kernel), List.mem_of_getElem? (i := 364) (by decide +kernel)⟩
theorem lw_p7 : lw_okq (⟨"BorderHouseModel", "isFine", "(I)Z"⟩, 21) := ⟨⟨by decide +kernel, by decide +kernel⟩, List.mem_of_getElem? (i := 409) (by decide +kernel), List.mem_of_getElem? (i := 494) (by decide +kernel), List.mem_of_getElem? (i := 495) (by decide +kernel)⟩
theorem lw_p8 : lw_okq (⟨"BorderHouseModel", "mustNow", "(I)Z"⟩, 21) := ⟨⟨by decide +kernel, by decide +kernel⟩, List.mem_of_getElem? (i := 409) (by decide +kernel), List.mem_of_getElem? (i := 502) (by decide +kernel), List.mem_of_getElem? (i := 503) (by decide +kernel)⟩
theorem lw_p9 : lw_okq (⟨"BorderHouseModel", "riskNow", "(I)I"⟩, 21) := ⟨⟨by decide +kernel, by decide +kernel⟩, List.mem_of_getElem? (i := 409) (by decide +kernel), List.mem_of_getElem? (i := 506) (by decide +kernel), List.mem_of_getElem? (i := 507) (by decide +kernel)⟩
theorem lw_p10 : lw_okq (⟨"BorderHouseModel", "isConsignment", "(I)Z"⟩, 21) := ⟨⟨by decide +kernel, by decide +kernel⟩, List.mem_of_getElem? (i := 409) (by decide +kernel), List.mem_of_getElem? (i := 526) (by decide +kernel), List.mem_of_getElem? (i := 527) (by decide +kernel)⟩
theorem lw_p11 : lw_okq (⟨"BorderHouseModel", "isEmpty", "(I)Z"⟩, 21) := ⟨⟨by decide +kernel, by decide +kernel⟩, List.mem_of_getElem? (i := 409) (by decide +kernel), List.mem_of_getElem? (i := 534) (by decide +kernel), List.mem_of_getElem? (i := 535) (by decide +kernel)⟩
theorem lw_p12 : lw_okq (⟨"BorderHouseModel", "owes", "(I)I"⟩, 21) := ⟨⟨by decide +kernel, by decide +kernel⟩, List.mem_of_getElem? (i := 409) (by decide +kernel), List.mem_of_getElem? (i := 554) (by decide +kernel), List.mem_of_getElem? (i := 555) (by decide +kernel)⟩
theorem lw_p13 : lw_okq (⟨"BorderHouseModel", "whyNot", "(IIII)I"⟩, 21) := ⟨⟨by decide +kernel, by decide +kernel⟩, List.mem_of_getElem? (i := 409) (by decide +kernel), List.mem_of_getElem? (i := 575) (by decide +kernel), List.mem_of_getElem? (i := 576) (by decide +kernel)⟩
theorem lw_p14 : lw_okq (⟨"BorderHouseModel", "leaves", "(IIII)I"⟩, 21) := ⟨⟨by decide +kernel, by decide +kernel⟩, List.mem_of_getElem? (i := 409) (by decide +kernel), List.mem_of_getElem? (i := 579) (by decide +kernel), List.mem_of_getElem? (i := 580) (by decide +kernel)⟩
def lw_privs_1 : List (MethodName × Nat) := [(⟨"java/lang/Throwable", "fillInStackTrace", "(I)Ljava/lang/Throwable;"⟩, 6), (⟨"BorderHouse", "countToSearch", "()I"⟩, 10), (⟨"BorderHouse", "hasToBeSearched", "(LBorderHouse$Consignment;)Z"⟩, 10), (⟨"BorderHouse", "riskOf", "(LBorderHouse$Consignment;)I"⟩, 10), (⟨"BorderHouse", "findConsignment", "(I)LBorderHouse$Consignment;"⟩, 10), (⟨"BorderHouse", "dutyNow", "(LBorderHouse$Consignment;)I"⟩, 10), (⟨"BorderHouse", "takeOut", "(LBorderHouse$Consignment;III)I"⟩, 10), (⟨"BorderHouseModel", "isFine", "(I)Z"⟩, 21), (⟨"BorderHouseModel", "mustNow", "(I)Z"⟩, 21), (⟨"BorderHouseModel", "riskNow", "(I)I"⟩, 21), (⟨"BorderHouseModel", "isConsignment", "(I)Z"⟩, 21), (⟨"BorderHouseModel", "isEmpty", "(I)Z"⟩, 21), (⟨"BorderHouseModel", "owes", "(I)I"⟩, 21), (⟨"BorderHouseModel", "whyNot", "(IIII)I"⟩, 21), (⟨"BorderHouseModel", "leaves", "(IIII)I"⟩, 21)]
theorem lw_r1 : ∀ q ∈ lw_privs_1, lw_okq q := List.forall_mem_cons.mpr ⟨lw_p0, List.forall_mem_cons.mpr ⟨lw_p1, List.forall_mem_cons.mpr ⟨lw_p2, List.forall_mem_cons.mpr ⟨lw_p3, List.forall_mem_cons.mpr ⟨lw_p4, List.forall_mem_cons.mpr ⟨lw_p5, List.forall_mem_cons.mpr ⟨lw_p6, List.forall_mem_cons.mpr ⟨lw_p7, List.forall_mem_cons.mpr ⟨lw_p8, List.forall_mem_cons.mpr ⟨lw_p9, List.forall_mem_cons.mpr ⟨lw_p10, List.forall_mem_cons.mpr ⟨lw_p11, List.forall_mem_cons.mpr ⟨lw_p12, List.forall_mem_cons.mpr ⟨lw_p13, List.forall_mem_cons.mpr ⟨lw_p14, fun _ h => absurd h List.not_mem_nil⟩⟩⟩⟩⟩⟩⟩⟩⟩⟩⟩⟩⟩⟩⟩
def lw_privs : List (MethodName × Nat) := lw_privs_1
def lw_tbl : List Cond := k2_sels lw_privs ++ tables_1
theorem lw_privs_ok : ∀ q ∈ lw_privs, lw_okq q := lw_r1
-- ===== end of PART A; then your names; then what follows =====
end
section
/-! ===== BEGIN words of one list among another's, by their places ===== -/
theorem goodIn_r {big : List Cond} (ws : List Cond) (ps : List Nat) (hp : ws = ps.filterMap (fun i => big[i]?)) (h : ws.all goodWord = true) : GoodIn big ws := by
  intro w hw
  have h1 := List.all_eq_true.mp h w hw
  rw [hp] at hw
  obtain ⟨i, -, hi⟩ := List.mem_filterMap.mp hw
  have hm : w ∈ big := by first | exact List.mem_of_getElem? hi | exact List.getElem?_mem hi
  exact ⟨hm, good_of_word h1⟩
theorem goodIn_app {big a b : List Cond} (ha : GoodIn big a) (hb : GoodIn big b) : GoodIn big (a ++ b) := fun w h => (List.mem_append.mp h).elim (ha w) (hb w)
theorem goodIn_ca {big a b : List Cond} {c : Cond} (ha : GoodIn big (c :: a)) (hb : GoodIn big b) : GoodIn big (c :: (a ++ b)) := fun w h => (List.mem_cons.mp h).elim (fun e => ha w (List.mem_cons.mpr (Or.inl e))) (fun h => (List.mem_append.mp h).elim (fun h => ha w (List.mem_cons.mpr (Or.inr h))) (hb w))
theorem goodIn_sub {big ws : List Cond} (hm : ∀ w ∈ ws, w ∈ big) (h : ws.all goodWord = true) : GoodIn big ws := fun w hw => ⟨hm w hw, good_of_word (List.all_eq_true.mp h w hw)⟩
/-! ===== END ===== -/

/-! ===== BEGIN exceptions that leave a method, and their catching by the caller (launches without stack traces) ===== -/
section VXA
/-! The laws vx_back, vx_callV, vx_callS, vx_callSW, vx_throw0, vx_throwS follow proofs of the library, with one case more: JvmDerived/Free/Laws.lean (Back.of_free), Shelf42/LK1.lean (callV, callS), Shelf/KitTraced.lean (throwNew0V, throwNewS). -/
/-- where a method has thrown q: the class by its name, the cell, what was written, the world -/
def vx_T (XC : String → State → State → Prop) (st : State) (q : Addr) (t : State) (mc ms : Nat) (free : Addr → Prop) : Prop :=
  ∃ (E : String) (ce : Cell) (L : List Loc), XC E st t ∧ t.heap[q]? = some ce ∧ ce.vm = .none ∧ st.vm.findClass E = some ce.cls ∧ st.WarmedH t.vm ∧ st.sameButNew ({ t with vm := st.vm } : State) L mc ms ∧ ∀ z ∈ L, free z.base
def vx_Q (Qc : Array Value → State → Outcome → State → Prop) (XC : String → State → State → Prop) (mc ms : Nat) (free : Addr → Prop) : Array Value → State → Outcome → State → Prop := fun a st o t =>
  (Qc a st o t ∧ ∃ L, FrameEnd st o t L mc ms ∧ ∀ q ∈ L, free q.base) ∨ ∃ q, o = .threw q ∧ vx_T XC st q t mc ms free
/-- a callee that returns or throws -/
def vx_Met (l : Launch) (y : MethodName) (ws : List Cond) (rm : Room) (Pc : Array Value → State → Prop) (Qc : Array Value → State → Outcome → State → Prop) (XC : String → State → State → Prop) (mc ms : Nat) (free : Addr → Prop) : Prop :=
  MetFree l y (headSpec ws rm) Pc (fun _ _ _ _ _ => True) (vx_Q Qc XC mc ms free)
def vx_Post (XC : String → State → State → Prop) (mc ms : Nat) (free : Addr → Prop) : Pt → Array Value → Addr → Pt → Prop := fun A a q B =>
  ∃ (g : JFrame) (mk : MethodId) (t : State) (L : List Loc) (E : String) (ce : Cell), B.U.heap = t.heap ∧ B.U.vm = t.vm ∧ XC E (A.U.calling g mk a) t ∧ t.heap[q]? = some ce ∧ ce.vm = .none ∧ A.U.vm.findClass E = some ce.cls ∧ B.locs = A.locs ++ L ∧ (∀ z ∈ L, free z.base) ∧ B.cells = A.cells + mc ∧ B.slots = A.slots + ms
def vx_Back (l : Launch) (R : Room) (p : Program) (e : Env) (below : List Frame) (s : State) (sargs : Array Value) (y : MethodName) (len W9 : Nat)
    (Pre : Pt → Array Value → Prop) (Post : Pt → Array Value → Option Value → Pt → Prop) (PostX : Pt → Array Value → Addr → Pt → Prop) : Prop :=
  ∀ (m : MethodId) (meth : Method) (c : Code) (A : Pt) (g : JFrame) (ig : Instr) (mk : MethodId) (a : Array Value),
    Stand p l e R s m sargs below meth c A.U A.locs A.cells A.slots → g.method = m → g.locals.size = c.maxLocals → decode c.code g.pc = .ok (ig, len) →
    2 * g.monitorRoom + (g.stack.map fun v => v.category).sum ≤ W9 → A.U.methodNamed? y = some mk → Pre A a →
    (∃ (v : Option Value) (B : Pt), Stand p l e R s m sargs below meth c B.U B.locs B.cells B.slots ∧ Post A a v B ∧
      Steps p.tables e below (doInvoke e (A.U.setTop g) [] mk a).1 (B.U.setTop { g with pc := g.pc + len, stack := v.toList ++ g.stack })) ∨
    (∃ (q : Addr) (B : Pt), Stand p l e R s m sargs below meth c B.U B.locs B.cells B.slots ∧ PostX A a q B ∧
      Steps p.tables e below (doInvoke e (A.U.setTop g) [] mk a).1 ((B.U.setTop g).pushFrame (.throwing q)))
section Payer
variable {l : Launch} {R : Room} {p : Program} {e : Env} {below : List Frame} {s : State} {sargs : Array Value} {y : MethodName} {len W9 : Nat}
theorem vx_back {ws : List Cond} {rm : Room} {Pc : Array Value → State → Prop} {Qc : Array Value → State → Outcome → State → Prop} {XC : String → State → State → Prop} {mc ms : Nat} {free : Addr → Prop} {bytes : ByteArray} {maxL : Nat} {ret : Option FieldType}
    (hM : vx_Met l y ws rm Pc Qc XC mc ms free) (hblind : FrameBlind Pc) (hrc : rm.cells = mc) (hrs : rm.slots = ms)
    (hframes : rm.frames + 1 ≤ R.frames) (hlocals : W9 + (maxL + 11) + rm.locals ≤ R.locals)
    (hws : ∀ w ∈ ws, ∀ a' U, s.WarmedH U.vm → w.before a' U = true) (hcode : Cond.code y bytes maxL ret ∈ ws) (hinit : ∀ a' U, s.WarmedH U.vm → (Cond.initialized y.cls).before a' U = true) :
    vx_Back l R p e below s sargs y len W9 (PreOf R mc ms Pc) (PostOf Qc mc ms free) (vx_Post XC mc ms free) := by
  intro m meth c A g ig mk a X hg hsize hdg hW hn hp
  have h1 : (headSpec ws rm).pre.before a A.U = true := atoms_intro fun w hw => hws w hw _ _ X.warmed
  have h2 : (Cond.code y bytes maxL ret).before a A.U = true := hws _ hcode _ _ X.warmed
  have h3 : (Cond.initialized y.cls).before a A.U = true := hinit _ _ X.warmed
  have h4 : A.cells + (headSpec ws rm).room.cells ≤ R.cells := by rw [show (headSpec ws rm).room.cells = mc from hrc]; exact hp.1
  have h5 : A.slots + (headSpec ws rm).room.slots ≤ R.slots := by rw [show (headSpec ws rm).room.slots = ms from hrs]; exact hp.2.1
  have hPc : Pc a (A.U.calling g mk a) := hblind _ _ _ _ hp.2.2
  obtain ⟨U, Ls, c0, s0⟩ := A
  dsimp only [Pt.U, Pt.locs, Pt.cells, Pt.slots] at h1 h2 h3 h4 h5 X hn hPc ⊢
  obtain ⟨methY, cY, hmY, hcY, -, hlY, -, -, -, -⟩ := Cond.code_spec hn h2
  obtain ⟨kY, hkY, -⟩ := className_of_methodNamed hn
  have hinitY : kY.init = .initialized := Cond.initialized_spec (findClass_of_methodNamed hn) hkY h3
  have h : At U g.method c below := by rw [hg]; exact X.here
  have hlocals9 : W9 + (maxL + 11) + (headSpec ws rm).room.locals ≤ R.locals := hlocals
  have happ : (headSpec ws rm).appliesLoose y e.platform (U.calling g mk a) = true :=
    Spec.appliesLoose_calling (g := g) h hdg hn hkY hinitY
      (X.room_calling (g := g) (R' := (headSpec ws rm).room) hsize hmY hcY hframes (by rw [hlY]; omega) h4 h5) h1
  obtain ⟨mid, hmid⟩ := h.above
  have hfr : (U.setTop g).frames = (.java g :: mid) ++ below := by rw [State.frames_setTop' g h.top, hmid]; rfl
  obtain ⟨o, s₂, hsteps, -, hend, hq⟩ := Steps.callFree hM p X.admits X.cas X.clock (acts := []) hfr happ hPc trivial
  have hq' : vx_Q Qc XC mc ms free a (U.calling g mk a) o s₂ := hq
  rw [State.frames_setTop' g h.top] at hend
  obtain ⟨g₀, hg0⟩ := Option.isSome_iff_exists.mp h.top
  obtain ⟨r, hr⟩ := State.topJava?_eq_some.mp hg0
  have hr' : (({ U with heap := s₂.heap, slotsUsed := s₂.slotsUsed } : State).setVm s₂.vm).frames = .java g₀ :: r := hr
  rcases hq' with ⟨hqc, L, hfe, hL⟩ | ⟨q, rfl, E, ce, L, hx, hce, hcv, hcl, hW₂, hsm, hL⟩
  · obtain ⟨⟨v, rfl⟩, hW₂, e2, q2, q3, q4, q5, q6⟩ := id hfe
    have e3 : s₂ = ({ (U.calling g mk a).setFrames s₂.frames with heap := s₂.heap, slotsUsed := s₂.slotsUsed } : State).setVm s₂.vm := by
      have : s₂ = ({ s₂ with vm := (U.calling g mk a).vm } : State).setVm s₂.vm := rfl
      rw [e2] at this
      exact this
    obtain ⟨c₂, i₂, len₂, hc₂, hd₂, hf₂⟩ := hend
    have hW' : U.WarmedH s₂.vm := hW₂
    have hcc : c₂ = c := by
      have h1 : s₂.code? g.method = U.code? g.method := by
        rw [State.code?_eq, State.code?_eq, hW'.alike.method?]
      exact Option.some.inj (hc₂.symm.trans (h1.trans h.code))
    subst hcc
    have hlen : len₂ = len := by rw [hdg] at hd₂; cases hd₂; rfl
    subst hlen
    have hs₂ : s₂ = (({ U with heap := s₂.heap, slotsUsed := s₂.slotsUsed } : State).setVm s₂.vm).setTop { g with pc := g.pc + len₂, stack := v.toList ++ g.stack } := by
      refine e3.trans ?_
      rw [hf₂, State.calling_eq h.top, State.setFrames_setFrames, State.setTop_of_frames _ hr', hr]
      rfl
    have hsame : U.sameButNew ({ U with heap := s₂.heap, slotsUsed := s₂.slotsUsed } : State) L mc ms := by
      refine ⟨?_, q2, q3, q4, q5, q6⟩
      obtain ⟨t, ht, -⟩ := State.frames_cons hr
      show ({ U with heap := s₂.heap, slotsUsed := s₂.slotsUsed } : State) = { U.setFrames U.frames with heap := s₂.heap, slotsUsed := s₂.slotsUsed }
      rw [State.setFrames_self ht]
    subst hg
    refine Or.inl ⟨v, ⟨(({ U with heap := s₂.heap, slotsUsed := s₂.slotsUsed } : State).setVm s₂.vm), Ls ++ L, c0 + mc, s0 + ms⟩,
      ⟨X.admits, X.cas, X.clock, X.frames, X.room, X.hears, X.method, X.code, (X.here.setHeapUsed s₂.heap s₂.slotsUsed).setVm hW'.alike, X.tail, State.WarmedH.trans X.warmed hW', X.limits, X.bytes, X.same.trans (hsame.setVm s.vm)⟩,
      ⟨g, mk, s₂, L, rfl, rfl, hqc, rfl, hL, rfl, rfl⟩, ?_⟩
    show Steps p.tables e below _ ((({ U with heap := s₂.heap, slotsUsed := s₂.slotsUsed } : State).setVm s₂.vm).setTop { g with pc := g.pc + len₂, stack := v.toList ++ g.stack })
    rw [← hs₂]
    exact hsteps
  · obtain ⟨e2, q2, q3, q4, q5, q6⟩ := id hsm
    have e3 : s₂ = ({ (U.calling g mk a).setFrames s₂.frames with heap := s₂.heap, slotsUsed := s₂.slotsUsed } : State).setVm s₂.vm := by
      have : s₂ = ({ s₂ with vm := (U.calling g mk a).vm } : State).setVm s₂.vm := rfl
      rw [e2] at this
      exact this
    have hf₂ : s₂.frames = .throwing q :: .java g :: U.frames.tail := hend
    have hW' : U.WarmedH s₂.vm := hW₂
    have hs₂ : s₂ = ((({ U with heap := s₂.heap, slotsUsed := s₂.slotsUsed } : State).setVm s₂.vm).setTop g).pushFrame (.throwing q) := by
      refine e3.trans ?_
      rw [hf₂, State.calling_eq h.top, State.setFrames_setFrames, State.pushFrame, State.frames_setTop _ hr', State.setTop_of_frames _ hr', State.setFrames_setFrames, hr]
      rfl
    have hsame : U.sameButNew ({ U with heap := s₂.heap, slotsUsed := s₂.slotsUsed } : State) L mc ms := by
      refine ⟨?_, q2, q3, q4, q5, q6⟩
      obtain ⟨t, ht, -⟩ := State.frames_cons hr
      show ({ U with heap := s₂.heap, slotsUsed := s₂.slotsUsed } : State) = { U.setFrames U.frames with heap := s₂.heap, slotsUsed := s₂.slotsUsed }
      rw [State.setFrames_self ht]
    subst hg
    refine Or.inr ⟨q, ⟨(({ U with heap := s₂.heap, slotsUsed := s₂.slotsUsed } : State).setVm s₂.vm), Ls ++ L, c0 + mc, s0 + ms⟩,
      ⟨X.admits, X.cas, X.clock, X.frames, X.room, X.hears, X.method, X.code, (X.here.setHeapUsed s₂.heap s₂.slotsUsed).setVm hW'.alike, X.tail, State.WarmedH.trans X.warmed hW', X.limits, X.bytes, X.same.trans (hsame.setVm s.vm)⟩,
      ⟨g, mk, s₂, L, E, ce, rfl, rfl, hx, hce, hcv, hcl, rfl, hL, rfl, rfl⟩, ?_⟩
    show Steps p.tables e below _ (((({ U with heap := s₂.heap, slotsUsed := s₂.slotsUsed } : State).setVm s₂.vm).setTop g).pushFrame (.throwing q))
    rw [← hs₂]
    exact hsteps
end Payer
section Calls
variable {p : Program} {l : Launch} {e : Env} {R : Room} {s : State} {m : MethodId} {args : Array Value} {below : List Frame} {meth : Method} {c : Code} {T : State} {locs : List Loc} {cells slots : Nat}
theorem vx_callV (X : Stand p l e R s m args below meth c T locs cells slots) (hexec : p.tables.exec = Jvm.exec) {own C : String} {index : Nat} {y : MethodName} {bytes : ByteArray} {maxL : Nat} {ret : Option FieldType}
    (hown : s.vm.findClass own = some m.cls) (hlink : (Cond.methodLink own index y).before args s = true) (hinst : (Cond.instanceMethod y).before args s = true) (hsel : (Cond.selects C y y).before args s = true)
    (hcode : (Cond.code y bytes maxL ret).before args s = true) (hy : y.cls ≠ "java/lang/invoke/MethodHandle" ∧ y.cls ≠ "java/lang/invoke/VarHandle")
    {W9 : Nat} {Pre : Pt → Array Value → Prop} {Post : Pt → Array Value → Option Value → Pt → Prop} {PostX : Pt → Array Value → Addr → Pt → Prop} (hK : vx_Back l R p e below s args y 3 W9 Pre Post PostX)
    {b : Addr} {cellB : Cell} (hcell : T.heap[b]? = some cellB) (hobj : cellB.vm.isStatics = false) (hcls : s.vm.findClass C = some cellB.cls)
    {g : JFrame} (hg : g.method = m) (hsize : g.locals.size = c.maxLocals) {argsL rest : List Value} (hlen : ∀ sig, parseMethodDescriptor y.desc = some sig → argsL.length = sig.parameters.length)
    (hstack : g.stack = argsL.reverse ++ .ref b :: rest) (hW : 2 * g.monitorRoom + (rest.map fun v => v.category).sum ≤ W9) (hdg : decode c.code g.pc = .ok (.invokevirtual index, 3))
    (hpre : ∀ vm₁, s.WarmedH vm₁ → Pre ⟨T.setVm vm₁, locs, cells, slots⟩ (Value.ref b :: argsL).toArray) :
    (∃ (v : Option Value) (vm₁ : Vm) (B : Pt), s.WarmedH vm₁ ∧ Stand p l e R s m args below meth c B.U B.locs B.cells B.slots ∧ Post ⟨T.setVm vm₁, locs, cells, slots⟩ (Value.ref b :: argsL).toArray v B ∧
      ∀ target, Steps p.tables e below (B.U.setTop { g with pc := g.pc + 3, stack := v.toList ++ rest }) target → Steps p.tables e below (T.setTop g) target) ∨
    (∃ (q : Addr) (vm₁ : Vm) (B : Pt), s.WarmedH vm₁ ∧ Stand p l e R s m args below meth c B.U B.locs B.cells B.slots ∧ PostX ⟨T.setVm vm₁, locs, cells, slots⟩ (Value.ref b :: argsL).toArray q B ∧
      Steps p.tables e below (T.setTop g) ((B.U.setTop { g with stack := rest }).pushFrame (.throwing q))) := by
  obtain ⟨mk, methM, hnamed, hmethM, hstM, habM⟩ := Cond.instanceMethod_spec hinst
  obtain ⟨methM', cM, hmethM', -, -, -, -, -, -, hsigM⟩ := Cond.code_spec hnamed hcode
  cases hmethM.symm.trans hmethM'
  obtain ⟨c2, r2, m2, q1, q2, q3, q4, kP, hkP, hkPi⟩ := Cond.selects_spec hsel
  cases hcls.symm.trans q1
  cases (State.methodFound?_of_named hnamed hy).symm.trans q2
  cases hnamed.symm.trans q3
  have hselP : selectMethod e.platform s.vm cellB.cls mk = .method mk := by rw [Launch.admits_selectMethod X.admits]; exact q4
  obtain ⟨vm₁, X₁, hstep₁⟩ := X.invokevirtual hexec hown hlink hnamed hmethM hstM hkP hkPi hy (a := b) (cell := cellB) hcell
    (fun z h => by rw [h] at hobj; cases hobj) hselP hmethM habM hkP hkPi (g := g) hg (argsL := argsL) (rest := rest) (hlen _ hsigM) hstack hdg
  rcases hK m meth c ⟨T.setVm vm₁, locs, cells, slots⟩ { g with stack := rest } (.invokevirtual index) mk (Value.ref b :: argsL).toArray X₁ hg hsize hdg hW (X₁.named hnamed) (hpre vm₁ X₁.warmed) with ⟨v, B, X', hpost, hsteps⟩ | ⟨q, B, X', hpost, hsteps⟩
  · exact Or.inl ⟨v, vm₁, B, X₁.warmed, X', hpost, fun target h => hstep₁ _ fun acts => by rw [doInvoke_state]; exact hsteps.trans h⟩
  · exact Or.inr ⟨q, vm₁, B, X₁.warmed, X', hpost, hstep₁ _ fun acts => by rw [doInvoke_state]; exact hsteps⟩
theorem vx_callS (X : Stand p l e R s m args below meth c T locs cells slots) (hexec : p.tables.exec = Jvm.exec) {own : String} {index : Nat} {y : MethodName} {bytes : ByteArray} {maxL : Nat} {ret : Option FieldType}
    (hown : s.vm.findClass own = some m.cls) (hlink : (Cond.methodLink own index y).before args s = true) (hstat : (Cond.static y).before args s = true) (hinit : (Cond.initialized y.cls).before args s = true)
    (hcode : (Cond.code y bytes maxL ret).before args s = true) (hy : y.cls ≠ "java/lang/invoke/MethodHandle" ∧ y.cls ≠ "java/lang/invoke/VarHandle")
    {W9 : Nat} {Pre : Pt → Array Value → Prop} {Post : Pt → Array Value → Option Value → Pt → Prop} {PostX : Pt → Array Value → Addr → Pt → Prop} (hK : vx_Back l R p e below s args y 3 W9 Pre Post PostX)
    {g : JFrame} (hg : g.method = m) (hsize : g.locals.size = c.maxLocals) {argsL rest : List Value} (hlen : ∀ sig, parseMethodDescriptor y.desc = some sig → argsL.length = sig.parameters.length)
    (hstack : g.stack = argsL.reverse ++ rest) (hW : 2 * g.monitorRoom + (rest.map fun v => v.category).sum ≤ W9) (hdg : decode c.code g.pc = .ok (.invokestatic index, 3))
    (hpre : ∀ vm₁, s.WarmedH vm₁ → Pre ⟨T.setVm vm₁, locs, cells, slots⟩ argsL.toArray) :
    (∃ (v : Option Value) (vm₁ : Vm) (B : Pt), s.WarmedH vm₁ ∧ Stand p l e R s m args below meth c B.U B.locs B.cells B.slots ∧ Post ⟨T.setVm vm₁, locs, cells, slots⟩ argsL.toArray v B ∧
      ∀ target, Steps p.tables e below (B.U.setTop { g with pc := g.pc + 3, stack := v.toList ++ rest }) target → Steps p.tables e below (T.setTop g) target) ∨
    (∃ (q : Addr) (vm₁ : Vm) (B : Pt), s.WarmedH vm₁ ∧ Stand p l e R s m args below meth c B.U B.locs B.cells B.slots ∧ PostX ⟨T.setVm vm₁, locs, cells, slots⟩ argsL.toArray q B ∧
      Steps p.tables e below (T.setTop g) ((B.U.setTop { g with stack := rest }).pushFrame (.throwing q))) := by
  obtain ⟨mk, hnamed⟩ := Cond.code_named hcode
  obtain ⟨methM, cM, hmethM, -, -, -, -, -, -, hsigM⟩ := Cond.code_spec hnamed hcode
  have hstatic : methM.isStatic = true := Cond.static_spec hnamed hmethM hstat
  obtain ⟨kP, hkP, -⟩ := className_of_methodNamed hnamed
  have hinitP : kP.init = .initialized := Cond.initialized_spec (findClass_of_methodNamed hnamed) hkP hinit
  obtain ⟨vm₁, X₁, hstep₁⟩ := X.invokestatic hexec hown hlink hnamed hmethM hstatic hkP hinitP hy (g := g) hg (argsL := argsL) (rest := rest) (hlen _ hsigM) hstack hdg
  rcases hK m meth c ⟨T.setVm vm₁, locs, cells, slots⟩ { g with stack := rest } (.invokestatic index) mk argsL.toArray X₁ hg hsize hdg hW (X₁.named hnamed) (hpre vm₁ X₁.warmed) with ⟨v, B, X', hpost, hsteps⟩ | ⟨q, B, X', hpost, hsteps⟩
  · exact Or.inl ⟨v, vm₁, B, X₁.warmed, X', hpost, fun target h => hstep₁ _ fun acts => by rw [doInvoke_state]; exact hsteps.trans h⟩
  · exact Or.inr ⟨q, vm₁, B, X₁.warmed, X', hpost, hstep₁ _ fun acts => by rw [doInvoke_state]; exact hsteps⟩
end Calls
theorem vx_cls {s : State} {T : State} {vm₁ : Vm} {E : String} {k : ClassId} (hW : s.WarmedH vm₁) (h : (T.setVm vm₁).vm.findClass E = some k) : s.vm.findClass E = some k := by
  have h1 : vm₁.findClass E = some k := h
  rw [hW.alike.findClass] at h1
  exact h1
/-- the method's frame g, with q thrown over it -/
def vx_W (p : Program) (l : Launch) (e : Env) (R : Room) (s : State) (m : MethodId) (args : Array Value) (below : List Frame) (meth : Method) (c : Code) (H : Heap) (locs : List Loc) (cells slots : Nat) (Q : State → Prop) (g : JFrame) (q : Addr) : Prop :=
  ∀ T : State, T.heap = H → Stand p l e R s m args below meth c T locs cells slots → ∃ t, Steps p.tables e below ((T.setTop g).pushFrame (.throwing q)) t ∧ Q t
def vx_Run (p : Program) (l : Launch) (e : Env) (R : Room) (s : State) (m : MethodId) (args : Array Value) (below : List Frame) (meth : Method) (c : Code) (H : Heap) (locs : List Loc) (cells slots mc ms : Nat) (g : JFrame) (rest : List Value) (Qa : State → Outcome → State → Prop) (XC : String → State → State → Prop) (free : Addr → Prop) : Prop :=
  ∀ T : State, T.heap = H → Stand p l e R s m args below meth c T locs cells slots →
    (∃ (v : Option Value) (st₀ t T' : State) (L : List Loc), st₀.heap = H ∧ Stand p l e R s m args below meth c T' (locs ++ L) (cells + mc) (slots + ms) ∧ (∀ q ∈ L, free q.base) ∧ T'.heap = t.heap ∧ T'.vm = t.vm ∧ Qa st₀ (.returned v) t ∧
      Goes p e below T g T' { g with pc := g.pc + 3, stack := v.toList ++ rest }) ∨
    (∃ (q : Addr) (st₀ t T' : State) (L : List Loc) (E : String) (ce : Cell), st₀.heap = H ∧ Stand p l e R s m args below meth c T' (locs ++ L) (cells + mc) (slots + ms) ∧ (∀ z ∈ L, free z.base) ∧ T'.heap = t.heap ∧ T'.vm = t.vm ∧ XC E st₀ t ∧ t.heap[q]? = some ce ∧ ce.vm = .none ∧ s.vm.findClass E = some ce.cls ∧
      Steps p.tables e below (T.setTop g) ((T'.setTop { g with stack := rest }).pushFrame (.throwing q)))
def vx_X {S : Type} (px : S → Prop) (B : String → S → State → Prop) (A : Nat → Prop) : String → State → State → Prop := fun E st t => ∃ u : S, px u ∧ B E u t ∧ va_F A st t
section Runs
variable {p : Program} {l : Launch} {e : Env} {R : Room} {s : State} {m : MethodId} {args : Array Value} {below : List Frame} {meth : Method} {c : Code} {H : Heap} {locs : List Loc} {cells slots : Nat}
variable {y : MethodName} {bytes cc : ByteArray} {maxL nL mc ms n index : Nat} {ret : Option FieldType} {ws : List Cond} {rm : Room} {Pc : Array Value → State → Prop} {Qc : Array Value → State → Outcome → State → Prop} {XC : String → State → State → Prop} {free : Addr → Prop} {Ts : List Cond} {own C : String} {b : Addr} {As rest : List Value} {g : JFrame}
theorem vx_callBack (cb : CallB R s args own index y bytes maxL ret ws rm mc ms n) (hM : vx_Met l y ws rm Pc Qc XC mc ms free) (hbl : FrameBlind Pc) : vx_Back l R p e below s args y 3 8 (PreOf R mc ms Pc) (PostOf Qc mc ms free) (vx_Post XC mc ms free) := by
  obtain ⟨hrc, hrs, hfr, hlo, hws, hcw, -, hini, -⟩ := cb
  exact vx_back (bytes := bytes) (maxL := maxL) (ret := ret) hM hbl hrc hrs hfr hlo hws hcw (fun a' U hW => word_at hW (Or.inl (by first | rfl | simp [Cond.onTables, Cond.keeps, Cond.steady])) hini)
theorem vx_runV (S : CallFix p m c cc nL s args Ts own) (hM : vx_Met l y ws rm Pc Qc XC mc ms free) (cw : CallW R s args own C index y bytes maxL ret ws rm mc ms n) (hp : PreV s H C b Pc As)
    (hg : g.method = m) (hn : As.length = n) (hsize : g.locals.size = nL) (hstack : g.stack = As.reverse ++ .ref b :: rest) (hW : 2 * g.monitorRoom + (rest.map fun v => v.category).sum ≤ 8) (hdg : decode cc g.pc = .ok (.invokevirtual index, 3)) (hf : cells + mc ≤ R.cells ∧ slots + ms ≤ R.slots) :
    vx_Run p l e R s m args below meth c H locs cells slots mc ms g rest (Qc (Value.ref b :: As).toArray) XC free := by
  have hK : vx_Back l R p e below s args y 3 8 (PreOf R mc ms Pc) (PostOf Qc mc ms free) (vx_Post XC mc ms free) := vx_callBack cw.1 hM hp.1
  obtain ⟨⟨-, -, -, -, -, -, hcode, -, hy, hlen, hl⟩, hin, hse⟩ := cw
  obtain ⟨hx, hb, hml, ho, -⟩ := S
  obtain ⟨-, ⟨cellB, hcB, hoB, hclB⟩, hPc⟩ := hp
  intro T hT X
  rcases vx_callV X hx (C := C) (bytes := bytes) (maxL := maxL) (ret := ret) ho hl hin hse hcode hy hK (by rw [hT]; exact hcB) hoB hclB hg (hsize.trans hml.symm) (argsL := As) (rest := rest) (fun sig h => hn.trans (hlen sig h)) hstack hW (by rw [hb]; exact hdg)
    (fun vm₁ hW₁ => ⟨hf.1, hf.2, hPc (T.setVm vm₁) hT hW₁⟩) with ⟨v, vm₁, ⟨U', l2, c2, s2⟩, hW₁, X', ⟨g', mk, t, L, e1, e2, hq, h1, hL, h2, h3⟩, st⟩ | ⟨q, vm₁, ⟨U', l2, c2, s2⟩, hW₁, X', ⟨g', mk, t, L, E, ce, e1, e2, hq, hce, hcv, hcl, h1, hL, h2, h3⟩, st⟩
  · dsimp only [Pt.U, Pt.locs, Pt.cells, Pt.slots] at X' e1 e2 h1 h2 h3 st
    subst h1; subst h2; subst h3
    exact Or.inl ⟨v, (T.setVm vm₁).calling g' mk (Value.ref b :: As).toArray, t, U', L, hT, X', hL, e1, e2, hq, st⟩
  · dsimp only [Pt.U, Pt.locs, Pt.cells, Pt.slots] at X' e1 e2 h1 h2 h3 st hcl
    subst h1; subst h2; subst h3
    exact Or.inr ⟨q, (T.setVm vm₁).calling g' mk (Value.ref b :: As).toArray, t, U', L, E, ce, hT, X', hL, e1, e2, hq, hce, hcv, vx_cls hW₁ hcl, st⟩
theorem vx_runS (S : CallFix p m c cc nL s args Ts own) (hM : vx_Met l y ws rm Pc Qc XC mc ms free) (cw : CallB R s args own index y bytes maxL ret ws rm mc ms n ∧ (Cond.static y).before args s = true) (hp : PreS s H Pc As)
    (hg : g.method = m) (hn : As.length = n) (hsize : g.locals.size = nL) (hstack : g.stack = As.reverse ++ rest) (hW : 2 * g.monitorRoom + (rest.map fun v => v.category).sum ≤ 8) (hdg : decode cc g.pc = .ok (.invokestatic index, 3)) (hf : cells + mc ≤ R.cells ∧ slots + ms ≤ R.slots) :
    vx_Run p l e R s m args below meth c H locs cells slots mc ms g rest (Qc As.toArray) XC free := by
  have hK : vx_Back l R p e below s args y 3 8 (PreOf R mc ms Pc) (PostOf Qc mc ms free) (vx_Post XC mc ms free) := vx_callBack cw.1 hM hp.1
  obtain ⟨⟨-, -, -, -, -, -, hcode, hini, hy, hlen, hl⟩, hstt⟩ := cw
  obtain ⟨hx, hb, hml, ho, -⟩ := S
  intro T hT X
  rcases vx_callS X hx (bytes := bytes) (maxL := maxL) (ret := ret) ho hl hstt hini hcode hy hK hg (hsize.trans hml.symm) (argsL := As) (rest := rest) (fun sig h => hn.trans (hlen sig h)) hstack hW (by rw [hb]; exact hdg)
    (fun vm₁ hW₁ => ⟨hf.1, hf.2, hp.2 (T.setVm vm₁) hT hW₁⟩) with ⟨v, vm₁, ⟨U', l2, c2, s2⟩, hW₁, X', ⟨g', mk, t, L, e1, e2, hq, h1, hL, h2, h3⟩, st⟩ | ⟨q, vm₁, ⟨U', l2, c2, s2⟩, hW₁, X', ⟨g', mk, t, L, E, ce, e1, e2, hq, hce, hcv, hcl, h1, hL, h2, h3⟩, st⟩
  · dsimp only [Pt.U, Pt.locs, Pt.cells, Pt.slots] at X' e1 e2 h1 h2 h3 st
    subst h1; subst h2; subst h3
    exact Or.inl ⟨v, (T.setVm vm₁).calling g' mk As.toArray, t, U', L, hT, X', hL, e1, e2, hq, st⟩
  · dsimp only [Pt.U, Pt.locs, Pt.cells, Pt.slots] at X' e1 e2 h1 h2 h3 st hcl
    subst h1; subst h2; subst h3
    exact Or.inr ⟨q, (T.setVm vm₁).calling g' mk As.toArray, t, U', L, E, ce, hT, X', hL, e1, e2, hq, hce, hcv, vx_cls hW₁ hcl, st⟩
end Runs
section Rows
variable {p : Program} {l : Launch} {e : Env} {R : Room} {s : State} {m : MethodId} {args : Array Value} {below : List Frame} {meth : Method} {c : Code} {H : Heap} {locs : List Loc} {cells slots : Nat} {Q : State → Prop}
variable {mc ms : Nat} {free : Addr → Prop} {A0 A1 : Nat → Prop} {H0 : Heap} {a : Array Value} {pc : Nat} {ls : Array Slot} {st0 rest : List Value}
theorem vx_keep {st₀ t T' : State} {L : List Loc} (h0 : st₀.heap = H) (e1 : T'.heap = t.heap) (hS : va_S A0 H0 H locs) (hA : ∀ q, q < H.size → A1 q → A0 q) (hf : ∀ q, free q → A0 q) (hL : ∀ q ∈ L, free q.base) (hF : va_F A1 st₀ t) :
    H.size ≤ T'.heap.size ∧ (∀ q : Nat, q < H.size → ¬ A1 q → T'.heap[q]? = H[q]?) ∧ va_S A0 H0 T'.heap (locs ++ L) := by
  obtain ⟨hz, hk⟩ := hF
  rw [h0] at hz hk
  exact ⟨by rw [e1]; exact hz, fun q h1 h2 => by rw [e1]; exact hk q h1 h2,
    ⟨Nat.le_trans hS.1 (by rw [e1]; exact hz), fun q h1 h2 => by rw [e1, hk q (Nat.lt_of_lt_of_le h1 hS.1) (fun z => h2 (hA q (Nat.lt_of_lt_of_le h1 hS.1) z))]; exact hS.2.1 q h1 h2, fun q hq => by
      rcases List.mem_append.mp hq with h | h
      · exact hS.2.2 q h
      · exact hf _ (hL q h)⟩⟩
theorem vx_calli {S SX : Type} {post : Int32 → S → Prop} {px : SX → Prop} {B : S → State → Prop} {BX : String → SX → State → Prop} {AX : Nat → Prop} (hr : vx_Run p l e R s m args below meth c H locs cells slots mc ms (F0 m pc ls st0) rest (va_Qi post B A1 a) (vx_X px BX AX) free) (hS : va_S A0 H0 H locs) (hA : ∀ q, q < H.size → A1 q → A0 q) (hf : ∀ q, free q → A0 q) (hAX : ∀ q, q < H.size → AX q → A0 q)
    (kx : ∀ (E : String) (ce : Cell) (q9 : Addr) (u : SX) (t : State) (H1 : Heap) (locs1 : List Loc), t.heap = H1 → s.vm.Alike t.vm → px u → BX E u t → H.size ≤ H1.size → (∀ q : Nat, q < H.size → ¬ AX q → H1[q]? = H[q]?) → va_S A0 H0 H1 locs1 → H1[q9]? = some ce → ce.vm = .none → s.vm.findClass E = some ce.cls → vx_W p l e R s m args below meth c H1 locs1 (cells + mc) (slots + ms) Q (F0 m pc ls rest) q9)
    (kk : ∀ (r : Int32) (u : S) (t : State) (H1 : Heap) (locs1 : List Loc), t.heap = H1 → s.vm.Alike t.vm → post r u → B u t → H.size ≤ H1.size → (∀ q : Nat, q < H.size → ¬ A1 q → H1[q]? = H[q]?) → va_S A0 H0 H1 locs1 → W p l e R s m args below meth c H1 locs1 (cells + mc) (slots + ms) Q (F0 m (pc + 3) ls (.int r :: rest))) : W p l e R s m args below meth c H locs cells slots Q (F0 m pc ls st0) := by
  intro T hT X
  rcases hr T hT X with ⟨v, st₀, t, T', L, h0, X', hL, e1, e2, ⟨⟨r, u, hv, hp, hb⟩, hF⟩, st⟩ | ⟨q, st₀, t, T', L, E, ce, h0, X', hL, e1, e2, ⟨u, hp, hb, hF⟩, hce, hcv, hcl, st⟩
  · cases hv
    obtain ⟨k1, k2, k3⟩ := vx_keep h0 e1 hS hA hf hL hF
    obtain ⟨t2, a1, b1⟩ := kk r u t T'.heap (locs ++ L) e1.symm (by rw [← e2]; exact X'.warmed.alike) hp hb k1 k2 k3 T' rfl X'
    exact ⟨t2, st t2 a1, b1⟩
  · obtain ⟨k1, k2, k3⟩ := vx_keep h0 e1 hS hAX hf hL hF
    obtain ⟨t2, a1, b1⟩ := kx E ce q u t T'.heap (locs ++ L) e1.symm (by rw [← e2]; exact X'.warmed.alike) hp hb k1 k2 k3 (by rw [e1]; exact hce) hcv hcl T' rfl X'
    exact ⟨t2, st.trans a1, b1⟩
theorem vx_calll {S SX : Type} {post : Int64 → S → Prop} {px : SX → Prop} {B : S → State → Prop} {BX : String → SX → State → Prop} {AX : Nat → Prop} (hr : vx_Run p l e R s m args below meth c H locs cells slots mc ms (F0 m pc ls st0) rest (va_Ql post B A1 a) (vx_X px BX AX) free) (hS : va_S A0 H0 H locs) (hA : ∀ q, q < H.size → A1 q → A0 q) (hf : ∀ q, free q → A0 q) (hAX : ∀ q, q < H.size → AX q → A0 q)
    (kx : ∀ (E : String) (ce : Cell) (q9 : Addr) (u : SX) (t : State) (H1 : Heap) (locs1 : List Loc), t.heap = H1 → s.vm.Alike t.vm → px u → BX E u t → H.size ≤ H1.size → (∀ q : Nat, q < H.size → ¬ AX q → H1[q]? = H[q]?) → va_S A0 H0 H1 locs1 → H1[q9]? = some ce → ce.vm = .none → s.vm.findClass E = some ce.cls → vx_W p l e R s m args below meth c H1 locs1 (cells + mc) (slots + ms) Q (F0 m pc ls rest) q9)
    (kk : ∀ (r : Int64) (u : S) (t : State) (H1 : Heap) (locs1 : List Loc), t.heap = H1 → s.vm.Alike t.vm → post r u → B u t → H.size ≤ H1.size → (∀ q : Nat, q < H.size → ¬ A1 q → H1[q]? = H[q]?) → va_S A0 H0 H1 locs1 → W p l e R s m args below meth c H1 locs1 (cells + mc) (slots + ms) Q (F0 m (pc + 3) ls (.long r :: rest))) : W p l e R s m args below meth c H locs cells slots Q (F0 m pc ls st0) := by
  intro T hT X
  rcases hr T hT X with ⟨v, st₀, t, T', L, h0, X', hL, e1, e2, ⟨⟨r, u, hv, hp, hb⟩, hF⟩, st⟩ | ⟨q, st₀, t, T', L, E, ce, h0, X', hL, e1, e2, ⟨u, hp, hb, hF⟩, hce, hcv, hcl, st⟩
  · cases hv
    obtain ⟨k1, k2, k3⟩ := vx_keep h0 e1 hS hA hf hL hF
    obtain ⟨t2, a1, b1⟩ := kk r u t T'.heap (locs ++ L) e1.symm (by rw [← e2]; exact X'.warmed.alike) hp hb k1 k2 k3 T' rfl X'
    exact ⟨t2, st t2 a1, b1⟩
  · obtain ⟨k1, k2, k3⟩ := vx_keep h0 e1 hS hAX hf hL hF
    obtain ⟨t2, a1, b1⟩ := kx E ce q u t T'.heap (locs ++ L) e1.symm (by rw [← e2]; exact X'.warmed.alike) hp hb k1 k2 k3 (by rw [e1]; exact hce) hcv hcl T' rfl X'
    exact ⟨t2, st.trans a1, b1⟩
theorem vx_callf {S SX : Type} {post : UInt32 → S → Prop} {px : SX → Prop} {B : S → State → Prop} {BX : String → SX → State → Prop} {AX : Nat → Prop} (hr : vx_Run p l e R s m args below meth c H locs cells slots mc ms (F0 m pc ls st0) rest (va_Qf post B A1 a) (vx_X px BX AX) free) (hS : va_S A0 H0 H locs) (hA : ∀ q, q < H.size → A1 q → A0 q) (hf : ∀ q, free q → A0 q) (hAX : ∀ q, q < H.size → AX q → A0 q)
    (kx : ∀ (E : String) (ce : Cell) (q9 : Addr) (u : SX) (t : State) (H1 : Heap) (locs1 : List Loc), t.heap = H1 → s.vm.Alike t.vm → px u → BX E u t → H.size ≤ H1.size → (∀ q : Nat, q < H.size → ¬ AX q → H1[q]? = H[q]?) → va_S A0 H0 H1 locs1 → H1[q9]? = some ce → ce.vm = .none → s.vm.findClass E = some ce.cls → vx_W p l e R s m args below meth c H1 locs1 (cells + mc) (slots + ms) Q (F0 m pc ls rest) q9)
    (kk : ∀ (r : UInt32) (u : S) (t : State) (H1 : Heap) (locs1 : List Loc), t.heap = H1 → s.vm.Alike t.vm → post r u → B u t → H.size ≤ H1.size → (∀ q : Nat, q < H.size → ¬ A1 q → H1[q]? = H[q]?) → va_S A0 H0 H1 locs1 → W p l e R s m args below meth c H1 locs1 (cells + mc) (slots + ms) Q (F0 m (pc + 3) ls (.float r :: rest))) : W p l e R s m args below meth c H locs cells slots Q (F0 m pc ls st0) := by
  intro T hT X
  rcases hr T hT X with ⟨v, st₀, t, T', L, h0, X', hL, e1, e2, ⟨⟨r, u, hv, hp, hb⟩, hF⟩, st⟩ | ⟨q, st₀, t, T', L, E, ce, h0, X', hL, e1, e2, ⟨u, hp, hb, hF⟩, hce, hcv, hcl, st⟩
  · cases hv
    obtain ⟨k1, k2, k3⟩ := vx_keep h0 e1 hS hA hf hL hF
    obtain ⟨t2, a1, b1⟩ := kk r u t T'.heap (locs ++ L) e1.symm (by rw [← e2]; exact X'.warmed.alike) hp hb k1 k2 k3 T' rfl X'
    exact ⟨t2, st t2 a1, b1⟩
  · obtain ⟨k1, k2, k3⟩ := vx_keep h0 e1 hS hAX hf hL hF
    obtain ⟨t2, a1, b1⟩ := kx E ce q u t T'.heap (locs ++ L) e1.symm (by rw [← e2]; exact X'.warmed.alike) hp hb k1 k2 k3 (by rw [e1]; exact hce) hcv hcl T' rfl X'
    exact ⟨t2, st.trans a1, b1⟩
theorem vx_calld {S SX : Type} {post : UInt64 → S → Prop} {px : SX → Prop} {B : S → State → Prop} {BX : String → SX → State → Prop} {AX : Nat → Prop} (hr : vx_Run p l e R s m args below meth c H locs cells slots mc ms (F0 m pc ls st0) rest (va_Qd post B A1 a) (vx_X px BX AX) free) (hS : va_S A0 H0 H locs) (hA : ∀ q, q < H.size → A1 q → A0 q) (hf : ∀ q, free q → A0 q) (hAX : ∀ q, q < H.size → AX q → A0 q)
    (kx : ∀ (E : String) (ce : Cell) (q9 : Addr) (u : SX) (t : State) (H1 : Heap) (locs1 : List Loc), t.heap = H1 → s.vm.Alike t.vm → px u → BX E u t → H.size ≤ H1.size → (∀ q : Nat, q < H.size → ¬ AX q → H1[q]? = H[q]?) → va_S A0 H0 H1 locs1 → H1[q9]? = some ce → ce.vm = .none → s.vm.findClass E = some ce.cls → vx_W p l e R s m args below meth c H1 locs1 (cells + mc) (slots + ms) Q (F0 m pc ls rest) q9)
    (kk : ∀ (r : UInt64) (u : S) (t : State) (H1 : Heap) (locs1 : List Loc), t.heap = H1 → s.vm.Alike t.vm → post r u → B u t → H.size ≤ H1.size → (∀ q : Nat, q < H.size → ¬ A1 q → H1[q]? = H[q]?) → va_S A0 H0 H1 locs1 → W p l e R s m args below meth c H1 locs1 (cells + mc) (slots + ms) Q (F0 m (pc + 3) ls (.double r :: rest))) : W p l e R s m args below meth c H locs cells slots Q (F0 m pc ls st0) := by
  intro T hT X
  rcases hr T hT X with ⟨v, st₀, t, T', L, h0, X', hL, e1, e2, ⟨⟨r, u, hv, hp, hb⟩, hF⟩, st⟩ | ⟨q, st₀, t, T', L, E, ce, h0, X', hL, e1, e2, ⟨u, hp, hb, hF⟩, hce, hcv, hcl, st⟩
  · cases hv
    obtain ⟨k1, k2, k3⟩ := vx_keep h0 e1 hS hA hf hL hF
    obtain ⟨t2, a1, b1⟩ := kk r u t T'.heap (locs ++ L) e1.symm (by rw [← e2]; exact X'.warmed.alike) hp hb k1 k2 k3 T' rfl X'
    exact ⟨t2, st t2 a1, b1⟩
  · obtain ⟨k1, k2, k3⟩ := vx_keep h0 e1 hS hAX hf hL hF
    obtain ⟨t2, a1, b1⟩ := kx E ce q u t T'.heap (locs ++ L) e1.symm (by rw [← e2]; exact X'.warmed.alike) hp hb k1 k2 k3 (by rw [e1]; exact hce) hcv hcl T' rfl X'
    exact ⟨t2, st.trans a1, b1⟩
theorem vx_callv {S SX : Type} {post : S → Prop} {px : SX → Prop} {B : S → State → Prop} {BX : String → SX → State → Prop} {AX : Nat → Prop} (hr : vx_Run p l e R s m args below meth c H locs cells slots mc ms (F0 m pc ls st0) rest (va_Qv post B A1 a) (vx_X px BX AX) free) (hS : va_S A0 H0 H locs) (hA : ∀ q, q < H.size → A1 q → A0 q) (hf : ∀ q, free q → A0 q) (hAX : ∀ q, q < H.size → AX q → A0 q)
    (kx : ∀ (E : String) (ce : Cell) (q9 : Addr) (u : SX) (t : State) (H1 : Heap) (locs1 : List Loc), t.heap = H1 → s.vm.Alike t.vm → px u → BX E u t → H.size ≤ H1.size → (∀ q : Nat, q < H.size → ¬ AX q → H1[q]? = H[q]?) → va_S A0 H0 H1 locs1 → H1[q9]? = some ce → ce.vm = .none → s.vm.findClass E = some ce.cls → vx_W p l e R s m args below meth c H1 locs1 (cells + mc) (slots + ms) Q (F0 m pc ls rest) q9)
    (kk : ∀ (u : S) (t : State) (H1 : Heap) (locs1 : List Loc), t.heap = H1 → s.vm.Alike t.vm → post u → B u t → H.size ≤ H1.size → (∀ q : Nat, q < H.size → ¬ A1 q → H1[q]? = H[q]?) → va_S A0 H0 H1 locs1 → W p l e R s m args below meth c H1 locs1 (cells + mc) (slots + ms) Q (F0 m (pc + 3) ls (rest))) : W p l e R s m args below meth c H locs cells slots Q (F0 m pc ls st0) := by
  intro T hT X
  rcases hr T hT X with ⟨v, st₀, t, T', L, h0, X', hL, e1, e2, ⟨⟨u, hv, hp, hb⟩, hF⟩, st⟩ | ⟨q, st₀, t, T', L, E, ce, h0, X', hL, e1, e2, ⟨u, hp, hb, hF⟩, hce, hcv, hcl, st⟩
  · cases hv
    obtain ⟨k1, k2, k3⟩ := vx_keep h0 e1 hS hA hf hL hF
    obtain ⟨t2, a1, b1⟩ := kk u t T'.heap (locs ++ L) e1.symm (by rw [← e2]; exact X'.warmed.alike) hp hb k1 k2 k3 T' rfl X'
    exact ⟨t2, st t2 a1, b1⟩
  · obtain ⟨k1, k2, k3⟩ := vx_keep h0 e1 hS hAX hf hL hF
    obtain ⟨t2, a1, b1⟩ := kx E ce q u t T'.heap (locs ++ L) e1.symm (by rw [← e2]; exact X'.warmed.alike) hp hb k1 k2 k3 (by rw [e1]; exact hce) hcv hcl T' rfl X'
    exact ⟨t2, st.trans a1, b1⟩
/-- caught by the row x of this method's table; the rows ahead don't take it -/
theorem vx_catch {own name : String} {E : String} {ce : Cell} {q : Addr} (hown : s.vm.findClass own = some m.cls) (pre : List ExceptionTableEntry) (x : ExceptionTableEntry) (suf : List ExceptionTableEntry) (hsplit : c.exceptionTable.toList = pre ++ x :: suf)
    (hpass : ∀ z ∈ pre, covers z pc = false ∨ (z.catchType ≠ 0 ∧ ∃ nm : String, (Cond.classLink own z.catchType nm).before args s = true ∧ va_Nc E nm s)) (hx : covers x pc = true) (h0 : x.catchType ≠ 0)
    (hlink : (Cond.classLink own x.catchType name).before args s = true) (hcast : (Cond.castable E name).before args s = true) (hcell : H[q]? = some ce) (hv : ce.vm = .none) (hcl : s.vm.findClass E = some ce.cls)
    (kk : W p l e R s m args below meth c H locs cells slots Q (F0 m x.handlerPc ls [.ref q])) : vx_W p l e R s m args below meth c H locs cells slots Q (F0 m pc ls rest) q := by
  intro T hT X
  have hpl : e.platform.magicAccessors = ({} : Platform).magicAccessors := by rw [X.admits.platform]
  obtain ⟨c3, c4, hc3, hc4, hasg⟩ := Cond.castable_spec hcast
  cases Option.some.inj (hc3.symm.trans hcl)
  obtain ⟨c5, hc5, hcl5⟩ := Cond.classLink_spec hown hlink e.platform hpl
  cases Option.some.inj (hc4.symm.trans hc5)
  obtain ⟨vm', X', st⟩ := X.thenCaughtThrough q (g := F0 m pc ls rest) rfl (Steps.refl _) (by rw [hT]; exact hcell) (by rw [hv]; rfl) (by obtain ⟨k9, h9, -⟩ := Vm.findClass_spec hcl; exact ⟨k9, h9⟩) pre x suf hsplit
    (fun z hz => by
      rcases hpass z hz with h | ⟨hz0, nm, hl1, hn1⟩
      · exact Or.inl h
      · obtain ⟨c6, hc6, hcl6⟩ := Cond.classLink_spec hown hl1 e.platform hpl
        obtain ⟨a8, b8, h1, h2, h3⟩ := hn1
        cases Option.some.inj (h1.symm.trans hcl)
        cases Option.some.inj (h2.symm.trans hc6)
        exact Or.inr ⟨hz0, _, hcl6, h3⟩) hx (Or.inr ⟨h0, c4, hcl5, hasg⟩)
  obtain ⟨t, a1, b1⟩ := kk (T.setVm vm') hT X'
  exact ⟨t, st.trans a1, b1⟩
end Rows
section Ends
variable {p : Program} {l : Launch} {e : Env} {R : Room} {s : State} {m : MethodId} {args : Array Value} {below : List Frame} {meth : Method} {c : Code} {H : Heap} {locs : List Loc} {cells slots : Nat} {Q : State → Prop}
variable {mc ms : Nat} {free : Addr → Prop} {A0 A1 : Nat → Prop} {H0 : Heap} {a : Array Value} {ls : Array Slot} {st0 rest : List Value}
variable {Qc : Array Value → State → Outcome → State → Prop} {XC : String → State → State → Prop}
/-- what a body that may throw owes at its end -/
def vx_MQ (below : List Frame) (Qc : Array Value → State → Outcome → State → Prop) (XC : String → State → State → Prop) (a : Array Value) (s : State) (mc ms : Nat) (free : Addr → Prop) : State → Prop := fun t =>
  ∃ o, t.status = .running ∧ Ended t below o ∧ vx_Q Qc XC mc ms free a s o t
theorem vx_ret {g : JFrame} {mc ms : Nat} (k : W p l e R s m args below meth c H locs cells slots (MQ below Qc args s mc ms free) g) : W p l e R s m args below meth c H locs cells slots (vx_MQ below Qc XC args s mc ms free) g := by
  intro T hT X
  obtain ⟨t, a1, o, b1, b2, b3, b4⟩ := k T hT X
  exact ⟨t, a1, o, b1, b2, Or.inl ⟨b3, b4⟩⟩
/-- not caught here: it goes on to the caller -/
theorem vx_widen {g : JFrame} {q : Addr} {k n : Nat} (h1 : cells ≤ k) (h2 : slots ≤ n) (kk : vx_W p l e R s m args below meth c H locs k n Q g q) : vx_W p l e R s m args below meth c H locs cells slots Q g q := fun T hT X => kk T hT (stand_widen X h1 h2)
theorem vx_out {pc : Nat} {E : String} {ce : Cell} {q : Addr} {mc ms : Nat} (hout : ∀ x ∈ c.exceptionTable.toList, covers x pc = false) (hlocks : meth.locks = false) (hcell : H[q]? = some ce) (hv : ce.vm = .none) (hcl : s.vm.findClass E = some ce.cls)
    (hx : ∀ t : State, t.heap = H → s.vm.Alike t.vm → XC E s t) (hf : ∀ z ∈ locs, free z.base) (hc : cells ≤ mc) (hs : slots ≤ ms) :
    vx_W p l e R s m args below meth c H locs cells slots (vx_MQ below Qc XC args s mc ms free) (F0 m pc ls rest) q := by
  intro T hT X
  obtain ⟨st1, hrun, hend, hW, hsm⟩ := X.leaveThrown q (g := F0 m pc ls rest) rfl rfl rfl hout hlocks
  have hcell9 : (T.setFrames (.throwing q :: below)).heap[q]? = some ce := by
    show T.heap[q]? = some ce
    rw [hT]; exact hcell
  exact ⟨_, st1, .threw q, hrun, hend, Or.inr ⟨q, rfl, E, ce, locs, hx _ hT hW.alike, hcell9, hv, hcl, hW, hsm.mono hc hs, hf⟩⟩
theorem vx_frame {U : State} {k n : Nat} (h : s.sameButNew ({ U with vm := s.vm } : State) locs k n) : s.heap.size ≤ U.heap.size ∧ ∀ q : Nat, q < s.heap.size → (∀ z ∈ locs, z.base ≠ q) → U.heap[q]? = s.heap[q]? := by
  obtain ⟨-, h2, -, -, -, h6⟩ := h
  refine ⟨h2, fun q hq hz => ?_⟩
  obtain ⟨c9, e1, e2, e3, e4⟩ := h6 q _ (Array.getElem?_eq_getElem hq)
  have hs : c9.slots = (s.heap[q]).slots := Array.ext_getElem? fun i => e4 i fun hm => hz _ hm rfl
  have h9 : c9 = s.heap[q] := by
    rw [hs] at e2
    exact e2
  have e5 : U.heap[q]? = some c9 := e1
  rw [e5, h9, Array.getElem?_eq_getElem hq]
/-- the words of a throw but the four that speak of the heap -/
def vx_no (w : Cond) : Bool := decide (w ≠ .isRef (.static Bundle.tN "UNASSIGNED_STACK" Bundle.steD)) && decide (w ≠ .isRef (.static Bundle.tN "SUPPRESSED_SENTINEL" Bundle.listD)) && decide (w ≠ .laysStatic Bundle.tN "UNASSIGNED_STACK" Bundle.steD) && decide (w ≠ .laysStatic Bundle.tN "SUPPRESSED_SENTINEL" Bundle.listD)
def vx_at0 (own : String) (ic : Nat) (X : String) (names : List String) : List Cond := (Bundle.ownAtoms0 own ic X names).filter vx_no
def vx_atS (own : String) (ic : Nat) (X : String) (names : List String) : List Cond := (Bundle.ownAtoms own ic X names).filter vx_no
/-- a word that the tables alone decide, or a good one -/
def vx_ot (w : Cond) : Bool := w.onTables || goodWord w
theorem vx_ot_at {args a' : Array Value} {s U : State} {w : Cond} (hW : s.WarmedH U.vm) (hvm : s.vm = U.vm) (hg : vx_ot w = true) (h : w.before args s = true) : w.before a' U = true := by
  simp only [vx_ot, Bool.or_eq_true] at hg
  rcases hg with hg | hg
  · exact va_tabs hg hvm h
  · exact word_at hW (good_of_word hg) h
/-- a list's words: the good ones out of the method's own list, the others by premises of their own -/
theorem vx_hat {args : Array Value} {s : State} {L B : List Cond} (h1 : ∀ w ∈ L.filter goodWord, w.before args s = true) (h2 : ∀ w ∈ L.filter (fun w => !goodWord w), w ∈ B) (h3 : ∀ w ∈ B, w.before args s = true) : ∀ w ∈ L, w.before args s = true := by
  intro w hw
  by_cases g : goodWord w = true
  · exact h1 w (List.mem_filter.mpr ⟨hw, g⟩)
  · refine h3 w (h2 w (List.mem_filter.mpr ⟨hw, ?_⟩))
    show (!goodWord w) = true
    cases hgw : goodWord w
    · rfl
    · exact absurd hgw g
theorem vx_c {args : Array Value} {s : State} {w : Cond} {B : List Cond} (h : w.before args s = true) (t : ∀ w ∈ B, w.before args s = true) : ∀ w' ∈ w :: B, w'.before args s = true := fun w' h' => (List.mem_cons.mp h').elim (fun e => by rw [e]; exact h) (t w')
theorem vx_n {args : Array Value} {s : State} : ∀ w ∈ ([] : List Cond), w.before args s = true := fun _ h => nomatch h
theorem vx_own {args : Array Value} {s : State} {L : List Cond} (h1 : ∀ w ∈ L.filter vx_no, w.before args s = true)
    (hU : (Cond.isRef (.static Bundle.tN "UNASSIGNED_STACK" Bundle.steD)).before args s = true) (hN : (Cond.isRef (.static Bundle.tN "SUPPRESSED_SENTINEL" Bundle.listD)).before args s = true)
    (lU : (Cond.laysStatic Bundle.tN "UNASSIGNED_STACK" Bundle.steD).before args s = true) (lN : (Cond.laysStatic Bundle.tN "SUPPRESSED_SENTINEL" Bundle.listD).before args s = true) : ∀ w ∈ L, w.before args s = true := by
  intro w hw
  by_cases e1 : w = .isRef (.static Bundle.tN "UNASSIGNED_STACK" Bundle.steD)
  · rw [e1]; exact hU
  · by_cases e2 : w = .isRef (.static Bundle.tN "SUPPRESSED_SENTINEL" Bundle.listD)
    · rw [e2]; exact hN
    · by_cases e3 : w = .laysStatic Bundle.tN "UNASSIGNED_STACK" Bundle.steD
      · rw [e3]; exact lU
      · by_cases e4 : w = .laysStatic Bundle.tN "SUPPRESSED_SENTINEL" Bundle.listD
        · rw [e4]; exact lN
        · exact h1 w (List.mem_filter.mpr ⟨hw, by unfold vx_no; rw [decide_eq_true e1, decide_eq_true e2, decide_eq_true e3, decide_eq_true e4]; rfl⟩)
/-- where a static field lies, its class's statics cell in H -/
def vx_L (C n d : String) (A : Nat → Prop) (U : State) (H : Heap) : Prop := ∃ (c : ClassId) (k : Class) (i : Nat) (f : Field) (a : Nat) (cell : Cell), U.vm.findClass C = some c ∧ U.fieldFound? C n d = some (c, k, i, f) ∧ f.isStatic = true ∧ k.statics = some a ∧ H[a]? = some cell ∧ cell.vm.isStatics = true ∧ cell.cls = c ∧ f.slot < cell.slots.size ∧ k.staticTypes[f.slot]? = some f.type ∧ ¬ A a
theorem vx_L.moved {C n d : String} {A : Nat → Prop} {u U : State} {H : Heap} (hvm : u.vm.Alike U.vm) (h : vx_L C n d A u H) : vx_L C n d A U H := by
  obtain ⟨c, k, i, f, a, cell, h1, h2, h3, h4, h5, h6, h7, h8, h9, h10⟩ := h
  obtain ⟨k', hi', he⟩ := State.fieldFound?_setVm hvm h2
  exact ⟨c, k', i, f, a, cell, by rw [hvm.findClass]; exact h1, hi', h3, by rw [he]; exact h4, h5, h6, h7, h8, by rw [he]; exact h9, h10⟩
theorem vx_L.kept {C n d : String} {A : Nat → Prop} {U : State} {H H1 : Heap} (h : vx_L C n d A U H) (hq : ∀ a : Nat, a < H.size → ¬ A a → H1[a]? = H[a]?) : vx_L C n d A U H1 := by
  obtain ⟨c, k, i, f, a, cell, h1, h2, h3, h4, h5, h6, h7, h8, h9, h10⟩ := h
  exact ⟨c, k, i, f, a, cell, h1, h2, h3, h4, by rw [hq a (Array.getElem?_eq_some_iff.mp h5).1 h10]; exact h5, h6, h7, h8, h9, h10⟩
theorem vx_L.narrow {C n d : String} {A B : Nat → Prop} {U : State} {H : Heap} (h : vx_L C n d A U H) (hAB : ∀ q, B q → A q) : vx_L C n d B U H := by
  obtain ⟨c, k, i, f, a, cell, h1, h2, h3, h4, h5, h6, h7, h8, h9, h10⟩ := h
  exact ⟨c, k, i, f, a, cell, h1, h2, h3, h4, h5, h6, h7, h8, h9, fun z => h10 (hAB _ z)⟩
theorem vx_L.word {C n d : String} {A : Nat → Prop} {s : State} {args : Array Value} (h : vx_L C n d A s s.heap) : (Cond.laysStatic C n d).before args s = true := by
  obtain ⟨c, k, i, f, a, cell, h1, h2, h3, h4, h5, h6, h7, h8, h9, -⟩ := h
  show (Cond.laysStatic C n d).holds args s none s [] = true
  exact Cond.laysStatic_of h1 h2 h3 h4 h5 h6 h7 h8 h9
/-- .. and what it holds: null or some reference -/
def vx_Zq (C n d : String) (A : Nat → Prop) (U : State) (H : Heap) : Prop := va_Zq C n d A U H ∧ vx_L C n d A U H
theorem vx_Zq.moved {C n d : String} {A : Nat → Prop} {u U : State} {H : Heap} (hvm : u.vm.Alike U.vm) (h : vx_Zq C n d A u H) : vx_Zq C n d A U H := ⟨va_Zq.moved hvm h.1, vx_L.moved hvm h.2⟩
theorem vx_Zq.kept {C n d : String} {A : Nat → Prop} {U : State} {H H1 : Heap} (h : vx_Zq C n d A U H) (hq : ∀ a : Nat, a < H.size → ¬ A a → H1[a]? = H[a]?) : vx_Zq C n d A U H1 := ⟨va_Zq.kept h.1 hq, vx_L.kept h.2 hq⟩
theorem vx_Zq.narrow {C n d : String} {A B : Nat → Prop} {U : State} {H : Heap} (h : vx_Zq C n d A U H) (hAB : ∀ q, B q → A q) : vx_Zq C n d B U H := ⟨va_Zq.narrow h.1 hAB, vx_L.narrow h.2 hAB⟩
theorem vx_Zqof {args : Array Value} {s : State} {C n d : String} {A : Nat → Prop} (hl : (Cond.laysStatic C n d).before args s = true) (hini : (Cond.initialized C).before args s = true) (h : (Cond.isRef (.static C n d)).before args s = true) (hA : ∀ a : Nat, a < s.heap.size → ¬ A a) : vx_Zq C n d A s s.heap := by
  refine ⟨va_Zqof hl hini h hA, ?_⟩
  obtain ⟨c, k, i, f, a, cell, h1, h2, h3, h4, h5, h6, h7, h8, h9⟩ := Cond.laysStatic_spec hl
  exact ⟨c, k, i, f, a, cell, h1, h2, h3, h4, h5, h6, h7, h8, h9, hA a (Array.getElem?_eq_some_iff.mp h5).1⟩
theorem vx_isRef {C n d : String} {v : Value} {A : Nat → Prop} {s : State} {args : Array Value} (h : va_Z C n d v A s s.heap) (hv : v.isRef = true) : (Cond.isRef (.static C n d)).before args s = true := by
  obtain ⟨cf, kf, fi, f, a, cell, h1, h2, h3, h4, h5, h6, h7, -⟩ := h
  have he : (Term.static C n d).eval args s none [] s = some v := by
    simp [Term.eval, State.fieldNamed?, h1, h2, h4, h5, h6, h7]
  simp only [Cond.before, Cond.holds, Cond.value, he]
  cases v <;> simp_all [Value.isRef]
theorem vx_isRefq {C n d : String} {A : Nat → Prop} {s : State} {args : Array Value} (h : va_Zq C n d A s s.heap) : (Cond.isRef (.static C n d)).before args s = true := by
  rcases h with h | ⟨t, h⟩
  · exact vx_isRef h rfl
  · exact vx_isRef h rfl
/-- the same frame, seen from here: as if the method were called anew in this heap -/
theorem vx_rebase {T : State} (X : Stand p l e R s m args below meth c T locs cells slots) {R' : Room} (hf : R'.frames ≤ R.frames) (hl : R'.locals ≤ R.locals) (hc : cells + R'.cells ≤ R.cells) (hs : slots + R'.slots ≤ R.slots) :
    Stand p l e R' ((T.setVm s.vm).setFrames (.invoking m args :: below)) m args below meth c T [] 0 0 := by
  have htop : (T.setVm s.vm).topJava?.isSome := X.here.top
  have hF : ((T.setVm s.vm).setFrames (.invoking m args :: below)).frames = .invoking m args :: below := State.frames_setFrames _ (State.cur_lt_of_top htop)
  obtain ⟨g₀, hg0⟩ := Option.isSome_iff_exists.mp htop
  obtain ⟨r, hr⟩ := State.topJava?_eq_some.mp hg0
  have hl9 : e.platform.stackLimits (T.setVm s.vm).me = e.platform.stackLimits s.me := X.limits
  have hb9 : (T.setVm s.vm).me.stackBytes = s.me.stackBytes := X.bytes
  refine ⟨X.admits, X.cas, X.clock, hF, ?_, X.hears, X.method, X.code, X.here, X.tail, X.warmed, ?_, ?_, ?_⟩
  · have h := X.room
    have hU : ((T.setVm s.vm).setFrames (.invoking m args :: below)).localsInUse = s.localsInUse := by
      rw [State.localsInUse_invoking hF (meth := meth) (c := c) X.method X.code, State.localsInUse_invoking X.frames X.method X.code]
    simp only [State.hasRoom, Bool.and_eq_true, decide_eq_true_eq] at h ⊢
    obtain ⟨⟨⟨⟨h1, h2, h3, h4, h5, h6⟩, h7⟩, h8⟩, h9⟩ := h
    rw [X.frames, List.length_cons] at h2 h3
    have q1 := X.heapSize
    have q2 := X.used
    simp only [hF, hU, List.length_cons, State.stackLimits_setFrames, State.stackBytes_setFrames, hl9, hb9]
    refine ⟨⟨⟨⟨by omega, by omega, by omega, by omega, by omega, h6⟩, ?_⟩, ?_⟩, X.book⟩
    · show T.heap.size + R'.cells ≤ e.platform.maxCells
      omega
    · show T.slotsUsed + R'.slots ≤ e.platform.maxSlots
      omega
  · rw [State.stackLimits_setFrames]; rfl
  · rw [State.stackBytes_setFrames]; rfl
  · refine ⟨?_, Nat.le_refl _, Nat.le_refl _, ?_, ?_, fun a c9 h9 => ⟨c9, h9, rfl, rfl, fun _ _ => rfl⟩⟩
    · obtain ⟨t, ht, -⟩ := State.frames_cons hr
      show T.setVm s.vm = { ((T.setVm s.vm).setFrames (.invoking m args :: below)).setFrames (T.setVm s.vm).frames with heap := T.heap, slotsUsed := T.slotsUsed }
      rw [State.setFrames_setFrames, State.setFrames_self ht]
      rfl
    · show T.slotsUsed = T.slotsUsed + ((T.heap.toList.drop T.heap.size).map (·.slots.size)).sum
      rw [List.drop_eq_nil_of_le (Nat.le_of_eq Array.length_toList)]
      rfl
    · show ((T.heap.toList.drop T.heap.size).map (·.slots.size)).sum ≤ 0
      rw [List.drop_eq_nil_of_le (Nat.le_of_eq Array.length_toList)]
      exact Nat.le_refl _
/-- 'throw new E()': new; dup; invokespecial; athrow -/
theorem vx_throw0 {cc : ByteArray} {pc : Nat} (hexec : p.tables.exec = Jvm.exec) (hb : c.code = cc) (hl : l.stackTraces = false) {own cls : String} {names : List String} {ik ic mc ms : Nat} {A : Nat → Prop}
    (hown : s.vm.findClass own = some m.cls) (hcls : Bundle.fit cls = true) (hnames : ∀ n ∈ names, Bundle.fit n = true)
    (hk : (Cond.classLink own ik cls).before args s = true) (hini : (Cond.initialized cls).before args s = true) (hat : ∀ w ∈ vx_at0 own ic cls names, w.before args s = true)
    (hgood : ∀ w ∈ Cond.classLink own ik cls :: Cond.initialized cls :: vx_at0 own ic cls names, vx_ot w = true)
    (hU : vx_Zq Bundle.tN "UNASSIGNED_STACK" Bundle.steD A s s.heap) (hN : vx_Zq Bundle.tN "SUPPRESSED_SENTINEL" Bundle.listD A s s.heap) (hS : va_S A s.heap H locs) (hsize : ls.size = c.maxLocals)
    (d0 : decode cc pc = .ok (.new ik, 3)) (d3 : decode cc (pc + 3) = .ok (.dup, 1)) (d4 : decode cc (pc + 4) = .ok (.invokespecial ic, 3)) (d7 : decode cc (pc + 7) = .ok (.athrow, 1))
    (hout : ∀ x ∈ c.exceptionTable.toList, covers x (pc + 7) = false)
    (hRframes : names.length + 3 < R.frames) (hRlocals : (rest.map fun v => v.category).sum + (13 * (names.length + 1) + 42) ≤ R.locals) (hRcells : cells + 1 ≤ R.cells) (hRslots : slots + 6 ≤ R.slots) (hlocks : meth.locks = false)
    (hx : ∀ t : State, s.vm.Alike t.vm → H.size ≤ t.heap.size → (∀ q : Nat, q < H.size → t.heap[q]? = H[q]?) → XC cls s t)
    (hf : ∀ z ∈ locs, free z.base) (hc : cells + 1 ≤ mc) (hs : slots + 6 ≤ ms) :
    W p l e R s m args below meth c H locs cells slots (vx_MQ below Qc XC args s mc ms free) (F0 m pc ls rest) := by
  intro T hT X
  have htr : e.platform.stackTraces = false := (show e.platform.stackTraces = l.stackTraces by rw [X.admits.platform]).trans hl
  have Y := vx_rebase X (R' := { frames := R.frames, locals := R.locals, cells := 1, slots := 6 }) (Nat.le_refl _) (Nat.le_refl _) hRcells hRslots
  obtain ⟨s', hA⟩ : ∃ z, z = (T.setVm s.vm).setFrames (.invoking m args :: below) := ⟨_, rfl⟩
  rw [← hA] at Y
  have hvm : s'.vm = s.vm := by rw [hA]; rfl
  have hhp : s'.heap = H := by rw [hA]; exact hT
  have hW0 : s.WarmedH s'.vm := by rw [hvm]; exact State.WarmedH.refl s
  have hat' : ∀ w ∈ vx_at0 own ic cls names, w.before args s' = true := fun w hw => vx_ot_at hW0 hvm.symm (hgood w (List.mem_cons_of_mem _ (List.mem_cons_of_mem _ hw))) (hat w hw)
  have hk' : (Cond.classLink own ik cls).before args s' = true := vx_ot_at hW0 hvm.symm (hgood _ List.mem_cons_self) hk
  have hini' : (Cond.initialized cls).before args s' = true := vx_ot_at hW0 hvm.symm (hgood _ (List.mem_cons_of_mem _ List.mem_cons_self)) hini
  have hU' : vx_Zq Bundle.tN "UNASSIGNED_STACK" Bundle.steD A s' s'.heap := by rw [hhp]; exact vx_Zq.moved hW0.alike (hU.kept hS.2.1)
  have hN' : vx_Zq Bundle.tN "SUPPRESSED_SENTINEL" Bundle.listD A s' s'.heap := by rw [hhp]; exact vx_Zq.moved hW0.alike (hN.kept hS.2.1)
  have h : ∀ w ∈ Bundle.ownAtoms0 own ic cls names, w.before args s' = true := vx_own hat' (vx_isRefq hU'.1) (vx_isRefq hN'.1) hU'.2.word hN'.2.word
  have hown' : s'.vm.findClass own = some m.cls := by rw [hvm]; exact hown
  have hins : (Cond.instantiable cls 6).before args s' = true := h _ (by simp [Bundle.ownAtoms0])
  obtain ⟨vm₁, cX, kX, hfX, hkX, -, -, X₁, st1⟩ := Y.newCold hexec (own := own) (C := cls) (index := ik) (n := 6) hown' hk' hins hini'
    (g := F0 m pc ls rest) rfl (by rw [hb]; exact d0) (Nat.le_refl _) (Nat.le_refl _)
  generalize hT1 : (T.setVm vm₁).pushCell { cls := cX, slots := kX.instanceTypes.map defaultValue, vm := .none } = T1 at X₁ st1
  have hcat : (Value.ref T.heap.size).category = 1 := rfl
  have hcellA : T1.heap[T.heap.size]? = some (freshCell cX kX) := by rw [← hT1]; exact State.heap_pushCell_size _ _
  have d3' : decode c.code (pc + 3) = .ok (.dup, 1) := by rw [hb]; exact d3
  obtain ⟨U, hsteps, hrun, hend, hW, hsame, ce, hce, hO⟩ := X₁.ctorThrow0 hexec htr (own := own) (cls := cls) (names := names) (ic := ic) hown' hcls hnames h (fun x hx => nomatch hx) hfX hkX hcellA (by rw [hhp, hT]; exact Nat.le_refl _)
    (g := { method := m, pc := pc + 4, locals := ls, stack := .ref T.heap.size :: .ref T.heap.size :: rest, locked := none }) rfl hsize rfl rfl (rest := rest) rfl
    (by rw [hb]; exact d4) (by rw [hb]; exact d7) hout hRframes (by simp only [List.map_cons, List.sum_cons, hcat]; omega) hlocks
  obtain ⟨f1, f2⟩ := vx_frame hsame
  rw [hhp] at f1 f2
  have hWs : s.WarmedH U.vm := State.WarmedH.trans hW0 hW
  have hcl : s.vm.findClass cls = some ce.cls := by
    have h9 := hO.cls
    rw [hvm] at h9
    exact h9
  have hall : s.sameButNew ({ U with vm := s.vm } : State) locs mc ms := by
    subst hA
    obtain ⟨e1, e2⟩ := hsame
    rw [State.setFrames_setFrames] at e1
    have h2 : (T.setVm s.vm).sameButNew ({ U with vm := s.vm } : State) [] (0 + 1) (0 + 6) := ⟨e1, e2⟩
    have h3 := X.same.trans h2
    rw [List.append_nil] at h3
    exact h3.mono hc hs
  refine ⟨U, ?_, .threw T.heap.size, hrun, hend, Or.inr ⟨T.heap.size, rfl, cls, ce, locs, hx U hWs.alike f1 (fun q hq => f2 q hq (fun z hz => nomatch hz)), hce, hO.vm, hcl, hWs, hall, hf⟩⟩
  refine st1 _ ?_
  show Steps p.tables e below (T1.setTop { method := m, pc := pc + 3, locals := ls, stack := .ref T.heap.size :: rest, locked := none }) _
  jvm_step X₁.here [X₁.here.top, hexec, d3', Value.category]
  exact hsteps
/-- 'throw new E("text")': new; dup; ldc; invokespecial; athrow -/
theorem vx_throwS {cc : ByteArray} {pc : Nat} (hexec : p.tables.exec = Jvm.exec) (hb : c.code = cc) (hl : l.stackTraces = false) {own cls text : String} {names : List String} {ik is ic mc ms sa : Nat} {A : Nat → Prop}
    (hown : s.vm.findClass own = some m.cls) (hcls : Bundle.fit cls = true) (hnames : ∀ n ∈ names, Bundle.fit n = true)
    (hk : (Cond.classLink own ik cls).before args s = true) (hini : (Cond.initialized cls).before args s = true) (hstr : vk_R own is text sa s) (hat : ∀ w ∈ vx_atS own ic cls names, w.before args s = true)
    (hgood : ∀ w ∈ Cond.classLink own ik cls :: Cond.initialized cls :: vx_atS own ic cls names, vx_ot w = true)
    (hU : vx_Zq Bundle.tN "UNASSIGNED_STACK" Bundle.steD A s s.heap) (hN : vx_Zq Bundle.tN "SUPPRESSED_SENTINEL" Bundle.listD A s s.heap) (hS : va_S A s.heap H locs) (hsize : ls.size = c.maxLocals)
    (d0 : decode cc pc = .ok (.new ik, 3)) (d3 : decode cc (pc + 3) = .ok (.dup, 1)) (d4 : decode cc (pc + 4) = .ok (.ldc is, 2)) (d6 : decode cc (pc + 6) = .ok (.invokespecial ic, 3)) (d9 : decode cc (pc + 9) = .ok (.athrow, 1))
    (hout : ∀ x ∈ c.exceptionTable.toList, covers x (pc + 9) = false)
    (hRframes : names.length + 3 < R.frames) (hRlocals : (rest.map fun v => v.category).sum + (13 * (names.length + 1) + 43) ≤ R.locals) (hRcells : cells + 1 ≤ R.cells) (hRslots : slots + 6 ≤ R.slots) (hlocks : meth.locks = false)
    (hx : ∀ t : State, s.vm.Alike t.vm → H.size ≤ t.heap.size → (∀ q : Nat, q < H.size → t.heap[q]? = H[q]?) → XC cls s t)
    (hf : ∀ z ∈ locs, free z.base) (hc : cells + 1 ≤ mc) (hs : slots + 6 ≤ ms) :
    W p l e R s m args below meth c H locs cells slots (vx_MQ below Qc XC args s mc ms free) (F0 m pc ls rest) := by
  intro T hT X
  have htr : e.platform.stackTraces = false := (show e.platform.stackTraces = l.stackTraces by rw [X.admits.platform]).trans hl
  have Y := vx_rebase X (R' := { frames := R.frames, locals := R.locals, cells := 1, slots := 6 }) (Nat.le_refl _) (Nat.le_refl _) hRcells hRslots
  obtain ⟨s', hA⟩ : ∃ z, z = (T.setVm s.vm).setFrames (.invoking m args :: below) := ⟨_, rfl⟩
  rw [← hA] at Y
  have hvm : s'.vm = s.vm := by rw [hA]; rfl
  have hhp : s'.heap = H := by rw [hA]; exact hT
  have hW0 : s.WarmedH s'.vm := by rw [hvm]; exact State.WarmedH.refl s
  have hat' : ∀ w ∈ vx_atS own ic cls names, w.before args s' = true := fun w hw => vx_ot_at hW0 hvm.symm (hgood w (List.mem_cons_of_mem _ (List.mem_cons_of_mem _ hw))) (hat w hw)
  have hk' : (Cond.classLink own ik cls).before args s' = true := vx_ot_at hW0 hvm.symm (hgood _ List.mem_cons_self) hk
  have hini' : (Cond.initialized cls).before args s' = true := vx_ot_at hW0 hvm.symm (hgood _ (List.mem_cons_of_mem _ List.mem_cons_self)) hini
  have hU' : vx_Zq Bundle.tN "UNASSIGNED_STACK" Bundle.steD A s' s'.heap := by rw [hhp]; exact vx_Zq.moved hW0.alike (hU.kept hS.2.1)
  have hN' : vx_Zq Bundle.tN "SUPPRESSED_SENTINEL" Bundle.listD A s' s'.heap := by rw [hhp]; exact vx_Zq.moved hW0.alike (hN.kept hS.2.1)
  have h : ∀ w ∈ Bundle.ownAtoms own ic cls names, w.before args s' = true := vx_own hat' (vx_isRefq hU'.1) (vx_isRefq hN'.1) hU'.2.word hN'.2.word
  have hown' : s'.vm.findClass own = some m.cls := by rw [hvm]; exact hown
  have hins : (Cond.instantiable cls 6).before args s' = true := h _ (by simp [Bundle.ownAtoms])
  obtain ⟨vm₁, cX, kX, hfX, hkX, -, -, X₁, st1⟩ := Y.newCold hexec (own := own) (C := cls) (index := ik) (n := 6) hown' hk' hins hini'
    (g := F0 m pc ls rest) rfl (by rw [hb]; exact d0) (Nat.le_refl _) (Nat.le_refl _)
  generalize hT1 : (T.setVm vm₁).pushCell { cls := cX, slots := kX.instanceTypes.map defaultValue, vm := .none } = T1 at X₁ st1
  have hcat : (Value.ref T.heap.size).category = 1 := rfl
  have hcellA : T1.heap[T.heap.size]? = some (freshCell cX kX) := by rw [← hT1]; exact State.heap_pushCell_size _ _
  have d3' : decode c.code (pc + 3) = .ok (.dup, 1) := by rw [hb]; exact d3
  have d4' : decode c.code (pc + 4) = .ok (.ldc is, 2) := by rw [hb]; exact d4
  have hstr' : vk_R own is text sa s' := vk_R.warm hW0 hstr
  obtain ⟨U, hsteps, hrun, hend, hW, hsame, ce, hce, hO⟩ := X₁.ctorThrowS hexec htr (own := own) (cls := cls) (names := names) (ic := ic) hown' hcls hnames h (fun x hx => nomatch hx) hfX hkX hcellA (by rw [hhp, hT]; exact Nat.le_refl _) (msg := .ref sa) rfl
    (g := { method := m, pc := pc + 6, locals := ls, stack := .ref sa :: .ref T.heap.size :: .ref T.heap.size :: rest, locked := none }) rfl hsize rfl rfl (rest := rest) rfl
    (by rw [hb]; exact d6) (by rw [hb]; exact d9) hout hRframes (by simp only [List.map_cons, List.sum_cons, hcat]; omega) hlocks
  obtain ⟨f1, f2⟩ := vx_frame hsame
  rw [hhp] at f1 f2
  have hWs : s.WarmedH U.vm := State.WarmedH.trans hW0 hW
  have hcl : s.vm.findClass cls = some ce.cls := by
    have h9 := hO.cls
    rw [hvm] at h9
    exact h9
  have hall : s.sameButNew ({ U with vm := s.vm } : State) locs mc ms := by
    subst hA
    obtain ⟨e1, e2⟩ := hsame
    rw [State.setFrames_setFrames] at e1
    have h2 : (T.setVm s.vm).sameButNew ({ U with vm := s.vm } : State) [] (0 + 1) (0 + 6) := ⟨e1, e2⟩
    have h3 := X.same.trans h2
    rw [List.append_nil] at h3
    exact h3.mono hc hs
  refine ⟨U, ?_, .threw T.heap.size, hrun, hend, Or.inr ⟨T.heap.size, rfl, cls, ce, locs, hx U hWs.alike f1 (fun q hq => f2 q hq (fun z hz => nomatch hz)), hce, hO.vm, hcl, hWs, hall, hf⟩⟩
  refine st1 _ ?_
  show Steps p.tables e below (T1.setTop { method := m, pc := pc + 3, locals := ls, stack := .ref T.heap.size :: rest, locked := none }) _
  jvm_step X₁.here [X₁.here.top, hexec, d3', Value.category]
  exact X₁.ldcString hexec (own := own) (text := text) (index := is) (a := sa) hown' hstr'.1 hstr'.2
    (g := { method := m, pc := pc + 4, locals := ls, stack := .ref T.heap.size :: .ref T.heap.size :: rest, locked := none }) rfl d4' _ hsteps
/-- 'throw new E("text")', the text by a wide index -/
theorem vx_throwSW {cc : ByteArray} {pc : Nat} (hexec : p.tables.exec = Jvm.exec) (hb : c.code = cc) (hl : l.stackTraces = false) {own cls text : String} {names : List String} {ik is ic mc ms sa : Nat} {A : Nat → Prop}
    (hown : s.vm.findClass own = some m.cls) (hcls : Bundle.fit cls = true) (hnames : ∀ n ∈ names, Bundle.fit n = true)
    (hk : (Cond.classLink own ik cls).before args s = true) (hini : (Cond.initialized cls).before args s = true) (hstr : vk_R own is text sa s) (hat : ∀ w ∈ vx_atS own ic cls names, w.before args s = true)
    (hgood : ∀ w ∈ Cond.classLink own ik cls :: Cond.initialized cls :: vx_atS own ic cls names, vx_ot w = true)
    (hU : vx_Zq Bundle.tN "UNASSIGNED_STACK" Bundle.steD A s s.heap) (hN : vx_Zq Bundle.tN "SUPPRESSED_SENTINEL" Bundle.listD A s s.heap) (hS : va_S A s.heap H locs) (hsize : ls.size = c.maxLocals)
    (d0 : decode cc pc = .ok (.new ik, 3)) (d3 : decode cc (pc + 3) = .ok (.dup, 1)) (d4 : decode cc (pc + 4) = .ok (.ldc_w is, 3)) (d7 : decode cc (pc + 7) = .ok (.invokespecial ic, 3)) (d10 : decode cc (pc + 10) = .ok (.athrow, 1))
    (hout : ∀ x ∈ c.exceptionTable.toList, covers x (pc + 10) = false)
    (hRframes : names.length + 3 < R.frames) (hRlocals : (rest.map fun v => v.category).sum + (13 * (names.length + 1) + 43) ≤ R.locals) (hRcells : cells + 1 ≤ R.cells) (hRslots : slots + 6 ≤ R.slots) (hlocks : meth.locks = false)
    (hx : ∀ t : State, s.vm.Alike t.vm → H.size ≤ t.heap.size → (∀ q : Nat, q < H.size → t.heap[q]? = H[q]?) → XC cls s t)
    (hf : ∀ z ∈ locs, free z.base) (hc : cells + 1 ≤ mc) (hs : slots + 6 ≤ ms) :
    W p l e R s m args below meth c H locs cells slots (vx_MQ below Qc XC args s mc ms free) (F0 m pc ls rest) := by
  intro T hT X
  have htr : e.platform.stackTraces = false := (show e.platform.stackTraces = l.stackTraces by rw [X.admits.platform]).trans hl
  have Y := vx_rebase X (R' := { frames := R.frames, locals := R.locals, cells := 1, slots := 6 }) (Nat.le_refl _) (Nat.le_refl _) hRcells hRslots
  obtain ⟨s', hA⟩ : ∃ z, z = (T.setVm s.vm).setFrames (.invoking m args :: below) := ⟨_, rfl⟩
  rw [← hA] at Y
  have hvm : s'.vm = s.vm := by rw [hA]; rfl
  have hhp : s'.heap = H := by rw [hA]; exact hT
  have hW0 : s.WarmedH s'.vm := by rw [hvm]; exact State.WarmedH.refl s
  have hat' : ∀ w ∈ vx_atS own ic cls names, w.before args s' = true := fun w hw => vx_ot_at hW0 hvm.symm (hgood w (List.mem_cons_of_mem _ (List.mem_cons_of_mem _ hw))) (hat w hw)
  have hk' : (Cond.classLink own ik cls).before args s' = true := vx_ot_at hW0 hvm.symm (hgood _ List.mem_cons_self) hk
  have hini' : (Cond.initialized cls).before args s' = true := vx_ot_at hW0 hvm.symm (hgood _ (List.mem_cons_of_mem _ List.mem_cons_self)) hini
  have hU' : vx_Zq Bundle.tN "UNASSIGNED_STACK" Bundle.steD A s' s'.heap := by rw [hhp]; exact vx_Zq.moved hW0.alike (hU.kept hS.2.1)
  have hN' : vx_Zq Bundle.tN "SUPPRESSED_SENTINEL" Bundle.listD A s' s'.heap := by rw [hhp]; exact vx_Zq.moved hW0.alike (hN.kept hS.2.1)
  have h : ∀ w ∈ Bundle.ownAtoms own ic cls names, w.before args s' = true := vx_own hat' (vx_isRefq hU'.1) (vx_isRefq hN'.1) hU'.2.word hN'.2.word
  have hown' : s'.vm.findClass own = some m.cls := by rw [hvm]; exact hown
  have hins : (Cond.instantiable cls 6).before args s' = true := h _ (by simp [Bundle.ownAtoms])
  obtain ⟨vm₁, cX, kX, hfX, hkX, -, -, X₁, st1⟩ := Y.newCold hexec (own := own) (C := cls) (index := ik) (n := 6) hown' hk' hins hini'
    (g := F0 m pc ls rest) rfl (by rw [hb]; exact d0) (Nat.le_refl _) (Nat.le_refl _)
  generalize hT1 : (T.setVm vm₁).pushCell { cls := cX, slots := kX.instanceTypes.map defaultValue, vm := .none } = T1 at X₁ st1
  have hcat : (Value.ref T.heap.size).category = 1 := rfl
  have hcellA : T1.heap[T.heap.size]? = some (freshCell cX kX) := by rw [← hT1]; exact State.heap_pushCell_size _ _
  have d3' : decode c.code (pc + 3) = .ok (.dup, 1) := by rw [hb]; exact d3
  have d4' : decode c.code (pc + 4) = .ok (.ldc_w is, 3) := by rw [hb]; exact d4
  have hstr' : vk_R own is text sa s' := vk_R.warm hW0 hstr
  obtain ⟨U, hsteps, hrun, hend, hW, hsame, ce, hce, hO⟩ := X₁.ctorThrowS hexec htr (own := own) (cls := cls) (names := names) (ic := ic) hown' hcls hnames h (fun x hx => nomatch hx) hfX hkX hcellA (by rw [hhp, hT]; exact Nat.le_refl _) (msg := .ref sa) rfl
    (g := { method := m, pc := pc + 7, locals := ls, stack := .ref sa :: .ref T.heap.size :: .ref T.heap.size :: rest, locked := none }) rfl hsize rfl rfl (rest := rest) rfl
    (by rw [hb]; exact d7) (by rw [hb]; exact d10) hout hRframes (by simp only [List.map_cons, List.sum_cons, hcat]; omega) hlocks
  obtain ⟨f1, f2⟩ := vx_frame hsame
  rw [hhp] at f1 f2
  have hWs : s.WarmedH U.vm := State.WarmedH.trans hW0 hW
  have hcl : s.vm.findClass cls = some ce.cls := by
    have h9 := hO.cls
    rw [hvm] at h9
    exact h9
  have hall : s.sameButNew ({ U with vm := s.vm } : State) locs mc ms := by
    subst hA
    obtain ⟨e1, e2⟩ := hsame
    rw [State.setFrames_setFrames] at e1
    have h2 : (T.setVm s.vm).sameButNew ({ U with vm := s.vm } : State) [] (0 + 1) (0 + 6) := ⟨e1, e2⟩
    have h3 := X.same.trans h2
    rw [List.append_nil] at h3
    exact h3.mono hc hs
  refine ⟨U, ?_, .threw T.heap.size, hrun, hend, Or.inr ⟨T.heap.size, rfl, cls, ce, locs, hx U hWs.alike f1 (fun q hq => f2 q hq (fun z hz => nomatch hz)), hce, hO.vm, hcl, hWs, hall, hf⟩⟩
  refine st1 _ ?_
  show Steps p.tables e below (T1.setTop { method := m, pc := pc + 3, locals := ls, stack := .ref T.heap.size :: rest, locked := none }) _
  jvm_step X₁.here [X₁.here.top, hexec, d3', Value.category]
  exact X₁.ldcStringW hexec (own := own) (text := text) (index := is) (a := sa) hown' hstr'.1 hstr'.2
    (g := { method := m, pc := pc + 4, locals := ls, stack := .ref T.heap.size :: .ref T.heap.size :: rest, locked := none }) rfl d4' _ hsteps
end Ends
section Bodies
variable {l : Launch}
theorem vx_ofW {y : MethodName} {ws ws' : List Cond} {rm : Room} {Pc : Array Value → State → Prop} {Qc : Array Value → State → Outcome → State → Prop} {XC : String → State → State → Prop} {mc ms : Nat} {free : Addr → Prop} {cc : ByteArray} {maxL : Nat} {ret : Option FieldType}
    (hy : plainName y.cls = true) (hw : ws = Cond.code y cc maxL ret :: ws')
    (body : ∀ p e s m args below meth c s₁, BodyLoose p l y (headSpec ws rm) cc maxL ret e s m args below meth c s₁ → c.maxLocals = maxL → (∀ x ∈ c.exceptionTable.toList, False) → Pc args s →
      W p l e (headSpec ws rm).room s m args below meth c s.heap [] 0 0 (vx_MQ below Qc XC args s mc ms free) (entryFrame m args maxL)) : vx_Met l y ws rm Pc Qc XC mc ms free := by
  refine MetFree.of_bodyS (code := cc) (maxLocals := maxL) (ret := ret) hy ?_ ?_
  · intro args s m h hn
    obtain ⟨meth, c, h1, h2, h3, h4, h5, h6, -, -⟩ := Cond.code_spec hn (atoms_spec (ws := ws) h _ (by rw [hw]; exact List.mem_cons_self))
    exact ⟨meth, c, h1, h2, h3, h4, h5, h6⟩
  · intro p e s m args below meth c s₁ B hml hP _
    have hh0 : s₁.heap = s.heap := by rw [B.state]; rfl
    have ht : ∀ x ∈ c.exceptionTable.toList, False := by
      obtain ⟨meth9, c9, h1, h2, -, -, -, -, h7, -⟩ := Cond.code_spec B.named (atoms_spec (ws := ws) B.pre _ (by rw [hw]; exact List.mem_cons_self))
      cases Option.some.inj (h1.symm.trans B.method)
      cases Option.some.inj (h2.symm.trans (Stand.of_body B).code)
      intro x hx
      rw [Array.isEmpty_iff.mp h7] at hx
      cases hx
    obtain ⟨t, a1, o, b1, b2, b3⟩ := body p e s m args below meth c s₁ B hml ht hP s₁ hh0 (Stand.of_body B)
    exact ⟨t, o, a1, b1, b2, b3⟩
/-- the table of a body with handlers -/
theorem vx_table {p : Program} {x y : MethodName} {S : Spec} {cc bytes : ByteArray} {maxL maxL' : Nat} {ret ret' : Option FieldType} {e : Env} {s s₁ : State} {m : MethodId} {args : Array Value} {below : List Frame} {meth : Method} {c : Code} {hh : List (Nat × Nat × Nat × Nat)}
    (B : BodyLoose p l y S cc maxL ret e s m args below meth c s₁) (h : (Cond.codeWith y bytes maxL' ret' hh).before args s = true) : c.exceptionTable.toList = tableOf hh := by
  obtain ⟨m9, meth9, c9, hn9, h1, h2, -, -, h6, -⟩ := Cond.codeWith_spec h
  cases Option.some.inj (hn9.symm.trans B.named)
  cases Option.some.inj (h1.symm.trans B.method)
  cases Option.some.inj (h2.symm.trans (Stand.of_body B).code)
  rw [← h6, table_eq]
end Bodies
end VXA
/-! ===== END ===== -/
/-! ===== BEGIN a static call of a method with an exception table ===== -/
section VXS
variable {p : Program} {l : Launch} {e : Env} {R : Room} {s : State} {m : MethodId} {args : Array Value} {below : List Frame} {meth : Method} {c : Code} {T : State} {H : Heap} {locs : List Loc} {cells slots : Nat}
abbrev vx_CSW (R : Room) (s : State) (args : Array Value) (own : String) (index : Nat) (y : MethodName) (bytes : ByteArray) (maxL : Nat) (ret : Option FieldType) (hh : List (Nat × Nat × Nat × Nat)) (ws : List Cond) (rm : Room) (mc ms n : Nat) : Prop :=
  (rm.cells = mc ∧ rm.slots = ms ∧ rm.frames + 1 ≤ R.frames ∧ 8 + (maxL + 11) + rm.locals ≤ R.locals ∧ (∀ w ∈ ws, ∀ (a' : Array Value) (U : State), s.WarmedH U.vm → w.before a' U = true) ∧ Cond.codeWith y bytes maxL ret hh ∈ ws) ∧
  (Cond.codeWith y bytes maxL ret hh).before args s = true ∧ (Cond.initialized y.cls).before args s = true ∧ (y.cls ≠ "java/lang/invoke/MethodHandle" ∧ y.cls ≠ "java/lang/invoke/VarHandle") ∧
  (∀ sig, parseMethodDescriptor y.desc = some sig → n = sig.parameters.length) ∧ (Cond.methodLink own index y).before args s = true ∧ (Cond.static y).before args s = true
theorem vx_cwSW {own : String} {index maxL mc ms : Nat} {y : MethodName} {bytes : ByteArray} {ret : Option FieldType} {hh : List (Nat × Nat × Nat × Nat)} {Ts ws ws' : List Cond} {rm : Room} (n : Nat) (ht : ∀ w ∈ Ts, w.before args s = true) (hT : GoodIn Ts (va_wsS own index y ws)) (hw : ws = Cond.codeWith y bytes maxL ret hh :: ws') (hrc : rm.cells = mc) (hrs : rm.slots = ms)
    (hd : y.cls ≠ "java/lang/invoke/MethodHandle" ∧ y.cls ≠ "java/lang/invoke/VarHandle" ∧ (parseMethodDescriptor y.desc).map (fun d => d.parameters.length) = some n) (hR : rm.frames + 1 ≤ R.frames ∧ 8 + (maxL + 11) + rm.locals ≤ R.locals) :
    vx_CSW R s args own index y bytes maxL ret hh ws rm mc ms n := by
  have ok : ∀ w ∈ va_wsS own index y ws, w.before args s = true := fun w h => ht w (hT w h).1
  have hG : GoodIn Ts ws := fun w h => hT w (by unfold va_wsS; exact List.mem_append_right _ h)
  have hc : Cond.codeWith y bytes maxL ret hh ∈ ws := by rw [hw]; exact List.mem_cons_self
  refine ⟨⟨hrc, hrs, hR.1, hR.2, pay_in ht hG, hc⟩, ht _ (hG _ hc).1, ok _ (by simp [va_wsS]), ⟨hd.1, hd.2.1⟩, fun sig h => ?_, ok _ (by simp [va_wsS]), ok _ (by simp [va_wsS])⟩
  have h2 := hd.2.2
  rw [h] at h2
  exact (Option.some.inj h2).symm
theorem vx_callSW (X : Stand p l e R s m args below meth c T locs cells slots) (hexec : p.tables.exec = Jvm.exec) {own : String} {index : Nat} {y : MethodName} {bytes : ByteArray} {maxL : Nat} {ret : Option FieldType} {hh : List (Nat × Nat × Nat × Nat)}
    (hown : s.vm.findClass own = some m.cls) (hlink : (Cond.methodLink own index y).before args s = true) (hstat : (Cond.static y).before args s = true) (hinit : (Cond.initialized y.cls).before args s = true)
    (hcode : (Cond.codeWith y bytes maxL ret hh).before args s = true) (hy : y.cls ≠ "java/lang/invoke/MethodHandle" ∧ y.cls ≠ "java/lang/invoke/VarHandle")
    {W9 : Nat} {Pre : Pt → Array Value → Prop} {Post : Pt → Array Value → Option Value → Pt → Prop} (hK : Back l R p e below s args y 3 W9 Pre Post)
    {g : JFrame} (hg : g.method = m) (hsize : g.locals.size = c.maxLocals) {argsL rest : List Value} (hlen : ∀ sig, parseMethodDescriptor y.desc = some sig → argsL.length = sig.parameters.length)
    (hstack : g.stack = argsL.reverse ++ rest) (hW : 2 * g.monitorRoom + (rest.map fun v => v.category).sum ≤ W9) (hdg : decode c.code g.pc = .ok (.invokestatic index, 3))
    (hpre : ∀ vm₁, s.WarmedH vm₁ → Pre ⟨T.setVm vm₁, locs, cells, slots⟩ argsL.toArray) :
    ∃ (v : Option Value) (vm₁ : Vm) (B : Pt), s.WarmedH vm₁ ∧ Stand p l e R s m args below meth c B.U B.locs B.cells B.slots ∧ Post ⟨T.setVm vm₁, locs, cells, slots⟩ argsL.toArray v B ∧
      ∀ target, Steps p.tables e below (B.U.setTop { g with pc := g.pc + 3, stack := v.toList ++ rest }) target → Steps p.tables e below (T.setTop g) target := by
  obtain ⟨mk, methM, cM, hnamed, hmethM, -, -, -, -, -, -, hsigM⟩ := Cond.codeWith_spec hcode
  have hstatic : methM.isStatic = true := Cond.static_spec hnamed hmethM hstat
  obtain ⟨kP, hkP, -⟩ := className_of_methodNamed hnamed
  have hinitP : kP.init = .initialized := Cond.initialized_spec (findClass_of_methodNamed hnamed) hkP hinit
  obtain ⟨vm₁, X₁, hstep₁⟩ := X.invokestatic hexec hown hlink hnamed hmethM hstatic hkP hinitP hy (g := g) hg (argsL := argsL) (rest := rest) (hlen _ hsigM) hstack hdg
  obtain ⟨v, B, X', hpost, hsteps⟩ := hK m meth c ⟨T.setVm vm₁, locs, cells, slots⟩ { g with stack := rest } (.invokestatic index) mk argsL.toArray X₁ hg hsize hdg hW (X₁.named hnamed) (hpre vm₁ X₁.warmed)
  exact ⟨v, vm₁, B, X₁.warmed, X', hpost, fun target h => hstep₁ _ fun acts => by rw [doInvoke_state]; exact hsteps.trans h⟩
theorem vx_runSW {y : MethodName} {bytes cc : ByteArray} {maxL nL mc ms n index : Nat} {ret : Option FieldType} {hh : List (Nat × Nat × Nat × Nat)} {ws : List Cond} {rm : Room} {Pc : Array Value → State → Prop} {Qc : Array Value → State → Outcome → State → Prop} {free : Addr → Prop} {Ts : List Cond} {own : String} {As rest : List Value} {g : JFrame}
    (S : CallFix p m c cc nL s args Ts own) (hM : Met l y ws rm Pc Qc mc ms free) (cw : vx_CSW R s args own index y bytes maxL ret hh ws rm mc ms n) (hp : PreS s H Pc As)
    (hg : g.method = m) (hn : As.length = n) (hsize : g.locals.size = nL) (hstack : g.stack = As.reverse ++ rest) (hW : 2 * g.monitorRoom + (rest.map fun v => v.category).sum ≤ 8) (hdg : decode cc g.pc = .ok (.invokestatic index, 3)) (hf : cells + mc ≤ R.cells ∧ slots + ms ≤ R.slots) :
    va_Run p l e R s m args below meth c H locs cells slots mc ms g rest (Qc As.toArray) (free) := by
  obtain ⟨⟨hrc, hrs, hfr, hlo, hws, hcw⟩, hcode, hini, hy, hlen, hl, hstt⟩ := cw
  have hK : Back l R p e below s args y 3 8 (PreOf R mc ms Pc) (PostOf Qc mc ms free) := va_backW (hh := hh) (bytes := bytes) (maxL := maxL) (ret := ret) hM hp.1 hrc hrs hfr hlo hws hcw (fun a' U hW => word_at hW (Or.inl (by first | rfl | simp [Cond.onTables, Cond.keeps, Cond.steady])) hini)
  obtain ⟨hx, hb, hml, ho, -⟩ := S
  intro T hT X
  obtain ⟨v, vm₁, ⟨U', l2, c2, s2⟩, hW₁, X', ⟨g', mk, t, L, e1, e2, hq, h1, hL, h2, h3⟩, st⟩ := vx_callSW X hx (hh := hh) (bytes := bytes) (maxL := maxL) (ret := ret) ho hl hstt hini hcode hy hK hg (hsize.trans hml.symm) (argsL := As) (rest := rest) (fun sig h => hn.trans (hlen sig h)) hstack hW (by rw [hb]; exact hdg)
    (fun vm₁ hW₁ => ⟨hf.1, hf.2, hp.2 (T.setVm vm₁) hT hW₁⟩)
  dsimp only [Pt.U, Pt.locs, Pt.cells, Pt.slots] at X' e1 e2 h1 h2 h3 st
  subst h1; subst h2; subst h3
  exact ⟨v, (T.setVm vm₁).calling g' mk As.toArray, t, U', L, hT, X', hL, e1, e2, hq, st⟩
/-- not caught here, past rows that name other classes: it goes on to the caller -/
theorem vx_outP {p : Program} {l : Launch} {e : Env} {R : Room} {s : State} {m : MethodId} {args : Array Value} {below : List Frame} {meth : Method} {c : Code} {H : Heap} {locs : List Loc} {cells slots : Nat} {free : Addr → Prop} {ls : Array Slot} {rest : List Value} {Qc : Array Value → State → Outcome → State → Prop} {XC : String → State → State → Prop}
    {pc : Nat} {own E : String} {ce : Cell} {q : Addr} {mc ms : Nat} (hown : s.vm.findClass own = some m.cls) (hlocks : meth.locks = false)
    (hpass : ∀ z ∈ c.exceptionTable.toList, covers z pc = false ∨ (z.catchType ≠ 0 ∧ ∃ nm : String, (Cond.classLink own z.catchType nm).before args s = true ∧ va_Nc E nm s)) (hcell : H[q]? = some ce) (hv : ce.vm = .none) (hcl : s.vm.findClass E = some ce.cls)
    (hx : ∀ t : State, t.heap = H → s.vm.Alike t.vm → XC E s t) (hf : ∀ z ∈ locs, free z.base) (hc : cells ≤ mc) (hs : slots ≤ ms) :
    vx_W p l e R s m args below meth c H locs cells slots (vx_MQ below Qc XC args s mc ms free) (F0 m pc ls rest) q := by
  intro T hT X
  have hpl : e.platform.magicAccessors = ({} : Platform).magicAccessors := by rw [X.admits.platform]
  obtain ⟨vm', hW', X', st⟩ := X.outThrough hlocks q (g := F0 m pc ls rest) rfl rfl rfl (cell := ce) (by rw [hT]; exact hcell) (by rw [hv]; rfl)
    (by obtain ⟨k9, h9, -⟩ := Vm.findClass_spec hcl; exact ⟨k9, h9⟩) (fun z hz => by
      rcases hpass z hz with h | ⟨hz0, nm, hl1, hn1⟩
      · exact Or.inl h
      · obtain ⟨c6, hc6, hcl6⟩ := Cond.classLink_spec hown hl1 e.platform hpl
        obtain ⟨a8, b8, h1, h2, h3⟩ := hn1
        cases Option.some.inj (h1.symm.trans hcl)
        cases Option.some.inj (h2.symm.trans hc6)
        exact Or.inr ⟨hz0, _, hcl6, h3⟩)
  obtain ⟨g₀, hfr⟩ := X'.frames_eq
  have hcell9 : ((T.setVm vm').setFrames (.throwing q :: below)).heap[q]? = some ce := by
    show T.heap[q]? = some ce
    rw [hT]; exact hcell
  have hend : Ended ((T.setVm vm').setFrames (.throwing q :: below)) below (.threw q) := State.frames_setFrames _ (State.cur_lt_of_frames hfr)
  refine ⟨(T.setVm vm').setFrames (.throwing q :: below), ?_, .threw q, X'.here.running, hend, Or.inr ⟨q, rfl, E, ce, locs, hx _ hT (X'.ends _).1.alike, hcell9, hv, hcl, (X'.ends _).1, (X'.ends _).2.mono hc hs, hf⟩⟩
  rw [X.pushThrowing_eq]
  exact st
/-- a thing of a world lies in the heap -/
theorem vx_lt {D : va_G} {cl : List vw_C} {ws : va_W} {H1 : Heap} (h : va_P D cl ws H1) {k : Nat} {q : Nat × va_E} (hk : ws[k]? = some q) : q.1 < H1.size := (h k q hk).lt
end VXS
/-! ===== END ===== -/
/-! ===== BEGIN methods with a table of their own: called by a name, returning or throwing ===== -/
section VXH
/-! vx_backW, vx_callVX, vx_callSX, vx_callVW, vx_runVW, vx_runVX, vx_runSX, vx_ofWH follow the same proofs as their sisters above (Free/Laws.lean, Shelf42/LK1.lean); vx_outP calls Shelf42/NT130.lean (outThrough). -/
section
variable {l : Launch} {R : Room} {p : Program} {e : Env} {below : List Frame} {s : State} {sargs : Array Value} {y : MethodName} {len W9 : Nat}
theorem vx_backW {ws : List Cond} {rm : Room} {Pc : Array Value → State → Prop} {Qc : Array Value → State → Outcome → State → Prop} {XC : String → State → State → Prop} {mc ms : Nat} {free : Addr → Prop} {bytes : ByteArray} {maxL : Nat} {ret : Option FieldType} {hh : List (Nat × Nat × Nat × Nat)}
    (hM : vx_Met l y ws rm Pc Qc XC mc ms free) (hblind : FrameBlind Pc) (hrc : rm.cells = mc) (hrs : rm.slots = ms)
    (hframes : rm.frames + 1 ≤ R.frames) (hlocals : W9 + (maxL + 11) + rm.locals ≤ R.locals)
    (hws : ∀ w ∈ ws, ∀ a' U, s.WarmedH U.vm → w.before a' U = true) (hcode : Cond.codeWith y bytes maxL ret hh ∈ ws) (hinit : ∀ a' U, s.WarmedH U.vm → (Cond.initialized y.cls).before a' U = true) :
    vx_Back l R p e below s sargs y len W9 (PreOf R mc ms Pc) (PostOf Qc mc ms free) (vx_Post XC mc ms free) := by
  intro m meth c A g ig mk a X hg hsize hdg hW hn hp
  have h1 : (headSpec ws rm).pre.before a A.U = true := atoms_intro fun w hw => hws w hw _ _ X.warmed
  have h2 : (Cond.codeWith y bytes maxL ret hh).before a A.U = true := hws _ hcode _ _ X.warmed
  have h3 : (Cond.initialized y.cls).before a A.U = true := hinit _ _ X.warmed
  have h4 : A.cells + (headSpec ws rm).room.cells ≤ R.cells := by rw [show (headSpec ws rm).room.cells = mc from hrc]; exact hp.1
  have h5 : A.slots + (headSpec ws rm).room.slots ≤ R.slots := by rw [show (headSpec ws rm).room.slots = ms from hrs]; exact hp.2.1
  have hPc : Pc a (A.U.calling g mk a) := hblind _ _ _ _ hp.2.2
  obtain ⟨U, Ls, c0, s0⟩ := A
  dsimp only [Pt.U, Pt.locs, Pt.cells, Pt.slots] at h1 h2 h3 h4 h5 X hn hPc ⊢
  obtain ⟨m9, methY, cY, hn9, hmY, hcY, -, hlY, -⟩ := Cond.codeWith_spec h2
  cases Option.some.inj (hn9.symm.trans hn)
  obtain ⟨kY, hkY, -⟩ := className_of_methodNamed hn
  have hinitY : kY.init = .initialized := Cond.initialized_spec (findClass_of_methodNamed hn) hkY h3
  have h : At U g.method c below := by rw [hg]; exact X.here
  have hlocals9 : W9 + (maxL + 11) + (headSpec ws rm).room.locals ≤ R.locals := hlocals
  have happ : (headSpec ws rm).appliesLoose y e.platform (U.calling g mk a) = true :=
    Spec.appliesLoose_calling (g := g) h hdg hn hkY hinitY
      (X.room_calling (g := g) (R' := (headSpec ws rm).room) hsize hmY hcY hframes (by rw [hlY]; omega) h4 h5) h1
  obtain ⟨mid, hmid⟩ := h.above
  have hfr : (U.setTop g).frames = (.java g :: mid) ++ below := by rw [State.frames_setTop' g h.top, hmid]; rfl
  obtain ⟨o, s₂, hsteps, -, hend, hq⟩ := Steps.callFree hM p X.admits X.cas X.clock (acts := []) hfr happ hPc trivial
  have hq' : vx_Q Qc XC mc ms free a (U.calling g mk a) o s₂ := hq
  rw [State.frames_setTop' g h.top] at hend
  obtain ⟨g₀, hg0⟩ := Option.isSome_iff_exists.mp h.top
  obtain ⟨r, hr⟩ := State.topJava?_eq_some.mp hg0
  have hr' : (({ U with heap := s₂.heap, slotsUsed := s₂.slotsUsed } : State).setVm s₂.vm).frames = .java g₀ :: r := hr
  rcases hq' with ⟨hqc, L, hfe, hL⟩ | ⟨q, rfl, E, ce, L, hx, hce, hcv, hcl, hW₂, hsm, hL⟩
  · obtain ⟨⟨v, rfl⟩, hW₂, e2, q2, q3, q4, q5, q6⟩ := id hfe
    have e3 : s₂ = ({ (U.calling g mk a).setFrames s₂.frames with heap := s₂.heap, slotsUsed := s₂.slotsUsed } : State).setVm s₂.vm := by
      have : s₂ = ({ s₂ with vm := (U.calling g mk a).vm } : State).setVm s₂.vm := rfl
      rw [e2] at this
      exact this
    obtain ⟨c₂, i₂, len₂, hc₂, hd₂, hf₂⟩ := hend
    have hW' : U.WarmedH s₂.vm := hW₂
    have hcc : c₂ = c := by
      have h1 : s₂.code? g.method = U.code? g.method := by
        rw [State.code?_eq, State.code?_eq, hW'.alike.method?]
      exact Option.some.inj (hc₂.symm.trans (h1.trans h.code))
    subst hcc
    have hlen : len₂ = len := by rw [hdg] at hd₂; cases hd₂; rfl
    subst hlen
    have hs₂ : s₂ = (({ U with heap := s₂.heap, slotsUsed := s₂.slotsUsed } : State).setVm s₂.vm).setTop { g with pc := g.pc + len₂, stack := v.toList ++ g.stack } := by
      refine e3.trans ?_
      rw [hf₂, State.calling_eq h.top, State.setFrames_setFrames, State.setTop_of_frames _ hr', hr]
      rfl
    have hsame : U.sameButNew ({ U with heap := s₂.heap, slotsUsed := s₂.slotsUsed } : State) L mc ms := by
      refine ⟨?_, q2, q3, q4, q5, q6⟩
      obtain ⟨t, ht, -⟩ := State.frames_cons hr
      show ({ U with heap := s₂.heap, slotsUsed := s₂.slotsUsed } : State) = { U.setFrames U.frames with heap := s₂.heap, slotsUsed := s₂.slotsUsed }
      rw [State.setFrames_self ht]
    subst hg
    refine Or.inl ⟨v, ⟨(({ U with heap := s₂.heap, slotsUsed := s₂.slotsUsed } : State).setVm s₂.vm), Ls ++ L, c0 + mc, s0 + ms⟩,
      ⟨X.admits, X.cas, X.clock, X.frames, X.room, X.hears, X.method, X.code, (X.here.setHeapUsed s₂.heap s₂.slotsUsed).setVm hW'.alike, X.tail, State.WarmedH.trans X.warmed hW', X.limits, X.bytes, X.same.trans (hsame.setVm s.vm)⟩,
      ⟨g, mk, s₂, L, rfl, rfl, hqc, rfl, hL, rfl, rfl⟩, ?_⟩
    show Steps p.tables e below _ ((({ U with heap := s₂.heap, slotsUsed := s₂.slotsUsed } : State).setVm s₂.vm).setTop { g with pc := g.pc + len₂, stack := v.toList ++ g.stack })
    rw [← hs₂]
    exact hsteps
  · obtain ⟨e2, q2, q3, q4, q5, q6⟩ := id hsm
    have e3 : s₂ = ({ (U.calling g mk a).setFrames s₂.frames with heap := s₂.heap, slotsUsed := s₂.slotsUsed } : State).setVm s₂.vm := by
      have : s₂ = ({ s₂ with vm := (U.calling g mk a).vm } : State).setVm s₂.vm := rfl
      rw [e2] at this
      exact this
    have hf₂ : s₂.frames = .throwing q :: .java g :: U.frames.tail := hend
    have hW' : U.WarmedH s₂.vm := hW₂
    have hs₂ : s₂ = ((({ U with heap := s₂.heap, slotsUsed := s₂.slotsUsed } : State).setVm s₂.vm).setTop g).pushFrame (.throwing q) := by
      refine e3.trans ?_
      rw [hf₂, State.calling_eq h.top, State.setFrames_setFrames, State.pushFrame, State.frames_setTop _ hr', State.setTop_of_frames _ hr', State.setFrames_setFrames, hr]
      rfl
    have hsame : U.sameButNew ({ U with heap := s₂.heap, slotsUsed := s₂.slotsUsed } : State) L mc ms := by
      refine ⟨?_, q2, q3, q4, q5, q6⟩
      obtain ⟨t, ht, -⟩ := State.frames_cons hr
      show ({ U with heap := s₂.heap, slotsUsed := s₂.slotsUsed } : State) = { U.setFrames U.frames with heap := s₂.heap, slotsUsed := s₂.slotsUsed }
      rw [State.setFrames_self ht]
    subst hg
    refine Or.inr ⟨q, ⟨(({ U with heap := s₂.heap, slotsUsed := s₂.slotsUsed } : State).setVm s₂.vm), Ls ++ L, c0 + mc, s0 + ms⟩,
      ⟨X.admits, X.cas, X.clock, X.frames, X.room, X.hears, X.method, X.code, (X.here.setHeapUsed s₂.heap s₂.slotsUsed).setVm hW'.alike, X.tail, State.WarmedH.trans X.warmed hW', X.limits, X.bytes, X.same.trans (hsame.setVm s.vm)⟩,
      ⟨g, mk, s₂, L, E, ce, rfl, rfl, hx, hce, hcv, hcl, rfl, hL, rfl, rfl⟩, ?_⟩
    show Steps p.tables e below _ (((({ U with heap := s₂.heap, slotsUsed := s₂.slotsUsed } : State).setVm s₂.vm).setTop g).pushFrame (.throwing q))
    rw [← hs₂]
    exact hsteps
end
variable {p : Program} {l : Launch} {e : Env} {R : Room} {s : State} {m : MethodId} {args : Array Value} {below : List Frame} {meth : Method} {c : Code} {T : State} {H : Heap} {locs : List Loc} {cells slots : Nat}
theorem vx_callVX (X : Stand p l e R s m args below meth c T locs cells slots) (hexec : p.tables.exec = Jvm.exec) {own C : String} {index : Nat} {y : MethodName} {bytes : ByteArray} {maxL : Nat} {ret : Option FieldType} {hh : List (Nat × Nat × Nat × Nat)}
    (hown : s.vm.findClass own = some m.cls) (hlink : (Cond.methodLink own index y).before args s = true) (hinst : (Cond.instanceMethod y).before args s = true) (hsel : (Cond.selects C y y).before args s = true)
    (hcode : (Cond.codeWith y bytes maxL ret hh).before args s = true) (hy : y.cls ≠ "java/lang/invoke/MethodHandle" ∧ y.cls ≠ "java/lang/invoke/VarHandle")
    {W9 : Nat} {Pre : Pt → Array Value → Prop} {Post : Pt → Array Value → Option Value → Pt → Prop} {PostX : Pt → Array Value → Addr → Pt → Prop} (hK : vx_Back l R p e below s args y 3 W9 Pre Post PostX)
    {b : Addr} {cellB : Cell} (hcell : T.heap[b]? = some cellB) (hobj : cellB.vm.isStatics = false) (hcls : s.vm.findClass C = some cellB.cls)
    {g : JFrame} (hg : g.method = m) (hsize : g.locals.size = c.maxLocals) {argsL rest : List Value} (hlen : ∀ sig, parseMethodDescriptor y.desc = some sig → argsL.length = sig.parameters.length)
    (hstack : g.stack = argsL.reverse ++ .ref b :: rest) (hW : 2 * g.monitorRoom + (rest.map fun v => v.category).sum ≤ W9) (hdg : decode c.code g.pc = .ok (.invokevirtual index, 3))
    (hpre : ∀ vm₁, s.WarmedH vm₁ → Pre ⟨T.setVm vm₁, locs, cells, slots⟩ (Value.ref b :: argsL).toArray) :
    (∃ (v : Option Value) (vm₁ : Vm) (B : Pt), s.WarmedH vm₁ ∧ Stand p l e R s m args below meth c B.U B.locs B.cells B.slots ∧ Post ⟨T.setVm vm₁, locs, cells, slots⟩ (Value.ref b :: argsL).toArray v B ∧
      ∀ target, Steps p.tables e below (B.U.setTop { g with pc := g.pc + 3, stack := v.toList ++ rest }) target → Steps p.tables e below (T.setTop g) target) ∨
    (∃ (q : Addr) (vm₁ : Vm) (B : Pt), s.WarmedH vm₁ ∧ Stand p l e R s m args below meth c B.U B.locs B.cells B.slots ∧ PostX ⟨T.setVm vm₁, locs, cells, slots⟩ (Value.ref b :: argsL).toArray q B ∧
      Steps p.tables e below (T.setTop g) ((B.U.setTop { g with stack := rest }).pushFrame (.throwing q))) := by
  obtain ⟨mk, methM, hnamed, hmethM, hstM, habM⟩ := Cond.instanceMethod_spec hinst
  obtain ⟨m8, methM', cM, hn8, hmethM', -, -, -, -, -, -, hsigM⟩ := Cond.codeWith_spec hcode
  cases Option.some.inj (hn8.symm.trans hnamed)
  cases hmethM.symm.trans hmethM'
  obtain ⟨c2, r2, m2, q1, q2, q3, q4, kP, hkP, hkPi⟩ := Cond.selects_spec hsel
  cases hcls.symm.trans q1
  cases (State.methodFound?_of_named hnamed hy).symm.trans q2
  cases hnamed.symm.trans q3
  have hselP : selectMethod e.platform s.vm cellB.cls mk = .method mk := by rw [Launch.admits_selectMethod X.admits]; exact q4
  obtain ⟨vm₁, X₁, hstep₁⟩ := X.invokevirtual hexec hown hlink hnamed hmethM hstM hkP hkPi hy (a := b) (cell := cellB) hcell
    (fun z h => by rw [h] at hobj; cases hobj) hselP hmethM habM hkP hkPi (g := g) hg (argsL := argsL) (rest := rest) (hlen _ hsigM) hstack hdg
  rcases hK m meth c ⟨T.setVm vm₁, locs, cells, slots⟩ { g with stack := rest } (.invokevirtual index) mk (Value.ref b :: argsL).toArray X₁ hg hsize hdg hW (X₁.named hnamed) (hpre vm₁ X₁.warmed) with ⟨v, B, X', hpost, hsteps⟩ | ⟨q, B, X', hpost, hsteps⟩
  · exact Or.inl ⟨v, vm₁, B, X₁.warmed, X', hpost, fun target h => hstep₁ _ fun acts => by rw [doInvoke_state]; exact hsteps.trans h⟩
  · exact Or.inr ⟨q, vm₁, B, X₁.warmed, X', hpost, hstep₁ _ fun acts => by rw [doInvoke_state]; exact hsteps⟩
theorem vx_callSX (X : Stand p l e R s m args below meth c T locs cells slots) (hexec : p.tables.exec = Jvm.exec) {own : String} {index : Nat} {y : MethodName} {bytes : ByteArray} {maxL : Nat} {ret : Option FieldType} {hh : List (Nat × Nat × Nat × Nat)}
    (hown : s.vm.findClass own = some m.cls) (hlink : (Cond.methodLink own index y).before args s = true) (hstat : (Cond.static y).before args s = true) (hinit : (Cond.initialized y.cls).before args s = true)
    (hcode : (Cond.codeWith y bytes maxL ret hh).before args s = true) (hy : y.cls ≠ "java/lang/invoke/MethodHandle" ∧ y.cls ≠ "java/lang/invoke/VarHandle")
    {W9 : Nat} {Pre : Pt → Array Value → Prop} {Post : Pt → Array Value → Option Value → Pt → Prop} {PostX : Pt → Array Value → Addr → Pt → Prop} (hK : vx_Back l R p e below s args y 3 W9 Pre Post PostX)
    {g : JFrame} (hg : g.method = m) (hsize : g.locals.size = c.maxLocals) {argsL rest : List Value} (hlen : ∀ sig, parseMethodDescriptor y.desc = some sig → argsL.length = sig.parameters.length)
    (hstack : g.stack = argsL.reverse ++ rest) (hW : 2 * g.monitorRoom + (rest.map fun v => v.category).sum ≤ W9) (hdg : decode c.code g.pc = .ok (.invokestatic index, 3))
    (hpre : ∀ vm₁, s.WarmedH vm₁ → Pre ⟨T.setVm vm₁, locs, cells, slots⟩ argsL.toArray) :
    (∃ (v : Option Value) (vm₁ : Vm) (B : Pt), s.WarmedH vm₁ ∧ Stand p l e R s m args below meth c B.U B.locs B.cells B.slots ∧ Post ⟨T.setVm vm₁, locs, cells, slots⟩ argsL.toArray v B ∧
      ∀ target, Steps p.tables e below (B.U.setTop { g with pc := g.pc + 3, stack := v.toList ++ rest }) target → Steps p.tables e below (T.setTop g) target) ∨
    (∃ (q : Addr) (vm₁ : Vm) (B : Pt), s.WarmedH vm₁ ∧ Stand p l e R s m args below meth c B.U B.locs B.cells B.slots ∧ PostX ⟨T.setVm vm₁, locs, cells, slots⟩ argsL.toArray q B ∧
      Steps p.tables e below (T.setTop g) ((B.U.setTop { g with stack := rest }).pushFrame (.throwing q))) := by
  obtain ⟨mk, methM, cM, hnamed, hmethM, -, -, -, -, -, -, hsigM⟩ := Cond.codeWith_spec hcode
  have hstatic : methM.isStatic = true := Cond.static_spec hnamed hmethM hstat
  obtain ⟨kP, hkP, -⟩ := className_of_methodNamed hnamed
  have hinitP : kP.init = .initialized := Cond.initialized_spec (findClass_of_methodNamed hnamed) hkP hinit
  obtain ⟨vm₁, X₁, hstep₁⟩ := X.invokestatic hexec hown hlink hnamed hmethM hstatic hkP hinitP hy (g := g) hg (argsL := argsL) (rest := rest) (hlen _ hsigM) hstack hdg
  rcases hK m meth c ⟨T.setVm vm₁, locs, cells, slots⟩ { g with stack := rest } (.invokestatic index) mk argsL.toArray X₁ hg hsize hdg hW (X₁.named hnamed) (hpre vm₁ X₁.warmed) with ⟨v, B, X', hpost, hsteps⟩ | ⟨q, B, X', hpost, hsteps⟩
  · exact Or.inl ⟨v, vm₁, B, X₁.warmed, X', hpost, fun target h => hstep₁ _ fun acts => by rw [doInvoke_state]; exact hsteps.trans h⟩
  · exact Or.inr ⟨q, vm₁, B, X₁.warmed, X', hpost, hstep₁ _ fun acts => by rw [doInvoke_state]; exact hsteps⟩
theorem vx_callVW (X : Stand p l e R s m args below meth c T locs cells slots) (hexec : p.tables.exec = Jvm.exec) {own C : String} {index : Nat} {y : MethodName} {bytes : ByteArray} {maxL : Nat} {ret : Option FieldType} {hh : List (Nat × Nat × Nat × Nat)}
    (hown : s.vm.findClass own = some m.cls) (hlink : (Cond.methodLink own index y).before args s = true) (hinst : (Cond.instanceMethod y).before args s = true) (hsel : (Cond.selects C y y).before args s = true)
    (hcode : (Cond.codeWith y bytes maxL ret hh).before args s = true) (hy : y.cls ≠ "java/lang/invoke/MethodHandle" ∧ y.cls ≠ "java/lang/invoke/VarHandle")
    {W9 : Nat} {Pre : Pt → Array Value → Prop} {Post : Pt → Array Value → Option Value → Pt → Prop} (hK : Back l R p e below s args y 3 W9 Pre Post)
    {b : Addr} {cellB : Cell} (hcell : T.heap[b]? = some cellB) (hobj : cellB.vm.isStatics = false) (hcls : s.vm.findClass C = some cellB.cls)
    {g : JFrame} (hg : g.method = m) (hsize : g.locals.size = c.maxLocals) {argsL rest : List Value} (hlen : ∀ sig, parseMethodDescriptor y.desc = some sig → argsL.length = sig.parameters.length)
    (hstack : g.stack = argsL.reverse ++ .ref b :: rest) (hW : 2 * g.monitorRoom + (rest.map fun v => v.category).sum ≤ W9) (hdg : decode c.code g.pc = .ok (.invokevirtual index, 3))
    (hpre : ∀ vm₁, s.WarmedH vm₁ → Pre ⟨T.setVm vm₁, locs, cells, slots⟩ (Value.ref b :: argsL).toArray) :
    ∃ (v : Option Value) (vm₁ : Vm) (B : Pt), s.WarmedH vm₁ ∧ Stand p l e R s m args below meth c B.U B.locs B.cells B.slots ∧ Post ⟨T.setVm vm₁, locs, cells, slots⟩ (Value.ref b :: argsL).toArray v B ∧
      ∀ target, Steps p.tables e below (B.U.setTop { g with pc := g.pc + 3, stack := v.toList ++ rest }) target → Steps p.tables e below (T.setTop g) target := by
  obtain ⟨mk, methM, hnamed, hmethM, hstM, habM⟩ := Cond.instanceMethod_spec hinst
  obtain ⟨m8, methM', cM, hn8, hmethM', -, -, -, -, -, -, hsigM⟩ := Cond.codeWith_spec hcode
  cases Option.some.inj (hn8.symm.trans hnamed)
  cases hmethM.symm.trans hmethM'
  obtain ⟨c2, r2, m2, q1, q2, q3, q4, kP, hkP, hkPi⟩ := Cond.selects_spec hsel
  cases hcls.symm.trans q1
  cases (State.methodFound?_of_named hnamed hy).symm.trans q2
  cases hnamed.symm.trans q3
  have hselP : selectMethod e.platform s.vm cellB.cls mk = .method mk := by rw [Launch.admits_selectMethod X.admits]; exact q4
  obtain ⟨vm₁, X₁, hstep₁⟩ := X.invokevirtual hexec hown hlink hnamed hmethM hstM hkP hkPi hy (a := b) (cell := cellB) hcell
    (fun z h => by rw [h] at hobj; cases hobj) hselP hmethM habM hkP hkPi (g := g) hg (argsL := argsL) (rest := rest) (hlen _ hsigM) hstack hdg
  obtain ⟨v, B, X', hpost, hsteps⟩ := hK m meth c ⟨T.setVm vm₁, locs, cells, slots⟩ { g with stack := rest } (.invokevirtual index) mk (Value.ref b :: argsL).toArray X₁ hg hsize hdg hW (X₁.named hnamed) (hpre vm₁ X₁.warmed)
  exact ⟨v, vm₁, B, X₁.warmed, X', hpost, fun target h => hstep₁ _ fun acts => by rw [doInvoke_state]; exact hsteps.trans h⟩
abbrev vx_CVW (R : Room) (s : State) (args : Array Value) (own C : String) (index : Nat) (y : MethodName) (bytes : ByteArray) (maxL : Nat) (ret : Option FieldType) (hh : List (Nat × Nat × Nat × Nat)) (ws : List Cond) (rm : Room) (mc ms n : Nat) : Prop :=
  (rm.cells = mc ∧ rm.slots = ms ∧ rm.frames + 1 ≤ R.frames ∧ 8 + (maxL + 11) + rm.locals ≤ R.locals ∧ (∀ w ∈ ws, ∀ (a' : Array Value) (U : State), s.WarmedH U.vm → w.before a' U = true) ∧ Cond.codeWith y bytes maxL ret hh ∈ ws) ∧
  (Cond.codeWith y bytes maxL ret hh).before args s = true ∧ (Cond.initialized y.cls).before args s = true ∧ (y.cls ≠ "java/lang/invoke/MethodHandle" ∧ y.cls ≠ "java/lang/invoke/VarHandle") ∧
  (∀ sig, parseMethodDescriptor y.desc = some sig → n = sig.parameters.length) ∧ (Cond.methodLink own index y).before args s = true ∧ (Cond.instanceMethod y).before args s = true ∧ (Cond.selects C y y).before args s = true
theorem vx_cwVW {own C : String} {index maxL mc ms : Nat} {y : MethodName} {bytes : ByteArray} {ret : Option FieldType} {hh : List (Nat × Nat × Nat × Nat)} {Ts ws ws' : List Cond} {rm : Room} (n : Nat) (ht : ∀ w ∈ Ts, w.before args s = true) (hT : GoodIn Ts (wsV own index C y ws)) (hw : ws = Cond.codeWith y bytes maxL ret hh :: ws') (hrc : rm.cells = mc) (hrs : rm.slots = ms)
    (hd : y.cls = C ∧ y.cls ≠ "java/lang/invoke/MethodHandle" ∧ y.cls ≠ "java/lang/invoke/VarHandle" ∧ (parseMethodDescriptor y.desc).map (fun d => d.parameters.length) = some n) (hR : rm.frames + 1 ≤ R.frames ∧ 8 + (maxL + 11) + rm.locals ≤ R.locals) :
    vx_CVW R s args own C index y bytes maxL ret hh ws rm mc ms n := by
  obtain ⟨hC, hd⟩ := hd
  subst hC
  have ok : ∀ w ∈ wsV own index y.cls y ws, w.before args s = true := fun w h => ht w (hT w h).1
  have hG : GoodIn Ts ws := fun w h => hT w (by unfold wsV; exact List.mem_append_right _ h)
  have hc : Cond.codeWith y bytes maxL ret hh ∈ ws := by rw [hw]; exact List.mem_cons_self
  refine ⟨⟨hrc, hrs, hR.1, hR.2, pay_in ht hG, hc⟩, ht _ (hG _ hc).1, ok _ (by simp [wsV]), ⟨hd.1, hd.2.1⟩, fun sig h => ?_, ok _ (by simp [wsV]), ok _ (by simp [wsV]), ok _ (by simp [wsV])⟩
  have h2 := hd.2.2
  rw [h] at h2
  exact (Option.some.inj h2).symm
theorem vx_runVW {y : MethodName} {bytes cc : ByteArray} {maxL nL mc ms n index : Nat} {ret : Option FieldType} {hh : List (Nat × Nat × Nat × Nat)} {ws : List Cond} {rm : Room} {Pc : Array Value → State → Prop} {Qc : Array Value → State → Outcome → State → Prop} {free : Addr → Prop} {Ts : List Cond} {own C : String} {b : Addr} {As rest : List Value} {g : JFrame}
    (S : CallFix p m c cc nL s args Ts own) (hM : Met l y ws rm Pc Qc mc ms free) (cw : vx_CVW R s args own C index y bytes maxL ret hh ws rm mc ms n) (hp : PreV s H C b Pc As)
    (hg : g.method = m) (hn : As.length = n) (hsize : g.locals.size = nL) (hstack : g.stack = As.reverse ++ .ref b :: rest) (hW : 2 * g.monitorRoom + (rest.map fun v => v.category).sum ≤ 8) (hdg : decode cc g.pc = .ok (.invokevirtual index, 3)) (hf : cells + mc ≤ R.cells ∧ slots + ms ≤ R.slots) :
    va_Run p l e R s m args below meth c H locs cells slots mc ms g rest (Qc (Value.ref b :: As).toArray) free := by
  obtain ⟨⟨hrc, hrs, hfr, hlo, hws, hcw⟩, hcode, hini, hy, hlen, hl, hin, hse⟩ := cw
  have hK : Back l R p e below s args y 3 8 (PreOf R mc ms Pc) (PostOf Qc mc ms free) := va_backW (hh := hh) (bytes := bytes) (maxL := maxL) (ret := ret) hM hp.1 hrc hrs hfr hlo hws hcw (fun a' U hW => word_at hW (Or.inl (by first | rfl | simp [Cond.onTables, Cond.keeps, Cond.steady])) hini)
  obtain ⟨hx, hb, hml, ho, -⟩ := S
  obtain ⟨-, ⟨cellB, hcB, hoB, hclB⟩, hPc⟩ := hp
  intro T hT X
  obtain ⟨v, vm₁, ⟨U', l2, c2, s2⟩, hW₁, X', ⟨g', mk, t, L, e1, e2, hq, h1, hL, h2, h3⟩, st⟩ := vx_callVW X hx (C := C) (hh := hh) (bytes := bytes) (maxL := maxL) (ret := ret) ho hl hin hse hcode hy hK (by rw [hT]; exact hcB) hoB hclB hg (hsize.trans hml.symm) (argsL := As) (rest := rest) (fun sig h => hn.trans (hlen sig h)) hstack hW (by rw [hb]; exact hdg)
    (fun vm₁ hW₁ => ⟨hf.1, hf.2, hPc (T.setVm vm₁) hT hW₁⟩)
  dsimp only [Pt.U, Pt.locs, Pt.cells, Pt.slots] at X' e1 e2 h1 h2 h3 st
  subst h1; subst h2; subst h3
  exact ⟨v, (T.setVm vm₁).calling g' mk (Value.ref b :: As).toArray, t, U', L, hT, X', hL, e1, e2, hq, st⟩
section
variable {y : MethodName} {bytes cc : ByteArray} {maxL nL mc ms n index : Nat} {ret : Option FieldType} {ws : List Cond} {rm : Room} {Pc : Array Value → State → Prop} {Qc : Array Value → State → Outcome → State → Prop} {XC : String → State → State → Prop} {free : Addr → Prop} {Ts : List Cond} {own C : String} {b : Addr} {As rest : List Value} {g : JFrame}
theorem vx_runVX {hh : List (Nat × Nat × Nat × Nat)} (S : CallFix p m c cc nL s args Ts own) (hM : vx_Met l y ws rm Pc Qc XC mc ms free) (cw : vx_CVW R s args own C index y bytes maxL ret hh ws rm mc ms n) (hp : PreV s H C b Pc As)
    (hg : g.method = m) (hn : As.length = n) (hsize : g.locals.size = nL) (hstack : g.stack = As.reverse ++ .ref b :: rest) (hW : 2 * g.monitorRoom + (rest.map fun v => v.category).sum ≤ 8) (hdg : decode cc g.pc = .ok (.invokevirtual index, 3)) (hf : cells + mc ≤ R.cells ∧ slots + ms ≤ R.slots) :
    vx_Run p l e R s m args below meth c H locs cells slots mc ms g rest (Qc (Value.ref b :: As).toArray) XC free := by
  obtain ⟨⟨hrc, hrs, hfr, hlo, hws, hcw⟩, hcode, hini, hy, hlen, hl, hin, hse⟩ := cw
  have hK : vx_Back l R p e below s args y 3 8 (PreOf R mc ms Pc) (PostOf Qc mc ms free) (vx_Post XC mc ms free) := vx_backW (hh := hh) (bytes := bytes) (maxL := maxL) (ret := ret) hM hp.1 hrc hrs hfr hlo hws hcw (fun a' U hW => word_at hW (Or.inl (by first | rfl | simp [Cond.onTables, Cond.keeps, Cond.steady])) hini)
  obtain ⟨hx, hb, hml, ho, -⟩ := S
  obtain ⟨-, ⟨cellB, hcB, hoB, hclB⟩, hPc⟩ := hp
  intro T hT X
  rcases vx_callVX X hx (C := C) (hh := hh) (bytes := bytes) (maxL := maxL) (ret := ret) ho hl hin hse hcode hy hK (by rw [hT]; exact hcB) hoB hclB hg (hsize.trans hml.symm) (argsL := As) (rest := rest) (fun sig h => hn.trans (hlen sig h)) hstack hW (by rw [hb]; exact hdg)
    (fun vm₁ hW₁ => ⟨hf.1, hf.2, hPc (T.setVm vm₁) hT hW₁⟩) with ⟨v, vm₁, ⟨U', l2, c2, s2⟩, hW₁, X', ⟨g', mk, t, L, e1, e2, hq, h1, hL, h2, h3⟩, st⟩ | ⟨q, vm₁, ⟨U', l2, c2, s2⟩, hW₁, X', ⟨g', mk, t, L, E, ce, e1, e2, hq, hce, hcv, hcl, h1, hL, h2, h3⟩, st⟩
  · dsimp only [Pt.U, Pt.locs, Pt.cells, Pt.slots] at X' e1 e2 h1 h2 h3 st
    subst h1; subst h2; subst h3
    exact Or.inl ⟨v, (T.setVm vm₁).calling g' mk (Value.ref b :: As).toArray, t, U', L, hT, X', hL, e1, e2, hq, st⟩
  · dsimp only [Pt.U, Pt.locs, Pt.cells, Pt.slots] at X' e1 e2 h1 h2 h3 st hcl
    subst h1; subst h2; subst h3
    exact Or.inr ⟨q, (T.setVm vm₁).calling g' mk (Value.ref b :: As).toArray, t, U', L, E, ce, hT, X', hL, e1, e2, hq, hce, hcv, vx_cls hW₁ hcl, st⟩
theorem vx_runSX {hh : List (Nat × Nat × Nat × Nat)} (S : CallFix p m c cc nL s args Ts own) (hM : vx_Met l y ws rm Pc Qc XC mc ms free) (cw : vx_CSW R s args own index y bytes maxL ret hh ws rm mc ms n) (hp : PreS s H Pc As)
    (hg : g.method = m) (hn : As.length = n) (hsize : g.locals.size = nL) (hstack : g.stack = As.reverse ++ rest) (hW : 2 * g.monitorRoom + (rest.map fun v => v.category).sum ≤ 8) (hdg : decode cc g.pc = .ok (.invokestatic index, 3)) (hf : cells + mc ≤ R.cells ∧ slots + ms ≤ R.slots) :
    vx_Run p l e R s m args below meth c H locs cells slots mc ms g rest (Qc As.toArray) XC free := by
  obtain ⟨⟨hrc, hrs, hfr, hlo, hws, hcw⟩, hcode, hini, hy, hlen, hl, hstt⟩ := cw
  have hK : vx_Back l R p e below s args y 3 8 (PreOf R mc ms Pc) (PostOf Qc mc ms free) (vx_Post XC mc ms free) := vx_backW (hh := hh) (bytes := bytes) (maxL := maxL) (ret := ret) hM hp.1 hrc hrs hfr hlo hws hcw (fun a' U hW => word_at hW (Or.inl (by first | rfl | simp [Cond.onTables, Cond.keeps, Cond.steady])) hini)
  obtain ⟨hx, hb, hml, ho, -⟩ := S
  intro T hT X
  rcases vx_callSX X hx (hh := hh) (bytes := bytes) (maxL := maxL) (ret := ret) ho hl hstt hini hcode hy hK hg (hsize.trans hml.symm) (argsL := As) (rest := rest) (fun sig h => hn.trans (hlen sig h)) hstack hW (by rw [hb]; exact hdg)
    (fun vm₁ hW₁ => ⟨hf.1, hf.2, hp.2 (T.setVm vm₁) hT hW₁⟩) with ⟨v, vm₁, ⟨U', l2, c2, s2⟩, hW₁, X', ⟨g', mk, t, L, e1, e2, hq, h1, hL, h2, h3⟩, st⟩ | ⟨q, vm₁, ⟨U', l2, c2, s2⟩, hW₁, X', ⟨g', mk, t, L, E, ce, e1, e2, hq, hce, hcv, hcl, h1, hL, h2, h3⟩, st⟩
  · dsimp only [Pt.U, Pt.locs, Pt.cells, Pt.slots] at X' e1 e2 h1 h2 h3 st
    subst h1; subst h2; subst h3
    exact Or.inl ⟨v, (T.setVm vm₁).calling g' mk As.toArray, t, U', L, hT, X', hL, e1, e2, hq, st⟩
  · dsimp only [Pt.U, Pt.locs, Pt.cells, Pt.slots] at X' e1 e2 h1 h2 h3 st hcl
    subst h1; subst h2; subst h3
    exact Or.inr ⟨q, (T.setVm vm₁).calling g' mk As.toArray, t, U', L, E, ce, hT, X', hL, e1, e2, hq, hce, hcv, vx_cls hW₁ hcl, st⟩
end
end VXH
theorem vx_ofWH {l : Launch} {y : MethodName} {ws ws' : List Cond} {rm : Room} {Pc : Array Value → State → Prop} {Qc : Array Value → State → Outcome → State → Prop} {XC : String → State → State → Prop} {mc ms : Nat} {free : Addr → Prop} {cc : ByteArray} {maxL : Nat} {ret : Option FieldType} {hh : List (Nat × Nat × Nat × Nat)}
    (hy : plainName y.cls = true) (hw : ws = Cond.codeWith y cc maxL ret hh :: ws')
    (body : ∀ p e s m args below meth c s₁, BodyLoose p l y (headSpec ws rm) cc maxL ret e s m args below meth c s₁ → c.maxLocals = maxL → Pc args s →
      W p l e (headSpec ws rm).room s m args below meth c s.heap [] 0 0 (vx_MQ below Qc XC args s mc ms free) (entryFrame m args maxL)) : vx_Met l y ws rm Pc Qc XC mc ms free := by
  refine MetFree.of_bodyS (code := cc) (maxLocals := maxL) (ret := ret) hy ?_ ?_
  · intro args s m h hn
    obtain ⟨m9, meth, c, hn9, h1, h2, h3, h4, -, h5, h6, -⟩ := Cond.codeWith_spec (atoms_spec (ws := ws) h _ (by rw [hw]; exact List.mem_cons_self))
    cases hn.symm.trans hn9
    exact ⟨meth, c, h1, h2, h3, h4, h5, h6⟩
  · intro p e s m args below meth c s₁ B hml hP _
    have hh0 : s₁.heap = s.heap := by rw [B.state]; rfl
    obtain ⟨t, a1, o, b1, b2, b3⟩ := body p e s m args below meth c s₁ B hml hP s₁ hh0 (Stand.of_body B)
    exact ⟨t, o, a1, b1, b2, b3⟩
/-! ===== END ===== -/
end
section
/-! ===== BEGIN printed: names, fields, word lists, decode rows ===== -/
def RX0 : String := "BorderHouse$Consignment"
def TX0 : u_T := fun k => match k with
  | 0 => ("BorderHouse$Consignment", "trader", "I", true)
  | 1 => ("BorderHouse$Consignment", "sealNumber", "I", true)
  | 2 => ("BorderHouse$Consignment", "declared", "[I", true)
  | 3 => ("BorderHouse$Consignment", "dutyTakenDown", "[I", true)
  | 4 => ("BorderHouse$Consignment", "goods", "[I", true)
  | 5 => ("BorderHouse$Consignment", "stage", "I", false)
  | 6 => ("BorderHouse$Consignment", "version", "I", false)
  | 7 => ("BorderHouse$Consignment", "papers", "I", false)
  | 8 => ("BorderHouse$Consignment", "sortsSearched", "I", false)
  | 9 => ("BorderHouse$Consignment", "unitsLeft", "I", false)
  | 10 => ("BorderHouse$Consignment", "sealBroken", "Z", false)
  | _ => ("BorderHouse$Consignment", "isSample", "Z", false)
def tyX0 : Nat → FieldType := fun k => match k with
  | 0 => .int
  | 1 => .int
  | 2 => .array .int
  | 3 => .array .int
  | 4 => .array .int
  | 5 => .int
  | 6 => .int
  | 7 => .int
  | 8 => .int
  | 9 => .int
  | 10 => .boolean
  | _ => .boolean
abbrev wsX00 : List Cond := u_ws RX0 TX0 12
theorem nmX0 : ∀ a, a < 12 → ∀ b, b < 12 → a ≠ b → (TX0 a).2.1 ≠ (TX0 b).2.1 := by decide +kernel
theorem tyX0_ok : ∀ k, k < 12 → parseFieldDescriptor (TX0 k).2.2.1 = some (tyX0 k) := by decide +kernel
abbrev cX0_init : ByteArray := prog_2_method_1_code
def yX0_init : MethodName := ⟨RX0, "<init>", "(II)V"⟩
abbrev cX0_totalDeclared : ByteArray := prog_2_method_2_code
def yX0_totalDeclared : MethodName := ⟨RX0, "totalDeclared", "()I"⟩
abbrev cX0_wasSearched : ByteArray := prog_2_method_3_code
def yX0_wasSearched : MethodName := ⟨RX0, "wasSearched", "()Z"⟩
abbrev cX0_noteSearch : ByteArray := prog_2_method_4_code
def yX0_noteSearch : MethodName := ⟨RX0, "noteSearch", "(II)V"⟩
abbrev cX0_enterStore : ByteArray := prog_2_method_5_code
def yX0_enterStore : MethodName := ⟨RX0, "enterStore", "(I[I)V"⟩
def RX1 : String := "BorderHouse"
def TX1 : u_T := fun k => match k with
  | 0 => ("BorderHouse", "dutyOfSort", "[I", true)
  | 1 => ("BorderHouse", "weightOfSort", "[I", true)
  | 2 => ("BorderHouse", "guaranteeOfTrader", "[I", true)
  | 3 => ("BorderHouse", "heldOfTrader", "[I", true)
  | 4 => ("BorderHouse", "paidByTrader", "[I", true)
  | 5 => ("BorderHouse", "consignments", "[LBorderHouse$Consignment;", true)
  | 6 => ("BorderHouse", "announced", "I", false)
  | 7 => ("BorderHouse", "arrivals", "I", false)
  | 8 => ("BorderHouse", "searchMark", "I", false)
  | _ => ("BorderHouse", "sampleStep", "I", false)
def tyX1 : Nat → FieldType := fun k => match k with
  | 0 => .array .int
  | 1 => .array .int
  | 2 => .array .int
  | 3 => .array .int
  | 4 => .array .int
  | 5 => .array (.object "BorderHouse$Consignment")
  | 6 => .int
  | 7 => .int
  | 8 => .int
  | _ => .int
abbrev wsX10 : List Cond := u_ws RX1 TX1 10
theorem nmX1 : ∀ a, a < 10 → ∀ b, b < 10 → a ≠ b → (TX1 a).2.1 ≠ (TX1 b).2.1 := by decide +kernel
theorem tyX1_ok : ∀ k, k < 10 → parseFieldDescriptor (TX1 k).2.2.1 = some (tyX1 k) := by decide +kernel
abbrev cX1_init : ByteArray := prog_1_method_1_code
def yX1_init : MethodName := ⟨RX1, "<init>", "()V"⟩
abbrev cX1_setSort : ByteArray := prog_1_method_2_code
def yX1_setSort : MethodName := ⟨RX1, "setSort", "(III)V"⟩
abbrev cX1_setRisk : ByteArray := prog_1_method_3_code
def yX1_setRisk : MethodName := ⟨RX1, "setRisk", "(II)I"⟩
abbrev cX1_setGuarantee : ByteArray := prog_1_method_4_code
def yX1_setGuarantee : MethodName := ⟨RX1, "setGuarantee", "(II)I"⟩
abbrev cX1_announce : ByteArray := prog_1_method_5_code
def yX1_announce : MethodName := ⟨RX1, "announce", "(II)I"⟩
abbrev cX1_amend : ByteArray := prog_1_method_6_code
def yX1_amend : MethodName := ⟨RX1, "amend", "(III)I"⟩
abbrev cX1_arrive : ByteArray := prog_1_method_7_code
def yX1_arrive : MethodName := ⟨RX1, "arrive", "(II)Z"⟩
abbrev cX1_risk : ByteArray := prog_1_method_8_code
def yX1_risk : MethodName := ⟨RX1, "risk", "(I)I"⟩
abbrev cX1_mustSearch : ByteArray := prog_1_method_9_code
def yX1_mustSearch : MethodName := ⟨RX1, "mustSearch", "(I)Z"⟩
abbrev cX1_search : ByteArray := prog_1_method_10_code
def yX1_search : MethodName := ⟨RX1, "search", "(III)I"⟩
abbrev cX1_bond : ByteArray := prog_1_method_11_code
def yX1_bond : MethodName := ⟨RX1, "bond", "(II)I"⟩
abbrev cX1_move : ByteArray := prog_1_method_12_code
def yX1_move : MethodName := ⟨RX1, "move", "(IIIII)I"⟩
abbrev cX1_free : ByteArray := prog_1_method_13_code
def yX1_free : MethodName := ⟨RX1, "free", "(IIII)I"⟩
abbrev cX1_sendBack : ByteArray := prog_1_method_14_code
def yX1_sendBack : MethodName := ⟨RX1, "sendBack", "(IIII)I"⟩
abbrev cX1_state : ByteArray := prog_1_method_15_code
def yX1_state : MethodName := ⟨RX1, "state", "(I)I"⟩
abbrev cX1_manifest : ByteArray := prog_1_method_16_code
def yX1_manifest : MethodName := ⟨RX1, "manifest", "(II)I"⟩
abbrev cX1_stored : ByteArray := prog_1_method_17_code
def yX1_stored : MethodName := ⟨RX1, "stored", "(II)I"⟩
abbrev cX1_held : ByteArray := prog_1_method_18_code
def yX1_held : MethodName := ⟨RX1, "held", "(I)I"⟩
abbrev cX1_paid : ByteArray := prog_1_method_19_code
def yX1_paid : MethodName := ⟨RX1, "paid", "(I)I"⟩
abbrev cX1_findConsignment : ByteArray := prog_1_method_20_code
def yX1_findConsignment : MethodName := ⟨RX1, "findConsignment", "(I)LBorderHouse$Consignment;"⟩
abbrev cX1_checkRange : ByteArray := prog_1_method_21_code
def yX1_checkRange : MethodName := ⟨RX1, "checkRange", "(III)V"⟩
abbrev cX1_checkSort : ByteArray := prog_1_method_22_code
def yX1_checkSort : MethodName := ⟨RX1, "checkSort", "(I)V"⟩
abbrev cX1_checkStore : ByteArray := prog_1_method_23_code
def yX1_checkStore : MethodName := ⟨RX1, "checkStore", "(I)V"⟩
abbrev cX1_checkTrader : ByteArray := prog_1_method_24_code
def yX1_checkTrader : MethodName := ⟨RX1, "checkTrader", "(I)V"⟩
abbrev cX1_checkSeal : ByteArray := prog_1_method_25_code
def yX1_checkSeal : MethodName := ⟨RX1, "checkSeal", "(I)V"⟩
abbrev cX1_checkTaking : ByteArray := prog_1_method_26_code
def yX1_checkTaking : MethodName := ⟨RX1, "checkTaking", "(LBorderHouse$Consignment;III)V"⟩
abbrev cX1_placeOf : ByteArray := prog_1_method_27_code
def yX1_placeOf : MethodName := ⟨RX1, "placeOf", "(II)I"⟩
abbrev cX1_riskOf : ByteArray := prog_1_method_28_code
def yX1_riskOf : MethodName := ⟨RX1, "riskOf", "(LBorderHouse$Consignment;)I"⟩
abbrev cX1_hasToBeSearched : ByteArray := prog_1_method_29_code
def yX1_hasToBeSearched : MethodName := ⟨RX1, "hasToBeSearched", "(LBorderHouse$Consignment;)Z"⟩
abbrev cX1_countToSearch : ByteArray := prog_1_method_30_code
def yX1_countToSearch : MethodName := ⟨RX1, "countToSearch", "()I"⟩
abbrev cX1_dutyNow : ByteArray := prog_1_method_31_code
def yX1_dutyNow : MethodName := ⟨RX1, "dutyNow", "(LBorderHouse$Consignment;)I"⟩
abbrev cX1_takeOut : ByteArray := prog_1_method_32_code
def yX1_takeOut : MethodName := ⟨RX1, "takeOut", "(LBorderHouse$Consignment;III)I"⟩
def RX2 : String := "BorderHouseModel"
def TX2 : u_T := fun k => match k with
  | 0 => ("BorderHouseModel", "thrown", "I", false)
  | 1 => ("BorderHouseModel", "duty", "[I", true)
  | 2 => ("BorderHouseModel", "weight", "[I", true)
  | 3 => ("BorderHouseModel", "mark", "I", false)
  | 4 => ("BorderHouseModel", "sample", "I", false)
  | 5 => ("BorderHouseModel", "guarantee", "[I", true)
  | 6 => ("BorderHouseModel", "held", "[I", true)
  | 7 => ("BorderHouseModel", "paid", "[I", true)
  | 8 => ("BorderHouseModel", "trader", "[I", true)
  | 9 => ("BorderHouseModel", "seal", "[I", true)
  | 10 => ("BorderHouseModel", "state", "[I", true)
  | 11 => ("BorderHouseModel", "version", "[I", true)
  | 12 => ("BorderHouseModel", "papers", "[I", true)
  | 13 => ("BorderHouseModel", "searched", "[I", true)
  | 14 => ("BorderHouseModel", "isSample", "[Z", true)
  | 15 => ("BorderHouseModel", "isBroken", "[Z", true)
  | 16 => ("BorderHouseModel", "manifest", "[I", true)
  | 17 => ("BorderHouseModel", "taken", "[I", true)
  | 18 => ("BorderHouseModel", "stored", "[I", true)
  | 19 => ("BorderHouseModel", "consignments", "I", false)
  | _ => ("BorderHouseModel", "arrived", "I", false)
def tyX2 : Nat → FieldType := fun k => match k with
  | 0 => .int
  | 1 => .array .int
  | 2 => .array .int
  | 3 => .int
  | 4 => .int
  | 5 => .array .int
  | 6 => .array .int
  | 7 => .array .int
  | 8 => .array .int
  | 9 => .array .int
  | 10 => .array .int
  | 11 => .array .int
  | 12 => .array .int
  | 13 => .array .int
  | 14 => .array .boolean
  | 15 => .array .boolean
  | 16 => .array .int
  | 17 => .array .int
  | 18 => .array .int
  | 19 => .int
  | _ => .int
abbrev wsX20 : List Cond := u_ws RX2 TX2 21
theorem nmX2 : ∀ a, a < 21 → ∀ b, b < 21 → a ≠ b → (TX2 a).2.1 ≠ (TX2 b).2.1 := by decide +kernel
theorem tyX2_ok : ∀ k, k < 21 → parseFieldDescriptor (TX2 k).2.2.1 = some (tyX2 k) := by decide +kernel
abbrev cX2_init : ByteArray := prog_4_method_1_code
def yX2_init : MethodName := ⟨RX2, "<init>", "()V"⟩
abbrev cX2_thrown : ByteArray := prog_4_method_2_code
def yX2_thrown : MethodName := ⟨RX2, "thrown", "()I"⟩
abbrev cX2_isFine : ByteArray := prog_4_method_3_code
def yX2_isFine : MethodName := ⟨RX2, "isFine", "(I)Z"⟩
abbrev cX2_isIn : ByteArray := prog_4_method_4_code
def yX2_isIn : MethodName := ⟨RX2, "isIn", "(III)Z"⟩
abbrev cX2_isSort : ByteArray := prog_4_method_5_code
def yX2_isSort : MethodName := ⟨RX2, "isSort", "(I)Z"⟩
abbrev cX2_isTrader : ByteArray := prog_4_method_6_code
def yX2_isTrader : MethodName := ⟨RX2, "isTrader", "(I)Z"⟩
abbrev cX2_isStore : ByteArray := prog_4_method_7_code
def yX2_isStore : MethodName := ⟨RX2, "isStore", "(I)Z"⟩
abbrev cX2_isConsignment : ByteArray := prog_4_method_8_code
def yX2_isConsignment : MethodName := ⟨RX2, "isConsignment", "(I)Z"⟩
abbrev cX2_at : ByteArray := prog_4_method_9_code
def yX2_at : MethodName := ⟨RX2, "at", "(III)I"⟩
abbrev cX2_setSort : ByteArray := prog_4_method_10_code
def yX2_setSort : MethodName := ⟨RX2, "setSort", "(III)V"⟩
abbrev cX2_setRisk : ByteArray := prog_4_method_11_code
def yX2_setRisk : MethodName := ⟨RX2, "setRisk", "(II)I"⟩
abbrev cX2_setGuarantee : ByteArray := prog_4_method_12_code
def yX2_setGuarantee : MethodName := ⟨RX2, "setGuarantee", "(II)I"⟩
abbrev cX2_announce : ByteArray := prog_4_method_13_code
def yX2_announce : MethodName := ⟨RX2, "announce", "(II)I"⟩
abbrev cX2_amend : ByteArray := prog_4_method_14_code
def yX2_amend : MethodName := ⟨RX2, "amend", "(III)I"⟩
abbrev cX2_isEmpty : ByteArray := prog_4_method_15_code
def yX2_isEmpty : MethodName := ⟨RX2, "isEmpty", "(I)Z"⟩
abbrev cX2_arrive : ByteArray := prog_4_method_16_code
def yX2_arrive : MethodName := ⟨RX2, "arrive", "(II)Z"⟩
abbrev cX2_riskNow : ByteArray := prog_4_method_17_code
def yX2_riskNow : MethodName := ⟨RX2, "riskNow", "(I)I"⟩
abbrev cX2_mustNow : ByteArray := prog_4_method_18_code
def yX2_mustNow : MethodName := ⟨RX2, "mustNow", "(I)Z"⟩
abbrev cX2_risk : ByteArray := prog_4_method_19_code
def yX2_risk : MethodName := ⟨RX2, "risk", "(I)I"⟩
abbrev cX2_mustSearch : ByteArray := prog_4_method_20_code
def yX2_mustSearch : MethodName := ⟨RX2, "mustSearch", "(I)Z"⟩
abbrev cX2_search : ByteArray := prog_4_method_21_code
def yX2_search : MethodName := ⟨RX2, "search", "(III)I"⟩
abbrev cX2_owes : ByteArray := prog_4_method_22_code
def yX2_owes : MethodName := ⟨RX2, "owes", "(I)I"⟩
abbrev cX2_bond : ByteArray := prog_4_method_23_code
def yX2_bond : MethodName := ⟨RX2, "bond", "(II)I"⟩
abbrev cX2_isGoods : ByteArray := prog_4_method_24_code
def yX2_isGoods : MethodName := ⟨RX2, "isGoods", "(III)Z"⟩
abbrev cX2_move : ByteArray := prog_4_method_25_code
def yX2_move : MethodName := ⟨RX2, "move", "(IIIII)I"⟩
abbrev cX2_whyNot : ByteArray := prog_4_method_26_code
def yX2_whyNot : MethodName := ⟨RX2, "whyNot", "(IIII)I"⟩
abbrev cX2_leaves : ByteArray := prog_4_method_27_code
def yX2_leaves : MethodName := ⟨RX2, "leaves", "(IIII)I"⟩
abbrev cX2_free : ByteArray := prog_4_method_28_code
def yX2_free : MethodName := ⟨RX2, "free", "(IIII)I"⟩
abbrev cX2_sendBack : ByteArray := prog_4_method_29_code
def yX2_sendBack : MethodName := ⟨RX2, "sendBack", "(IIII)I"⟩
abbrev cX2_state : ByteArray := prog_4_method_30_code
def yX2_state : MethodName := ⟨RX2, "state", "(I)I"⟩
abbrev cX2_manifest : ByteArray := prog_4_method_31_code
def yX2_manifest : MethodName := ⟨RX2, "manifest", "(II)I"⟩
abbrev cX2_stored : ByteArray := prog_4_method_32_code
def yX2_stored : MethodName := ⟨RX2, "stored", "(II)I"⟩
abbrev cX2_held : ByteArray := prog_4_method_33_code
def yX2_held : MethodName := ⟨RX2, "held", "(I)I"⟩
abbrev cX2_paid : ByteArray := prog_4_method_34_code
def yX2_paid : MethodName := ⟨RX2, "paid", "(I)I"⟩
def RJ0 : String := "java/lang/String"
def TJ0 : u_T := fun k => match k with
  | _ => ("", "", "", false)
def tyJ0 : Nat → FieldType := fun k => match k with
  | _ => .int
abbrev wsJ00 : List Cond := u_ws RJ0 TJ0 0
theorem nmJ0 : ∀ a, a < 0 → ∀ b, b < 0 → a ≠ b → (TJ0 a).2.1 ≠ (TJ0 b).2.1 := by decide +kernel
theorem tyJ0_ok : ∀ k, k < 0 → parseFieldDescriptor (TJ0 k).2.2.1 = some (tyJ0 k) := by decide +kernel
def RL : String := "BorderHouseLaw"
abbrev cL_setSort : ByteArray := method_3_code
def yL_setSort : MethodName := ⟨RL, "setSort", "(LBorderHouse;III)I"⟩
abbrev cL_setRisk : ByteArray := method_4_code
def yL_setRisk : MethodName := ⟨RL, "setRisk", "(LBorderHouse;II[J)I"⟩
abbrev cL_setGuarantee : ByteArray := method_5_code
def yL_setGuarantee : MethodName := ⟨RL, "setGuarantee", "(LBorderHouse;II[J)I"⟩
abbrev cL_announce : ByteArray := method_6_code
def yL_announce : MethodName := ⟨RL, "announce", "(LBorderHouse;II[J)I"⟩
abbrev cL_amend : ByteArray := method_7_code
def yL_amend : MethodName := ⟨RL, "amend", "(LBorderHouse;III[J)I"⟩
abbrev cL_arrive : ByteArray := method_8_code
def yL_arrive : MethodName := ⟨RL, "arrive", "(LBorderHouse;II[J)I"⟩
abbrev cL_risk : ByteArray := method_9_code
def yL_risk : MethodName := ⟨RL, "risk", "(LBorderHouse;I[J)I"⟩
abbrev cL_mustSearch : ByteArray := method_10_code
def yL_mustSearch : MethodName := ⟨RL, "mustSearch", "(LBorderHouse;I[J)I"⟩
abbrev cL_search : ByteArray := method_11_code
def yL_search : MethodName := ⟨RL, "search", "(LBorderHouse;III[J)I"⟩
abbrev cL_bond : ByteArray := method_12_code
def yL_bond : MethodName := ⟨RL, "bond", "(LBorderHouse;II[J)I"⟩
abbrev cL_move : ByteArray := method_13_code
def yL_move : MethodName := ⟨RL, "move", "(LBorderHouse;IIIII[J)I"⟩
abbrev cL_free : ByteArray := method_14_code
def yL_free : MethodName := ⟨RL, "free", "(LBorderHouse;IIII[J)I"⟩
abbrev cL_sendBack : ByteArray := method_15_code
def yL_sendBack : MethodName := ⟨RL, "sendBack", "(LBorderHouse;IIII[J)I"⟩
abbrev cL_state : ByteArray := method_16_code
def yL_state : MethodName := ⟨RL, "state", "(LBorderHouse;I[J)I"⟩
abbrev cL_manifest : ByteArray := method_17_code
def yL_manifest : MethodName := ⟨RL, "manifest", "(LBorderHouse;II[J)I"⟩
abbrev cL_stored : ByteArray := method_18_code
def yL_stored : MethodName := ⟨RL, "stored", "(LBorderHouse;II[J)I"⟩
abbrev cL_held : ByteArray := method_19_code
def yL_held : MethodName := ⟨RL, "held", "(LBorderHouse;I[J)I"⟩
abbrev cL_paid : ByteArray := method_20_code
def yL_paid : MethodName := ⟨RL, "paid", "(LBorderHouse;I[J)I"⟩
abbrev cL_law : ByteArray := code
def yL_law : MethodName := ⟨RL, "law", "([I)Z"⟩
def wsX0_init : List Cond := .code yX0_init cX0_init 3 none :: ([.methodLink RX0 3 objectInit, .instanceMethod objectInit, .code objectInit ⟨#[0xb1]⟩ 1 none, .arrayClass .int, .fieldLink RX0 9 "BorderHouse$Consignment" "declared" "[I", .fieldLink RX0 15 "BorderHouse$Consignment" "dutyTakenDown" "[I", .fieldLink RX0 18 "BorderHouse$Consignment" "goods" "[I", .fieldLink RX0 21 "BorderHouse$Consignment" "stage" "I", .fieldLink RX0 25 "BorderHouse$Consignment" "version" "I", .fieldLink RX0 28 "BorderHouse$Consignment" "papers" "I", .fieldLink RX0 31 "BorderHouse$Consignment" "sortsSearched" "I", .fieldLink RX0 34 "BorderHouse$Consignment" "unitsLeft" "I", .fieldLink RX0 37 "BorderHouse$Consignment" "sealBroken" "Z", .fieldLink RX0 41 "BorderHouse$Consignment" "isSample" "Z", .fieldLink RX0 44 "BorderHouse$Consignment" "trader" "I", .fieldLink RX0 47 "BorderHouse$Consignment" "sealNumber" "I"] ++ wsX00)
def wsX0_totalDeclared : List Cond := .code yX0_totalDeclared cX0_totalDeclared 6 (some .int) :: ([.fieldLink RX0 9 "BorderHouse$Consignment" "declared" "[I"] ++ wsX00)
def wsX0_wasSearched : List Cond := .code yX0_wasSearched cX0_wasSearched 1 (some .boolean) :: ([.fieldLink RX0 31 "BorderHouse$Consignment" "sortsSearched" "I"] ++ wsX00)
def wsX0_noteSearch : List Cond := .code yX0_noteSearch cX0_noteSearch 3 none :: ([.fieldLink RX0 9 "BorderHouse$Consignment" "declared" "[I", .fieldLink RX0 28 "BorderHouse$Consignment" "papers" "I", .fieldLink RX0 31 "BorderHouse$Consignment" "sortsSearched" "I"] ++ wsX00)
def wsX1_placeOf : List Cond := .code yX1_placeOf cX1_placeOf 2 (some .int) :: ([])
def wsX0_enterStore : List Cond := .code yX0_enterStore cX0_enterStore 4 none :: ([.fieldLink RX0 18 "BorderHouse$Consignment" "goods" "[I", .fieldLink RX0 9 "BorderHouse$Consignment" "declared" "[I", .fieldLink RX0 15 "BorderHouse$Consignment" "dutyTakenDown" "[I", .fieldLink RX0 34 "BorderHouse$Consignment" "unitsLeft" "I", .fieldLink RX0 21 "BorderHouse$Consignment" "stage" "I", .static yX1_placeOf, .initialized RX1, .code yX1_placeOf cX1_placeOf 2 (some .int), .methodLink RX0 54 yX0_totalDeclared, .instanceMethod yX0_totalDeclared, .selects RX0 yX0_totalDeclared yX0_totalDeclared, .initialized RX0, .code yX0_totalDeclared cX0_totalDeclared 6 (some .int)] ++ wsX00)
def wsX1_init : List Cond := .code yX1_init cX1_init 2 none :: ([.methodLink RX1 1 objectInit, .instanceMethod objectInit, .code objectInit ⟨#[0xb1]⟩ 1 none, .arrayClass .int, .fieldLink RX1 9 "BorderHouse" "dutyOfSort" "[I", .fieldLink RX1 13 "BorderHouse" "weightOfSort" "[I", .fieldLink RX1 16 "BorderHouse" "guaranteeOfTrader" "[I", .fieldLink RX1 19 "BorderHouse" "heldOfTrader" "[I", .fieldLink RX1 22 "BorderHouse" "paidByTrader" "[I", .classLink RX1 25 RX0, .fieldLink RX1 27 "BorderHouse" "consignments" "[LBorderHouse$Consignment;", .fieldLink RX1 31 "BorderHouse" "announced" "I", .fieldLink RX1 35 "BorderHouse" "arrivals" "I", .fieldLink RX1 38 "BorderHouse" "searchMark" "I", .fieldLink RX1 41 "BorderHouse" "sampleStep" "I"] ++ wsX10)
def wsX1_checkRange : List Cond := .code yX1_checkRange cX1_checkRange 3 none :: ([.classLink RX1 142 "java/lang/IllegalArgumentException", .initialized "java/lang/IllegalArgumentException"] ++ (vx_atS RX1 146 "java/lang/IllegalArgumentException" ["java/lang/RuntimeException", "java/lang/Exception"]).filter goodWord)
def wsX1_checkSort : List Cond := .code yX1_checkSort cX1_checkSort 1 none :: ([.methodLink RX1 48 yX1_checkRange, .static yX1_checkRange, .initialized RX1, .code yX1_checkRange cX1_checkRange 3 none, .classLink RX1 142 "java/lang/IllegalArgumentException", .initialized "java/lang/IllegalArgumentException"] ++ (vx_atS RX1 146 "java/lang/IllegalArgumentException" ["java/lang/RuntimeException", "java/lang/Exception"]).filter goodWord)
def wsX1_setSort : List Cond := .code yX1_setSort cX1_setSort 4 none :: ([.fieldLink RX1 9 "BorderHouse" "dutyOfSort" "[I", .fieldLink RX1 13 "BorderHouse" "weightOfSort" "[I", .methodLink RX1 44 yX1_checkSort, .static yX1_checkSort, .initialized RX1, .code yX1_checkSort cX1_checkSort 1 none, .methodLink RX1 48 yX1_checkRange, .static yX1_checkRange, .code yX1_checkRange cX1_checkRange 3 none, .classLink RX1 142 "java/lang/IllegalArgumentException", .initialized "java/lang/IllegalArgumentException"] ++ wsX10 ++ (vx_atS RX1 146 "java/lang/IllegalArgumentException" ["java/lang/RuntimeException", "java/lang/Exception"]).filter goodWord)
def wsX1_riskOf : List Cond := .code yX1_riskOf cX1_riskOf 4 (some .int) :: ([.fieldLink RX1 84 "BorderHouse$Consignment" "declared" "[I", .fieldLink RX1 13 "BorderHouse" "weightOfSort" "[I", .fieldLink RX1 89 "BorderHouse$Consignment" "version" "I", .fieldLink RX1 100 "BorderHouse$Consignment" "sealBroken" "Z"] ++ wsX00 ++ wsX10)
def wsX1_hasToBeSearched : List Cond := .code yX1_hasToBeSearched cX1_hasToBeSearched 2 (some .boolean) :: ([.fieldLink RX1 79 "BorderHouse$Consignment" "stage" "I", .fieldLink RX1 104 "BorderHouse$Consignment" "isSample" "Z", .fieldLink RX1 38 "BorderHouse" "searchMark" "I", .methodLink RX1 171 yX0_wasSearched, .instanceMethod yX0_wasSearched, .selects RX0 yX0_wasSearched yX0_wasSearched, .initialized RX0, .code yX0_wasSearched cX0_wasSearched 1 (some .boolean), .fieldLink RX0 31 "BorderHouse$Consignment" "sortsSearched" "I", .methodLink RX1 113 yX1_riskOf, .instanceMethod yX1_riskOf, .selects RX1 yX1_riskOf yX1_riskOf, .initialized RX1, .code yX1_riskOf cX1_riskOf 4 (some .int), .fieldLink RX1 84 "BorderHouse$Consignment" "declared" "[I", .fieldLink RX1 13 "BorderHouse" "weightOfSort" "[I", .fieldLink RX1 89 "BorderHouse$Consignment" "version" "I", .fieldLink RX1 100 "BorderHouse$Consignment" "sealBroken" "Z"] ++ wsX00 ++ wsX10)
def wsX1_countToSearch : List Cond := .code yX1_countToSearch cX1_countToSearch 6 (some .int) :: ([.fieldLink RX1 27 "BorderHouse" "consignments" "[LBorderHouse$Consignment;", .methodLink RX1 107 yX1_hasToBeSearched, .instanceMethod yX1_hasToBeSearched, .selects RX1 yX1_hasToBeSearched yX1_hasToBeSearched, .initialized RX1, .code yX1_hasToBeSearched cX1_hasToBeSearched 2 (some .boolean), .fieldLink RX1 79 "BorderHouse$Consignment" "stage" "I", .fieldLink RX1 104 "BorderHouse$Consignment" "isSample" "Z", .fieldLink RX1 38 "BorderHouse" "searchMark" "I", .methodLink RX1 171 yX0_wasSearched, .instanceMethod yX0_wasSearched, .selects RX0 yX0_wasSearched yX0_wasSearched, .initialized RX0, .code yX0_wasSearched cX0_wasSearched 1 (some .boolean), .fieldLink RX0 31 "BorderHouse$Consignment" "sortsSearched" "I", .methodLink RX1 113 yX1_riskOf, .instanceMethod yX1_riskOf, .selects RX1 yX1_riskOf yX1_riskOf, .code yX1_riskOf cX1_riskOf 4 (some .int), .fieldLink RX1 84 "BorderHouse$Consignment" "declared" "[I", .fieldLink RX1 13 "BorderHouse" "weightOfSort" "[I", .fieldLink RX1 89 "BorderHouse$Consignment" "version" "I", .fieldLink RX1 100 "BorderHouse$Consignment" "sealBroken" "Z"] ++ wsX10 ++ wsX00)
def wsX1_setRisk_r1 : List Cond := [Cond.fieldLink RX1 38 "BorderHouse" "searchMark" "I", Cond.fieldLink RX1 41 "BorderHouse" "sampleStep" "I", Cond.methodLink RX1 48 yX1_checkRange, Cond.static yX1_checkRange, Cond.initialized RX1, Cond.code yX1_checkRange cX1_checkRange 3 none, Cond.classLink RX1 142 "java/lang/IllegalArgumentException", Cond.initialized "java/lang/IllegalArgumentException", Cond.methodLink RX1 52 yX1_countToSearch, Cond.instanceMethod yX1_countToSearch, Cond.selects RX1 yX1_countToSearch yX1_countToSearch, Cond.code yX1_countToSearch cX1_countToSearch 6 (some .int), Cond.fieldLink RX1 27 "BorderHouse" "consignments" "[LBorderHouse$Consignment;", Cond.methodLink RX1 107 yX1_hasToBeSearched, Cond.instanceMethod yX1_hasToBeSearched, Cond.selects RX1 yX1_hasToBeSearched yX1_hasToBeSearched, Cond.code yX1_hasToBeSearched cX1_hasToBeSearched 2 (some .boolean), Cond.fieldLink RX1 79 "BorderHouse$Consignment" "stage" "I", Cond.fieldLink RX1 104 "BorderHouse$Consignment" "isSample" "Z", Cond.methodLink RX1 171 yX0_wasSearched, Cond.instanceMethod yX0_wasSearched, Cond.selects RX0 yX0_wasSearched yX0_wasSearched, Cond.initialized RX0, Cond.code yX0_wasSearched cX0_wasSearched 1 (some .boolean)]
def wsX1_setRisk_r2 : List Cond := [Cond.fieldLink RX0 31 "BorderHouse$Consignment" "sortsSearched" "I", Cond.methodLink RX1 113 yX1_riskOf, Cond.instanceMethod yX1_riskOf, Cond.selects RX1 yX1_riskOf yX1_riskOf, Cond.code yX1_riskOf cX1_riskOf 4 (some .int), Cond.fieldLink RX1 84 "BorderHouse$Consignment" "declared" "[I", Cond.fieldLink RX1 13 "BorderHouse" "weightOfSort" "[I", Cond.fieldLink RX1 89 "BorderHouse$Consignment" "version" "I", Cond.fieldLink RX1 100 "BorderHouse$Consignment" "sealBroken" "Z"]
def wsX1_setRisk : List Cond := .code yX1_setRisk cX1_setRisk 3 (some .int) :: ((wsX1_setRisk_r1 ++ wsX1_setRisk_r2) ++ wsX10 ++ wsX00 ++ (vx_atS RX1 146 "java/lang/IllegalArgumentException" ["java/lang/RuntimeException", "java/lang/Exception"]).filter goodWord)
def wsX1_checkTrader : List Cond := .code yX1_checkTrader cX1_checkTrader 1 none :: ([.methodLink RX1 48 yX1_checkRange, .static yX1_checkRange, .initialized RX1, .code yX1_checkRange cX1_checkRange 3 none, .classLink RX1 142 "java/lang/IllegalArgumentException", .initialized "java/lang/IllegalArgumentException"] ++ (vx_atS RX1 146 "java/lang/IllegalArgumentException" ["java/lang/RuntimeException", "java/lang/Exception"]).filter goodWord)
def wsX1_setGuarantee : List Cond := .code yX1_setGuarantee cX1_setGuarantee 4 (some .int) :: ([.classLink RX1 60 "java/lang/IllegalStateException", .initialized "java/lang/IllegalStateException", .constant RX1 59 (1000000), .fieldLink RX1 19 "BorderHouse" "heldOfTrader" "[I", .fieldLink RX1 16 "BorderHouse" "guaranteeOfTrader" "[I", .methodLink RX1 56 yX1_checkTrader, .static yX1_checkTrader, .initialized RX1, .code yX1_checkTrader cX1_checkTrader 1 none, .methodLink RX1 48 yX1_checkRange, .static yX1_checkRange, .code yX1_checkRange cX1_checkRange 3 none, .classLink RX1 142 "java/lang/IllegalArgumentException", .initialized "java/lang/IllegalArgumentException"] ++ wsX10 ++ (vx_atS RX1 64 "java/lang/IllegalStateException" ["java/lang/RuntimeException", "java/lang/Exception"]).filter goodWord ++ (vx_atS RX1 146 "java/lang/IllegalArgumentException" ["java/lang/RuntimeException", "java/lang/Exception"]).filter goodWord)
def wsX1_checkSeal : List Cond := .code yX1_checkSeal cX1_checkSeal 1 none :: ([.methodLink RX1 48 yX1_checkRange, .static yX1_checkRange, .initialized RX1, .code yX1_checkRange cX1_checkRange 3 none, .classLink RX1 142 "java/lang/IllegalArgumentException", .initialized "java/lang/IllegalArgumentException"] ++ (vx_atS RX1 146 "java/lang/IllegalArgumentException" ["java/lang/RuntimeException", "java/lang/Exception"]).filter goodWord)
def wsX1_announce_r1 : List Cond := [Cond.classLink RX1 60 "java/lang/IllegalStateException", Cond.initialized "java/lang/IllegalStateException", Cond.fieldLink RX1 31 "BorderHouse" "announced" "I", Cond.fieldLink RX1 27 "BorderHouse" "consignments" "[LBorderHouse$Consignment;", Cond.classLink RX1 25 RX0, Cond.instantiable RX0 12, Cond.initialized RX0, Cond.methodLink RX1 56 yX1_checkTrader, Cond.static yX1_checkTrader, Cond.initialized RX1, Cond.code yX1_checkTrader cX1_checkTrader 1 none, Cond.methodLink RX1 48 yX1_checkRange, Cond.static yX1_checkRange, Cond.code yX1_checkRange cX1_checkRange 3 none, Cond.classLink RX1 142 "java/lang/IllegalArgumentException", Cond.initialized "java/lang/IllegalArgumentException", Cond.methodLink RX1 67 yX1_checkSeal, Cond.static yX1_checkSeal, Cond.code yX1_checkSeal cX1_checkSeal 1 none, Cond.methodLink RX1 72 yX0_init, Cond.instanceMethod yX0_init, Cond.code yX0_init cX0_init 3 none, Cond.methodLink RX0 3 objectInit, Cond.instanceMethod objectInit]
def wsX1_announce_r2 : List Cond := [Cond.code objectInit ⟨#[0xb1]⟩ 1 none, Cond.arrayClass .int, Cond.fieldLink RX0 9 "BorderHouse$Consignment" "declared" "[I", Cond.fieldLink RX0 15 "BorderHouse$Consignment" "dutyTakenDown" "[I", Cond.fieldLink RX0 18 "BorderHouse$Consignment" "goods" "[I", Cond.fieldLink RX0 21 "BorderHouse$Consignment" "stage" "I", Cond.fieldLink RX0 25 "BorderHouse$Consignment" "version" "I", Cond.fieldLink RX0 28 "BorderHouse$Consignment" "papers" "I", Cond.fieldLink RX0 31 "BorderHouse$Consignment" "sortsSearched" "I", Cond.fieldLink RX0 34 "BorderHouse$Consignment" "unitsLeft" "I", Cond.fieldLink RX0 37 "BorderHouse$Consignment" "sealBroken" "Z", Cond.fieldLink RX0 41 "BorderHouse$Consignment" "isSample" "Z", Cond.fieldLink RX0 44 "BorderHouse$Consignment" "trader" "I", Cond.fieldLink RX0 47 "BorderHouse$Consignment" "sealNumber" "I"]
def wsX1_announce : List Cond := .code yX1_announce cX1_announce 4 (some .int) :: ((wsX1_announce_r1 ++ wsX1_announce_r2) ++ wsX10 ++ wsX00 ++ (vx_atS RX1 64 "java/lang/IllegalStateException" ["java/lang/RuntimeException", "java/lang/Exception"]).filter goodWord ++ (vx_atS RX1 146 "java/lang/IllegalArgumentException" ["java/lang/RuntimeException", "java/lang/Exception"]).filter goodWord)
def wsX1_findConsignment : List Cond := .code yX1_findConsignment cX1_findConsignment 3 (some (.object "BorderHouse$Consignment")) :: ([.classLink RX1 162 "java/lang/IndexOutOfBoundsException", .initialized "java/lang/IndexOutOfBoundsException", .fieldLink RX1 27 "BorderHouse" "consignments" "[LBorderHouse$Consignment;"] ++ wsX10 ++ (vx_atS RX1 166 "java/lang/IndexOutOfBoundsException" ["java/lang/RuntimeException", "java/lang/Exception"]).filter goodWord)
def wsX1_amend : List Cond := .code yX1_amend cX1_amend 5 (some .int) :: ([.classLink RX1 60 "java/lang/IllegalStateException", .initialized "java/lang/IllegalStateException", .fieldLink RX1 79 "BorderHouse$Consignment" "stage" "I", .fieldLink RX1 84 "BorderHouse$Consignment" "declared" "[I", .fieldLink RX1 89 "BorderHouse$Consignment" "version" "I", .methodLink RX1 75 yX1_findConsignment, .instanceMethod yX1_findConsignment, .selects RX1 yX1_findConsignment yX1_findConsignment, .initialized RX1, .code yX1_findConsignment cX1_findConsignment 3 (some (.object "BorderHouse$Consignment")), .classLink RX1 162 "java/lang/IndexOutOfBoundsException", .initialized "java/lang/IndexOutOfBoundsException", .fieldLink RX1 27 "BorderHouse" "consignments" "[LBorderHouse$Consignment;", .methodLink RX1 44 yX1_checkSort, .static yX1_checkSort, .code yX1_checkSort cX1_checkSort 1 none, .methodLink RX1 48 yX1_checkRange, .static yX1_checkRange, .code yX1_checkRange cX1_checkRange 3 none, .classLink RX1 142 "java/lang/IllegalArgumentException", .initialized "java/lang/IllegalArgumentException"] ++ wsX00 ++ wsX10 ++ (vx_atS RX1 64 "java/lang/IllegalStateException" ["java/lang/RuntimeException", "java/lang/Exception"]).filter goodWord ++ (vx_atS RX1 166 "java/lang/IndexOutOfBoundsException" ["java/lang/RuntimeException", "java/lang/Exception"]).filter goodWord ++ (vx_atS RX1 146 "java/lang/IllegalArgumentException" ["java/lang/RuntimeException", "java/lang/Exception"]).filter goodWord)
def wsX1_arrive_r1 : List Cond := [Cond.classLink RX1 60 "java/lang/IllegalStateException", Cond.initialized "java/lang/IllegalStateException", Cond.fieldLink RX1 79 "BorderHouse$Consignment" "stage" "I", Cond.fieldLink RX1 35 "BorderHouse" "arrivals" "I", Cond.fieldLink RX1 97 "BorderHouse$Consignment" "sealNumber" "I", Cond.fieldLink RX1 100 "BorderHouse$Consignment" "sealBroken" "Z", Cond.fieldLink RX1 41 "BorderHouse" "sampleStep" "I", Cond.fieldLink RX1 104 "BorderHouse$Consignment" "isSample" "Z", Cond.methodLink RX1 75 yX1_findConsignment, Cond.instanceMethod yX1_findConsignment, Cond.selects RX1 yX1_findConsignment yX1_findConsignment, Cond.initialized RX1, Cond.code yX1_findConsignment cX1_findConsignment 3 (some (.object "BorderHouse$Consignment")), Cond.classLink RX1 162 "java/lang/IndexOutOfBoundsException", Cond.initialized "java/lang/IndexOutOfBoundsException", Cond.fieldLink RX1 27 "BorderHouse" "consignments" "[LBorderHouse$Consignment;", Cond.methodLink RX1 67 yX1_checkSeal, Cond.static yX1_checkSeal, Cond.code yX1_checkSeal cX1_checkSeal 1 none, Cond.methodLink RX1 48 yX1_checkRange, Cond.static yX1_checkRange, Cond.code yX1_checkRange cX1_checkRange 3 none, Cond.classLink RX1 142 "java/lang/IllegalArgumentException", Cond.initialized "java/lang/IllegalArgumentException"]
def wsX1_arrive_r2 : List Cond := [Cond.methodLink RX1 92 yX0_totalDeclared, Cond.instanceMethod yX0_totalDeclared, Cond.selects RX0 yX0_totalDeclared yX0_totalDeclared, Cond.initialized RX0, Cond.code yX0_totalDeclared cX0_totalDeclared 6 (some .int), Cond.fieldLink RX0 9 "BorderHouse$Consignment" "declared" "[I", Cond.methodLink RX1 107 yX1_hasToBeSearched, Cond.instanceMethod yX1_hasToBeSearched, Cond.selects RX1 yX1_hasToBeSearched yX1_hasToBeSearched, Cond.code yX1_hasToBeSearched cX1_hasToBeSearched 2 (some .boolean), Cond.fieldLink RX1 38 "BorderHouse" "searchMark" "I", Cond.methodLink RX1 171 yX0_wasSearched, Cond.instanceMethod yX0_wasSearched, Cond.selects RX0 yX0_wasSearched yX0_wasSearched, Cond.code yX0_wasSearched cX0_wasSearched 1 (some .boolean), Cond.fieldLink RX0 31 "BorderHouse$Consignment" "sortsSearched" "I", Cond.methodLink RX1 113 yX1_riskOf, Cond.instanceMethod yX1_riskOf, Cond.selects RX1 yX1_riskOf yX1_riskOf, Cond.code yX1_riskOf cX1_riskOf 4 (some .int), Cond.fieldLink RX1 84 "BorderHouse$Consignment" "declared" "[I", Cond.fieldLink RX1 13 "BorderHouse" "weightOfSort" "[I", Cond.fieldLink RX1 89 "BorderHouse$Consignment" "version" "I"]
def wsX1_arrive : List Cond := .code yX1_arrive cX1_arrive 4 (some .boolean) :: ((wsX1_arrive_r1 ++ wsX1_arrive_r2) ++ wsX00 ++ wsX10 ++ (vx_atS RX1 64 "java/lang/IllegalStateException" ["java/lang/RuntimeException", "java/lang/Exception"]).filter goodWord ++ (vx_atS RX1 166 "java/lang/IndexOutOfBoundsException" ["java/lang/RuntimeException", "java/lang/Exception"]).filter goodWord ++ (vx_atS RX1 146 "java/lang/IllegalArgumentException" ["java/lang/RuntimeException", "java/lang/Exception"]).filter goodWord)
def wsX1_risk : List Cond := .code yX1_risk cX1_risk 3 (some .int) :: ([.classLink RX1 60 "java/lang/IllegalStateException", .initialized "java/lang/IllegalStateException", .fieldLink RX1 79 "BorderHouse$Consignment" "stage" "I", .methodLink RX1 75 yX1_findConsignment, .instanceMethod yX1_findConsignment, .selects RX1 yX1_findConsignment yX1_findConsignment, .initialized RX1, .code yX1_findConsignment cX1_findConsignment 3 (some (.object "BorderHouse$Consignment")), .classLink RX1 162 "java/lang/IndexOutOfBoundsException", .initialized "java/lang/IndexOutOfBoundsException", .fieldLink RX1 27 "BorderHouse" "consignments" "[LBorderHouse$Consignment;", .methodLink RX1 113 yX1_riskOf, .instanceMethod yX1_riskOf, .selects RX1 yX1_riskOf yX1_riskOf, .code yX1_riskOf cX1_riskOf 4 (some .int), .fieldLink RX1 84 "BorderHouse$Consignment" "declared" "[I", .fieldLink RX1 13 "BorderHouse" "weightOfSort" "[I", .fieldLink RX1 89 "BorderHouse$Consignment" "version" "I", .fieldLink RX1 100 "BorderHouse$Consignment" "sealBroken" "Z"] ++ wsX00 ++ wsX10 ++ (vx_atS RX1 64 "java/lang/IllegalStateException" ["java/lang/RuntimeException", "java/lang/Exception"]).filter goodWord ++ (vx_atS RX1 166 "java/lang/IndexOutOfBoundsException" ["java/lang/RuntimeException", "java/lang/Exception"]).filter goodWord)
def wsX1_mustSearch_r1 : List Cond := [Cond.methodLink RX1 75 yX1_findConsignment, Cond.instanceMethod yX1_findConsignment, Cond.selects RX1 yX1_findConsignment yX1_findConsignment, Cond.initialized RX1, Cond.code yX1_findConsignment cX1_findConsignment 3 (some (.object "BorderHouse$Consignment")), Cond.classLink RX1 162 "java/lang/IndexOutOfBoundsException", Cond.initialized "java/lang/IndexOutOfBoundsException", Cond.fieldLink RX1 27 "BorderHouse" "consignments" "[LBorderHouse$Consignment;", Cond.methodLink RX1 107 yX1_hasToBeSearched, Cond.instanceMethod yX1_hasToBeSearched, Cond.selects RX1 yX1_hasToBeSearched yX1_hasToBeSearched, Cond.code yX1_hasToBeSearched cX1_hasToBeSearched 2 (some .boolean), Cond.fieldLink RX1 79 "BorderHouse$Consignment" "stage" "I", Cond.fieldLink RX1 104 "BorderHouse$Consignment" "isSample" "Z", Cond.fieldLink RX1 38 "BorderHouse" "searchMark" "I", Cond.methodLink RX1 171 yX0_wasSearched, Cond.instanceMethod yX0_wasSearched, Cond.selects RX0 yX0_wasSearched yX0_wasSearched, Cond.initialized RX0, Cond.code yX0_wasSearched cX0_wasSearched 1 (some .boolean), Cond.fieldLink RX0 31 "BorderHouse$Consignment" "sortsSearched" "I", Cond.methodLink RX1 113 yX1_riskOf, Cond.instanceMethod yX1_riskOf, Cond.selects RX1 yX1_riskOf yX1_riskOf]
def wsX1_mustSearch_r2 : List Cond := [Cond.code yX1_riskOf cX1_riskOf 4 (some .int), Cond.fieldLink RX1 84 "BorderHouse$Consignment" "declared" "[I", Cond.fieldLink RX1 13 "BorderHouse" "weightOfSort" "[I", Cond.fieldLink RX1 89 "BorderHouse$Consignment" "version" "I", Cond.fieldLink RX1 100 "BorderHouse$Consignment" "sealBroken" "Z"]
def wsX1_mustSearch : List Cond := .code yX1_mustSearch cX1_mustSearch 2 (some .boolean) :: ((wsX1_mustSearch_r1 ++ wsX1_mustSearch_r2) ++ wsX10 ++ wsX00 ++ (vx_atS RX1 166 "java/lang/IndexOutOfBoundsException" ["java/lang/RuntimeException", "java/lang/Exception"]).filter goodWord)
def wsX1_search_r1 : List Cond := [Cond.classLink RX1 60 "java/lang/IllegalStateException", Cond.initialized "java/lang/IllegalStateException", Cond.fieldLink RX1 79 "BorderHouse$Consignment" "stage" "I", Cond.fieldLink RX1 122 "BorderHouse$Consignment" "papers" "I", Cond.methodLink RX1 75 yX1_findConsignment, Cond.instanceMethod yX1_findConsignment, Cond.selects RX1 yX1_findConsignment yX1_findConsignment, Cond.initialized RX1, Cond.code yX1_findConsignment cX1_findConsignment 3 (some (.object "BorderHouse$Consignment")), Cond.classLink RX1 162 "java/lang/IndexOutOfBoundsException", Cond.initialized "java/lang/IndexOutOfBoundsException", Cond.fieldLink RX1 27 "BorderHouse" "consignments" "[LBorderHouse$Consignment;", Cond.methodLink RX1 44 yX1_checkSort, Cond.static yX1_checkSort, Cond.code yX1_checkSort cX1_checkSort 1 none, Cond.methodLink RX1 48 yX1_checkRange, Cond.static yX1_checkRange, Cond.code yX1_checkRange cX1_checkRange 3 none, Cond.classLink RX1 142 "java/lang/IllegalArgumentException", Cond.initialized "java/lang/IllegalArgumentException", Cond.methodLink RX1 119 yX0_noteSearch, Cond.instanceMethod yX0_noteSearch, Cond.selects RX0 yX0_noteSearch yX0_noteSearch, Cond.initialized RX0]
def wsX1_search_r2 : List Cond := [Cond.code yX0_noteSearch cX0_noteSearch 3 none, Cond.fieldLink RX0 9 "BorderHouse$Consignment" "declared" "[I", Cond.fieldLink RX0 28 "BorderHouse$Consignment" "papers" "I", Cond.fieldLink RX0 31 "BorderHouse$Consignment" "sortsSearched" "I"]
def wsX1_search : List Cond := .code yX1_search cX1_search 5 (some .int) :: ((wsX1_search_r1 ++ wsX1_search_r2) ++ wsX00 ++ wsX10 ++ (vx_atS RX1 64 "java/lang/IllegalStateException" ["java/lang/RuntimeException", "java/lang/Exception"]).filter goodWord ++ (vx_atS RX1 166 "java/lang/IndexOutOfBoundsException" ["java/lang/RuntimeException", "java/lang/Exception"]).filter goodWord ++ (vx_atS RX1 146 "java/lang/IllegalArgumentException" ["java/lang/RuntimeException", "java/lang/Exception"]).filter goodWord)
def wsX1_checkStore : List Cond := .code yX1_checkStore cX1_checkStore 1 none :: ([.methodLink RX1 48 yX1_checkRange, .static yX1_checkRange, .initialized RX1, .code yX1_checkRange cX1_checkRange 3 none, .classLink RX1 142 "java/lang/IllegalArgumentException", .initialized "java/lang/IllegalArgumentException"] ++ (vx_atS RX1 146 "java/lang/IllegalArgumentException" ["java/lang/RuntimeException", "java/lang/Exception"]).filter goodWord)
def wsX1_dutyNow : List Cond := .code yX1_dutyNow cX1_dutyNow 4 (some .int) :: ([.fieldLink RX1 84 "BorderHouse$Consignment" "declared" "[I", .fieldLink RX1 9 "BorderHouse" "dutyOfSort" "[I"] ++ wsX00 ++ wsX10)
def wsX1_bond_r1 : List Cond := [Cond.classLink RX1 60 "java/lang/IllegalStateException", Cond.initialized "java/lang/IllegalStateException", Cond.fieldLink RX1 79 "BorderHouse$Consignment" "stage" "I", Cond.fieldLink RX1 19 "BorderHouse" "heldOfTrader" "[I", Cond.fieldLink RX1 133 "BorderHouse$Consignment" "trader" "I", Cond.fieldLink RX1 16 "BorderHouse" "guaranteeOfTrader" "[I", Cond.fieldLink RX1 9 "BorderHouse" "dutyOfSort" "[I", Cond.methodLink RX1 75 yX1_findConsignment, Cond.instanceMethod yX1_findConsignment, Cond.selects RX1 yX1_findConsignment yX1_findConsignment, Cond.initialized RX1, Cond.code yX1_findConsignment cX1_findConsignment 3 (some (.object "BorderHouse$Consignment")), Cond.classLink RX1 162 "java/lang/IndexOutOfBoundsException", Cond.initialized "java/lang/IndexOutOfBoundsException", Cond.fieldLink RX1 27 "BorderHouse" "consignments" "[LBorderHouse$Consignment;", Cond.methodLink RX1 125 yX1_checkStore, Cond.static yX1_checkStore, Cond.code yX1_checkStore cX1_checkStore 1 none, Cond.methodLink RX1 48 yX1_checkRange, Cond.static yX1_checkRange, Cond.code yX1_checkRange cX1_checkRange 3 none, Cond.classLink RX1 142 "java/lang/IllegalArgumentException", Cond.initialized "java/lang/IllegalArgumentException", Cond.methodLink RX1 107 yX1_hasToBeSearched]
def wsX1_bond_r2 : List Cond := [Cond.instanceMethod yX1_hasToBeSearched, Cond.selects RX1 yX1_hasToBeSearched yX1_hasToBeSearched, Cond.code yX1_hasToBeSearched cX1_hasToBeSearched 2 (some .boolean), Cond.fieldLink RX1 104 "BorderHouse$Consignment" "isSample" "Z", Cond.fieldLink RX1 38 "BorderHouse" "searchMark" "I", Cond.methodLink RX1 171 yX0_wasSearched, Cond.instanceMethod yX0_wasSearched, Cond.selects RX0 yX0_wasSearched yX0_wasSearched, Cond.initialized RX0, Cond.code yX0_wasSearched cX0_wasSearched 1 (some .boolean), Cond.fieldLink RX0 31 "BorderHouse$Consignment" "sortsSearched" "I", Cond.methodLink RX1 113 yX1_riskOf, Cond.instanceMethod yX1_riskOf, Cond.selects RX1 yX1_riskOf yX1_riskOf, Cond.code yX1_riskOf cX1_riskOf 4 (some .int), Cond.fieldLink RX1 84 "BorderHouse$Consignment" "declared" "[I", Cond.fieldLink RX1 13 "BorderHouse" "weightOfSort" "[I", Cond.fieldLink RX1 89 "BorderHouse$Consignment" "version" "I", Cond.fieldLink RX1 100 "BorderHouse$Consignment" "sealBroken" "Z", Cond.methodLink RX1 130 yX1_dutyNow, Cond.instanceMethod yX1_dutyNow, Cond.selects RX1 yX1_dutyNow yX1_dutyNow, Cond.code yX1_dutyNow cX1_dutyNow 4 (some .int), Cond.methodLink RX1 138 yX0_enterStore]
def wsX1_bond_r3 : List Cond := [Cond.instanceMethod yX0_enterStore, Cond.selects RX0 yX0_enterStore yX0_enterStore, Cond.code yX0_enterStore cX0_enterStore 4 none, Cond.fieldLink RX0 18 "BorderHouse$Consignment" "goods" "[I", Cond.fieldLink RX0 9 "BorderHouse$Consignment" "declared" "[I", Cond.fieldLink RX0 15 "BorderHouse$Consignment" "dutyTakenDown" "[I", Cond.fieldLink RX0 34 "BorderHouse$Consignment" "unitsLeft" "I", Cond.fieldLink RX0 21 "BorderHouse$Consignment" "stage" "I", Cond.static yX1_placeOf, Cond.code yX1_placeOf cX1_placeOf 2 (some .int), Cond.methodLink RX0 54 yX0_totalDeclared, Cond.instanceMethod yX0_totalDeclared, Cond.selects RX0 yX0_totalDeclared yX0_totalDeclared, Cond.code yX0_totalDeclared cX0_totalDeclared 6 (some .int)]
def wsX1_bond : List Cond := .code yX1_bond cX1_bond 5 (some .int) :: ((wsX1_bond_r1 ++ (wsX1_bond_r2 ++ wsX1_bond_r3)) ++ wsX00 ++ wsX10 ++ (vx_atS RX1 64 "java/lang/IllegalStateException" ["java/lang/RuntimeException", "java/lang/Exception"]).filter goodWord ++ (vx_atS RX1 166 "java/lang/IndexOutOfBoundsException" ["java/lang/RuntimeException", "java/lang/Exception"]).filter goodWord ++ (vx_atS RX1 146 "java/lang/IllegalArgumentException" ["java/lang/RuntimeException", "java/lang/Exception"]).filter goodWord)
def wsX1_checkTaking : List Cond := .code yX1_checkTaking cX1_checkTaking 4 none :: ([.classLink RX1 60 "java/lang/IllegalStateException", .initialized "java/lang/IllegalStateException", .fieldLink RX1 155 "BorderHouse$Consignment" "goods" "[I", .methodLink RX1 44 yX1_checkSort, .static yX1_checkSort, .initialized RX1, .code yX1_checkSort cX1_checkSort 1 none, .methodLink RX1 48 yX1_checkRange, .static yX1_checkRange, .code yX1_checkRange cX1_checkRange 3 none, .classLink RX1 142 "java/lang/IllegalArgumentException", .initialized "java/lang/IllegalArgumentException", .methodLink RX1 125 yX1_checkStore, .static yX1_checkStore, .code yX1_checkStore cX1_checkStore 1 none, .methodLink RX1 151 yX1_placeOf, .static yX1_placeOf, .code yX1_placeOf cX1_placeOf 2 (some .int)] ++ wsX00 ++ (vx_atS RX1 64 "java/lang/IllegalStateException" ["java/lang/RuntimeException", "java/lang/Exception"]).filter goodWord ++ (vx_atS RX1 146 "java/lang/IllegalArgumentException" ["java/lang/RuntimeException", "java/lang/Exception"]).filter goodWord)
def wsX1_move_r1 : List Cond := [Cond.classLink RX1 142 "java/lang/IllegalArgumentException", Cond.initialized "java/lang/IllegalArgumentException", Cond.fieldLink RX1 155 "BorderHouse$Consignment" "goods" "[I", Cond.methodLink RX1 75 yX1_findConsignment, Cond.instanceMethod yX1_findConsignment, Cond.selects RX1 yX1_findConsignment yX1_findConsignment, Cond.initialized RX1, Cond.code yX1_findConsignment cX1_findConsignment 3 (some (.object "BorderHouse$Consignment")), Cond.classLink RX1 162 "java/lang/IndexOutOfBoundsException", Cond.initialized "java/lang/IndexOutOfBoundsException", Cond.fieldLink RX1 27 "BorderHouse" "consignments" "[LBorderHouse$Consignment;", Cond.methodLink RX1 125 yX1_checkStore, Cond.static yX1_checkStore, Cond.code yX1_checkStore cX1_checkStore 1 none, Cond.methodLink RX1 48 yX1_checkRange, Cond.static yX1_checkRange, Cond.code yX1_checkRange cX1_checkRange 3 none, Cond.methodLink RX1 147 yX1_checkTaking, Cond.static yX1_checkTaking, Cond.code yX1_checkTaking cX1_checkTaking 4 none, Cond.classLink RX1 60 "java/lang/IllegalStateException", Cond.initialized "java/lang/IllegalStateException", Cond.methodLink RX1 44 yX1_checkSort, Cond.static yX1_checkSort]
def wsX1_move_r2 : List Cond := [Cond.code yX1_checkSort cX1_checkSort 1 none, Cond.methodLink RX1 151 yX1_placeOf, Cond.static yX1_placeOf, Cond.code yX1_placeOf cX1_placeOf 2 (some .int)]
def wsX1_move : List Cond := .code yX1_move cX1_move 8 (some .int) :: ((wsX1_move_r1 ++ wsX1_move_r2) ++ wsX00 ++ wsX10 ++ (vx_atS RX1 146 "java/lang/IllegalArgumentException" ["java/lang/RuntimeException", "java/lang/Exception"]).filter goodWord ++ (vx_atS RX1 166 "java/lang/IndexOutOfBoundsException" ["java/lang/RuntimeException", "java/lang/Exception"]).filter goodWord ++ (vx_atS RX1 64 "java/lang/IllegalStateException" ["java/lang/RuntimeException", "java/lang/Exception"]).filter goodWord)
def wsX1_takeOut : List Cond := .code yX1_takeOut cX1_takeOut 6 (some .int) :: ([.fieldLink RX1 175 "BorderHouse$Consignment" "dutyTakenDown" "[I", .fieldLink RX1 19 "BorderHouse" "heldOfTrader" "[I", .fieldLink RX1 133 "BorderHouse$Consignment" "trader" "I", .fieldLink RX1 155 "BorderHouse$Consignment" "goods" "[I", .fieldLink RX1 178 "BorderHouse$Consignment" "unitsLeft" "I", .fieldLink RX1 79 "BorderHouse$Consignment" "stage" "I", .methodLink RX1 151 yX1_placeOf, .static yX1_placeOf, .initialized RX1, .code yX1_placeOf cX1_placeOf 2 (some .int)] ++ wsX00 ++ wsX10)
def wsX1_free_r1 : List Cond := [Cond.fieldLink RX1 22 "BorderHouse" "paidByTrader" "[I", Cond.fieldLink RX1 133 "BorderHouse$Consignment" "trader" "I", Cond.methodLink RX1 75 yX1_findConsignment, Cond.instanceMethod yX1_findConsignment, Cond.selects RX1 yX1_findConsignment yX1_findConsignment, Cond.initialized RX1, Cond.code yX1_findConsignment cX1_findConsignment 3 (some (.object "BorderHouse$Consignment")), Cond.classLink RX1 162 "java/lang/IndexOutOfBoundsException", Cond.initialized "java/lang/IndexOutOfBoundsException", Cond.fieldLink RX1 27 "BorderHouse" "consignments" "[LBorderHouse$Consignment;", Cond.methodLink RX1 147 yX1_checkTaking, Cond.static yX1_checkTaking, Cond.code yX1_checkTaking cX1_checkTaking 4 none, Cond.classLink RX1 60 "java/lang/IllegalStateException", Cond.initialized "java/lang/IllegalStateException", Cond.fieldLink RX1 155 "BorderHouse$Consignment" "goods" "[I", Cond.methodLink RX1 44 yX1_checkSort, Cond.static yX1_checkSort, Cond.code yX1_checkSort cX1_checkSort 1 none, Cond.methodLink RX1 48 yX1_checkRange, Cond.static yX1_checkRange, Cond.code yX1_checkRange cX1_checkRange 3 none, Cond.classLink RX1 142 "java/lang/IllegalArgumentException", Cond.initialized "java/lang/IllegalArgumentException"]
def wsX1_free_r2 : List Cond := [Cond.methodLink RX1 125 yX1_checkStore, Cond.static yX1_checkStore, Cond.code yX1_checkStore cX1_checkStore 1 none, Cond.methodLink RX1 151 yX1_placeOf, Cond.static yX1_placeOf, Cond.code yX1_placeOf cX1_placeOf 2 (some .int), Cond.methodLink RX1 158 yX1_takeOut, Cond.instanceMethod yX1_takeOut, Cond.selects RX1 yX1_takeOut yX1_takeOut, Cond.code yX1_takeOut cX1_takeOut 6 (some .int), Cond.fieldLink RX1 175 "BorderHouse$Consignment" "dutyTakenDown" "[I", Cond.fieldLink RX1 19 "BorderHouse" "heldOfTrader" "[I", Cond.fieldLink RX1 178 "BorderHouse$Consignment" "unitsLeft" "I", Cond.fieldLink RX1 79 "BorderHouse$Consignment" "stage" "I"]
def wsX1_free : List Cond := .code yX1_free cX1_free 7 (some .int) :: ((wsX1_free_r1 ++ wsX1_free_r2) ++ wsX10 ++ wsX00 ++ (vx_atS RX1 166 "java/lang/IndexOutOfBoundsException" ["java/lang/RuntimeException", "java/lang/Exception"]).filter goodWord ++ (vx_atS RX1 64 "java/lang/IllegalStateException" ["java/lang/RuntimeException", "java/lang/Exception"]).filter goodWord ++ (vx_atS RX1 146 "java/lang/IllegalArgumentException" ["java/lang/RuntimeException", "java/lang/Exception"]).filter goodWord)
def wsX1_sendBack_r1 : List Cond := [Cond.methodLink RX1 75 yX1_findConsignment, Cond.instanceMethod yX1_findConsignment, Cond.selects RX1 yX1_findConsignment yX1_findConsignment, Cond.initialized RX1, Cond.code yX1_findConsignment cX1_findConsignment 3 (some (.object "BorderHouse$Consignment")), Cond.classLink RX1 162 "java/lang/IndexOutOfBoundsException", Cond.initialized "java/lang/IndexOutOfBoundsException", Cond.fieldLink RX1 27 "BorderHouse" "consignments" "[LBorderHouse$Consignment;", Cond.methodLink RX1 147 yX1_checkTaking, Cond.static yX1_checkTaking, Cond.code yX1_checkTaking cX1_checkTaking 4 none, Cond.classLink RX1 60 "java/lang/IllegalStateException", Cond.initialized "java/lang/IllegalStateException", Cond.fieldLink RX1 155 "BorderHouse$Consignment" "goods" "[I", Cond.methodLink RX1 44 yX1_checkSort, Cond.static yX1_checkSort, Cond.code yX1_checkSort cX1_checkSort 1 none, Cond.methodLink RX1 48 yX1_checkRange, Cond.static yX1_checkRange, Cond.code yX1_checkRange cX1_checkRange 3 none, Cond.classLink RX1 142 "java/lang/IllegalArgumentException", Cond.initialized "java/lang/IllegalArgumentException", Cond.methodLink RX1 125 yX1_checkStore, Cond.static yX1_checkStore]
def wsX1_sendBack_r2 : List Cond := [Cond.code yX1_checkStore cX1_checkStore 1 none, Cond.methodLink RX1 151 yX1_placeOf, Cond.static yX1_placeOf, Cond.code yX1_placeOf cX1_placeOf 2 (some .int), Cond.methodLink RX1 158 yX1_takeOut, Cond.instanceMethod yX1_takeOut, Cond.selects RX1 yX1_takeOut yX1_takeOut, Cond.code yX1_takeOut cX1_takeOut 6 (some .int), Cond.fieldLink RX1 175 "BorderHouse$Consignment" "dutyTakenDown" "[I", Cond.fieldLink RX1 19 "BorderHouse" "heldOfTrader" "[I", Cond.fieldLink RX1 133 "BorderHouse$Consignment" "trader" "I", Cond.fieldLink RX1 178 "BorderHouse$Consignment" "unitsLeft" "I", Cond.fieldLink RX1 79 "BorderHouse$Consignment" "stage" "I"]
def wsX1_sendBack : List Cond := .code yX1_sendBack cX1_sendBack 6 (some .int) :: ((wsX1_sendBack_r1 ++ wsX1_sendBack_r2) ++ wsX10 ++ wsX00 ++ (vx_atS RX1 166 "java/lang/IndexOutOfBoundsException" ["java/lang/RuntimeException", "java/lang/Exception"]).filter goodWord ++ (vx_atS RX1 64 "java/lang/IllegalStateException" ["java/lang/RuntimeException", "java/lang/Exception"]).filter goodWord ++ (vx_atS RX1 146 "java/lang/IllegalArgumentException" ["java/lang/RuntimeException", "java/lang/Exception"]).filter goodWord)
def wsX1_state : List Cond := .code yX1_state cX1_state 2 (some .int) :: ([.fieldLink RX1 79 "BorderHouse$Consignment" "stage" "I", .methodLink RX1 75 yX1_findConsignment, .instanceMethod yX1_findConsignment, .selects RX1 yX1_findConsignment yX1_findConsignment, .initialized RX1, .code yX1_findConsignment cX1_findConsignment 3 (some (.object "BorderHouse$Consignment")), .classLink RX1 162 "java/lang/IndexOutOfBoundsException", .initialized "java/lang/IndexOutOfBoundsException", .fieldLink RX1 27 "BorderHouse" "consignments" "[LBorderHouse$Consignment;"] ++ wsX00 ++ wsX10 ++ (vx_atS RX1 166 "java/lang/IndexOutOfBoundsException" ["java/lang/RuntimeException", "java/lang/Exception"]).filter goodWord)
def wsX1_manifest : List Cond := .code yX1_manifest cX1_manifest 4 (some .int) :: ([.fieldLink RX1 84 "BorderHouse$Consignment" "declared" "[I", .methodLink RX1 75 yX1_findConsignment, .instanceMethod yX1_findConsignment, .selects RX1 yX1_findConsignment yX1_findConsignment, .initialized RX1, .code yX1_findConsignment cX1_findConsignment 3 (some (.object "BorderHouse$Consignment")), .classLink RX1 162 "java/lang/IndexOutOfBoundsException", .initialized "java/lang/IndexOutOfBoundsException", .fieldLink RX1 27 "BorderHouse" "consignments" "[LBorderHouse$Consignment;", .methodLink RX1 44 yX1_checkSort, .static yX1_checkSort, .code yX1_checkSort cX1_checkSort 1 none, .methodLink RX1 48 yX1_checkRange, .static yX1_checkRange, .code yX1_checkRange cX1_checkRange 3 none, .classLink RX1 142 "java/lang/IllegalArgumentException", .initialized "java/lang/IllegalArgumentException"] ++ wsX00 ++ wsX10 ++ (vx_atS RX1 166 "java/lang/IndexOutOfBoundsException" ["java/lang/RuntimeException", "java/lang/Exception"]).filter goodWord ++ (vx_atS RX1 146 "java/lang/IllegalArgumentException" ["java/lang/RuntimeException", "java/lang/Exception"]).filter goodWord)
def wsX1_stored : List Cond := .code yX1_stored cX1_stored 8 (some .int) :: ([.fieldLink RX1 27 "BorderHouse" "consignments" "[LBorderHouse$Consignment;", .fieldLink RX1 155 "BorderHouse$Consignment" "goods" "[I", .methodLink RX1 44 yX1_checkSort, .static yX1_checkSort, .initialized RX1, .code yX1_checkSort cX1_checkSort 1 none, .methodLink RX1 48 yX1_checkRange, .static yX1_checkRange, .code yX1_checkRange cX1_checkRange 3 none, .classLink RX1 142 "java/lang/IllegalArgumentException", .initialized "java/lang/IllegalArgumentException", .methodLink RX1 125 yX1_checkStore, .static yX1_checkStore, .code yX1_checkStore cX1_checkStore 1 none, .methodLink RX1 151 yX1_placeOf, .static yX1_placeOf, .code yX1_placeOf cX1_placeOf 2 (some .int)] ++ wsX10 ++ wsX00 ++ (vx_atS RX1 146 "java/lang/IllegalArgumentException" ["java/lang/RuntimeException", "java/lang/Exception"]).filter goodWord)
def wsX1_held : List Cond := .code yX1_held cX1_held 2 (some .int) :: ([.fieldLink RX1 19 "BorderHouse" "heldOfTrader" "[I", .methodLink RX1 56 yX1_checkTrader, .static yX1_checkTrader, .initialized RX1, .code yX1_checkTrader cX1_checkTrader 1 none, .methodLink RX1 48 yX1_checkRange, .static yX1_checkRange, .code yX1_checkRange cX1_checkRange 3 none, .classLink RX1 142 "java/lang/IllegalArgumentException", .initialized "java/lang/IllegalArgumentException"] ++ wsX10 ++ (vx_atS RX1 146 "java/lang/IllegalArgumentException" ["java/lang/RuntimeException", "java/lang/Exception"]).filter goodWord)
def wsX1_paid : List Cond := .code yX1_paid cX1_paid 2 (some .int) :: ([.fieldLink RX1 22 "BorderHouse" "paidByTrader" "[I", .methodLink RX1 56 yX1_checkTrader, .static yX1_checkTrader, .initialized RX1, .code yX1_checkTrader cX1_checkTrader 1 none, .methodLink RX1 48 yX1_checkRange, .static yX1_checkRange, .code yX1_checkRange cX1_checkRange 3 none, .classLink RX1 142 "java/lang/IllegalArgumentException", .initialized "java/lang/IllegalArgumentException"] ++ wsX10 ++ (vx_atS RX1 146 "java/lang/IllegalArgumentException" ["java/lang/RuntimeException", "java/lang/Exception"]).filter goodWord)
def wsX2_init : List Cond := .code yX2_init cX2_init 2 none :: ([.methodLink RX2 1 objectInit, .instanceMethod objectInit, .code objectInit ⟨#[0xb1]⟩ 1 none, .arrayClass .int, .fieldLink RX2 7 "BorderHouseModel" "duty" "[I", .fieldLink RX2 13 "BorderHouseModel" "weight" "[I", .fieldLink RX2 16 "BorderHouseModel" "mark" "I", .fieldLink RX2 20 "BorderHouseModel" "guarantee" "[I", .fieldLink RX2 23 "BorderHouseModel" "held" "[I", .fieldLink RX2 26 "BorderHouseModel" "paid" "[I", .fieldLink RX2 29 "BorderHouseModel" "trader" "[I", .fieldLink RX2 32 "BorderHouseModel" "seal" "[I", .fieldLink RX2 35 "BorderHouseModel" "state" "[I", .fieldLink RX2 38 "BorderHouseModel" "version" "[I", .fieldLink RX2 41 "BorderHouseModel" "papers" "[I", .fieldLink RX2 44 "BorderHouseModel" "searched" "[I", .arrayClass .boolean, .fieldLink RX2 47 "BorderHouseModel" "isSample" "[Z", .fieldLink RX2 51 "BorderHouseModel" "isBroken" "[Z", .fieldLink RX2 54 "BorderHouseModel" "manifest" "[I", .fieldLink RX2 57 "BorderHouseModel" "taken" "[I", .fieldLink RX2 60 "BorderHouseModel" "stored" "[I"] ++ wsX20)
def wsX2_thrown : List Cond := .code yX2_thrown cX2_thrown 1 (some .int) :: ([.fieldLink RX2 63 "BorderHouseModel" "thrown" "I"] ++ wsX20)
def wsX2_isFine : List Cond := .code yX2_isFine cX2_isFine 2 (some .boolean) :: ([.fieldLink RX2 63 "BorderHouseModel" "thrown" "I"] ++ wsX20)
def wsX2_isIn : List Cond := .code yX2_isIn cX2_isIn 3 (some .boolean) :: ([])
def wsX2_isSort : List Cond := .code yX2_isSort cX2_isSort 1 (some .boolean) :: ([.methodLink RX2 66 yX2_isIn, .static yX2_isIn, .initialized RX2, .code yX2_isIn cX2_isIn 3 (some .boolean)])
def wsX2_isTrader : List Cond := .code yX2_isTrader cX2_isTrader 1 (some .boolean) :: ([.methodLink RX2 66 yX2_isIn, .static yX2_isIn, .initialized RX2, .code yX2_isIn cX2_isIn 3 (some .boolean)])
def wsX2_isStore : List Cond := .code yX2_isStore cX2_isStore 1 (some .boolean) :: ([.methodLink RX2 66 yX2_isIn, .static yX2_isIn, .initialized RX2, .code yX2_isIn cX2_isIn 3 (some .boolean)])
def wsX2_isConsignment : List Cond := .code yX2_isConsignment cX2_isConsignment 2 (some .boolean) :: ([.fieldLink RX2 70 "BorderHouseModel" "consignments" "I", .methodLink RX2 66 yX2_isIn, .static yX2_isIn, .initialized RX2, .code yX2_isIn cX2_isIn 3 (some .boolean)] ++ wsX20)
def wsX2_at : List Cond := .code yX2_at cX2_at 3 (some .int) :: ([])
def wsX2_setSort : List Cond := .code yX2_setSort cX2_setSort 4 none :: ([.fieldLink RX2 7 "BorderHouseModel" "duty" "[I", .fieldLink RX2 13 "BorderHouseModel" "weight" "[I", .methodLink RX2 73 yX2_isSort, .static yX2_isSort, .initialized RX2, .code yX2_isSort cX2_isSort 1 (some .boolean), .methodLink RX2 66 yX2_isIn, .static yX2_isIn, .code yX2_isIn cX2_isIn 3 (some .boolean), .methodLink RX2 77 yX2_isFine, .instanceMethod yX2_isFine, .selects RX2 yX2_isFine yX2_isFine, .code yX2_isFine cX2_isFine 2 (some .boolean), .fieldLink RX2 63 "BorderHouseModel" "thrown" "I"] ++ wsX20)
def wsX2_riskNow : List Cond := .code yX2_riskNow cX2_riskNow 4 (some .int) :: ([.fieldLink RX2 38 "BorderHouseModel" "version" "[I", .fieldLink RX2 51 "BorderHouseModel" "isBroken" "[Z", .fieldLink RX2 54 "BorderHouseModel" "manifest" "[I", .fieldLink RX2 13 "BorderHouseModel" "weight" "[I"] ++ wsX20)
def wsX2_mustNow : List Cond := .code yX2_mustNow cX2_mustNow 2 (some .boolean) :: ([.fieldLink RX2 35 "BorderHouseModel" "state" "[I", .fieldLink RX2 44 "BorderHouseModel" "searched" "[I", .fieldLink RX2 47 "BorderHouseModel" "isSample" "[Z", .fieldLink RX2 16 "BorderHouseModel" "mark" "I", .methodLink RX2 99 yX2_riskNow, .instanceMethod yX2_riskNow, .selects RX2 yX2_riskNow yX2_riskNow, .initialized RX2, .code yX2_riskNow cX2_riskNow 4 (some .int), .fieldLink RX2 38 "BorderHouseModel" "version" "[I", .fieldLink RX2 51 "BorderHouseModel" "isBroken" "[Z", .fieldLink RX2 54 "BorderHouseModel" "manifest" "[I", .fieldLink RX2 13 "BorderHouseModel" "weight" "[I"] ++ wsX20)
def wsX2_setRisk_r1 : List Cond := [Cond.fieldLink RX2 16 "BorderHouseModel" "mark" "I", Cond.fieldLink RX2 80 "BorderHouseModel" "sample" "I", Cond.fieldLink RX2 70 "BorderHouseModel" "consignments" "I", Cond.methodLink RX2 66 yX2_isIn, Cond.static yX2_isIn, Cond.initialized RX2, Cond.code yX2_isIn cX2_isIn 3 (some .boolean), Cond.methodLink RX2 77 yX2_isFine, Cond.instanceMethod yX2_isFine, Cond.selects RX2 yX2_isFine yX2_isFine, Cond.code yX2_isFine cX2_isFine 2 (some .boolean), Cond.fieldLink RX2 63 "BorderHouseModel" "thrown" "I", Cond.methodLink RX2 83 yX2_mustNow, Cond.instanceMethod yX2_mustNow, Cond.selects RX2 yX2_mustNow yX2_mustNow, Cond.code yX2_mustNow cX2_mustNow 2 (some .boolean), Cond.fieldLink RX2 35 "BorderHouseModel" "state" "[I", Cond.fieldLink RX2 44 "BorderHouseModel" "searched" "[I", Cond.fieldLink RX2 47 "BorderHouseModel" "isSample" "[Z", Cond.methodLink RX2 99 yX2_riskNow, Cond.instanceMethod yX2_riskNow, Cond.selects RX2 yX2_riskNow yX2_riskNow, Cond.code yX2_riskNow cX2_riskNow 4 (some .int), Cond.fieldLink RX2 38 "BorderHouseModel" "version" "[I"]
def wsX2_setRisk_r2 : List Cond := [Cond.fieldLink RX2 51 "BorderHouseModel" "isBroken" "[Z", Cond.fieldLink RX2 54 "BorderHouseModel" "manifest" "[I", Cond.fieldLink RX2 13 "BorderHouseModel" "weight" "[I"]
def wsX2_setRisk : List Cond := .code yX2_setRisk cX2_setRisk 5 (some .int) :: ((wsX2_setRisk_r1 ++ wsX2_setRisk_r2) ++ wsX20)
def wsX2_setGuarantee : List Cond := .code yX2_setGuarantee cX2_setGuarantee 5 (some .int) :: ([.constant RX2 89 (1000000), .fieldLink RX2 23 "BorderHouseModel" "held" "[I", .fieldLink RX2 20 "BorderHouseModel" "guarantee" "[I", .methodLink RX2 86 yX2_isTrader, .static yX2_isTrader, .initialized RX2, .code yX2_isTrader cX2_isTrader 1 (some .boolean), .methodLink RX2 66 yX2_isIn, .static yX2_isIn, .code yX2_isIn cX2_isIn 3 (some .boolean), .methodLink RX2 77 yX2_isFine, .instanceMethod yX2_isFine, .selects RX2 yX2_isFine yX2_isFine, .code yX2_isFine cX2_isFine 2 (some .boolean), .fieldLink RX2 63 "BorderHouseModel" "thrown" "I"] ++ wsX20)
def wsX2_announce : List Cond := .code yX2_announce cX2_announce 4 (some .int) :: ([.fieldLink RX2 70 "BorderHouseModel" "consignments" "I", .fieldLink RX2 29 "BorderHouseModel" "trader" "[I", .fieldLink RX2 32 "BorderHouseModel" "seal" "[I", .methodLink RX2 86 yX2_isTrader, .static yX2_isTrader, .initialized RX2, .code yX2_isTrader cX2_isTrader 1 (some .boolean), .methodLink RX2 66 yX2_isIn, .static yX2_isIn, .code yX2_isIn cX2_isIn 3 (some .boolean), .methodLink RX2 77 yX2_isFine, .instanceMethod yX2_isFine, .selects RX2 yX2_isFine yX2_isFine, .code yX2_isFine cX2_isFine 2 (some .boolean), .fieldLink RX2 63 "BorderHouseModel" "thrown" "I"] ++ wsX20)
def wsX2_amend : List Cond := .code yX2_amend cX2_amend 7 (some .int) :: ([.fieldLink RX2 35 "BorderHouseModel" "state" "[I", .fieldLink RX2 54 "BorderHouseModel" "manifest" "[I", .fieldLink RX2 38 "BorderHouseModel" "version" "[I", .methodLink RX2 90 yX2_isConsignment, .instanceMethod yX2_isConsignment, .selects RX2 yX2_isConsignment yX2_isConsignment, .initialized RX2, .code yX2_isConsignment cX2_isConsignment 2 (some .boolean), .fieldLink RX2 70 "BorderHouseModel" "consignments" "I", .methodLink RX2 66 yX2_isIn, .static yX2_isIn, .code yX2_isIn cX2_isIn 3 (some .boolean), .methodLink RX2 73 yX2_isSort, .static yX2_isSort, .code yX2_isSort cX2_isSort 1 (some .boolean), .methodLink RX2 77 yX2_isFine, .instanceMethod yX2_isFine, .selects RX2 yX2_isFine yX2_isFine, .code yX2_isFine cX2_isFine 2 (some .boolean), .fieldLink RX2 63 "BorderHouseModel" "thrown" "I"] ++ wsX20)
def wsX2_isEmpty : List Cond := .code yX2_isEmpty cX2_isEmpty 4 (some .boolean) :: ([.fieldLink RX2 54 "BorderHouseModel" "manifest" "[I"] ++ wsX20)
def wsX2_arrive_r1 : List Cond := [Cond.fieldLink RX2 35 "BorderHouseModel" "state" "[I", Cond.fieldLink RX2 96 "BorderHouseModel" "arrived" "I", Cond.fieldLink RX2 47 "BorderHouseModel" "isSample" "[Z", Cond.fieldLink RX2 80 "BorderHouseModel" "sample" "I", Cond.fieldLink RX2 51 "BorderHouseModel" "isBroken" "[Z", Cond.fieldLink RX2 32 "BorderHouseModel" "seal" "[I", Cond.methodLink RX2 90 yX2_isConsignment, Cond.instanceMethod yX2_isConsignment, Cond.selects RX2 yX2_isConsignment yX2_isConsignment, Cond.initialized RX2, Cond.code yX2_isConsignment cX2_isConsignment 2 (some .boolean), Cond.fieldLink RX2 70 "BorderHouseModel" "consignments" "I", Cond.methodLink RX2 66 yX2_isIn, Cond.static yX2_isIn, Cond.code yX2_isIn cX2_isIn 3 (some .boolean), Cond.methodLink RX2 93 yX2_isEmpty, Cond.instanceMethod yX2_isEmpty, Cond.selects RX2 yX2_isEmpty yX2_isEmpty, Cond.code yX2_isEmpty cX2_isEmpty 4 (some .boolean), Cond.fieldLink RX2 54 "BorderHouseModel" "manifest" "[I", Cond.methodLink RX2 77 yX2_isFine, Cond.instanceMethod yX2_isFine, Cond.selects RX2 yX2_isFine yX2_isFine, Cond.code yX2_isFine cX2_isFine 2 (some .boolean)]
def wsX2_arrive_r2 : List Cond := [Cond.fieldLink RX2 63 "BorderHouseModel" "thrown" "I", Cond.methodLink RX2 83 yX2_mustNow, Cond.instanceMethod yX2_mustNow, Cond.selects RX2 yX2_mustNow yX2_mustNow, Cond.code yX2_mustNow cX2_mustNow 2 (some .boolean), Cond.fieldLink RX2 44 "BorderHouseModel" "searched" "[I", Cond.fieldLink RX2 16 "BorderHouseModel" "mark" "I", Cond.methodLink RX2 99 yX2_riskNow, Cond.instanceMethod yX2_riskNow, Cond.selects RX2 yX2_riskNow yX2_riskNow, Cond.code yX2_riskNow cX2_riskNow 4 (some .int), Cond.fieldLink RX2 38 "BorderHouseModel" "version" "[I", Cond.fieldLink RX2 13 "BorderHouseModel" "weight" "[I"]
def wsX2_arrive : List Cond := .code yX2_arrive cX2_arrive 5 (some .boolean) :: ((wsX2_arrive_r1 ++ wsX2_arrive_r2) ++ wsX20)
def wsX2_risk : List Cond := .code yX2_risk cX2_risk 3 (some .int) :: ([.fieldLink RX2 35 "BorderHouseModel" "state" "[I", .methodLink RX2 90 yX2_isConsignment, .instanceMethod yX2_isConsignment, .selects RX2 yX2_isConsignment yX2_isConsignment, .initialized RX2, .code yX2_isConsignment cX2_isConsignment 2 (some .boolean), .fieldLink RX2 70 "BorderHouseModel" "consignments" "I", .methodLink RX2 66 yX2_isIn, .static yX2_isIn, .code yX2_isIn cX2_isIn 3 (some .boolean), .methodLink RX2 77 yX2_isFine, .instanceMethod yX2_isFine, .selects RX2 yX2_isFine yX2_isFine, .code yX2_isFine cX2_isFine 2 (some .boolean), .fieldLink RX2 63 "BorderHouseModel" "thrown" "I", .methodLink RX2 99 yX2_riskNow, .instanceMethod yX2_riskNow, .selects RX2 yX2_riskNow yX2_riskNow, .code yX2_riskNow cX2_riskNow 4 (some .int), .fieldLink RX2 38 "BorderHouseModel" "version" "[I", .fieldLink RX2 51 "BorderHouseModel" "isBroken" "[Z", .fieldLink RX2 54 "BorderHouseModel" "manifest" "[I", .fieldLink RX2 13 "BorderHouseModel" "weight" "[I"] ++ wsX20)
def wsX2_mustSearch_r1 : List Cond := [Cond.methodLink RX2 90 yX2_isConsignment, Cond.instanceMethod yX2_isConsignment, Cond.selects RX2 yX2_isConsignment yX2_isConsignment, Cond.initialized RX2, Cond.code yX2_isConsignment cX2_isConsignment 2 (some .boolean), Cond.fieldLink RX2 70 "BorderHouseModel" "consignments" "I", Cond.methodLink RX2 66 yX2_isIn, Cond.static yX2_isIn, Cond.code yX2_isIn cX2_isIn 3 (some .boolean), Cond.methodLink RX2 77 yX2_isFine, Cond.instanceMethod yX2_isFine, Cond.selects RX2 yX2_isFine yX2_isFine, Cond.code yX2_isFine cX2_isFine 2 (some .boolean), Cond.fieldLink RX2 63 "BorderHouseModel" "thrown" "I", Cond.methodLink RX2 83 yX2_mustNow, Cond.instanceMethod yX2_mustNow, Cond.selects RX2 yX2_mustNow yX2_mustNow, Cond.code yX2_mustNow cX2_mustNow 2 (some .boolean), Cond.fieldLink RX2 35 "BorderHouseModel" "state" "[I", Cond.fieldLink RX2 44 "BorderHouseModel" "searched" "[I", Cond.fieldLink RX2 47 "BorderHouseModel" "isSample" "[Z", Cond.fieldLink RX2 16 "BorderHouseModel" "mark" "I", Cond.methodLink RX2 99 yX2_riskNow, Cond.instanceMethod yX2_riskNow]
def wsX2_mustSearch_r2 : List Cond := [Cond.selects RX2 yX2_riskNow yX2_riskNow, Cond.code yX2_riskNow cX2_riskNow 4 (some .int), Cond.fieldLink RX2 38 "BorderHouseModel" "version" "[I", Cond.fieldLink RX2 51 "BorderHouseModel" "isBroken" "[Z", Cond.fieldLink RX2 54 "BorderHouseModel" "manifest" "[I", Cond.fieldLink RX2 13 "BorderHouseModel" "weight" "[I"]
def wsX2_mustSearch : List Cond := .code yX2_mustSearch cX2_mustSearch 2 (some .boolean) :: ((wsX2_mustSearch_r1 ++ wsX2_mustSearch_r2) ++ wsX20)
def wsX2_search : List Cond := .code yX2_search cX2_search 6 (some .int) :: ([.fieldLink RX2 35 "BorderHouseModel" "state" "[I", .fieldLink RX2 44 "BorderHouseModel" "searched" "[I", .fieldLink RX2 41 "BorderHouseModel" "papers" "[I", .fieldLink RX2 54 "BorderHouseModel" "manifest" "[I", .methodLink RX2 90 yX2_isConsignment, .instanceMethod yX2_isConsignment, .selects RX2 yX2_isConsignment yX2_isConsignment, .initialized RX2, .code yX2_isConsignment cX2_isConsignment 2 (some .boolean), .fieldLink RX2 70 "BorderHouseModel" "consignments" "I", .methodLink RX2 66 yX2_isIn, .static yX2_isIn, .code yX2_isIn cX2_isIn 3 (some .boolean), .methodLink RX2 73 yX2_isSort, .static yX2_isSort, .code yX2_isSort cX2_isSort 1 (some .boolean), .methodLink RX2 77 yX2_isFine, .instanceMethod yX2_isFine, .selects RX2 yX2_isFine yX2_isFine, .code yX2_isFine cX2_isFine 2 (some .boolean), .fieldLink RX2 63 "BorderHouseModel" "thrown" "I"] ++ wsX20)
def wsX2_owes : List Cond := .code yX2_owes cX2_owes 4 (some .int) :: ([.fieldLink RX2 54 "BorderHouseModel" "manifest" "[I", .fieldLink RX2 7 "BorderHouseModel" "duty" "[I"] ++ wsX20)
def wsX2_bond_r1 : List Cond := [Cond.fieldLink RX2 29 "BorderHouseModel" "trader" "[I", Cond.fieldLink RX2 35 "BorderHouseModel" "state" "[I", Cond.fieldLink RX2 23 "BorderHouseModel" "held" "[I", Cond.fieldLink RX2 20 "BorderHouseModel" "guarantee" "[I", Cond.fieldLink RX2 57 "BorderHouseModel" "taken" "[I", Cond.fieldLink RX2 7 "BorderHouseModel" "duty" "[I", Cond.fieldLink RX2 60 "BorderHouseModel" "stored" "[I", Cond.fieldLink RX2 54 "BorderHouseModel" "manifest" "[I", Cond.methodLink RX2 90 yX2_isConsignment, Cond.instanceMethod yX2_isConsignment, Cond.selects RX2 yX2_isConsignment yX2_isConsignment, Cond.initialized RX2, Cond.code yX2_isConsignment cX2_isConsignment 2 (some .boolean), Cond.fieldLink RX2 70 "BorderHouseModel" "consignments" "I", Cond.methodLink RX2 66 yX2_isIn, Cond.static yX2_isIn, Cond.code yX2_isIn cX2_isIn 3 (some .boolean), Cond.methodLink RX2 83 yX2_mustNow, Cond.instanceMethod yX2_mustNow, Cond.selects RX2 yX2_mustNow yX2_mustNow, Cond.code yX2_mustNow cX2_mustNow 2 (some .boolean), Cond.fieldLink RX2 44 "BorderHouseModel" "searched" "[I", Cond.fieldLink RX2 47 "BorderHouseModel" "isSample" "[Z", Cond.fieldLink RX2 16 "BorderHouseModel" "mark" "I"]
def wsX2_bond_r2 : List Cond := [Cond.methodLink RX2 99 yX2_riskNow, Cond.instanceMethod yX2_riskNow, Cond.selects RX2 yX2_riskNow yX2_riskNow, Cond.code yX2_riskNow cX2_riskNow 4 (some .int), Cond.fieldLink RX2 38 "BorderHouseModel" "version" "[I", Cond.fieldLink RX2 51 "BorderHouseModel" "isBroken" "[Z", Cond.fieldLink RX2 13 "BorderHouseModel" "weight" "[I", Cond.methodLink RX2 103 yX2_owes, Cond.instanceMethod yX2_owes, Cond.selects RX2 yX2_owes yX2_owes, Cond.code yX2_owes cX2_owes 4 (some .int), Cond.methodLink RX2 106 yX2_isStore, Cond.static yX2_isStore, Cond.code yX2_isStore cX2_isStore 1 (some .boolean), Cond.methodLink RX2 77 yX2_isFine, Cond.instanceMethod yX2_isFine, Cond.selects RX2 yX2_isFine yX2_isFine, Cond.code yX2_isFine cX2_isFine 2 (some .boolean), Cond.fieldLink RX2 63 "BorderHouseModel" "thrown" "I", Cond.methodLink RX2 93 yX2_isEmpty, Cond.instanceMethod yX2_isEmpty, Cond.selects RX2 yX2_isEmpty yX2_isEmpty, Cond.code yX2_isEmpty cX2_isEmpty 4 (some .boolean), Cond.methodLink RX2 109 yX2_at]
def wsX2_bond_r3 : List Cond := [Cond.static yX2_at, Cond.code yX2_at cX2_at 3 (some .int)]
def wsX2_bond : List Cond := .code yX2_bond cX2_bond 7 (some .int) :: ((wsX2_bond_r1 ++ (wsX2_bond_r2 ++ wsX2_bond_r3)) ++ wsX20)
def wsX2_isGoods : List Cond := .code yX2_isGoods cX2_isGoods 3 (some .boolean) :: ([.methodLink RX2 73 yX2_isSort, .static yX2_isSort, .initialized RX2, .code yX2_isSort cX2_isSort 1 (some .boolean), .methodLink RX2 66 yX2_isIn, .static yX2_isIn, .code yX2_isIn cX2_isIn 3 (some .boolean), .methodLink RX2 106 yX2_isStore, .static yX2_isStore, .code yX2_isStore cX2_isStore 1 (some .boolean)])
def wsX2_move_r1 : List Cond := [Cond.fieldLink RX2 60 "BorderHouseModel" "stored" "[I", Cond.methodLink RX2 90 yX2_isConsignment, Cond.instanceMethod yX2_isConsignment, Cond.selects RX2 yX2_isConsignment yX2_isConsignment, Cond.initialized RX2, Cond.code yX2_isConsignment cX2_isConsignment 2 (some .boolean), Cond.fieldLink RX2 70 "BorderHouseModel" "consignments" "I", Cond.methodLink RX2 66 yX2_isIn, Cond.static yX2_isIn, Cond.code yX2_isIn cX2_isIn 3 (some .boolean), Cond.methodLink RX2 113 yX2_isGoods, Cond.static yX2_isGoods, Cond.code yX2_isGoods cX2_isGoods 3 (some .boolean), Cond.methodLink RX2 73 yX2_isSort, Cond.static yX2_isSort, Cond.code yX2_isSort cX2_isSort 1 (some .boolean), Cond.methodLink RX2 106 yX2_isStore, Cond.static yX2_isStore, Cond.code yX2_isStore cX2_isStore 1 (some .boolean), Cond.methodLink RX2 109 yX2_at, Cond.static yX2_at, Cond.code yX2_at cX2_at 3 (some .int), Cond.methodLink RX2 77 yX2_isFine, Cond.instanceMethod yX2_isFine]
def wsX2_move_r2 : List Cond := [Cond.selects RX2 yX2_isFine yX2_isFine, Cond.code yX2_isFine cX2_isFine 2 (some .boolean), Cond.fieldLink RX2 63 "BorderHouseModel" "thrown" "I"]
def wsX2_move : List Cond := .code yX2_move cX2_move 8 (some .int) :: ((wsX2_move_r1 ++ wsX2_move_r2) ++ wsX20)
def wsX2_whyNot : List Cond := .code yX2_whyNot cX2_whyNot 5 (some .int) :: ([.fieldLink RX2 60 "BorderHouseModel" "stored" "[I", .methodLink RX2 90 yX2_isConsignment, .instanceMethod yX2_isConsignment, .selects RX2 yX2_isConsignment yX2_isConsignment, .initialized RX2, .code yX2_isConsignment cX2_isConsignment 2 (some .boolean), .fieldLink RX2 70 "BorderHouseModel" "consignments" "I", .methodLink RX2 66 yX2_isIn, .static yX2_isIn, .code yX2_isIn cX2_isIn 3 (some .boolean), .methodLink RX2 113 yX2_isGoods, .static yX2_isGoods, .code yX2_isGoods cX2_isGoods 3 (some .boolean), .methodLink RX2 73 yX2_isSort, .static yX2_isSort, .code yX2_isSort cX2_isSort 1 (some .boolean), .methodLink RX2 106 yX2_isStore, .static yX2_isStore, .code yX2_isStore cX2_isStore 1 (some .boolean), .methodLink RX2 109 yX2_at, .static yX2_at, .code yX2_at cX2_at 3 (some .int)] ++ wsX20)
def wsX2_leaves : List Cond := .code yX2_leaves cX2_leaves 8 (some .int) :: ([.fieldLink RX2 60 "BorderHouseModel" "stored" "[I", .fieldLink RX2 57 "BorderHouseModel" "taken" "[I", .fieldLink RX2 23 "BorderHouseModel" "held" "[I", .fieldLink RX2 29 "BorderHouseModel" "trader" "[I", .fieldLink RX2 35 "BorderHouseModel" "state" "[I", .methodLink RX2 109 yX2_at, .static yX2_at, .initialized RX2, .code yX2_at cX2_at 3 (some .int)] ++ wsX20)
def wsX2_free_r1 : List Cond := [Cond.fieldLink RX2 26 "BorderHouseModel" "paid" "[I", Cond.fieldLink RX2 29 "BorderHouseModel" "trader" "[I", Cond.methodLink RX2 116 yX2_whyNot, Cond.instanceMethod yX2_whyNot, Cond.selects RX2 yX2_whyNot yX2_whyNot, Cond.initialized RX2, Cond.code yX2_whyNot cX2_whyNot 5 (some .int), Cond.fieldLink RX2 60 "BorderHouseModel" "stored" "[I", Cond.methodLink RX2 90 yX2_isConsignment, Cond.instanceMethod yX2_isConsignment, Cond.selects RX2 yX2_isConsignment yX2_isConsignment, Cond.code yX2_isConsignment cX2_isConsignment 2 (some .boolean), Cond.fieldLink RX2 70 "BorderHouseModel" "consignments" "I", Cond.methodLink RX2 66 yX2_isIn, Cond.static yX2_isIn, Cond.code yX2_isIn cX2_isIn 3 (some .boolean), Cond.methodLink RX2 113 yX2_isGoods, Cond.static yX2_isGoods, Cond.code yX2_isGoods cX2_isGoods 3 (some .boolean), Cond.methodLink RX2 73 yX2_isSort, Cond.static yX2_isSort, Cond.code yX2_isSort cX2_isSort 1 (some .boolean), Cond.methodLink RX2 106 yX2_isStore, Cond.static yX2_isStore]
def wsX2_free_r2 : List Cond := [Cond.code yX2_isStore cX2_isStore 1 (some .boolean), Cond.methodLink RX2 109 yX2_at, Cond.static yX2_at, Cond.code yX2_at cX2_at 3 (some .int), Cond.methodLink RX2 77 yX2_isFine, Cond.instanceMethod yX2_isFine, Cond.selects RX2 yX2_isFine yX2_isFine, Cond.code yX2_isFine cX2_isFine 2 (some .boolean), Cond.fieldLink RX2 63 "BorderHouseModel" "thrown" "I", Cond.methodLink RX2 120 yX2_leaves, Cond.instanceMethod yX2_leaves, Cond.selects RX2 yX2_leaves yX2_leaves, Cond.code yX2_leaves cX2_leaves 8 (some .int), Cond.fieldLink RX2 57 "BorderHouseModel" "taken" "[I", Cond.fieldLink RX2 23 "BorderHouseModel" "held" "[I", Cond.fieldLink RX2 35 "BorderHouseModel" "state" "[I"]
def wsX2_free : List Cond := .code yX2_free cX2_free 6 (some .int) :: ((wsX2_free_r1 ++ wsX2_free_r2) ++ wsX20)
def wsX2_sendBack_r1 : List Cond := [Cond.methodLink RX2 116 yX2_whyNot, Cond.instanceMethod yX2_whyNot, Cond.selects RX2 yX2_whyNot yX2_whyNot, Cond.initialized RX2, Cond.code yX2_whyNot cX2_whyNot 5 (some .int), Cond.fieldLink RX2 60 "BorderHouseModel" "stored" "[I", Cond.methodLink RX2 90 yX2_isConsignment, Cond.instanceMethod yX2_isConsignment, Cond.selects RX2 yX2_isConsignment yX2_isConsignment, Cond.code yX2_isConsignment cX2_isConsignment 2 (some .boolean), Cond.fieldLink RX2 70 "BorderHouseModel" "consignments" "I", Cond.methodLink RX2 66 yX2_isIn, Cond.static yX2_isIn, Cond.code yX2_isIn cX2_isIn 3 (some .boolean), Cond.methodLink RX2 113 yX2_isGoods, Cond.static yX2_isGoods, Cond.code yX2_isGoods cX2_isGoods 3 (some .boolean), Cond.methodLink RX2 73 yX2_isSort, Cond.static yX2_isSort, Cond.code yX2_isSort cX2_isSort 1 (some .boolean), Cond.methodLink RX2 106 yX2_isStore, Cond.static yX2_isStore, Cond.code yX2_isStore cX2_isStore 1 (some .boolean), Cond.methodLink RX2 109 yX2_at]
def wsX2_sendBack_r2 : List Cond := [Cond.static yX2_at, Cond.code yX2_at cX2_at 3 (some .int), Cond.methodLink RX2 77 yX2_isFine, Cond.instanceMethod yX2_isFine, Cond.selects RX2 yX2_isFine yX2_isFine, Cond.code yX2_isFine cX2_isFine 2 (some .boolean), Cond.fieldLink RX2 63 "BorderHouseModel" "thrown" "I", Cond.methodLink RX2 120 yX2_leaves, Cond.instanceMethod yX2_leaves, Cond.selects RX2 yX2_leaves yX2_leaves, Cond.code yX2_leaves cX2_leaves 8 (some .int), Cond.fieldLink RX2 57 "BorderHouseModel" "taken" "[I", Cond.fieldLink RX2 23 "BorderHouseModel" "held" "[I", Cond.fieldLink RX2 29 "BorderHouseModel" "trader" "[I", Cond.fieldLink RX2 35 "BorderHouseModel" "state" "[I"]
def wsX2_sendBack : List Cond := .code yX2_sendBack cX2_sendBack 5 (some .int) :: ((wsX2_sendBack_r1 ++ wsX2_sendBack_r2) ++ wsX20)
def wsX2_state : List Cond := .code yX2_state cX2_state 2 (some .int) :: ([.fieldLink RX2 35 "BorderHouseModel" "state" "[I", .methodLink RX2 90 yX2_isConsignment, .instanceMethod yX2_isConsignment, .selects RX2 yX2_isConsignment yX2_isConsignment, .initialized RX2, .code yX2_isConsignment cX2_isConsignment 2 (some .boolean), .fieldLink RX2 70 "BorderHouseModel" "consignments" "I", .methodLink RX2 66 yX2_isIn, .static yX2_isIn, .code yX2_isIn cX2_isIn 3 (some .boolean), .methodLink RX2 77 yX2_isFine, .instanceMethod yX2_isFine, .selects RX2 yX2_isFine yX2_isFine, .code yX2_isFine cX2_isFine 2 (some .boolean), .fieldLink RX2 63 "BorderHouseModel" "thrown" "I"] ++ wsX20)
def wsX2_manifest : List Cond := .code yX2_manifest cX2_manifest 4 (some .int) :: ([.fieldLink RX2 54 "BorderHouseModel" "manifest" "[I", .methodLink RX2 90 yX2_isConsignment, .instanceMethod yX2_isConsignment, .selects RX2 yX2_isConsignment yX2_isConsignment, .initialized RX2, .code yX2_isConsignment cX2_isConsignment 2 (some .boolean), .fieldLink RX2 70 "BorderHouseModel" "consignments" "I", .methodLink RX2 66 yX2_isIn, .static yX2_isIn, .code yX2_isIn cX2_isIn 3 (some .boolean), .methodLink RX2 73 yX2_isSort, .static yX2_isSort, .code yX2_isSort cX2_isSort 1 (some .boolean), .methodLink RX2 77 yX2_isFine, .instanceMethod yX2_isFine, .selects RX2 yX2_isFine yX2_isFine, .code yX2_isFine cX2_isFine 2 (some .boolean), .fieldLink RX2 63 "BorderHouseModel" "thrown" "I"] ++ wsX20)
def wsX2_stored : List Cond := .code yX2_stored cX2_stored 5 (some .int) :: ([.fieldLink RX2 70 "BorderHouseModel" "consignments" "I", .fieldLink RX2 60 "BorderHouseModel" "stored" "[I", .methodLink RX2 73 yX2_isSort, .static yX2_isSort, .initialized RX2, .code yX2_isSort cX2_isSort 1 (some .boolean), .methodLink RX2 66 yX2_isIn, .static yX2_isIn, .code yX2_isIn cX2_isIn 3 (some .boolean), .methodLink RX2 106 yX2_isStore, .static yX2_isStore, .code yX2_isStore cX2_isStore 1 (some .boolean), .methodLink RX2 77 yX2_isFine, .instanceMethod yX2_isFine, .selects RX2 yX2_isFine yX2_isFine, .code yX2_isFine cX2_isFine 2 (some .boolean), .fieldLink RX2 63 "BorderHouseModel" "thrown" "I", .methodLink RX2 109 yX2_at, .static yX2_at, .code yX2_at cX2_at 3 (some .int)] ++ wsX20)
def wsX2_held : List Cond := .code yX2_held cX2_held 2 (some .int) :: ([.fieldLink RX2 23 "BorderHouseModel" "held" "[I", .methodLink RX2 86 yX2_isTrader, .static yX2_isTrader, .initialized RX2, .code yX2_isTrader cX2_isTrader 1 (some .boolean), .methodLink RX2 66 yX2_isIn, .static yX2_isIn, .code yX2_isIn cX2_isIn 3 (some .boolean), .methodLink RX2 77 yX2_isFine, .instanceMethod yX2_isFine, .selects RX2 yX2_isFine yX2_isFine, .code yX2_isFine cX2_isFine 2 (some .boolean), .fieldLink RX2 63 "BorderHouseModel" "thrown" "I"] ++ wsX20)
def wsX2_paid : List Cond := .code yX2_paid cX2_paid 2 (some .int) :: ([.fieldLink RX2 26 "BorderHouseModel" "paid" "[I", .methodLink RX2 86 yX2_isTrader, .static yX2_isTrader, .initialized RX2, .code yX2_isTrader cX2_isTrader 1 (some .boolean), .methodLink RX2 66 yX2_isIn, .static yX2_isIn, .code yX2_isIn cX2_isIn 3 (some .boolean), .methodLink RX2 77 yX2_isFine, .instanceMethod yX2_isFine, .selects RX2 yX2_isFine yX2_isFine, .code yX2_isFine cX2_isFine 2 (some .boolean), .fieldLink RX2 63 "BorderHouseModel" "thrown" "I"] ++ wsX20)
def wsL_setSort : List Cond := .codeWith yL_setSort cL_setSort 5 (some .int) [(0, 7, 10, 13)] :: ([.classLink RL 13 "java/lang/IllegalArgumentException", .methodLink RL 7 yX1_setSort, .instanceMethod yX1_setSort, .selects RX1 yX1_setSort yX1_setSort, .initialized RX1, .code yX1_setSort cX1_setSort 4 none, .fieldLink RX1 9 "BorderHouse" "dutyOfSort" "[I", .fieldLink RX1 13 "BorderHouse" "weightOfSort" "[I", .methodLink RX1 44 yX1_checkSort, .static yX1_checkSort, .code yX1_checkSort cX1_checkSort 1 none, .methodLink RX1 48 yX1_checkRange, .static yX1_checkRange, .code yX1_checkRange cX1_checkRange 3 none, .classLink RX1 142 "java/lang/IllegalArgumentException", .initialized "java/lang/IllegalArgumentException"] ++ wsX10 ++ (vx_atS RX1 146 "java/lang/IllegalArgumentException" ["java/lang/RuntimeException", "java/lang/Exception"]).filter goodWord)
def wsL_setRisk_r1 : List Cond := [Cond.classLink RL 13 "java/lang/IllegalArgumentException", Cond.methodLink RL 15 yX1_setRisk, Cond.instanceMethod yX1_setRisk, Cond.selects RX1 yX1_setRisk yX1_setRisk, Cond.initialized RX1, Cond.code yX1_setRisk cX1_setRisk 3 (some .int), Cond.fieldLink RX1 38 "BorderHouse" "searchMark" "I", Cond.fieldLink RX1 41 "BorderHouse" "sampleStep" "I", Cond.methodLink RX1 48 yX1_checkRange, Cond.static yX1_checkRange, Cond.code yX1_checkRange cX1_checkRange 3 none, Cond.classLink RX1 142 "java/lang/IllegalArgumentException", Cond.initialized "java/lang/IllegalArgumentException", Cond.methodLink RX1 52 yX1_countToSearch, Cond.instanceMethod yX1_countToSearch, Cond.selects RX1 yX1_countToSearch yX1_countToSearch, Cond.code yX1_countToSearch cX1_countToSearch 6 (some .int), Cond.fieldLink RX1 27 "BorderHouse" "consignments" "[LBorderHouse$Consignment;", Cond.methodLink RX1 107 yX1_hasToBeSearched, Cond.instanceMethod yX1_hasToBeSearched, Cond.selects RX1 yX1_hasToBeSearched yX1_hasToBeSearched, Cond.code yX1_hasToBeSearched cX1_hasToBeSearched 2 (some .boolean), Cond.fieldLink RX1 79 "BorderHouse$Consignment" "stage" "I", Cond.fieldLink RX1 104 "BorderHouse$Consignment" "isSample" "Z"]
def wsL_setRisk_r2 : List Cond := [Cond.methodLink RX1 171 yX0_wasSearched, Cond.instanceMethod yX0_wasSearched, Cond.selects RX0 yX0_wasSearched yX0_wasSearched, Cond.initialized RX0, Cond.code yX0_wasSearched cX0_wasSearched 1 (some .boolean), Cond.fieldLink RX0 31 "BorderHouse$Consignment" "sortsSearched" "I", Cond.methodLink RX1 113 yX1_riskOf, Cond.instanceMethod yX1_riskOf, Cond.selects RX1 yX1_riskOf yX1_riskOf, Cond.code yX1_riskOf cX1_riskOf 4 (some .int), Cond.fieldLink RX1 84 "BorderHouse$Consignment" "declared" "[I", Cond.fieldLink RX1 13 "BorderHouse" "weightOfSort" "[I", Cond.fieldLink RX1 89 "BorderHouse$Consignment" "version" "I", Cond.fieldLink RX1 100 "BorderHouse$Consignment" "sealBroken" "Z"]
def wsL_setRisk : List Cond := .codeWith yL_setRisk cL_setRisk 5 (some .int) [(0, 10, 13, 13)] :: ((wsL_setRisk_r1 ++ wsL_setRisk_r2) ++ wsX10 ++ wsX00 ++ (vx_atS RX1 146 "java/lang/IllegalArgumentException" ["java/lang/RuntimeException", "java/lang/Exception"]).filter goodWord)
def wsL_setGuarantee : List Cond := .codeWith yL_setGuarantee cL_setGuarantee 5 (some .int) [(0, 10, 13, 13), (0, 10, 17, 22)] :: ([.classLink RL 13 "java/lang/IllegalArgumentException", .classLink RL 22 "java/lang/IllegalStateException", .methodLink RL 19 yX1_setGuarantee, .instanceMethod yX1_setGuarantee, .selects RX1 yX1_setGuarantee yX1_setGuarantee, .initialized RX1, .code yX1_setGuarantee cX1_setGuarantee 4 (some .int), .classLink RX1 60 "java/lang/IllegalStateException", .initialized "java/lang/IllegalStateException", .constant RX1 59 (1000000), .fieldLink RX1 19 "BorderHouse" "heldOfTrader" "[I", .fieldLink RX1 16 "BorderHouse" "guaranteeOfTrader" "[I", .methodLink RX1 56 yX1_checkTrader, .static yX1_checkTrader, .code yX1_checkTrader cX1_checkTrader 1 none, .methodLink RX1 48 yX1_checkRange, .static yX1_checkRange, .code yX1_checkRange cX1_checkRange 3 none, .classLink RX1 142 "java/lang/IllegalArgumentException", .initialized "java/lang/IllegalArgumentException"] ++ wsX10 ++ (vx_atS RX1 64 "java/lang/IllegalStateException" ["java/lang/RuntimeException", "java/lang/Exception"]).filter goodWord ++ (vx_atS RX1 146 "java/lang/IllegalArgumentException" ["java/lang/RuntimeException", "java/lang/Exception"]).filter goodWord)
def wsL_announce_r1 : List Cond := [Cond.classLink RL 13 "java/lang/IllegalArgumentException", Cond.classLink RL 22 "java/lang/IllegalStateException", Cond.methodLink RL 24 yX1_announce, Cond.instanceMethod yX1_announce, Cond.selects RX1 yX1_announce yX1_announce, Cond.initialized RX1, Cond.code yX1_announce cX1_announce 4 (some .int), Cond.classLink RX1 60 "java/lang/IllegalStateException", Cond.initialized "java/lang/IllegalStateException", Cond.fieldLink RX1 31 "BorderHouse" "announced" "I", Cond.fieldLink RX1 27 "BorderHouse" "consignments" "[LBorderHouse$Consignment;", Cond.classLink RX1 25 RX0, Cond.instantiable RX0 12, Cond.initialized RX0, Cond.methodLink RX1 56 yX1_checkTrader, Cond.static yX1_checkTrader, Cond.code yX1_checkTrader cX1_checkTrader 1 none, Cond.methodLink RX1 48 yX1_checkRange, Cond.static yX1_checkRange, Cond.code yX1_checkRange cX1_checkRange 3 none, Cond.classLink RX1 142 "java/lang/IllegalArgumentException", Cond.initialized "java/lang/IllegalArgumentException", Cond.methodLink RX1 67 yX1_checkSeal, Cond.static yX1_checkSeal]
def wsL_announce_r2 : List Cond := [Cond.code yX1_checkSeal cX1_checkSeal 1 none, Cond.methodLink RX1 72 yX0_init, Cond.instanceMethod yX0_init, Cond.code yX0_init cX0_init 3 none, Cond.methodLink RX0 3 objectInit, Cond.instanceMethod objectInit, Cond.code objectInit ⟨#[0xb1]⟩ 1 none, Cond.arrayClass .int, Cond.fieldLink RX0 9 "BorderHouse$Consignment" "declared" "[I", Cond.fieldLink RX0 15 "BorderHouse$Consignment" "dutyTakenDown" "[I", Cond.fieldLink RX0 18 "BorderHouse$Consignment" "goods" "[I", Cond.fieldLink RX0 21 "BorderHouse$Consignment" "stage" "I", Cond.fieldLink RX0 25 "BorderHouse$Consignment" "version" "I", Cond.fieldLink RX0 28 "BorderHouse$Consignment" "papers" "I", Cond.fieldLink RX0 31 "BorderHouse$Consignment" "sortsSearched" "I", Cond.fieldLink RX0 34 "BorderHouse$Consignment" "unitsLeft" "I", Cond.fieldLink RX0 37 "BorderHouse$Consignment" "sealBroken" "Z", Cond.fieldLink RX0 41 "BorderHouse$Consignment" "isSample" "Z", Cond.fieldLink RX0 44 "BorderHouse$Consignment" "trader" "I", Cond.fieldLink RX0 47 "BorderHouse$Consignment" "sealNumber" "I"]
def wsL_announce : List Cond := .codeWith yL_announce cL_announce 5 (some .int) [(0, 10, 13, 13), (0, 10, 17, 22)] :: ((wsL_announce_r1 ++ wsL_announce_r2) ++ wsX10 ++ wsX00 ++ (vx_atS RX1 64 "java/lang/IllegalStateException" ["java/lang/RuntimeException", "java/lang/Exception"]).filter goodWord ++ (vx_atS RX1 146 "java/lang/IllegalArgumentException" ["java/lang/RuntimeException", "java/lang/Exception"]).filter goodWord)
def wsL_amend_r1 : List Cond := [Cond.classLink RL 31 "java/lang/IndexOutOfBoundsException", Cond.classLink RL 13 "java/lang/IllegalArgumentException", Cond.classLink RL 22 "java/lang/IllegalStateException", Cond.methodLink RL 27 yX1_amend, Cond.instanceMethod yX1_amend, Cond.selects RX1 yX1_amend yX1_amend, Cond.initialized RX1, Cond.code yX1_amend cX1_amend 5 (some .int), Cond.classLink RX1 60 "java/lang/IllegalStateException", Cond.initialized "java/lang/IllegalStateException", Cond.fieldLink RX1 79 "BorderHouse$Consignment" "stage" "I", Cond.fieldLink RX1 84 "BorderHouse$Consignment" "declared" "[I", Cond.fieldLink RX1 89 "BorderHouse$Consignment" "version" "I", Cond.methodLink RX1 75 yX1_findConsignment, Cond.instanceMethod yX1_findConsignment, Cond.selects RX1 yX1_findConsignment yX1_findConsignment, Cond.code yX1_findConsignment cX1_findConsignment 3 (some (.object "BorderHouse$Consignment")), Cond.classLink RX1 162 "java/lang/IndexOutOfBoundsException", Cond.initialized "java/lang/IndexOutOfBoundsException", Cond.fieldLink RX1 27 "BorderHouse" "consignments" "[LBorderHouse$Consignment;", Cond.methodLink RX1 44 yX1_checkSort, Cond.static yX1_checkSort, Cond.code yX1_checkSort cX1_checkSort 1 none, Cond.methodLink RX1 48 yX1_checkRange]
def wsL_amend_r2 : List Cond := [Cond.static yX1_checkRange, Cond.code yX1_checkRange cX1_checkRange 3 none, Cond.classLink RX1 142 "java/lang/IllegalArgumentException", Cond.initialized "java/lang/IllegalArgumentException"]
def wsL_amend : List Cond := .codeWith yL_amend cL_amend 6 (some .int) [(0, 12, 15, 31), (0, 12, 19, 13), (0, 12, 23, 22)] :: ((wsL_amend_r1 ++ wsL_amend_r2) ++ wsX00 ++ wsX10 ++ (vx_atS RX1 64 "java/lang/IllegalStateException" ["java/lang/RuntimeException", "java/lang/Exception"]).filter goodWord ++ (vx_atS RX1 166 "java/lang/IndexOutOfBoundsException" ["java/lang/RuntimeException", "java/lang/Exception"]).filter goodWord ++ (vx_atS RX1 146 "java/lang/IllegalArgumentException" ["java/lang/RuntimeException", "java/lang/Exception"]).filter goodWord)
def wsL_arrive_r1 : List Cond := [Cond.classLink RL 31 "java/lang/IndexOutOfBoundsException", Cond.classLink RL 13 "java/lang/IllegalArgumentException", Cond.classLink RL 22 "java/lang/IllegalStateException", Cond.methodLink RL 33 yX1_arrive, Cond.instanceMethod yX1_arrive, Cond.selects RX1 yX1_arrive yX1_arrive, Cond.initialized RX1, Cond.code yX1_arrive cX1_arrive 4 (some .boolean), Cond.classLink RX1 60 "java/lang/IllegalStateException", Cond.initialized "java/lang/IllegalStateException", Cond.fieldLink RX1 79 "BorderHouse$Consignment" "stage" "I", Cond.fieldLink RX1 35 "BorderHouse" "arrivals" "I", Cond.fieldLink RX1 97 "BorderHouse$Consignment" "sealNumber" "I", Cond.fieldLink RX1 100 "BorderHouse$Consignment" "sealBroken" "Z", Cond.fieldLink RX1 41 "BorderHouse" "sampleStep" "I", Cond.fieldLink RX1 104 "BorderHouse$Consignment" "isSample" "Z", Cond.methodLink RX1 75 yX1_findConsignment, Cond.instanceMethod yX1_findConsignment, Cond.selects RX1 yX1_findConsignment yX1_findConsignment, Cond.code yX1_findConsignment cX1_findConsignment 3 (some (.object "BorderHouse$Consignment")), Cond.classLink RX1 162 "java/lang/IndexOutOfBoundsException", Cond.initialized "java/lang/IndexOutOfBoundsException", Cond.fieldLink RX1 27 "BorderHouse" "consignments" "[LBorderHouse$Consignment;", Cond.methodLink RX1 67 yX1_checkSeal]
def wsL_arrive_r2 : List Cond := [Cond.static yX1_checkSeal, Cond.code yX1_checkSeal cX1_checkSeal 1 none, Cond.methodLink RX1 48 yX1_checkRange, Cond.static yX1_checkRange, Cond.code yX1_checkRange cX1_checkRange 3 none, Cond.classLink RX1 142 "java/lang/IllegalArgumentException", Cond.initialized "java/lang/IllegalArgumentException", Cond.methodLink RX1 92 yX0_totalDeclared, Cond.instanceMethod yX0_totalDeclared, Cond.selects RX0 yX0_totalDeclared yX0_totalDeclared, Cond.initialized RX0, Cond.code yX0_totalDeclared cX0_totalDeclared 6 (some .int), Cond.fieldLink RX0 9 "BorderHouse$Consignment" "declared" "[I", Cond.methodLink RX1 107 yX1_hasToBeSearched, Cond.instanceMethod yX1_hasToBeSearched, Cond.selects RX1 yX1_hasToBeSearched yX1_hasToBeSearched, Cond.code yX1_hasToBeSearched cX1_hasToBeSearched 2 (some .boolean), Cond.fieldLink RX1 38 "BorderHouse" "searchMark" "I", Cond.methodLink RX1 171 yX0_wasSearched, Cond.instanceMethod yX0_wasSearched, Cond.selects RX0 yX0_wasSearched yX0_wasSearched, Cond.code yX0_wasSearched cX0_wasSearched 1 (some .boolean), Cond.fieldLink RX0 31 "BorderHouse$Consignment" "sortsSearched" "I", Cond.methodLink RX1 113 yX1_riskOf]
def wsL_arrive_r3 : List Cond := [Cond.instanceMethod yX1_riskOf, Cond.selects RX1 yX1_riskOf yX1_riskOf, Cond.code yX1_riskOf cX1_riskOf 4 (some .int), Cond.fieldLink RX1 84 "BorderHouse$Consignment" "declared" "[I", Cond.fieldLink RX1 13 "BorderHouse" "weightOfSort" "[I", Cond.fieldLink RX1 89 "BorderHouse$Consignment" "version" "I"]
def wsL_arrive : List Cond := .codeWith yL_arrive cL_arrive 5 (some .int) [(0, 17, 20, 31), (0, 17, 24, 13), (0, 17, 28, 22)] :: ((wsL_arrive_r1 ++ (wsL_arrive_r2 ++ wsL_arrive_r3)) ++ wsX00 ++ wsX10 ++ (vx_atS RX1 64 "java/lang/IllegalStateException" ["java/lang/RuntimeException", "java/lang/Exception"]).filter goodWord ++ (vx_atS RX1 166 "java/lang/IndexOutOfBoundsException" ["java/lang/RuntimeException", "java/lang/Exception"]).filter goodWord ++ (vx_atS RX1 146 "java/lang/IllegalArgumentException" ["java/lang/RuntimeException", "java/lang/Exception"]).filter goodWord)
def wsL_risk_r1 : List Cond := [Cond.classLink RL 31 "java/lang/IndexOutOfBoundsException", Cond.classLink RL 22 "java/lang/IllegalStateException", Cond.methodLink RL 37 yX1_risk, Cond.instanceMethod yX1_risk, Cond.selects RX1 yX1_risk yX1_risk, Cond.initialized RX1, Cond.code yX1_risk cX1_risk 3 (some .int), Cond.classLink RX1 60 "java/lang/IllegalStateException", Cond.initialized "java/lang/IllegalStateException", Cond.fieldLink RX1 79 "BorderHouse$Consignment" "stage" "I", Cond.methodLink RX1 75 yX1_findConsignment, Cond.instanceMethod yX1_findConsignment, Cond.selects RX1 yX1_findConsignment yX1_findConsignment, Cond.code yX1_findConsignment cX1_findConsignment 3 (some (.object "BorderHouse$Consignment")), Cond.classLink RX1 162 "java/lang/IndexOutOfBoundsException", Cond.initialized "java/lang/IndexOutOfBoundsException", Cond.fieldLink RX1 27 "BorderHouse" "consignments" "[LBorderHouse$Consignment;", Cond.methodLink RX1 113 yX1_riskOf, Cond.instanceMethod yX1_riskOf, Cond.selects RX1 yX1_riskOf yX1_riskOf, Cond.code yX1_riskOf cX1_riskOf 4 (some .int), Cond.fieldLink RX1 84 "BorderHouse$Consignment" "declared" "[I", Cond.fieldLink RX1 13 "BorderHouse" "weightOfSort" "[I", Cond.fieldLink RX1 89 "BorderHouse$Consignment" "version" "I"]
def wsL_risk_r2 : List Cond := [Cond.fieldLink RX1 100 "BorderHouse$Consignment" "sealBroken" "Z"]
def wsL_risk : List Cond := .codeWith yL_risk cL_risk 4 (some .int) [(0, 9, 12, 31), (0, 9, 15, 22)] :: ((wsL_risk_r1 ++ wsL_risk_r2) ++ wsX00 ++ wsX10 ++ (vx_atS RX1 64 "java/lang/IllegalStateException" ["java/lang/RuntimeException", "java/lang/Exception"]).filter goodWord ++ (vx_atS RX1 166 "java/lang/IndexOutOfBoundsException" ["java/lang/RuntimeException", "java/lang/Exception"]).filter goodWord)
def wsL_mustSearch_r1 : List Cond := [Cond.classLink RL 31 "java/lang/IndexOutOfBoundsException", Cond.methodLink RL 41 yX1_mustSearch, Cond.instanceMethod yX1_mustSearch, Cond.selects RX1 yX1_mustSearch yX1_mustSearch, Cond.initialized RX1, Cond.code yX1_mustSearch cX1_mustSearch 2 (some .boolean), Cond.methodLink RX1 75 yX1_findConsignment, Cond.instanceMethod yX1_findConsignment, Cond.selects RX1 yX1_findConsignment yX1_findConsignment, Cond.code yX1_findConsignment cX1_findConsignment 3 (some (.object "BorderHouse$Consignment")), Cond.classLink RX1 162 "java/lang/IndexOutOfBoundsException", Cond.initialized "java/lang/IndexOutOfBoundsException", Cond.fieldLink RX1 27 "BorderHouse" "consignments" "[LBorderHouse$Consignment;", Cond.methodLink RX1 107 yX1_hasToBeSearched, Cond.instanceMethod yX1_hasToBeSearched, Cond.selects RX1 yX1_hasToBeSearched yX1_hasToBeSearched, Cond.code yX1_hasToBeSearched cX1_hasToBeSearched 2 (some .boolean), Cond.fieldLink RX1 79 "BorderHouse$Consignment" "stage" "I", Cond.fieldLink RX1 104 "BorderHouse$Consignment" "isSample" "Z", Cond.fieldLink RX1 38 "BorderHouse" "searchMark" "I", Cond.methodLink RX1 171 yX0_wasSearched, Cond.instanceMethod yX0_wasSearched, Cond.selects RX0 yX0_wasSearched yX0_wasSearched, Cond.initialized RX0]
def wsL_mustSearch_r2 : List Cond := [Cond.code yX0_wasSearched cX0_wasSearched 1 (some .boolean), Cond.fieldLink RX0 31 "BorderHouse$Consignment" "sortsSearched" "I", Cond.methodLink RX1 113 yX1_riskOf, Cond.instanceMethod yX1_riskOf, Cond.selects RX1 yX1_riskOf yX1_riskOf, Cond.code yX1_riskOf cX1_riskOf 4 (some .int), Cond.fieldLink RX1 84 "BorderHouse$Consignment" "declared" "[I", Cond.fieldLink RX1 13 "BorderHouse" "weightOfSort" "[I", Cond.fieldLink RX1 89 "BorderHouse$Consignment" "version" "I", Cond.fieldLink RX1 100 "BorderHouse$Consignment" "sealBroken" "Z"]
def wsL_mustSearch : List Cond := .codeWith yL_mustSearch cL_mustSearch 4 (some .int) [(0, 16, 19, 31)] :: ((wsL_mustSearch_r1 ++ wsL_mustSearch_r2) ++ wsX10 ++ wsX00 ++ (vx_atS RX1 166 "java/lang/IndexOutOfBoundsException" ["java/lang/RuntimeException", "java/lang/Exception"]).filter goodWord)
def wsL_search_r1 : List Cond := [Cond.classLink RL 31 "java/lang/IndexOutOfBoundsException", Cond.classLink RL 13 "java/lang/IllegalArgumentException", Cond.classLink RL 22 "java/lang/IllegalStateException", Cond.methodLink RL 45 yX1_search, Cond.instanceMethod yX1_search, Cond.selects RX1 yX1_search yX1_search, Cond.initialized RX1, Cond.code yX1_search cX1_search 5 (some .int), Cond.classLink RX1 60 "java/lang/IllegalStateException", Cond.initialized "java/lang/IllegalStateException", Cond.fieldLink RX1 79 "BorderHouse$Consignment" "stage" "I", Cond.fieldLink RX1 122 "BorderHouse$Consignment" "papers" "I", Cond.methodLink RX1 75 yX1_findConsignment, Cond.instanceMethod yX1_findConsignment, Cond.selects RX1 yX1_findConsignment yX1_findConsignment, Cond.code yX1_findConsignment cX1_findConsignment 3 (some (.object "BorderHouse$Consignment")), Cond.classLink RX1 162 "java/lang/IndexOutOfBoundsException", Cond.initialized "java/lang/IndexOutOfBoundsException", Cond.fieldLink RX1 27 "BorderHouse" "consignments" "[LBorderHouse$Consignment;", Cond.methodLink RX1 44 yX1_checkSort, Cond.static yX1_checkSort, Cond.code yX1_checkSort cX1_checkSort 1 none, Cond.methodLink RX1 48 yX1_checkRange, Cond.static yX1_checkRange]
def wsL_search_r2 : List Cond := [Cond.code yX1_checkRange cX1_checkRange 3 none, Cond.classLink RX1 142 "java/lang/IllegalArgumentException", Cond.initialized "java/lang/IllegalArgumentException", Cond.methodLink RX1 119 yX0_noteSearch, Cond.instanceMethod yX0_noteSearch, Cond.selects RX0 yX0_noteSearch yX0_noteSearch, Cond.initialized RX0, Cond.code yX0_noteSearch cX0_noteSearch 3 none, Cond.fieldLink RX0 9 "BorderHouse$Consignment" "declared" "[I", Cond.fieldLink RX0 28 "BorderHouse$Consignment" "papers" "I", Cond.fieldLink RX0 31 "BorderHouse$Consignment" "sortsSearched" "I"]
def wsL_search : List Cond := .codeWith yL_search cL_search 6 (some .int) [(0, 12, 15, 31), (0, 12, 19, 13), (0, 12, 23, 22)] :: ((wsL_search_r1 ++ wsL_search_r2) ++ wsX00 ++ wsX10 ++ (vx_atS RX1 64 "java/lang/IllegalStateException" ["java/lang/RuntimeException", "java/lang/Exception"]).filter goodWord ++ (vx_atS RX1 166 "java/lang/IndexOutOfBoundsException" ["java/lang/RuntimeException", "java/lang/Exception"]).filter goodWord ++ (vx_atS RX1 146 "java/lang/IllegalArgumentException" ["java/lang/RuntimeException", "java/lang/Exception"]).filter goodWord)
def wsL_bond_r1 : List Cond := [Cond.classLink RL 31 "java/lang/IndexOutOfBoundsException", Cond.classLink RL 13 "java/lang/IllegalArgumentException", Cond.classLink RL 22 "java/lang/IllegalStateException", Cond.methodLink RL 48 yX1_bond, Cond.instanceMethod yX1_bond, Cond.selects RX1 yX1_bond yX1_bond, Cond.initialized RX1, Cond.code yX1_bond cX1_bond 5 (some .int), Cond.classLink RX1 60 "java/lang/IllegalStateException", Cond.initialized "java/lang/IllegalStateException", Cond.fieldLink RX1 79 "BorderHouse$Consignment" "stage" "I", Cond.fieldLink RX1 19 "BorderHouse" "heldOfTrader" "[I", Cond.fieldLink RX1 133 "BorderHouse$Consignment" "trader" "I", Cond.fieldLink RX1 16 "BorderHouse" "guaranteeOfTrader" "[I", Cond.fieldLink RX1 9 "BorderHouse" "dutyOfSort" "[I", Cond.methodLink RX1 75 yX1_findConsignment, Cond.instanceMethod yX1_findConsignment, Cond.selects RX1 yX1_findConsignment yX1_findConsignment, Cond.code yX1_findConsignment cX1_findConsignment 3 (some (.object "BorderHouse$Consignment")), Cond.classLink RX1 162 "java/lang/IndexOutOfBoundsException", Cond.initialized "java/lang/IndexOutOfBoundsException", Cond.fieldLink RX1 27 "BorderHouse" "consignments" "[LBorderHouse$Consignment;", Cond.methodLink RX1 125 yX1_checkStore, Cond.static yX1_checkStore]
def wsL_bond_r2 : List Cond := [Cond.code yX1_checkStore cX1_checkStore 1 none, Cond.methodLink RX1 48 yX1_checkRange, Cond.static yX1_checkRange, Cond.code yX1_checkRange cX1_checkRange 3 none, Cond.classLink RX1 142 "java/lang/IllegalArgumentException", Cond.initialized "java/lang/IllegalArgumentException", Cond.methodLink RX1 107 yX1_hasToBeSearched, Cond.instanceMethod yX1_hasToBeSearched, Cond.selects RX1 yX1_hasToBeSearched yX1_hasToBeSearched, Cond.code yX1_hasToBeSearched cX1_hasToBeSearched 2 (some .boolean), Cond.fieldLink RX1 104 "BorderHouse$Consignment" "isSample" "Z", Cond.fieldLink RX1 38 "BorderHouse" "searchMark" "I", Cond.methodLink RX1 171 yX0_wasSearched, Cond.instanceMethod yX0_wasSearched, Cond.selects RX0 yX0_wasSearched yX0_wasSearched, Cond.initialized RX0, Cond.code yX0_wasSearched cX0_wasSearched 1 (some .boolean), Cond.fieldLink RX0 31 "BorderHouse$Consignment" "sortsSearched" "I", Cond.methodLink RX1 113 yX1_riskOf, Cond.instanceMethod yX1_riskOf, Cond.selects RX1 yX1_riskOf yX1_riskOf, Cond.code yX1_riskOf cX1_riskOf 4 (some .int), Cond.fieldLink RX1 84 "BorderHouse$Consignment" "declared" "[I", Cond.fieldLink RX1 13 "BorderHouse" "weightOfSort" "[I"]
def wsL_bond_r3 : List Cond := [Cond.fieldLink RX1 89 "BorderHouse$Consignment" "version" "I", Cond.fieldLink RX1 100 "BorderHouse$Consignment" "sealBroken" "Z", Cond.methodLink RX1 130 yX1_dutyNow, Cond.instanceMethod yX1_dutyNow, Cond.selects RX1 yX1_dutyNow yX1_dutyNow, Cond.code yX1_dutyNow cX1_dutyNow 4 (some .int), Cond.methodLink RX1 138 yX0_enterStore, Cond.instanceMethod yX0_enterStore, Cond.selects RX0 yX0_enterStore yX0_enterStore, Cond.code yX0_enterStore cX0_enterStore 4 none, Cond.fieldLink RX0 18 "BorderHouse$Consignment" "goods" "[I", Cond.fieldLink RX0 9 "BorderHouse$Consignment" "declared" "[I", Cond.fieldLink RX0 15 "BorderHouse$Consignment" "dutyTakenDown" "[I", Cond.fieldLink RX0 34 "BorderHouse$Consignment" "unitsLeft" "I", Cond.fieldLink RX0 21 "BorderHouse$Consignment" "stage" "I", Cond.static yX1_placeOf, Cond.code yX1_placeOf cX1_placeOf 2 (some .int), Cond.methodLink RX0 54 yX0_totalDeclared, Cond.instanceMethod yX0_totalDeclared, Cond.selects RX0 yX0_totalDeclared yX0_totalDeclared, Cond.code yX0_totalDeclared cX0_totalDeclared 6 (some .int)]
def wsL_bond : List Cond := .codeWith yL_bond cL_bond 5 (some .int) [(0, 10, 13, 31), (0, 10, 17, 13), (0, 10, 21, 22)] :: ((wsL_bond_r1 ++ (wsL_bond_r2 ++ wsL_bond_r3)) ++ wsX00 ++ wsX10 ++ (vx_atS RX1 64 "java/lang/IllegalStateException" ["java/lang/RuntimeException", "java/lang/Exception"]).filter goodWord ++ (vx_atS RX1 166 "java/lang/IndexOutOfBoundsException" ["java/lang/RuntimeException", "java/lang/Exception"]).filter goodWord ++ (vx_atS RX1 146 "java/lang/IllegalArgumentException" ["java/lang/RuntimeException", "java/lang/Exception"]).filter goodWord)
def wsL_move_r1 : List Cond := [Cond.classLink RL 31 "java/lang/IndexOutOfBoundsException", Cond.classLink RL 13 "java/lang/IllegalArgumentException", Cond.classLink RL 22 "java/lang/IllegalStateException", Cond.methodLink RL 51 yX1_move, Cond.instanceMethod yX1_move, Cond.selects RX1 yX1_move yX1_move, Cond.initialized RX1, Cond.code yX1_move cX1_move 8 (some .int), Cond.classLink RX1 142 "java/lang/IllegalArgumentException", Cond.initialized "java/lang/IllegalArgumentException", Cond.fieldLink RX1 155 "BorderHouse$Consignment" "goods" "[I", Cond.methodLink RX1 75 yX1_findConsignment, Cond.instanceMethod yX1_findConsignment, Cond.selects RX1 yX1_findConsignment yX1_findConsignment, Cond.code yX1_findConsignment cX1_findConsignment 3 (some (.object "BorderHouse$Consignment")), Cond.classLink RX1 162 "java/lang/IndexOutOfBoundsException", Cond.initialized "java/lang/IndexOutOfBoundsException", Cond.fieldLink RX1 27 "BorderHouse" "consignments" "[LBorderHouse$Consignment;", Cond.methodLink RX1 125 yX1_checkStore, Cond.static yX1_checkStore, Cond.code yX1_checkStore cX1_checkStore 1 none, Cond.methodLink RX1 48 yX1_checkRange, Cond.static yX1_checkRange, Cond.code yX1_checkRange cX1_checkRange 3 none]
def wsL_move_r2 : List Cond := [Cond.methodLink RX1 147 yX1_checkTaking, Cond.static yX1_checkTaking, Cond.code yX1_checkTaking cX1_checkTaking 4 none, Cond.classLink RX1 60 "java/lang/IllegalStateException", Cond.initialized "java/lang/IllegalStateException", Cond.methodLink RX1 44 yX1_checkSort, Cond.static yX1_checkSort, Cond.code yX1_checkSort cX1_checkSort 1 none, Cond.methodLink RX1 151 yX1_placeOf, Cond.static yX1_placeOf, Cond.code yX1_placeOf cX1_placeOf 2 (some .int)]
def wsL_move : List Cond := .codeWith yL_move cL_move 8 (some .int) [(0, 16, 19, 31), (0, 16, 23, 13), (0, 16, 27, 22)] :: ((wsL_move_r1 ++ wsL_move_r2) ++ wsX00 ++ wsX10 ++ (vx_atS RX1 146 "java/lang/IllegalArgumentException" ["java/lang/RuntimeException", "java/lang/Exception"]).filter goodWord ++ (vx_atS RX1 166 "java/lang/IndexOutOfBoundsException" ["java/lang/RuntimeException", "java/lang/Exception"]).filter goodWord ++ (vx_atS RX1 64 "java/lang/IllegalStateException" ["java/lang/RuntimeException", "java/lang/Exception"]).filter goodWord)
def wsL_free_r1 : List Cond := [Cond.classLink RL 31 "java/lang/IndexOutOfBoundsException", Cond.classLink RL 13 "java/lang/IllegalArgumentException", Cond.classLink RL 22 "java/lang/IllegalStateException", Cond.methodLink RL 55 yX1_free, Cond.instanceMethod yX1_free, Cond.selects RX1 yX1_free yX1_free, Cond.initialized RX1, Cond.code yX1_free cX1_free 7 (some .int), Cond.fieldLink RX1 22 "BorderHouse" "paidByTrader" "[I", Cond.fieldLink RX1 133 "BorderHouse$Consignment" "trader" "I", Cond.methodLink RX1 75 yX1_findConsignment, Cond.instanceMethod yX1_findConsignment, Cond.selects RX1 yX1_findConsignment yX1_findConsignment, Cond.code yX1_findConsignment cX1_findConsignment 3 (some (.object "BorderHouse$Consignment")), Cond.classLink RX1 162 "java/lang/IndexOutOfBoundsException", Cond.initialized "java/lang/IndexOutOfBoundsException", Cond.fieldLink RX1 27 "BorderHouse" "consignments" "[LBorderHouse$Consignment;", Cond.methodLink RX1 147 yX1_checkTaking, Cond.static yX1_checkTaking, Cond.code yX1_checkTaking cX1_checkTaking 4 none, Cond.classLink RX1 60 "java/lang/IllegalStateException", Cond.initialized "java/lang/IllegalStateException", Cond.fieldLink RX1 155 "BorderHouse$Consignment" "goods" "[I", Cond.methodLink RX1 44 yX1_checkSort]
def wsL_free_r2 : List Cond := [Cond.static yX1_checkSort, Cond.code yX1_checkSort cX1_checkSort 1 none, Cond.methodLink RX1 48 yX1_checkRange, Cond.static yX1_checkRange, Cond.code yX1_checkRange cX1_checkRange 3 none, Cond.classLink RX1 142 "java/lang/IllegalArgumentException", Cond.initialized "java/lang/IllegalArgumentException", Cond.methodLink RX1 125 yX1_checkStore, Cond.static yX1_checkStore, Cond.code yX1_checkStore cX1_checkStore 1 none, Cond.methodLink RX1 151 yX1_placeOf, Cond.static yX1_placeOf, Cond.code yX1_placeOf cX1_placeOf 2 (some .int), Cond.methodLink RX1 158 yX1_takeOut, Cond.instanceMethod yX1_takeOut, Cond.selects RX1 yX1_takeOut yX1_takeOut, Cond.code yX1_takeOut cX1_takeOut 6 (some .int), Cond.fieldLink RX1 175 "BorderHouse$Consignment" "dutyTakenDown" "[I", Cond.fieldLink RX1 19 "BorderHouse" "heldOfTrader" "[I", Cond.fieldLink RX1 178 "BorderHouse$Consignment" "unitsLeft" "I", Cond.fieldLink RX1 79 "BorderHouse$Consignment" "stage" "I"]
def wsL_free : List Cond := .codeWith yL_free cL_free 7 (some .int) [(0, 14, 17, 31), (0, 14, 21, 13), (0, 14, 25, 22)] :: ((wsL_free_r1 ++ wsL_free_r2) ++ wsX10 ++ wsX00 ++ (vx_atS RX1 166 "java/lang/IndexOutOfBoundsException" ["java/lang/RuntimeException", "java/lang/Exception"]).filter goodWord ++ (vx_atS RX1 64 "java/lang/IllegalStateException" ["java/lang/RuntimeException", "java/lang/Exception"]).filter goodWord ++ (vx_atS RX1 146 "java/lang/IllegalArgumentException" ["java/lang/RuntimeException", "java/lang/Exception"]).filter goodWord)
def wsL_sendBack_r1 : List Cond := [Cond.classLink RL 31 "java/lang/IndexOutOfBoundsException", Cond.classLink RL 13 "java/lang/IllegalArgumentException", Cond.classLink RL 22 "java/lang/IllegalStateException", Cond.methodLink RL 59 yX1_sendBack, Cond.instanceMethod yX1_sendBack, Cond.selects RX1 yX1_sendBack yX1_sendBack, Cond.initialized RX1, Cond.code yX1_sendBack cX1_sendBack 6 (some .int), Cond.methodLink RX1 75 yX1_findConsignment, Cond.instanceMethod yX1_findConsignment, Cond.selects RX1 yX1_findConsignment yX1_findConsignment, Cond.code yX1_findConsignment cX1_findConsignment 3 (some (.object "BorderHouse$Consignment")), Cond.classLink RX1 162 "java/lang/IndexOutOfBoundsException", Cond.initialized "java/lang/IndexOutOfBoundsException", Cond.fieldLink RX1 27 "BorderHouse" "consignments" "[LBorderHouse$Consignment;", Cond.methodLink RX1 147 yX1_checkTaking, Cond.static yX1_checkTaking, Cond.code yX1_checkTaking cX1_checkTaking 4 none, Cond.classLink RX1 60 "java/lang/IllegalStateException", Cond.initialized "java/lang/IllegalStateException", Cond.fieldLink RX1 155 "BorderHouse$Consignment" "goods" "[I", Cond.methodLink RX1 44 yX1_checkSort, Cond.static yX1_checkSort, Cond.code yX1_checkSort cX1_checkSort 1 none]
def wsL_sendBack_r2 : List Cond := [Cond.methodLink RX1 48 yX1_checkRange, Cond.static yX1_checkRange, Cond.code yX1_checkRange cX1_checkRange 3 none, Cond.classLink RX1 142 "java/lang/IllegalArgumentException", Cond.initialized "java/lang/IllegalArgumentException", Cond.methodLink RX1 125 yX1_checkStore, Cond.static yX1_checkStore, Cond.code yX1_checkStore cX1_checkStore 1 none, Cond.methodLink RX1 151 yX1_placeOf, Cond.static yX1_placeOf, Cond.code yX1_placeOf cX1_placeOf 2 (some .int), Cond.methodLink RX1 158 yX1_takeOut, Cond.instanceMethod yX1_takeOut, Cond.selects RX1 yX1_takeOut yX1_takeOut, Cond.code yX1_takeOut cX1_takeOut 6 (some .int), Cond.fieldLink RX1 175 "BorderHouse$Consignment" "dutyTakenDown" "[I", Cond.fieldLink RX1 19 "BorderHouse" "heldOfTrader" "[I", Cond.fieldLink RX1 133 "BorderHouse$Consignment" "trader" "I", Cond.fieldLink RX1 178 "BorderHouse$Consignment" "unitsLeft" "I", Cond.fieldLink RX1 79 "BorderHouse$Consignment" "stage" "I"]
def wsL_sendBack : List Cond := .codeWith yL_sendBack cL_sendBack 7 (some .int) [(0, 14, 17, 31), (0, 14, 21, 13), (0, 14, 25, 22)] :: ((wsL_sendBack_r1 ++ wsL_sendBack_r2) ++ wsX10 ++ wsX00 ++ (vx_atS RX1 166 "java/lang/IndexOutOfBoundsException" ["java/lang/RuntimeException", "java/lang/Exception"]).filter goodWord ++ (vx_atS RX1 64 "java/lang/IllegalStateException" ["java/lang/RuntimeException", "java/lang/Exception"]).filter goodWord ++ (vx_atS RX1 146 "java/lang/IllegalArgumentException" ["java/lang/RuntimeException", "java/lang/Exception"]).filter goodWord)
def wsL_state : List Cond := .codeWith yL_state cL_state 4 (some .int) [(0, 9, 12, 31)] :: ([.classLink RL 31 "java/lang/IndexOutOfBoundsException", .methodLink RL 62 yX1_state, .instanceMethod yX1_state, .selects RX1 yX1_state yX1_state, .initialized RX1, .code yX1_state cX1_state 2 (some .int), .fieldLink RX1 79 "BorderHouse$Consignment" "stage" "I", .methodLink RX1 75 yX1_findConsignment, .instanceMethod yX1_findConsignment, .selects RX1 yX1_findConsignment yX1_findConsignment, .code yX1_findConsignment cX1_findConsignment 3 (some (.object "BorderHouse$Consignment")), .classLink RX1 162 "java/lang/IndexOutOfBoundsException", .initialized "java/lang/IndexOutOfBoundsException", .fieldLink RX1 27 "BorderHouse" "consignments" "[LBorderHouse$Consignment;"] ++ wsX00 ++ wsX10 ++ (vx_atS RX1 166 "java/lang/IndexOutOfBoundsException" ["java/lang/RuntimeException", "java/lang/Exception"]).filter goodWord)
def wsL_manifest : List Cond := .codeWith yL_manifest cL_manifest 5 (some .int) [(0, 10, 13, 31), (0, 10, 17, 13)] :: ([.classLink RL 31 "java/lang/IndexOutOfBoundsException", .classLink RL 13 "java/lang/IllegalArgumentException", .methodLink RL 65 yX1_manifest, .instanceMethod yX1_manifest, .selects RX1 yX1_manifest yX1_manifest, .initialized RX1, .code yX1_manifest cX1_manifest 4 (some .int), .fieldLink RX1 84 "BorderHouse$Consignment" "declared" "[I", .methodLink RX1 75 yX1_findConsignment, .instanceMethod yX1_findConsignment, .selects RX1 yX1_findConsignment yX1_findConsignment, .code yX1_findConsignment cX1_findConsignment 3 (some (.object "BorderHouse$Consignment")), .classLink RX1 162 "java/lang/IndexOutOfBoundsException", .initialized "java/lang/IndexOutOfBoundsException", .fieldLink RX1 27 "BorderHouse" "consignments" "[LBorderHouse$Consignment;", .methodLink RX1 44 yX1_checkSort, .static yX1_checkSort, .code yX1_checkSort cX1_checkSort 1 none, .methodLink RX1 48 yX1_checkRange, .static yX1_checkRange, .code yX1_checkRange cX1_checkRange 3 none, .classLink RX1 142 "java/lang/IllegalArgumentException", .initialized "java/lang/IllegalArgumentException"] ++ wsX00 ++ wsX10 ++ (vx_atS RX1 166 "java/lang/IndexOutOfBoundsException" ["java/lang/RuntimeException", "java/lang/Exception"]).filter goodWord ++ (vx_atS RX1 146 "java/lang/IllegalArgumentException" ["java/lang/RuntimeException", "java/lang/Exception"]).filter goodWord)
def wsL_stored : List Cond := .codeWith yL_stored cL_stored 5 (some .int) [(0, 10, 13, 13)] :: ([.classLink RL 13 "java/lang/IllegalArgumentException", .methodLink RL 68 yX1_stored, .instanceMethod yX1_stored, .selects RX1 yX1_stored yX1_stored, .initialized RX1, .code yX1_stored cX1_stored 8 (some .int), .fieldLink RX1 27 "BorderHouse" "consignments" "[LBorderHouse$Consignment;", .fieldLink RX1 155 "BorderHouse$Consignment" "goods" "[I", .methodLink RX1 44 yX1_checkSort, .static yX1_checkSort, .code yX1_checkSort cX1_checkSort 1 none, .methodLink RX1 48 yX1_checkRange, .static yX1_checkRange, .code yX1_checkRange cX1_checkRange 3 none, .classLink RX1 142 "java/lang/IllegalArgumentException", .initialized "java/lang/IllegalArgumentException", .methodLink RX1 125 yX1_checkStore, .static yX1_checkStore, .code yX1_checkStore cX1_checkStore 1 none, .methodLink RX1 151 yX1_placeOf, .static yX1_placeOf, .code yX1_placeOf cX1_placeOf 2 (some .int)] ++ wsX10 ++ wsX00 ++ (vx_atS RX1 146 "java/lang/IllegalArgumentException" ["java/lang/RuntimeException", "java/lang/Exception"]).filter goodWord)
def wsL_held : List Cond := .codeWith yL_held cL_held 4 (some .int) [(0, 9, 12, 13)] :: ([.classLink RL 13 "java/lang/IllegalArgumentException", .methodLink RL 71 yX1_held, .instanceMethod yX1_held, .selects RX1 yX1_held yX1_held, .initialized RX1, .code yX1_held cX1_held 2 (some .int), .fieldLink RX1 19 "BorderHouse" "heldOfTrader" "[I", .methodLink RX1 56 yX1_checkTrader, .static yX1_checkTrader, .code yX1_checkTrader cX1_checkTrader 1 none, .methodLink RX1 48 yX1_checkRange, .static yX1_checkRange, .code yX1_checkRange cX1_checkRange 3 none, .classLink RX1 142 "java/lang/IllegalArgumentException", .initialized "java/lang/IllegalArgumentException"] ++ wsX10 ++ (vx_atS RX1 146 "java/lang/IllegalArgumentException" ["java/lang/RuntimeException", "java/lang/Exception"]).filter goodWord)
def wsL_paid : List Cond := .codeWith yL_paid cL_paid 4 (some .int) [(0, 9, 12, 13)] :: ([.classLink RL 13 "java/lang/IllegalArgumentException", .methodLink RL 74 yX1_paid, .instanceMethod yX1_paid, .selects RX1 yX1_paid yX1_paid, .initialized RX1, .code yX1_paid cX1_paid 2 (some .int), .fieldLink RX1 22 "BorderHouse" "paidByTrader" "[I", .methodLink RX1 56 yX1_checkTrader, .static yX1_checkTrader, .code yX1_checkTrader cX1_checkTrader 1 none, .methodLink RX1 48 yX1_checkRange, .static yX1_checkRange, .code yX1_checkRange cX1_checkRange 3 none, .classLink RX1 142 "java/lang/IllegalArgumentException", .initialized "java/lang/IllegalArgumentException"] ++ wsX10 ++ (vx_atS RX1 146 "java/lang/IllegalArgumentException" ["java/lang/RuntimeException", "java/lang/Exception"]).filter goodWord)
def wsL_law0_r1 : List Cond := [Cond.classLink RL 8 RX1, Cond.instantiable RX1 10, Cond.initialized RX1, Cond.classLink RL 78 RX2, Cond.instantiable RX2 21, Cond.initialized RX2, Cond.arrayClass .long, Cond.methodLink RL 77 yX1_init, Cond.instanceMethod yX1_init, Cond.code yX1_init cX1_init 2 none, Cond.methodLink RX1 1 objectInit, Cond.instanceMethod objectInit, Cond.code objectInit ⟨#[0xb1]⟩ 1 none, Cond.arrayClass .int, Cond.fieldLink RX1 9 "BorderHouse" "dutyOfSort" "[I", Cond.fieldLink RX1 13 "BorderHouse" "weightOfSort" "[I", Cond.fieldLink RX1 16 "BorderHouse" "guaranteeOfTrader" "[I", Cond.fieldLink RX1 19 "BorderHouse" "heldOfTrader" "[I", Cond.fieldLink RX1 22 "BorderHouse" "paidByTrader" "[I", Cond.classLink RX1 25 RX0, Cond.fieldLink RX1 27 "BorderHouse" "consignments" "[LBorderHouse$Consignment;", Cond.fieldLink RX1 31 "BorderHouse" "announced" "I", Cond.fieldLink RX1 35 "BorderHouse" "arrivals" "I", Cond.fieldLink RX1 38 "BorderHouse" "searchMark" "I"]
def wsL_law0_r2 : List Cond := [Cond.fieldLink RX1 41 "BorderHouse" "sampleStep" "I", Cond.methodLink RL 80 yX2_init, Cond.instanceMethod yX2_init, Cond.code yX2_init cX2_init 2 none, Cond.methodLink RX2 1 objectInit, Cond.fieldLink RX2 7 "BorderHouseModel" "duty" "[I", Cond.fieldLink RX2 13 "BorderHouseModel" "weight" "[I", Cond.fieldLink RX2 16 "BorderHouseModel" "mark" "I", Cond.fieldLink RX2 20 "BorderHouseModel" "guarantee" "[I", Cond.fieldLink RX2 23 "BorderHouseModel" "held" "[I", Cond.fieldLink RX2 26 "BorderHouseModel" "paid" "[I", Cond.fieldLink RX2 29 "BorderHouseModel" "trader" "[I", Cond.fieldLink RX2 32 "BorderHouseModel" "seal" "[I", Cond.fieldLink RX2 35 "BorderHouseModel" "state" "[I", Cond.fieldLink RX2 38 "BorderHouseModel" "version" "[I", Cond.fieldLink RX2 41 "BorderHouseModel" "papers" "[I", Cond.fieldLink RX2 44 "BorderHouseModel" "searched" "[I", Cond.arrayClass .boolean, Cond.fieldLink RX2 47 "BorderHouseModel" "isSample" "[Z", Cond.fieldLink RX2 51 "BorderHouseModel" "isBroken" "[Z", Cond.fieldLink RX2 54 "BorderHouseModel" "manifest" "[I", Cond.fieldLink RX2 57 "BorderHouseModel" "taken" "[I", Cond.fieldLink RX2 60 "BorderHouseModel" "stored" "[I", Cond.methodLink RL 81 yL_setSort]
def wsL_law0_r3 : List Cond := [Cond.static yL_setSort, Cond.initialized RL, Cond.codeWith yL_setSort cL_setSort 5 (some .int) [(0, 7, 10, 13)], Cond.classLink RL 13 "java/lang/IllegalArgumentException", Cond.methodLink RL 7 yX1_setSort, Cond.instanceMethod yX1_setSort, Cond.selects RX1 yX1_setSort yX1_setSort, Cond.code yX1_setSort cX1_setSort 4 none, Cond.methodLink RX1 44 yX1_checkSort, Cond.static yX1_checkSort, Cond.code yX1_checkSort cX1_checkSort 1 none, Cond.methodLink RX1 48 yX1_checkRange, Cond.static yX1_checkRange, Cond.code yX1_checkRange cX1_checkRange 3 none, Cond.classLink RX1 142 "java/lang/IllegalArgumentException", Cond.initialized "java/lang/IllegalArgumentException", Cond.methodLink RL 86 yX2_setSort, Cond.instanceMethod yX2_setSort, Cond.selects RX2 yX2_setSort yX2_setSort, Cond.code yX2_setSort cX2_setSort 4 none, Cond.methodLink RX2 73 yX2_isSort, Cond.static yX2_isSort, Cond.code yX2_isSort cX2_isSort 1 (some .boolean), Cond.methodLink RX2 66 yX2_isIn]
def wsL_law0_r4 : List Cond := [Cond.static yX2_isIn, Cond.code yX2_isIn cX2_isIn 3 (some .boolean), Cond.methodLink RX2 77 yX2_isFine, Cond.instanceMethod yX2_isFine, Cond.selects RX2 yX2_isFine yX2_isFine, Cond.code yX2_isFine cX2_isFine 2 (some .boolean), Cond.fieldLink RX2 63 "BorderHouseModel" "thrown" "I", Cond.methodLink RL 87 yX2_thrown, Cond.instanceMethod yX2_thrown, Cond.selects RX2 yX2_thrown yX2_thrown, Cond.code yX2_thrown cX2_thrown 1 (some .int), Cond.methodLink RL 91 yL_setRisk, Cond.static yL_setRisk, Cond.codeWith yL_setRisk cL_setRisk 5 (some .int) [(0, 10, 13, 13)], Cond.methodLink RL 15 yX1_setRisk, Cond.instanceMethod yX1_setRisk, Cond.selects RX1 yX1_setRisk yX1_setRisk, Cond.code yX1_setRisk cX1_setRisk 3 (some .int), Cond.methodLink RX1 52 yX1_countToSearch, Cond.instanceMethod yX1_countToSearch, Cond.selects RX1 yX1_countToSearch yX1_countToSearch, Cond.code yX1_countToSearch cX1_countToSearch 6 (some .int), Cond.methodLink RX1 107 yX1_hasToBeSearched, Cond.instanceMethod yX1_hasToBeSearched]
def wsL_law0_r5 : List Cond := [Cond.selects RX1 yX1_hasToBeSearched yX1_hasToBeSearched, Cond.code yX1_hasToBeSearched cX1_hasToBeSearched 2 (some .boolean), Cond.fieldLink RX1 79 "BorderHouse$Consignment" "stage" "I", Cond.fieldLink RX1 104 "BorderHouse$Consignment" "isSample" "Z", Cond.methodLink RX1 171 yX0_wasSearched, Cond.instanceMethod yX0_wasSearched, Cond.selects RX0 yX0_wasSearched yX0_wasSearched, Cond.initialized RX0, Cond.code yX0_wasSearched cX0_wasSearched 1 (some .boolean), Cond.fieldLink RX0 31 "BorderHouse$Consignment" "sortsSearched" "I", Cond.methodLink RX1 113 yX1_riskOf, Cond.instanceMethod yX1_riskOf, Cond.selects RX1 yX1_riskOf yX1_riskOf, Cond.code yX1_riskOf cX1_riskOf 4 (some .int), Cond.fieldLink RX1 84 "BorderHouse$Consignment" "declared" "[I", Cond.fieldLink RX1 89 "BorderHouse$Consignment" "version" "I", Cond.fieldLink RX1 100 "BorderHouse$Consignment" "sealBroken" "Z", Cond.methodLink RL 94 yX2_setRisk, Cond.instanceMethod yX2_setRisk, Cond.selects RX2 yX2_setRisk yX2_setRisk, Cond.code yX2_setRisk cX2_setRisk 5 (some .int), Cond.fieldLink RX2 80 "BorderHouseModel" "sample" "I", Cond.fieldLink RX2 70 "BorderHouseModel" "consignments" "I", Cond.methodLink RX2 83 yX2_mustNow]
def wsL_law0_r6 : List Cond := [Cond.instanceMethod yX2_mustNow, Cond.selects RX2 yX2_mustNow yX2_mustNow, Cond.code yX2_mustNow cX2_mustNow 2 (some .boolean), Cond.methodLink RX2 99 yX2_riskNow, Cond.instanceMethod yX2_riskNow, Cond.selects RX2 yX2_riskNow yX2_riskNow, Cond.code yX2_riskNow cX2_riskNow 4 (some .int), Cond.methodLink RL 95 yL_setGuarantee, Cond.static yL_setGuarantee, Cond.codeWith yL_setGuarantee cL_setGuarantee 5 (some .int) [(0, 10, 13, 13), (0, 10, 17, 22)], Cond.classLink RL 22 "java/lang/IllegalStateException", Cond.methodLink RL 19 yX1_setGuarantee, Cond.instanceMethod yX1_setGuarantee, Cond.selects RX1 yX1_setGuarantee yX1_setGuarantee, Cond.code yX1_setGuarantee cX1_setGuarantee 4 (some .int), Cond.classLink RX1 60 "java/lang/IllegalStateException", Cond.initialized "java/lang/IllegalStateException", Cond.constant RX1 59 (1000000), Cond.methodLink RX1 56 yX1_checkTrader, Cond.static yX1_checkTrader, Cond.code yX1_checkTrader cX1_checkTrader 1 none, Cond.methodLink RL 97 yX2_setGuarantee, Cond.instanceMethod yX2_setGuarantee, Cond.selects RX2 yX2_setGuarantee yX2_setGuarantee]
def wsL_law0_r7 : List Cond := [Cond.code yX2_setGuarantee cX2_setGuarantee 5 (some .int), Cond.constant RX2 89 (1000000), Cond.methodLink RX2 86 yX2_isTrader, Cond.static yX2_isTrader, Cond.code yX2_isTrader cX2_isTrader 1 (some .boolean), Cond.methodLink RL 98 yL_announce, Cond.static yL_announce, Cond.codeWith yL_announce cL_announce 5 (some .int) [(0, 10, 13, 13), (0, 10, 17, 22)], Cond.methodLink RL 24 yX1_announce, Cond.instanceMethod yX1_announce, Cond.selects RX1 yX1_announce yX1_announce, Cond.code yX1_announce cX1_announce 4 (some .int), Cond.instantiable RX0 12, Cond.methodLink RX1 67 yX1_checkSeal, Cond.static yX1_checkSeal, Cond.code yX1_checkSeal cX1_checkSeal 1 none, Cond.methodLink RX1 72 yX0_init, Cond.instanceMethod yX0_init, Cond.code yX0_init cX0_init 3 none, Cond.methodLink RX0 3 objectInit, Cond.fieldLink RX0 9 "BorderHouse$Consignment" "declared" "[I", Cond.fieldLink RX0 15 "BorderHouse$Consignment" "dutyTakenDown" "[I", Cond.fieldLink RX0 18 "BorderHouse$Consignment" "goods" "[I", Cond.fieldLink RX0 21 "BorderHouse$Consignment" "stage" "I"]
def wsL_law0_r8 : List Cond := [Cond.fieldLink RX0 25 "BorderHouse$Consignment" "version" "I", Cond.fieldLink RX0 28 "BorderHouse$Consignment" "papers" "I", Cond.fieldLink RX0 34 "BorderHouse$Consignment" "unitsLeft" "I", Cond.fieldLink RX0 37 "BorderHouse$Consignment" "sealBroken" "Z", Cond.fieldLink RX0 41 "BorderHouse$Consignment" "isSample" "Z", Cond.fieldLink RX0 44 "BorderHouse$Consignment" "trader" "I", Cond.fieldLink RX0 47 "BorderHouse$Consignment" "sealNumber" "I", Cond.methodLink RL 100 yX2_announce, Cond.instanceMethod yX2_announce, Cond.selects RX2 yX2_announce yX2_announce, Cond.code yX2_announce cX2_announce 4 (some .int), Cond.methodLink RL 101 yL_amend, Cond.static yL_amend, Cond.codeWith yL_amend cL_amend 6 (some .int) [(0, 12, 15, 31), (0, 12, 19, 13), (0, 12, 23, 22)], Cond.classLink RL 31 "java/lang/IndexOutOfBoundsException", Cond.methodLink RL 27 yX1_amend, Cond.instanceMethod yX1_amend, Cond.selects RX1 yX1_amend yX1_amend, Cond.code yX1_amend cX1_amend 5 (some .int), Cond.methodLink RX1 75 yX1_findConsignment, Cond.instanceMethod yX1_findConsignment, Cond.selects RX1 yX1_findConsignment yX1_findConsignment, Cond.code yX1_findConsignment cX1_findConsignment 3 (some (.object "BorderHouse$Consignment")), Cond.classLink RX1 162 "java/lang/IndexOutOfBoundsException"]
def wsL_law0_r9 : List Cond := [Cond.initialized "java/lang/IndexOutOfBoundsException", Cond.methodLink RL 104 yX2_amend, Cond.instanceMethod yX2_amend, Cond.selects RX2 yX2_amend yX2_amend, Cond.code yX2_amend cX2_amend 7 (some .int), Cond.methodLink RX2 90 yX2_isConsignment, Cond.instanceMethod yX2_isConsignment, Cond.selects RX2 yX2_isConsignment yX2_isConsignment, Cond.code yX2_isConsignment cX2_isConsignment 2 (some .boolean), Cond.methodLink RL 105 yL_arrive, Cond.static yL_arrive, Cond.codeWith yL_arrive cL_arrive 5 (some .int) [(0, 17, 20, 31), (0, 17, 24, 13), (0, 17, 28, 22)], Cond.methodLink RL 33 yX1_arrive, Cond.instanceMethod yX1_arrive, Cond.selects RX1 yX1_arrive yX1_arrive, Cond.code yX1_arrive cX1_arrive 4 (some .boolean), Cond.fieldLink RX1 97 "BorderHouse$Consignment" "sealNumber" "I", Cond.methodLink RX1 92 yX0_totalDeclared, Cond.instanceMethod yX0_totalDeclared, Cond.selects RX0 yX0_totalDeclared yX0_totalDeclared, Cond.code yX0_totalDeclared cX0_totalDeclared 6 (some .int), Cond.methodLink RL 107 yX2_arrive, Cond.instanceMethod yX2_arrive, Cond.selects RX2 yX2_arrive yX2_arrive]
def wsL_law0_r10 : List Cond := [Cond.code yX2_arrive cX2_arrive 5 (some .boolean), Cond.fieldLink RX2 96 "BorderHouseModel" "arrived" "I", Cond.methodLink RX2 93 yX2_isEmpty, Cond.instanceMethod yX2_isEmpty, Cond.selects RX2 yX2_isEmpty yX2_isEmpty, Cond.code yX2_isEmpty cX2_isEmpty 4 (some .boolean), Cond.methodLink RL 108 yL_risk, Cond.static yL_risk, Cond.codeWith yL_risk cL_risk 4 (some .int) [(0, 9, 12, 31), (0, 9, 15, 22)], Cond.methodLink RL 37 yX1_risk, Cond.instanceMethod yX1_risk, Cond.selects RX1 yX1_risk yX1_risk, Cond.code yX1_risk cX1_risk 3 (some .int), Cond.methodLink RL 111 yX2_risk, Cond.instanceMethod yX2_risk, Cond.selects RX2 yX2_risk yX2_risk, Cond.code yX2_risk cX2_risk 3 (some .int), Cond.methodLink RL 112 yL_mustSearch, Cond.static yL_mustSearch, Cond.codeWith yL_mustSearch cL_mustSearch 4 (some .int) [(0, 16, 19, 31)], Cond.methodLink RL 41 yX1_mustSearch, Cond.instanceMethod yX1_mustSearch, Cond.selects RX1 yX1_mustSearch yX1_mustSearch, Cond.code yX1_mustSearch cX1_mustSearch 2 (some .boolean)]
def wsL_law0_r11 : List Cond := [Cond.methodLink RL 114 yX2_mustSearch, Cond.instanceMethod yX2_mustSearch, Cond.selects RX2 yX2_mustSearch yX2_mustSearch, Cond.code yX2_mustSearch cX2_mustSearch 2 (some .boolean), Cond.methodLink RL 115 yL_search, Cond.static yL_search, Cond.codeWith yL_search cL_search 6 (some .int) [(0, 12, 15, 31), (0, 12, 19, 13), (0, 12, 23, 22)], Cond.methodLink RL 45 yX1_search, Cond.instanceMethod yX1_search, Cond.selects RX1 yX1_search yX1_search, Cond.code yX1_search cX1_search 5 (some .int), Cond.fieldLink RX1 122 "BorderHouse$Consignment" "papers" "I", Cond.methodLink RX1 119 yX0_noteSearch, Cond.instanceMethod yX0_noteSearch, Cond.selects RX0 yX0_noteSearch yX0_noteSearch, Cond.code yX0_noteSearch cX0_noteSearch 3 none, Cond.methodLink RL 117 yX2_search, Cond.instanceMethod yX2_search, Cond.selects RX2 yX2_search yX2_search, Cond.code yX2_search cX2_search 6 (some .int), Cond.methodLink RL 118 yL_bond, Cond.static yL_bond, Cond.codeWith yL_bond cL_bond 5 (some .int) [(0, 10, 13, 31), (0, 10, 17, 13), (0, 10, 21, 22)], Cond.methodLink RL 48 yX1_bond]
def wsL_law0_r12 : List Cond := [Cond.instanceMethod yX1_bond, Cond.selects RX1 yX1_bond yX1_bond, Cond.code yX1_bond cX1_bond 5 (some .int), Cond.fieldLink RX1 133 "BorderHouse$Consignment" "trader" "I", Cond.methodLink RX1 125 yX1_checkStore, Cond.static yX1_checkStore, Cond.code yX1_checkStore cX1_checkStore 1 none, Cond.methodLink RX1 130 yX1_dutyNow, Cond.instanceMethod yX1_dutyNow, Cond.selects RX1 yX1_dutyNow yX1_dutyNow, Cond.code yX1_dutyNow cX1_dutyNow 4 (some .int), Cond.methodLink RX1 138 yX0_enterStore, Cond.instanceMethod yX0_enterStore, Cond.selects RX0 yX0_enterStore yX0_enterStore, Cond.code yX0_enterStore cX0_enterStore 4 none, Cond.static yX1_placeOf, Cond.code yX1_placeOf cX1_placeOf 2 (some .int), Cond.methodLink RX0 54 yX0_totalDeclared, Cond.methodLink RL 120 yX2_bond, Cond.instanceMethod yX2_bond, Cond.selects RX2 yX2_bond yX2_bond, Cond.code yX2_bond cX2_bond 7 (some .int), Cond.methodLink RX2 103 yX2_owes, Cond.instanceMethod yX2_owes]
def wsL_law0_r13 : List Cond := [Cond.selects RX2 yX2_owes yX2_owes, Cond.code yX2_owes cX2_owes 4 (some .int), Cond.methodLink RX2 106 yX2_isStore, Cond.static yX2_isStore, Cond.code yX2_isStore cX2_isStore 1 (some .boolean), Cond.methodLink RX2 109 yX2_at, Cond.static yX2_at, Cond.code yX2_at cX2_at 3 (some .int), Cond.methodLink RL 121 yL_move, Cond.static yL_move, Cond.codeWith yL_move cL_move 8 (some .int) [(0, 16, 19, 31), (0, 16, 23, 13), (0, 16, 27, 22)], Cond.methodLink RL 51 yX1_move, Cond.instanceMethod yX1_move, Cond.selects RX1 yX1_move yX1_move, Cond.code yX1_move cX1_move 8 (some .int), Cond.fieldLink RX1 155 "BorderHouse$Consignment" "goods" "[I", Cond.methodLink RX1 147 yX1_checkTaking, Cond.static yX1_checkTaking, Cond.code yX1_checkTaking cX1_checkTaking 4 none, Cond.methodLink RX1 151 yX1_placeOf, Cond.methodLink RL 124 yX2_move, Cond.instanceMethod yX2_move, Cond.selects RX2 yX2_move yX2_move, Cond.code yX2_move cX2_move 8 (some .int)]
def wsL_law0_r14 : List Cond := [Cond.methodLink RX2 113 yX2_isGoods, Cond.static yX2_isGoods, Cond.code yX2_isGoods cX2_isGoods 3 (some .boolean), Cond.methodLink RL 125 yL_free, Cond.static yL_free, Cond.codeWith yL_free cL_free 7 (some .int) [(0, 14, 17, 31), (0, 14, 21, 13), (0, 14, 25, 22)], Cond.methodLink RL 55 yX1_free, Cond.instanceMethod yX1_free, Cond.selects RX1 yX1_free yX1_free, Cond.code yX1_free cX1_free 7 (some .int), Cond.methodLink RX1 158 yX1_takeOut, Cond.instanceMethod yX1_takeOut, Cond.selects RX1 yX1_takeOut yX1_takeOut, Cond.code yX1_takeOut cX1_takeOut 6 (some .int), Cond.fieldLink RX1 175 "BorderHouse$Consignment" "dutyTakenDown" "[I", Cond.fieldLink RX1 178 "BorderHouse$Consignment" "unitsLeft" "I", Cond.methodLink RL 128 yX2_free, Cond.instanceMethod yX2_free, Cond.selects RX2 yX2_free yX2_free, Cond.code yX2_free cX2_free 6 (some .int), Cond.methodLink RX2 116 yX2_whyNot, Cond.instanceMethod yX2_whyNot, Cond.selects RX2 yX2_whyNot yX2_whyNot, Cond.code yX2_whyNot cX2_whyNot 5 (some .int)]
def wsL_law0_r15 : List Cond := [Cond.methodLink RX2 120 yX2_leaves, Cond.instanceMethod yX2_leaves, Cond.selects RX2 yX2_leaves yX2_leaves, Cond.code yX2_leaves cX2_leaves 8 (some .int), Cond.methodLink RL 129 yL_sendBack, Cond.static yL_sendBack, Cond.codeWith yL_sendBack cL_sendBack 7 (some .int) [(0, 14, 17, 31), (0, 14, 21, 13), (0, 14, 25, 22)], Cond.methodLink RL 59 yX1_sendBack, Cond.instanceMethod yX1_sendBack, Cond.selects RX1 yX1_sendBack yX1_sendBack, Cond.code yX1_sendBack cX1_sendBack 6 (some .int), Cond.methodLink RL 131 yX2_sendBack, Cond.instanceMethod yX2_sendBack, Cond.selects RX2 yX2_sendBack yX2_sendBack, Cond.code yX2_sendBack cX2_sendBack 5 (some .int), Cond.methodLink RL 132 yL_state, Cond.static yL_state, Cond.codeWith yL_state cL_state 4 (some .int) [(0, 9, 12, 31)], Cond.methodLink RL 62 yX1_state, Cond.instanceMethod yX1_state, Cond.selects RX1 yX1_state yX1_state, Cond.code yX1_state cX1_state 2 (some .int), Cond.methodLink RL 134 yX2_state, Cond.instanceMethod yX2_state]
def wsL_law0_r16 : List Cond := [Cond.selects RX2 yX2_state yX2_state, Cond.code yX2_state cX2_state 2 (some .int), Cond.methodLink RL 135 yL_manifest, Cond.static yL_manifest, Cond.codeWith yL_manifest cL_manifest 5 (some .int) [(0, 10, 13, 31), (0, 10, 17, 13)], Cond.methodLink RL 65 yX1_manifest, Cond.instanceMethod yX1_manifest, Cond.selects RX1 yX1_manifest yX1_manifest, Cond.code yX1_manifest cX1_manifest 4 (some .int), Cond.methodLink RL 137 yX2_manifest, Cond.instanceMethod yX2_manifest, Cond.selects RX2 yX2_manifest yX2_manifest, Cond.code yX2_manifest cX2_manifest 4 (some .int), Cond.methodLink RL 138 yL_stored, Cond.static yL_stored, Cond.codeWith yL_stored cL_stored 5 (some .int) [(0, 10, 13, 13)], Cond.methodLink RL 68 yX1_stored, Cond.instanceMethod yX1_stored, Cond.selects RX1 yX1_stored yX1_stored, Cond.code yX1_stored cX1_stored 8 (some .int), Cond.methodLink RL 140 yX2_stored, Cond.instanceMethod yX2_stored, Cond.selects RX2 yX2_stored yX2_stored, Cond.code yX2_stored cX2_stored 5 (some .int)]
def wsL_law0_r17 : List Cond := [Cond.methodLink RL 141 yL_held, Cond.static yL_held, Cond.codeWith yL_held cL_held 4 (some .int) [(0, 9, 12, 13)], Cond.methodLink RL 71 yX1_held, Cond.instanceMethod yX1_held, Cond.selects RX1 yX1_held yX1_held, Cond.code yX1_held cX1_held 2 (some .int), Cond.methodLink RL 143 yX2_held, Cond.instanceMethod yX2_held, Cond.selects RX2 yX2_held yX2_held, Cond.code yX2_held cX2_held 2 (some .int), Cond.methodLink RL 144 yL_paid, Cond.static yL_paid, Cond.codeWith yL_paid cL_paid 4 (some .int) [(0, 9, 12, 13)], Cond.methodLink RL 74 yX1_paid, Cond.instanceMethod yX1_paid, Cond.selects RX1 yX1_paid yX1_paid, Cond.code yX1_paid cX1_paid 2 (some .int), Cond.methodLink RL 146 yX2_paid, Cond.instanceMethod yX2_paid, Cond.selects RX2 yX2_paid yX2_paid, Cond.code yX2_paid cX2_paid 2 (some .int)]
def wsL_law0 : List Cond := (wsL_law0_r1 ++ (wsL_law0_r2 ++ (wsL_law0_r3 ++ (wsL_law0_r4 ++ (wsL_law0_r5 ++ (wsL_law0_r6 ++ (wsL_law0_r7 ++ (wsL_law0_r8 ++ (wsL_law0_r9 ++ (wsL_law0_r10 ++ (wsL_law0_r11 ++ (wsL_law0_r12 ++ (wsL_law0_r13 ++ (wsL_law0_r14 ++ (wsL_law0_r15 ++ (wsL_law0_r16 ++ wsL_law0_r17)))))))))))))))) ++ wsX10 ++ wsX20 ++ wsX00 ++ ([] : List Cond)
def wsL_law : List Cond := wsL_law0 ++ (vx_atS RX1 146 "java/lang/IllegalArgumentException" ["java/lang/RuntimeException", "java/lang/Exception"]).filter goodWord ++ (vx_atS RX1 64 "java/lang/IllegalStateException" ["java/lang/RuntimeException", "java/lang/Exception"]).filter goodWord ++ (vx_atS RX1 166 "java/lang/IndexOutOfBoundsException" ["java/lang/RuntimeException", "java/lang/Exception"]).filter goodWord
abbrev vwCl : List vw_C := [(RX0, TX0, 12), (RX1, TX1, 10), (RX2, TX2, 21)]
end
section
theorem dX0_init_0 : decode cX0_init 0 = .ok (.aload_n 0, 1) := by decide +kernel
theorem dX0_init_1 : decode cX0_init 1 = .ok (.invokespecial 3, 3) := by decide +kernel
theorem dX0_init_4 : decode cX0_init 4 = .ok (.aload_n 0, 1) := by decide +kernel
theorem dX0_init_5 : decode cX0_init 5 = .ok (.bipush 6, 2) := by decide +kernel
theorem dX0_init_7 : decode cX0_init 7 = .ok (.newarray .int, 2) := by decide +kernel
theorem dX0_init_9 : decode cX0_init 9 = .ok (.putfield 9, 3) := by decide +kernel
theorem dX0_init_12 : decode cX0_init 12 = .ok (.aload_n 0, 1) := by decide +kernel
theorem dX0_init_13 : decode cX0_init 13 = .ok (.bipush 6, 2) := by decide +kernel
theorem dX0_init_15 : decode cX0_init 15 = .ok (.newarray .int, 2) := by decide +kernel
theorem dX0_init_17 : decode cX0_init 17 = .ok (.putfield 15, 3) := by decide +kernel
theorem dX0_init_20 : decode cX0_init 20 = .ok (.aload_n 0, 1) := by decide +kernel
theorem dX0_init_21 : decode cX0_init 21 = .ok (.bipush 18, 2) := by decide +kernel
theorem dX0_init_23 : decode cX0_init 23 = .ok (.newarray .int, 2) := by decide +kernel
theorem dX0_init_25 : decode cX0_init 25 = .ok (.putfield 18, 3) := by decide +kernel
theorem dX0_init_28 : decode cX0_init 28 = .ok (.aload_n 0, 1) := by decide +kernel
theorem dX0_init_29 : decode cX0_init 29 = .ok (.iconst 0, 1) := by decide +kernel
theorem dX0_init_30 : decode cX0_init 30 = .ok (.putfield 21, 3) := by decide +kernel
theorem dX0_init_33 : decode cX0_init 33 = .ok (.aload_n 0, 1) := by decide +kernel
theorem dX0_init_34 : decode cX0_init 34 = .ok (.iconst 0, 1) := by decide +kernel
theorem dX0_init_35 : decode cX0_init 35 = .ok (.putfield 25, 3) := by decide +kernel
theorem dX0_init_38 : decode cX0_init 38 = .ok (.aload_n 0, 1) := by decide +kernel
theorem dX0_init_39 : decode cX0_init 39 = .ok (.iconst 0, 1) := by decide +kernel
theorem dX0_init_40 : decode cX0_init 40 = .ok (.putfield 28, 3) := by decide +kernel
theorem dX0_init_43 : decode cX0_init 43 = .ok (.aload_n 0, 1) := by decide +kernel
theorem dX0_init_44 : decode cX0_init 44 = .ok (.iconst 0, 1) := by decide +kernel
theorem dX0_init_45 : decode cX0_init 45 = .ok (.putfield 31, 3) := by decide +kernel
theorem dX0_init_48 : decode cX0_init 48 = .ok (.aload_n 0, 1) := by decide +kernel
theorem dX0_init_49 : decode cX0_init 49 = .ok (.iconst 0, 1) := by decide +kernel
theorem dX0_init_50 : decode cX0_init 50 = .ok (.putfield 34, 3) := by decide +kernel
theorem dX0_init_53 : decode cX0_init 53 = .ok (.aload_n 0, 1) := by decide +kernel
theorem dX0_init_54 : decode cX0_init 54 = .ok (.iconst 0, 1) := by decide +kernel
theorem dX0_init_55 : decode cX0_init 55 = .ok (.putfield 37, 3) := by decide +kernel
theorem dX0_init_58 : decode cX0_init 58 = .ok (.aload_n 0, 1) := by decide +kernel
theorem dX0_init_59 : decode cX0_init 59 = .ok (.iconst 0, 1) := by decide +kernel
theorem dX0_init_60 : decode cX0_init 60 = .ok (.putfield 41, 3) := by decide +kernel
theorem dX0_init_63 : decode cX0_init 63 = .ok (.aload_n 0, 1) := by decide +kernel
theorem dX0_init_64 : decode cX0_init 64 = .ok (.iload_n 1, 1) := by decide +kernel
theorem dX0_init_65 : decode cX0_init 65 = .ok (.putfield 44, 3) := by decide +kernel
theorem dX0_init_68 : decode cX0_init 68 = .ok (.aload_n 0, 1) := by decide +kernel
theorem dX0_init_69 : decode cX0_init 69 = .ok (.iload_n 2, 1) := by decide +kernel
theorem dX0_init_70 : decode cX0_init 70 = .ok (.putfield 47, 3) := by decide +kernel
theorem dX0_init_73 : decode cX0_init 73 = .ok (.return_, 1) := by decide +kernel
theorem dX0_totalDeclared_0 : decode cX0_totalDeclared 0 = .ok (.iconst 0, 1) := by decide +kernel
theorem dX0_totalDeclared_1 : decode cX0_totalDeclared 1 = .ok (.istore_n 1, 1) := by decide +kernel
theorem dX0_totalDeclared_2 : decode cX0_totalDeclared 2 = .ok (.aload_n 0, 1) := by decide +kernel
theorem dX0_totalDeclared_3 : decode cX0_totalDeclared 3 = .ok (.getfield 9, 3) := by decide +kernel
theorem dX0_totalDeclared_6 : decode cX0_totalDeclared 6 = .ok (.astore_n 2, 1) := by decide +kernel
theorem dX0_totalDeclared_7 : decode cX0_totalDeclared 7 = .ok (.aload_n 2, 1) := by decide +kernel
theorem dX0_totalDeclared_8 : decode cX0_totalDeclared 8 = .ok (.arraylength, 1) := by decide +kernel
theorem dX0_totalDeclared_9 : decode cX0_totalDeclared 9 = .ok (.istore_n 3, 1) := by decide +kernel
theorem dX0_totalDeclared_10 : decode cX0_totalDeclared 10 = .ok (.iconst 0, 1) := by decide +kernel
theorem dX0_totalDeclared_11 : decode cX0_totalDeclared 11 = .ok (.istore 4, 2) := by decide +kernel
theorem dX0_totalDeclared_13 : decode cX0_totalDeclared 13 = .ok (.iload 4, 2) := by decide +kernel
theorem dX0_totalDeclared_15 : decode cX0_totalDeclared 15 = .ok (.iload_n 3, 1) := by decide +kernel
theorem dX0_totalDeclared_16 : decode cX0_totalDeclared 16 = .ok (.if_icmp .ge 20, 3) := by decide +kernel
theorem dX0_totalDeclared_19 : decode cX0_totalDeclared 19 = .ok (.aload_n 2, 1) := by decide +kernel
theorem dX0_totalDeclared_20 : decode cX0_totalDeclared 20 = .ok (.iload 4, 2) := by decide +kernel
theorem dX0_totalDeclared_22 : decode cX0_totalDeclared 22 = .ok (.iaload, 1) := by decide +kernel
theorem dX0_totalDeclared_23 : decode cX0_totalDeclared 23 = .ok (.istore 5, 2) := by decide +kernel
theorem dX0_totalDeclared_25 : decode cX0_totalDeclared 25 = .ok (.iload_n 1, 1) := by decide +kernel
theorem dX0_totalDeclared_26 : decode cX0_totalDeclared 26 = .ok (.iload 5, 2) := by decide +kernel
theorem dX0_totalDeclared_28 : decode cX0_totalDeclared 28 = .ok (.iadd, 1) := by decide +kernel
theorem dX0_totalDeclared_29 : decode cX0_totalDeclared 29 = .ok (.istore_n 1, 1) := by decide +kernel
theorem dX0_totalDeclared_30 : decode cX0_totalDeclared 30 = .ok (.iinc 4 1, 3) := by decide +kernel
theorem dX0_totalDeclared_33 : decode cX0_totalDeclared 33 = .ok (.goto (-20), 3) := by decide +kernel
theorem dX0_totalDeclared_36 : decode cX0_totalDeclared 36 = .ok (.iload_n 1, 1) := by decide +kernel
theorem dX0_totalDeclared_37 : decode cX0_totalDeclared 37 = .ok (.ireturn, 1) := by decide +kernel
theorem dX0_wasSearched_0 : decode cX0_wasSearched 0 = .ok (.aload_n 0, 1) := by decide +kernel
theorem dX0_wasSearched_1 : decode cX0_wasSearched 1 = .ok (.getfield 31, 3) := by decide +kernel
theorem dX0_wasSearched_4 : decode cX0_wasSearched 4 = .ok (.bipush 63, 2) := by decide +kernel
theorem dX0_wasSearched_6 : decode cX0_wasSearched 6 = .ok (.if_icmp .ne 7, 3) := by decide +kernel
theorem dX0_wasSearched_9 : decode cX0_wasSearched 9 = .ok (.iconst 1, 1) := by decide +kernel
theorem dX0_wasSearched_10 : decode cX0_wasSearched 10 = .ok (.goto 4, 3) := by decide +kernel
theorem dX0_wasSearched_13 : decode cX0_wasSearched 13 = .ok (.iconst 0, 1) := by decide +kernel
theorem dX0_wasSearched_14 : decode cX0_wasSearched 14 = .ok (.ireturn, 1) := by decide +kernel
theorem dX0_noteSearch_0 : decode cX0_noteSearch 0 = .ok (.aload_n 0, 1) := by decide +kernel
theorem dX0_noteSearch_1 : decode cX0_noteSearch 1 = .ok (.getfield 9, 3) := by decide +kernel
theorem dX0_noteSearch_4 : decode cX0_noteSearch 4 = .ok (.iload_n 1, 1) := by decide +kernel
theorem dX0_noteSearch_5 : decode cX0_noteSearch 5 = .ok (.iaload, 1) := by decide +kernel
theorem dX0_noteSearch_6 : decode cX0_noteSearch 6 = .ok (.iload_n 2, 1) := by decide +kernel
theorem dX0_noteSearch_7 : decode cX0_noteSearch 7 = .ok (.if_icmp .eq 20, 3) := by decide +kernel
theorem dX0_noteSearch_10 : decode cX0_noteSearch 10 = .ok (.aload_n 0, 1) := by decide +kernel
theorem dX0_noteSearch_11 : decode cX0_noteSearch 11 = .ok (.getfield 9, 3) := by decide +kernel
theorem dX0_noteSearch_14 : decode cX0_noteSearch 14 = .ok (.iload_n 1, 1) := by decide +kernel
theorem dX0_noteSearch_15 : decode cX0_noteSearch 15 = .ok (.iload_n 2, 1) := by decide +kernel
theorem dX0_noteSearch_16 : decode cX0_noteSearch 16 = .ok (.iastore, 1) := by decide +kernel
theorem dX0_noteSearch_17 : decode cX0_noteSearch 17 = .ok (.aload_n 0, 1) := by decide +kernel
theorem dX0_noteSearch_18 : decode cX0_noteSearch 18 = .ok (.dup, 1) := by decide +kernel
theorem dX0_noteSearch_19 : decode cX0_noteSearch 19 = .ok (.getfield 28, 3) := by decide +kernel
theorem dX0_noteSearch_22 : decode cX0_noteSearch 22 = .ok (.iconst 1, 1) := by decide +kernel
theorem dX0_noteSearch_23 : decode cX0_noteSearch 23 = .ok (.iadd, 1) := by decide +kernel
theorem dX0_noteSearch_24 : decode cX0_noteSearch 24 = .ok (.putfield 28, 3) := by decide +kernel
theorem dX0_noteSearch_27 : decode cX0_noteSearch 27 = .ok (.aload_n 0, 1) := by decide +kernel
theorem dX0_noteSearch_28 : decode cX0_noteSearch 28 = .ok (.dup, 1) := by decide +kernel
theorem dX0_noteSearch_29 : decode cX0_noteSearch 29 = .ok (.getfield 31, 3) := by decide +kernel
theorem dX0_noteSearch_32 : decode cX0_noteSearch 32 = .ok (.iconst 1, 1) := by decide +kernel
theorem dX0_noteSearch_33 : decode cX0_noteSearch 33 = .ok (.iload_n 1, 1) := by decide +kernel
theorem dX0_noteSearch_34 : decode cX0_noteSearch 34 = .ok (.ishl, 1) := by decide +kernel
theorem dX0_noteSearch_35 : decode cX0_noteSearch 35 = .ok (.ior, 1) := by decide +kernel
theorem dX0_noteSearch_36 : decode cX0_noteSearch 36 = .ok (.putfield 31, 3) := by decide +kernel
theorem dX0_noteSearch_39 : decode cX0_noteSearch 39 = .ok (.return_, 1) := by decide +kernel
theorem dX0_enterStore_0 : decode cX0_enterStore 0 = .ok (.iconst 0, 1) := by decide +kernel
theorem dX0_enterStore_1 : decode cX0_enterStore 1 = .ok (.istore_n 3, 1) := by decide +kernel
theorem dX0_enterStore_2 : decode cX0_enterStore 2 = .ok (.iload_n 3, 1) := by decide +kernel
theorem dX0_enterStore_3 : decode cX0_enterStore 3 = .ok (.bipush 6, 2) := by decide +kernel
theorem dX0_enterStore_5 : decode cX0_enterStore 5 = .ok (.if_icmp .ge 34, 3) := by decide +kernel
theorem dX0_enterStore_8 : decode cX0_enterStore 8 = .ok (.aload_n 0, 1) := by decide +kernel
theorem dX0_enterStore_9 : decode cX0_enterStore 9 = .ok (.getfield 18, 3) := by decide +kernel
theorem dX0_enterStore_12 : decode cX0_enterStore 12 = .ok (.iload_n 3, 1) := by decide +kernel
theorem dX0_enterStore_13 : decode cX0_enterStore 13 = .ok (.iload_n 1, 1) := by decide +kernel
theorem dX0_enterStore_14 : decode cX0_enterStore 14 = .ok (.invokestatic 50, 3) := by decide +kernel
theorem dX0_enterStore_17 : decode cX0_enterStore 17 = .ok (.aload_n 0, 1) := by decide +kernel
theorem dX0_enterStore_18 : decode cX0_enterStore 18 = .ok (.getfield 9, 3) := by decide +kernel
theorem dX0_enterStore_21 : decode cX0_enterStore 21 = .ok (.iload_n 3, 1) := by decide +kernel
theorem dX0_enterStore_22 : decode cX0_enterStore 22 = .ok (.iaload, 1) := by decide +kernel
theorem dX0_enterStore_23 : decode cX0_enterStore 23 = .ok (.iastore, 1) := by decide +kernel
theorem dX0_enterStore_24 : decode cX0_enterStore 24 = .ok (.aload_n 0, 1) := by decide +kernel
theorem dX0_enterStore_25 : decode cX0_enterStore 25 = .ok (.getfield 15, 3) := by decide +kernel
theorem dX0_enterStore_28 : decode cX0_enterStore 28 = .ok (.iload_n 3, 1) := by decide +kernel
theorem dX0_enterStore_29 : decode cX0_enterStore 29 = .ok (.aload_n 2, 1) := by decide +kernel
theorem dX0_enterStore_30 : decode cX0_enterStore 30 = .ok (.iload_n 3, 1) := by decide +kernel
theorem dX0_enterStore_31 : decode cX0_enterStore 31 = .ok (.iaload, 1) := by decide +kernel
theorem dX0_enterStore_32 : decode cX0_enterStore 32 = .ok (.iastore, 1) := by decide +kernel
theorem dX0_enterStore_33 : decode cX0_enterStore 33 = .ok (.iinc 3 1, 3) := by decide +kernel
theorem dX0_enterStore_36 : decode cX0_enterStore 36 = .ok (.goto (-34), 3) := by decide +kernel
theorem dX0_enterStore_39 : decode cX0_enterStore 39 = .ok (.aload_n 0, 1) := by decide +kernel
theorem dX0_enterStore_40 : decode cX0_enterStore 40 = .ok (.aload_n 0, 1) := by decide +kernel
theorem dX0_enterStore_41 : decode cX0_enterStore 41 = .ok (.invokevirtual 54, 3) := by decide +kernel
theorem dX0_enterStore_44 : decode cX0_enterStore 44 = .ok (.putfield 34, 3) := by decide +kernel
theorem dX0_enterStore_47 : decode cX0_enterStore 47 = .ok (.aload_n 0, 1) := by decide +kernel
theorem dX0_enterStore_48 : decode cX0_enterStore 48 = .ok (.aload_n 0, 1) := by decide +kernel
theorem dX0_enterStore_49 : decode cX0_enterStore 49 = .ok (.getfield 34, 3) := by decide +kernel
theorem dX0_enterStore_52 : decode cX0_enterStore 52 = .ok (.ifCond .ne 7, 3) := by decide +kernel
theorem dX0_enterStore_55 : decode cX0_enterStore 55 = .ok (.iconst 3, 1) := by decide +kernel
theorem dX0_enterStore_56 : decode cX0_enterStore 56 = .ok (.goto 4, 3) := by decide +kernel
theorem dX0_enterStore_59 : decode cX0_enterStore 59 = .ok (.iconst 2, 1) := by decide +kernel
theorem dX0_enterStore_60 : decode cX0_enterStore 60 = .ok (.putfield 21, 3) := by decide +kernel
theorem dX0_enterStore_63 : decode cX0_enterStore 63 = .ok (.return_, 1) := by decide +kernel
theorem dX1_init_0 : decode cX1_init 0 = .ok (.aload_n 0, 1) := by decide +kernel
theorem dX1_init_1 : decode cX1_init 1 = .ok (.invokespecial 1, 3) := by decide +kernel
theorem dX1_init_4 : decode cX1_init 4 = .ok (.aload_n 0, 1) := by decide +kernel
theorem dX1_init_5 : decode cX1_init 5 = .ok (.bipush 6, 2) := by decide +kernel
theorem dX1_init_7 : decode cX1_init 7 = .ok (.newarray .int, 2) := by decide +kernel
theorem dX1_init_9 : decode cX1_init 9 = .ok (.putfield 9, 3) := by decide +kernel
theorem dX1_init_12 : decode cX1_init 12 = .ok (.aload_n 0, 1) := by decide +kernel
theorem dX1_init_13 : decode cX1_init 13 = .ok (.bipush 6, 2) := by decide +kernel
theorem dX1_init_15 : decode cX1_init 15 = .ok (.newarray .int, 2) := by decide +kernel
theorem dX1_init_17 : decode cX1_init 17 = .ok (.putfield 13, 3) := by decide +kernel
theorem dX1_init_20 : decode cX1_init 20 = .ok (.aload_n 0, 1) := by decide +kernel
theorem dX1_init_21 : decode cX1_init 21 = .ok (.iconst 4, 1) := by decide +kernel
theorem dX1_init_22 : decode cX1_init 22 = .ok (.newarray .int, 2) := by decide +kernel
theorem dX1_init_24 : decode cX1_init 24 = .ok (.putfield 16, 3) := by decide +kernel
theorem dX1_init_27 : decode cX1_init 27 = .ok (.aload_n 0, 1) := by decide +kernel
theorem dX1_init_28 : decode cX1_init 28 = .ok (.iconst 4, 1) := by decide +kernel
theorem dX1_init_29 : decode cX1_init 29 = .ok (.newarray .int, 2) := by decide +kernel
theorem dX1_init_31 : decode cX1_init 31 = .ok (.putfield 19, 3) := by decide +kernel
theorem dX1_init_34 : decode cX1_init 34 = .ok (.aload_n 0, 1) := by decide +kernel
theorem dX1_init_35 : decode cX1_init 35 = .ok (.iconst 4, 1) := by decide +kernel
theorem dX1_init_36 : decode cX1_init 36 = .ok (.newarray .int, 2) := by decide +kernel
theorem dX1_init_38 : decode cX1_init 38 = .ok (.putfield 22, 3) := by decide +kernel
theorem dX1_init_41 : decode cX1_init 41 = .ok (.aload_n 0, 1) := by decide +kernel
theorem dX1_init_42 : decode cX1_init 42 = .ok (.bipush 15, 2) := by decide +kernel
theorem dX1_init_44 : decode cX1_init 44 = .ok (.anewarray 25, 3) := by decide +kernel
theorem dX1_init_47 : decode cX1_init 47 = .ok (.putfield 27, 3) := by decide +kernel
theorem dX1_init_50 : decode cX1_init 50 = .ok (.aload_n 0, 1) := by decide +kernel
theorem dX1_init_51 : decode cX1_init 51 = .ok (.iconst 0, 1) := by decide +kernel
theorem dX1_init_52 : decode cX1_init 52 = .ok (.putfield 31, 3) := by decide +kernel
theorem dX1_init_55 : decode cX1_init 55 = .ok (.aload_n 0, 1) := by decide +kernel
theorem dX1_init_56 : decode cX1_init 56 = .ok (.iconst 0, 1) := by decide +kernel
theorem dX1_init_57 : decode cX1_init 57 = .ok (.putfield 35, 3) := by decide +kernel
theorem dX1_init_60 : decode cX1_init 60 = .ok (.aload_n 0, 1) := by decide +kernel
theorem dX1_init_61 : decode cX1_init 61 = .ok (.bipush 25, 2) := by decide +kernel
theorem dX1_init_63 : decode cX1_init 63 = .ok (.putfield 38, 3) := by decide +kernel
theorem dX1_init_66 : decode cX1_init 66 = .ok (.aload_n 0, 1) := by decide +kernel
theorem dX1_init_67 : decode cX1_init 67 = .ok (.iconst 0, 1) := by decide +kernel
theorem dX1_init_68 : decode cX1_init 68 = .ok (.putfield 41, 3) := by decide +kernel
theorem dX1_init_71 : decode cX1_init 71 = .ok (.iconst 0, 1) := by decide +kernel
theorem dX1_init_72 : decode cX1_init 72 = .ok (.istore_n 1, 1) := by decide +kernel
theorem dX1_init_73 : decode cX1_init 73 = .ok (.iload_n 1, 1) := by decide +kernel
theorem dX1_init_74 : decode cX1_init 74 = .ok (.bipush 6, 2) := by decide +kernel
theorem dX1_init_76 : decode cX1_init 76 = .ok (.if_icmp .ge 16, 3) := by decide +kernel
theorem dX1_init_79 : decode cX1_init 79 = .ok (.aload_n 0, 1) := by decide +kernel
theorem dX1_init_80 : decode cX1_init 80 = .ok (.getfield 9, 3) := by decide +kernel
theorem dX1_init_83 : decode cX1_init 83 = .ok (.iload_n 1, 1) := by decide +kernel
theorem dX1_init_84 : decode cX1_init 84 = .ok (.iconst 1, 1) := by decide +kernel
theorem dX1_init_85 : decode cX1_init 85 = .ok (.iastore, 1) := by decide +kernel
theorem dX1_init_86 : decode cX1_init 86 = .ok (.iinc 1 1, 3) := by decide +kernel
theorem dX1_init_89 : decode cX1_init 89 = .ok (.goto (-16), 3) := by decide +kernel
theorem dX1_init_92 : decode cX1_init 92 = .ok (.return_, 1) := by decide +kernel
theorem dX1_setSort_0 : decode cX1_setSort 0 = .ok (.iload_n 1, 1) := by decide +kernel
theorem dX1_setSort_1 : decode cX1_setSort 1 = .ok (.invokestatic 44, 3) := by decide +kernel
theorem dX1_setSort_4 : decode cX1_setSort 4 = .ok (.iload_n 2, 1) := by decide +kernel
theorem dX1_setSort_5 : decode cX1_setSort 5 = .ok (.iconst 0, 1) := by decide +kernel
theorem dX1_setSort_6 : decode cX1_setSort 6 = .ok (.bipush 50, 2) := by decide +kernel
theorem dX1_setSort_8 : decode cX1_setSort 8 = .ok (.invokestatic 48, 3) := by decide +kernel
theorem dX1_setSort_11 : decode cX1_setSort 11 = .ok (.iload_n 3, 1) := by decide +kernel
theorem dX1_setSort_12 : decode cX1_setSort 12 = .ok (.iconst 0, 1) := by decide +kernel
theorem dX1_setSort_13 : decode cX1_setSort 13 = .ok (.bipush 20, 2) := by decide +kernel
theorem dX1_setSort_15 : decode cX1_setSort 15 = .ok (.invokestatic 48, 3) := by decide +kernel
theorem dX1_setSort_18 : decode cX1_setSort 18 = .ok (.aload_n 0, 1) := by decide +kernel
theorem dX1_setSort_19 : decode cX1_setSort 19 = .ok (.getfield 9, 3) := by decide +kernel
theorem dX1_setSort_22 : decode cX1_setSort 22 = .ok (.iload_n 1, 1) := by decide +kernel
theorem dX1_setSort_23 : decode cX1_setSort 23 = .ok (.iload_n 2, 1) := by decide +kernel
theorem dX1_setSort_24 : decode cX1_setSort 24 = .ok (.iastore, 1) := by decide +kernel
theorem dX1_setSort_25 : decode cX1_setSort 25 = .ok (.aload_n 0, 1) := by decide +kernel
theorem dX1_setSort_26 : decode cX1_setSort 26 = .ok (.getfield 13, 3) := by decide +kernel
theorem dX1_setSort_29 : decode cX1_setSort 29 = .ok (.iload_n 1, 1) := by decide +kernel
theorem dX1_setSort_30 : decode cX1_setSort 30 = .ok (.iload_n 3, 1) := by decide +kernel
theorem dX1_setSort_31 : decode cX1_setSort 31 = .ok (.iastore, 1) := by decide +kernel
theorem dX1_setSort_32 : decode cX1_setSort 32 = .ok (.return_, 1) := by decide +kernel
theorem dX1_setRisk_0 : decode cX1_setRisk 0 = .ok (.iload_n 1, 1) := by decide +kernel
theorem dX1_setRisk_1 : decode cX1_setRisk 1 = .ok (.iconst 0, 1) := by decide +kernel
theorem dX1_setRisk_2 : decode cX1_setRisk 2 = .ok (.sipush 200, 3) := by decide +kernel
theorem dX1_setRisk_5 : decode cX1_setRisk 5 = .ok (.invokestatic 48, 3) := by decide +kernel
theorem dX1_setRisk_8 : decode cX1_setRisk 8 = .ok (.iload_n 2, 1) := by decide +kernel
theorem dX1_setRisk_9 : decode cX1_setRisk 9 = .ok (.iconst 0, 1) := by decide +kernel
theorem dX1_setRisk_10 : decode cX1_setRisk 10 = .ok (.bipush 10, 2) := by decide +kernel
theorem dX1_setRisk_12 : decode cX1_setRisk 12 = .ok (.invokestatic 48, 3) := by decide +kernel
theorem dX1_setRisk_15 : decode cX1_setRisk 15 = .ok (.aload_n 0, 1) := by decide +kernel
theorem dX1_setRisk_16 : decode cX1_setRisk 16 = .ok (.iload_n 1, 1) := by decide +kernel
theorem dX1_setRisk_17 : decode cX1_setRisk 17 = .ok (.putfield 38, 3) := by decide +kernel
theorem dX1_setRisk_20 : decode cX1_setRisk 20 = .ok (.aload_n 0, 1) := by decide +kernel
theorem dX1_setRisk_21 : decode cX1_setRisk 21 = .ok (.iload_n 2, 1) := by decide +kernel
theorem dX1_setRisk_22 : decode cX1_setRisk 22 = .ok (.putfield 41, 3) := by decide +kernel
theorem dX1_setRisk_25 : decode cX1_setRisk 25 = .ok (.aload_n 0, 1) := by decide +kernel
theorem dX1_setRisk_26 : decode cX1_setRisk 26 = .ok (.invokevirtual 52, 3) := by decide +kernel
theorem dX1_setRisk_29 : decode cX1_setRisk 29 = .ok (.ireturn, 1) := by decide +kernel
theorem dX1_setGuarantee_0 : decode cX1_setGuarantee 0 = .ok (.iload_n 1, 1) := by decide +kernel
theorem dX1_setGuarantee_1 : decode cX1_setGuarantee 1 = .ok (.invokestatic 56, 3) := by decide +kernel
theorem dX1_setGuarantee_4 : decode cX1_setGuarantee 4 = .ok (.iload_n 2, 1) := by decide +kernel
theorem dX1_setGuarantee_5 : decode cX1_setGuarantee 5 = .ok (.iconst 0, 1) := by decide +kernel
theorem dX1_setGuarantee_6 : decode cX1_setGuarantee 6 = .ok (.ldc 59, 2) := by decide +kernel
theorem dX1_setGuarantee_8 : decode cX1_setGuarantee 8 = .ok (.invokestatic 48, 3) := by decide +kernel
theorem dX1_setGuarantee_11 : decode cX1_setGuarantee 11 = .ok (.aload_n 0, 1) := by decide +kernel
theorem dX1_setGuarantee_12 : decode cX1_setGuarantee 12 = .ok (.getfield 19, 3) := by decide +kernel
theorem dX1_setGuarantee_15 : decode cX1_setGuarantee 15 = .ok (.iload_n 1, 1) := by decide +kernel
theorem dX1_setGuarantee_16 : decode cX1_setGuarantee 16 = .ok (.iaload, 1) := by decide +kernel
theorem dX1_setGuarantee_17 : decode cX1_setGuarantee 17 = .ok (.iload_n 2, 1) := by decide +kernel
theorem dX1_setGuarantee_18 : decode cX1_setGuarantee 18 = .ok (.if_icmp .le 13, 3) := by decide +kernel
theorem dX1_setGuarantee_21 : decode cX1_setGuarantee 21 = .ok (.new 60, 3) := by decide +kernel
theorem dX1_setGuarantee_24 : decode cX1_setGuarantee 24 = .ok (.dup, 1) := by decide +kernel
theorem dX1_setGuarantee_25 : decode cX1_setGuarantee 25 = .ok (.ldc 62, 2) := by decide +kernel
theorem dX1_setGuarantee_27 : decode cX1_setGuarantee 27 = .ok (.invokespecial 64, 3) := by decide +kernel
theorem dX1_setGuarantee_30 : decode cX1_setGuarantee 30 = .ok (.athrow, 1) := by decide +kernel
theorem dX1_setGuarantee_31 : decode cX1_setGuarantee 31 = .ok (.aload_n 0, 1) := by decide +kernel
theorem dX1_setGuarantee_32 : decode cX1_setGuarantee 32 = .ok (.getfield 16, 3) := by decide +kernel
theorem dX1_setGuarantee_35 : decode cX1_setGuarantee 35 = .ok (.iload_n 1, 1) := by decide +kernel
theorem dX1_setGuarantee_36 : decode cX1_setGuarantee 36 = .ok (.iaload, 1) := by decide +kernel
theorem dX1_setGuarantee_37 : decode cX1_setGuarantee 37 = .ok (.istore_n 3, 1) := by decide +kernel
theorem dX1_setGuarantee_38 : decode cX1_setGuarantee 38 = .ok (.aload_n 0, 1) := by decide +kernel
theorem dX1_setGuarantee_39 : decode cX1_setGuarantee 39 = .ok (.getfield 16, 3) := by decide +kernel
theorem dX1_setGuarantee_42 : decode cX1_setGuarantee 42 = .ok (.iload_n 1, 1) := by decide +kernel
theorem dX1_setGuarantee_43 : decode cX1_setGuarantee 43 = .ok (.iload_n 2, 1) := by decide +kernel
theorem dX1_setGuarantee_44 : decode cX1_setGuarantee 44 = .ok (.iastore, 1) := by decide +kernel
theorem dX1_setGuarantee_45 : decode cX1_setGuarantee 45 = .ok (.iload_n 3, 1) := by decide +kernel
theorem dX1_setGuarantee_46 : decode cX1_setGuarantee 46 = .ok (.ireturn, 1) := by decide +kernel
theorem dX1_announce_0 : decode cX1_announce 0 = .ok (.iload_n 1, 1) := by decide +kernel
theorem dX1_announce_1 : decode cX1_announce 1 = .ok (.invokestatic 56, 3) := by decide +kernel
theorem dX1_announce_4 : decode cX1_announce 4 = .ok (.iload_n 2, 1) := by decide +kernel
theorem dX1_announce_5 : decode cX1_announce 5 = .ok (.invokestatic 67, 3) := by decide +kernel
theorem dX1_announce_8 : decode cX1_announce 8 = .ok (.aload_n 0, 1) := by decide +kernel
theorem dX1_announce_9 : decode cX1_announce 9 = .ok (.getfield 31, 3) := by decide +kernel
theorem dX1_announce_12 : decode cX1_announce 12 = .ok (.bipush 15, 2) := by decide +kernel
theorem dX1_announce_14 : decode cX1_announce 14 = .ok (.if_icmp .lt 13, 3) := by decide +kernel
theorem dX1_announce_17 : decode cX1_announce 17 = .ok (.new 60, 3) := by decide +kernel
theorem dX1_announce_20 : decode cX1_announce 20 = .ok (.dup, 1) := by decide +kernel
theorem dX1_announce_21 : decode cX1_announce 21 = .ok (.ldc 70, 2) := by decide +kernel
theorem dX1_announce_23 : decode cX1_announce 23 = .ok (.invokespecial 64, 3) := by decide +kernel
theorem dX1_announce_26 : decode cX1_announce 26 = .ok (.athrow, 1) := by decide +kernel
theorem dX1_announce_27 : decode cX1_announce 27 = .ok (.aload_n 0, 1) := by decide +kernel
theorem dX1_announce_28 : decode cX1_announce 28 = .ok (.getfield 31, 3) := by decide +kernel
theorem dX1_announce_31 : decode cX1_announce 31 = .ok (.istore_n 3, 1) := by decide +kernel
theorem dX1_announce_32 : decode cX1_announce 32 = .ok (.aload_n 0, 1) := by decide +kernel
theorem dX1_announce_33 : decode cX1_announce 33 = .ok (.getfield 27, 3) := by decide +kernel
theorem dX1_announce_36 : decode cX1_announce 36 = .ok (.iload_n 3, 1) := by decide +kernel
theorem dX1_announce_37 : decode cX1_announce 37 = .ok (.new 25, 3) := by decide +kernel
theorem dX1_announce_40 : decode cX1_announce 40 = .ok (.dup, 1) := by decide +kernel
theorem dX1_announce_41 : decode cX1_announce 41 = .ok (.iload_n 1, 1) := by decide +kernel
theorem dX1_announce_42 : decode cX1_announce 42 = .ok (.iload_n 2, 1) := by decide +kernel
theorem dX1_announce_43 : decode cX1_announce 43 = .ok (.invokespecial 72, 3) := by decide +kernel
theorem dX1_announce_46 : decode cX1_announce 46 = .ok (.aastore, 1) := by decide +kernel
theorem dX1_announce_47 : decode cX1_announce 47 = .ok (.aload_n 0, 1) := by decide +kernel
theorem dX1_announce_48 : decode cX1_announce 48 = .ok (.iload_n 3, 1) := by decide +kernel
theorem dX1_announce_49 : decode cX1_announce 49 = .ok (.iconst 1, 1) := by decide +kernel
theorem dX1_announce_50 : decode cX1_announce 50 = .ok (.iadd, 1) := by decide +kernel
theorem dX1_announce_51 : decode cX1_announce 51 = .ok (.putfield 31, 3) := by decide +kernel
theorem dX1_announce_54 : decode cX1_announce 54 = .ok (.iload_n 3, 1) := by decide +kernel
theorem dX1_announce_55 : decode cX1_announce 55 = .ok (.ireturn, 1) := by decide +kernel
theorem dX1_amend_0 : decode cX1_amend 0 = .ok (.aload_n 0, 1) := by decide +kernel
theorem dX1_amend_1 : decode cX1_amend 1 = .ok (.iload_n 1, 1) := by decide +kernel
theorem dX1_amend_2 : decode cX1_amend 2 = .ok (.invokevirtual 75, 3) := by decide +kernel
theorem dX1_amend_5 : decode cX1_amend 5 = .ok (.astore 4, 2) := by decide +kernel
theorem dX1_amend_7 : decode cX1_amend 7 = .ok (.iload_n 2, 1) := by decide +kernel
theorem dX1_amend_8 : decode cX1_amend 8 = .ok (.invokestatic 44, 3) := by decide +kernel
theorem dX1_amend_11 : decode cX1_amend 11 = .ok (.iload_n 3, 1) := by decide +kernel
theorem dX1_amend_12 : decode cX1_amend 12 = .ok (.iconst 0, 1) := by decide +kernel
theorem dX1_amend_13 : decode cX1_amend 13 = .ok (.bipush 100, 2) := by decide +kernel
theorem dX1_amend_15 : decode cX1_amend 15 = .ok (.invokestatic 48, 3) := by decide +kernel
theorem dX1_amend_18 : decode cX1_amend 18 = .ok (.aload 4, 2) := by decide +kernel
theorem dX1_amend_20 : decode cX1_amend 20 = .ok (.getfield 79, 3) := by decide +kernel
theorem dX1_amend_23 : decode cX1_amend 23 = .ok (.ifCond .eq 13, 3) := by decide +kernel
theorem dX1_amend_26 : decode cX1_amend 26 = .ok (.new 60, 3) := by decide +kernel
theorem dX1_amend_29 : decode cX1_amend 29 = .ok (.dup, 1) := by decide +kernel
theorem dX1_amend_30 : decode cX1_amend 30 = .ok (.ldc 82, 2) := by decide +kernel
theorem dX1_amend_32 : decode cX1_amend 32 = .ok (.invokespecial 64, 3) := by decide +kernel
theorem dX1_amend_35 : decode cX1_amend 35 = .ok (.athrow, 1) := by decide +kernel
theorem dX1_amend_36 : decode cX1_amend 36 = .ok (.aload 4, 2) := by decide +kernel
theorem dX1_amend_38 : decode cX1_amend 38 = .ok (.getfield 84, 3) := by decide +kernel
theorem dX1_amend_41 : decode cX1_amend 41 = .ok (.iload_n 2, 1) := by decide +kernel
theorem dX1_amend_42 : decode cX1_amend 42 = .ok (.iaload, 1) := by decide +kernel
theorem dX1_amend_43 : decode cX1_amend 43 = .ok (.iload_n 3, 1) := by decide +kernel
theorem dX1_amend_44 : decode cX1_amend 44 = .ok (.if_icmp .ne 13, 3) := by decide +kernel
theorem dX1_amend_47 : decode cX1_amend 47 = .ok (.new 60, 3) := by decide +kernel
theorem dX1_amend_50 : decode cX1_amend 50 = .ok (.dup, 1) := by decide +kernel
theorem dX1_amend_51 : decode cX1_amend 51 = .ok (.ldc 87, 2) := by decide +kernel
theorem dX1_amend_53 : decode cX1_amend 53 = .ok (.invokespecial 64, 3) := by decide +kernel
theorem dX1_amend_56 : decode cX1_amend 56 = .ok (.athrow, 1) := by decide +kernel
theorem dX1_amend_57 : decode cX1_amend 57 = .ok (.aload 4, 2) := by decide +kernel
theorem dX1_amend_59 : decode cX1_amend 59 = .ok (.getfield 84, 3) := by decide +kernel
theorem dX1_amend_62 : decode cX1_amend 62 = .ok (.iload_n 2, 1) := by decide +kernel
theorem dX1_amend_63 : decode cX1_amend 63 = .ok (.iload_n 3, 1) := by decide +kernel
theorem dX1_amend_64 : decode cX1_amend 64 = .ok (.iastore, 1) := by decide +kernel
theorem dX1_amend_65 : decode cX1_amend 65 = .ok (.aload 4, 2) := by decide +kernel
theorem dX1_amend_67 : decode cX1_amend 67 = .ok (.dup, 1) := by decide +kernel
theorem dX1_amend_68 : decode cX1_amend 68 = .ok (.getfield 89, 3) := by decide +kernel
theorem dX1_amend_71 : decode cX1_amend 71 = .ok (.iconst 1, 1) := by decide +kernel
theorem dX1_amend_72 : decode cX1_amend 72 = .ok (.iadd, 1) := by decide +kernel
theorem dX1_amend_73 : decode cX1_amend 73 = .ok (.putfield 89, 3) := by decide +kernel
theorem dX1_amend_76 : decode cX1_amend 76 = .ok (.aload 4, 2) := by decide +kernel
theorem dX1_amend_78 : decode cX1_amend 78 = .ok (.getfield 89, 3) := by decide +kernel
theorem dX1_amend_81 : decode cX1_amend 81 = .ok (.ireturn, 1) := by decide +kernel
theorem dX1_arrive_0 : decode cX1_arrive 0 = .ok (.aload_n 0, 1) := by decide +kernel
theorem dX1_arrive_1 : decode cX1_arrive 1 = .ok (.iload_n 1, 1) := by decide +kernel
theorem dX1_arrive_2 : decode cX1_arrive 2 = .ok (.invokevirtual 75, 3) := by decide +kernel
theorem dX1_arrive_5 : decode cX1_arrive 5 = .ok (.astore_n 3, 1) := by decide +kernel
theorem dX1_arrive_6 : decode cX1_arrive 6 = .ok (.iload_n 2, 1) := by decide +kernel
theorem dX1_arrive_7 : decode cX1_arrive 7 = .ok (.invokestatic 67, 3) := by decide +kernel
theorem dX1_arrive_10 : decode cX1_arrive 10 = .ok (.aload_n 3, 1) := by decide +kernel
theorem dX1_arrive_11 : decode cX1_arrive 11 = .ok (.getfield 79, 3) := by decide +kernel
theorem dX1_arrive_14 : decode cX1_arrive 14 = .ok (.ifCond .eq 13, 3) := by decide +kernel
theorem dX1_arrive_17 : decode cX1_arrive 17 = .ok (.new 60, 3) := by decide +kernel
theorem dX1_arrive_20 : decode cX1_arrive 20 = .ok (.dup, 1) := by decide +kernel
theorem dX1_arrive_21 : decode cX1_arrive 21 = .ok (.ldc 82, 2) := by decide +kernel
theorem dX1_arrive_23 : decode cX1_arrive 23 = .ok (.invokespecial 64, 3) := by decide +kernel
theorem dX1_arrive_26 : decode cX1_arrive 26 = .ok (.athrow, 1) := by decide +kernel
theorem dX1_arrive_27 : decode cX1_arrive 27 = .ok (.aload_n 3, 1) := by decide +kernel
theorem dX1_arrive_28 : decode cX1_arrive 28 = .ok (.invokevirtual 92, 3) := by decide +kernel
theorem dX1_arrive_31 : decode cX1_arrive 31 = .ok (.ifCond .ne 13, 3) := by decide +kernel
theorem dX1_arrive_34 : decode cX1_arrive 34 = .ok (.new 60, 3) := by decide +kernel
theorem dX1_arrive_37 : decode cX1_arrive 37 = .ok (.dup, 1) := by decide +kernel
theorem dX1_arrive_38 : decode cX1_arrive 38 = .ok (.ldc 95, 2) := by decide +kernel
theorem dX1_arrive_40 : decode cX1_arrive 40 = .ok (.invokespecial 64, 3) := by decide +kernel
theorem dX1_arrive_43 : decode cX1_arrive 43 = .ok (.athrow, 1) := by decide +kernel
theorem dX1_arrive_44 : decode cX1_arrive 44 = .ok (.aload_n 0, 1) := by decide +kernel
theorem dX1_arrive_45 : decode cX1_arrive 45 = .ok (.dup, 1) := by decide +kernel
theorem dX1_arrive_46 : decode cX1_arrive 46 = .ok (.getfield 35, 3) := by decide +kernel
theorem dX1_arrive_49 : decode cX1_arrive 49 = .ok (.iconst 1, 1) := by decide +kernel
theorem dX1_arrive_50 : decode cX1_arrive 50 = .ok (.iadd, 1) := by decide +kernel
theorem dX1_arrive_51 : decode cX1_arrive 51 = .ok (.putfield 35, 3) := by decide +kernel
theorem dX1_arrive_54 : decode cX1_arrive 54 = .ok (.aload_n 3, 1) := by decide +kernel
theorem dX1_arrive_55 : decode cX1_arrive 55 = .ok (.iconst 1, 1) := by decide +kernel
theorem dX1_arrive_56 : decode cX1_arrive 56 = .ok (.putfield 79, 3) := by decide +kernel
theorem dX1_arrive_59 : decode cX1_arrive 59 = .ok (.aload_n 3, 1) := by decide +kernel
theorem dX1_arrive_60 : decode cX1_arrive 60 = .ok (.iload_n 2, 1) := by decide +kernel
theorem dX1_arrive_61 : decode cX1_arrive 61 = .ok (.aload_n 3, 1) := by decide +kernel
theorem dX1_arrive_62 : decode cX1_arrive 62 = .ok (.getfield 97, 3) := by decide +kernel
theorem dX1_arrive_65 : decode cX1_arrive 65 = .ok (.if_icmp .eq 7, 3) := by decide +kernel
theorem dX1_arrive_68 : decode cX1_arrive 68 = .ok (.iconst 1, 1) := by decide +kernel
theorem dX1_arrive_69 : decode cX1_arrive 69 = .ok (.goto 4, 3) := by decide +kernel
theorem dX1_arrive_72 : decode cX1_arrive 72 = .ok (.iconst 0, 1) := by decide +kernel
theorem dX1_arrive_73 : decode cX1_arrive 73 = .ok (.putfield 100, 3) := by decide +kernel
theorem dX1_arrive_76 : decode cX1_arrive 76 = .ok (.aload_n 3, 1) := by decide +kernel
theorem dX1_arrive_77 : decode cX1_arrive 77 = .ok (.aload_n 0, 1) := by decide +kernel
theorem dX1_arrive_78 : decode cX1_arrive 78 = .ok (.getfield 41, 3) := by decide +kernel
theorem dX1_arrive_81 : decode cX1_arrive 81 = .ok (.ifCond .eq 19, 3) := by decide +kernel
theorem dX1_arrive_84 : decode cX1_arrive 84 = .ok (.aload_n 0, 1) := by decide +kernel
theorem dX1_arrive_85 : decode cX1_arrive 85 = .ok (.getfield 35, 3) := by decide +kernel
theorem dX1_arrive_88 : decode cX1_arrive 88 = .ok (.aload_n 0, 1) := by decide +kernel
theorem dX1_arrive_89 : decode cX1_arrive 89 = .ok (.getfield 41, 3) := by decide +kernel
theorem dX1_arrive_92 : decode cX1_arrive 92 = .ok (.irem, 1) := by decide +kernel
theorem dX1_arrive_93 : decode cX1_arrive 93 = .ok (.ifCond .ne 7, 3) := by decide +kernel
theorem dX1_arrive_96 : decode cX1_arrive 96 = .ok (.iconst 1, 1) := by decide +kernel
theorem dX1_arrive_97 : decode cX1_arrive 97 = .ok (.goto 4, 3) := by decide +kernel
theorem dX1_arrive_100 : decode cX1_arrive 100 = .ok (.iconst 0, 1) := by decide +kernel
theorem dX1_arrive_101 : decode cX1_arrive 101 = .ok (.putfield 104, 3) := by decide +kernel
theorem dX1_arrive_104 : decode cX1_arrive 104 = .ok (.aload_n 0, 1) := by decide +kernel
theorem dX1_arrive_105 : decode cX1_arrive 105 = .ok (.aload_n 3, 1) := by decide +kernel
theorem dX1_arrive_106 : decode cX1_arrive 106 = .ok (.invokevirtual 107, 3) := by decide +kernel
theorem dX1_arrive_109 : decode cX1_arrive 109 = .ok (.ireturn, 1) := by decide +kernel
theorem dX1_risk_0 : decode cX1_risk 0 = .ok (.aload_n 0, 1) := by decide +kernel
theorem dX1_risk_1 : decode cX1_risk 1 = .ok (.iload_n 1, 1) := by decide +kernel
theorem dX1_risk_2 : decode cX1_risk 2 = .ok (.invokevirtual 75, 3) := by decide +kernel
theorem dX1_risk_5 : decode cX1_risk 5 = .ok (.astore_n 2, 1) := by decide +kernel
theorem dX1_risk_6 : decode cX1_risk 6 = .ok (.aload_n 2, 1) := by decide +kernel
theorem dX1_risk_7 : decode cX1_risk 7 = .ok (.getfield 79, 3) := by decide +kernel
theorem dX1_risk_10 : decode cX1_risk 10 = .ok (.ifCond .ne 13, 3) := by decide +kernel
theorem dX1_risk_13 : decode cX1_risk 13 = .ok (.new 60, 3) := by decide +kernel
theorem dX1_risk_16 : decode cX1_risk 16 = .ok (.dup, 1) := by decide +kernel
theorem dX1_risk_17 : decode cX1_risk 17 = .ok (.ldc 111, 2) := by decide +kernel
theorem dX1_risk_19 : decode cX1_risk 19 = .ok (.invokespecial 64, 3) := by decide +kernel
theorem dX1_risk_22 : decode cX1_risk 22 = .ok (.athrow, 1) := by decide +kernel
theorem dX1_risk_23 : decode cX1_risk 23 = .ok (.aload_n 0, 1) := by decide +kernel
theorem dX1_risk_24 : decode cX1_risk 24 = .ok (.aload_n 2, 1) := by decide +kernel
theorem dX1_risk_25 : decode cX1_risk 25 = .ok (.invokevirtual 113, 3) := by decide +kernel
theorem dX1_risk_28 : decode cX1_risk 28 = .ok (.ireturn, 1) := by decide +kernel
theorem dX1_mustSearch_0 : decode cX1_mustSearch 0 = .ok (.aload_n 0, 1) := by decide +kernel
theorem dX1_mustSearch_1 : decode cX1_mustSearch 1 = .ok (.aload_n 0, 1) := by decide +kernel
theorem dX1_mustSearch_2 : decode cX1_mustSearch 2 = .ok (.iload_n 1, 1) := by decide +kernel
theorem dX1_mustSearch_3 : decode cX1_mustSearch 3 = .ok (.invokevirtual 75, 3) := by decide +kernel
theorem dX1_mustSearch_6 : decode cX1_mustSearch 6 = .ok (.invokevirtual 107, 3) := by decide +kernel
theorem dX1_mustSearch_9 : decode cX1_mustSearch 9 = .ok (.ireturn, 1) := by decide +kernel
theorem dX1_search_0 : decode cX1_search 0 = .ok (.aload_n 0, 1) := by decide +kernel
theorem dX1_search_1 : decode cX1_search 1 = .ok (.iload_n 1, 1) := by decide +kernel
theorem dX1_search_2 : decode cX1_search 2 = .ok (.invokevirtual 75, 3) := by decide +kernel
theorem dX1_search_5 : decode cX1_search 5 = .ok (.astore 4, 2) := by decide +kernel
theorem dX1_search_7 : decode cX1_search 7 = .ok (.iload_n 2, 1) := by decide +kernel
theorem dX1_search_8 : decode cX1_search 8 = .ok (.invokestatic 44, 3) := by decide +kernel
theorem dX1_search_11 : decode cX1_search 11 = .ok (.iload_n 3, 1) := by decide +kernel
theorem dX1_search_12 : decode cX1_search 12 = .ok (.iconst 0, 1) := by decide +kernel
theorem dX1_search_13 : decode cX1_search 13 = .ok (.bipush 100, 2) := by decide +kernel
theorem dX1_search_15 : decode cX1_search 15 = .ok (.invokestatic 48, 3) := by decide +kernel
theorem dX1_search_18 : decode cX1_search 18 = .ok (.aload 4, 2) := by decide +kernel
theorem dX1_search_20 : decode cX1_search 20 = .ok (.getfield 79, 3) := by decide +kernel
theorem dX1_search_23 : decode cX1_search 23 = .ok (.iconst 1, 1) := by decide +kernel
theorem dX1_search_24 : decode cX1_search 24 = .ok (.if_icmp .eq 13, 3) := by decide +kernel
theorem dX1_search_27 : decode cX1_search 27 = .ok (.new 60, 3) := by decide +kernel
theorem dX1_search_30 : decode cX1_search 30 = .ok (.dup, 1) := by decide +kernel
theorem dX1_search_31 : decode cX1_search 31 = .ok (.ldc 117, 2) := by decide +kernel
theorem dX1_search_33 : decode cX1_search 33 = .ok (.invokespecial 64, 3) := by decide +kernel
theorem dX1_search_36 : decode cX1_search 36 = .ok (.athrow, 1) := by decide +kernel
theorem dX1_search_37 : decode cX1_search 37 = .ok (.aload 4, 2) := by decide +kernel
theorem dX1_search_39 : decode cX1_search 39 = .ok (.iload_n 2, 1) := by decide +kernel
theorem dX1_search_40 : decode cX1_search 40 = .ok (.iload_n 3, 1) := by decide +kernel
theorem dX1_search_41 : decode cX1_search 41 = .ok (.invokevirtual 119, 3) := by decide +kernel
theorem dX1_search_44 : decode cX1_search 44 = .ok (.aload 4, 2) := by decide +kernel
theorem dX1_search_46 : decode cX1_search 46 = .ok (.getfield 122, 3) := by decide +kernel
theorem dX1_search_49 : decode cX1_search 49 = .ok (.ireturn, 1) := by decide +kernel
theorem dX1_bond_0 : decode cX1_bond 0 = .ok (.aload_n 0, 1) := by decide +kernel
theorem dX1_bond_1 : decode cX1_bond 1 = .ok (.iload_n 1, 1) := by decide +kernel
theorem dX1_bond_2 : decode cX1_bond 2 = .ok (.invokevirtual 75, 3) := by decide +kernel
theorem dX1_bond_5 : decode cX1_bond 5 = .ok (.astore_n 3, 1) := by decide +kernel
theorem dX1_bond_6 : decode cX1_bond 6 = .ok (.iload_n 2, 1) := by decide +kernel
theorem dX1_bond_7 : decode cX1_bond 7 = .ok (.invokestatic 125, 3) := by decide +kernel
theorem dX1_bond_10 : decode cX1_bond 10 = .ok (.aload_n 3, 1) := by decide +kernel
theorem dX1_bond_11 : decode cX1_bond 11 = .ok (.getfield 79, 3) := by decide +kernel
theorem dX1_bond_14 : decode cX1_bond 14 = .ok (.iconst 1, 1) := by decide +kernel
theorem dX1_bond_15 : decode cX1_bond 15 = .ok (.if_icmp .eq 13, 3) := by decide +kernel
theorem dX1_bond_18 : decode cX1_bond 18 = .ok (.new 60, 3) := by decide +kernel
theorem dX1_bond_21 : decode cX1_bond 21 = .ok (.dup, 1) := by decide +kernel
theorem dX1_bond_22 : decode cX1_bond 22 = .ok (.ldc 117, 2) := by decide +kernel
theorem dX1_bond_24 : decode cX1_bond 24 = .ok (.invokespecial 64, 3) := by decide +kernel
theorem dX1_bond_27 : decode cX1_bond 27 = .ok (.athrow, 1) := by decide +kernel
theorem dX1_bond_28 : decode cX1_bond 28 = .ok (.aload_n 0, 1) := by decide +kernel
theorem dX1_bond_29 : decode cX1_bond 29 = .ok (.aload_n 3, 1) := by decide +kernel
theorem dX1_bond_30 : decode cX1_bond 30 = .ok (.invokevirtual 107, 3) := by decide +kernel
theorem dX1_bond_33 : decode cX1_bond 33 = .ok (.ifCond .eq 13, 3) := by decide +kernel
theorem dX1_bond_36 : decode cX1_bond 36 = .ok (.new 60, 3) := by decide +kernel
theorem dX1_bond_39 : decode cX1_bond 39 = .ok (.dup, 1) := by decide +kernel
theorem dX1_bond_40 : decode cX1_bond 40 = .ok (.ldc 128, 2) := by decide +kernel
theorem dX1_bond_42 : decode cX1_bond 42 = .ok (.invokespecial 64, 3) := by decide +kernel
theorem dX1_bond_45 : decode cX1_bond 45 = .ok (.athrow, 1) := by decide +kernel
theorem dX1_bond_46 : decode cX1_bond 46 = .ok (.aload_n 0, 1) := by decide +kernel
theorem dX1_bond_47 : decode cX1_bond 47 = .ok (.aload_n 3, 1) := by decide +kernel
theorem dX1_bond_48 : decode cX1_bond 48 = .ok (.invokevirtual 130, 3) := by decide +kernel
theorem dX1_bond_51 : decode cX1_bond 51 = .ok (.istore 4, 2) := by decide +kernel
theorem dX1_bond_53 : decode cX1_bond 53 = .ok (.aload_n 0, 1) := by decide +kernel
theorem dX1_bond_54 : decode cX1_bond 54 = .ok (.getfield 19, 3) := by decide +kernel
theorem dX1_bond_57 : decode cX1_bond 57 = .ok (.aload_n 3, 1) := by decide +kernel
theorem dX1_bond_58 : decode cX1_bond 58 = .ok (.getfield 133, 3) := by decide +kernel
theorem dX1_bond_61 : decode cX1_bond 61 = .ok (.iaload, 1) := by decide +kernel
theorem dX1_bond_62 : decode cX1_bond 62 = .ok (.iload 4, 2) := by decide +kernel
theorem dX1_bond_64 : decode cX1_bond 64 = .ok (.iadd, 1) := by decide +kernel
theorem dX1_bond_65 : decode cX1_bond 65 = .ok (.aload_n 0, 1) := by decide +kernel
theorem dX1_bond_66 : decode cX1_bond 66 = .ok (.getfield 16, 3) := by decide +kernel
theorem dX1_bond_69 : decode cX1_bond 69 = .ok (.aload_n 3, 1) := by decide +kernel
theorem dX1_bond_70 : decode cX1_bond 70 = .ok (.getfield 133, 3) := by decide +kernel
theorem dX1_bond_73 : decode cX1_bond 73 = .ok (.iaload, 1) := by decide +kernel
theorem dX1_bond_74 : decode cX1_bond 74 = .ok (.if_icmp .le 13, 3) := by decide +kernel
theorem dX1_bond_77 : decode cX1_bond 77 = .ok (.new 60, 3) := by decide +kernel
theorem dX1_bond_80 : decode cX1_bond 80 = .ok (.dup, 1) := by decide +kernel
theorem dX1_bond_81 : decode cX1_bond 81 = .ok (.ldc 136, 2) := by decide +kernel
theorem dX1_bond_83 : decode cX1_bond 83 = .ok (.invokespecial 64, 3) := by decide +kernel
theorem dX1_bond_86 : decode cX1_bond 86 = .ok (.athrow, 1) := by decide +kernel
theorem dX1_bond_87 : decode cX1_bond 87 = .ok (.aload_n 0, 1) := by decide +kernel
theorem dX1_bond_88 : decode cX1_bond 88 = .ok (.getfield 19, 3) := by decide +kernel
theorem dX1_bond_91 : decode cX1_bond 91 = .ok (.aload_n 3, 1) := by decide +kernel
theorem dX1_bond_92 : decode cX1_bond 92 = .ok (.getfield 133, 3) := by decide +kernel
theorem dX1_bond_95 : decode cX1_bond 95 = .ok (.dup2, 1) := by decide +kernel
theorem dX1_bond_96 : decode cX1_bond 96 = .ok (.iaload, 1) := by decide +kernel
theorem dX1_bond_97 : decode cX1_bond 97 = .ok (.iload 4, 2) := by decide +kernel
theorem dX1_bond_99 : decode cX1_bond 99 = .ok (.iadd, 1) := by decide +kernel
theorem dX1_bond_100 : decode cX1_bond 100 = .ok (.iastore, 1) := by decide +kernel
theorem dX1_bond_101 : decode cX1_bond 101 = .ok (.aload_n 3, 1) := by decide +kernel
theorem dX1_bond_102 : decode cX1_bond 102 = .ok (.iload_n 2, 1) := by decide +kernel
theorem dX1_bond_103 : decode cX1_bond 103 = .ok (.aload_n 0, 1) := by decide +kernel
theorem dX1_bond_104 : decode cX1_bond 104 = .ok (.getfield 9, 3) := by decide +kernel
theorem dX1_bond_107 : decode cX1_bond 107 = .ok (.invokevirtual 138, 3) := by decide +kernel
theorem dX1_bond_110 : decode cX1_bond 110 = .ok (.iload 4, 2) := by decide +kernel
theorem dX1_bond_112 : decode cX1_bond 112 = .ok (.ireturn, 1) := by decide +kernel
theorem dX1_move_0 : decode cX1_move 0 = .ok (.aload_n 0, 1) := by decide +kernel
theorem dX1_move_1 : decode cX1_move 1 = .ok (.iload_n 1, 1) := by decide +kernel
theorem dX1_move_2 : decode cX1_move 2 = .ok (.invokevirtual 75, 3) := by decide +kernel
theorem dX1_move_5 : decode cX1_move 5 = .ok (.astore 6, 2) := by decide +kernel
theorem dX1_move_7 : decode cX1_move 7 = .ok (.iload 4, 2) := by decide +kernel
theorem dX1_move_9 : decode cX1_move 9 = .ok (.invokestatic 125, 3) := by decide +kernel
theorem dX1_move_12 : decode cX1_move 12 = .ok (.iload_n 3, 1) := by decide +kernel
theorem dX1_move_13 : decode cX1_move 13 = .ok (.iload 4, 2) := by decide +kernel
theorem dX1_move_15 : decode cX1_move 15 = .ok (.if_icmp .ne 13, 3) := by decide +kernel
theorem dX1_move_18 : decode cX1_move 18 = .ok (.new 142, 3) := by decide +kernel
theorem dX1_move_21 : decode cX1_move 21 = .ok (.dup, 1) := by decide +kernel
theorem dX1_move_22 : decode cX1_move 22 = .ok (.ldc 144, 2) := by decide +kernel
theorem dX1_move_24 : decode cX1_move 24 = .ok (.invokespecial 146, 3) := by decide +kernel
theorem dX1_move_27 : decode cX1_move 27 = .ok (.athrow, 1) := by decide +kernel
theorem dX1_move_28 : decode cX1_move 28 = .ok (.aload 6, 2) := by decide +kernel
theorem dX1_move_30 : decode cX1_move 30 = .ok (.iload_n 2, 1) := by decide +kernel
theorem dX1_move_31 : decode cX1_move 31 = .ok (.iload_n 3, 1) := by decide +kernel
theorem dX1_move_32 : decode cX1_move 32 = .ok (.iload 5, 2) := by decide +kernel
theorem dX1_move_34 : decode cX1_move 34 = .ok (.invokestatic 147, 3) := by decide +kernel
theorem dX1_move_37 : decode cX1_move 37 = .ok (.iload_n 2, 1) := by decide +kernel
theorem dX1_move_38 : decode cX1_move 38 = .ok (.iload 4, 2) := by decide +kernel
theorem dX1_move_40 : decode cX1_move 40 = .ok (.invokestatic 151, 3) := by decide +kernel
theorem dX1_move_43 : decode cX1_move 43 = .ok (.istore 7, 2) := by decide +kernel
theorem dX1_move_45 : decode cX1_move 45 = .ok (.aload 6, 2) := by decide +kernel
theorem dX1_move_47 : decode cX1_move 47 = .ok (.getfield 155, 3) := by decide +kernel
theorem dX1_move_50 : decode cX1_move 50 = .ok (.iload_n 2, 1) := by decide +kernel
theorem dX1_move_51 : decode cX1_move 51 = .ok (.iload_n 3, 1) := by decide +kernel
theorem dX1_move_52 : decode cX1_move 52 = .ok (.invokestatic 151, 3) := by decide +kernel
theorem dX1_move_55 : decode cX1_move 55 = .ok (.dup2, 1) := by decide +kernel
theorem dX1_move_56 : decode cX1_move 56 = .ok (.iaload, 1) := by decide +kernel
theorem dX1_move_57 : decode cX1_move 57 = .ok (.iload 5, 2) := by decide +kernel
theorem dX1_move_59 : decode cX1_move 59 = .ok (.isub, 1) := by decide +kernel
theorem dX1_move_60 : decode cX1_move 60 = .ok (.iastore, 1) := by decide +kernel
theorem dX1_move_61 : decode cX1_move 61 = .ok (.aload 6, 2) := by decide +kernel
theorem dX1_move_63 : decode cX1_move 63 = .ok (.getfield 155, 3) := by decide +kernel
theorem dX1_move_66 : decode cX1_move 66 = .ok (.iload 7, 2) := by decide +kernel
theorem dX1_move_68 : decode cX1_move 68 = .ok (.dup2, 1) := by decide +kernel
theorem dX1_move_69 : decode cX1_move 69 = .ok (.iaload, 1) := by decide +kernel
theorem dX1_move_70 : decode cX1_move 70 = .ok (.iload 5, 2) := by decide +kernel
theorem dX1_move_72 : decode cX1_move 72 = .ok (.iadd, 1) := by decide +kernel
theorem dX1_move_73 : decode cX1_move 73 = .ok (.iastore, 1) := by decide +kernel
theorem dX1_move_74 : decode cX1_move 74 = .ok (.aload 6, 2) := by decide +kernel
theorem dX1_move_76 : decode cX1_move 76 = .ok (.getfield 155, 3) := by decide +kernel
theorem dX1_move_79 : decode cX1_move 79 = .ok (.iload 7, 2) := by decide +kernel
theorem dX1_move_81 : decode cX1_move 81 = .ok (.iaload, 1) := by decide +kernel
theorem dX1_move_82 : decode cX1_move 82 = .ok (.ireturn, 1) := by decide +kernel
theorem dX1_free_0 : decode cX1_free 0 = .ok (.aload_n 0, 1) := by decide +kernel
theorem dX1_free_1 : decode cX1_free 1 = .ok (.iload_n 1, 1) := by decide +kernel
theorem dX1_free_2 : decode cX1_free 2 = .ok (.invokevirtual 75, 3) := by decide +kernel
theorem dX1_free_5 : decode cX1_free 5 = .ok (.astore 5, 2) := by decide +kernel
theorem dX1_free_7 : decode cX1_free 7 = .ok (.aload 5, 2) := by decide +kernel
theorem dX1_free_9 : decode cX1_free 9 = .ok (.iload_n 2, 1) := by decide +kernel
theorem dX1_free_10 : decode cX1_free 10 = .ok (.iload_n 3, 1) := by decide +kernel
theorem dX1_free_11 : decode cX1_free 11 = .ok (.iload 4, 2) := by decide +kernel
theorem dX1_free_13 : decode cX1_free 13 = .ok (.invokestatic 147, 3) := by decide +kernel
theorem dX1_free_16 : decode cX1_free 16 = .ok (.aload_n 0, 1) := by decide +kernel
theorem dX1_free_17 : decode cX1_free 17 = .ok (.aload 5, 2) := by decide +kernel
theorem dX1_free_19 : decode cX1_free 19 = .ok (.iload_n 2, 1) := by decide +kernel
theorem dX1_free_20 : decode cX1_free 20 = .ok (.iload_n 3, 1) := by decide +kernel
theorem dX1_free_21 : decode cX1_free 21 = .ok (.iload 4, 2) := by decide +kernel
theorem dX1_free_23 : decode cX1_free 23 = .ok (.invokevirtual 158, 3) := by decide +kernel
theorem dX1_free_26 : decode cX1_free 26 = .ok (.istore 6, 2) := by decide +kernel
theorem dX1_free_28 : decode cX1_free 28 = .ok (.aload_n 0, 1) := by decide +kernel
theorem dX1_free_29 : decode cX1_free 29 = .ok (.getfield 22, 3) := by decide +kernel
theorem dX1_free_32 : decode cX1_free 32 = .ok (.aload 5, 2) := by decide +kernel
theorem dX1_free_34 : decode cX1_free 34 = .ok (.getfield 133, 3) := by decide +kernel
theorem dX1_free_37 : decode cX1_free 37 = .ok (.dup2, 1) := by decide +kernel
theorem dX1_free_38 : decode cX1_free 38 = .ok (.iaload, 1) := by decide +kernel
theorem dX1_free_39 : decode cX1_free 39 = .ok (.iload 6, 2) := by decide +kernel
theorem dX1_free_41 : decode cX1_free 41 = .ok (.iadd, 1) := by decide +kernel
theorem dX1_free_42 : decode cX1_free 42 = .ok (.iastore, 1) := by decide +kernel
theorem dX1_free_43 : decode cX1_free 43 = .ok (.iload 6, 2) := by decide +kernel
theorem dX1_free_45 : decode cX1_free 45 = .ok (.ireturn, 1) := by decide +kernel
theorem dX1_sendBack_0 : decode cX1_sendBack 0 = .ok (.aload_n 0, 1) := by decide +kernel
theorem dX1_sendBack_1 : decode cX1_sendBack 1 = .ok (.iload_n 1, 1) := by decide +kernel
theorem dX1_sendBack_2 : decode cX1_sendBack 2 = .ok (.invokevirtual 75, 3) := by decide +kernel
theorem dX1_sendBack_5 : decode cX1_sendBack 5 = .ok (.astore 5, 2) := by decide +kernel
theorem dX1_sendBack_7 : decode cX1_sendBack 7 = .ok (.aload 5, 2) := by decide +kernel
theorem dX1_sendBack_9 : decode cX1_sendBack 9 = .ok (.iload_n 2, 1) := by decide +kernel
theorem dX1_sendBack_10 : decode cX1_sendBack 10 = .ok (.iload_n 3, 1) := by decide +kernel
theorem dX1_sendBack_11 : decode cX1_sendBack 11 = .ok (.iload 4, 2) := by decide +kernel
theorem dX1_sendBack_13 : decode cX1_sendBack 13 = .ok (.invokestatic 147, 3) := by decide +kernel
theorem dX1_sendBack_16 : decode cX1_sendBack 16 = .ok (.aload_n 0, 1) := by decide +kernel
theorem dX1_sendBack_17 : decode cX1_sendBack 17 = .ok (.aload 5, 2) := by decide +kernel
theorem dX1_sendBack_19 : decode cX1_sendBack 19 = .ok (.iload_n 2, 1) := by decide +kernel
theorem dX1_sendBack_20 : decode cX1_sendBack 20 = .ok (.iload_n 3, 1) := by decide +kernel
theorem dX1_sendBack_21 : decode cX1_sendBack 21 = .ok (.iload 4, 2) := by decide +kernel
theorem dX1_sendBack_23 : decode cX1_sendBack 23 = .ok (.invokevirtual 158, 3) := by decide +kernel
theorem dX1_sendBack_26 : decode cX1_sendBack 26 = .ok (.ireturn, 1) := by decide +kernel
theorem dX1_state_0 : decode cX1_state 0 = .ok (.aload_n 0, 1) := by decide +kernel
theorem dX1_state_1 : decode cX1_state 1 = .ok (.iload_n 1, 1) := by decide +kernel
theorem dX1_state_2 : decode cX1_state 2 = .ok (.invokevirtual 75, 3) := by decide +kernel
theorem dX1_state_5 : decode cX1_state 5 = .ok (.getfield 79, 3) := by decide +kernel
theorem dX1_state_8 : decode cX1_state 8 = .ok (.ireturn, 1) := by decide +kernel
theorem dX1_manifest_0 : decode cX1_manifest 0 = .ok (.aload_n 0, 1) := by decide +kernel
theorem dX1_manifest_1 : decode cX1_manifest 1 = .ok (.iload_n 1, 1) := by decide +kernel
theorem dX1_manifest_2 : decode cX1_manifest 2 = .ok (.invokevirtual 75, 3) := by decide +kernel
theorem dX1_manifest_5 : decode cX1_manifest 5 = .ok (.astore_n 3, 1) := by decide +kernel
theorem dX1_manifest_6 : decode cX1_manifest 6 = .ok (.iload_n 2, 1) := by decide +kernel
theorem dX1_manifest_7 : decode cX1_manifest 7 = .ok (.invokestatic 44, 3) := by decide +kernel
theorem dX1_manifest_10 : decode cX1_manifest 10 = .ok (.aload_n 3, 1) := by decide +kernel
theorem dX1_manifest_11 : decode cX1_manifest 11 = .ok (.getfield 84, 3) := by decide +kernel
theorem dX1_manifest_14 : decode cX1_manifest 14 = .ok (.iload_n 2, 1) := by decide +kernel
theorem dX1_manifest_15 : decode cX1_manifest 15 = .ok (.iaload, 1) := by decide +kernel
theorem dX1_manifest_16 : decode cX1_manifest 16 = .ok (.ireturn, 1) := by decide +kernel
theorem dX1_stored_0 : decode cX1_stored 0 = .ok (.iload_n 1, 1) := by decide +kernel
theorem dX1_stored_1 : decode cX1_stored 1 = .ok (.invokestatic 44, 3) := by decide +kernel
theorem dX1_stored_4 : decode cX1_stored 4 = .ok (.iload_n 2, 1) := by decide +kernel
theorem dX1_stored_5 : decode cX1_stored 5 = .ok (.invokestatic 125, 3) := by decide +kernel
theorem dX1_stored_8 : decode cX1_stored 8 = .ok (.iconst 0, 1) := by decide +kernel
theorem dX1_stored_9 : decode cX1_stored 9 = .ok (.istore_n 3, 1) := by decide +kernel
theorem dX1_stored_10 : decode cX1_stored 10 = .ok (.aload_n 0, 1) := by decide +kernel
theorem dX1_stored_11 : decode cX1_stored 11 = .ok (.getfield 27, 3) := by decide +kernel
theorem dX1_stored_14 : decode cX1_stored 14 = .ok (.astore 4, 2) := by decide +kernel
theorem dX1_stored_16 : decode cX1_stored 16 = .ok (.aload 4, 2) := by decide +kernel
theorem dX1_stored_18 : decode cX1_stored 18 = .ok (.arraylength, 1) := by decide +kernel
theorem dX1_stored_19 : decode cX1_stored 19 = .ok (.istore 5, 2) := by decide +kernel
theorem dX1_stored_21 : decode cX1_stored 21 = .ok (.iconst 0, 1) := by decide +kernel
theorem dX1_stored_22 : decode cX1_stored 22 = .ok (.istore 6, 2) := by decide +kernel
theorem dX1_stored_24 : decode cX1_stored 24 = .ok (.iload 6, 2) := by decide +kernel
theorem dX1_stored_26 : decode cX1_stored 26 = .ok (.iload 5, 2) := by decide +kernel
theorem dX1_stored_28 : decode cX1_stored 28 = .ok (.if_icmp .ge 35, 3) := by decide +kernel
theorem dX1_stored_31 : decode cX1_stored 31 = .ok (.aload 4, 2) := by decide +kernel
theorem dX1_stored_33 : decode cX1_stored 33 = .ok (.iload 6, 2) := by decide +kernel
theorem dX1_stored_35 : decode cX1_stored 35 = .ok (.aaload, 1) := by decide +kernel
theorem dX1_stored_36 : decode cX1_stored 36 = .ok (.astore 7, 2) := by decide +kernel
theorem dX1_stored_38 : decode cX1_stored 38 = .ok (.aload 7, 2) := by decide +kernel
theorem dX1_stored_40 : decode cX1_stored 40 = .ok (.ifnull 17, 3) := by decide +kernel
theorem dX1_stored_43 : decode cX1_stored 43 = .ok (.iload_n 3, 1) := by decide +kernel
theorem dX1_stored_44 : decode cX1_stored 44 = .ok (.aload 7, 2) := by decide +kernel
theorem dX1_stored_46 : decode cX1_stored 46 = .ok (.getfield 155, 3) := by decide +kernel
theorem dX1_stored_49 : decode cX1_stored 49 = .ok (.iload_n 1, 1) := by decide +kernel
theorem dX1_stored_50 : decode cX1_stored 50 = .ok (.iload_n 2, 1) := by decide +kernel
theorem dX1_stored_51 : decode cX1_stored 51 = .ok (.invokestatic 151, 3) := by decide +kernel
theorem dX1_stored_54 : decode cX1_stored 54 = .ok (.iaload, 1) := by decide +kernel
theorem dX1_stored_55 : decode cX1_stored 55 = .ok (.iadd, 1) := by decide +kernel
theorem dX1_stored_56 : decode cX1_stored 56 = .ok (.istore_n 3, 1) := by decide +kernel
theorem dX1_stored_57 : decode cX1_stored 57 = .ok (.iinc 6 1, 3) := by decide +kernel
theorem dX1_stored_60 : decode cX1_stored 60 = .ok (.goto (-36), 3) := by decide +kernel
theorem dX1_stored_63 : decode cX1_stored 63 = .ok (.iload_n 3, 1) := by decide +kernel
theorem dX1_stored_64 : decode cX1_stored 64 = .ok (.ireturn, 1) := by decide +kernel
theorem dX1_held_0 : decode cX1_held 0 = .ok (.iload_n 1, 1) := by decide +kernel
theorem dX1_held_1 : decode cX1_held 1 = .ok (.invokestatic 56, 3) := by decide +kernel
theorem dX1_held_4 : decode cX1_held 4 = .ok (.aload_n 0, 1) := by decide +kernel
theorem dX1_held_5 : decode cX1_held 5 = .ok (.getfield 19, 3) := by decide +kernel
theorem dX1_held_8 : decode cX1_held 8 = .ok (.iload_n 1, 1) := by decide +kernel
theorem dX1_held_9 : decode cX1_held 9 = .ok (.iaload, 1) := by decide +kernel
theorem dX1_held_10 : decode cX1_held 10 = .ok (.ireturn, 1) := by decide +kernel
theorem dX1_paid_0 : decode cX1_paid 0 = .ok (.iload_n 1, 1) := by decide +kernel
theorem dX1_paid_1 : decode cX1_paid 1 = .ok (.invokestatic 56, 3) := by decide +kernel
theorem dX1_paid_4 : decode cX1_paid 4 = .ok (.aload_n 0, 1) := by decide +kernel
theorem dX1_paid_5 : decode cX1_paid 5 = .ok (.getfield 22, 3) := by decide +kernel
theorem dX1_paid_8 : decode cX1_paid 8 = .ok (.iload_n 1, 1) := by decide +kernel
theorem dX1_paid_9 : decode cX1_paid 9 = .ok (.iaload, 1) := by decide +kernel
theorem dX1_paid_10 : decode cX1_paid 10 = .ok (.ireturn, 1) := by decide +kernel
theorem dX1_findConsignment_0 : decode cX1_findConsignment 0 = .ok (.iload_n 1, 1) := by decide +kernel
theorem dX1_findConsignment_1 : decode cX1_findConsignment 1 = .ok (.ifCond .lt 21, 3) := by decide +kernel
theorem dX1_findConsignment_4 : decode cX1_findConsignment 4 = .ok (.iload_n 1, 1) := by decide +kernel
theorem dX1_findConsignment_5 : decode cX1_findConsignment 5 = .ok (.aload_n 0, 1) := by decide +kernel
theorem dX1_findConsignment_6 : decode cX1_findConsignment 6 = .ok (.getfield 27, 3) := by decide +kernel
theorem dX1_findConsignment_9 : decode cX1_findConsignment 9 = .ok (.arraylength, 1) := by decide +kernel
theorem dX1_findConsignment_10 : decode cX1_findConsignment 10 = .ok (.if_icmp .ge 12, 3) := by decide +kernel
theorem dX1_findConsignment_13 : decode cX1_findConsignment 13 = .ok (.aload_n 0, 1) := by decide +kernel
theorem dX1_findConsignment_14 : decode cX1_findConsignment 14 = .ok (.getfield 27, 3) := by decide +kernel
theorem dX1_findConsignment_17 : decode cX1_findConsignment 17 = .ok (.iload_n 1, 1) := by decide +kernel
theorem dX1_findConsignment_18 : decode cX1_findConsignment 18 = .ok (.aaload, 1) := by decide +kernel
theorem dX1_findConsignment_19 : decode cX1_findConsignment 19 = .ok (.goto 4, 3) := by decide +kernel
theorem dX1_findConsignment_22 : decode cX1_findConsignment 22 = .ok (.aconst_null, 1) := by decide +kernel
theorem dX1_findConsignment_23 : decode cX1_findConsignment 23 = .ok (.astore_n 2, 1) := by decide +kernel
theorem dX1_findConsignment_24 : decode cX1_findConsignment 24 = .ok (.aload_n 2, 1) := by decide +kernel
theorem dX1_findConsignment_25 : decode cX1_findConsignment 25 = .ok (.ifnonnull 13, 3) := by decide +kernel
theorem dX1_findConsignment_28 : decode cX1_findConsignment 28 = .ok (.new 162, 3) := by decide +kernel
theorem dX1_findConsignment_31 : decode cX1_findConsignment 31 = .ok (.dup, 1) := by decide +kernel
theorem dX1_findConsignment_32 : decode cX1_findConsignment 32 = .ok (.ldc 164, 2) := by decide +kernel
theorem dX1_findConsignment_34 : decode cX1_findConsignment 34 = .ok (.invokespecial 166, 3) := by decide +kernel
theorem dX1_findConsignment_37 : decode cX1_findConsignment 37 = .ok (.athrow, 1) := by decide +kernel
theorem dX1_findConsignment_38 : decode cX1_findConsignment 38 = .ok (.aload_n 2, 1) := by decide +kernel
theorem dX1_findConsignment_39 : decode cX1_findConsignment 39 = .ok (.areturn, 1) := by decide +kernel
theorem dX1_checkRange_0 : decode cX1_checkRange 0 = .ok (.iload_n 0, 1) := by decide +kernel
theorem dX1_checkRange_1 : decode cX1_checkRange 1 = .ok (.iload_n 1, 1) := by decide +kernel
theorem dX1_checkRange_2 : decode cX1_checkRange 2 = .ok (.if_icmp .lt 8, 3) := by decide +kernel
theorem dX1_checkRange_5 : decode cX1_checkRange 5 = .ok (.iload_n 0, 1) := by decide +kernel
theorem dX1_checkRange_6 : decode cX1_checkRange 6 = .ok (.iload_n 2, 1) := by decide +kernel
theorem dX1_checkRange_7 : decode cX1_checkRange 7 = .ok (.if_icmp .le 13, 3) := by decide +kernel
theorem dX1_checkRange_10 : decode cX1_checkRange 10 = .ok (.new 142, 3) := by decide +kernel
theorem dX1_checkRange_13 : decode cX1_checkRange 13 = .ok (.dup, 1) := by decide +kernel
theorem dX1_checkRange_14 : decode cX1_checkRange 14 = .ok (.ldc 167, 2) := by decide +kernel
theorem dX1_checkRange_16 : decode cX1_checkRange 16 = .ok (.invokespecial 146, 3) := by decide +kernel
theorem dX1_checkRange_19 : decode cX1_checkRange 19 = .ok (.athrow, 1) := by decide +kernel
theorem dX1_checkRange_20 : decode cX1_checkRange 20 = .ok (.return_, 1) := by decide +kernel
theorem dX1_checkSort_0 : decode cX1_checkSort 0 = .ok (.iload_n 0, 1) := by decide +kernel
theorem dX1_checkSort_1 : decode cX1_checkSort 1 = .ok (.iconst 0, 1) := by decide +kernel
theorem dX1_checkSort_2 : decode cX1_checkSort 2 = .ok (.iconst 5, 1) := by decide +kernel
theorem dX1_checkSort_3 : decode cX1_checkSort 3 = .ok (.invokestatic 48, 3) := by decide +kernel
theorem dX1_checkSort_6 : decode cX1_checkSort 6 = .ok (.return_, 1) := by decide +kernel
theorem dX1_checkStore_0 : decode cX1_checkStore 0 = .ok (.iload_n 0, 1) := by decide +kernel
theorem dX1_checkStore_1 : decode cX1_checkStore 1 = .ok (.iconst 0, 1) := by decide +kernel
theorem dX1_checkStore_2 : decode cX1_checkStore 2 = .ok (.iconst 2, 1) := by decide +kernel
theorem dX1_checkStore_3 : decode cX1_checkStore 3 = .ok (.invokestatic 48, 3) := by decide +kernel
theorem dX1_checkStore_6 : decode cX1_checkStore 6 = .ok (.return_, 1) := by decide +kernel
theorem dX1_checkTrader_0 : decode cX1_checkTrader 0 = .ok (.iload_n 0, 1) := by decide +kernel
theorem dX1_checkTrader_1 : decode cX1_checkTrader 1 = .ok (.iconst 0, 1) := by decide +kernel
theorem dX1_checkTrader_2 : decode cX1_checkTrader 2 = .ok (.iconst 3, 1) := by decide +kernel
theorem dX1_checkTrader_3 : decode cX1_checkTrader 3 = .ok (.invokestatic 48, 3) := by decide +kernel
theorem dX1_checkTrader_6 : decode cX1_checkTrader 6 = .ok (.return_, 1) := by decide +kernel
theorem dX1_checkSeal_0 : decode cX1_checkSeal 0 = .ok (.iload_n 0, 1) := by decide +kernel
theorem dX1_checkSeal_1 : decode cX1_checkSeal 1 = .ok (.iconst 0, 1) := by decide +kernel
theorem dX1_checkSeal_2 : decode cX1_checkSeal 2 = .ok (.sipush 999, 3) := by decide +kernel
theorem dX1_checkSeal_5 : decode cX1_checkSeal 5 = .ok (.invokestatic 48, 3) := by decide +kernel
theorem dX1_checkSeal_8 : decode cX1_checkSeal 8 = .ok (.return_, 1) := by decide +kernel
theorem dX1_checkTaking_0 : decode cX1_checkTaking 0 = .ok (.iload_n 1, 1) := by decide +kernel
theorem dX1_checkTaking_1 : decode cX1_checkTaking 1 = .ok (.invokestatic 44, 3) := by decide +kernel
theorem dX1_checkTaking_4 : decode cX1_checkTaking 4 = .ok (.iload_n 2, 1) := by decide +kernel
theorem dX1_checkTaking_5 : decode cX1_checkTaking 5 = .ok (.invokestatic 125, 3) := by decide +kernel
theorem dX1_checkTaking_8 : decode cX1_checkTaking 8 = .ok (.iload_n 3, 1) := by decide +kernel
theorem dX1_checkTaking_9 : decode cX1_checkTaking 9 = .ok (.iconst 1, 1) := by decide +kernel
theorem dX1_checkTaking_10 : decode cX1_checkTaking 10 = .ok (.bipush 100, 2) := by decide +kernel
theorem dX1_checkTaking_12 : decode cX1_checkTaking 12 = .ok (.invokestatic 48, 3) := by decide +kernel
theorem dX1_checkTaking_15 : decode cX1_checkTaking 15 = .ok (.aload_n 0, 1) := by decide +kernel
theorem dX1_checkTaking_16 : decode cX1_checkTaking 16 = .ok (.getfield 155, 3) := by decide +kernel
theorem dX1_checkTaking_19 : decode cX1_checkTaking 19 = .ok (.iload_n 1, 1) := by decide +kernel
theorem dX1_checkTaking_20 : decode cX1_checkTaking 20 = .ok (.iload_n 2, 1) := by decide +kernel
theorem dX1_checkTaking_21 : decode cX1_checkTaking 21 = .ok (.invokestatic 151, 3) := by decide +kernel
theorem dX1_checkTaking_24 : decode cX1_checkTaking 24 = .ok (.iaload, 1) := by decide +kernel
theorem dX1_checkTaking_25 : decode cX1_checkTaking 25 = .ok (.iload_n 3, 1) := by decide +kernel
theorem dX1_checkTaking_26 : decode cX1_checkTaking 26 = .ok (.if_icmp .ge 13, 3) := by decide +kernel
theorem dX1_checkTaking_29 : decode cX1_checkTaking 29 = .ok (.new 60, 3) := by decide +kernel
theorem dX1_checkTaking_32 : decode cX1_checkTaking 32 = .ok (.dup, 1) := by decide +kernel
theorem dX1_checkTaking_33 : decode cX1_checkTaking 33 = .ok (.ldc 169, 2) := by decide +kernel
theorem dX1_checkTaking_35 : decode cX1_checkTaking 35 = .ok (.invokespecial 64, 3) := by decide +kernel
theorem dX1_checkTaking_38 : decode cX1_checkTaking 38 = .ok (.athrow, 1) := by decide +kernel
theorem dX1_checkTaking_39 : decode cX1_checkTaking 39 = .ok (.return_, 1) := by decide +kernel
theorem dX1_placeOf_0 : decode cX1_placeOf 0 = .ok (.iload_n 0, 1) := by decide +kernel
theorem dX1_placeOf_1 : decode cX1_placeOf 1 = .ok (.iconst 3, 1) := by decide +kernel
theorem dX1_placeOf_2 : decode cX1_placeOf 2 = .ok (.imul, 1) := by decide +kernel
theorem dX1_placeOf_3 : decode cX1_placeOf 3 = .ok (.iload_n 1, 1) := by decide +kernel
theorem dX1_placeOf_4 : decode cX1_placeOf 4 = .ok (.iadd, 1) := by decide +kernel
theorem dX1_placeOf_5 : decode cX1_placeOf 5 = .ok (.ireturn, 1) := by decide +kernel
theorem dX1_riskOf_0 : decode cX1_riskOf 0 = .ok (.iconst 0, 1) := by decide +kernel
theorem dX1_riskOf_1 : decode cX1_riskOf 1 = .ok (.istore_n 2, 1) := by decide +kernel
theorem dX1_riskOf_2 : decode cX1_riskOf 2 = .ok (.iconst 0, 1) := by decide +kernel
theorem dX1_riskOf_3 : decode cX1_riskOf 3 = .ok (.istore_n 3, 1) := by decide +kernel
theorem dX1_riskOf_4 : decode cX1_riskOf 4 = .ok (.iload_n 3, 1) := by decide +kernel
theorem dX1_riskOf_5 : decode cX1_riskOf 5 = .ok (.bipush 6, 2) := by decide +kernel
theorem dX1_riskOf_7 : decode cX1_riskOf 7 = .ok (.if_icmp .ge 27, 3) := by decide +kernel
theorem dX1_riskOf_10 : decode cX1_riskOf 10 = .ok (.aload_n 1, 1) := by decide +kernel
theorem dX1_riskOf_11 : decode cX1_riskOf 11 = .ok (.getfield 84, 3) := by decide +kernel
theorem dX1_riskOf_14 : decode cX1_riskOf 14 = .ok (.iload_n 3, 1) := by decide +kernel
theorem dX1_riskOf_15 : decode cX1_riskOf 15 = .ok (.iaload, 1) := by decide +kernel
theorem dX1_riskOf_16 : decode cX1_riskOf 16 = .ok (.ifCond .le 12, 3) := by decide +kernel
theorem dX1_riskOf_19 : decode cX1_riskOf 19 = .ok (.iload_n 2, 1) := by decide +kernel
theorem dX1_riskOf_20 : decode cX1_riskOf 20 = .ok (.aload_n 0, 1) := by decide +kernel
theorem dX1_riskOf_21 : decode cX1_riskOf 21 = .ok (.getfield 13, 3) := by decide +kernel
theorem dX1_riskOf_24 : decode cX1_riskOf 24 = .ok (.iload_n 3, 1) := by decide +kernel
theorem dX1_riskOf_25 : decode cX1_riskOf 25 = .ok (.iaload, 1) := by decide +kernel
theorem dX1_riskOf_26 : decode cX1_riskOf 26 = .ok (.iadd, 1) := by decide +kernel
theorem dX1_riskOf_27 : decode cX1_riskOf 27 = .ok (.istore_n 2, 1) := by decide +kernel
theorem dX1_riskOf_28 : decode cX1_riskOf 28 = .ok (.iinc 3 1, 3) := by decide +kernel
theorem dX1_riskOf_31 : decode cX1_riskOf 31 = .ok (.goto (-27), 3) := by decide +kernel
theorem dX1_riskOf_34 : decode cX1_riskOf 34 = .ok (.aload_n 1, 1) := by decide +kernel
theorem dX1_riskOf_35 : decode cX1_riskOf 35 = .ok (.getfield 89, 3) := by decide +kernel
theorem dX1_riskOf_38 : decode cX1_riskOf 38 = .ok (.iconst 1, 1) := by decide +kernel
theorem dX1_riskOf_39 : decode cX1_riskOf 39 = .ok (.if_icmp .le 14, 3) := by decide +kernel
theorem dX1_riskOf_42 : decode cX1_riskOf 42 = .ok (.iload_n 2, 1) := by decide +kernel
theorem dX1_riskOf_43 : decode cX1_riskOf 43 = .ok (.iconst 2, 1) := by decide +kernel
theorem dX1_riskOf_44 : decode cX1_riskOf 44 = .ok (.aload_n 1, 1) := by decide +kernel
theorem dX1_riskOf_45 : decode cX1_riskOf 45 = .ok (.getfield 89, 3) := by decide +kernel
theorem dX1_riskOf_48 : decode cX1_riskOf 48 = .ok (.iconst 1, 1) := by decide +kernel
theorem dX1_riskOf_49 : decode cX1_riskOf 49 = .ok (.isub, 1) := by decide +kernel
theorem dX1_riskOf_50 : decode cX1_riskOf 50 = .ok (.imul, 1) := by decide +kernel
theorem dX1_riskOf_51 : decode cX1_riskOf 51 = .ok (.iadd, 1) := by decide +kernel
theorem dX1_riskOf_52 : decode cX1_riskOf 52 = .ok (.istore_n 2, 1) := by decide +kernel
theorem dX1_riskOf_53 : decode cX1_riskOf 53 = .ok (.aload_n 1, 1) := by decide +kernel
theorem dX1_riskOf_54 : decode cX1_riskOf 54 = .ok (.getfield 100, 3) := by decide +kernel
theorem dX1_riskOf_57 : decode cX1_riskOf 57 = .ok (.ifCond .eq 6, 3) := by decide +kernel
theorem dX1_riskOf_60 : decode cX1_riskOf 60 = .ok (.iinc 2 30, 3) := by decide +kernel
theorem dX1_riskOf_63 : decode cX1_riskOf 63 = .ok (.iload_n 2, 1) := by decide +kernel
theorem dX1_riskOf_64 : decode cX1_riskOf 64 = .ok (.ireturn, 1) := by decide +kernel
theorem dX1_hasToBeSearched_0 : decode cX1_hasToBeSearched 0 = .ok (.aload_n 1, 1) := by decide +kernel
theorem dX1_hasToBeSearched_1 : decode cX1_hasToBeSearched 1 = .ok (.getfield 79, 3) := by decide +kernel
theorem dX1_hasToBeSearched_4 : decode cX1_hasToBeSearched 4 = .ok (.iconst 1, 1) := by decide +kernel
theorem dX1_hasToBeSearched_5 : decode cX1_hasToBeSearched 5 = .ok (.if_icmp .ne 33, 3) := by decide +kernel
theorem dX1_hasToBeSearched_8 : decode cX1_hasToBeSearched 8 = .ok (.aload_n 1, 1) := by decide +kernel
theorem dX1_hasToBeSearched_9 : decode cX1_hasToBeSearched 9 = .ok (.invokevirtual 171, 3) := by decide +kernel
theorem dX1_hasToBeSearched_12 : decode cX1_hasToBeSearched 12 = .ok (.ifCond .ne 26, 3) := by decide +kernel
theorem dX1_hasToBeSearched_15 : decode cX1_hasToBeSearched 15 = .ok (.aload_n 1, 1) := by decide +kernel
theorem dX1_hasToBeSearched_16 : decode cX1_hasToBeSearched 16 = .ok (.getfield 104, 3) := by decide +kernel
theorem dX1_hasToBeSearched_19 : decode cX1_hasToBeSearched 19 = .ok (.ifCond .ne 15, 3) := by decide +kernel
theorem dX1_hasToBeSearched_22 : decode cX1_hasToBeSearched 22 = .ok (.aload_n 0, 1) := by decide +kernel
theorem dX1_hasToBeSearched_23 : decode cX1_hasToBeSearched 23 = .ok (.aload_n 1, 1) := by decide +kernel
theorem dX1_hasToBeSearched_24 : decode cX1_hasToBeSearched 24 = .ok (.invokevirtual 113, 3) := by decide +kernel
theorem dX1_hasToBeSearched_27 : decode cX1_hasToBeSearched 27 = .ok (.aload_n 0, 1) := by decide +kernel
theorem dX1_hasToBeSearched_28 : decode cX1_hasToBeSearched 28 = .ok (.getfield 38, 3) := by decide +kernel
theorem dX1_hasToBeSearched_31 : decode cX1_hasToBeSearched 31 = .ok (.if_icmp .lt 7, 3) := by decide +kernel
theorem dX1_hasToBeSearched_34 : decode cX1_hasToBeSearched 34 = .ok (.iconst 1, 1) := by decide +kernel
theorem dX1_hasToBeSearched_35 : decode cX1_hasToBeSearched 35 = .ok (.goto 4, 3) := by decide +kernel
theorem dX1_hasToBeSearched_38 : decode cX1_hasToBeSearched 38 = .ok (.iconst 0, 1) := by decide +kernel
theorem dX1_hasToBeSearched_39 : decode cX1_hasToBeSearched 39 = .ok (.ireturn, 1) := by decide +kernel
theorem dX1_countToSearch_0 : decode cX1_countToSearch 0 = .ok (.iconst 0, 1) := by decide +kernel
theorem dX1_countToSearch_1 : decode cX1_countToSearch 1 = .ok (.istore_n 1, 1) := by decide +kernel
theorem dX1_countToSearch_2 : decode cX1_countToSearch 2 = .ok (.aload_n 0, 1) := by decide +kernel
theorem dX1_countToSearch_3 : decode cX1_countToSearch 3 = .ok (.getfield 27, 3) := by decide +kernel
theorem dX1_countToSearch_6 : decode cX1_countToSearch 6 = .ok (.astore_n 2, 1) := by decide +kernel
theorem dX1_countToSearch_7 : decode cX1_countToSearch 7 = .ok (.aload_n 2, 1) := by decide +kernel
theorem dX1_countToSearch_8 : decode cX1_countToSearch 8 = .ok (.arraylength, 1) := by decide +kernel
theorem dX1_countToSearch_9 : decode cX1_countToSearch 9 = .ok (.istore_n 3, 1) := by decide +kernel
theorem dX1_countToSearch_10 : decode cX1_countToSearch 10 = .ok (.iconst 0, 1) := by decide +kernel
theorem dX1_countToSearch_11 : decode cX1_countToSearch 11 = .ok (.istore 4, 2) := by decide +kernel
theorem dX1_countToSearch_13 : decode cX1_countToSearch 13 = .ok (.iload 4, 2) := by decide +kernel
theorem dX1_countToSearch_15 : decode cX1_countToSearch 15 = .ok (.iload_n 3, 1) := by decide +kernel
theorem dX1_countToSearch_16 : decode cX1_countToSearch 16 = .ok (.if_icmp .ge 32, 3) := by decide +kernel
theorem dX1_countToSearch_19 : decode cX1_countToSearch 19 = .ok (.aload_n 2, 1) := by decide +kernel
theorem dX1_countToSearch_20 : decode cX1_countToSearch 20 = .ok (.iload 4, 2) := by decide +kernel
theorem dX1_countToSearch_22 : decode cX1_countToSearch 22 = .ok (.aaload, 1) := by decide +kernel
theorem dX1_countToSearch_23 : decode cX1_countToSearch 23 = .ok (.astore 5, 2) := by decide +kernel
theorem dX1_countToSearch_25 : decode cX1_countToSearch 25 = .ok (.aload 5, 2) := by decide +kernel
theorem dX1_countToSearch_27 : decode cX1_countToSearch 27 = .ok (.ifnull 15, 3) := by decide +kernel
theorem dX1_countToSearch_30 : decode cX1_countToSearch 30 = .ok (.aload_n 0, 1) := by decide +kernel
theorem dX1_countToSearch_31 : decode cX1_countToSearch 31 = .ok (.aload 5, 2) := by decide +kernel
theorem dX1_countToSearch_33 : decode cX1_countToSearch 33 = .ok (.invokevirtual 107, 3) := by decide +kernel
theorem dX1_countToSearch_36 : decode cX1_countToSearch 36 = .ok (.ifCond .eq 6, 3) := by decide +kernel
theorem dX1_countToSearch_39 : decode cX1_countToSearch 39 = .ok (.iinc 1 1, 3) := by decide +kernel
theorem dX1_countToSearch_42 : decode cX1_countToSearch 42 = .ok (.iinc 4 1, 3) := by decide +kernel
theorem dX1_countToSearch_45 : decode cX1_countToSearch 45 = .ok (.goto (-32), 3) := by decide +kernel
theorem dX1_countToSearch_48 : decode cX1_countToSearch 48 = .ok (.iload_n 1, 1) := by decide +kernel
theorem dX1_countToSearch_49 : decode cX1_countToSearch 49 = .ok (.ireturn, 1) := by decide +kernel
theorem dX1_dutyNow_0 : decode cX1_dutyNow 0 = .ok (.iconst 0, 1) := by decide +kernel
theorem dX1_dutyNow_1 : decode cX1_dutyNow 1 = .ok (.istore_n 2, 1) := by decide +kernel
theorem dX1_dutyNow_2 : decode cX1_dutyNow 2 = .ok (.iconst 0, 1) := by decide +kernel
theorem dX1_dutyNow_3 : decode cX1_dutyNow 3 = .ok (.istore_n 3, 1) := by decide +kernel
theorem dX1_dutyNow_4 : decode cX1_dutyNow 4 = .ok (.iload_n 3, 1) := by decide +kernel
theorem dX1_dutyNow_5 : decode cX1_dutyNow 5 = .ok (.bipush 6, 2) := by decide +kernel
theorem dX1_dutyNow_7 : decode cX1_dutyNow 7 = .ok (.if_icmp .ge 25, 3) := by decide +kernel
theorem dX1_dutyNow_10 : decode cX1_dutyNow 10 = .ok (.iload_n 2, 1) := by decide +kernel
theorem dX1_dutyNow_11 : decode cX1_dutyNow 11 = .ok (.aload_n 1, 1) := by decide +kernel
theorem dX1_dutyNow_12 : decode cX1_dutyNow 12 = .ok (.getfield 84, 3) := by decide +kernel
theorem dX1_dutyNow_15 : decode cX1_dutyNow 15 = .ok (.iload_n 3, 1) := by decide +kernel
theorem dX1_dutyNow_16 : decode cX1_dutyNow 16 = .ok (.iaload, 1) := by decide +kernel
theorem dX1_dutyNow_17 : decode cX1_dutyNow 17 = .ok (.aload_n 0, 1) := by decide +kernel
theorem dX1_dutyNow_18 : decode cX1_dutyNow 18 = .ok (.getfield 9, 3) := by decide +kernel
theorem dX1_dutyNow_21 : decode cX1_dutyNow 21 = .ok (.iload_n 3, 1) := by decide +kernel
theorem dX1_dutyNow_22 : decode cX1_dutyNow 22 = .ok (.iaload, 1) := by decide +kernel
theorem dX1_dutyNow_23 : decode cX1_dutyNow 23 = .ok (.imul, 1) := by decide +kernel
theorem dX1_dutyNow_24 : decode cX1_dutyNow 24 = .ok (.iadd, 1) := by decide +kernel
theorem dX1_dutyNow_25 : decode cX1_dutyNow 25 = .ok (.istore_n 2, 1) := by decide +kernel
theorem dX1_dutyNow_26 : decode cX1_dutyNow 26 = .ok (.iinc 3 1, 3) := by decide +kernel
theorem dX1_dutyNow_29 : decode cX1_dutyNow 29 = .ok (.goto (-25), 3) := by decide +kernel
theorem dX1_dutyNow_32 : decode cX1_dutyNow 32 = .ok (.iload_n 2, 1) := by decide +kernel
theorem dX1_dutyNow_33 : decode cX1_dutyNow 33 = .ok (.ireturn, 1) := by decide +kernel
theorem dX1_takeOut_0 : decode cX1_takeOut 0 = .ok (.iload 4, 2) := by decide +kernel
theorem dX1_takeOut_2 : decode cX1_takeOut 2 = .ok (.aload_n 1, 1) := by decide +kernel
theorem dX1_takeOut_3 : decode cX1_takeOut 3 = .ok (.getfield 175, 3) := by decide +kernel
theorem dX1_takeOut_6 : decode cX1_takeOut 6 = .ok (.iload_n 2, 1) := by decide +kernel
theorem dX1_takeOut_7 : decode cX1_takeOut 7 = .ok (.iaload, 1) := by decide +kernel
theorem dX1_takeOut_8 : decode cX1_takeOut 8 = .ok (.imul, 1) := by decide +kernel
theorem dX1_takeOut_9 : decode cX1_takeOut 9 = .ok (.istore 5, 2) := by decide +kernel
theorem dX1_takeOut_11 : decode cX1_takeOut 11 = .ok (.aload_n 0, 1) := by decide +kernel
theorem dX1_takeOut_12 : decode cX1_takeOut 12 = .ok (.getfield 19, 3) := by decide +kernel
theorem dX1_takeOut_15 : decode cX1_takeOut 15 = .ok (.aload_n 1, 1) := by decide +kernel
theorem dX1_takeOut_16 : decode cX1_takeOut 16 = .ok (.getfield 133, 3) := by decide +kernel
theorem dX1_takeOut_19 : decode cX1_takeOut 19 = .ok (.dup2, 1) := by decide +kernel
theorem dX1_takeOut_20 : decode cX1_takeOut 20 = .ok (.iaload, 1) := by decide +kernel
theorem dX1_takeOut_21 : decode cX1_takeOut 21 = .ok (.iload 5, 2) := by decide +kernel
theorem dX1_takeOut_23 : decode cX1_takeOut 23 = .ok (.isub, 1) := by decide +kernel
theorem dX1_takeOut_24 : decode cX1_takeOut 24 = .ok (.iastore, 1) := by decide +kernel
theorem dX1_takeOut_25 : decode cX1_takeOut 25 = .ok (.aload_n 1, 1) := by decide +kernel
theorem dX1_takeOut_26 : decode cX1_takeOut 26 = .ok (.getfield 155, 3) := by decide +kernel
theorem dX1_takeOut_29 : decode cX1_takeOut 29 = .ok (.iload_n 2, 1) := by decide +kernel
theorem dX1_takeOut_30 : decode cX1_takeOut 30 = .ok (.iload_n 3, 1) := by decide +kernel
theorem dX1_takeOut_31 : decode cX1_takeOut 31 = .ok (.invokestatic 151, 3) := by decide +kernel
theorem dX1_takeOut_34 : decode cX1_takeOut 34 = .ok (.dup2, 1) := by decide +kernel
theorem dX1_takeOut_35 : decode cX1_takeOut 35 = .ok (.iaload, 1) := by decide +kernel
theorem dX1_takeOut_36 : decode cX1_takeOut 36 = .ok (.iload 4, 2) := by decide +kernel
theorem dX1_takeOut_38 : decode cX1_takeOut 38 = .ok (.isub, 1) := by decide +kernel
theorem dX1_takeOut_39 : decode cX1_takeOut 39 = .ok (.iastore, 1) := by decide +kernel
theorem dX1_takeOut_40 : decode cX1_takeOut 40 = .ok (.aload_n 1, 1) := by decide +kernel
theorem dX1_takeOut_41 : decode cX1_takeOut 41 = .ok (.dup, 1) := by decide +kernel
theorem dX1_takeOut_42 : decode cX1_takeOut 42 = .ok (.getfield 178, 3) := by decide +kernel
theorem dX1_takeOut_45 : decode cX1_takeOut 45 = .ok (.iload 4, 2) := by decide +kernel
theorem dX1_takeOut_47 : decode cX1_takeOut 47 = .ok (.isub, 1) := by decide +kernel
theorem dX1_takeOut_48 : decode cX1_takeOut 48 = .ok (.putfield 178, 3) := by decide +kernel
theorem dX1_takeOut_51 : decode cX1_takeOut 51 = .ok (.aload_n 1, 1) := by decide +kernel
theorem dX1_takeOut_52 : decode cX1_takeOut 52 = .ok (.getfield 178, 3) := by decide +kernel
theorem dX1_takeOut_55 : decode cX1_takeOut 55 = .ok (.ifCond .ne 8, 3) := by decide +kernel
theorem dX1_takeOut_58 : decode cX1_takeOut 58 = .ok (.aload_n 1, 1) := by decide +kernel
theorem dX1_takeOut_59 : decode cX1_takeOut 59 = .ok (.iconst 3, 1) := by decide +kernel
theorem dX1_takeOut_60 : decode cX1_takeOut 60 = .ok (.putfield 79, 3) := by decide +kernel
theorem dX1_takeOut_63 : decode cX1_takeOut 63 = .ok (.iload 5, 2) := by decide +kernel
theorem dX1_takeOut_65 : decode cX1_takeOut 65 = .ok (.ireturn, 1) := by decide +kernel
theorem dX2_init_0 : decode cX2_init 0 = .ok (.aload_n 0, 1) := by decide +kernel
theorem dX2_init_1 : decode cX2_init 1 = .ok (.invokespecial 1, 3) := by decide +kernel
theorem dX2_init_4 : decode cX2_init 4 = .ok (.aload_n 0, 1) := by decide +kernel
theorem dX2_init_5 : decode cX2_init 5 = .ok (.bipush 6, 2) := by decide +kernel
theorem dX2_init_7 : decode cX2_init 7 = .ok (.newarray .int, 2) := by decide +kernel
theorem dX2_init_9 : decode cX2_init 9 = .ok (.putfield 7, 3) := by decide +kernel
theorem dX2_init_12 : decode cX2_init 12 = .ok (.aload_n 0, 1) := by decide +kernel
theorem dX2_init_13 : decode cX2_init 13 = .ok (.bipush 6, 2) := by decide +kernel
theorem dX2_init_15 : decode cX2_init 15 = .ok (.newarray .int, 2) := by decide +kernel
theorem dX2_init_17 : decode cX2_init 17 = .ok (.putfield 13, 3) := by decide +kernel
theorem dX2_init_20 : decode cX2_init 20 = .ok (.aload_n 0, 1) := by decide +kernel
theorem dX2_init_21 : decode cX2_init 21 = .ok (.bipush 25, 2) := by decide +kernel
theorem dX2_init_23 : decode cX2_init 23 = .ok (.putfield 16, 3) := by decide +kernel
theorem dX2_init_26 : decode cX2_init 26 = .ok (.aload_n 0, 1) := by decide +kernel
theorem dX2_init_27 : decode cX2_init 27 = .ok (.iconst 4, 1) := by decide +kernel
theorem dX2_init_28 : decode cX2_init 28 = .ok (.newarray .int, 2) := by decide +kernel
theorem dX2_init_30 : decode cX2_init 30 = .ok (.putfield 20, 3) := by decide +kernel
theorem dX2_init_33 : decode cX2_init 33 = .ok (.aload_n 0, 1) := by decide +kernel
theorem dX2_init_34 : decode cX2_init 34 = .ok (.iconst 4, 1) := by decide +kernel
theorem dX2_init_35 : decode cX2_init 35 = .ok (.newarray .int, 2) := by decide +kernel
theorem dX2_init_37 : decode cX2_init 37 = .ok (.putfield 23, 3) := by decide +kernel
theorem dX2_init_40 : decode cX2_init 40 = .ok (.aload_n 0, 1) := by decide +kernel
theorem dX2_init_41 : decode cX2_init 41 = .ok (.iconst 4, 1) := by decide +kernel
theorem dX2_init_42 : decode cX2_init 42 = .ok (.newarray .int, 2) := by decide +kernel
theorem dX2_init_44 : decode cX2_init 44 = .ok (.putfield 26, 3) := by decide +kernel
theorem dX2_init_47 : decode cX2_init 47 = .ok (.aload_n 0, 1) := by decide +kernel
theorem dX2_init_48 : decode cX2_init 48 = .ok (.bipush 15, 2) := by decide +kernel
theorem dX2_init_50 : decode cX2_init 50 = .ok (.newarray .int, 2) := by decide +kernel
theorem dX2_init_52 : decode cX2_init 52 = .ok (.putfield 29, 3) := by decide +kernel
theorem dX2_init_55 : decode cX2_init 55 = .ok (.aload_n 0, 1) := by decide +kernel
theorem dX2_init_56 : decode cX2_init 56 = .ok (.bipush 15, 2) := by decide +kernel
theorem dX2_init_58 : decode cX2_init 58 = .ok (.newarray .int, 2) := by decide +kernel
theorem dX2_init_60 : decode cX2_init 60 = .ok (.putfield 32, 3) := by decide +kernel
theorem dX2_init_63 : decode cX2_init 63 = .ok (.aload_n 0, 1) := by decide +kernel
theorem dX2_init_64 : decode cX2_init 64 = .ok (.bipush 15, 2) := by decide +kernel
theorem dX2_init_66 : decode cX2_init 66 = .ok (.newarray .int, 2) := by decide +kernel
theorem dX2_init_68 : decode cX2_init 68 = .ok (.putfield 35, 3) := by decide +kernel
theorem dX2_init_71 : decode cX2_init 71 = .ok (.aload_n 0, 1) := by decide +kernel
theorem dX2_init_72 : decode cX2_init 72 = .ok (.bipush 15, 2) := by decide +kernel
theorem dX2_init_74 : decode cX2_init 74 = .ok (.newarray .int, 2) := by decide +kernel
theorem dX2_init_76 : decode cX2_init 76 = .ok (.putfield 38, 3) := by decide +kernel
theorem dX2_init_79 : decode cX2_init 79 = .ok (.aload_n 0, 1) := by decide +kernel
theorem dX2_init_80 : decode cX2_init 80 = .ok (.bipush 15, 2) := by decide +kernel
theorem dX2_init_82 : decode cX2_init 82 = .ok (.newarray .int, 2) := by decide +kernel
theorem dX2_init_84 : decode cX2_init 84 = .ok (.putfield 41, 3) := by decide +kernel
theorem dX2_init_87 : decode cX2_init 87 = .ok (.aload_n 0, 1) := by decide +kernel
theorem dX2_init_88 : decode cX2_init 88 = .ok (.bipush 15, 2) := by decide +kernel
theorem dX2_init_90 : decode cX2_init 90 = .ok (.newarray .int, 2) := by decide +kernel
theorem dX2_init_92 : decode cX2_init 92 = .ok (.putfield 44, 3) := by decide +kernel
theorem dX2_init_95 : decode cX2_init 95 = .ok (.aload_n 0, 1) := by decide +kernel
theorem dX2_init_96 : decode cX2_init 96 = .ok (.bipush 15, 2) := by decide +kernel
theorem dX2_init_98 : decode cX2_init 98 = .ok (.newarray .boolean, 2) := by decide +kernel
theorem dX2_init_100 : decode cX2_init 100 = .ok (.putfield 47, 3) := by decide +kernel
theorem dX2_init_103 : decode cX2_init 103 = .ok (.aload_n 0, 1) := by decide +kernel
theorem dX2_init_104 : decode cX2_init 104 = .ok (.bipush 15, 2) := by decide +kernel
theorem dX2_init_106 : decode cX2_init 106 = .ok (.newarray .boolean, 2) := by decide +kernel
theorem dX2_init_108 : decode cX2_init 108 = .ok (.putfield 51, 3) := by decide +kernel
theorem dX2_init_111 : decode cX2_init 111 = .ok (.aload_n 0, 1) := by decide +kernel
theorem dX2_init_112 : decode cX2_init 112 = .ok (.bipush 90, 2) := by decide +kernel
theorem dX2_init_114 : decode cX2_init 114 = .ok (.newarray .int, 2) := by decide +kernel
theorem dX2_init_116 : decode cX2_init 116 = .ok (.putfield 54, 3) := by decide +kernel
theorem dX2_init_119 : decode cX2_init 119 = .ok (.aload_n 0, 1) := by decide +kernel
theorem dX2_init_120 : decode cX2_init 120 = .ok (.bipush 90, 2) := by decide +kernel
theorem dX2_init_122 : decode cX2_init 122 = .ok (.newarray .int, 2) := by decide +kernel
theorem dX2_init_124 : decode cX2_init 124 = .ok (.putfield 57, 3) := by decide +kernel
theorem dX2_init_127 : decode cX2_init 127 = .ok (.aload_n 0, 1) := by decide +kernel
theorem dX2_init_128 : decode cX2_init 128 = .ok (.sipush 270, 3) := by decide +kernel
theorem dX2_init_131 : decode cX2_init 131 = .ok (.newarray .int, 2) := by decide +kernel
theorem dX2_init_133 : decode cX2_init 133 = .ok (.putfield 60, 3) := by decide +kernel
theorem dX2_init_136 : decode cX2_init 136 = .ok (.iconst 0, 1) := by decide +kernel
theorem dX2_init_137 : decode cX2_init 137 = .ok (.istore_n 1, 1) := by decide +kernel
theorem dX2_init_138 : decode cX2_init 138 = .ok (.iload_n 1, 1) := by decide +kernel
theorem dX2_init_139 : decode cX2_init 139 = .ok (.bipush 6, 2) := by decide +kernel
theorem dX2_init_141 : decode cX2_init 141 = .ok (.if_icmp .ge 16, 3) := by decide +kernel
theorem dX2_init_144 : decode cX2_init 144 = .ok (.aload_n 0, 1) := by decide +kernel
theorem dX2_init_145 : decode cX2_init 145 = .ok (.getfield 7, 3) := by decide +kernel
theorem dX2_init_148 : decode cX2_init 148 = .ok (.iload_n 1, 1) := by decide +kernel
theorem dX2_init_149 : decode cX2_init 149 = .ok (.iconst 1, 1) := by decide +kernel
theorem dX2_init_150 : decode cX2_init 150 = .ok (.iastore, 1) := by decide +kernel
theorem dX2_init_151 : decode cX2_init 151 = .ok (.iinc 1 1, 3) := by decide +kernel
theorem dX2_init_154 : decode cX2_init 154 = .ok (.goto (-16), 3) := by decide +kernel
theorem dX2_init_157 : decode cX2_init 157 = .ok (.return_, 1) := by decide +kernel
theorem dX2_thrown_0 : decode cX2_thrown 0 = .ok (.aload_n 0, 1) := by decide +kernel
theorem dX2_thrown_1 : decode cX2_thrown 1 = .ok (.getfield 63, 3) := by decide +kernel
theorem dX2_thrown_4 : decode cX2_thrown 4 = .ok (.ireturn, 1) := by decide +kernel
theorem dX2_isFine_0 : decode cX2_isFine 0 = .ok (.aload_n 0, 1) := by decide +kernel
theorem dX2_isFine_1 : decode cX2_isFine 1 = .ok (.iload_n 1, 1) := by decide +kernel
theorem dX2_isFine_2 : decode cX2_isFine 2 = .ok (.putfield 63, 3) := by decide +kernel
theorem dX2_isFine_5 : decode cX2_isFine 5 = .ok (.iload_n 1, 1) := by decide +kernel
theorem dX2_isFine_6 : decode cX2_isFine 6 = .ok (.ifCond .ne 7, 3) := by decide +kernel
theorem dX2_isFine_9 : decode cX2_isFine 9 = .ok (.iconst 1, 1) := by decide +kernel
theorem dX2_isFine_10 : decode cX2_isFine 10 = .ok (.goto 4, 3) := by decide +kernel
theorem dX2_isFine_13 : decode cX2_isFine 13 = .ok (.iconst 0, 1) := by decide +kernel
theorem dX2_isFine_14 : decode cX2_isFine 14 = .ok (.ireturn, 1) := by decide +kernel
theorem dX2_isIn_0 : decode cX2_isIn 0 = .ok (.iload_n 0, 1) := by decide +kernel
theorem dX2_isIn_1 : decode cX2_isIn 1 = .ok (.iload_n 1, 1) := by decide +kernel
theorem dX2_isIn_2 : decode cX2_isIn 2 = .ok (.if_icmp .lt 12, 3) := by decide +kernel
theorem dX2_isIn_5 : decode cX2_isIn 5 = .ok (.iload_n 0, 1) := by decide +kernel
theorem dX2_isIn_6 : decode cX2_isIn 6 = .ok (.iload_n 2, 1) := by decide +kernel
theorem dX2_isIn_7 : decode cX2_isIn 7 = .ok (.if_icmp .gt 7, 3) := by decide +kernel
theorem dX2_isIn_10 : decode cX2_isIn 10 = .ok (.iconst 1, 1) := by decide +kernel
theorem dX2_isIn_11 : decode cX2_isIn 11 = .ok (.goto 4, 3) := by decide +kernel
theorem dX2_isIn_14 : decode cX2_isIn 14 = .ok (.iconst 0, 1) := by decide +kernel
theorem dX2_isIn_15 : decode cX2_isIn 15 = .ok (.ireturn, 1) := by decide +kernel
theorem dX2_isSort_0 : decode cX2_isSort 0 = .ok (.iload_n 0, 1) := by decide +kernel
theorem dX2_isSort_1 : decode cX2_isSort 1 = .ok (.iconst 0, 1) := by decide +kernel
theorem dX2_isSort_2 : decode cX2_isSort 2 = .ok (.iconst 5, 1) := by decide +kernel
theorem dX2_isSort_3 : decode cX2_isSort 3 = .ok (.invokestatic 66, 3) := by decide +kernel
theorem dX2_isSort_6 : decode cX2_isSort 6 = .ok (.ireturn, 1) := by decide +kernel
theorem dX2_isTrader_0 : decode cX2_isTrader 0 = .ok (.iload_n 0, 1) := by decide +kernel
theorem dX2_isTrader_1 : decode cX2_isTrader 1 = .ok (.iconst 0, 1) := by decide +kernel
theorem dX2_isTrader_2 : decode cX2_isTrader 2 = .ok (.iconst 3, 1) := by decide +kernel
theorem dX2_isTrader_3 : decode cX2_isTrader 3 = .ok (.invokestatic 66, 3) := by decide +kernel
theorem dX2_isTrader_6 : decode cX2_isTrader 6 = .ok (.ireturn, 1) := by decide +kernel
theorem dX2_isStore_0 : decode cX2_isStore 0 = .ok (.iload_n 0, 1) := by decide +kernel
theorem dX2_isStore_1 : decode cX2_isStore 1 = .ok (.iconst 0, 1) := by decide +kernel
theorem dX2_isStore_2 : decode cX2_isStore 2 = .ok (.iconst 2, 1) := by decide +kernel
theorem dX2_isStore_3 : decode cX2_isStore 3 = .ok (.invokestatic 66, 3) := by decide +kernel
theorem dX2_isStore_6 : decode cX2_isStore 6 = .ok (.ireturn, 1) := by decide +kernel
theorem dX2_isConsignment_0 : decode cX2_isConsignment 0 = .ok (.iload_n 1, 1) := by decide +kernel
theorem dX2_isConsignment_1 : decode cX2_isConsignment 1 = .ok (.iconst 0, 1) := by decide +kernel
theorem dX2_isConsignment_2 : decode cX2_isConsignment 2 = .ok (.aload_n 0, 1) := by decide +kernel
theorem dX2_isConsignment_3 : decode cX2_isConsignment 3 = .ok (.getfield 70, 3) := by decide +kernel
theorem dX2_isConsignment_6 : decode cX2_isConsignment 6 = .ok (.iconst 1, 1) := by decide +kernel
theorem dX2_isConsignment_7 : decode cX2_isConsignment 7 = .ok (.isub, 1) := by decide +kernel
theorem dX2_isConsignment_8 : decode cX2_isConsignment 8 = .ok (.invokestatic 66, 3) := by decide +kernel
theorem dX2_isConsignment_11 : decode cX2_isConsignment 11 = .ok (.ireturn, 1) := by decide +kernel
theorem dX2_at_0 : decode cX2_at 0 = .ok (.iconst 3, 1) := by decide +kernel
theorem dX2_at_1 : decode cX2_at 1 = .ok (.bipush 6, 2) := by decide +kernel
theorem dX2_at_3 : decode cX2_at 3 = .ok (.iload_n 0, 1) := by decide +kernel
theorem dX2_at_4 : decode cX2_at 4 = .ok (.imul, 1) := by decide +kernel
theorem dX2_at_5 : decode cX2_at 5 = .ok (.iload_n 1, 1) := by decide +kernel
theorem dX2_at_6 : decode cX2_at 6 = .ok (.iadd, 1) := by decide +kernel
theorem dX2_at_7 : decode cX2_at 7 = .ok (.imul, 1) := by decide +kernel
theorem dX2_at_8 : decode cX2_at 8 = .ok (.iload_n 2, 1) := by decide +kernel
theorem dX2_at_9 : decode cX2_at 9 = .ok (.iadd, 1) := by decide +kernel
theorem dX2_at_10 : decode cX2_at 10 = .ok (.ireturn, 1) := by decide +kernel
theorem dX2_setSort_0 : decode cX2_setSort 0 = .ok (.aload_n 0, 1) := by decide +kernel
theorem dX2_setSort_1 : decode cX2_setSort 1 = .ok (.iload_n 1, 1) := by decide +kernel
theorem dX2_setSort_2 : decode cX2_setSort 2 = .ok (.invokestatic 73, 3) := by decide +kernel
theorem dX2_setSort_5 : decode cX2_setSort 5 = .ok (.ifCond .eq 27, 3) := by decide +kernel
theorem dX2_setSort_8 : decode cX2_setSort 8 = .ok (.iload_n 2, 1) := by decide +kernel
theorem dX2_setSort_9 : decode cX2_setSort 9 = .ok (.iconst 0, 1) := by decide +kernel
theorem dX2_setSort_10 : decode cX2_setSort 10 = .ok (.bipush 50, 2) := by decide +kernel
theorem dX2_setSort_12 : decode cX2_setSort 12 = .ok (.invokestatic 66, 3) := by decide +kernel
theorem dX2_setSort_15 : decode cX2_setSort 15 = .ok (.ifCond .eq 17, 3) := by decide +kernel
theorem dX2_setSort_18 : decode cX2_setSort 18 = .ok (.iload_n 3, 1) := by decide +kernel
theorem dX2_setSort_19 : decode cX2_setSort 19 = .ok (.iconst 0, 1) := by decide +kernel
theorem dX2_setSort_20 : decode cX2_setSort 20 = .ok (.bipush 20, 2) := by decide +kernel
theorem dX2_setSort_22 : decode cX2_setSort 22 = .ok (.invokestatic 66, 3) := by decide +kernel
theorem dX2_setSort_25 : decode cX2_setSort 25 = .ok (.ifCond .eq 7, 3) := by decide +kernel
theorem dX2_setSort_28 : decode cX2_setSort 28 = .ok (.iconst 0, 1) := by decide +kernel
theorem dX2_setSort_29 : decode cX2_setSort 29 = .ok (.goto 4, 3) := by decide +kernel
theorem dX2_setSort_32 : decode cX2_setSort 32 = .ok (.iconst 1, 1) := by decide +kernel
theorem dX2_setSort_33 : decode cX2_setSort 33 = .ok (.invokevirtual 77, 3) := by decide +kernel
theorem dX2_setSort_36 : decode cX2_setSort 36 = .ok (.ifCond .eq 17, 3) := by decide +kernel
theorem dX2_setSort_39 : decode cX2_setSort 39 = .ok (.aload_n 0, 1) := by decide +kernel
theorem dX2_setSort_40 : decode cX2_setSort 40 = .ok (.getfield 7, 3) := by decide +kernel
theorem dX2_setSort_43 : decode cX2_setSort 43 = .ok (.iload_n 1, 1) := by decide +kernel
theorem dX2_setSort_44 : decode cX2_setSort 44 = .ok (.iload_n 2, 1) := by decide +kernel
theorem dX2_setSort_45 : decode cX2_setSort 45 = .ok (.iastore, 1) := by decide +kernel
theorem dX2_setSort_46 : decode cX2_setSort 46 = .ok (.aload_n 0, 1) := by decide +kernel
theorem dX2_setSort_47 : decode cX2_setSort 47 = .ok (.getfield 13, 3) := by decide +kernel
theorem dX2_setSort_50 : decode cX2_setSort 50 = .ok (.iload_n 1, 1) := by decide +kernel
theorem dX2_setSort_51 : decode cX2_setSort 51 = .ok (.iload_n 3, 1) := by decide +kernel
theorem dX2_setSort_52 : decode cX2_setSort 52 = .ok (.iastore, 1) := by decide +kernel
theorem dX2_setSort_53 : decode cX2_setSort 53 = .ok (.return_, 1) := by decide +kernel
theorem dX2_setRisk_0 : decode cX2_setRisk 0 = .ok (.aload_n 0, 1) := by decide +kernel
theorem dX2_setRisk_1 : decode cX2_setRisk 1 = .ok (.iload_n 1, 1) := by decide +kernel
theorem dX2_setRisk_2 : decode cX2_setRisk 2 = .ok (.iconst 0, 1) := by decide +kernel
theorem dX2_setRisk_3 : decode cX2_setRisk 3 = .ok (.sipush 200, 3) := by decide +kernel
theorem dX2_setRisk_6 : decode cX2_setRisk 6 = .ok (.invokestatic 66, 3) := by decide +kernel
theorem dX2_setRisk_9 : decode cX2_setRisk 9 = .ok (.ifCond .eq 17, 3) := by decide +kernel
theorem dX2_setRisk_12 : decode cX2_setRisk 12 = .ok (.iload_n 2, 1) := by decide +kernel
theorem dX2_setRisk_13 : decode cX2_setRisk 13 = .ok (.iconst 0, 1) := by decide +kernel
theorem dX2_setRisk_14 : decode cX2_setRisk 14 = .ok (.bipush 10, 2) := by decide +kernel
theorem dX2_setRisk_16 : decode cX2_setRisk 16 = .ok (.invokestatic 66, 3) := by decide +kernel
theorem dX2_setRisk_19 : decode cX2_setRisk 19 = .ok (.ifCond .eq 7, 3) := by decide +kernel
theorem dX2_setRisk_22 : decode cX2_setRisk 22 = .ok (.iconst 0, 1) := by decide +kernel
theorem dX2_setRisk_23 : decode cX2_setRisk 23 = .ok (.goto 4, 3) := by decide +kernel
theorem dX2_setRisk_26 : decode cX2_setRisk 26 = .ok (.iconst 1, 1) := by decide +kernel
theorem dX2_setRisk_27 : decode cX2_setRisk 27 = .ok (.invokevirtual 77, 3) := by decide +kernel
theorem dX2_setRisk_30 : decode cX2_setRisk 30 = .ok (.ifCond .ne 5, 3) := by decide +kernel
theorem dX2_setRisk_33 : decode cX2_setRisk 33 = .ok (.iconst 0, 1) := by decide +kernel
theorem dX2_setRisk_34 : decode cX2_setRisk 34 = .ok (.ireturn, 1) := by decide +kernel
theorem dX2_setRisk_35 : decode cX2_setRisk 35 = .ok (.aload_n 0, 1) := by decide +kernel
theorem dX2_setRisk_36 : decode cX2_setRisk 36 = .ok (.iload_n 1, 1) := by decide +kernel
theorem dX2_setRisk_37 : decode cX2_setRisk 37 = .ok (.putfield 16, 3) := by decide +kernel
theorem dX2_setRisk_40 : decode cX2_setRisk 40 = .ok (.aload_n 0, 1) := by decide +kernel
theorem dX2_setRisk_41 : decode cX2_setRisk 41 = .ok (.iload_n 2, 1) := by decide +kernel
theorem dX2_setRisk_42 : decode cX2_setRisk 42 = .ok (.putfield 80, 3) := by decide +kernel
theorem dX2_setRisk_45 : decode cX2_setRisk 45 = .ok (.iconst 0, 1) := by decide +kernel
theorem dX2_setRisk_46 : decode cX2_setRisk 46 = .ok (.istore_n 3, 1) := by decide +kernel
theorem dX2_setRisk_47 : decode cX2_setRisk 47 = .ok (.iconst 0, 1) := by decide +kernel
theorem dX2_setRisk_48 : decode cX2_setRisk 48 = .ok (.istore 4, 2) := by decide +kernel
theorem dX2_setRisk_50 : decode cX2_setRisk 50 = .ok (.iload 4, 2) := by decide +kernel
theorem dX2_setRisk_52 : decode cX2_setRisk 52 = .ok (.aload_n 0, 1) := by decide +kernel
theorem dX2_setRisk_53 : decode cX2_setRisk 53 = .ok (.getfield 70, 3) := by decide +kernel
theorem dX2_setRisk_56 : decode cX2_setRisk 56 = .ok (.if_icmp .ge 26, 3) := by decide +kernel
theorem dX2_setRisk_59 : decode cX2_setRisk 59 = .ok (.iload_n 3, 1) := by decide +kernel
theorem dX2_setRisk_60 : decode cX2_setRisk 60 = .ok (.aload_n 0, 1) := by decide +kernel
theorem dX2_setRisk_61 : decode cX2_setRisk 61 = .ok (.iload 4, 2) := by decide +kernel
theorem dX2_setRisk_63 : decode cX2_setRisk 63 = .ok (.invokevirtual 83, 3) := by decide +kernel
theorem dX2_setRisk_66 : decode cX2_setRisk 66 = .ok (.ifCond .eq 7, 3) := by decide +kernel
theorem dX2_setRisk_69 : decode cX2_setRisk 69 = .ok (.iconst 1, 1) := by decide +kernel
theorem dX2_setRisk_70 : decode cX2_setRisk 70 = .ok (.goto 4, 3) := by decide +kernel
theorem dX2_setRisk_73 : decode cX2_setRisk 73 = .ok (.iconst 0, 1) := by decide +kernel
theorem dX2_setRisk_74 : decode cX2_setRisk 74 = .ok (.iadd, 1) := by decide +kernel
theorem dX2_setRisk_75 : decode cX2_setRisk 75 = .ok (.istore_n 3, 1) := by decide +kernel
theorem dX2_setRisk_76 : decode cX2_setRisk 76 = .ok (.iinc 4 1, 3) := by decide +kernel
theorem dX2_setRisk_79 : decode cX2_setRisk 79 = .ok (.goto (-29), 3) := by decide +kernel
theorem dX2_setRisk_82 : decode cX2_setRisk 82 = .ok (.iload_n 3, 1) := by decide +kernel
end
section
theorem dX2_setRisk_83 : decode cX2_setRisk 83 = .ok (.ireturn, 1) := by decide +kernel
theorem dX2_setGuarantee_0 : decode cX2_setGuarantee 0 = .ok (.iload_n 1, 1) := by decide +kernel
theorem dX2_setGuarantee_1 : decode cX2_setGuarantee 1 = .ok (.invokestatic 86, 3) := by decide +kernel
theorem dX2_setGuarantee_4 : decode cX2_setGuarantee 4 = .ok (.ifCond .eq 17, 3) := by decide +kernel
theorem dX2_setGuarantee_7 : decode cX2_setGuarantee 7 = .ok (.iload_n 2, 1) := by decide +kernel
theorem dX2_setGuarantee_8 : decode cX2_setGuarantee 8 = .ok (.iconst 0, 1) := by decide +kernel
theorem dX2_setGuarantee_9 : decode cX2_setGuarantee 9 = .ok (.ldc 89, 2) := by decide +kernel
theorem dX2_setGuarantee_11 : decode cX2_setGuarantee 11 = .ok (.invokestatic 66, 3) := by decide +kernel
theorem dX2_setGuarantee_14 : decode cX2_setGuarantee 14 = .ok (.ifCond .eq 7, 3) := by decide +kernel
theorem dX2_setGuarantee_17 : decode cX2_setGuarantee 17 = .ok (.iconst 1, 1) := by decide +kernel
theorem dX2_setGuarantee_18 : decode cX2_setGuarantee 18 = .ok (.goto 4, 3) := by decide +kernel
theorem dX2_setGuarantee_21 : decode cX2_setGuarantee 21 = .ok (.iconst 0, 1) := by decide +kernel
theorem dX2_setGuarantee_22 : decode cX2_setGuarantee 22 = .ok (.istore_n 3, 1) := by decide +kernel
theorem dX2_setGuarantee_23 : decode cX2_setGuarantee 23 = .ok (.aload_n 0, 1) := by decide +kernel
theorem dX2_setGuarantee_24 : decode cX2_setGuarantee 24 = .ok (.iload_n 3, 1) := by decide +kernel
theorem dX2_setGuarantee_25 : decode cX2_setGuarantee 25 = .ok (.ifCond .ne 7, 3) := by decide +kernel
theorem dX2_setGuarantee_28 : decode cX2_setGuarantee 28 = .ok (.iconst 1, 1) := by decide +kernel
theorem dX2_setGuarantee_29 : decode cX2_setGuarantee 29 = .ok (.goto 18, 3) := by decide +kernel
theorem dX2_setGuarantee_32 : decode cX2_setGuarantee 32 = .ok (.aload_n 0, 1) := by decide +kernel
theorem dX2_setGuarantee_33 : decode cX2_setGuarantee 33 = .ok (.getfield 23, 3) := by decide +kernel
theorem dX2_setGuarantee_36 : decode cX2_setGuarantee 36 = .ok (.iload_n 1, 1) := by decide +kernel
theorem dX2_setGuarantee_37 : decode cX2_setGuarantee 37 = .ok (.iaload, 1) := by decide +kernel
theorem dX2_setGuarantee_38 : decode cX2_setGuarantee 38 = .ok (.iload_n 2, 1) := by decide +kernel
theorem dX2_setGuarantee_39 : decode cX2_setGuarantee 39 = .ok (.if_icmp .le 7, 3) := by decide +kernel
theorem dX2_setGuarantee_42 : decode cX2_setGuarantee 42 = .ok (.iconst 2, 1) := by decide +kernel
theorem dX2_setGuarantee_43 : decode cX2_setGuarantee 43 = .ok (.goto 4, 3) := by decide +kernel
theorem dX2_setGuarantee_46 : decode cX2_setGuarantee 46 = .ok (.iconst 0, 1) := by decide +kernel
theorem dX2_setGuarantee_47 : decode cX2_setGuarantee 47 = .ok (.invokevirtual 77, 3) := by decide +kernel
theorem dX2_setGuarantee_50 : decode cX2_setGuarantee 50 = .ok (.ifCond .ne 5, 3) := by decide +kernel
theorem dX2_setGuarantee_53 : decode cX2_setGuarantee 53 = .ok (.iconst 0, 1) := by decide +kernel
theorem dX2_setGuarantee_54 : decode cX2_setGuarantee 54 = .ok (.ireturn, 1) := by decide +kernel
theorem dX2_setGuarantee_55 : decode cX2_setGuarantee 55 = .ok (.aload_n 0, 1) := by decide +kernel
theorem dX2_setGuarantee_56 : decode cX2_setGuarantee 56 = .ok (.getfield 20, 3) := by decide +kernel
theorem dX2_setGuarantee_59 : decode cX2_setGuarantee 59 = .ok (.iload_n 1, 1) := by decide +kernel
theorem dX2_setGuarantee_60 : decode cX2_setGuarantee 60 = .ok (.iaload, 1) := by decide +kernel
theorem dX2_setGuarantee_61 : decode cX2_setGuarantee 61 = .ok (.istore 4, 2) := by decide +kernel
theorem dX2_setGuarantee_63 : decode cX2_setGuarantee 63 = .ok (.aload_n 0, 1) := by decide +kernel
theorem dX2_setGuarantee_64 : decode cX2_setGuarantee 64 = .ok (.getfield 20, 3) := by decide +kernel
theorem dX2_setGuarantee_67 : decode cX2_setGuarantee 67 = .ok (.iload_n 1, 1) := by decide +kernel
theorem dX2_setGuarantee_68 : decode cX2_setGuarantee 68 = .ok (.iload_n 2, 1) := by decide +kernel
theorem dX2_setGuarantee_69 : decode cX2_setGuarantee 69 = .ok (.iastore, 1) := by decide +kernel
theorem dX2_setGuarantee_70 : decode cX2_setGuarantee 70 = .ok (.iload 4, 2) := by decide +kernel
theorem dX2_setGuarantee_72 : decode cX2_setGuarantee 72 = .ok (.ireturn, 1) := by decide +kernel
theorem dX2_announce_0 : decode cX2_announce 0 = .ok (.iload_n 1, 1) := by decide +kernel
theorem dX2_announce_1 : decode cX2_announce 1 = .ok (.invokestatic 86, 3) := by decide +kernel
theorem dX2_announce_4 : decode cX2_announce 4 = .ok (.ifCond .eq 18, 3) := by decide +kernel
theorem dX2_announce_7 : decode cX2_announce 7 = .ok (.iload_n 2, 1) := by decide +kernel
theorem dX2_announce_8 : decode cX2_announce 8 = .ok (.iconst 0, 1) := by decide +kernel
theorem dX2_announce_9 : decode cX2_announce 9 = .ok (.sipush 999, 3) := by decide +kernel
theorem dX2_announce_12 : decode cX2_announce 12 = .ok (.invokestatic 66, 3) := by decide +kernel
theorem dX2_announce_15 : decode cX2_announce 15 = .ok (.ifCond .eq 7, 3) := by decide +kernel
theorem dX2_announce_18 : decode cX2_announce 18 = .ok (.iconst 1, 1) := by decide +kernel
theorem dX2_announce_19 : decode cX2_announce 19 = .ok (.goto 4, 3) := by decide +kernel
theorem dX2_announce_22 : decode cX2_announce 22 = .ok (.iconst 0, 1) := by decide +kernel
theorem dX2_announce_23 : decode cX2_announce 23 = .ok (.istore_n 3, 1) := by decide +kernel
theorem dX2_announce_24 : decode cX2_announce 24 = .ok (.aload_n 0, 1) := by decide +kernel
theorem dX2_announce_25 : decode cX2_announce 25 = .ok (.iload_n 3, 1) := by decide +kernel
theorem dX2_announce_26 : decode cX2_announce 26 = .ok (.ifCond .ne 7, 3) := by decide +kernel
theorem dX2_announce_29 : decode cX2_announce 29 = .ok (.iconst 1, 1) := by decide +kernel
theorem dX2_announce_30 : decode cX2_announce 30 = .ok (.goto 17, 3) := by decide +kernel
theorem dX2_announce_33 : decode cX2_announce 33 = .ok (.aload_n 0, 1) := by decide +kernel
theorem dX2_announce_34 : decode cX2_announce 34 = .ok (.getfield 70, 3) := by decide +kernel
theorem dX2_announce_37 : decode cX2_announce 37 = .ok (.bipush 15, 2) := by decide +kernel
theorem dX2_announce_39 : decode cX2_announce 39 = .ok (.if_icmp .ne 7, 3) := by decide +kernel
theorem dX2_announce_42 : decode cX2_announce 42 = .ok (.iconst 2, 1) := by decide +kernel
theorem dX2_announce_43 : decode cX2_announce 43 = .ok (.goto 4, 3) := by decide +kernel
theorem dX2_announce_46 : decode cX2_announce 46 = .ok (.iconst 0, 1) := by decide +kernel
theorem dX2_announce_47 : decode cX2_announce 47 = .ok (.invokevirtual 77, 3) := by decide +kernel
theorem dX2_announce_50 : decode cX2_announce 50 = .ok (.ifCond .ne 5, 3) := by decide +kernel
theorem dX2_announce_53 : decode cX2_announce 53 = .ok (.iconst 0, 1) := by decide +kernel
theorem dX2_announce_54 : decode cX2_announce 54 = .ok (.ireturn, 1) := by decide +kernel
theorem dX2_announce_55 : decode cX2_announce 55 = .ok (.aload_n 0, 1) := by decide +kernel
theorem dX2_announce_56 : decode cX2_announce 56 = .ok (.getfield 29, 3) := by decide +kernel
theorem dX2_announce_59 : decode cX2_announce 59 = .ok (.aload_n 0, 1) := by decide +kernel
theorem dX2_announce_60 : decode cX2_announce 60 = .ok (.getfield 70, 3) := by decide +kernel
theorem dX2_announce_63 : decode cX2_announce 63 = .ok (.iload_n 1, 1) := by decide +kernel
theorem dX2_announce_64 : decode cX2_announce 64 = .ok (.iastore, 1) := by decide +kernel
theorem dX2_announce_65 : decode cX2_announce 65 = .ok (.aload_n 0, 1) := by decide +kernel
theorem dX2_announce_66 : decode cX2_announce 66 = .ok (.getfield 32, 3) := by decide +kernel
theorem dX2_announce_69 : decode cX2_announce 69 = .ok (.aload_n 0, 1) := by decide +kernel
theorem dX2_announce_70 : decode cX2_announce 70 = .ok (.getfield 70, 3) := by decide +kernel
theorem dX2_announce_73 : decode cX2_announce 73 = .ok (.iload_n 2, 1) := by decide +kernel
theorem dX2_announce_74 : decode cX2_announce 74 = .ok (.iastore, 1) := by decide +kernel
theorem dX2_announce_75 : decode cX2_announce 75 = .ok (.aload_n 0, 1) := by decide +kernel
theorem dX2_announce_76 : decode cX2_announce 76 = .ok (.dup, 1) := by decide +kernel
theorem dX2_announce_77 : decode cX2_announce 77 = .ok (.getfield 70, 3) := by decide +kernel
theorem dX2_announce_80 : decode cX2_announce 80 = .ok (.iconst 1, 1) := by decide +kernel
theorem dX2_announce_81 : decode cX2_announce 81 = .ok (.iadd, 1) := by decide +kernel
theorem dX2_announce_82 : decode cX2_announce 82 = .ok (.putfield 70, 3) := by decide +kernel
theorem dX2_announce_85 : decode cX2_announce 85 = .ok (.aload_n 0, 1) := by decide +kernel
theorem dX2_announce_86 : decode cX2_announce 86 = .ok (.getfield 70, 3) := by decide +kernel
theorem dX2_announce_89 : decode cX2_announce 89 = .ok (.iconst 1, 1) := by decide +kernel
theorem dX2_announce_90 : decode cX2_announce 90 = .ok (.isub, 1) := by decide +kernel
theorem dX2_announce_91 : decode cX2_announce 91 = .ok (.ireturn, 1) := by decide +kernel
theorem dX2_amend_0 : decode cX2_amend 0 = .ok (.aload_n 0, 1) := by decide +kernel
theorem dX2_amend_1 : decode cX2_amend 1 = .ok (.iload_n 1, 1) := by decide +kernel
theorem dX2_amend_2 : decode cX2_amend 2 = .ok (.invokevirtual 90, 3) := by decide +kernel
theorem dX2_amend_5 : decode cX2_amend 5 = .ok (.istore 4, 2) := by decide +kernel
theorem dX2_amend_7 : decode cX2_amend 7 = .ok (.iload_n 2, 1) := by decide +kernel
theorem dX2_amend_8 : decode cX2_amend 8 = .ok (.invokestatic 73, 3) := by decide +kernel
theorem dX2_amend_11 : decode cX2_amend 11 = .ok (.ifCond .eq 17, 3) := by decide +kernel
theorem dX2_amend_14 : decode cX2_amend 14 = .ok (.iload_n 3, 1) := by decide +kernel
theorem dX2_amend_15 : decode cX2_amend 15 = .ok (.iconst 0, 1) := by decide +kernel
theorem dX2_amend_16 : decode cX2_amend 16 = .ok (.bipush 100, 2) := by decide +kernel
theorem dX2_amend_18 : decode cX2_amend 18 = .ok (.invokestatic 66, 3) := by decide +kernel
theorem dX2_amend_21 : decode cX2_amend 21 = .ok (.ifCond .eq 7, 3) := by decide +kernel
theorem dX2_amend_24 : decode cX2_amend 24 = .ok (.iconst 1, 1) := by decide +kernel
theorem dX2_amend_25 : decode cX2_amend 25 = .ok (.goto 4, 3) := by decide +kernel
theorem dX2_amend_28 : decode cX2_amend 28 = .ok (.iconst 0, 1) := by decide +kernel
theorem dX2_amend_29 : decode cX2_amend 29 = .ok (.istore 5, 2) := by decide +kernel
theorem dX2_amend_31 : decode cX2_amend 31 = .ok (.iload 4, 2) := by decide +kernel
theorem dX2_amend_33 : decode cX2_amend 33 = .ok (.ifCond .eq 36, 3) := by decide +kernel
theorem dX2_amend_36 : decode cX2_amend 36 = .ok (.iload 5, 2) := by decide +kernel
theorem dX2_amend_38 : decode cX2_amend 38 = .ok (.ifCond .eq 31, 3) := by decide +kernel
theorem dX2_amend_41 : decode cX2_amend 41 = .ok (.aload_n 0, 1) := by decide +kernel
theorem dX2_amend_42 : decode cX2_amend 42 = .ok (.getfield 35, 3) := by decide +kernel
theorem dX2_amend_45 : decode cX2_amend 45 = .ok (.iload_n 1, 1) := by decide +kernel
theorem dX2_amend_46 : decode cX2_amend 46 = .ok (.iaload, 1) := by decide +kernel
theorem dX2_amend_47 : decode cX2_amend 47 = .ok (.ifCond .ne 22, 3) := by decide +kernel
theorem dX2_amend_50 : decode cX2_amend 50 = .ok (.aload_n 0, 1) := by decide +kernel
theorem dX2_amend_51 : decode cX2_amend 51 = .ok (.getfield 54, 3) := by decide +kernel
theorem dX2_amend_54 : decode cX2_amend 54 = .ok (.bipush 6, 2) := by decide +kernel
theorem dX2_amend_56 : decode cX2_amend 56 = .ok (.iload_n 1, 1) := by decide +kernel
theorem dX2_amend_57 : decode cX2_amend 57 = .ok (.imul, 1) := by decide +kernel
theorem dX2_amend_58 : decode cX2_amend 58 = .ok (.iload_n 2, 1) := by decide +kernel
theorem dX2_amend_59 : decode cX2_amend 59 = .ok (.iadd, 1) := by decide +kernel
theorem dX2_amend_60 : decode cX2_amend 60 = .ok (.iaload, 1) := by decide +kernel
theorem dX2_amend_61 : decode cX2_amend 61 = .ok (.iload_n 3, 1) := by decide +kernel
theorem dX2_amend_62 : decode cX2_amend 62 = .ok (.if_icmp .eq 7, 3) := by decide +kernel
theorem dX2_amend_65 : decode cX2_amend 65 = .ok (.iconst 1, 1) := by decide +kernel
theorem dX2_amend_66 : decode cX2_amend 66 = .ok (.goto 4, 3) := by decide +kernel
theorem dX2_amend_69 : decode cX2_amend 69 = .ok (.iconst 0, 1) := by decide +kernel
theorem dX2_amend_70 : decode cX2_amend 70 = .ok (.istore 6, 2) := by decide +kernel
theorem dX2_amend_72 : decode cX2_amend 72 = .ok (.aload_n 0, 1) := by decide +kernel
theorem dX2_amend_73 : decode cX2_amend 73 = .ok (.iload 4, 2) := by decide +kernel
theorem dX2_amend_75 : decode cX2_amend 75 = .ok (.ifCond .ne 7, 3) := by decide +kernel
theorem dX2_amend_78 : decode cX2_amend 78 = .ok (.iconst 1, 1) := by decide +kernel
theorem dX2_amend_79 : decode cX2_amend 79 = .ok (.goto 22, 3) := by decide +kernel
theorem dX2_amend_82 : decode cX2_amend 82 = .ok (.iload 5, 2) := by decide +kernel
theorem dX2_amend_84 : decode cX2_amend 84 = .ok (.ifCond .ne 7, 3) := by decide +kernel
theorem dX2_amend_87 : decode cX2_amend 87 = .ok (.iconst 2, 1) := by decide +kernel
theorem dX2_amend_88 : decode cX2_amend 88 = .ok (.goto 13, 3) := by decide +kernel
theorem dX2_amend_91 : decode cX2_amend 91 = .ok (.iload 6, 2) := by decide +kernel
theorem dX2_amend_93 : decode cX2_amend 93 = .ok (.ifCond .ne 7, 3) := by decide +kernel
theorem dX2_amend_96 : decode cX2_amend 96 = .ok (.iconst 3, 1) := by decide +kernel
theorem dX2_amend_97 : decode cX2_amend 97 = .ok (.goto 4, 3) := by decide +kernel
theorem dX2_amend_100 : decode cX2_amend 100 = .ok (.iconst 0, 1) := by decide +kernel
theorem dX2_amend_101 : decode cX2_amend 101 = .ok (.invokevirtual 77, 3) := by decide +kernel
theorem dX2_amend_104 : decode cX2_amend 104 = .ok (.ifCond .ne 5, 3) := by decide +kernel
theorem dX2_amend_107 : decode cX2_amend 107 = .ok (.iconst 0, 1) := by decide +kernel
theorem dX2_amend_108 : decode cX2_amend 108 = .ok (.ireturn, 1) := by decide +kernel
theorem dX2_amend_109 : decode cX2_amend 109 = .ok (.aload_n 0, 1) := by decide +kernel
theorem dX2_amend_110 : decode cX2_amend 110 = .ok (.getfield 54, 3) := by decide +kernel
theorem dX2_amend_113 : decode cX2_amend 113 = .ok (.bipush 6, 2) := by decide +kernel
theorem dX2_amend_115 : decode cX2_amend 115 = .ok (.iload_n 1, 1) := by decide +kernel
theorem dX2_amend_116 : decode cX2_amend 116 = .ok (.imul, 1) := by decide +kernel
theorem dX2_amend_117 : decode cX2_amend 117 = .ok (.iload_n 2, 1) := by decide +kernel
theorem dX2_amend_118 : decode cX2_amend 118 = .ok (.iadd, 1) := by decide +kernel
theorem dX2_amend_119 : decode cX2_amend 119 = .ok (.iload_n 3, 1) := by decide +kernel
theorem dX2_amend_120 : decode cX2_amend 120 = .ok (.iastore, 1) := by decide +kernel
theorem dX2_amend_121 : decode cX2_amend 121 = .ok (.aload_n 0, 1) := by decide +kernel
theorem dX2_amend_122 : decode cX2_amend 122 = .ok (.getfield 38, 3) := by decide +kernel
theorem dX2_amend_125 : decode cX2_amend 125 = .ok (.iload_n 1, 1) := by decide +kernel
theorem dX2_amend_126 : decode cX2_amend 126 = .ok (.dup2, 1) := by decide +kernel
theorem dX2_amend_127 : decode cX2_amend 127 = .ok (.iaload, 1) := by decide +kernel
theorem dX2_amend_128 : decode cX2_amend 128 = .ok (.iconst 1, 1) := by decide +kernel
theorem dX2_amend_129 : decode cX2_amend 129 = .ok (.iadd, 1) := by decide +kernel
theorem dX2_amend_130 : decode cX2_amend 130 = .ok (.iastore, 1) := by decide +kernel
theorem dX2_amend_131 : decode cX2_amend 131 = .ok (.aload_n 0, 1) := by decide +kernel
theorem dX2_amend_132 : decode cX2_amend 132 = .ok (.getfield 38, 3) := by decide +kernel
theorem dX2_amend_135 : decode cX2_amend 135 = .ok (.iload_n 1, 1) := by decide +kernel
theorem dX2_amend_136 : decode cX2_amend 136 = .ok (.iaload, 1) := by decide +kernel
theorem dX2_amend_137 : decode cX2_amend 137 = .ok (.ireturn, 1) := by decide +kernel
theorem dX2_isEmpty_0 : decode cX2_isEmpty 0 = .ok (.iconst 0, 1) := by decide +kernel
theorem dX2_isEmpty_1 : decode cX2_isEmpty 1 = .ok (.istore_n 2, 1) := by decide +kernel
theorem dX2_isEmpty_2 : decode cX2_isEmpty 2 = .ok (.iconst 0, 1) := by decide +kernel
theorem dX2_isEmpty_3 : decode cX2_isEmpty 3 = .ok (.istore_n 3, 1) := by decide +kernel
theorem dX2_isEmpty_4 : decode cX2_isEmpty 4 = .ok (.iload_n 3, 1) := by decide +kernel
theorem dX2_isEmpty_5 : decode cX2_isEmpty 5 = .ok (.bipush 6, 2) := by decide +kernel
theorem dX2_isEmpty_7 : decode cX2_isEmpty 7 = .ok (.if_icmp .ge 23, 3) := by decide +kernel
theorem dX2_isEmpty_10 : decode cX2_isEmpty 10 = .ok (.iload_n 2, 1) := by decide +kernel
theorem dX2_isEmpty_11 : decode cX2_isEmpty 11 = .ok (.aload_n 0, 1) := by decide +kernel
theorem dX2_isEmpty_12 : decode cX2_isEmpty 12 = .ok (.getfield 54, 3) := by decide +kernel
theorem dX2_isEmpty_15 : decode cX2_isEmpty 15 = .ok (.bipush 6, 2) := by decide +kernel
theorem dX2_isEmpty_17 : decode cX2_isEmpty 17 = .ok (.iload_n 1, 1) := by decide +kernel
theorem dX2_isEmpty_18 : decode cX2_isEmpty 18 = .ok (.imul, 1) := by decide +kernel
theorem dX2_isEmpty_19 : decode cX2_isEmpty 19 = .ok (.iload_n 3, 1) := by decide +kernel
theorem dX2_isEmpty_20 : decode cX2_isEmpty 20 = .ok (.iadd, 1) := by decide +kernel
theorem dX2_isEmpty_21 : decode cX2_isEmpty 21 = .ok (.iaload, 1) := by decide +kernel
theorem dX2_isEmpty_22 : decode cX2_isEmpty 22 = .ok (.iadd, 1) := by decide +kernel
theorem dX2_isEmpty_23 : decode cX2_isEmpty 23 = .ok (.istore_n 2, 1) := by decide +kernel
theorem dX2_isEmpty_24 : decode cX2_isEmpty 24 = .ok (.iinc 3 1, 3) := by decide +kernel
theorem dX2_isEmpty_27 : decode cX2_isEmpty 27 = .ok (.goto (-23), 3) := by decide +kernel
theorem dX2_isEmpty_30 : decode cX2_isEmpty 30 = .ok (.iload_n 2, 1) := by decide +kernel
theorem dX2_isEmpty_31 : decode cX2_isEmpty 31 = .ok (.ifCond .ne 7, 3) := by decide +kernel
theorem dX2_isEmpty_34 : decode cX2_isEmpty 34 = .ok (.iconst 1, 1) := by decide +kernel
theorem dX2_isEmpty_35 : decode cX2_isEmpty 35 = .ok (.goto 4, 3) := by decide +kernel
theorem dX2_isEmpty_38 : decode cX2_isEmpty 38 = .ok (.iconst 0, 1) := by decide +kernel
theorem dX2_isEmpty_39 : decode cX2_isEmpty 39 = .ok (.ireturn, 1) := by decide +kernel
theorem dX2_arrive_0 : decode cX2_arrive 0 = .ok (.aload_n 0, 1) := by decide +kernel
theorem dX2_arrive_1 : decode cX2_arrive 1 = .ok (.iload_n 1, 1) := by decide +kernel
theorem dX2_arrive_2 : decode cX2_arrive 2 = .ok (.invokevirtual 90, 3) := by decide +kernel
theorem dX2_arrive_5 : decode cX2_arrive 5 = .ok (.istore_n 3, 1) := by decide +kernel
theorem dX2_arrive_6 : decode cX2_arrive 6 = .ok (.iload_n 3, 1) := by decide +kernel
theorem dX2_arrive_7 : decode cX2_arrive 7 = .ok (.ifCond .eq 24, 3) := by decide +kernel
theorem dX2_arrive_10 : decode cX2_arrive 10 = .ok (.aload_n 0, 1) := by decide +kernel
theorem dX2_arrive_11 : decode cX2_arrive 11 = .ok (.getfield 35, 3) := by decide +kernel
theorem dX2_arrive_14 : decode cX2_arrive 14 = .ok (.iload_n 1, 1) := by decide +kernel
theorem dX2_arrive_15 : decode cX2_arrive 15 = .ok (.iaload, 1) := by decide +kernel
theorem dX2_arrive_16 : decode cX2_arrive 16 = .ok (.ifCond .ne 15, 3) := by decide +kernel
theorem dX2_arrive_19 : decode cX2_arrive 19 = .ok (.aload_n 0, 1) := by decide +kernel
theorem dX2_arrive_20 : decode cX2_arrive 20 = .ok (.iload_n 1, 1) := by decide +kernel
theorem dX2_arrive_21 : decode cX2_arrive 21 = .ok (.invokevirtual 93, 3) := by decide +kernel
theorem dX2_arrive_24 : decode cX2_arrive 24 = .ok (.ifCond .ne 7, 3) := by decide +kernel
theorem dX2_arrive_27 : decode cX2_arrive 27 = .ok (.iconst 1, 1) := by decide +kernel
theorem dX2_arrive_28 : decode cX2_arrive 28 = .ok (.goto 4, 3) := by decide +kernel
theorem dX2_arrive_31 : decode cX2_arrive 31 = .ok (.iconst 0, 1) := by decide +kernel
theorem dX2_arrive_32 : decode cX2_arrive 32 = .ok (.istore 4, 2) := by decide +kernel
theorem dX2_arrive_34 : decode cX2_arrive 34 = .ok (.aload_n 0, 1) := by decide +kernel
theorem dX2_arrive_35 : decode cX2_arrive 35 = .ok (.iload_n 3, 1) := by decide +kernel
theorem dX2_arrive_36 : decode cX2_arrive 36 = .ok (.ifCond .ne 7, 3) := by decide +kernel
theorem dX2_arrive_39 : decode cX2_arrive 39 = .ok (.iconst 1, 1) := by decide +kernel
theorem dX2_arrive_40 : decode cX2_arrive 40 = .ok (.goto 28, 3) := by decide +kernel
theorem dX2_arrive_43 : decode cX2_arrive 43 = .ok (.iload_n 2, 1) := by decide +kernel
theorem dX2_arrive_44 : decode cX2_arrive 44 = .ok (.iconst 0, 1) := by decide +kernel
theorem dX2_arrive_45 : decode cX2_arrive 45 = .ok (.sipush 999, 3) := by decide +kernel
theorem dX2_arrive_48 : decode cX2_arrive 48 = .ok (.invokestatic 66, 3) := by decide +kernel
theorem dX2_arrive_51 : decode cX2_arrive 51 = .ok (.ifCond .ne 7, 3) := by decide +kernel
theorem dX2_arrive_54 : decode cX2_arrive 54 = .ok (.iconst 2, 1) := by decide +kernel
theorem dX2_arrive_55 : decode cX2_arrive 55 = .ok (.goto 13, 3) := by decide +kernel
theorem dX2_arrive_58 : decode cX2_arrive 58 = .ok (.iload 4, 2) := by decide +kernel
theorem dX2_arrive_60 : decode cX2_arrive 60 = .ok (.ifCond .ne 7, 3) := by decide +kernel
theorem dX2_arrive_63 : decode cX2_arrive 63 = .ok (.iconst 3, 1) := by decide +kernel
theorem dX2_arrive_64 : decode cX2_arrive 64 = .ok (.goto 4, 3) := by decide +kernel
theorem dX2_arrive_67 : decode cX2_arrive 67 = .ok (.iconst 0, 1) := by decide +kernel
theorem dX2_arrive_68 : decode cX2_arrive 68 = .ok (.invokevirtual 77, 3) := by decide +kernel
theorem dX2_arrive_71 : decode cX2_arrive 71 = .ok (.ifCond .ne 5, 3) := by decide +kernel
theorem dX2_arrive_74 : decode cX2_arrive 74 = .ok (.iconst 0, 1) := by decide +kernel
theorem dX2_arrive_75 : decode cX2_arrive 75 = .ok (.ireturn, 1) := by decide +kernel
theorem dX2_arrive_76 : decode cX2_arrive 76 = .ok (.aload_n 0, 1) := by decide +kernel
theorem dX2_arrive_77 : decode cX2_arrive 77 = .ok (.dup, 1) := by decide +kernel
theorem dX2_arrive_78 : decode cX2_arrive 78 = .ok (.getfield 96, 3) := by decide +kernel
theorem dX2_arrive_81 : decode cX2_arrive 81 = .ok (.iconst 1, 1) := by decide +kernel
theorem dX2_arrive_82 : decode cX2_arrive 82 = .ok (.iadd, 1) := by decide +kernel
theorem dX2_arrive_83 : decode cX2_arrive 83 = .ok (.putfield 96, 3) := by decide +kernel
theorem dX2_arrive_86 : decode cX2_arrive 86 = .ok (.aload_n 0, 1) := by decide +kernel
theorem dX2_arrive_87 : decode cX2_arrive 87 = .ok (.getfield 47, 3) := by decide +kernel
theorem dX2_arrive_90 : decode cX2_arrive 90 = .ok (.iload_n 1, 1) := by decide +kernel
theorem dX2_arrive_91 : decode cX2_arrive 91 = .ok (.aload_n 0, 1) := by decide +kernel
theorem dX2_arrive_92 : decode cX2_arrive 92 = .ok (.getfield 80, 3) := by decide +kernel
theorem dX2_arrive_95 : decode cX2_arrive 95 = .ok (.ifCond .le 19, 3) := by decide +kernel
theorem dX2_arrive_98 : decode cX2_arrive 98 = .ok (.aload_n 0, 1) := by decide +kernel
theorem dX2_arrive_99 : decode cX2_arrive 99 = .ok (.getfield 96, 3) := by decide +kernel
theorem dX2_arrive_102 : decode cX2_arrive 102 = .ok (.aload_n 0, 1) := by decide +kernel
theorem dX2_arrive_103 : decode cX2_arrive 103 = .ok (.getfield 80, 3) := by decide +kernel
theorem dX2_arrive_106 : decode cX2_arrive 106 = .ok (.irem, 1) := by decide +kernel
theorem dX2_arrive_107 : decode cX2_arrive 107 = .ok (.ifCond .ne 7, 3) := by decide +kernel
theorem dX2_arrive_110 : decode cX2_arrive 110 = .ok (.iconst 1, 1) := by decide +kernel
theorem dX2_arrive_111 : decode cX2_arrive 111 = .ok (.goto 4, 3) := by decide +kernel
theorem dX2_arrive_114 : decode cX2_arrive 114 = .ok (.iconst 0, 1) := by decide +kernel
theorem dX2_arrive_115 : decode cX2_arrive 115 = .ok (.bastore, 1) := by decide +kernel
theorem dX2_arrive_116 : decode cX2_arrive 116 = .ok (.aload_n 0, 1) := by decide +kernel
theorem dX2_arrive_117 : decode cX2_arrive 117 = .ok (.getfield 35, 3) := by decide +kernel
theorem dX2_arrive_120 : decode cX2_arrive 120 = .ok (.iload_n 1, 1) := by decide +kernel
theorem dX2_arrive_121 : decode cX2_arrive 121 = .ok (.iconst 1, 1) := by decide +kernel
theorem dX2_arrive_122 : decode cX2_arrive 122 = .ok (.iastore, 1) := by decide +kernel
theorem dX2_arrive_123 : decode cX2_arrive 123 = .ok (.aload_n 0, 1) := by decide +kernel
theorem dX2_arrive_124 : decode cX2_arrive 124 = .ok (.getfield 51, 3) := by decide +kernel
theorem dX2_arrive_127 : decode cX2_arrive 127 = .ok (.iload_n 1, 1) := by decide +kernel
theorem dX2_arrive_128 : decode cX2_arrive 128 = .ok (.aload_n 0, 1) := by decide +kernel
theorem dX2_arrive_129 : decode cX2_arrive 129 = .ok (.getfield 32, 3) := by decide +kernel
theorem dX2_arrive_132 : decode cX2_arrive 132 = .ok (.iload_n 1, 1) := by decide +kernel
theorem dX2_arrive_133 : decode cX2_arrive 133 = .ok (.iaload, 1) := by decide +kernel
theorem dX2_arrive_134 : decode cX2_arrive 134 = .ok (.iload_n 2, 1) := by decide +kernel
theorem dX2_arrive_135 : decode cX2_arrive 135 = .ok (.if_icmp .eq 7, 3) := by decide +kernel
theorem dX2_arrive_138 : decode cX2_arrive 138 = .ok (.iconst 1, 1) := by decide +kernel
theorem dX2_arrive_139 : decode cX2_arrive 139 = .ok (.goto 4, 3) := by decide +kernel
theorem dX2_arrive_142 : decode cX2_arrive 142 = .ok (.iconst 0, 1) := by decide +kernel
theorem dX2_arrive_143 : decode cX2_arrive 143 = .ok (.bastore, 1) := by decide +kernel
theorem dX2_arrive_144 : decode cX2_arrive 144 = .ok (.aload_n 0, 1) := by decide +kernel
theorem dX2_arrive_145 : decode cX2_arrive 145 = .ok (.iload_n 1, 1) := by decide +kernel
theorem dX2_arrive_146 : decode cX2_arrive 146 = .ok (.invokevirtual 83, 3) := by decide +kernel
theorem dX2_arrive_149 : decode cX2_arrive 149 = .ok (.ireturn, 1) := by decide +kernel
theorem dX2_riskNow_0 : decode cX2_riskNow 0 = .ok (.iconst 2, 1) := by decide +kernel
theorem dX2_riskNow_1 : decode cX2_riskNow 1 = .ok (.aload_n 0, 1) := by decide +kernel
theorem dX2_riskNow_2 : decode cX2_riskNow 2 = .ok (.getfield 38, 3) := by decide +kernel
theorem dX2_riskNow_5 : decode cX2_riskNow 5 = .ok (.iload_n 1, 1) := by decide +kernel
theorem dX2_riskNow_6 : decode cX2_riskNow 6 = .ok (.iaload, 1) := by decide +kernel
theorem dX2_riskNow_7 : decode cX2_riskNow 7 = .ok (.iconst 1, 1) := by decide +kernel
theorem dX2_riskNow_8 : decode cX2_riskNow 8 = .ok (.isub, 1) := by decide +kernel
theorem dX2_riskNow_9 : decode cX2_riskNow 9 = .ok (.imul, 1) := by decide +kernel
theorem dX2_riskNow_10 : decode cX2_riskNow 10 = .ok (.aload_n 0, 1) := by decide +kernel
theorem dX2_riskNow_11 : decode cX2_riskNow 11 = .ok (.getfield 51, 3) := by decide +kernel
theorem dX2_riskNow_14 : decode cX2_riskNow 14 = .ok (.iload_n 1, 1) := by decide +kernel
theorem dX2_riskNow_15 : decode cX2_riskNow 15 = .ok (.baload, 1) := by decide +kernel
theorem dX2_riskNow_16 : decode cX2_riskNow 16 = .ok (.ifCond .eq 8, 3) := by decide +kernel
theorem dX2_riskNow_19 : decode cX2_riskNow 19 = .ok (.bipush 30, 2) := by decide +kernel
theorem dX2_riskNow_21 : decode cX2_riskNow 21 = .ok (.goto 4, 3) := by decide +kernel
theorem dX2_riskNow_24 : decode cX2_riskNow 24 = .ok (.iconst 0, 1) := by decide +kernel
theorem dX2_riskNow_25 : decode cX2_riskNow 25 = .ok (.iadd, 1) := by decide +kernel
theorem dX2_riskNow_26 : decode cX2_riskNow 26 = .ok (.istore_n 2, 1) := by decide +kernel
theorem dX2_riskNow_27 : decode cX2_riskNow 27 = .ok (.iconst 0, 1) := by decide +kernel
theorem dX2_riskNow_28 : decode cX2_riskNow 28 = .ok (.istore_n 3, 1) := by decide +kernel
theorem dX2_riskNow_29 : decode cX2_riskNow 29 = .ok (.iload_n 3, 1) := by decide +kernel
theorem dX2_riskNow_30 : decode cX2_riskNow 30 = .ok (.bipush 6, 2) := by decide +kernel
theorem dX2_riskNow_32 : decode cX2_riskNow 32 = .ok (.if_icmp .ge 36, 3) := by decide +kernel
theorem dX2_riskNow_35 : decode cX2_riskNow 35 = .ok (.iload_n 2, 1) := by decide +kernel
theorem dX2_riskNow_36 : decode cX2_riskNow 36 = .ok (.aload_n 0, 1) := by decide +kernel
theorem dX2_riskNow_37 : decode cX2_riskNow 37 = .ok (.getfield 54, 3) := by decide +kernel
theorem dX2_riskNow_40 : decode cX2_riskNow 40 = .ok (.bipush 6, 2) := by decide +kernel
theorem dX2_riskNow_42 : decode cX2_riskNow 42 = .ok (.iload_n 1, 1) := by decide +kernel
theorem dX2_riskNow_43 : decode cX2_riskNow 43 = .ok (.imul, 1) := by decide +kernel
theorem dX2_riskNow_44 : decode cX2_riskNow 44 = .ok (.iload_n 3, 1) := by decide +kernel
theorem dX2_riskNow_45 : decode cX2_riskNow 45 = .ok (.iadd, 1) := by decide +kernel
theorem dX2_riskNow_46 : decode cX2_riskNow 46 = .ok (.iaload, 1) := by decide +kernel
theorem dX2_riskNow_47 : decode cX2_riskNow 47 = .ok (.ifCond .le 12, 3) := by decide +kernel
theorem dX2_riskNow_50 : decode cX2_riskNow 50 = .ok (.aload_n 0, 1) := by decide +kernel
theorem dX2_riskNow_51 : decode cX2_riskNow 51 = .ok (.getfield 13, 3) := by decide +kernel
theorem dX2_riskNow_54 : decode cX2_riskNow 54 = .ok (.iload_n 3, 1) := by decide +kernel
theorem dX2_riskNow_55 : decode cX2_riskNow 55 = .ok (.iaload, 1) := by decide +kernel
theorem dX2_riskNow_56 : decode cX2_riskNow 56 = .ok (.goto 4, 3) := by decide +kernel
theorem dX2_riskNow_59 : decode cX2_riskNow 59 = .ok (.iconst 0, 1) := by decide +kernel
theorem dX2_riskNow_60 : decode cX2_riskNow 60 = .ok (.iadd, 1) := by decide +kernel
theorem dX2_riskNow_61 : decode cX2_riskNow 61 = .ok (.istore_n 2, 1) := by decide +kernel
theorem dX2_riskNow_62 : decode cX2_riskNow 62 = .ok (.iinc 3 1, 3) := by decide +kernel
theorem dX2_riskNow_65 : decode cX2_riskNow 65 = .ok (.goto (-36), 3) := by decide +kernel
theorem dX2_riskNow_68 : decode cX2_riskNow 68 = .ok (.iload_n 2, 1) := by decide +kernel
theorem dX2_riskNow_69 : decode cX2_riskNow 69 = .ok (.ireturn, 1) := by decide +kernel
theorem dX2_mustNow_0 : decode cX2_mustNow 0 = .ok (.aload_n 0, 1) := by decide +kernel
theorem dX2_mustNow_1 : decode cX2_mustNow 1 = .ok (.getfield 35, 3) := by decide +kernel
theorem dX2_mustNow_4 : decode cX2_mustNow 4 = .ok (.iload_n 1, 1) := by decide +kernel
theorem dX2_mustNow_5 : decode cX2_mustNow 5 = .ok (.iaload, 1) := by decide +kernel
theorem dX2_mustNow_6 : decode cX2_mustNow 6 = .ok (.iconst 1, 1) := by decide +kernel
theorem dX2_mustNow_7 : decode cX2_mustNow 7 = .ok (.if_icmp .ne 39, 3) := by decide +kernel
theorem dX2_mustNow_10 : decode cX2_mustNow 10 = .ok (.aload_n 0, 1) := by decide +kernel
theorem dX2_mustNow_11 : decode cX2_mustNow 11 = .ok (.getfield 44, 3) := by decide +kernel
theorem dX2_mustNow_14 : decode cX2_mustNow 14 = .ok (.iload_n 1, 1) := by decide +kernel
theorem dX2_mustNow_15 : decode cX2_mustNow 15 = .ok (.iaload, 1) := by decide +kernel
theorem dX2_mustNow_16 : decode cX2_mustNow 16 = .ok (.bipush 63, 2) := by decide +kernel
theorem dX2_mustNow_18 : decode cX2_mustNow 18 = .ok (.if_icmp .eq 28, 3) := by decide +kernel
theorem dX2_mustNow_21 : decode cX2_mustNow 21 = .ok (.aload_n 0, 1) := by decide +kernel
theorem dX2_mustNow_22 : decode cX2_mustNow 22 = .ok (.getfield 47, 3) := by decide +kernel
theorem dX2_mustNow_25 : decode cX2_mustNow 25 = .ok (.iload_n 1, 1) := by decide +kernel
theorem dX2_mustNow_26 : decode cX2_mustNow 26 = .ok (.baload, 1) := by decide +kernel
theorem dX2_mustNow_27 : decode cX2_mustNow 27 = .ok (.ifCond .ne 15, 3) := by decide +kernel
theorem dX2_mustNow_30 : decode cX2_mustNow 30 = .ok (.aload_n 0, 1) := by decide +kernel
theorem dX2_mustNow_31 : decode cX2_mustNow 31 = .ok (.iload_n 1, 1) := by decide +kernel
theorem dX2_mustNow_32 : decode cX2_mustNow 32 = .ok (.invokevirtual 99, 3) := by decide +kernel
theorem dX2_mustNow_35 : decode cX2_mustNow 35 = .ok (.aload_n 0, 1) := by decide +kernel
theorem dX2_mustNow_36 : decode cX2_mustNow 36 = .ok (.getfield 16, 3) := by decide +kernel
theorem dX2_mustNow_39 : decode cX2_mustNow 39 = .ok (.if_icmp .lt 7, 3) := by decide +kernel
theorem dX2_mustNow_42 : decode cX2_mustNow 42 = .ok (.iconst 1, 1) := by decide +kernel
theorem dX2_mustNow_43 : decode cX2_mustNow 43 = .ok (.goto 4, 3) := by decide +kernel
theorem dX2_mustNow_46 : decode cX2_mustNow 46 = .ok (.iconst 0, 1) := by decide +kernel
theorem dX2_mustNow_47 : decode cX2_mustNow 47 = .ok (.ireturn, 1) := by decide +kernel
theorem dX2_risk_0 : decode cX2_risk 0 = .ok (.aload_n 0, 1) := by decide +kernel
theorem dX2_risk_1 : decode cX2_risk 1 = .ok (.iload_n 1, 1) := by decide +kernel
theorem dX2_risk_2 : decode cX2_risk 2 = .ok (.invokevirtual 90, 3) := by decide +kernel
theorem dX2_risk_5 : decode cX2_risk 5 = .ok (.istore_n 2, 1) := by decide +kernel
theorem dX2_risk_6 : decode cX2_risk 6 = .ok (.aload_n 0, 1) := by decide +kernel
theorem dX2_risk_7 : decode cX2_risk 7 = .ok (.iload_n 2, 1) := by decide +kernel
theorem dX2_risk_8 : decode cX2_risk 8 = .ok (.ifCond .ne 7, 3) := by decide +kernel
theorem dX2_risk_11 : decode cX2_risk 11 = .ok (.iconst 1, 1) := by decide +kernel
theorem dX2_risk_12 : decode cX2_risk 12 = .ok (.goto 17, 3) := by decide +kernel
theorem dX2_risk_15 : decode cX2_risk 15 = .ok (.aload_n 0, 1) := by decide +kernel
theorem dX2_risk_16 : decode cX2_risk 16 = .ok (.getfield 35, 3) := by decide +kernel
theorem dX2_risk_19 : decode cX2_risk 19 = .ok (.iload_n 1, 1) := by decide +kernel
theorem dX2_risk_20 : decode cX2_risk 20 = .ok (.iaload, 1) := by decide +kernel
theorem dX2_risk_21 : decode cX2_risk 21 = .ok (.ifCond .ne 7, 3) := by decide +kernel
theorem dX2_risk_24 : decode cX2_risk 24 = .ok (.iconst 2, 1) := by decide +kernel
theorem dX2_risk_25 : decode cX2_risk 25 = .ok (.goto 4, 3) := by decide +kernel
theorem dX2_risk_28 : decode cX2_risk 28 = .ok (.iconst 0, 1) := by decide +kernel
theorem dX2_risk_29 : decode cX2_risk 29 = .ok (.invokevirtual 77, 3) := by decide +kernel
theorem dX2_risk_32 : decode cX2_risk 32 = .ok (.ifCond .eq 11, 3) := by decide +kernel
theorem dX2_risk_35 : decode cX2_risk 35 = .ok (.aload_n 0, 1) := by decide +kernel
theorem dX2_risk_36 : decode cX2_risk 36 = .ok (.iload_n 1, 1) := by decide +kernel
theorem dX2_risk_37 : decode cX2_risk 37 = .ok (.invokevirtual 99, 3) := by decide +kernel
theorem dX2_risk_40 : decode cX2_risk 40 = .ok (.goto 4, 3) := by decide +kernel
theorem dX2_risk_43 : decode cX2_risk 43 = .ok (.iconst 0, 1) := by decide +kernel
theorem dX2_risk_44 : decode cX2_risk 44 = .ok (.ireturn, 1) := by decide +kernel
theorem dX2_mustSearch_0 : decode cX2_mustSearch 0 = .ok (.aload_n 0, 1) := by decide +kernel
theorem dX2_mustSearch_1 : decode cX2_mustSearch 1 = .ok (.aload_n 0, 1) := by decide +kernel
theorem dX2_mustSearch_2 : decode cX2_mustSearch 2 = .ok (.iload_n 1, 1) := by decide +kernel
theorem dX2_mustSearch_3 : decode cX2_mustSearch 3 = .ok (.invokevirtual 90, 3) := by decide +kernel
theorem dX2_mustSearch_6 : decode cX2_mustSearch 6 = .ok (.ifCond .eq 7, 3) := by decide +kernel
theorem dX2_mustSearch_9 : decode cX2_mustSearch 9 = .ok (.iconst 0, 1) := by decide +kernel
theorem dX2_mustSearch_10 : decode cX2_mustSearch 10 = .ok (.goto 4, 3) := by decide +kernel
theorem dX2_mustSearch_13 : decode cX2_mustSearch 13 = .ok (.iconst 1, 1) := by decide +kernel
theorem dX2_mustSearch_14 : decode cX2_mustSearch 14 = .ok (.invokevirtual 77, 3) := by decide +kernel
theorem dX2_mustSearch_17 : decode cX2_mustSearch 17 = .ok (.ifCond .eq 15, 3) := by decide +kernel
theorem dX2_mustSearch_20 : decode cX2_mustSearch 20 = .ok (.aload_n 0, 1) := by decide +kernel
theorem dX2_mustSearch_21 : decode cX2_mustSearch 21 = .ok (.iload_n 1, 1) := by decide +kernel
theorem dX2_mustSearch_22 : decode cX2_mustSearch 22 = .ok (.invokevirtual 83, 3) := by decide +kernel
theorem dX2_mustSearch_25 : decode cX2_mustSearch 25 = .ok (.ifCond .eq 7, 3) := by decide +kernel
theorem dX2_mustSearch_28 : decode cX2_mustSearch 28 = .ok (.iconst 1, 1) := by decide +kernel
theorem dX2_mustSearch_29 : decode cX2_mustSearch 29 = .ok (.goto 4, 3) := by decide +kernel
theorem dX2_mustSearch_32 : decode cX2_mustSearch 32 = .ok (.iconst 0, 1) := by decide +kernel
theorem dX2_mustSearch_33 : decode cX2_mustSearch 33 = .ok (.ireturn, 1) := by decide +kernel
theorem dX2_search_0 : decode cX2_search 0 = .ok (.aload_n 0, 1) := by decide +kernel
theorem dX2_search_1 : decode cX2_search 1 = .ok (.iload_n 1, 1) := by decide +kernel
theorem dX2_search_2 : decode cX2_search 2 = .ok (.invokevirtual 90, 3) := by decide +kernel
theorem dX2_search_5 : decode cX2_search 5 = .ok (.istore 4, 2) := by decide +kernel
theorem dX2_search_7 : decode cX2_search 7 = .ok (.iload_n 2, 1) := by decide +kernel
theorem dX2_search_8 : decode cX2_search 8 = .ok (.invokestatic 73, 3) := by decide +kernel
theorem dX2_search_11 : decode cX2_search 11 = .ok (.ifCond .eq 17, 3) := by decide +kernel
theorem dX2_search_14 : decode cX2_search 14 = .ok (.iload_n 3, 1) := by decide +kernel
theorem dX2_search_15 : decode cX2_search 15 = .ok (.iconst 0, 1) := by decide +kernel
theorem dX2_search_16 : decode cX2_search 16 = .ok (.bipush 100, 2) := by decide +kernel
theorem dX2_search_18 : decode cX2_search 18 = .ok (.invokestatic 66, 3) := by decide +kernel
theorem dX2_search_21 : decode cX2_search 21 = .ok (.ifCond .eq 7, 3) := by decide +kernel
theorem dX2_search_24 : decode cX2_search 24 = .ok (.iconst 1, 1) := by decide +kernel
theorem dX2_search_25 : decode cX2_search 25 = .ok (.goto 4, 3) := by decide +kernel
theorem dX2_search_28 : decode cX2_search 28 = .ok (.iconst 0, 1) := by decide +kernel
theorem dX2_search_29 : decode cX2_search 29 = .ok (.istore 5, 2) := by decide +kernel
theorem dX2_search_31 : decode cX2_search 31 = .ok (.aload_n 0, 1) := by decide +kernel
theorem dX2_search_32 : decode cX2_search 32 = .ok (.iload 4, 2) := by decide +kernel
theorem dX2_search_34 : decode cX2_search 34 = .ok (.ifCond .ne 7, 3) := by decide +kernel
theorem dX2_search_37 : decode cX2_search 37 = .ok (.iconst 1, 1) := by decide +kernel
theorem dX2_search_38 : decode cX2_search 38 = .ok (.goto 27, 3) := by decide +kernel
theorem dX2_search_41 : decode cX2_search 41 = .ok (.iload 5, 2) := by decide +kernel
theorem dX2_search_43 : decode cX2_search 43 = .ok (.ifCond .ne 7, 3) := by decide +kernel
theorem dX2_search_46 : decode cX2_search 46 = .ok (.iconst 2, 1) := by decide +kernel
theorem dX2_search_47 : decode cX2_search 47 = .ok (.goto 18, 3) := by decide +kernel
theorem dX2_search_50 : decode cX2_search 50 = .ok (.aload_n 0, 1) := by decide +kernel
theorem dX2_search_51 : decode cX2_search 51 = .ok (.getfield 35, 3) := by decide +kernel
theorem dX2_search_54 : decode cX2_search 54 = .ok (.iload_n 1, 1) := by decide +kernel
theorem dX2_search_55 : decode cX2_search 55 = .ok (.iaload, 1) := by decide +kernel
theorem dX2_search_56 : decode cX2_search 56 = .ok (.iconst 1, 1) := by decide +kernel
theorem dX2_search_57 : decode cX2_search 57 = .ok (.if_icmp .eq 7, 3) := by decide +kernel
theorem dX2_search_60 : decode cX2_search 60 = .ok (.iconst 3, 1) := by decide +kernel
theorem dX2_search_61 : decode cX2_search 61 = .ok (.goto 4, 3) := by decide +kernel
theorem dX2_search_64 : decode cX2_search 64 = .ok (.iconst 0, 1) := by decide +kernel
theorem dX2_search_65 : decode cX2_search 65 = .ok (.invokevirtual 77, 3) := by decide +kernel
theorem dX2_search_68 : decode cX2_search 68 = .ok (.ifCond .ne 5, 3) := by decide +kernel
theorem dX2_search_71 : decode cX2_search 71 = .ok (.iconst 0, 1) := by decide +kernel
theorem dX2_search_72 : decode cX2_search 72 = .ok (.ireturn, 1) := by decide +kernel
theorem dX2_search_73 : decode cX2_search 73 = .ok (.aload_n 0, 1) := by decide +kernel
theorem dX2_search_74 : decode cX2_search 74 = .ok (.getfield 44, 3) := by decide +kernel
theorem dX2_search_77 : decode cX2_search 77 = .ok (.iload_n 1, 1) := by decide +kernel
theorem dX2_search_78 : decode cX2_search 78 = .ok (.dup2, 1) := by decide +kernel
theorem dX2_search_79 : decode cX2_search 79 = .ok (.iaload, 1) := by decide +kernel
theorem dX2_search_80 : decode cX2_search 80 = .ok (.iconst 1, 1) := by decide +kernel
theorem dX2_search_81 : decode cX2_search 81 = .ok (.iload_n 2, 1) := by decide +kernel
theorem dX2_search_82 : decode cX2_search 82 = .ok (.ishl, 1) := by decide +kernel
theorem dX2_search_83 : decode cX2_search 83 = .ok (.ior, 1) := by decide +kernel
theorem dX2_search_84 : decode cX2_search 84 = .ok (.iastore, 1) := by decide +kernel
theorem dX2_search_85 : decode cX2_search 85 = .ok (.aload_n 0, 1) := by decide +kernel
theorem dX2_search_86 : decode cX2_search 86 = .ok (.getfield 41, 3) := by decide +kernel
theorem dX2_search_89 : decode cX2_search 89 = .ok (.iload_n 1, 1) := by decide +kernel
theorem dX2_search_90 : decode cX2_search 90 = .ok (.dup2, 1) := by decide +kernel
theorem dX2_search_91 : decode cX2_search 91 = .ok (.iaload, 1) := by decide +kernel
theorem dX2_search_92 : decode cX2_search 92 = .ok (.aload_n 0, 1) := by decide +kernel
theorem dX2_search_93 : decode cX2_search 93 = .ok (.getfield 54, 3) := by decide +kernel
theorem dX2_search_96 : decode cX2_search 96 = .ok (.bipush 6, 2) := by decide +kernel
theorem dX2_search_98 : decode cX2_search 98 = .ok (.iload_n 1, 1) := by decide +kernel
theorem dX2_search_99 : decode cX2_search 99 = .ok (.imul, 1) := by decide +kernel
theorem dX2_search_100 : decode cX2_search 100 = .ok (.iload_n 2, 1) := by decide +kernel
theorem dX2_search_101 : decode cX2_search 101 = .ok (.iadd, 1) := by decide +kernel
theorem dX2_search_102 : decode cX2_search 102 = .ok (.iaload, 1) := by decide +kernel
theorem dX2_search_103 : decode cX2_search 103 = .ok (.iload_n 3, 1) := by decide +kernel
theorem dX2_search_104 : decode cX2_search 104 = .ok (.if_icmp .eq 7, 3) := by decide +kernel
theorem dX2_search_107 : decode cX2_search 107 = .ok (.iconst 1, 1) := by decide +kernel
theorem dX2_search_108 : decode cX2_search 108 = .ok (.goto 4, 3) := by decide +kernel
theorem dX2_search_111 : decode cX2_search 111 = .ok (.iconst 0, 1) := by decide +kernel
theorem dX2_search_112 : decode cX2_search 112 = .ok (.iadd, 1) := by decide +kernel
theorem dX2_search_113 : decode cX2_search 113 = .ok (.iastore, 1) := by decide +kernel
theorem dX2_search_114 : decode cX2_search 114 = .ok (.aload_n 0, 1) := by decide +kernel
theorem dX2_search_115 : decode cX2_search 115 = .ok (.getfield 54, 3) := by decide +kernel
theorem dX2_search_118 : decode cX2_search 118 = .ok (.bipush 6, 2) := by decide +kernel
theorem dX2_search_120 : decode cX2_search 120 = .ok (.iload_n 1, 1) := by decide +kernel
theorem dX2_search_121 : decode cX2_search 121 = .ok (.imul, 1) := by decide +kernel
theorem dX2_search_122 : decode cX2_search 122 = .ok (.iload_n 2, 1) := by decide +kernel
theorem dX2_search_123 : decode cX2_search 123 = .ok (.iadd, 1) := by decide +kernel
theorem dX2_search_124 : decode cX2_search 124 = .ok (.iload_n 3, 1) := by decide +kernel
theorem dX2_search_125 : decode cX2_search 125 = .ok (.iastore, 1) := by decide +kernel
theorem dX2_search_126 : decode cX2_search 126 = .ok (.aload_n 0, 1) := by decide +kernel
theorem dX2_search_127 : decode cX2_search 127 = .ok (.getfield 41, 3) := by decide +kernel
theorem dX2_search_130 : decode cX2_search 130 = .ok (.iload_n 1, 1) := by decide +kernel
theorem dX2_search_131 : decode cX2_search 131 = .ok (.iaload, 1) := by decide +kernel
theorem dX2_search_132 : decode cX2_search 132 = .ok (.ireturn, 1) := by decide +kernel
theorem dX2_owes_0 : decode cX2_owes 0 = .ok (.iconst 0, 1) := by decide +kernel
theorem dX2_owes_1 : decode cX2_owes 1 = .ok (.istore_n 2, 1) := by decide +kernel
theorem dX2_owes_2 : decode cX2_owes 2 = .ok (.iconst 0, 1) := by decide +kernel
theorem dX2_owes_3 : decode cX2_owes 3 = .ok (.istore_n 3, 1) := by decide +kernel
theorem dX2_owes_4 : decode cX2_owes 4 = .ok (.iload_n 3, 1) := by decide +kernel
theorem dX2_owes_5 : decode cX2_owes 5 = .ok (.bipush 6, 2) := by decide +kernel
theorem dX2_owes_7 : decode cX2_owes 7 = .ok (.if_icmp .ge 30, 3) := by decide +kernel
theorem dX2_owes_10 : decode cX2_owes 10 = .ok (.iload_n 2, 1) := by decide +kernel
theorem dX2_owes_11 : decode cX2_owes 11 = .ok (.aload_n 0, 1) := by decide +kernel
theorem dX2_owes_12 : decode cX2_owes 12 = .ok (.getfield 54, 3) := by decide +kernel
theorem dX2_owes_15 : decode cX2_owes 15 = .ok (.bipush 6, 2) := by decide +kernel
theorem dX2_owes_17 : decode cX2_owes 17 = .ok (.iload_n 1, 1) := by decide +kernel
theorem dX2_owes_18 : decode cX2_owes 18 = .ok (.imul, 1) := by decide +kernel
theorem dX2_owes_19 : decode cX2_owes 19 = .ok (.iload_n 3, 1) := by decide +kernel
theorem dX2_owes_20 : decode cX2_owes 20 = .ok (.iadd, 1) := by decide +kernel
theorem dX2_owes_21 : decode cX2_owes 21 = .ok (.iaload, 1) := by decide +kernel
theorem dX2_owes_22 : decode cX2_owes 22 = .ok (.aload_n 0, 1) := by decide +kernel
theorem dX2_owes_23 : decode cX2_owes 23 = .ok (.getfield 7, 3) := by decide +kernel
theorem dX2_owes_26 : decode cX2_owes 26 = .ok (.iload_n 3, 1) := by decide +kernel
theorem dX2_owes_27 : decode cX2_owes 27 = .ok (.iaload, 1) := by decide +kernel
theorem dX2_owes_28 : decode cX2_owes 28 = .ok (.imul, 1) := by decide +kernel
theorem dX2_owes_29 : decode cX2_owes 29 = .ok (.iadd, 1) := by decide +kernel
theorem dX2_owes_30 : decode cX2_owes 30 = .ok (.istore_n 2, 1) := by decide +kernel
theorem dX2_owes_31 : decode cX2_owes 31 = .ok (.iinc 3 1, 3) := by decide +kernel
theorem dX2_owes_34 : decode cX2_owes 34 = .ok (.goto (-30), 3) := by decide +kernel
theorem dX2_owes_37 : decode cX2_owes 37 = .ok (.iload_n 2, 1) := by decide +kernel
theorem dX2_owes_38 : decode cX2_owes 38 = .ok (.ireturn, 1) := by decide +kernel
theorem dX2_bond_0 : decode cX2_bond 0 = .ok (.aload_n 0, 1) := by decide +kernel
theorem dX2_bond_1 : decode cX2_bond 1 = .ok (.iload_n 1, 1) := by decide +kernel
theorem dX2_bond_2 : decode cX2_bond 2 = .ok (.invokevirtual 90, 3) := by decide +kernel
theorem dX2_bond_5 : decode cX2_bond 5 = .ok (.istore_n 3, 1) := by decide +kernel
theorem dX2_bond_6 : decode cX2_bond 6 = .ok (.iload_n 3, 1) := by decide +kernel
theorem dX2_bond_7 : decode cX2_bond 7 = .ok (.ifCond .eq 12, 3) := by decide +kernel
theorem dX2_bond_10 : decode cX2_bond 10 = .ok (.aload_n 0, 1) := by decide +kernel
theorem dX2_bond_11 : decode cX2_bond 11 = .ok (.getfield 29, 3) := by decide +kernel
theorem dX2_bond_14 : decode cX2_bond 14 = .ok (.iload_n 1, 1) := by decide +kernel
theorem dX2_bond_15 : decode cX2_bond 15 = .ok (.iaload, 1) := by decide +kernel
theorem dX2_bond_16 : decode cX2_bond 16 = .ok (.goto 4, 3) := by decide +kernel
theorem dX2_bond_19 : decode cX2_bond 19 = .ok (.iconst 0, 1) := by decide +kernel
theorem dX2_bond_20 : decode cX2_bond 20 = .ok (.istore 4, 2) := by decide +kernel
theorem dX2_bond_22 : decode cX2_bond 22 = .ok (.iload_n 3, 1) := by decide +kernel
theorem dX2_bond_23 : decode cX2_bond 23 = .ok (.ifCond .eq 48, 3) := by decide +kernel
theorem dX2_bond_26 : decode cX2_bond 26 = .ok (.aload_n 0, 1) := by decide +kernel
theorem dX2_bond_27 : decode cX2_bond 27 = .ok (.getfield 35, 3) := by decide +kernel
theorem dX2_bond_30 : decode cX2_bond 30 = .ok (.iload_n 1, 1) := by decide +kernel
theorem dX2_bond_31 : decode cX2_bond 31 = .ok (.iaload, 1) := by decide +kernel
theorem dX2_bond_32 : decode cX2_bond 32 = .ok (.iconst 1, 1) := by decide +kernel
theorem dX2_bond_33 : decode cX2_bond 33 = .ok (.if_icmp .ne 38, 3) := by decide +kernel
theorem dX2_bond_36 : decode cX2_bond 36 = .ok (.aload_n 0, 1) := by decide +kernel
theorem dX2_bond_37 : decode cX2_bond 37 = .ok (.iload_n 1, 1) := by decide +kernel
theorem dX2_bond_38 : decode cX2_bond 38 = .ok (.invokevirtual 83, 3) := by decide +kernel
theorem dX2_bond_41 : decode cX2_bond 41 = .ok (.ifCond .ne 30, 3) := by decide +kernel
theorem dX2_bond_44 : decode cX2_bond 44 = .ok (.aload_n 0, 1) := by decide +kernel
theorem dX2_bond_45 : decode cX2_bond 45 = .ok (.getfield 23, 3) := by decide +kernel
theorem dX2_bond_48 : decode cX2_bond 48 = .ok (.iload 4, 2) := by decide +kernel
theorem dX2_bond_50 : decode cX2_bond 50 = .ok (.iaload, 1) := by decide +kernel
theorem dX2_bond_51 : decode cX2_bond 51 = .ok (.aload_n 0, 1) := by decide +kernel
theorem dX2_bond_52 : decode cX2_bond 52 = .ok (.iload_n 1, 1) := by decide +kernel
theorem dX2_bond_53 : decode cX2_bond 53 = .ok (.invokevirtual 103, 3) := by decide +kernel
theorem dX2_bond_56 : decode cX2_bond 56 = .ok (.iadd, 1) := by decide +kernel
theorem dX2_bond_57 : decode cX2_bond 57 = .ok (.aload_n 0, 1) := by decide +kernel
theorem dX2_bond_58 : decode cX2_bond 58 = .ok (.getfield 20, 3) := by decide +kernel
theorem dX2_bond_61 : decode cX2_bond 61 = .ok (.iload 4, 2) := by decide +kernel
theorem dX2_bond_63 : decode cX2_bond 63 = .ok (.iaload, 1) := by decide +kernel
theorem dX2_bond_64 : decode cX2_bond 64 = .ok (.if_icmp .gt 7, 3) := by decide +kernel
theorem dX2_bond_67 : decode cX2_bond 67 = .ok (.iconst 1, 1) := by decide +kernel
theorem dX2_bond_68 : decode cX2_bond 68 = .ok (.goto 4, 3) := by decide +kernel
theorem dX2_bond_71 : decode cX2_bond 71 = .ok (.iconst 0, 1) := by decide +kernel
theorem dX2_bond_72 : decode cX2_bond 72 = .ok (.istore 5, 2) := by decide +kernel
theorem dX2_bond_74 : decode cX2_bond 74 = .ok (.aload_n 0, 1) := by decide +kernel
theorem dX2_bond_75 : decode cX2_bond 75 = .ok (.iload_n 3, 1) := by decide +kernel
theorem dX2_bond_76 : decode cX2_bond 76 = .ok (.ifCond .ne 7, 3) := by decide +kernel
theorem dX2_bond_79 : decode cX2_bond 79 = .ok (.iconst 1, 1) := by decide +kernel
theorem dX2_bond_80 : decode cX2_bond 80 = .ok (.goto 24, 3) := by decide +kernel
theorem dX2_bond_83 : decode cX2_bond 83 = .ok (.iload_n 2, 1) := by decide +kernel
theorem dX2_bond_84 : decode cX2_bond 84 = .ok (.invokestatic 106, 3) := by decide +kernel
theorem dX2_bond_87 : decode cX2_bond 87 = .ok (.ifCond .ne 7, 3) := by decide +kernel
theorem dX2_bond_90 : decode cX2_bond 90 = .ok (.iconst 2, 1) := by decide +kernel
theorem dX2_bond_91 : decode cX2_bond 91 = .ok (.goto 13, 3) := by decide +kernel
theorem dX2_bond_94 : decode cX2_bond 94 = .ok (.iload 5, 2) := by decide +kernel
theorem dX2_bond_96 : decode cX2_bond 96 = .ok (.ifCond .ne 7, 3) := by decide +kernel
theorem dX2_bond_99 : decode cX2_bond 99 = .ok (.iconst 3, 1) := by decide +kernel
theorem dX2_bond_100 : decode cX2_bond 100 = .ok (.goto 4, 3) := by decide +kernel
theorem dX2_bond_103 : decode cX2_bond 103 = .ok (.iconst 0, 1) := by decide +kernel
theorem dX2_bond_104 : decode cX2_bond 104 = .ok (.invokevirtual 77, 3) := by decide +kernel
theorem dX2_bond_107 : decode cX2_bond 107 = .ok (.ifCond .ne 5, 3) := by decide +kernel
theorem dX2_bond_110 : decode cX2_bond 110 = .ok (.iconst 0, 1) := by decide +kernel
theorem dX2_bond_111 : decode cX2_bond 111 = .ok (.ireturn, 1) := by decide +kernel
theorem dX2_bond_112 : decode cX2_bond 112 = .ok (.aload_n 0, 1) := by decide +kernel
theorem dX2_bond_113 : decode cX2_bond 113 = .ok (.getfield 35, 3) := by decide +kernel
theorem dX2_bond_116 : decode cX2_bond 116 = .ok (.iload_n 1, 1) := by decide +kernel
theorem dX2_bond_117 : decode cX2_bond 117 = .ok (.aload_n 0, 1) := by decide +kernel
theorem dX2_bond_118 : decode cX2_bond 118 = .ok (.iload_n 1, 1) := by decide +kernel
theorem dX2_bond_119 : decode cX2_bond 119 = .ok (.invokevirtual 93, 3) := by decide +kernel
theorem dX2_bond_122 : decode cX2_bond 122 = .ok (.ifCond .eq 7, 3) := by decide +kernel
theorem dX2_bond_125 : decode cX2_bond 125 = .ok (.iconst 3, 1) := by decide +kernel
theorem dX2_bond_126 : decode cX2_bond 126 = .ok (.goto 4, 3) := by decide +kernel
theorem dX2_bond_129 : decode cX2_bond 129 = .ok (.iconst 2, 1) := by decide +kernel
theorem dX2_bond_130 : decode cX2_bond 130 = .ok (.iastore, 1) := by decide +kernel
theorem dX2_bond_131 : decode cX2_bond 131 = .ok (.iconst 0, 1) := by decide +kernel
theorem dX2_bond_132 : decode cX2_bond 132 = .ok (.istore 6, 2) := by decide +kernel
theorem dX2_bond_134 : decode cX2_bond 134 = .ok (.iload 6, 2) := by decide +kernel
theorem dX2_bond_136 : decode cX2_bond 136 = .ok (.bipush 6, 2) := by decide +kernel
theorem dX2_bond_138 : decode cX2_bond 138 = .ok (.if_icmp .ge 52, 3) := by decide +kernel
theorem dX2_bond_141 : decode cX2_bond 141 = .ok (.aload_n 0, 1) := by decide +kernel
theorem dX2_bond_142 : decode cX2_bond 142 = .ok (.getfield 57, 3) := by decide +kernel
theorem dX2_bond_145 : decode cX2_bond 145 = .ok (.bipush 6, 2) := by decide +kernel
theorem dX2_bond_147 : decode cX2_bond 147 = .ok (.iload_n 1, 1) := by decide +kernel
theorem dX2_bond_148 : decode cX2_bond 148 = .ok (.imul, 1) := by decide +kernel
theorem dX2_bond_149 : decode cX2_bond 149 = .ok (.iload 6, 2) := by decide +kernel
theorem dX2_bond_151 : decode cX2_bond 151 = .ok (.iadd, 1) := by decide +kernel
theorem dX2_bond_152 : decode cX2_bond 152 = .ok (.aload_n 0, 1) := by decide +kernel
theorem dX2_bond_153 : decode cX2_bond 153 = .ok (.getfield 7, 3) := by decide +kernel
theorem dX2_bond_156 : decode cX2_bond 156 = .ok (.iload 6, 2) := by decide +kernel
theorem dX2_bond_158 : decode cX2_bond 158 = .ok (.iaload, 1) := by decide +kernel
theorem dX2_bond_159 : decode cX2_bond 159 = .ok (.iastore, 1) := by decide +kernel
theorem dX2_bond_160 : decode cX2_bond 160 = .ok (.aload_n 0, 1) := by decide +kernel
theorem dX2_bond_161 : decode cX2_bond 161 = .ok (.getfield 60, 3) := by decide +kernel
theorem dX2_bond_164 : decode cX2_bond 164 = .ok (.iload_n 1, 1) := by decide +kernel
theorem dX2_bond_165 : decode cX2_bond 165 = .ok (.iload 6, 2) := by decide +kernel
theorem dX2_bond_167 : decode cX2_bond 167 = .ok (.iload_n 2, 1) := by decide +kernel
theorem dX2_bond_168 : decode cX2_bond 168 = .ok (.invokestatic 109, 3) := by decide +kernel
theorem dX2_bond_171 : decode cX2_bond 171 = .ok (.aload_n 0, 1) := by decide +kernel
theorem dX2_bond_172 : decode cX2_bond 172 = .ok (.getfield 54, 3) := by decide +kernel
theorem dX2_bond_175 : decode cX2_bond 175 = .ok (.bipush 6, 2) := by decide +kernel
theorem dX2_bond_177 : decode cX2_bond 177 = .ok (.iload_n 1, 1) := by decide +kernel
theorem dX2_bond_178 : decode cX2_bond 178 = .ok (.imul, 1) := by decide +kernel
theorem dX2_bond_179 : decode cX2_bond 179 = .ok (.iload 6, 2) := by decide +kernel
theorem dX2_bond_181 : decode cX2_bond 181 = .ok (.iadd, 1) := by decide +kernel
theorem dX2_bond_182 : decode cX2_bond 182 = .ok (.iaload, 1) := by decide +kernel
theorem dX2_bond_183 : decode cX2_bond 183 = .ok (.iastore, 1) := by decide +kernel
theorem dX2_bond_184 : decode cX2_bond 184 = .ok (.iinc 6 1, 3) := by decide +kernel
theorem dX2_bond_187 : decode cX2_bond 187 = .ok (.goto (-53), 3) := by decide +kernel
theorem dX2_bond_190 : decode cX2_bond 190 = .ok (.aload_n 0, 1) := by decide +kernel
theorem dX2_bond_191 : decode cX2_bond 191 = .ok (.getfield 23, 3) := by decide +kernel
theorem dX2_bond_194 : decode cX2_bond 194 = .ok (.iload 4, 2) := by decide +kernel
theorem dX2_bond_196 : decode cX2_bond 196 = .ok (.dup2, 1) := by decide +kernel
theorem dX2_bond_197 : decode cX2_bond 197 = .ok (.iaload, 1) := by decide +kernel
theorem dX2_bond_198 : decode cX2_bond 198 = .ok (.aload_n 0, 1) := by decide +kernel
theorem dX2_bond_199 : decode cX2_bond 199 = .ok (.iload_n 1, 1) := by decide +kernel
theorem dX2_bond_200 : decode cX2_bond 200 = .ok (.invokevirtual 103, 3) := by decide +kernel
theorem dX2_bond_203 : decode cX2_bond 203 = .ok (.iadd, 1) := by decide +kernel
theorem dX2_bond_204 : decode cX2_bond 204 = .ok (.iastore, 1) := by decide +kernel
theorem dX2_bond_205 : decode cX2_bond 205 = .ok (.aload_n 0, 1) := by decide +kernel
theorem dX2_bond_206 : decode cX2_bond 206 = .ok (.iload_n 1, 1) := by decide +kernel
theorem dX2_bond_207 : decode cX2_bond 207 = .ok (.invokevirtual 103, 3) := by decide +kernel
theorem dX2_bond_210 : decode cX2_bond 210 = .ok (.ireturn, 1) := by decide +kernel
theorem dX2_isGoods_0 : decode cX2_isGoods 0 = .ok (.iload_n 0, 1) := by decide +kernel
theorem dX2_isGoods_1 : decode cX2_isGoods 1 = .ok (.invokestatic 73, 3) := by decide +kernel
theorem dX2_isGoods_4 : decode cX2_isGoods 4 = .ok (.ifCond .eq 24, 3) := by decide +kernel
theorem dX2_isGoods_7 : decode cX2_isGoods 7 = .ok (.iload_n 1, 1) := by decide +kernel
theorem dX2_isGoods_8 : decode cX2_isGoods 8 = .ok (.invokestatic 106, 3) := by decide +kernel
theorem dX2_isGoods_11 : decode cX2_isGoods 11 = .ok (.ifCond .eq 17, 3) := by decide +kernel
theorem dX2_isGoods_14 : decode cX2_isGoods 14 = .ok (.iload_n 2, 1) := by decide +kernel
theorem dX2_isGoods_15 : decode cX2_isGoods 15 = .ok (.iconst 1, 1) := by decide +kernel
theorem dX2_isGoods_16 : decode cX2_isGoods 16 = .ok (.bipush 100, 2) := by decide +kernel
theorem dX2_isGoods_18 : decode cX2_isGoods 18 = .ok (.invokestatic 66, 3) := by decide +kernel
theorem dX2_isGoods_21 : decode cX2_isGoods 21 = .ok (.ifCond .eq 7, 3) := by decide +kernel
theorem dX2_isGoods_24 : decode cX2_isGoods 24 = .ok (.iconst 1, 1) := by decide +kernel
theorem dX2_isGoods_25 : decode cX2_isGoods 25 = .ok (.goto 4, 3) := by decide +kernel
theorem dX2_isGoods_28 : decode cX2_isGoods 28 = .ok (.iconst 0, 1) := by decide +kernel
theorem dX2_isGoods_29 : decode cX2_isGoods 29 = .ok (.ireturn, 1) := by decide +kernel
theorem dX2_move_0 : decode cX2_move 0 = .ok (.aload_n 0, 1) := by decide +kernel
theorem dX2_move_1 : decode cX2_move 1 = .ok (.iload_n 1, 1) := by decide +kernel
theorem dX2_move_2 : decode cX2_move 2 = .ok (.invokevirtual 90, 3) := by decide +kernel
theorem dX2_move_5 : decode cX2_move 5 = .ok (.istore 6, 2) := by decide +kernel
theorem dX2_move_7 : decode cX2_move 7 = .ok (.iload_n 2, 1) := by decide +kernel
theorem dX2_move_8 : decode cX2_move 8 = .ok (.iload_n 3, 1) := by decide +kernel
theorem dX2_move_9 : decode cX2_move 9 = .ok (.iload 5, 2) := by decide +kernel
theorem dX2_move_11 : decode cX2_move 11 = .ok (.invokestatic 113, 3) := by decide +kernel
theorem dX2_move_14 : decode cX2_move 14 = .ok (.ifCond .eq 21, 3) := by decide +kernel
theorem dX2_move_17 : decode cX2_move 17 = .ok (.iload 4, 2) := by decide +kernel
theorem dX2_move_19 : decode cX2_move 19 = .ok (.invokestatic 106, 3) := by decide +kernel
theorem dX2_move_22 : decode cX2_move 22 = .ok (.ifCond .eq 13, 3) := by decide +kernel
theorem dX2_move_25 : decode cX2_move 25 = .ok (.iload_n 3, 1) := by decide +kernel
theorem dX2_move_26 : decode cX2_move 26 = .ok (.iload 4, 2) := by decide +kernel
theorem dX2_move_28 : decode cX2_move 28 = .ok (.if_icmp .eq 7, 3) := by decide +kernel
theorem dX2_move_31 : decode cX2_move 31 = .ok (.iconst 1, 1) := by decide +kernel
theorem dX2_move_32 : decode cX2_move 32 = .ok (.goto 4, 3) := by decide +kernel
theorem dX2_move_35 : decode cX2_move 35 = .ok (.iconst 0, 1) := by decide +kernel
theorem dX2_move_36 : decode cX2_move 36 = .ok (.istore 7, 2) := by decide +kernel
theorem dX2_move_38 : decode cX2_move 38 = .ok (.aload_n 0, 1) := by decide +kernel
theorem dX2_move_39 : decode cX2_move 39 = .ok (.iload 6, 2) := by decide +kernel
theorem dX2_move_41 : decode cX2_move 41 = .ok (.ifCond .ne 7, 3) := by decide +kernel
theorem dX2_move_44 : decode cX2_move 44 = .ok (.iconst 1, 1) := by decide +kernel
theorem dX2_move_45 : decode cX2_move 45 = .ok (.goto 33, 3) := by decide +kernel
theorem dX2_move_48 : decode cX2_move 48 = .ok (.iload 7, 2) := by decide +kernel
theorem dX2_move_50 : decode cX2_move 50 = .ok (.ifCond .ne 7, 3) := by decide +kernel
theorem dX2_move_53 : decode cX2_move 53 = .ok (.iconst 2, 1) := by decide +kernel
theorem dX2_move_54 : decode cX2_move 54 = .ok (.goto 24, 3) := by decide +kernel
theorem dX2_move_57 : decode cX2_move 57 = .ok (.aload_n 0, 1) := by decide +kernel
theorem dX2_move_58 : decode cX2_move 58 = .ok (.getfield 60, 3) := by decide +kernel
theorem dX2_move_61 : decode cX2_move 61 = .ok (.iload_n 1, 1) := by decide +kernel
theorem dX2_move_62 : decode cX2_move 62 = .ok (.iload_n 2, 1) := by decide +kernel
theorem dX2_move_63 : decode cX2_move 63 = .ok (.iload_n 3, 1) := by decide +kernel
theorem dX2_move_64 : decode cX2_move 64 = .ok (.invokestatic 109, 3) := by decide +kernel
theorem dX2_move_67 : decode cX2_move 67 = .ok (.iaload, 1) := by decide +kernel
theorem dX2_move_68 : decode cX2_move 68 = .ok (.iload 5, 2) := by decide +kernel
theorem dX2_move_70 : decode cX2_move 70 = .ok (.if_icmp .ge 7, 3) := by decide +kernel
theorem dX2_move_73 : decode cX2_move 73 = .ok (.iconst 3, 1) := by decide +kernel
theorem dX2_move_74 : decode cX2_move 74 = .ok (.goto 4, 3) := by decide +kernel
theorem dX2_move_77 : decode cX2_move 77 = .ok (.iconst 0, 1) := by decide +kernel
theorem dX2_move_78 : decode cX2_move 78 = .ok (.invokevirtual 77, 3) := by decide +kernel
theorem dX2_move_81 : decode cX2_move 81 = .ok (.ifCond .ne 5, 3) := by decide +kernel
theorem dX2_move_84 : decode cX2_move 84 = .ok (.iconst 0, 1) := by decide +kernel
theorem dX2_move_85 : decode cX2_move 85 = .ok (.ireturn, 1) := by decide +kernel
theorem dX2_move_86 : decode cX2_move 86 = .ok (.aload_n 0, 1) := by decide +kernel
theorem dX2_move_87 : decode cX2_move 87 = .ok (.getfield 60, 3) := by decide +kernel
theorem dX2_move_90 : decode cX2_move 90 = .ok (.iload_n 1, 1) := by decide +kernel
theorem dX2_move_91 : decode cX2_move 91 = .ok (.iload_n 2, 1) := by decide +kernel
theorem dX2_move_92 : decode cX2_move 92 = .ok (.iload_n 3, 1) := by decide +kernel
theorem dX2_move_93 : decode cX2_move 93 = .ok (.invokestatic 109, 3) := by decide +kernel
theorem dX2_move_96 : decode cX2_move 96 = .ok (.dup2, 1) := by decide +kernel
theorem dX2_move_97 : decode cX2_move 97 = .ok (.iaload, 1) := by decide +kernel
theorem dX2_move_98 : decode cX2_move 98 = .ok (.iload 5, 2) := by decide +kernel
theorem dX2_move_100 : decode cX2_move 100 = .ok (.isub, 1) := by decide +kernel
theorem dX2_move_101 : decode cX2_move 101 = .ok (.iastore, 1) := by decide +kernel
theorem dX2_move_102 : decode cX2_move 102 = .ok (.aload_n 0, 1) := by decide +kernel
theorem dX2_move_103 : decode cX2_move 103 = .ok (.getfield 60, 3) := by decide +kernel
theorem dX2_move_106 : decode cX2_move 106 = .ok (.iload_n 1, 1) := by decide +kernel
theorem dX2_move_107 : decode cX2_move 107 = .ok (.iload_n 2, 1) := by decide +kernel
theorem dX2_move_108 : decode cX2_move 108 = .ok (.iload 4, 2) := by decide +kernel
theorem dX2_move_110 : decode cX2_move 110 = .ok (.invokestatic 109, 3) := by decide +kernel
theorem dX2_move_113 : decode cX2_move 113 = .ok (.dup2, 1) := by decide +kernel
theorem dX2_move_114 : decode cX2_move 114 = .ok (.iaload, 1) := by decide +kernel
theorem dX2_move_115 : decode cX2_move 115 = .ok (.iload 5, 2) := by decide +kernel
theorem dX2_move_117 : decode cX2_move 117 = .ok (.iadd, 1) := by decide +kernel
theorem dX2_move_118 : decode cX2_move 118 = .ok (.iastore, 1) := by decide +kernel
theorem dX2_move_119 : decode cX2_move 119 = .ok (.aload_n 0, 1) := by decide +kernel
theorem dX2_move_120 : decode cX2_move 120 = .ok (.getfield 60, 3) := by decide +kernel
theorem dX2_move_123 : decode cX2_move 123 = .ok (.iload_n 1, 1) := by decide +kernel
theorem dX2_move_124 : decode cX2_move 124 = .ok (.iload_n 2, 1) := by decide +kernel
theorem dX2_move_125 : decode cX2_move 125 = .ok (.iload 4, 2) := by decide +kernel
theorem dX2_move_127 : decode cX2_move 127 = .ok (.invokestatic 109, 3) := by decide +kernel
theorem dX2_move_130 : decode cX2_move 130 = .ok (.iaload, 1) := by decide +kernel
theorem dX2_move_131 : decode cX2_move 131 = .ok (.ireturn, 1) := by decide +kernel
theorem dX2_whyNot_0 : decode cX2_whyNot 0 = .ok (.aload_n 0, 1) := by decide +kernel
theorem dX2_whyNot_1 : decode cX2_whyNot 1 = .ok (.iload_n 1, 1) := by decide +kernel
theorem dX2_whyNot_2 : decode cX2_whyNot 2 = .ok (.invokevirtual 90, 3) := by decide +kernel
theorem dX2_whyNot_5 : decode cX2_whyNot 5 = .ok (.ifCond .ne 5, 3) := by decide +kernel
theorem dX2_whyNot_8 : decode cX2_whyNot 8 = .ok (.iconst 1, 1) := by decide +kernel
theorem dX2_whyNot_9 : decode cX2_whyNot 9 = .ok (.ireturn, 1) := by decide +kernel
theorem dX2_whyNot_10 : decode cX2_whyNot 10 = .ok (.iload_n 2, 1) := by decide +kernel
theorem dX2_whyNot_11 : decode cX2_whyNot 11 = .ok (.iload_n 3, 1) := by decide +kernel
theorem dX2_whyNot_12 : decode cX2_whyNot 12 = .ok (.iload 4, 2) := by decide +kernel
theorem dX2_whyNot_14 : decode cX2_whyNot 14 = .ok (.invokestatic 113, 3) := by decide +kernel
theorem dX2_whyNot_17 : decode cX2_whyNot 17 = .ok (.ifCond .ne 7, 3) := by decide +kernel
theorem dX2_whyNot_20 : decode cX2_whyNot 20 = .ok (.iconst 2, 1) := by decide +kernel
theorem dX2_whyNot_21 : decode cX2_whyNot 21 = .ok (.goto 24, 3) := by decide +kernel
theorem dX2_whyNot_24 : decode cX2_whyNot 24 = .ok (.aload_n 0, 1) := by decide +kernel
theorem dX2_whyNot_25 : decode cX2_whyNot 25 = .ok (.getfield 60, 3) := by decide +kernel
theorem dX2_whyNot_28 : decode cX2_whyNot 28 = .ok (.iload_n 1, 1) := by decide +kernel
theorem dX2_whyNot_29 : decode cX2_whyNot 29 = .ok (.iload_n 2, 1) := by decide +kernel
theorem dX2_whyNot_30 : decode cX2_whyNot 30 = .ok (.iload_n 3, 1) := by decide +kernel
theorem dX2_whyNot_31 : decode cX2_whyNot 31 = .ok (.invokestatic 109, 3) := by decide +kernel
theorem dX2_whyNot_34 : decode cX2_whyNot 34 = .ok (.iaload, 1) := by decide +kernel
theorem dX2_whyNot_35 : decode cX2_whyNot 35 = .ok (.iload 4, 2) := by decide +kernel
theorem dX2_whyNot_37 : decode cX2_whyNot 37 = .ok (.if_icmp .ge 7, 3) := by decide +kernel
theorem dX2_whyNot_40 : decode cX2_whyNot 40 = .ok (.iconst 3, 1) := by decide +kernel
theorem dX2_whyNot_41 : decode cX2_whyNot 41 = .ok (.goto 4, 3) := by decide +kernel
theorem dX2_whyNot_44 : decode cX2_whyNot 44 = .ok (.iconst 0, 1) := by decide +kernel
theorem dX2_whyNot_45 : decode cX2_whyNot 45 = .ok (.ireturn, 1) := by decide +kernel
theorem dX2_leaves_0 : decode cX2_leaves 0 = .ok (.aload_n 0, 1) := by decide +kernel
theorem dX2_leaves_1 : decode cX2_leaves 1 = .ok (.getfield 60, 3) := by decide +kernel
theorem dX2_leaves_4 : decode cX2_leaves 4 = .ok (.iload_n 1, 1) := by decide +kernel
theorem dX2_leaves_5 : decode cX2_leaves 5 = .ok (.iload_n 2, 1) := by decide +kernel
theorem dX2_leaves_6 : decode cX2_leaves 6 = .ok (.iload_n 3, 1) := by decide +kernel
theorem dX2_leaves_7 : decode cX2_leaves 7 = .ok (.invokestatic 109, 3) := by decide +kernel
theorem dX2_leaves_10 : decode cX2_leaves 10 = .ok (.dup2, 1) := by decide +kernel
theorem dX2_leaves_11 : decode cX2_leaves 11 = .ok (.iaload, 1) := by decide +kernel
theorem dX2_leaves_12 : decode cX2_leaves 12 = .ok (.iload 4, 2) := by decide +kernel
theorem dX2_leaves_14 : decode cX2_leaves 14 = .ok (.isub, 1) := by decide +kernel
theorem dX2_leaves_15 : decode cX2_leaves 15 = .ok (.iastore, 1) := by decide +kernel
theorem dX2_leaves_16 : decode cX2_leaves 16 = .ok (.iload 4, 2) := by decide +kernel
theorem dX2_leaves_18 : decode cX2_leaves 18 = .ok (.aload_n 0, 1) := by decide +kernel
theorem dX2_leaves_19 : decode cX2_leaves 19 = .ok (.getfield 57, 3) := by decide +kernel
theorem dX2_leaves_22 : decode cX2_leaves 22 = .ok (.bipush 6, 2) := by decide +kernel
theorem dX2_leaves_24 : decode cX2_leaves 24 = .ok (.iload_n 1, 1) := by decide +kernel
theorem dX2_leaves_25 : decode cX2_leaves 25 = .ok (.imul, 1) := by decide +kernel
theorem dX2_leaves_26 : decode cX2_leaves 26 = .ok (.iload_n 2, 1) := by decide +kernel
theorem dX2_leaves_27 : decode cX2_leaves 27 = .ok (.iadd, 1) := by decide +kernel
theorem dX2_leaves_28 : decode cX2_leaves 28 = .ok (.iaload, 1) := by decide +kernel
theorem dX2_leaves_29 : decode cX2_leaves 29 = .ok (.imul, 1) := by decide +kernel
theorem dX2_leaves_30 : decode cX2_leaves 30 = .ok (.istore 5, 2) := by decide +kernel
theorem dX2_leaves_32 : decode cX2_leaves 32 = .ok (.aload_n 0, 1) := by decide +kernel
theorem dX2_leaves_33 : decode cX2_leaves 33 = .ok (.getfield 23, 3) := by decide +kernel
theorem dX2_leaves_36 : decode cX2_leaves 36 = .ok (.aload_n 0, 1) := by decide +kernel
theorem dX2_leaves_37 : decode cX2_leaves 37 = .ok (.getfield 29, 3) := by decide +kernel
theorem dX2_leaves_40 : decode cX2_leaves 40 = .ok (.iload_n 1, 1) := by decide +kernel
theorem dX2_leaves_41 : decode cX2_leaves 41 = .ok (.iaload, 1) := by decide +kernel
theorem dX2_leaves_42 : decode cX2_leaves 42 = .ok (.dup2, 1) := by decide +kernel
theorem dX2_leaves_43 : decode cX2_leaves 43 = .ok (.iaload, 1) := by decide +kernel
theorem dX2_leaves_44 : decode cX2_leaves 44 = .ok (.iload 5, 2) := by decide +kernel
theorem dX2_leaves_46 : decode cX2_leaves 46 = .ok (.isub, 1) := by decide +kernel
theorem dX2_leaves_47 : decode cX2_leaves 47 = .ok (.iastore, 1) := by decide +kernel
theorem dX2_leaves_48 : decode cX2_leaves 48 = .ok (.iconst 0, 1) := by decide +kernel
theorem dX2_leaves_49 : decode cX2_leaves 49 = .ok (.istore 6, 2) := by decide +kernel
theorem dX2_leaves_51 : decode cX2_leaves 51 = .ok (.iload_n 1, 1) := by decide +kernel
theorem dX2_leaves_52 : decode cX2_leaves 52 = .ok (.iconst 0, 1) := by decide +kernel
theorem dX2_leaves_53 : decode cX2_leaves 53 = .ok (.iconst 0, 1) := by decide +kernel
theorem dX2_leaves_54 : decode cX2_leaves 54 = .ok (.invokestatic 109, 3) := by decide +kernel
theorem dX2_leaves_57 : decode cX2_leaves 57 = .ok (.istore 7, 2) := by decide +kernel
theorem dX2_leaves_59 : decode cX2_leaves 59 = .ok (.iload 7, 2) := by decide +kernel
theorem dX2_leaves_61 : decode cX2_leaves 61 = .ok (.iload_n 1, 1) := by decide +kernel
theorem dX2_leaves_62 : decode cX2_leaves 62 = .ok (.iconst 1, 1) := by decide +kernel
theorem dX2_leaves_63 : decode cX2_leaves 63 = .ok (.iadd, 1) := by decide +kernel
theorem dX2_leaves_64 : decode cX2_leaves 64 = .ok (.iconst 0, 1) := by decide +kernel
theorem dX2_leaves_65 : decode cX2_leaves 65 = .ok (.iconst 0, 1) := by decide +kernel
theorem dX2_leaves_66 : decode cX2_leaves 66 = .ok (.invokestatic 109, 3) := by decide +kernel
theorem dX2_leaves_69 : decode cX2_leaves 69 = .ok (.if_icmp .ge 21, 3) := by decide +kernel
theorem dX2_leaves_72 : decode cX2_leaves 72 = .ok (.iload 6, 2) := by decide +kernel
theorem dX2_leaves_74 : decode cX2_leaves 74 = .ok (.aload_n 0, 1) := by decide +kernel
theorem dX2_leaves_75 : decode cX2_leaves 75 = .ok (.getfield 60, 3) := by decide +kernel
theorem dX2_leaves_78 : decode cX2_leaves 78 = .ok (.iload 7, 2) := by decide +kernel
theorem dX2_leaves_80 : decode cX2_leaves 80 = .ok (.iaload, 1) := by decide +kernel
theorem dX2_leaves_81 : decode cX2_leaves 81 = .ok (.iadd, 1) := by decide +kernel
theorem dX2_leaves_82 : decode cX2_leaves 82 = .ok (.istore 6, 2) := by decide +kernel
theorem dX2_leaves_84 : decode cX2_leaves 84 = .ok (.iinc 7 1, 3) := by decide +kernel
theorem dX2_leaves_87 : decode cX2_leaves 87 = .ok (.goto (-28), 3) := by decide +kernel
theorem dX2_leaves_90 : decode cX2_leaves 90 = .ok (.aload_n 0, 1) := by decide +kernel
theorem dX2_leaves_91 : decode cX2_leaves 91 = .ok (.getfield 35, 3) := by decide +kernel
theorem dX2_leaves_94 : decode cX2_leaves 94 = .ok (.iload_n 1, 1) := by decide +kernel
theorem dX2_leaves_95 : decode cX2_leaves 95 = .ok (.iload 6, 2) := by decide +kernel
theorem dX2_leaves_97 : decode cX2_leaves 97 = .ok (.ifCond .ne 7, 3) := by decide +kernel
theorem dX2_leaves_100 : decode cX2_leaves 100 = .ok (.iconst 3, 1) := by decide +kernel
theorem dX2_leaves_101 : decode cX2_leaves 101 = .ok (.goto 4, 3) := by decide +kernel
theorem dX2_leaves_104 : decode cX2_leaves 104 = .ok (.iconst 2, 1) := by decide +kernel
theorem dX2_leaves_105 : decode cX2_leaves 105 = .ok (.iastore, 1) := by decide +kernel
theorem dX2_leaves_106 : decode cX2_leaves 106 = .ok (.iload 5, 2) := by decide +kernel
theorem dX2_leaves_108 : decode cX2_leaves 108 = .ok (.ireturn, 1) := by decide +kernel
theorem dX2_free_0 : decode cX2_free 0 = .ok (.aload_n 0, 1) := by decide +kernel
theorem dX2_free_1 : decode cX2_free 1 = .ok (.aload_n 0, 1) := by decide +kernel
theorem dX2_free_2 : decode cX2_free 2 = .ok (.iload_n 1, 1) := by decide +kernel
theorem dX2_free_3 : decode cX2_free 3 = .ok (.iload_n 2, 1) := by decide +kernel
theorem dX2_free_4 : decode cX2_free 4 = .ok (.iload_n 3, 1) := by decide +kernel
theorem dX2_free_5 : decode cX2_free 5 = .ok (.iload 4, 2) := by decide +kernel
theorem dX2_free_7 : decode cX2_free 7 = .ok (.invokevirtual 116, 3) := by decide +kernel
theorem dX2_free_10 : decode cX2_free 10 = .ok (.invokevirtual 77, 3) := by decide +kernel
theorem dX2_free_13 : decode cX2_free 13 = .ok (.ifCond .ne 5, 3) := by decide +kernel
theorem dX2_free_16 : decode cX2_free 16 = .ok (.iconst 0, 1) := by decide +kernel
theorem dX2_free_17 : decode cX2_free 17 = .ok (.ireturn, 1) := by decide +kernel
theorem dX2_free_18 : decode cX2_free 18 = .ok (.aload_n 0, 1) := by decide +kernel
theorem dX2_free_19 : decode cX2_free 19 = .ok (.iload_n 1, 1) := by decide +kernel
theorem dX2_free_20 : decode cX2_free 20 = .ok (.iload_n 2, 1) := by decide +kernel
theorem dX2_free_21 : decode cX2_free 21 = .ok (.iload_n 3, 1) := by decide +kernel
theorem dX2_free_22 : decode cX2_free 22 = .ok (.iload 4, 2) := by decide +kernel
theorem dX2_free_24 : decode cX2_free 24 = .ok (.invokevirtual 120, 3) := by decide +kernel
theorem dX2_free_27 : decode cX2_free 27 = .ok (.istore 5, 2) := by decide +kernel
theorem dX2_free_29 : decode cX2_free 29 = .ok (.aload_n 0, 1) := by decide +kernel
theorem dX2_free_30 : decode cX2_free 30 = .ok (.getfield 26, 3) := by decide +kernel
theorem dX2_free_33 : decode cX2_free 33 = .ok (.aload_n 0, 1) := by decide +kernel
theorem dX2_free_34 : decode cX2_free 34 = .ok (.getfield 29, 3) := by decide +kernel
theorem dX2_free_37 : decode cX2_free 37 = .ok (.iload_n 1, 1) := by decide +kernel
theorem dX2_free_38 : decode cX2_free 38 = .ok (.iaload, 1) := by decide +kernel
theorem dX2_free_39 : decode cX2_free 39 = .ok (.dup2, 1) := by decide +kernel
theorem dX2_free_40 : decode cX2_free 40 = .ok (.iaload, 1) := by decide +kernel
theorem dX2_free_41 : decode cX2_free 41 = .ok (.iload 5, 2) := by decide +kernel
theorem dX2_free_43 : decode cX2_free 43 = .ok (.iadd, 1) := by decide +kernel
theorem dX2_free_44 : decode cX2_free 44 = .ok (.iastore, 1) := by decide +kernel
theorem dX2_free_45 : decode cX2_free 45 = .ok (.iload 5, 2) := by decide +kernel
theorem dX2_free_47 : decode cX2_free 47 = .ok (.ireturn, 1) := by decide +kernel
theorem dX2_sendBack_0 : decode cX2_sendBack 0 = .ok (.aload_n 0, 1) := by decide +kernel
theorem dX2_sendBack_1 : decode cX2_sendBack 1 = .ok (.aload_n 0, 1) := by decide +kernel
theorem dX2_sendBack_2 : decode cX2_sendBack 2 = .ok (.iload_n 1, 1) := by decide +kernel
theorem dX2_sendBack_3 : decode cX2_sendBack 3 = .ok (.iload_n 2, 1) := by decide +kernel
theorem dX2_sendBack_4 : decode cX2_sendBack 4 = .ok (.iload_n 3, 1) := by decide +kernel
theorem dX2_sendBack_5 : decode cX2_sendBack 5 = .ok (.iload 4, 2) := by decide +kernel
theorem dX2_sendBack_7 : decode cX2_sendBack 7 = .ok (.invokevirtual 116, 3) := by decide +kernel
theorem dX2_sendBack_10 : decode cX2_sendBack 10 = .ok (.invokevirtual 77, 3) := by decide +kernel
theorem dX2_sendBack_13 : decode cX2_sendBack 13 = .ok (.ifCond .eq 15, 3) := by decide +kernel
theorem dX2_sendBack_16 : decode cX2_sendBack 16 = .ok (.aload_n 0, 1) := by decide +kernel
theorem dX2_sendBack_17 : decode cX2_sendBack 17 = .ok (.iload_n 1, 1) := by decide +kernel
theorem dX2_sendBack_18 : decode cX2_sendBack 18 = .ok (.iload_n 2, 1) := by decide +kernel
theorem dX2_sendBack_19 : decode cX2_sendBack 19 = .ok (.iload_n 3, 1) := by decide +kernel
theorem dX2_sendBack_20 : decode cX2_sendBack 20 = .ok (.iload 4, 2) := by decide +kernel
theorem dX2_sendBack_22 : decode cX2_sendBack 22 = .ok (.invokevirtual 120, 3) := by decide +kernel
theorem dX2_sendBack_25 : decode cX2_sendBack 25 = .ok (.goto 4, 3) := by decide +kernel
theorem dX2_sendBack_28 : decode cX2_sendBack 28 = .ok (.iconst 0, 1) := by decide +kernel
theorem dX2_sendBack_29 : decode cX2_sendBack 29 = .ok (.ireturn, 1) := by decide +kernel
theorem dX2_state_0 : decode cX2_state 0 = .ok (.aload_n 0, 1) := by decide +kernel
theorem dX2_state_1 : decode cX2_state 1 = .ok (.aload_n 0, 1) := by decide +kernel
theorem dX2_state_2 : decode cX2_state 2 = .ok (.iload_n 1, 1) := by decide +kernel
theorem dX2_state_3 : decode cX2_state 3 = .ok (.invokevirtual 90, 3) := by decide +kernel
theorem dX2_state_6 : decode cX2_state 6 = .ok (.ifCond .eq 7, 3) := by decide +kernel
theorem dX2_state_9 : decode cX2_state 9 = .ok (.iconst 0, 1) := by decide +kernel
theorem dX2_state_10 : decode cX2_state 10 = .ok (.goto 4, 3) := by decide +kernel
theorem dX2_state_13 : decode cX2_state 13 = .ok (.iconst 1, 1) := by decide +kernel
theorem dX2_state_14 : decode cX2_state 14 = .ok (.invokevirtual 77, 3) := by decide +kernel
theorem dX2_state_17 : decode cX2_state 17 = .ok (.ifCond .eq 12, 3) := by decide +kernel
theorem dX2_state_20 : decode cX2_state 20 = .ok (.aload_n 0, 1) := by decide +kernel
theorem dX2_state_21 : decode cX2_state 21 = .ok (.getfield 35, 3) := by decide +kernel
theorem dX2_state_24 : decode cX2_state 24 = .ok (.iload_n 1, 1) := by decide +kernel
theorem dX2_state_25 : decode cX2_state 25 = .ok (.iaload, 1) := by decide +kernel
theorem dX2_state_26 : decode cX2_state 26 = .ok (.goto 4, 3) := by decide +kernel
theorem dX2_state_29 : decode cX2_state 29 = .ok (.iconst 0, 1) := by decide +kernel
theorem dX2_state_30 : decode cX2_state 30 = .ok (.ireturn, 1) := by decide +kernel
theorem dX2_manifest_0 : decode cX2_manifest 0 = .ok (.aload_n 0, 1) := by decide +kernel
theorem dX2_manifest_1 : decode cX2_manifest 1 = .ok (.iload_n 1, 1) := by decide +kernel
theorem dX2_manifest_2 : decode cX2_manifest 2 = .ok (.invokevirtual 90, 3) := by decide +kernel
theorem dX2_manifest_5 : decode cX2_manifest 5 = .ok (.istore_n 3, 1) := by decide +kernel
theorem dX2_manifest_6 : decode cX2_manifest 6 = .ok (.aload_n 0, 1) := by decide +kernel
theorem dX2_manifest_7 : decode cX2_manifest 7 = .ok (.iload_n 3, 1) := by decide +kernel
theorem dX2_manifest_8 : decode cX2_manifest 8 = .ok (.ifCond .ne 7, 3) := by decide +kernel
theorem dX2_manifest_11 : decode cX2_manifest 11 = .ok (.iconst 1, 1) := by decide +kernel
theorem dX2_manifest_12 : decode cX2_manifest 12 = .ok (.goto 15, 3) := by decide +kernel
theorem dX2_manifest_15 : decode cX2_manifest 15 = .ok (.iload_n 2, 1) := by decide +kernel
theorem dX2_manifest_16 : decode cX2_manifest 16 = .ok (.invokestatic 73, 3) := by decide +kernel
theorem dX2_manifest_19 : decode cX2_manifest 19 = .ok (.ifCond .ne 7, 3) := by decide +kernel
theorem dX2_manifest_22 : decode cX2_manifest 22 = .ok (.iconst 2, 1) := by decide +kernel
theorem dX2_manifest_23 : decode cX2_manifest 23 = .ok (.goto 4, 3) := by decide +kernel
theorem dX2_manifest_26 : decode cX2_manifest 26 = .ok (.iconst 0, 1) := by decide +kernel
theorem dX2_manifest_27 : decode cX2_manifest 27 = .ok (.invokevirtual 77, 3) := by decide +kernel
theorem dX2_manifest_30 : decode cX2_manifest 30 = .ok (.ifCond .eq 17, 3) := by decide +kernel
theorem dX2_manifest_33 : decode cX2_manifest 33 = .ok (.aload_n 0, 1) := by decide +kernel
theorem dX2_manifest_34 : decode cX2_manifest 34 = .ok (.getfield 54, 3) := by decide +kernel
theorem dX2_manifest_37 : decode cX2_manifest 37 = .ok (.bipush 6, 2) := by decide +kernel
theorem dX2_manifest_39 : decode cX2_manifest 39 = .ok (.iload_n 1, 1) := by decide +kernel
theorem dX2_manifest_40 : decode cX2_manifest 40 = .ok (.imul, 1) := by decide +kernel
theorem dX2_manifest_41 : decode cX2_manifest 41 = .ok (.iload_n 2, 1) := by decide +kernel
theorem dX2_manifest_42 : decode cX2_manifest 42 = .ok (.iadd, 1) := by decide +kernel
theorem dX2_manifest_43 : decode cX2_manifest 43 = .ok (.iaload, 1) := by decide +kernel
theorem dX2_manifest_44 : decode cX2_manifest 44 = .ok (.goto 4, 3) := by decide +kernel
theorem dX2_manifest_47 : decode cX2_manifest 47 = .ok (.iconst 0, 1) := by decide +kernel
theorem dX2_manifest_48 : decode cX2_manifest 48 = .ok (.ireturn, 1) := by decide +kernel
theorem dX2_stored_0 : decode cX2_stored 0 = .ok (.aload_n 0, 1) := by decide +kernel
theorem dX2_stored_1 : decode cX2_stored 1 = .ok (.iload_n 1, 1) := by decide +kernel
theorem dX2_stored_2 : decode cX2_stored 2 = .ok (.invokestatic 73, 3) := by decide +kernel
theorem dX2_stored_5 : decode cX2_stored 5 = .ok (.ifCond .eq 14, 3) := by decide +kernel
theorem dX2_stored_8 : decode cX2_stored 8 = .ok (.iload_n 2, 1) := by decide +kernel
theorem dX2_stored_9 : decode cX2_stored 9 = .ok (.invokestatic 106, 3) := by decide +kernel
theorem dX2_stored_12 : decode cX2_stored 12 = .ok (.ifCond .eq 7, 3) := by decide +kernel
theorem dX2_stored_15 : decode cX2_stored 15 = .ok (.iconst 0, 1) := by decide +kernel
theorem dX2_stored_16 : decode cX2_stored 16 = .ok (.goto 4, 3) := by decide +kernel
theorem dX2_stored_19 : decode cX2_stored 19 = .ok (.iconst 1, 1) := by decide +kernel
theorem dX2_stored_20 : decode cX2_stored 20 = .ok (.invokevirtual 77, 3) := by decide +kernel
theorem dX2_stored_23 : decode cX2_stored 23 = .ok (.ifCond .ne 5, 3) := by decide +kernel
theorem dX2_stored_26 : decode cX2_stored 26 = .ok (.iconst 0, 1) := by decide +kernel
theorem dX2_stored_27 : decode cX2_stored 27 = .ok (.ireturn, 1) := by decide +kernel
theorem dX2_stored_28 : decode cX2_stored 28 = .ok (.iconst 0, 1) := by decide +kernel
theorem dX2_stored_29 : decode cX2_stored 29 = .ok (.istore_n 3, 1) := by decide +kernel
theorem dX2_stored_30 : decode cX2_stored 30 = .ok (.iconst 0, 1) := by decide +kernel
theorem dX2_stored_31 : decode cX2_stored 31 = .ok (.istore 4, 2) := by decide +kernel
theorem dX2_stored_33 : decode cX2_stored 33 = .ok (.iload 4, 2) := by decide +kernel
theorem dX2_stored_35 : decode cX2_stored 35 = .ok (.aload_n 0, 1) := by decide +kernel
theorem dX2_stored_36 : decode cX2_stored 36 = .ok (.getfield 70, 3) := by decide +kernel
theorem dX2_stored_39 : decode cX2_stored 39 = .ok (.if_icmp .ge 24, 3) := by decide +kernel
theorem dX2_stored_42 : decode cX2_stored 42 = .ok (.iload_n 3, 1) := by decide +kernel
theorem dX2_stored_43 : decode cX2_stored 43 = .ok (.aload_n 0, 1) := by decide +kernel
theorem dX2_stored_44 : decode cX2_stored 44 = .ok (.getfield 60, 3) := by decide +kernel
theorem dX2_stored_47 : decode cX2_stored 47 = .ok (.iload 4, 2) := by decide +kernel
theorem dX2_stored_49 : decode cX2_stored 49 = .ok (.iload_n 1, 1) := by decide +kernel
theorem dX2_stored_50 : decode cX2_stored 50 = .ok (.iload_n 2, 1) := by decide +kernel
theorem dX2_stored_51 : decode cX2_stored 51 = .ok (.invokestatic 109, 3) := by decide +kernel
theorem dX2_stored_54 : decode cX2_stored 54 = .ok (.iaload, 1) := by decide +kernel
theorem dX2_stored_55 : decode cX2_stored 55 = .ok (.iadd, 1) := by decide +kernel
theorem dX2_stored_56 : decode cX2_stored 56 = .ok (.istore_n 3, 1) := by decide +kernel
theorem dX2_stored_57 : decode cX2_stored 57 = .ok (.iinc 4 1, 3) := by decide +kernel
theorem dX2_stored_60 : decode cX2_stored 60 = .ok (.goto (-27), 3) := by decide +kernel
theorem dX2_stored_63 : decode cX2_stored 63 = .ok (.iload_n 3, 1) := by decide +kernel
theorem dX2_stored_64 : decode cX2_stored 64 = .ok (.ireturn, 1) := by decide +kernel
theorem dX2_held_0 : decode cX2_held 0 = .ok (.aload_n 0, 1) := by decide +kernel
theorem dX2_held_1 : decode cX2_held 1 = .ok (.iload_n 1, 1) := by decide +kernel
theorem dX2_held_2 : decode cX2_held 2 = .ok (.invokestatic 86, 3) := by decide +kernel
theorem dX2_held_5 : decode cX2_held 5 = .ok (.ifCond .eq 7, 3) := by decide +kernel
theorem dX2_held_8 : decode cX2_held 8 = .ok (.iconst 0, 1) := by decide +kernel
theorem dX2_held_9 : decode cX2_held 9 = .ok (.goto 4, 3) := by decide +kernel
theorem dX2_held_12 : decode cX2_held 12 = .ok (.iconst 1, 1) := by decide +kernel
theorem dX2_held_13 : decode cX2_held 13 = .ok (.invokevirtual 77, 3) := by decide +kernel
theorem dX2_held_16 : decode cX2_held 16 = .ok (.ifCond .eq 12, 3) := by decide +kernel
theorem dX2_held_19 : decode cX2_held 19 = .ok (.aload_n 0, 1) := by decide +kernel
theorem dX2_held_20 : decode cX2_held 20 = .ok (.getfield 23, 3) := by decide +kernel
theorem dX2_held_23 : decode cX2_held 23 = .ok (.iload_n 1, 1) := by decide +kernel
theorem dX2_held_24 : decode cX2_held 24 = .ok (.iaload, 1) := by decide +kernel
theorem dX2_held_25 : decode cX2_held 25 = .ok (.goto 4, 3) := by decide +kernel
theorem dX2_held_28 : decode cX2_held 28 = .ok (.iconst 0, 1) := by decide +kernel
theorem dX2_held_29 : decode cX2_held 29 = .ok (.ireturn, 1) := by decide +kernel
theorem dX2_paid_0 : decode cX2_paid 0 = .ok (.aload_n 0, 1) := by decide +kernel
theorem dX2_paid_1 : decode cX2_paid 1 = .ok (.iload_n 1, 1) := by decide +kernel
theorem dX2_paid_2 : decode cX2_paid 2 = .ok (.invokestatic 86, 3) := by decide +kernel
theorem dX2_paid_5 : decode cX2_paid 5 = .ok (.ifCond .eq 7, 3) := by decide +kernel
theorem dX2_paid_8 : decode cX2_paid 8 = .ok (.iconst 0, 1) := by decide +kernel
theorem dX2_paid_9 : decode cX2_paid 9 = .ok (.goto 4, 3) := by decide +kernel
theorem dX2_paid_12 : decode cX2_paid 12 = .ok (.iconst 1, 1) := by decide +kernel
theorem dX2_paid_13 : decode cX2_paid 13 = .ok (.invokevirtual 77, 3) := by decide +kernel
theorem dX2_paid_16 : decode cX2_paid 16 = .ok (.ifCond .eq 12, 3) := by decide +kernel
theorem dX2_paid_19 : decode cX2_paid 19 = .ok (.aload_n 0, 1) := by decide +kernel
theorem dX2_paid_20 : decode cX2_paid 20 = .ok (.getfield 26, 3) := by decide +kernel
theorem dX2_paid_23 : decode cX2_paid 23 = .ok (.iload_n 1, 1) := by decide +kernel
theorem dX2_paid_24 : decode cX2_paid 24 = .ok (.iaload, 1) := by decide +kernel
theorem dX2_paid_25 : decode cX2_paid 25 = .ok (.goto 4, 3) := by decide +kernel
theorem dX2_paid_28 : decode cX2_paid 28 = .ok (.iconst 0, 1) := by decide +kernel
theorem dX2_paid_29 : decode cX2_paid 29 = .ok (.ireturn, 1) := by decide +kernel
theorem dL_setSort_0 : decode cL_setSort 0 = .ok (.aload_n 0, 1) := by decide +kernel
theorem dL_setSort_1 : decode cL_setSort 1 = .ok (.iload_n 1, 1) := by decide +kernel
theorem dL_setSort_2 : decode cL_setSort 2 = .ok (.iload_n 2, 1) := by decide +kernel
theorem dL_setSort_3 : decode cL_setSort 3 = .ok (.iload_n 3, 1) := by decide +kernel
theorem dL_setSort_4 : decode cL_setSort 4 = .ok (.invokevirtual 7, 3) := by decide +kernel
theorem dL_setSort_7 : decode cL_setSort 7 = .ok (.goto 7, 3) := by decide +kernel
theorem dL_setSort_10 : decode cL_setSort 10 = .ok (.astore 4, 2) := by decide +kernel
theorem dL_setSort_12 : decode cL_setSort 12 = .ok (.iconst 1, 1) := by decide +kernel
theorem dL_setSort_13 : decode cL_setSort 13 = .ok (.ireturn, 1) := by decide +kernel
theorem dL_setSort_14 : decode cL_setSort 14 = .ok (.iconst 0, 1) := by decide +kernel
theorem dL_setSort_15 : decode cL_setSort 15 = .ok (.ireturn, 1) := by decide +kernel
theorem dL_setRisk_0 : decode cL_setRisk 0 = .ok (.aload_n 3, 1) := by decide +kernel
theorem dL_setRisk_1 : decode cL_setRisk 1 = .ok (.iconst 0, 1) := by decide +kernel
theorem dL_setRisk_2 : decode cL_setRisk 2 = .ok (.aload_n 0, 1) := by decide +kernel
theorem dL_setRisk_3 : decode cL_setRisk 3 = .ok (.iload_n 1, 1) := by decide +kernel
theorem dL_setRisk_4 : decode cL_setRisk 4 = .ok (.iload_n 2, 1) := by decide +kernel
theorem dL_setRisk_5 : decode cL_setRisk 5 = .ok (.invokevirtual 15, 3) := by decide +kernel
theorem dL_setRisk_8 : decode cL_setRisk 8 = .ok (.i2l, 1) := by decide +kernel
theorem dL_setRisk_9 : decode cL_setRisk 9 = .ok (.lastore, 1) := by decide +kernel
theorem dL_setRisk_10 : decode cL_setRisk 10 = .ok (.goto 7, 3) := by decide +kernel
theorem dL_setRisk_13 : decode cL_setRisk 13 = .ok (.astore 4, 2) := by decide +kernel
theorem dL_setRisk_15 : decode cL_setRisk 15 = .ok (.iconst 1, 1) := by decide +kernel
theorem dL_setRisk_16 : decode cL_setRisk 16 = .ok (.ireturn, 1) := by decide +kernel
theorem dL_setRisk_17 : decode cL_setRisk 17 = .ok (.iconst 0, 1) := by decide +kernel
theorem dL_setRisk_18 : decode cL_setRisk 18 = .ok (.ireturn, 1) := by decide +kernel
theorem dL_setGuarantee_0 : decode cL_setGuarantee 0 = .ok (.aload_n 3, 1) := by decide +kernel
theorem dL_setGuarantee_1 : decode cL_setGuarantee 1 = .ok (.iconst 0, 1) := by decide +kernel
theorem dL_setGuarantee_2 : decode cL_setGuarantee 2 = .ok (.aload_n 0, 1) := by decide +kernel
theorem dL_setGuarantee_3 : decode cL_setGuarantee 3 = .ok (.iload_n 1, 1) := by decide +kernel
theorem dL_setGuarantee_4 : decode cL_setGuarantee 4 = .ok (.iload_n 2, 1) := by decide +kernel
theorem dL_setGuarantee_5 : decode cL_setGuarantee 5 = .ok (.invokevirtual 19, 3) := by decide +kernel
theorem dL_setGuarantee_8 : decode cL_setGuarantee 8 = .ok (.i2l, 1) := by decide +kernel
theorem dL_setGuarantee_9 : decode cL_setGuarantee 9 = .ok (.lastore, 1) := by decide +kernel
theorem dL_setGuarantee_10 : decode cL_setGuarantee 10 = .ok (.goto 11, 3) := by decide +kernel
theorem dL_setGuarantee_13 : decode cL_setGuarantee 13 = .ok (.astore 4, 2) := by decide +kernel
theorem dL_setGuarantee_15 : decode cL_setGuarantee 15 = .ok (.iconst 1, 1) := by decide +kernel
theorem dL_setGuarantee_16 : decode cL_setGuarantee 16 = .ok (.ireturn, 1) := by decide +kernel
theorem dL_setGuarantee_17 : decode cL_setGuarantee 17 = .ok (.astore 4, 2) := by decide +kernel
theorem dL_setGuarantee_19 : decode cL_setGuarantee 19 = .ok (.iconst 2, 1) := by decide +kernel
theorem dL_setGuarantee_20 : decode cL_setGuarantee 20 = .ok (.ireturn, 1) := by decide +kernel
theorem dL_setGuarantee_21 : decode cL_setGuarantee 21 = .ok (.iconst 0, 1) := by decide +kernel
theorem dL_setGuarantee_22 : decode cL_setGuarantee 22 = .ok (.ireturn, 1) := by decide +kernel
theorem dL_announce_0 : decode cL_announce 0 = .ok (.aload_n 3, 1) := by decide +kernel
theorem dL_announce_1 : decode cL_announce 1 = .ok (.iconst 0, 1) := by decide +kernel
theorem dL_announce_2 : decode cL_announce 2 = .ok (.aload_n 0, 1) := by decide +kernel
theorem dL_announce_3 : decode cL_announce 3 = .ok (.iload_n 1, 1) := by decide +kernel
theorem dL_announce_4 : decode cL_announce 4 = .ok (.iload_n 2, 1) := by decide +kernel
theorem dL_announce_5 : decode cL_announce 5 = .ok (.invokevirtual 24, 3) := by decide +kernel
theorem dL_announce_8 : decode cL_announce 8 = .ok (.i2l, 1) := by decide +kernel
theorem dL_announce_9 : decode cL_announce 9 = .ok (.lastore, 1) := by decide +kernel
theorem dL_announce_10 : decode cL_announce 10 = .ok (.goto 11, 3) := by decide +kernel
theorem dL_announce_13 : decode cL_announce 13 = .ok (.astore 4, 2) := by decide +kernel
theorem dL_announce_15 : decode cL_announce 15 = .ok (.iconst 1, 1) := by decide +kernel
theorem dL_announce_16 : decode cL_announce 16 = .ok (.ireturn, 1) := by decide +kernel
theorem dL_announce_17 : decode cL_announce 17 = .ok (.astore 4, 2) := by decide +kernel
theorem dL_announce_19 : decode cL_announce 19 = .ok (.iconst 2, 1) := by decide +kernel
theorem dL_announce_20 : decode cL_announce 20 = .ok (.ireturn, 1) := by decide +kernel
theorem dL_announce_21 : decode cL_announce 21 = .ok (.iconst 0, 1) := by decide +kernel
theorem dL_announce_22 : decode cL_announce 22 = .ok (.ireturn, 1) := by decide +kernel
theorem dL_amend_0 : decode cL_amend 0 = .ok (.aload 4, 2) := by decide +kernel
theorem dL_amend_2 : decode cL_amend 2 = .ok (.iconst 0, 1) := by decide +kernel
theorem dL_amend_3 : decode cL_amend 3 = .ok (.aload_n 0, 1) := by decide +kernel
theorem dL_amend_4 : decode cL_amend 4 = .ok (.iload_n 1, 1) := by decide +kernel
theorem dL_amend_5 : decode cL_amend 5 = .ok (.iload_n 2, 1) := by decide +kernel
theorem dL_amend_6 : decode cL_amend 6 = .ok (.iload_n 3, 1) := by decide +kernel
theorem dL_amend_7 : decode cL_amend 7 = .ok (.invokevirtual 27, 3) := by decide +kernel
theorem dL_amend_10 : decode cL_amend 10 = .ok (.i2l, 1) := by decide +kernel
theorem dL_amend_11 : decode cL_amend 11 = .ok (.lastore, 1) := by decide +kernel
theorem dL_amend_12 : decode cL_amend 12 = .ok (.goto 15, 3) := by decide +kernel
theorem dL_amend_15 : decode cL_amend 15 = .ok (.astore 5, 2) := by decide +kernel
theorem dL_amend_17 : decode cL_amend 17 = .ok (.iconst 1, 1) := by decide +kernel
theorem dL_amend_18 : decode cL_amend 18 = .ok (.ireturn, 1) := by decide +kernel
theorem dL_amend_19 : decode cL_amend 19 = .ok (.astore 5, 2) := by decide +kernel
theorem dL_amend_21 : decode cL_amend 21 = .ok (.iconst 2, 1) := by decide +kernel
theorem dL_amend_22 : decode cL_amend 22 = .ok (.ireturn, 1) := by decide +kernel
theorem dL_amend_23 : decode cL_amend 23 = .ok (.astore 5, 2) := by decide +kernel
theorem dL_amend_25 : decode cL_amend 25 = .ok (.iconst 3, 1) := by decide +kernel
theorem dL_amend_26 : decode cL_amend 26 = .ok (.ireturn, 1) := by decide +kernel
theorem dL_amend_27 : decode cL_amend 27 = .ok (.iconst 0, 1) := by decide +kernel
theorem dL_amend_28 : decode cL_amend 28 = .ok (.ireturn, 1) := by decide +kernel
theorem dL_arrive_0 : decode cL_arrive 0 = .ok (.aload_n 3, 1) := by decide +kernel
theorem dL_arrive_1 : decode cL_arrive 1 = .ok (.iconst 0, 1) := by decide +kernel
theorem dL_arrive_2 : decode cL_arrive 2 = .ok (.aload_n 0, 1) := by decide +kernel
theorem dL_arrive_3 : decode cL_arrive 3 = .ok (.iload_n 1, 1) := by decide +kernel
theorem dL_arrive_4 : decode cL_arrive 4 = .ok (.iload_n 2, 1) := by decide +kernel
theorem dL_arrive_5 : decode cL_arrive 5 = .ok (.invokevirtual 33, 3) := by decide +kernel
theorem dL_arrive_8 : decode cL_arrive 8 = .ok (.ifCond .eq 7, 3) := by decide +kernel
theorem dL_arrive_11 : decode cL_arrive 11 = .ok (.lconst 1, 1) := by decide +kernel
theorem dL_arrive_12 : decode cL_arrive 12 = .ok (.goto 4, 3) := by decide +kernel
theorem dL_arrive_15 : decode cL_arrive 15 = .ok (.lconst 0, 1) := by decide +kernel
theorem dL_arrive_16 : decode cL_arrive 16 = .ok (.lastore, 1) := by decide +kernel
theorem dL_arrive_17 : decode cL_arrive 17 = .ok (.goto 15, 3) := by decide +kernel
theorem dL_arrive_20 : decode cL_arrive 20 = .ok (.astore 4, 2) := by decide +kernel
theorem dL_arrive_22 : decode cL_arrive 22 = .ok (.iconst 1, 1) := by decide +kernel
theorem dL_arrive_23 : decode cL_arrive 23 = .ok (.ireturn, 1) := by decide +kernel
theorem dL_arrive_24 : decode cL_arrive 24 = .ok (.astore 4, 2) := by decide +kernel
theorem dL_arrive_26 : decode cL_arrive 26 = .ok (.iconst 2, 1) := by decide +kernel
theorem dL_arrive_27 : decode cL_arrive 27 = .ok (.ireturn, 1) := by decide +kernel
theorem dL_arrive_28 : decode cL_arrive 28 = .ok (.astore 4, 2) := by decide +kernel
theorem dL_arrive_30 : decode cL_arrive 30 = .ok (.iconst 3, 1) := by decide +kernel
theorem dL_arrive_31 : decode cL_arrive 31 = .ok (.ireturn, 1) := by decide +kernel
theorem dL_arrive_32 : decode cL_arrive 32 = .ok (.iconst 0, 1) := by decide +kernel
theorem dL_arrive_33 : decode cL_arrive 33 = .ok (.ireturn, 1) := by decide +kernel
theorem dL_risk_0 : decode cL_risk 0 = .ok (.aload_n 2, 1) := by decide +kernel
theorem dL_risk_1 : decode cL_risk 1 = .ok (.iconst 0, 1) := by decide +kernel
theorem dL_risk_2 : decode cL_risk 2 = .ok (.aload_n 0, 1) := by decide +kernel
theorem dL_risk_3 : decode cL_risk 3 = .ok (.iload_n 1, 1) := by decide +kernel
theorem dL_risk_4 : decode cL_risk 4 = .ok (.invokevirtual 37, 3) := by decide +kernel
theorem dL_risk_7 : decode cL_risk 7 = .ok (.i2l, 1) := by decide +kernel
theorem dL_risk_8 : decode cL_risk 8 = .ok (.lastore, 1) := by decide +kernel
theorem dL_risk_9 : decode cL_risk 9 = .ok (.goto 9, 3) := by decide +kernel
theorem dL_risk_12 : decode cL_risk 12 = .ok (.astore_n 3, 1) := by decide +kernel
theorem dL_risk_13 : decode cL_risk 13 = .ok (.iconst 1, 1) := by decide +kernel
theorem dL_risk_14 : decode cL_risk 14 = .ok (.ireturn, 1) := by decide +kernel
theorem dL_risk_15 : decode cL_risk 15 = .ok (.astore_n 3, 1) := by decide +kernel
theorem dL_risk_16 : decode cL_risk 16 = .ok (.iconst 2, 1) := by decide +kernel
theorem dL_risk_17 : decode cL_risk 17 = .ok (.ireturn, 1) := by decide +kernel
theorem dL_risk_18 : decode cL_risk 18 = .ok (.iconst 0, 1) := by decide +kernel
theorem dL_risk_19 : decode cL_risk 19 = .ok (.ireturn, 1) := by decide +kernel
theorem dL_mustSearch_0 : decode cL_mustSearch 0 = .ok (.aload_n 2, 1) := by decide +kernel
theorem dL_mustSearch_1 : decode cL_mustSearch 1 = .ok (.iconst 0, 1) := by decide +kernel
theorem dL_mustSearch_2 : decode cL_mustSearch 2 = .ok (.aload_n 0, 1) := by decide +kernel
theorem dL_mustSearch_3 : decode cL_mustSearch 3 = .ok (.iload_n 1, 1) := by decide +kernel
theorem dL_mustSearch_4 : decode cL_mustSearch 4 = .ok (.invokevirtual 41, 3) := by decide +kernel
theorem dL_mustSearch_7 : decode cL_mustSearch 7 = .ok (.ifCond .eq 7, 3) := by decide +kernel
theorem dL_mustSearch_10 : decode cL_mustSearch 10 = .ok (.lconst 1, 1) := by decide +kernel
theorem dL_mustSearch_11 : decode cL_mustSearch 11 = .ok (.goto 4, 3) := by decide +kernel
theorem dL_mustSearch_14 : decode cL_mustSearch 14 = .ok (.lconst 0, 1) := by decide +kernel
end
section
theorem dL_mustSearch_15 : decode cL_mustSearch 15 = .ok (.lastore, 1) := by decide +kernel
theorem dL_mustSearch_16 : decode cL_mustSearch 16 = .ok (.goto 6, 3) := by decide +kernel
theorem dL_mustSearch_19 : decode cL_mustSearch 19 = .ok (.astore_n 3, 1) := by decide +kernel
theorem dL_mustSearch_20 : decode cL_mustSearch 20 = .ok (.iconst 1, 1) := by decide +kernel
theorem dL_mustSearch_21 : decode cL_mustSearch 21 = .ok (.ireturn, 1) := by decide +kernel
theorem dL_mustSearch_22 : decode cL_mustSearch 22 = .ok (.iconst 0, 1) := by decide +kernel
theorem dL_mustSearch_23 : decode cL_mustSearch 23 = .ok (.ireturn, 1) := by decide +kernel
theorem dL_search_0 : decode cL_search 0 = .ok (.aload 4, 2) := by decide +kernel
theorem dL_search_2 : decode cL_search 2 = .ok (.iconst 0, 1) := by decide +kernel
theorem dL_search_3 : decode cL_search 3 = .ok (.aload_n 0, 1) := by decide +kernel
theorem dL_search_4 : decode cL_search 4 = .ok (.iload_n 1, 1) := by decide +kernel
theorem dL_search_5 : decode cL_search 5 = .ok (.iload_n 2, 1) := by decide +kernel
theorem dL_search_6 : decode cL_search 6 = .ok (.iload_n 3, 1) := by decide +kernel
theorem dL_search_7 : decode cL_search 7 = .ok (.invokevirtual 45, 3) := by decide +kernel
theorem dL_search_10 : decode cL_search 10 = .ok (.i2l, 1) := by decide +kernel
theorem dL_search_11 : decode cL_search 11 = .ok (.lastore, 1) := by decide +kernel
theorem dL_search_12 : decode cL_search 12 = .ok (.goto 15, 3) := by decide +kernel
theorem dL_search_15 : decode cL_search 15 = .ok (.astore 5, 2) := by decide +kernel
theorem dL_search_17 : decode cL_search 17 = .ok (.iconst 1, 1) := by decide +kernel
theorem dL_search_18 : decode cL_search 18 = .ok (.ireturn, 1) := by decide +kernel
theorem dL_search_19 : decode cL_search 19 = .ok (.astore 5, 2) := by decide +kernel
theorem dL_search_21 : decode cL_search 21 = .ok (.iconst 2, 1) := by decide +kernel
theorem dL_search_22 : decode cL_search 22 = .ok (.ireturn, 1) := by decide +kernel
theorem dL_search_23 : decode cL_search 23 = .ok (.astore 5, 2) := by decide +kernel
theorem dL_search_25 : decode cL_search 25 = .ok (.iconst 3, 1) := by decide +kernel
theorem dL_search_26 : decode cL_search 26 = .ok (.ireturn, 1) := by decide +kernel
theorem dL_search_27 : decode cL_search 27 = .ok (.iconst 0, 1) := by decide +kernel
theorem dL_search_28 : decode cL_search 28 = .ok (.ireturn, 1) := by decide +kernel
theorem dL_bond_0 : decode cL_bond 0 = .ok (.aload_n 3, 1) := by decide +kernel
theorem dL_bond_1 : decode cL_bond 1 = .ok (.iconst 0, 1) := by decide +kernel
theorem dL_bond_2 : decode cL_bond 2 = .ok (.aload_n 0, 1) := by decide +kernel
theorem dL_bond_3 : decode cL_bond 3 = .ok (.iload_n 1, 1) := by decide +kernel
theorem dL_bond_4 : decode cL_bond 4 = .ok (.iload_n 2, 1) := by decide +kernel
theorem dL_bond_5 : decode cL_bond 5 = .ok (.invokevirtual 48, 3) := by decide +kernel
theorem dL_bond_8 : decode cL_bond 8 = .ok (.i2l, 1) := by decide +kernel
theorem dL_bond_9 : decode cL_bond 9 = .ok (.lastore, 1) := by decide +kernel
theorem dL_bond_10 : decode cL_bond 10 = .ok (.goto 15, 3) := by decide +kernel
theorem dL_bond_13 : decode cL_bond 13 = .ok (.astore 4, 2) := by decide +kernel
theorem dL_bond_15 : decode cL_bond 15 = .ok (.iconst 1, 1) := by decide +kernel
theorem dL_bond_16 : decode cL_bond 16 = .ok (.ireturn, 1) := by decide +kernel
theorem dL_bond_17 : decode cL_bond 17 = .ok (.astore 4, 2) := by decide +kernel
theorem dL_bond_19 : decode cL_bond 19 = .ok (.iconst 2, 1) := by decide +kernel
theorem dL_bond_20 : decode cL_bond 20 = .ok (.ireturn, 1) := by decide +kernel
theorem dL_bond_21 : decode cL_bond 21 = .ok (.astore 4, 2) := by decide +kernel
theorem dL_bond_23 : decode cL_bond 23 = .ok (.iconst 3, 1) := by decide +kernel
theorem dL_bond_24 : decode cL_bond 24 = .ok (.ireturn, 1) := by decide +kernel
theorem dL_bond_25 : decode cL_bond 25 = .ok (.iconst 0, 1) := by decide +kernel
theorem dL_bond_26 : decode cL_bond 26 = .ok (.ireturn, 1) := by decide +kernel
theorem dL_move_0 : decode cL_move 0 = .ok (.aload 6, 2) := by decide +kernel
theorem dL_move_2 : decode cL_move 2 = .ok (.iconst 0, 1) := by decide +kernel
theorem dL_move_3 : decode cL_move 3 = .ok (.aload_n 0, 1) := by decide +kernel
theorem dL_move_4 : decode cL_move 4 = .ok (.iload_n 1, 1) := by decide +kernel
theorem dL_move_5 : decode cL_move 5 = .ok (.iload_n 2, 1) := by decide +kernel
theorem dL_move_6 : decode cL_move 6 = .ok (.iload_n 3, 1) := by decide +kernel
theorem dL_move_7 : decode cL_move 7 = .ok (.iload 4, 2) := by decide +kernel
theorem dL_move_9 : decode cL_move 9 = .ok (.iload 5, 2) := by decide +kernel
theorem dL_move_11 : decode cL_move 11 = .ok (.invokevirtual 51, 3) := by decide +kernel
theorem dL_move_14 : decode cL_move 14 = .ok (.i2l, 1) := by decide +kernel
theorem dL_move_15 : decode cL_move 15 = .ok (.lastore, 1) := by decide +kernel
theorem dL_move_16 : decode cL_move 16 = .ok (.goto 15, 3) := by decide +kernel
theorem dL_move_19 : decode cL_move 19 = .ok (.astore 7, 2) := by decide +kernel
theorem dL_move_21 : decode cL_move 21 = .ok (.iconst 1, 1) := by decide +kernel
theorem dL_move_22 : decode cL_move 22 = .ok (.ireturn, 1) := by decide +kernel
theorem dL_move_23 : decode cL_move 23 = .ok (.astore 7, 2) := by decide +kernel
theorem dL_move_25 : decode cL_move 25 = .ok (.iconst 2, 1) := by decide +kernel
theorem dL_move_26 : decode cL_move 26 = .ok (.ireturn, 1) := by decide +kernel
theorem dL_move_27 : decode cL_move 27 = .ok (.astore 7, 2) := by decide +kernel
theorem dL_move_29 : decode cL_move 29 = .ok (.iconst 3, 1) := by decide +kernel
theorem dL_move_30 : decode cL_move 30 = .ok (.ireturn, 1) := by decide +kernel
theorem dL_move_31 : decode cL_move 31 = .ok (.iconst 0, 1) := by decide +kernel
theorem dL_move_32 : decode cL_move 32 = .ok (.ireturn, 1) := by decide +kernel
theorem dL_free_0 : decode cL_free 0 = .ok (.aload 5, 2) := by decide +kernel
theorem dL_free_2 : decode cL_free 2 = .ok (.iconst 0, 1) := by decide +kernel
theorem dL_free_3 : decode cL_free 3 = .ok (.aload_n 0, 1) := by decide +kernel
theorem dL_free_4 : decode cL_free 4 = .ok (.iload_n 1, 1) := by decide +kernel
theorem dL_free_5 : decode cL_free 5 = .ok (.iload_n 2, 1) := by decide +kernel
theorem dL_free_6 : decode cL_free 6 = .ok (.iload_n 3, 1) := by decide +kernel
theorem dL_free_7 : decode cL_free 7 = .ok (.iload 4, 2) := by decide +kernel
theorem dL_free_9 : decode cL_free 9 = .ok (.invokevirtual 55, 3) := by decide +kernel
theorem dL_free_12 : decode cL_free 12 = .ok (.i2l, 1) := by decide +kernel
theorem dL_free_13 : decode cL_free 13 = .ok (.lastore, 1) := by decide +kernel
theorem dL_free_14 : decode cL_free 14 = .ok (.goto 15, 3) := by decide +kernel
theorem dL_free_17 : decode cL_free 17 = .ok (.astore 6, 2) := by decide +kernel
theorem dL_free_19 : decode cL_free 19 = .ok (.iconst 1, 1) := by decide +kernel
theorem dL_free_20 : decode cL_free 20 = .ok (.ireturn, 1) := by decide +kernel
theorem dL_free_21 : decode cL_free 21 = .ok (.astore 6, 2) := by decide +kernel
theorem dL_free_23 : decode cL_free 23 = .ok (.iconst 2, 1) := by decide +kernel
theorem dL_free_24 : decode cL_free 24 = .ok (.ireturn, 1) := by decide +kernel
theorem dL_free_25 : decode cL_free 25 = .ok (.astore 6, 2) := by decide +kernel
theorem dL_free_27 : decode cL_free 27 = .ok (.iconst 3, 1) := by decide +kernel
theorem dL_free_28 : decode cL_free 28 = .ok (.ireturn, 1) := by decide +kernel
theorem dL_free_29 : decode cL_free 29 = .ok (.iconst 0, 1) := by decide +kernel
theorem dL_free_30 : decode cL_free 30 = .ok (.ireturn, 1) := by decide +kernel
theorem dL_sendBack_0 : decode cL_sendBack 0 = .ok (.aload 5, 2) := by decide +kernel
theorem dL_sendBack_2 : decode cL_sendBack 2 = .ok (.iconst 0, 1) := by decide +kernel
theorem dL_sendBack_3 : decode cL_sendBack 3 = .ok (.aload_n 0, 1) := by decide +kernel
theorem dL_sendBack_4 : decode cL_sendBack 4 = .ok (.iload_n 1, 1) := by decide +kernel
theorem dL_sendBack_5 : decode cL_sendBack 5 = .ok (.iload_n 2, 1) := by decide +kernel
theorem dL_sendBack_6 : decode cL_sendBack 6 = .ok (.iload_n 3, 1) := by decide +kernel
theorem dL_sendBack_7 : decode cL_sendBack 7 = .ok (.iload 4, 2) := by decide +kernel
theorem dL_sendBack_9 : decode cL_sendBack 9 = .ok (.invokevirtual 59, 3) := by decide +kernel
theorem dL_sendBack_12 : decode cL_sendBack 12 = .ok (.i2l, 1) := by decide +kernel
theorem dL_sendBack_13 : decode cL_sendBack 13 = .ok (.lastore, 1) := by decide +kernel
theorem dL_sendBack_14 : decode cL_sendBack 14 = .ok (.goto 15, 3) := by decide +kernel
theorem dL_sendBack_17 : decode cL_sendBack 17 = .ok (.astore 6, 2) := by decide +kernel
theorem dL_sendBack_19 : decode cL_sendBack 19 = .ok (.iconst 1, 1) := by decide +kernel
theorem dL_sendBack_20 : decode cL_sendBack 20 = .ok (.ireturn, 1) := by decide +kernel
theorem dL_sendBack_21 : decode cL_sendBack 21 = .ok (.astore 6, 2) := by decide +kernel
theorem dL_sendBack_23 : decode cL_sendBack 23 = .ok (.iconst 2, 1) := by decide +kernel
theorem dL_sendBack_24 : decode cL_sendBack 24 = .ok (.ireturn, 1) := by decide +kernel
theorem dL_sendBack_25 : decode cL_sendBack 25 = .ok (.astore 6, 2) := by decide +kernel
theorem dL_sendBack_27 : decode cL_sendBack 27 = .ok (.iconst 3, 1) := by decide +kernel
theorem dL_sendBack_28 : decode cL_sendBack 28 = .ok (.ireturn, 1) := by decide +kernel
theorem dL_sendBack_29 : decode cL_sendBack 29 = .ok (.iconst 0, 1) := by decide +kernel
theorem dL_sendBack_30 : decode cL_sendBack 30 = .ok (.ireturn, 1) := by decide +kernel
theorem dL_state_0 : decode cL_state 0 = .ok (.aload_n 2, 1) := by decide +kernel
theorem dL_state_1 : decode cL_state 1 = .ok (.iconst 0, 1) := by decide +kernel
theorem dL_state_2 : decode cL_state 2 = .ok (.aload_n 0, 1) := by decide +kernel
theorem dL_state_3 : decode cL_state 3 = .ok (.iload_n 1, 1) := by decide +kernel
theorem dL_state_4 : decode cL_state 4 = .ok (.invokevirtual 62, 3) := by decide +kernel
theorem dL_state_7 : decode cL_state 7 = .ok (.i2l, 1) := by decide +kernel
theorem dL_state_8 : decode cL_state 8 = .ok (.lastore, 1) := by decide +kernel
theorem dL_state_9 : decode cL_state 9 = .ok (.goto 6, 3) := by decide +kernel
theorem dL_state_12 : decode cL_state 12 = .ok (.astore_n 3, 1) := by decide +kernel
theorem dL_state_13 : decode cL_state 13 = .ok (.iconst 1, 1) := by decide +kernel
theorem dL_state_14 : decode cL_state 14 = .ok (.ireturn, 1) := by decide +kernel
theorem dL_state_15 : decode cL_state 15 = .ok (.iconst 0, 1) := by decide +kernel
theorem dL_state_16 : decode cL_state 16 = .ok (.ireturn, 1) := by decide +kernel
theorem dL_manifest_0 : decode cL_manifest 0 = .ok (.aload_n 3, 1) := by decide +kernel
theorem dL_manifest_1 : decode cL_manifest 1 = .ok (.iconst 0, 1) := by decide +kernel
theorem dL_manifest_2 : decode cL_manifest 2 = .ok (.aload_n 0, 1) := by decide +kernel
theorem dL_manifest_3 : decode cL_manifest 3 = .ok (.iload_n 1, 1) := by decide +kernel
theorem dL_manifest_4 : decode cL_manifest 4 = .ok (.iload_n 2, 1) := by decide +kernel
theorem dL_manifest_5 : decode cL_manifest 5 = .ok (.invokevirtual 65, 3) := by decide +kernel
theorem dL_manifest_8 : decode cL_manifest 8 = .ok (.i2l, 1) := by decide +kernel
theorem dL_manifest_9 : decode cL_manifest 9 = .ok (.lastore, 1) := by decide +kernel
theorem dL_manifest_10 : decode cL_manifest 10 = .ok (.goto 11, 3) := by decide +kernel
theorem dL_manifest_13 : decode cL_manifest 13 = .ok (.astore 4, 2) := by decide +kernel
theorem dL_manifest_15 : decode cL_manifest 15 = .ok (.iconst 1, 1) := by decide +kernel
theorem dL_manifest_16 : decode cL_manifest 16 = .ok (.ireturn, 1) := by decide +kernel
theorem dL_manifest_17 : decode cL_manifest 17 = .ok (.astore 4, 2) := by decide +kernel
theorem dL_manifest_19 : decode cL_manifest 19 = .ok (.iconst 2, 1) := by decide +kernel
theorem dL_manifest_20 : decode cL_manifest 20 = .ok (.ireturn, 1) := by decide +kernel
theorem dL_manifest_21 : decode cL_manifest 21 = .ok (.iconst 0, 1) := by decide +kernel
theorem dL_manifest_22 : decode cL_manifest 22 = .ok (.ireturn, 1) := by decide +kernel
theorem dL_stored_0 : decode cL_stored 0 = .ok (.aload_n 3, 1) := by decide +kernel
theorem dL_stored_1 : decode cL_stored 1 = .ok (.iconst 0, 1) := by decide +kernel
theorem dL_stored_2 : decode cL_stored 2 = .ok (.aload_n 0, 1) := by decide +kernel
theorem dL_stored_3 : decode cL_stored 3 = .ok (.iload_n 1, 1) := by decide +kernel
theorem dL_stored_4 : decode cL_stored 4 = .ok (.iload_n 2, 1) := by decide +kernel
theorem dL_stored_5 : decode cL_stored 5 = .ok (.invokevirtual 68, 3) := by decide +kernel
theorem dL_stored_8 : decode cL_stored 8 = .ok (.i2l, 1) := by decide +kernel
theorem dL_stored_9 : decode cL_stored 9 = .ok (.lastore, 1) := by decide +kernel
theorem dL_stored_10 : decode cL_stored 10 = .ok (.goto 7, 3) := by decide +kernel
theorem dL_stored_13 : decode cL_stored 13 = .ok (.astore 4, 2) := by decide +kernel
theorem dL_stored_15 : decode cL_stored 15 = .ok (.iconst 1, 1) := by decide +kernel
theorem dL_stored_16 : decode cL_stored 16 = .ok (.ireturn, 1) := by decide +kernel
theorem dL_stored_17 : decode cL_stored 17 = .ok (.iconst 0, 1) := by decide +kernel
theorem dL_stored_18 : decode cL_stored 18 = .ok (.ireturn, 1) := by decide +kernel
theorem dL_held_0 : decode cL_held 0 = .ok (.aload_n 2, 1) := by decide +kernel
theorem dL_held_1 : decode cL_held 1 = .ok (.iconst 0, 1) := by decide +kernel
theorem dL_held_2 : decode cL_held 2 = .ok (.aload_n 0, 1) := by decide +kernel
theorem dL_held_3 : decode cL_held 3 = .ok (.iload_n 1, 1) := by decide +kernel
theorem dL_held_4 : decode cL_held 4 = .ok (.invokevirtual 71, 3) := by decide +kernel
theorem dL_held_7 : decode cL_held 7 = .ok (.i2l, 1) := by decide +kernel
theorem dL_held_8 : decode cL_held 8 = .ok (.lastore, 1) := by decide +kernel
theorem dL_held_9 : decode cL_held 9 = .ok (.goto 6, 3) := by decide +kernel
theorem dL_held_12 : decode cL_held 12 = .ok (.astore_n 3, 1) := by decide +kernel
theorem dL_held_13 : decode cL_held 13 = .ok (.iconst 1, 1) := by decide +kernel
theorem dL_held_14 : decode cL_held 14 = .ok (.ireturn, 1) := by decide +kernel
theorem dL_held_15 : decode cL_held 15 = .ok (.iconst 0, 1) := by decide +kernel
theorem dL_held_16 : decode cL_held 16 = .ok (.ireturn, 1) := by decide +kernel
theorem dL_paid_0 : decode cL_paid 0 = .ok (.aload_n 2, 1) := by decide +kernel
theorem dL_paid_1 : decode cL_paid 1 = .ok (.iconst 0, 1) := by decide +kernel
theorem dL_paid_2 : decode cL_paid 2 = .ok (.aload_n 0, 1) := by decide +kernel
theorem dL_paid_3 : decode cL_paid 3 = .ok (.iload_n 1, 1) := by decide +kernel
theorem dL_paid_4 : decode cL_paid 4 = .ok (.invokevirtual 74, 3) := by decide +kernel
theorem dL_paid_7 : decode cL_paid 7 = .ok (.i2l, 1) := by decide +kernel
theorem dL_paid_8 : decode cL_paid 8 = .ok (.lastore, 1) := by decide +kernel
theorem dL_paid_9 : decode cL_paid 9 = .ok (.goto 6, 3) := by decide +kernel
theorem dL_paid_12 : decode cL_paid 12 = .ok (.astore_n 3, 1) := by decide +kernel
theorem dL_paid_13 : decode cL_paid 13 = .ok (.iconst 1, 1) := by decide +kernel
theorem dL_paid_14 : decode cL_paid 14 = .ok (.ireturn, 1) := by decide +kernel
theorem dL_paid_15 : decode cL_paid 15 = .ok (.iconst 0, 1) := by decide +kernel
theorem dL_paid_16 : decode cL_paid 16 = .ok (.ireturn, 1) := by decide +kernel
theorem dL_law_0 : decode cL_law 0 = .ok (.new 8, 3) := by decide +kernel
theorem dL_law_3 : decode cL_law 3 = .ok (.dup, 1) := by decide +kernel
theorem dL_law_4 : decode cL_law 4 = .ok (.invokespecial 77, 3) := by decide +kernel
theorem dL_law_7 : decode cL_law 7 = .ok (.astore_n 1, 1) := by decide +kernel
theorem dL_law_8 : decode cL_law 8 = .ok (.new 78, 3) := by decide +kernel
theorem dL_law_11 : decode cL_law 11 = .ok (.dup, 1) := by decide +kernel
theorem dL_law_12 : decode cL_law 12 = .ok (.invokespecial 80, 3) := by decide +kernel
theorem dL_law_15 : decode cL_law 15 = .ok (.astore_n 2, 1) := by decide +kernel
theorem dL_law_16 : decode cL_law 16 = .ok (.iconst 1, 1) := by decide +kernel
theorem dL_law_17 : decode cL_law 17 = .ok (.newarray .long, 2) := by decide +kernel
theorem dL_law_19 : decode cL_law 19 = .ok (.astore_n 3, 1) := by decide +kernel
theorem dL_law_20 : decode cL_law 20 = .ok (.iconst 0, 1) := by decide +kernel
theorem dL_law_21 : decode cL_law 21 = .ok (.istore 4, 2) := by decide +kernel
theorem dL_law_23 : decode cL_law 23 = .ok (.iload 4, 2) := by decide +kernel
theorem dL_law_25 : decode cL_law 25 = .ok (.aload_n 0, 1) := by decide +kernel
theorem dL_law_26 : decode cL_law 26 = .ok (.arraylength, 1) := by decide +kernel
theorem dL_law_27 : decode cL_law 27 = .ok (.bipush 6, 2) := by decide +kernel
theorem dL_law_29 : decode cL_law 29 = .ok (.isub, 1) := by decide +kernel
theorem dL_law_30 : decode cL_law 30 = .ok (.if_icmp .gt 1382, 3) := by decide +kernel
theorem dL_law_33 : decode cL_law 33 = .ok (.aload_n 0, 1) := by decide +kernel
theorem dL_law_34 : decode cL_law 34 = .ok (.iload 4, 2) := by decide +kernel
theorem dL_law_36 : decode cL_law 36 = .ok (.iaload, 1) := by decide +kernel
theorem dL_law_37 : decode cL_law 37 = .ok (.bipush 31, 2) := by decide +kernel
theorem dL_law_39 : decode cL_law 39 = .ok (.iand, 1) := by decide +kernel
theorem dL_law_40 : decode cL_law 40 = .ok (.tableswitch 1366 0 17 #[88, 148, 216, 284, 352, 432, 507, 563, 626, 706, 774, 878, 970, 1062, 1118, 1186, 1254, 1310], 88) := by decide +kernel
theorem dL_law_128 : decode cL_law 128 = .ok (.aload_n 1, 1) := by decide +kernel
theorem dL_law_129 : decode cL_law 129 = .ok (.aload_n 0, 1) := by decide +kernel
theorem dL_law_130 : decode cL_law 130 = .ok (.iload 4, 2) := by decide +kernel
theorem dL_law_132 : decode cL_law 132 = .ok (.iconst 1, 1) := by decide +kernel
theorem dL_law_133 : decode cL_law 133 = .ok (.iadd, 1) := by decide +kernel
theorem dL_law_134 : decode cL_law 134 = .ok (.iaload, 1) := by decide +kernel
theorem dL_law_135 : decode cL_law 135 = .ok (.aload_n 0, 1) := by decide +kernel
theorem dL_law_136 : decode cL_law 136 = .ok (.iload 4, 2) := by decide +kernel
theorem dL_law_138 : decode cL_law 138 = .ok (.iconst 2, 1) := by decide +kernel
theorem dL_law_139 : decode cL_law 139 = .ok (.iadd, 1) := by decide +kernel
theorem dL_law_140 : decode cL_law 140 = .ok (.iaload, 1) := by decide +kernel
theorem dL_law_141 : decode cL_law 141 = .ok (.aload_n 0, 1) := by decide +kernel
theorem dL_law_142 : decode cL_law 142 = .ok (.iload 4, 2) := by decide +kernel
theorem dL_law_144 : decode cL_law 144 = .ok (.iconst 3, 1) := by decide +kernel
theorem dL_law_145 : decode cL_law 145 = .ok (.iadd, 1) := by decide +kernel
theorem dL_law_146 : decode cL_law 146 = .ok (.iaload, 1) := by decide +kernel
theorem dL_law_147 : decode cL_law 147 = .ok (.invokestatic 81, 3) := by decide +kernel
theorem dL_law_150 : decode cL_law 150 = .ok (.istore 5, 2) := by decide +kernel
theorem dL_law_152 : decode cL_law 152 = .ok (.aload_n 2, 1) := by decide +kernel
theorem dL_law_153 : decode cL_law 153 = .ok (.aload_n 0, 1) := by decide +kernel
theorem dL_law_154 : decode cL_law 154 = .ok (.iload 4, 2) := by decide +kernel
theorem dL_law_156 : decode cL_law 156 = .ok (.iconst 1, 1) := by decide +kernel
theorem dL_law_157 : decode cL_law 157 = .ok (.iadd, 1) := by decide +kernel
theorem dL_law_158 : decode cL_law 158 = .ok (.iaload, 1) := by decide +kernel
theorem dL_law_159 : decode cL_law 159 = .ok (.aload_n 0, 1) := by decide +kernel
theorem dL_law_160 : decode cL_law 160 = .ok (.iload 4, 2) := by decide +kernel
theorem dL_law_162 : decode cL_law 162 = .ok (.iconst 2, 1) := by decide +kernel
theorem dL_law_163 : decode cL_law 163 = .ok (.iadd, 1) := by decide +kernel
theorem dL_law_164 : decode cL_law 164 = .ok (.iaload, 1) := by decide +kernel
theorem dL_law_165 : decode cL_law 165 = .ok (.aload_n 0, 1) := by decide +kernel
theorem dL_law_166 : decode cL_law 166 = .ok (.iload 4, 2) := by decide +kernel
theorem dL_law_168 : decode cL_law 168 = .ok (.iconst 3, 1) := by decide +kernel
theorem dL_law_169 : decode cL_law 169 = .ok (.iadd, 1) := by decide +kernel
theorem dL_law_170 : decode cL_law 170 = .ok (.iaload, 1) := by decide +kernel
theorem dL_law_171 : decode cL_law 171 = .ok (.invokevirtual 86, 3) := by decide +kernel
theorem dL_law_174 : decode cL_law 174 = .ok (.aload_n 2, 1) := by decide +kernel
theorem dL_law_175 : decode cL_law 175 = .ok (.invokevirtual 87, 3) := by decide +kernel
theorem dL_law_178 : decode cL_law 178 = .ok (.iload 5, 2) := by decide +kernel
theorem dL_law_180 : decode cL_law 180 = .ok (.if_icmp .eq 5, 3) := by decide +kernel
theorem dL_law_183 : decode cL_law 183 = .ok (.iconst 0, 1) := by decide +kernel
theorem dL_law_184 : decode cL_law 184 = .ok (.ireturn, 1) := by decide +kernel
theorem dL_law_185 : decode cL_law 185 = .ok (.goto 1221, 3) := by decide +kernel
theorem dL_law_188 : decode cL_law 188 = .ok (.aload_n 1, 1) := by decide +kernel
theorem dL_law_189 : decode cL_law 189 = .ok (.aload_n 0, 1) := by decide +kernel
theorem dL_law_190 : decode cL_law 190 = .ok (.iload 4, 2) := by decide +kernel
theorem dL_law_192 : decode cL_law 192 = .ok (.iconst 1, 1) := by decide +kernel
theorem dL_law_193 : decode cL_law 193 = .ok (.iadd, 1) := by decide +kernel
theorem dL_law_194 : decode cL_law 194 = .ok (.iaload, 1) := by decide +kernel
theorem dL_law_195 : decode cL_law 195 = .ok (.aload_n 0, 1) := by decide +kernel
theorem dL_law_196 : decode cL_law 196 = .ok (.iload 4, 2) := by decide +kernel
theorem dL_law_198 : decode cL_law 198 = .ok (.iconst 2, 1) := by decide +kernel
theorem dL_law_199 : decode cL_law 199 = .ok (.iadd, 1) := by decide +kernel
theorem dL_law_200 : decode cL_law 200 = .ok (.iaload, 1) := by decide +kernel
theorem dL_law_201 : decode cL_law 201 = .ok (.aload_n 3, 1) := by decide +kernel
theorem dL_law_202 : decode cL_law 202 = .ok (.invokestatic 91, 3) := by decide +kernel
theorem dL_law_205 : decode cL_law 205 = .ok (.istore 5, 2) := by decide +kernel
theorem dL_law_207 : decode cL_law 207 = .ok (.aload_n 2, 1) := by decide +kernel
theorem dL_law_208 : decode cL_law 208 = .ok (.aload_n 0, 1) := by decide +kernel
theorem dL_law_209 : decode cL_law 209 = .ok (.iload 4, 2) := by decide +kernel
theorem dL_law_211 : decode cL_law 211 = .ok (.iconst 1, 1) := by decide +kernel
theorem dL_law_212 : decode cL_law 212 = .ok (.iadd, 1) := by decide +kernel
theorem dL_law_213 : decode cL_law 213 = .ok (.iaload, 1) := by decide +kernel
theorem dL_law_214 : decode cL_law 214 = .ok (.aload_n 0, 1) := by decide +kernel
theorem dL_law_215 : decode cL_law 215 = .ok (.iload 4, 2) := by decide +kernel
theorem dL_law_217 : decode cL_law 217 = .ok (.iconst 2, 1) := by decide +kernel
theorem dL_law_218 : decode cL_law 218 = .ok (.iadd, 1) := by decide +kernel
theorem dL_law_219 : decode cL_law 219 = .ok (.iaload, 1) := by decide +kernel
theorem dL_law_220 : decode cL_law 220 = .ok (.invokevirtual 94, 3) := by decide +kernel
theorem dL_law_223 : decode cL_law 223 = .ok (.istore 6, 2) := by decide +kernel
theorem dL_law_225 : decode cL_law 225 = .ok (.aload_n 2, 1) := by decide +kernel
theorem dL_law_226 : decode cL_law 226 = .ok (.invokevirtual 87, 3) := by decide +kernel
theorem dL_law_229 : decode cL_law 229 = .ok (.iload 5, 2) := by decide +kernel
theorem dL_law_231 : decode cL_law 231 = .ok (.if_icmp .eq 5, 3) := by decide +kernel
theorem dL_law_234 : decode cL_law 234 = .ok (.iconst 0, 1) := by decide +kernel
theorem dL_law_235 : decode cL_law 235 = .ok (.ireturn, 1) := by decide +kernel
theorem dL_law_236 : decode cL_law 236 = .ok (.iload 5, 2) := by decide +kernel
theorem dL_law_238 : decode cL_law 238 = .ok (.ifCond .ne 15, 3) := by decide +kernel
theorem dL_law_241 : decode cL_law 241 = .ok (.aload_n 3, 1) := by decide +kernel
theorem dL_law_242 : decode cL_law 242 = .ok (.iconst 0, 1) := by decide +kernel
theorem dL_law_243 : decode cL_law 243 = .ok (.laload, 1) := by decide +kernel
theorem dL_law_244 : decode cL_law 244 = .ok (.iload 6, 2) := by decide +kernel
theorem dL_law_246 : decode cL_law 246 = .ok (.i2l, 1) := by decide +kernel
theorem dL_law_247 : decode cL_law 247 = .ok (.lcmp, 1) := by decide +kernel
theorem dL_law_248 : decode cL_law 248 = .ok (.ifCond .eq 5, 3) := by decide +kernel
theorem dL_law_251 : decode cL_law 251 = .ok (.iconst 0, 1) := by decide +kernel
theorem dL_law_252 : decode cL_law 252 = .ok (.ireturn, 1) := by decide +kernel
theorem dL_law_253 : decode cL_law 253 = .ok (.goto 1153, 3) := by decide +kernel
theorem dL_law_256 : decode cL_law 256 = .ok (.aload_n 1, 1) := by decide +kernel
theorem dL_law_257 : decode cL_law 257 = .ok (.aload_n 0, 1) := by decide +kernel
theorem dL_law_258 : decode cL_law 258 = .ok (.iload 4, 2) := by decide +kernel
theorem dL_law_260 : decode cL_law 260 = .ok (.iconst 1, 1) := by decide +kernel
theorem dL_law_261 : decode cL_law 261 = .ok (.iadd, 1) := by decide +kernel
theorem dL_law_262 : decode cL_law 262 = .ok (.iaload, 1) := by decide +kernel
theorem dL_law_263 : decode cL_law 263 = .ok (.aload_n 0, 1) := by decide +kernel
theorem dL_law_264 : decode cL_law 264 = .ok (.iload 4, 2) := by decide +kernel
theorem dL_law_266 : decode cL_law 266 = .ok (.iconst 2, 1) := by decide +kernel
theorem dL_law_267 : decode cL_law 267 = .ok (.iadd, 1) := by decide +kernel
theorem dL_law_268 : decode cL_law 268 = .ok (.iaload, 1) := by decide +kernel
theorem dL_law_269 : decode cL_law 269 = .ok (.aload_n 3, 1) := by decide +kernel
theorem dL_law_270 : decode cL_law 270 = .ok (.invokestatic 95, 3) := by decide +kernel
theorem dL_law_273 : decode cL_law 273 = .ok (.istore 5, 2) := by decide +kernel
theorem dL_law_275 : decode cL_law 275 = .ok (.aload_n 2, 1) := by decide +kernel
theorem dL_law_276 : decode cL_law 276 = .ok (.aload_n 0, 1) := by decide +kernel
theorem dL_law_277 : decode cL_law 277 = .ok (.iload 4, 2) := by decide +kernel
theorem dL_law_279 : decode cL_law 279 = .ok (.iconst 1, 1) := by decide +kernel
theorem dL_law_280 : decode cL_law 280 = .ok (.iadd, 1) := by decide +kernel
theorem dL_law_281 : decode cL_law 281 = .ok (.iaload, 1) := by decide +kernel
theorem dL_law_282 : decode cL_law 282 = .ok (.aload_n 0, 1) := by decide +kernel
theorem dL_law_283 : decode cL_law 283 = .ok (.iload 4, 2) := by decide +kernel
theorem dL_law_285 : decode cL_law 285 = .ok (.iconst 2, 1) := by decide +kernel
theorem dL_law_286 : decode cL_law 286 = .ok (.iadd, 1) := by decide +kernel
theorem dL_law_287 : decode cL_law 287 = .ok (.iaload, 1) := by decide +kernel
theorem dL_law_288 : decode cL_law 288 = .ok (.invokevirtual 97, 3) := by decide +kernel
theorem dL_law_291 : decode cL_law 291 = .ok (.istore 6, 2) := by decide +kernel
theorem dL_law_293 : decode cL_law 293 = .ok (.aload_n 2, 1) := by decide +kernel
theorem dL_law_294 : decode cL_law 294 = .ok (.invokevirtual 87, 3) := by decide +kernel
theorem dL_law_297 : decode cL_law 297 = .ok (.iload 5, 2) := by decide +kernel
theorem dL_law_299 : decode cL_law 299 = .ok (.if_icmp .eq 5, 3) := by decide +kernel
theorem dL_law_302 : decode cL_law 302 = .ok (.iconst 0, 1) := by decide +kernel
theorem dL_law_303 : decode cL_law 303 = .ok (.ireturn, 1) := by decide +kernel
theorem dL_law_304 : decode cL_law 304 = .ok (.iload 5, 2) := by decide +kernel
theorem dL_law_306 : decode cL_law 306 = .ok (.ifCond .ne 15, 3) := by decide +kernel
theorem dL_law_309 : decode cL_law 309 = .ok (.aload_n 3, 1) := by decide +kernel
theorem dL_law_310 : decode cL_law 310 = .ok (.iconst 0, 1) := by decide +kernel
theorem dL_law_311 : decode cL_law 311 = .ok (.laload, 1) := by decide +kernel
theorem dL_law_312 : decode cL_law 312 = .ok (.iload 6, 2) := by decide +kernel
theorem dL_law_314 : decode cL_law 314 = .ok (.i2l, 1) := by decide +kernel
theorem dL_law_315 : decode cL_law 315 = .ok (.lcmp, 1) := by decide +kernel
theorem dL_law_316 : decode cL_law 316 = .ok (.ifCond .eq 5, 3) := by decide +kernel
theorem dL_law_319 : decode cL_law 319 = .ok (.iconst 0, 1) := by decide +kernel
theorem dL_law_320 : decode cL_law 320 = .ok (.ireturn, 1) := by decide +kernel
theorem dL_law_321 : decode cL_law 321 = .ok (.goto 1085, 3) := by decide +kernel
theorem dL_law_324 : decode cL_law 324 = .ok (.aload_n 1, 1) := by decide +kernel
theorem dL_law_325 : decode cL_law 325 = .ok (.aload_n 0, 1) := by decide +kernel
theorem dL_law_326 : decode cL_law 326 = .ok (.iload 4, 2) := by decide +kernel
theorem dL_law_328 : decode cL_law 328 = .ok (.iconst 1, 1) := by decide +kernel
theorem dL_law_329 : decode cL_law 329 = .ok (.iadd, 1) := by decide +kernel
theorem dL_law_330 : decode cL_law 330 = .ok (.iaload, 1) := by decide +kernel
theorem dL_law_331 : decode cL_law 331 = .ok (.aload_n 0, 1) := by decide +kernel
theorem dL_law_332 : decode cL_law 332 = .ok (.iload 4, 2) := by decide +kernel
theorem dL_law_334 : decode cL_law 334 = .ok (.iconst 2, 1) := by decide +kernel
theorem dL_law_335 : decode cL_law 335 = .ok (.iadd, 1) := by decide +kernel
theorem dL_law_336 : decode cL_law 336 = .ok (.iaload, 1) := by decide +kernel
theorem dL_law_337 : decode cL_law 337 = .ok (.aload_n 3, 1) := by decide +kernel
theorem dL_law_338 : decode cL_law 338 = .ok (.invokestatic 98, 3) := by decide +kernel
theorem dL_law_341 : decode cL_law 341 = .ok (.istore 5, 2) := by decide +kernel
theorem dL_law_343 : decode cL_law 343 = .ok (.aload_n 2, 1) := by decide +kernel
theorem dL_law_344 : decode cL_law 344 = .ok (.aload_n 0, 1) := by decide +kernel
theorem dL_law_345 : decode cL_law 345 = .ok (.iload 4, 2) := by decide +kernel
theorem dL_law_347 : decode cL_law 347 = .ok (.iconst 1, 1) := by decide +kernel
theorem dL_law_348 : decode cL_law 348 = .ok (.iadd, 1) := by decide +kernel
theorem dL_law_349 : decode cL_law 349 = .ok (.iaload, 1) := by decide +kernel
theorem dL_law_350 : decode cL_law 350 = .ok (.aload_n 0, 1) := by decide +kernel
theorem dL_law_351 : decode cL_law 351 = .ok (.iload 4, 2) := by decide +kernel
theorem dL_law_353 : decode cL_law 353 = .ok (.iconst 2, 1) := by decide +kernel
theorem dL_law_354 : decode cL_law 354 = .ok (.iadd, 1) := by decide +kernel
theorem dL_law_355 : decode cL_law 355 = .ok (.iaload, 1) := by decide +kernel
theorem dL_law_356 : decode cL_law 356 = .ok (.invokevirtual 100, 3) := by decide +kernel
theorem dL_law_359 : decode cL_law 359 = .ok (.istore 6, 2) := by decide +kernel
theorem dL_law_361 : decode cL_law 361 = .ok (.aload_n 2, 1) := by decide +kernel
theorem dL_law_362 : decode cL_law 362 = .ok (.invokevirtual 87, 3) := by decide +kernel
theorem dL_law_365 : decode cL_law 365 = .ok (.iload 5, 2) := by decide +kernel
theorem dL_law_367 : decode cL_law 367 = .ok (.if_icmp .eq 5, 3) := by decide +kernel
theorem dL_law_370 : decode cL_law 370 = .ok (.iconst 0, 1) := by decide +kernel
theorem dL_law_371 : decode cL_law 371 = .ok (.ireturn, 1) := by decide +kernel
theorem dL_law_372 : decode cL_law 372 = .ok (.iload 5, 2) := by decide +kernel
theorem dL_law_374 : decode cL_law 374 = .ok (.ifCond .ne 15, 3) := by decide +kernel
theorem dL_law_377 : decode cL_law 377 = .ok (.aload_n 3, 1) := by decide +kernel
theorem dL_law_378 : decode cL_law 378 = .ok (.iconst 0, 1) := by decide +kernel
theorem dL_law_379 : decode cL_law 379 = .ok (.laload, 1) := by decide +kernel
theorem dL_law_380 : decode cL_law 380 = .ok (.iload 6, 2) := by decide +kernel
theorem dL_law_382 : decode cL_law 382 = .ok (.i2l, 1) := by decide +kernel
theorem dL_law_383 : decode cL_law 383 = .ok (.lcmp, 1) := by decide +kernel
theorem dL_law_384 : decode cL_law 384 = .ok (.ifCond .eq 5, 3) := by decide +kernel
theorem dL_law_387 : decode cL_law 387 = .ok (.iconst 0, 1) := by decide +kernel
theorem dL_law_388 : decode cL_law 388 = .ok (.ireturn, 1) := by decide +kernel
theorem dL_law_389 : decode cL_law 389 = .ok (.goto 1017, 3) := by decide +kernel
theorem dL_law_392 : decode cL_law 392 = .ok (.aload_n 1, 1) := by decide +kernel
theorem dL_law_393 : decode cL_law 393 = .ok (.aload_n 0, 1) := by decide +kernel
theorem dL_law_394 : decode cL_law 394 = .ok (.iload 4, 2) := by decide +kernel
theorem dL_law_396 : decode cL_law 396 = .ok (.iconst 1, 1) := by decide +kernel
theorem dL_law_397 : decode cL_law 397 = .ok (.iadd, 1) := by decide +kernel
theorem dL_law_398 : decode cL_law 398 = .ok (.iaload, 1) := by decide +kernel
theorem dL_law_399 : decode cL_law 399 = .ok (.aload_n 0, 1) := by decide +kernel
theorem dL_law_400 : decode cL_law 400 = .ok (.iload 4, 2) := by decide +kernel
theorem dL_law_402 : decode cL_law 402 = .ok (.iconst 2, 1) := by decide +kernel
theorem dL_law_403 : decode cL_law 403 = .ok (.iadd, 1) := by decide +kernel
theorem dL_law_404 : decode cL_law 404 = .ok (.iaload, 1) := by decide +kernel
theorem dL_law_405 : decode cL_law 405 = .ok (.aload_n 0, 1) := by decide +kernel
theorem dL_law_406 : decode cL_law 406 = .ok (.iload 4, 2) := by decide +kernel
theorem dL_law_408 : decode cL_law 408 = .ok (.iconst 3, 1) := by decide +kernel
theorem dL_law_409 : decode cL_law 409 = .ok (.iadd, 1) := by decide +kernel
theorem dL_law_410 : decode cL_law 410 = .ok (.iaload, 1) := by decide +kernel
theorem dL_law_411 : decode cL_law 411 = .ok (.aload_n 3, 1) := by decide +kernel
theorem dL_law_412 : decode cL_law 412 = .ok (.invokestatic 101, 3) := by decide +kernel
theorem dL_law_415 : decode cL_law 415 = .ok (.istore 5, 2) := by decide +kernel
theorem dL_law_417 : decode cL_law 417 = .ok (.aload_n 2, 1) := by decide +kernel
theorem dL_law_418 : decode cL_law 418 = .ok (.aload_n 0, 1) := by decide +kernel
theorem dL_law_419 : decode cL_law 419 = .ok (.iload 4, 2) := by decide +kernel
theorem dL_law_421 : decode cL_law 421 = .ok (.iconst 1, 1) := by decide +kernel
theorem dL_law_422 : decode cL_law 422 = .ok (.iadd, 1) := by decide +kernel
theorem dL_law_423 : decode cL_law 423 = .ok (.iaload, 1) := by decide +kernel
theorem dL_law_424 : decode cL_law 424 = .ok (.aload_n 0, 1) := by decide +kernel
theorem dL_law_425 : decode cL_law 425 = .ok (.iload 4, 2) := by decide +kernel
theorem dL_law_427 : decode cL_law 427 = .ok (.iconst 2, 1) := by decide +kernel
theorem dL_law_428 : decode cL_law 428 = .ok (.iadd, 1) := by decide +kernel
theorem dL_law_429 : decode cL_law 429 = .ok (.iaload, 1) := by decide +kernel
theorem dL_law_430 : decode cL_law 430 = .ok (.aload_n 0, 1) := by decide +kernel
theorem dL_law_431 : decode cL_law 431 = .ok (.iload 4, 2) := by decide +kernel
theorem dL_law_433 : decode cL_law 433 = .ok (.iconst 3, 1) := by decide +kernel
theorem dL_law_434 : decode cL_law 434 = .ok (.iadd, 1) := by decide +kernel
theorem dL_law_435 : decode cL_law 435 = .ok (.iaload, 1) := by decide +kernel
theorem dL_law_436 : decode cL_law 436 = .ok (.invokevirtual 104, 3) := by decide +kernel
theorem dL_law_439 : decode cL_law 439 = .ok (.istore 6, 2) := by decide +kernel
theorem dL_law_441 : decode cL_law 441 = .ok (.aload_n 2, 1) := by decide +kernel
theorem dL_law_442 : decode cL_law 442 = .ok (.invokevirtual 87, 3) := by decide +kernel
theorem dL_law_445 : decode cL_law 445 = .ok (.iload 5, 2) := by decide +kernel
theorem dL_law_447 : decode cL_law 447 = .ok (.if_icmp .eq 5, 3) := by decide +kernel
theorem dL_law_450 : decode cL_law 450 = .ok (.iconst 0, 1) := by decide +kernel
theorem dL_law_451 : decode cL_law 451 = .ok (.ireturn, 1) := by decide +kernel
theorem dL_law_452 : decode cL_law 452 = .ok (.iload 5, 2) := by decide +kernel
theorem dL_law_454 : decode cL_law 454 = .ok (.ifCond .ne 15, 3) := by decide +kernel
theorem dL_law_457 : decode cL_law 457 = .ok (.aload_n 3, 1) := by decide +kernel
theorem dL_law_458 : decode cL_law 458 = .ok (.iconst 0, 1) := by decide +kernel
theorem dL_law_459 : decode cL_law 459 = .ok (.laload, 1) := by decide +kernel
theorem dL_law_460 : decode cL_law 460 = .ok (.iload 6, 2) := by decide +kernel
theorem dL_law_462 : decode cL_law 462 = .ok (.i2l, 1) := by decide +kernel
theorem dL_law_463 : decode cL_law 463 = .ok (.lcmp, 1) := by decide +kernel
theorem dL_law_464 : decode cL_law 464 = .ok (.ifCond .eq 5, 3) := by decide +kernel
theorem dL_law_467 : decode cL_law 467 = .ok (.iconst 0, 1) := by decide +kernel
theorem dL_law_468 : decode cL_law 468 = .ok (.ireturn, 1) := by decide +kernel
theorem dL_law_469 : decode cL_law 469 = .ok (.goto 937, 3) := by decide +kernel
theorem dL_law_472 : decode cL_law 472 = .ok (.aload_n 1, 1) := by decide +kernel
theorem dL_law_473 : decode cL_law 473 = .ok (.aload_n 0, 1) := by decide +kernel
theorem dL_law_474 : decode cL_law 474 = .ok (.iload 4, 2) := by decide +kernel
theorem dL_law_476 : decode cL_law 476 = .ok (.iconst 1, 1) := by decide +kernel
theorem dL_law_477 : decode cL_law 477 = .ok (.iadd, 1) := by decide +kernel
theorem dL_law_478 : decode cL_law 478 = .ok (.iaload, 1) := by decide +kernel
theorem dL_law_479 : decode cL_law 479 = .ok (.aload_n 0, 1) := by decide +kernel
theorem dL_law_480 : decode cL_law 480 = .ok (.iload 4, 2) := by decide +kernel
theorem dL_law_482 : decode cL_law 482 = .ok (.iconst 2, 1) := by decide +kernel
theorem dL_law_483 : decode cL_law 483 = .ok (.iadd, 1) := by decide +kernel
theorem dL_law_484 : decode cL_law 484 = .ok (.iaload, 1) := by decide +kernel
theorem dL_law_485 : decode cL_law 485 = .ok (.aload_n 3, 1) := by decide +kernel
theorem dL_law_486 : decode cL_law 486 = .ok (.invokestatic 105, 3) := by decide +kernel
theorem dL_law_489 : decode cL_law 489 = .ok (.istore 5, 2) := by decide +kernel
theorem dL_law_491 : decode cL_law 491 = .ok (.aload_n 2, 1) := by decide +kernel
theorem dL_law_492 : decode cL_law 492 = .ok (.aload_n 0, 1) := by decide +kernel
theorem dL_law_493 : decode cL_law 493 = .ok (.iload 4, 2) := by decide +kernel
theorem dL_law_495 : decode cL_law 495 = .ok (.iconst 1, 1) := by decide +kernel
theorem dL_law_496 : decode cL_law 496 = .ok (.iadd, 1) := by decide +kernel
theorem dL_law_497 : decode cL_law 497 = .ok (.iaload, 1) := by decide +kernel
theorem dL_law_498 : decode cL_law 498 = .ok (.aload_n 0, 1) := by decide +kernel
theorem dL_law_499 : decode cL_law 499 = .ok (.iload 4, 2) := by decide +kernel
theorem dL_law_501 : decode cL_law 501 = .ok (.iconst 2, 1) := by decide +kernel
theorem dL_law_502 : decode cL_law 502 = .ok (.iadd, 1) := by decide +kernel
theorem dL_law_503 : decode cL_law 503 = .ok (.iaload, 1) := by decide +kernel
theorem dL_law_504 : decode cL_law 504 = .ok (.invokevirtual 107, 3) := by decide +kernel
theorem dL_law_507 : decode cL_law 507 = .ok (.istore 6, 2) := by decide +kernel
theorem dL_law_509 : decode cL_law 509 = .ok (.aload_n 2, 1) := by decide +kernel
theorem dL_law_510 : decode cL_law 510 = .ok (.invokevirtual 87, 3) := by decide +kernel
theorem dL_law_513 : decode cL_law 513 = .ok (.iload 5, 2) := by decide +kernel
theorem dL_law_515 : decode cL_law 515 = .ok (.if_icmp .eq 5, 3) := by decide +kernel
theorem dL_law_518 : decode cL_law 518 = .ok (.iconst 0, 1) := by decide +kernel
theorem dL_law_519 : decode cL_law 519 = .ok (.ireturn, 1) := by decide +kernel
theorem dL_law_520 : decode cL_law 520 = .ok (.iload 5, 2) := by decide +kernel
theorem dL_law_522 : decode cL_law 522 = .ok (.ifCond .ne 22, 3) := by decide +kernel
theorem dL_law_525 : decode cL_law 525 = .ok (.aload_n 3, 1) := by decide +kernel
theorem dL_law_526 : decode cL_law 526 = .ok (.iconst 0, 1) := by decide +kernel
theorem dL_law_527 : decode cL_law 527 = .ok (.laload, 1) := by decide +kernel
theorem dL_law_528 : decode cL_law 528 = .ok (.iload 6, 2) := by decide +kernel
theorem dL_law_530 : decode cL_law 530 = .ok (.ifCond .eq 7, 3) := by decide +kernel
theorem dL_law_533 : decode cL_law 533 = .ok (.lconst 1, 1) := by decide +kernel
theorem dL_law_534 : decode cL_law 534 = .ok (.goto 4, 3) := by decide +kernel
theorem dL_law_537 : decode cL_law 537 = .ok (.lconst 0, 1) := by decide +kernel
theorem dL_law_538 : decode cL_law 538 = .ok (.lcmp, 1) := by decide +kernel
theorem dL_law_539 : decode cL_law 539 = .ok (.ifCond .eq 5, 3) := by decide +kernel
theorem dL_law_542 : decode cL_law 542 = .ok (.iconst 0, 1) := by decide +kernel
theorem dL_law_543 : decode cL_law 543 = .ok (.ireturn, 1) := by decide +kernel
theorem dL_law_544 : decode cL_law 544 = .ok (.goto 862, 3) := by decide +kernel
theorem dL_law_547 : decode cL_law 547 = .ok (.aload_n 1, 1) := by decide +kernel
theorem dL_law_548 : decode cL_law 548 = .ok (.aload_n 0, 1) := by decide +kernel
theorem dL_law_549 : decode cL_law 549 = .ok (.iload 4, 2) := by decide +kernel
theorem dL_law_551 : decode cL_law 551 = .ok (.iconst 1, 1) := by decide +kernel
theorem dL_law_552 : decode cL_law 552 = .ok (.iadd, 1) := by decide +kernel
theorem dL_law_553 : decode cL_law 553 = .ok (.iaload, 1) := by decide +kernel
theorem dL_law_554 : decode cL_law 554 = .ok (.aload_n 3, 1) := by decide +kernel
theorem dL_law_555 : decode cL_law 555 = .ok (.invokestatic 108, 3) := by decide +kernel
theorem dL_law_558 : decode cL_law 558 = .ok (.istore 5, 2) := by decide +kernel
theorem dL_law_560 : decode cL_law 560 = .ok (.aload_n 2, 1) := by decide +kernel
theorem dL_law_561 : decode cL_law 561 = .ok (.aload_n 0, 1) := by decide +kernel
theorem dL_law_562 : decode cL_law 562 = .ok (.iload 4, 2) := by decide +kernel
theorem dL_law_564 : decode cL_law 564 = .ok (.iconst 1, 1) := by decide +kernel
theorem dL_law_565 : decode cL_law 565 = .ok (.iadd, 1) := by decide +kernel
theorem dL_law_566 : decode cL_law 566 = .ok (.iaload, 1) := by decide +kernel
theorem dL_law_567 : decode cL_law 567 = .ok (.invokevirtual 111, 3) := by decide +kernel
theorem dL_law_570 : decode cL_law 570 = .ok (.istore 6, 2) := by decide +kernel
theorem dL_law_572 : decode cL_law 572 = .ok (.aload_n 2, 1) := by decide +kernel
theorem dL_law_573 : decode cL_law 573 = .ok (.invokevirtual 87, 3) := by decide +kernel
theorem dL_law_576 : decode cL_law 576 = .ok (.iload 5, 2) := by decide +kernel
theorem dL_law_578 : decode cL_law 578 = .ok (.if_icmp .eq 5, 3) := by decide +kernel
theorem dL_law_581 : decode cL_law 581 = .ok (.iconst 0, 1) := by decide +kernel
theorem dL_law_582 : decode cL_law 582 = .ok (.ireturn, 1) := by decide +kernel
theorem dL_law_583 : decode cL_law 583 = .ok (.iload 5, 2) := by decide +kernel
theorem dL_law_585 : decode cL_law 585 = .ok (.ifCond .ne 15, 3) := by decide +kernel
theorem dL_law_588 : decode cL_law 588 = .ok (.aload_n 3, 1) := by decide +kernel
theorem dL_law_589 : decode cL_law 589 = .ok (.iconst 0, 1) := by decide +kernel
theorem dL_law_590 : decode cL_law 590 = .ok (.laload, 1) := by decide +kernel
theorem dL_law_591 : decode cL_law 591 = .ok (.iload 6, 2) := by decide +kernel
theorem dL_law_593 : decode cL_law 593 = .ok (.i2l, 1) := by decide +kernel
theorem dL_law_594 : decode cL_law 594 = .ok (.lcmp, 1) := by decide +kernel
theorem dL_law_595 : decode cL_law 595 = .ok (.ifCond .eq 5, 3) := by decide +kernel
theorem dL_law_598 : decode cL_law 598 = .ok (.iconst 0, 1) := by decide +kernel
theorem dL_law_599 : decode cL_law 599 = .ok (.ireturn, 1) := by decide +kernel
theorem dL_law_600 : decode cL_law 600 = .ok (.goto 806, 3) := by decide +kernel
theorem dL_law_603 : decode cL_law 603 = .ok (.aload_n 1, 1) := by decide +kernel
theorem dL_law_604 : decode cL_law 604 = .ok (.aload_n 0, 1) := by decide +kernel
theorem dL_law_605 : decode cL_law 605 = .ok (.iload 4, 2) := by decide +kernel
theorem dL_law_607 : decode cL_law 607 = .ok (.iconst 1, 1) := by decide +kernel
theorem dL_law_608 : decode cL_law 608 = .ok (.iadd, 1) := by decide +kernel
theorem dL_law_609 : decode cL_law 609 = .ok (.iaload, 1) := by decide +kernel
theorem dL_law_610 : decode cL_law 610 = .ok (.aload_n 3, 1) := by decide +kernel
theorem dL_law_611 : decode cL_law 611 = .ok (.invokestatic 112, 3) := by decide +kernel
theorem dL_law_614 : decode cL_law 614 = .ok (.istore 5, 2) := by decide +kernel
theorem dL_law_616 : decode cL_law 616 = .ok (.aload_n 2, 1) := by decide +kernel
theorem dL_law_617 : decode cL_law 617 = .ok (.aload_n 0, 1) := by decide +kernel
theorem dL_law_618 : decode cL_law 618 = .ok (.iload 4, 2) := by decide +kernel
theorem dL_law_620 : decode cL_law 620 = .ok (.iconst 1, 1) := by decide +kernel
theorem dL_law_621 : decode cL_law 621 = .ok (.iadd, 1) := by decide +kernel
theorem dL_law_622 : decode cL_law 622 = .ok (.iaload, 1) := by decide +kernel
theorem dL_law_623 : decode cL_law 623 = .ok (.invokevirtual 114, 3) := by decide +kernel
theorem dL_law_626 : decode cL_law 626 = .ok (.istore 6, 2) := by decide +kernel
theorem dL_law_628 : decode cL_law 628 = .ok (.aload_n 2, 1) := by decide +kernel
theorem dL_law_629 : decode cL_law 629 = .ok (.invokevirtual 87, 3) := by decide +kernel
theorem dL_law_632 : decode cL_law 632 = .ok (.iload 5, 2) := by decide +kernel
theorem dL_law_634 : decode cL_law 634 = .ok (.if_icmp .eq 5, 3) := by decide +kernel
theorem dL_law_637 : decode cL_law 637 = .ok (.iconst 0, 1) := by decide +kernel
theorem dL_law_638 : decode cL_law 638 = .ok (.ireturn, 1) := by decide +kernel
theorem dL_law_639 : decode cL_law 639 = .ok (.iload 5, 2) := by decide +kernel
theorem dL_law_641 : decode cL_law 641 = .ok (.ifCond .ne 22, 3) := by decide +kernel
theorem dL_law_644 : decode cL_law 644 = .ok (.aload_n 3, 1) := by decide +kernel
theorem dL_law_645 : decode cL_law 645 = .ok (.iconst 0, 1) := by decide +kernel
theorem dL_law_646 : decode cL_law 646 = .ok (.laload, 1) := by decide +kernel
theorem dL_law_647 : decode cL_law 647 = .ok (.iload 6, 2) := by decide +kernel
theorem dL_law_649 : decode cL_law 649 = .ok (.ifCond .eq 7, 3) := by decide +kernel
theorem dL_law_652 : decode cL_law 652 = .ok (.lconst 1, 1) := by decide +kernel
theorem dL_law_653 : decode cL_law 653 = .ok (.goto 4, 3) := by decide +kernel
theorem dL_law_656 : decode cL_law 656 = .ok (.lconst 0, 1) := by decide +kernel
theorem dL_law_657 : decode cL_law 657 = .ok (.lcmp, 1) := by decide +kernel
theorem dL_law_658 : decode cL_law 658 = .ok (.ifCond .eq 5, 3) := by decide +kernel
theorem dL_law_661 : decode cL_law 661 = .ok (.iconst 0, 1) := by decide +kernel
theorem dL_law_662 : decode cL_law 662 = .ok (.ireturn, 1) := by decide +kernel
theorem dL_law_663 : decode cL_law 663 = .ok (.goto 743, 3) := by decide +kernel
theorem dL_law_666 : decode cL_law 666 = .ok (.aload_n 1, 1) := by decide +kernel
theorem dL_law_667 : decode cL_law 667 = .ok (.aload_n 0, 1) := by decide +kernel
theorem dL_law_668 : decode cL_law 668 = .ok (.iload 4, 2) := by decide +kernel
theorem dL_law_670 : decode cL_law 670 = .ok (.iconst 1, 1) := by decide +kernel
theorem dL_law_671 : decode cL_law 671 = .ok (.iadd, 1) := by decide +kernel
theorem dL_law_672 : decode cL_law 672 = .ok (.iaload, 1) := by decide +kernel
theorem dL_law_673 : decode cL_law 673 = .ok (.aload_n 0, 1) := by decide +kernel
theorem dL_law_674 : decode cL_law 674 = .ok (.iload 4, 2) := by decide +kernel
theorem dL_law_676 : decode cL_law 676 = .ok (.iconst 2, 1) := by decide +kernel
theorem dL_law_677 : decode cL_law 677 = .ok (.iadd, 1) := by decide +kernel
theorem dL_law_678 : decode cL_law 678 = .ok (.iaload, 1) := by decide +kernel
theorem dL_law_679 : decode cL_law 679 = .ok (.aload_n 0, 1) := by decide +kernel
theorem dL_law_680 : decode cL_law 680 = .ok (.iload 4, 2) := by decide +kernel
theorem dL_law_682 : decode cL_law 682 = .ok (.iconst 3, 1) := by decide +kernel
theorem dL_law_683 : decode cL_law 683 = .ok (.iadd, 1) := by decide +kernel
theorem dL_law_684 : decode cL_law 684 = .ok (.iaload, 1) := by decide +kernel
theorem dL_law_685 : decode cL_law 685 = .ok (.aload_n 3, 1) := by decide +kernel
theorem dL_law_686 : decode cL_law 686 = .ok (.invokestatic 115, 3) := by decide +kernel
theorem dL_law_689 : decode cL_law 689 = .ok (.istore 5, 2) := by decide +kernel
theorem dL_law_691 : decode cL_law 691 = .ok (.aload_n 2, 1) := by decide +kernel
theorem dL_law_692 : decode cL_law 692 = .ok (.aload_n 0, 1) := by decide +kernel
theorem dL_law_693 : decode cL_law 693 = .ok (.iload 4, 2) := by decide +kernel
theorem dL_law_695 : decode cL_law 695 = .ok (.iconst 1, 1) := by decide +kernel
theorem dL_law_696 : decode cL_law 696 = .ok (.iadd, 1) := by decide +kernel
theorem dL_law_697 : decode cL_law 697 = .ok (.iaload, 1) := by decide +kernel
theorem dL_law_698 : decode cL_law 698 = .ok (.aload_n 0, 1) := by decide +kernel
theorem dL_law_699 : decode cL_law 699 = .ok (.iload 4, 2) := by decide +kernel
theorem dL_law_701 : decode cL_law 701 = .ok (.iconst 2, 1) := by decide +kernel
theorem dL_law_702 : decode cL_law 702 = .ok (.iadd, 1) := by decide +kernel
theorem dL_law_703 : decode cL_law 703 = .ok (.iaload, 1) := by decide +kernel
theorem dL_law_704 : decode cL_law 704 = .ok (.aload_n 0, 1) := by decide +kernel
theorem dL_law_705 : decode cL_law 705 = .ok (.iload 4, 2) := by decide +kernel
theorem dL_law_707 : decode cL_law 707 = .ok (.iconst 3, 1) := by decide +kernel
theorem dL_law_708 : decode cL_law 708 = .ok (.iadd, 1) := by decide +kernel
theorem dL_law_709 : decode cL_law 709 = .ok (.iaload, 1) := by decide +kernel
theorem dL_law_710 : decode cL_law 710 = .ok (.invokevirtual 117, 3) := by decide +kernel
theorem dL_law_713 : decode cL_law 713 = .ok (.istore 6, 2) := by decide +kernel
theorem dL_law_715 : decode cL_law 715 = .ok (.aload_n 2, 1) := by decide +kernel
theorem dL_law_716 : decode cL_law 716 = .ok (.invokevirtual 87, 3) := by decide +kernel
theorem dL_law_719 : decode cL_law 719 = .ok (.iload 5, 2) := by decide +kernel
theorem dL_law_721 : decode cL_law 721 = .ok (.if_icmp .eq 5, 3) := by decide +kernel
theorem dL_law_724 : decode cL_law 724 = .ok (.iconst 0, 1) := by decide +kernel
theorem dL_law_725 : decode cL_law 725 = .ok (.ireturn, 1) := by decide +kernel
theorem dL_law_726 : decode cL_law 726 = .ok (.iload 5, 2) := by decide +kernel
theorem dL_law_728 : decode cL_law 728 = .ok (.ifCond .ne 15, 3) := by decide +kernel
theorem dL_law_731 : decode cL_law 731 = .ok (.aload_n 3, 1) := by decide +kernel
theorem dL_law_732 : decode cL_law 732 = .ok (.iconst 0, 1) := by decide +kernel
theorem dL_law_733 : decode cL_law 733 = .ok (.laload, 1) := by decide +kernel
theorem dL_law_734 : decode cL_law 734 = .ok (.iload 6, 2) := by decide +kernel
theorem dL_law_736 : decode cL_law 736 = .ok (.i2l, 1) := by decide +kernel
theorem dL_law_737 : decode cL_law 737 = .ok (.lcmp, 1) := by decide +kernel
theorem dL_law_738 : decode cL_law 738 = .ok (.ifCond .eq 5, 3) := by decide +kernel
theorem dL_law_741 : decode cL_law 741 = .ok (.iconst 0, 1) := by decide +kernel
theorem dL_law_742 : decode cL_law 742 = .ok (.ireturn, 1) := by decide +kernel
theorem dL_law_743 : decode cL_law 743 = .ok (.goto 663, 3) := by decide +kernel
theorem dL_law_746 : decode cL_law 746 = .ok (.aload_n 1, 1) := by decide +kernel
theorem dL_law_747 : decode cL_law 747 = .ok (.aload_n 0, 1) := by decide +kernel
theorem dL_law_748 : decode cL_law 748 = .ok (.iload 4, 2) := by decide +kernel
theorem dL_law_750 : decode cL_law 750 = .ok (.iconst 1, 1) := by decide +kernel
theorem dL_law_751 : decode cL_law 751 = .ok (.iadd, 1) := by decide +kernel
theorem dL_law_752 : decode cL_law 752 = .ok (.iaload, 1) := by decide +kernel
theorem dL_law_753 : decode cL_law 753 = .ok (.aload_n 0, 1) := by decide +kernel
theorem dL_law_754 : decode cL_law 754 = .ok (.iload 4, 2) := by decide +kernel
theorem dL_law_756 : decode cL_law 756 = .ok (.iconst 2, 1) := by decide +kernel
theorem dL_law_757 : decode cL_law 757 = .ok (.iadd, 1) := by decide +kernel
theorem dL_law_758 : decode cL_law 758 = .ok (.iaload, 1) := by decide +kernel
theorem dL_law_759 : decode cL_law 759 = .ok (.aload_n 3, 1) := by decide +kernel
theorem dL_law_760 : decode cL_law 760 = .ok (.invokestatic 118, 3) := by decide +kernel
theorem dL_law_763 : decode cL_law 763 = .ok (.istore 5, 2) := by decide +kernel
theorem dL_law_765 : decode cL_law 765 = .ok (.aload_n 2, 1) := by decide +kernel
theorem dL_law_766 : decode cL_law 766 = .ok (.aload_n 0, 1) := by decide +kernel
theorem dL_law_767 : decode cL_law 767 = .ok (.iload 4, 2) := by decide +kernel
theorem dL_law_769 : decode cL_law 769 = .ok (.iconst 1, 1) := by decide +kernel
theorem dL_law_770 : decode cL_law 770 = .ok (.iadd, 1) := by decide +kernel
theorem dL_law_771 : decode cL_law 771 = .ok (.iaload, 1) := by decide +kernel
theorem dL_law_772 : decode cL_law 772 = .ok (.aload_n 0, 1) := by decide +kernel
theorem dL_law_773 : decode cL_law 773 = .ok (.iload 4, 2) := by decide +kernel
theorem dL_law_775 : decode cL_law 775 = .ok (.iconst 2, 1) := by decide +kernel
theorem dL_law_776 : decode cL_law 776 = .ok (.iadd, 1) := by decide +kernel
theorem dL_law_777 : decode cL_law 777 = .ok (.iaload, 1) := by decide +kernel
theorem dL_law_778 : decode cL_law 778 = .ok (.invokevirtual 120, 3) := by decide +kernel
theorem dL_law_781 : decode cL_law 781 = .ok (.istore 6, 2) := by decide +kernel
theorem dL_law_783 : decode cL_law 783 = .ok (.aload_n 2, 1) := by decide +kernel
theorem dL_law_784 : decode cL_law 784 = .ok (.invokevirtual 87, 3) := by decide +kernel
theorem dL_law_787 : decode cL_law 787 = .ok (.iload 5, 2) := by decide +kernel
theorem dL_law_789 : decode cL_law 789 = .ok (.if_icmp .eq 5, 3) := by decide +kernel
theorem dL_law_792 : decode cL_law 792 = .ok (.iconst 0, 1) := by decide +kernel
theorem dL_law_793 : decode cL_law 793 = .ok (.ireturn, 1) := by decide +kernel
theorem dL_law_794 : decode cL_law 794 = .ok (.iload 5, 2) := by decide +kernel
theorem dL_law_796 : decode cL_law 796 = .ok (.ifCond .ne 15, 3) := by decide +kernel
theorem dL_law_799 : decode cL_law 799 = .ok (.aload_n 3, 1) := by decide +kernel
theorem dL_law_800 : decode cL_law 800 = .ok (.iconst 0, 1) := by decide +kernel
theorem dL_law_801 : decode cL_law 801 = .ok (.laload, 1) := by decide +kernel
theorem dL_law_802 : decode cL_law 802 = .ok (.iload 6, 2) := by decide +kernel
theorem dL_law_804 : decode cL_law 804 = .ok (.i2l, 1) := by decide +kernel
theorem dL_law_805 : decode cL_law 805 = .ok (.lcmp, 1) := by decide +kernel
theorem dL_law_806 : decode cL_law 806 = .ok (.ifCond .eq 5, 3) := by decide +kernel
theorem dL_law_809 : decode cL_law 809 = .ok (.iconst 0, 1) := by decide +kernel
theorem dL_law_810 : decode cL_law 810 = .ok (.ireturn, 1) := by decide +kernel
theorem dL_law_811 : decode cL_law 811 = .ok (.goto 595, 3) := by decide +kernel
theorem dL_law_814 : decode cL_law 814 = .ok (.aload_n 1, 1) := by decide +kernel
theorem dL_law_815 : decode cL_law 815 = .ok (.aload_n 0, 1) := by decide +kernel
theorem dL_law_816 : decode cL_law 816 = .ok (.iload 4, 2) := by decide +kernel
theorem dL_law_818 : decode cL_law 818 = .ok (.iconst 1, 1) := by decide +kernel
theorem dL_law_819 : decode cL_law 819 = .ok (.iadd, 1) := by decide +kernel
theorem dL_law_820 : decode cL_law 820 = .ok (.iaload, 1) := by decide +kernel
theorem dL_law_821 : decode cL_law 821 = .ok (.aload_n 0, 1) := by decide +kernel
theorem dL_law_822 : decode cL_law 822 = .ok (.iload 4, 2) := by decide +kernel
theorem dL_law_824 : decode cL_law 824 = .ok (.iconst 2, 1) := by decide +kernel
theorem dL_law_825 : decode cL_law 825 = .ok (.iadd, 1) := by decide +kernel
theorem dL_law_826 : decode cL_law 826 = .ok (.iaload, 1) := by decide +kernel
theorem dL_law_827 : decode cL_law 827 = .ok (.aload_n 0, 1) := by decide +kernel
theorem dL_law_828 : decode cL_law 828 = .ok (.iload 4, 2) := by decide +kernel
theorem dL_law_830 : decode cL_law 830 = .ok (.iconst 3, 1) := by decide +kernel
theorem dL_law_831 : decode cL_law 831 = .ok (.iadd, 1) := by decide +kernel
theorem dL_law_832 : decode cL_law 832 = .ok (.iaload, 1) := by decide +kernel
theorem dL_law_833 : decode cL_law 833 = .ok (.aload_n 0, 1) := by decide +kernel
theorem dL_law_834 : decode cL_law 834 = .ok (.iload 4, 2) := by decide +kernel
theorem dL_law_836 : decode cL_law 836 = .ok (.iconst 4, 1) := by decide +kernel
theorem dL_law_837 : decode cL_law 837 = .ok (.iadd, 1) := by decide +kernel
theorem dL_law_838 : decode cL_law 838 = .ok (.iaload, 1) := by decide +kernel
theorem dL_law_839 : decode cL_law 839 = .ok (.aload_n 0, 1) := by decide +kernel
theorem dL_law_840 : decode cL_law 840 = .ok (.iload 4, 2) := by decide +kernel
theorem dL_law_842 : decode cL_law 842 = .ok (.iconst 5, 1) := by decide +kernel
theorem dL_law_843 : decode cL_law 843 = .ok (.iadd, 1) := by decide +kernel
theorem dL_law_844 : decode cL_law 844 = .ok (.iaload, 1) := by decide +kernel
theorem dL_law_845 : decode cL_law 845 = .ok (.aload_n 3, 1) := by decide +kernel
theorem dL_law_846 : decode cL_law 846 = .ok (.invokestatic 121, 3) := by decide +kernel
theorem dL_law_849 : decode cL_law 849 = .ok (.istore 5, 2) := by decide +kernel
theorem dL_law_851 : decode cL_law 851 = .ok (.aload_n 2, 1) := by decide +kernel
theorem dL_law_852 : decode cL_law 852 = .ok (.aload_n 0, 1) := by decide +kernel
theorem dL_law_853 : decode cL_law 853 = .ok (.iload 4, 2) := by decide +kernel
theorem dL_law_855 : decode cL_law 855 = .ok (.iconst 1, 1) := by decide +kernel
theorem dL_law_856 : decode cL_law 856 = .ok (.iadd, 1) := by decide +kernel
theorem dL_law_857 : decode cL_law 857 = .ok (.iaload, 1) := by decide +kernel
theorem dL_law_858 : decode cL_law 858 = .ok (.aload_n 0, 1) := by decide +kernel
theorem dL_law_859 : decode cL_law 859 = .ok (.iload 4, 2) := by decide +kernel
theorem dL_law_861 : decode cL_law 861 = .ok (.iconst 2, 1) := by decide +kernel
theorem dL_law_862 : decode cL_law 862 = .ok (.iadd, 1) := by decide +kernel
theorem dL_law_863 : decode cL_law 863 = .ok (.iaload, 1) := by decide +kernel
theorem dL_law_864 : decode cL_law 864 = .ok (.aload_n 0, 1) := by decide +kernel
theorem dL_law_865 : decode cL_law 865 = .ok (.iload 4, 2) := by decide +kernel
theorem dL_law_867 : decode cL_law 867 = .ok (.iconst 3, 1) := by decide +kernel
theorem dL_law_868 : decode cL_law 868 = .ok (.iadd, 1) := by decide +kernel
theorem dL_law_869 : decode cL_law 869 = .ok (.iaload, 1) := by decide +kernel
theorem dL_law_870 : decode cL_law 870 = .ok (.aload_n 0, 1) := by decide +kernel
theorem dL_law_871 : decode cL_law 871 = .ok (.iload 4, 2) := by decide +kernel
theorem dL_law_873 : decode cL_law 873 = .ok (.iconst 4, 1) := by decide +kernel
theorem dL_law_874 : decode cL_law 874 = .ok (.iadd, 1) := by decide +kernel
theorem dL_law_875 : decode cL_law 875 = .ok (.iaload, 1) := by decide +kernel
theorem dL_law_876 : decode cL_law 876 = .ok (.aload_n 0, 1) := by decide +kernel
theorem dL_law_877 : decode cL_law 877 = .ok (.iload 4, 2) := by decide +kernel
theorem dL_law_879 : decode cL_law 879 = .ok (.iconst 5, 1) := by decide +kernel
theorem dL_law_880 : decode cL_law 880 = .ok (.iadd, 1) := by decide +kernel
theorem dL_law_881 : decode cL_law 881 = .ok (.iaload, 1) := by decide +kernel
theorem dL_law_882 : decode cL_law 882 = .ok (.invokevirtual 124, 3) := by decide +kernel
theorem dL_law_885 : decode cL_law 885 = .ok (.istore 6, 2) := by decide +kernel
theorem dL_law_887 : decode cL_law 887 = .ok (.aload_n 2, 1) := by decide +kernel
theorem dL_law_888 : decode cL_law 888 = .ok (.invokevirtual 87, 3) := by decide +kernel
theorem dL_law_891 : decode cL_law 891 = .ok (.iload 5, 2) := by decide +kernel
theorem dL_law_893 : decode cL_law 893 = .ok (.if_icmp .eq 5, 3) := by decide +kernel
theorem dL_law_896 : decode cL_law 896 = .ok (.iconst 0, 1) := by decide +kernel
theorem dL_law_897 : decode cL_law 897 = .ok (.ireturn, 1) := by decide +kernel
theorem dL_law_898 : decode cL_law 898 = .ok (.iload 5, 2) := by decide +kernel
theorem dL_law_900 : decode cL_law 900 = .ok (.ifCond .ne 15, 3) := by decide +kernel
theorem dL_law_903 : decode cL_law 903 = .ok (.aload_n 3, 1) := by decide +kernel
theorem dL_law_904 : decode cL_law 904 = .ok (.iconst 0, 1) := by decide +kernel
theorem dL_law_905 : decode cL_law 905 = .ok (.laload, 1) := by decide +kernel
theorem dL_law_906 : decode cL_law 906 = .ok (.iload 6, 2) := by decide +kernel
theorem dL_law_908 : decode cL_law 908 = .ok (.i2l, 1) := by decide +kernel
theorem dL_law_909 : decode cL_law 909 = .ok (.lcmp, 1) := by decide +kernel
theorem dL_law_910 : decode cL_law 910 = .ok (.ifCond .eq 5, 3) := by decide +kernel
theorem dL_law_913 : decode cL_law 913 = .ok (.iconst 0, 1) := by decide +kernel
theorem dL_law_914 : decode cL_law 914 = .ok (.ireturn, 1) := by decide +kernel
theorem dL_law_915 : decode cL_law 915 = .ok (.goto 491, 3) := by decide +kernel
theorem dL_law_918 : decode cL_law 918 = .ok (.aload_n 1, 1) := by decide +kernel
theorem dL_law_919 : decode cL_law 919 = .ok (.aload_n 0, 1) := by decide +kernel
theorem dL_law_920 : decode cL_law 920 = .ok (.iload 4, 2) := by decide +kernel
theorem dL_law_922 : decode cL_law 922 = .ok (.iconst 1, 1) := by decide +kernel
theorem dL_law_923 : decode cL_law 923 = .ok (.iadd, 1) := by decide +kernel
theorem dL_law_924 : decode cL_law 924 = .ok (.iaload, 1) := by decide +kernel
theorem dL_law_925 : decode cL_law 925 = .ok (.aload_n 0, 1) := by decide +kernel
theorem dL_law_926 : decode cL_law 926 = .ok (.iload 4, 2) := by decide +kernel
theorem dL_law_928 : decode cL_law 928 = .ok (.iconst 2, 1) := by decide +kernel
theorem dL_law_929 : decode cL_law 929 = .ok (.iadd, 1) := by decide +kernel
theorem dL_law_930 : decode cL_law 930 = .ok (.iaload, 1) := by decide +kernel
theorem dL_law_931 : decode cL_law 931 = .ok (.aload_n 0, 1) := by decide +kernel
theorem dL_law_932 : decode cL_law 932 = .ok (.iload 4, 2) := by decide +kernel
theorem dL_law_934 : decode cL_law 934 = .ok (.iconst 3, 1) := by decide +kernel
theorem dL_law_935 : decode cL_law 935 = .ok (.iadd, 1) := by decide +kernel
theorem dL_law_936 : decode cL_law 936 = .ok (.iaload, 1) := by decide +kernel
theorem dL_law_937 : decode cL_law 937 = .ok (.aload_n 0, 1) := by decide +kernel
theorem dL_law_938 : decode cL_law 938 = .ok (.iload 4, 2) := by decide +kernel
theorem dL_law_940 : decode cL_law 940 = .ok (.iconst 4, 1) := by decide +kernel
theorem dL_law_941 : decode cL_law 941 = .ok (.iadd, 1) := by decide +kernel
theorem dL_law_942 : decode cL_law 942 = .ok (.iaload, 1) := by decide +kernel
theorem dL_law_943 : decode cL_law 943 = .ok (.aload_n 3, 1) := by decide +kernel
theorem dL_law_944 : decode cL_law 944 = .ok (.invokestatic 125, 3) := by decide +kernel
theorem dL_law_947 : decode cL_law 947 = .ok (.istore 5, 2) := by decide +kernel
theorem dL_law_949 : decode cL_law 949 = .ok (.aload_n 2, 1) := by decide +kernel
theorem dL_law_950 : decode cL_law 950 = .ok (.aload_n 0, 1) := by decide +kernel
theorem dL_law_951 : decode cL_law 951 = .ok (.iload 4, 2) := by decide +kernel
theorem dL_law_953 : decode cL_law 953 = .ok (.iconst 1, 1) := by decide +kernel
theorem dL_law_954 : decode cL_law 954 = .ok (.iadd, 1) := by decide +kernel
theorem dL_law_955 : decode cL_law 955 = .ok (.iaload, 1) := by decide +kernel
theorem dL_law_956 : decode cL_law 956 = .ok (.aload_n 0, 1) := by decide +kernel
theorem dL_law_957 : decode cL_law 957 = .ok (.iload 4, 2) := by decide +kernel
theorem dL_law_959 : decode cL_law 959 = .ok (.iconst 2, 1) := by decide +kernel
theorem dL_law_960 : decode cL_law 960 = .ok (.iadd, 1) := by decide +kernel
theorem dL_law_961 : decode cL_law 961 = .ok (.iaload, 1) := by decide +kernel
theorem dL_law_962 : decode cL_law 962 = .ok (.aload_n 0, 1) := by decide +kernel
theorem dL_law_963 : decode cL_law 963 = .ok (.iload 4, 2) := by decide +kernel
theorem dL_law_965 : decode cL_law 965 = .ok (.iconst 3, 1) := by decide +kernel
theorem dL_law_966 : decode cL_law 966 = .ok (.iadd, 1) := by decide +kernel
theorem dL_law_967 : decode cL_law 967 = .ok (.iaload, 1) := by decide +kernel
theorem dL_law_968 : decode cL_law 968 = .ok (.aload_n 0, 1) := by decide +kernel
theorem dL_law_969 : decode cL_law 969 = .ok (.iload 4, 2) := by decide +kernel
theorem dL_law_971 : decode cL_law 971 = .ok (.iconst 4, 1) := by decide +kernel
theorem dL_law_972 : decode cL_law 972 = .ok (.iadd, 1) := by decide +kernel
theorem dL_law_973 : decode cL_law 973 = .ok (.iaload, 1) := by decide +kernel
theorem dL_law_974 : decode cL_law 974 = .ok (.invokevirtual 128, 3) := by decide +kernel
theorem dL_law_977 : decode cL_law 977 = .ok (.istore 6, 2) := by decide +kernel
theorem dL_law_979 : decode cL_law 979 = .ok (.aload_n 2, 1) := by decide +kernel
theorem dL_law_980 : decode cL_law 980 = .ok (.invokevirtual 87, 3) := by decide +kernel
theorem dL_law_983 : decode cL_law 983 = .ok (.iload 5, 2) := by decide +kernel
theorem dL_law_985 : decode cL_law 985 = .ok (.if_icmp .eq 5, 3) := by decide +kernel
theorem dL_law_988 : decode cL_law 988 = .ok (.iconst 0, 1) := by decide +kernel
theorem dL_law_989 : decode cL_law 989 = .ok (.ireturn, 1) := by decide +kernel
theorem dL_law_990 : decode cL_law 990 = .ok (.iload 5, 2) := by decide +kernel
theorem dL_law_992 : decode cL_law 992 = .ok (.ifCond .ne 15, 3) := by decide +kernel
theorem dL_law_995 : decode cL_law 995 = .ok (.aload_n 3, 1) := by decide +kernel
theorem dL_law_996 : decode cL_law 996 = .ok (.iconst 0, 1) := by decide +kernel
theorem dL_law_997 : decode cL_law 997 = .ok (.laload, 1) := by decide +kernel
theorem dL_law_998 : decode cL_law 998 = .ok (.iload 6, 2) := by decide +kernel
theorem dL_law_1000 : decode cL_law 1000 = .ok (.i2l, 1) := by decide +kernel
theorem dL_law_1001 : decode cL_law 1001 = .ok (.lcmp, 1) := by decide +kernel
theorem dL_law_1002 : decode cL_law 1002 = .ok (.ifCond .eq 5, 3) := by decide +kernel
theorem dL_law_1005 : decode cL_law 1005 = .ok (.iconst 0, 1) := by decide +kernel
theorem dL_law_1006 : decode cL_law 1006 = .ok (.ireturn, 1) := by decide +kernel
theorem dL_law_1007 : decode cL_law 1007 = .ok (.goto 399, 3) := by decide +kernel
theorem dL_law_1010 : decode cL_law 1010 = .ok (.aload_n 1, 1) := by decide +kernel
theorem dL_law_1011 : decode cL_law 1011 = .ok (.aload_n 0, 1) := by decide +kernel
theorem dL_law_1012 : decode cL_law 1012 = .ok (.iload 4, 2) := by decide +kernel
theorem dL_law_1014 : decode cL_law 1014 = .ok (.iconst 1, 1) := by decide +kernel
theorem dL_law_1015 : decode cL_law 1015 = .ok (.iadd, 1) := by decide +kernel
theorem dL_law_1016 : decode cL_law 1016 = .ok (.iaload, 1) := by decide +kernel
theorem dL_law_1017 : decode cL_law 1017 = .ok (.aload_n 0, 1) := by decide +kernel
theorem dL_law_1018 : decode cL_law 1018 = .ok (.iload 4, 2) := by decide +kernel
theorem dL_law_1020 : decode cL_law 1020 = .ok (.iconst 2, 1) := by decide +kernel
theorem dL_law_1021 : decode cL_law 1021 = .ok (.iadd, 1) := by decide +kernel
theorem dL_law_1022 : decode cL_law 1022 = .ok (.iaload, 1) := by decide +kernel
theorem dL_law_1023 : decode cL_law 1023 = .ok (.aload_n 0, 1) := by decide +kernel
theorem dL_law_1024 : decode cL_law 1024 = .ok (.iload 4, 2) := by decide +kernel
theorem dL_law_1026 : decode cL_law 1026 = .ok (.iconst 3, 1) := by decide +kernel
theorem dL_law_1027 : decode cL_law 1027 = .ok (.iadd, 1) := by decide +kernel
theorem dL_law_1028 : decode cL_law 1028 = .ok (.iaload, 1) := by decide +kernel
theorem dL_law_1029 : decode cL_law 1029 = .ok (.aload_n 0, 1) := by decide +kernel
theorem dL_law_1030 : decode cL_law 1030 = .ok (.iload 4, 2) := by decide +kernel
theorem dL_law_1032 : decode cL_law 1032 = .ok (.iconst 4, 1) := by decide +kernel
theorem dL_law_1033 : decode cL_law 1033 = .ok (.iadd, 1) := by decide +kernel
theorem dL_law_1034 : decode cL_law 1034 = .ok (.iaload, 1) := by decide +kernel
theorem dL_law_1035 : decode cL_law 1035 = .ok (.aload_n 3, 1) := by decide +kernel
theorem dL_law_1036 : decode cL_law 1036 = .ok (.invokestatic 129, 3) := by decide +kernel
theorem dL_law_1039 : decode cL_law 1039 = .ok (.istore 5, 2) := by decide +kernel
theorem dL_law_1041 : decode cL_law 1041 = .ok (.aload_n 2, 1) := by decide +kernel
theorem dL_law_1042 : decode cL_law 1042 = .ok (.aload_n 0, 1) := by decide +kernel
theorem dL_law_1043 : decode cL_law 1043 = .ok (.iload 4, 2) := by decide +kernel
theorem dL_law_1045 : decode cL_law 1045 = .ok (.iconst 1, 1) := by decide +kernel
theorem dL_law_1046 : decode cL_law 1046 = .ok (.iadd, 1) := by decide +kernel
theorem dL_law_1047 : decode cL_law 1047 = .ok (.iaload, 1) := by decide +kernel
theorem dL_law_1048 : decode cL_law 1048 = .ok (.aload_n 0, 1) := by decide +kernel
theorem dL_law_1049 : decode cL_law 1049 = .ok (.iload 4, 2) := by decide +kernel
theorem dL_law_1051 : decode cL_law 1051 = .ok (.iconst 2, 1) := by decide +kernel
theorem dL_law_1052 : decode cL_law 1052 = .ok (.iadd, 1) := by decide +kernel
theorem dL_law_1053 : decode cL_law 1053 = .ok (.iaload, 1) := by decide +kernel
theorem dL_law_1054 : decode cL_law 1054 = .ok (.aload_n 0, 1) := by decide +kernel
theorem dL_law_1055 : decode cL_law 1055 = .ok (.iload 4, 2) := by decide +kernel
theorem dL_law_1057 : decode cL_law 1057 = .ok (.iconst 3, 1) := by decide +kernel
theorem dL_law_1058 : decode cL_law 1058 = .ok (.iadd, 1) := by decide +kernel
theorem dL_law_1059 : decode cL_law 1059 = .ok (.iaload, 1) := by decide +kernel
theorem dL_law_1060 : decode cL_law 1060 = .ok (.aload_n 0, 1) := by decide +kernel
theorem dL_law_1061 : decode cL_law 1061 = .ok (.iload 4, 2) := by decide +kernel
theorem dL_law_1063 : decode cL_law 1063 = .ok (.iconst 4, 1) := by decide +kernel
theorem dL_law_1064 : decode cL_law 1064 = .ok (.iadd, 1) := by decide +kernel
theorem dL_law_1065 : decode cL_law 1065 = .ok (.iaload, 1) := by decide +kernel
theorem dL_law_1066 : decode cL_law 1066 = .ok (.invokevirtual 131, 3) := by decide +kernel
theorem dL_law_1069 : decode cL_law 1069 = .ok (.istore 6, 2) := by decide +kernel
theorem dL_law_1071 : decode cL_law 1071 = .ok (.aload_n 2, 1) := by decide +kernel
theorem dL_law_1072 : decode cL_law 1072 = .ok (.invokevirtual 87, 3) := by decide +kernel
theorem dL_law_1075 : decode cL_law 1075 = .ok (.iload 5, 2) := by decide +kernel
theorem dL_law_1077 : decode cL_law 1077 = .ok (.if_icmp .eq 5, 3) := by decide +kernel
theorem dL_law_1080 : decode cL_law 1080 = .ok (.iconst 0, 1) := by decide +kernel
theorem dL_law_1081 : decode cL_law 1081 = .ok (.ireturn, 1) := by decide +kernel
theorem dL_law_1082 : decode cL_law 1082 = .ok (.iload 5, 2) := by decide +kernel
theorem dL_law_1084 : decode cL_law 1084 = .ok (.ifCond .ne 15, 3) := by decide +kernel
theorem dL_law_1087 : decode cL_law 1087 = .ok (.aload_n 3, 1) := by decide +kernel
theorem dL_law_1088 : decode cL_law 1088 = .ok (.iconst 0, 1) := by decide +kernel
theorem dL_law_1089 : decode cL_law 1089 = .ok (.laload, 1) := by decide +kernel
theorem dL_law_1090 : decode cL_law 1090 = .ok (.iload 6, 2) := by decide +kernel
theorem dL_law_1092 : decode cL_law 1092 = .ok (.i2l, 1) := by decide +kernel
theorem dL_law_1093 : decode cL_law 1093 = .ok (.lcmp, 1) := by decide +kernel
theorem dL_law_1094 : decode cL_law 1094 = .ok (.ifCond .eq 5, 3) := by decide +kernel
theorem dL_law_1097 : decode cL_law 1097 = .ok (.iconst 0, 1) := by decide +kernel
theorem dL_law_1098 : decode cL_law 1098 = .ok (.ireturn, 1) := by decide +kernel
theorem dL_law_1099 : decode cL_law 1099 = .ok (.goto 307, 3) := by decide +kernel
theorem dL_law_1102 : decode cL_law 1102 = .ok (.aload_n 1, 1) := by decide +kernel
theorem dL_law_1103 : decode cL_law 1103 = .ok (.aload_n 0, 1) := by decide +kernel
theorem dL_law_1104 : decode cL_law 1104 = .ok (.iload 4, 2) := by decide +kernel
theorem dL_law_1106 : decode cL_law 1106 = .ok (.iconst 1, 1) := by decide +kernel
theorem dL_law_1107 : decode cL_law 1107 = .ok (.iadd, 1) := by decide +kernel
theorem dL_law_1108 : decode cL_law 1108 = .ok (.iaload, 1) := by decide +kernel
theorem dL_law_1109 : decode cL_law 1109 = .ok (.aload_n 3, 1) := by decide +kernel
theorem dL_law_1110 : decode cL_law 1110 = .ok (.invokestatic 132, 3) := by decide +kernel
theorem dL_law_1113 : decode cL_law 1113 = .ok (.istore 5, 2) := by decide +kernel
theorem dL_law_1115 : decode cL_law 1115 = .ok (.aload_n 2, 1) := by decide +kernel
theorem dL_law_1116 : decode cL_law 1116 = .ok (.aload_n 0, 1) := by decide +kernel
theorem dL_law_1117 : decode cL_law 1117 = .ok (.iload 4, 2) := by decide +kernel
theorem dL_law_1119 : decode cL_law 1119 = .ok (.iconst 1, 1) := by decide +kernel
theorem dL_law_1120 : decode cL_law 1120 = .ok (.iadd, 1) := by decide +kernel
theorem dL_law_1121 : decode cL_law 1121 = .ok (.iaload, 1) := by decide +kernel
theorem dL_law_1122 : decode cL_law 1122 = .ok (.invokevirtual 134, 3) := by decide +kernel
theorem dL_law_1125 : decode cL_law 1125 = .ok (.istore 6, 2) := by decide +kernel
theorem dL_law_1127 : decode cL_law 1127 = .ok (.aload_n 2, 1) := by decide +kernel
theorem dL_law_1128 : decode cL_law 1128 = .ok (.invokevirtual 87, 3) := by decide +kernel
theorem dL_law_1131 : decode cL_law 1131 = .ok (.iload 5, 2) := by decide +kernel
theorem dL_law_1133 : decode cL_law 1133 = .ok (.if_icmp .eq 5, 3) := by decide +kernel
theorem dL_law_1136 : decode cL_law 1136 = .ok (.iconst 0, 1) := by decide +kernel
theorem dL_law_1137 : decode cL_law 1137 = .ok (.ireturn, 1) := by decide +kernel
theorem dL_law_1138 : decode cL_law 1138 = .ok (.iload 5, 2) := by decide +kernel
theorem dL_law_1140 : decode cL_law 1140 = .ok (.ifCond .ne 15, 3) := by decide +kernel
theorem dL_law_1143 : decode cL_law 1143 = .ok (.aload_n 3, 1) := by decide +kernel
theorem dL_law_1144 : decode cL_law 1144 = .ok (.iconst 0, 1) := by decide +kernel
theorem dL_law_1145 : decode cL_law 1145 = .ok (.laload, 1) := by decide +kernel
theorem dL_law_1146 : decode cL_law 1146 = .ok (.iload 6, 2) := by decide +kernel
theorem dL_law_1148 : decode cL_law 1148 = .ok (.i2l, 1) := by decide +kernel
theorem dL_law_1149 : decode cL_law 1149 = .ok (.lcmp, 1) := by decide +kernel
theorem dL_law_1150 : decode cL_law 1150 = .ok (.ifCond .eq 5, 3) := by decide +kernel
theorem dL_law_1153 : decode cL_law 1153 = .ok (.iconst 0, 1) := by decide +kernel
theorem dL_law_1154 : decode cL_law 1154 = .ok (.ireturn, 1) := by decide +kernel
theorem dL_law_1155 : decode cL_law 1155 = .ok (.goto 251, 3) := by decide +kernel
theorem dL_law_1158 : decode cL_law 1158 = .ok (.aload_n 1, 1) := by decide +kernel
theorem dL_law_1159 : decode cL_law 1159 = .ok (.aload_n 0, 1) := by decide +kernel
theorem dL_law_1160 : decode cL_law 1160 = .ok (.iload 4, 2) := by decide +kernel
theorem dL_law_1162 : decode cL_law 1162 = .ok (.iconst 1, 1) := by decide +kernel
theorem dL_law_1163 : decode cL_law 1163 = .ok (.iadd, 1) := by decide +kernel
theorem dL_law_1164 : decode cL_law 1164 = .ok (.iaload, 1) := by decide +kernel
theorem dL_law_1165 : decode cL_law 1165 = .ok (.aload_n 0, 1) := by decide +kernel
theorem dL_law_1166 : decode cL_law 1166 = .ok (.iload 4, 2) := by decide +kernel
theorem dL_law_1168 : decode cL_law 1168 = .ok (.iconst 2, 1) := by decide +kernel
theorem dL_law_1169 : decode cL_law 1169 = .ok (.iadd, 1) := by decide +kernel
theorem dL_law_1170 : decode cL_law 1170 = .ok (.iaload, 1) := by decide +kernel
theorem dL_law_1171 : decode cL_law 1171 = .ok (.aload_n 3, 1) := by decide +kernel
theorem dL_law_1172 : decode cL_law 1172 = .ok (.invokestatic 135, 3) := by decide +kernel
theorem dL_law_1175 : decode cL_law 1175 = .ok (.istore 5, 2) := by decide +kernel
theorem dL_law_1177 : decode cL_law 1177 = .ok (.aload_n 2, 1) := by decide +kernel
theorem dL_law_1178 : decode cL_law 1178 = .ok (.aload_n 0, 1) := by decide +kernel
theorem dL_law_1179 : decode cL_law 1179 = .ok (.iload 4, 2) := by decide +kernel
theorem dL_law_1181 : decode cL_law 1181 = .ok (.iconst 1, 1) := by decide +kernel
theorem dL_law_1182 : decode cL_law 1182 = .ok (.iadd, 1) := by decide +kernel
theorem dL_law_1183 : decode cL_law 1183 = .ok (.iaload, 1) := by decide +kernel
theorem dL_law_1184 : decode cL_law 1184 = .ok (.aload_n 0, 1) := by decide +kernel
theorem dL_law_1185 : decode cL_law 1185 = .ok (.iload 4, 2) := by decide +kernel
theorem dL_law_1187 : decode cL_law 1187 = .ok (.iconst 2, 1) := by decide +kernel
theorem dL_law_1188 : decode cL_law 1188 = .ok (.iadd, 1) := by decide +kernel
theorem dL_law_1189 : decode cL_law 1189 = .ok (.iaload, 1) := by decide +kernel
theorem dL_law_1190 : decode cL_law 1190 = .ok (.invokevirtual 137, 3) := by decide +kernel
theorem dL_law_1193 : decode cL_law 1193 = .ok (.istore 6, 2) := by decide +kernel
theorem dL_law_1195 : decode cL_law 1195 = .ok (.aload_n 2, 1) := by decide +kernel
theorem dL_law_1196 : decode cL_law 1196 = .ok (.invokevirtual 87, 3) := by decide +kernel
theorem dL_law_1199 : decode cL_law 1199 = .ok (.iload 5, 2) := by decide +kernel
theorem dL_law_1201 : decode cL_law 1201 = .ok (.if_icmp .eq 5, 3) := by decide +kernel
theorem dL_law_1204 : decode cL_law 1204 = .ok (.iconst 0, 1) := by decide +kernel
theorem dL_law_1205 : decode cL_law 1205 = .ok (.ireturn, 1) := by decide +kernel
theorem dL_law_1206 : decode cL_law 1206 = .ok (.iload 5, 2) := by decide +kernel
theorem dL_law_1208 : decode cL_law 1208 = .ok (.ifCond .ne 15, 3) := by decide +kernel
theorem dL_law_1211 : decode cL_law 1211 = .ok (.aload_n 3, 1) := by decide +kernel
theorem dL_law_1212 : decode cL_law 1212 = .ok (.iconst 0, 1) := by decide +kernel
theorem dL_law_1213 : decode cL_law 1213 = .ok (.laload, 1) := by decide +kernel
theorem dL_law_1214 : decode cL_law 1214 = .ok (.iload 6, 2) := by decide +kernel
theorem dL_law_1216 : decode cL_law 1216 = .ok (.i2l, 1) := by decide +kernel
theorem dL_law_1217 : decode cL_law 1217 = .ok (.lcmp, 1) := by decide +kernel
theorem dL_law_1218 : decode cL_law 1218 = .ok (.ifCond .eq 5, 3) := by decide +kernel
theorem dL_law_1221 : decode cL_law 1221 = .ok (.iconst 0, 1) := by decide +kernel
theorem dL_law_1222 : decode cL_law 1222 = .ok (.ireturn, 1) := by decide +kernel
theorem dL_law_1223 : decode cL_law 1223 = .ok (.goto 183, 3) := by decide +kernel
theorem dL_law_1226 : decode cL_law 1226 = .ok (.aload_n 1, 1) := by decide +kernel
theorem dL_law_1227 : decode cL_law 1227 = .ok (.aload_n 0, 1) := by decide +kernel
theorem dL_law_1228 : decode cL_law 1228 = .ok (.iload 4, 2) := by decide +kernel
theorem dL_law_1230 : decode cL_law 1230 = .ok (.iconst 1, 1) := by decide +kernel
theorem dL_law_1231 : decode cL_law 1231 = .ok (.iadd, 1) := by decide +kernel
theorem dL_law_1232 : decode cL_law 1232 = .ok (.iaload, 1) := by decide +kernel
theorem dL_law_1233 : decode cL_law 1233 = .ok (.aload_n 0, 1) := by decide +kernel
theorem dL_law_1234 : decode cL_law 1234 = .ok (.iload 4, 2) := by decide +kernel
theorem dL_law_1236 : decode cL_law 1236 = .ok (.iconst 2, 1) := by decide +kernel
theorem dL_law_1237 : decode cL_law 1237 = .ok (.iadd, 1) := by decide +kernel
theorem dL_law_1238 : decode cL_law 1238 = .ok (.iaload, 1) := by decide +kernel
theorem dL_law_1239 : decode cL_law 1239 = .ok (.aload_n 3, 1) := by decide +kernel
theorem dL_law_1240 : decode cL_law 1240 = .ok (.invokestatic 138, 3) := by decide +kernel
theorem dL_law_1243 : decode cL_law 1243 = .ok (.istore 5, 2) := by decide +kernel
theorem dL_law_1245 : decode cL_law 1245 = .ok (.aload_n 2, 1) := by decide +kernel
theorem dL_law_1246 : decode cL_law 1246 = .ok (.aload_n 0, 1) := by decide +kernel
theorem dL_law_1247 : decode cL_law 1247 = .ok (.iload 4, 2) := by decide +kernel
theorem dL_law_1249 : decode cL_law 1249 = .ok (.iconst 1, 1) := by decide +kernel
theorem dL_law_1250 : decode cL_law 1250 = .ok (.iadd, 1) := by decide +kernel
theorem dL_law_1251 : decode cL_law 1251 = .ok (.iaload, 1) := by decide +kernel
theorem dL_law_1252 : decode cL_law 1252 = .ok (.aload_n 0, 1) := by decide +kernel
theorem dL_law_1253 : decode cL_law 1253 = .ok (.iload 4, 2) := by decide +kernel
theorem dL_law_1255 : decode cL_law 1255 = .ok (.iconst 2, 1) := by decide +kernel
theorem dL_law_1256 : decode cL_law 1256 = .ok (.iadd, 1) := by decide +kernel
theorem dL_law_1257 : decode cL_law 1257 = .ok (.iaload, 1) := by decide +kernel
theorem dL_law_1258 : decode cL_law 1258 = .ok (.invokevirtual 140, 3) := by decide +kernel
theorem dL_law_1261 : decode cL_law 1261 = .ok (.istore 6, 2) := by decide +kernel
theorem dL_law_1263 : decode cL_law 1263 = .ok (.aload_n 2, 1) := by decide +kernel
theorem dL_law_1264 : decode cL_law 1264 = .ok (.invokevirtual 87, 3) := by decide +kernel
theorem dL_law_1267 : decode cL_law 1267 = .ok (.iload 5, 2) := by decide +kernel
theorem dL_law_1269 : decode cL_law 1269 = .ok (.if_icmp .eq 5, 3) := by decide +kernel
theorem dL_law_1272 : decode cL_law 1272 = .ok (.iconst 0, 1) := by decide +kernel
theorem dL_law_1273 : decode cL_law 1273 = .ok (.ireturn, 1) := by decide +kernel
theorem dL_law_1274 : decode cL_law 1274 = .ok (.iload 5, 2) := by decide +kernel
theorem dL_law_1276 : decode cL_law 1276 = .ok (.ifCond .ne 15, 3) := by decide +kernel
theorem dL_law_1279 : decode cL_law 1279 = .ok (.aload_n 3, 1) := by decide +kernel
theorem dL_law_1280 : decode cL_law 1280 = .ok (.iconst 0, 1) := by decide +kernel
theorem dL_law_1281 : decode cL_law 1281 = .ok (.laload, 1) := by decide +kernel
theorem dL_law_1282 : decode cL_law 1282 = .ok (.iload 6, 2) := by decide +kernel
theorem dL_law_1284 : decode cL_law 1284 = .ok (.i2l, 1) := by decide +kernel
theorem dL_law_1285 : decode cL_law 1285 = .ok (.lcmp, 1) := by decide +kernel
theorem dL_law_1286 : decode cL_law 1286 = .ok (.ifCond .eq 5, 3) := by decide +kernel
theorem dL_law_1289 : decode cL_law 1289 = .ok (.iconst 0, 1) := by decide +kernel
theorem dL_law_1290 : decode cL_law 1290 = .ok (.ireturn, 1) := by decide +kernel
theorem dL_law_1291 : decode cL_law 1291 = .ok (.goto 115, 3) := by decide +kernel
theorem dL_law_1294 : decode cL_law 1294 = .ok (.aload_n 1, 1) := by decide +kernel
theorem dL_law_1295 : decode cL_law 1295 = .ok (.aload_n 0, 1) := by decide +kernel
theorem dL_law_1296 : decode cL_law 1296 = .ok (.iload 4, 2) := by decide +kernel
theorem dL_law_1298 : decode cL_law 1298 = .ok (.iconst 1, 1) := by decide +kernel
theorem dL_law_1299 : decode cL_law 1299 = .ok (.iadd, 1) := by decide +kernel
theorem dL_law_1300 : decode cL_law 1300 = .ok (.iaload, 1) := by decide +kernel
theorem dL_law_1301 : decode cL_law 1301 = .ok (.aload_n 3, 1) := by decide +kernel
theorem dL_law_1302 : decode cL_law 1302 = .ok (.invokestatic 141, 3) := by decide +kernel
theorem dL_law_1305 : decode cL_law 1305 = .ok (.istore 5, 2) := by decide +kernel
theorem dL_law_1307 : decode cL_law 1307 = .ok (.aload_n 2, 1) := by decide +kernel
theorem dL_law_1308 : decode cL_law 1308 = .ok (.aload_n 0, 1) := by decide +kernel
theorem dL_law_1309 : decode cL_law 1309 = .ok (.iload 4, 2) := by decide +kernel
theorem dL_law_1311 : decode cL_law 1311 = .ok (.iconst 1, 1) := by decide +kernel
theorem dL_law_1312 : decode cL_law 1312 = .ok (.iadd, 1) := by decide +kernel
theorem dL_law_1313 : decode cL_law 1313 = .ok (.iaload, 1) := by decide +kernel
theorem dL_law_1314 : decode cL_law 1314 = .ok (.invokevirtual 143, 3) := by decide +kernel
theorem dL_law_1317 : decode cL_law 1317 = .ok (.istore 6, 2) := by decide +kernel
theorem dL_law_1319 : decode cL_law 1319 = .ok (.aload_n 2, 1) := by decide +kernel
theorem dL_law_1320 : decode cL_law 1320 = .ok (.invokevirtual 87, 3) := by decide +kernel
theorem dL_law_1323 : decode cL_law 1323 = .ok (.iload 5, 2) := by decide +kernel
theorem dL_law_1325 : decode cL_law 1325 = .ok (.if_icmp .eq 5, 3) := by decide +kernel
theorem dL_law_1328 : decode cL_law 1328 = .ok (.iconst 0, 1) := by decide +kernel
theorem dL_law_1329 : decode cL_law 1329 = .ok (.ireturn, 1) := by decide +kernel
theorem dL_law_1330 : decode cL_law 1330 = .ok (.iload 5, 2) := by decide +kernel
theorem dL_law_1332 : decode cL_law 1332 = .ok (.ifCond .ne 15, 3) := by decide +kernel
theorem dL_law_1335 : decode cL_law 1335 = .ok (.aload_n 3, 1) := by decide +kernel
theorem dL_law_1336 : decode cL_law 1336 = .ok (.iconst 0, 1) := by decide +kernel
theorem dL_law_1337 : decode cL_law 1337 = .ok (.laload, 1) := by decide +kernel
theorem dL_law_1338 : decode cL_law 1338 = .ok (.iload 6, 2) := by decide +kernel
theorem dL_law_1340 : decode cL_law 1340 = .ok (.i2l, 1) := by decide +kernel
theorem dL_law_1341 : decode cL_law 1341 = .ok (.lcmp, 1) := by decide +kernel
theorem dL_law_1342 : decode cL_law 1342 = .ok (.ifCond .eq 5, 3) := by decide +kernel
theorem dL_law_1345 : decode cL_law 1345 = .ok (.iconst 0, 1) := by decide +kernel
theorem dL_law_1346 : decode cL_law 1346 = .ok (.ireturn, 1) := by decide +kernel
theorem dL_law_1347 : decode cL_law 1347 = .ok (.goto 59, 3) := by decide +kernel
theorem dL_law_1350 : decode cL_law 1350 = .ok (.aload_n 1, 1) := by decide +kernel
theorem dL_law_1351 : decode cL_law 1351 = .ok (.aload_n 0, 1) := by decide +kernel
theorem dL_law_1352 : decode cL_law 1352 = .ok (.iload 4, 2) := by decide +kernel
theorem dL_law_1354 : decode cL_law 1354 = .ok (.iconst 1, 1) := by decide +kernel
theorem dL_law_1355 : decode cL_law 1355 = .ok (.iadd, 1) := by decide +kernel
theorem dL_law_1356 : decode cL_law 1356 = .ok (.iaload, 1) := by decide +kernel
theorem dL_law_1357 : decode cL_law 1357 = .ok (.aload_n 3, 1) := by decide +kernel
theorem dL_law_1358 : decode cL_law 1358 = .ok (.invokestatic 144, 3) := by decide +kernel
theorem dL_law_1361 : decode cL_law 1361 = .ok (.istore 5, 2) := by decide +kernel
theorem dL_law_1363 : decode cL_law 1363 = .ok (.aload_n 2, 1) := by decide +kernel
theorem dL_law_1364 : decode cL_law 1364 = .ok (.aload_n 0, 1) := by decide +kernel
theorem dL_law_1365 : decode cL_law 1365 = .ok (.iload 4, 2) := by decide +kernel
theorem dL_law_1367 : decode cL_law 1367 = .ok (.iconst 1, 1) := by decide +kernel
theorem dL_law_1368 : decode cL_law 1368 = .ok (.iadd, 1) := by decide +kernel
theorem dL_law_1369 : decode cL_law 1369 = .ok (.iaload, 1) := by decide +kernel
theorem dL_law_1370 : decode cL_law 1370 = .ok (.invokevirtual 146, 3) := by decide +kernel
theorem dL_law_1373 : decode cL_law 1373 = .ok (.istore 6, 2) := by decide +kernel
theorem dL_law_1375 : decode cL_law 1375 = .ok (.aload_n 2, 1) := by decide +kernel
theorem dL_law_1376 : decode cL_law 1376 = .ok (.invokevirtual 87, 3) := by decide +kernel
theorem dL_law_1379 : decode cL_law 1379 = .ok (.iload 5, 2) := by decide +kernel
theorem dL_law_1381 : decode cL_law 1381 = .ok (.if_icmp .eq 5, 3) := by decide +kernel
theorem dL_law_1384 : decode cL_law 1384 = .ok (.iconst 0, 1) := by decide +kernel
theorem dL_law_1385 : decode cL_law 1385 = .ok (.ireturn, 1) := by decide +kernel
theorem dL_law_1386 : decode cL_law 1386 = .ok (.iload 5, 2) := by decide +kernel
theorem dL_law_1388 : decode cL_law 1388 = .ok (.ifCond .ne 15, 3) := by decide +kernel
theorem dL_law_1391 : decode cL_law 1391 = .ok (.aload_n 3, 1) := by decide +kernel
theorem dL_law_1392 : decode cL_law 1392 = .ok (.iconst 0, 1) := by decide +kernel
theorem dL_law_1393 : decode cL_law 1393 = .ok (.laload, 1) := by decide +kernel
theorem dL_law_1394 : decode cL_law 1394 = .ok (.iload 6, 2) := by decide +kernel
theorem dL_law_1396 : decode cL_law 1396 = .ok (.i2l, 1) := by decide +kernel
theorem dL_law_1397 : decode cL_law 1397 = .ok (.lcmp, 1) := by decide +kernel
theorem dL_law_1398 : decode cL_law 1398 = .ok (.ifCond .eq 5, 3) := by decide +kernel
theorem dL_law_1401 : decode cL_law 1401 = .ok (.iconst 0, 1) := by decide +kernel
theorem dL_law_1402 : decode cL_law 1402 = .ok (.ireturn, 1) := by decide +kernel
theorem dL_law_1403 : decode cL_law 1403 = .ok (.goto 3, 3) := by decide +kernel
theorem dL_law_1406 : decode cL_law 1406 = .ok (.iinc 4 6, 3) := by decide +kernel
theorem dL_law_1409 : decode cL_law 1409 = .ok (.goto (-1386), 3) := by decide +kernel
theorem dL_law_1412 : decode cL_law 1412 = .ok (.iconst 1, 1) := by decide +kernel
theorem dL_law_1413 : decode cL_law 1413 = .ok (.ireturn, 1) := by decide +kernel
end
section
set_option maxRecDepth 20000 in
theorem ggX0_enterStore_X1_placeOf : GoodIn wsX0_enterStore wsX1_placeOf := goodIn_r _ [8] (by decide +kernel) (by decide +kernel)
set_option maxRecDepth 20000 in
theorem gX0_enterStore_X1_placeOf_n50 : GoodIn wsX0_enterStore (wsX1_placeOf) := ggX0_enterStore_X1_placeOf
set_option maxRecDepth 20000 in
theorem ggX0_enterStore_X0_totalDeclared : GoodIn wsX0_enterStore wsX0_totalDeclared := goodIn_r _ [13, 2, 14, 15, 16, 17, 18, 19, 20, 21, 22, 23, 24, 25] (by decide +kernel) (by decide +kernel)
set_option maxRecDepth 20000 in
theorem gX0_enterStore_X0_totalDeclared : GoodIn wsX0_enterStore (wsV RX0 54 RX0 yX0_totalDeclared wsX0_totalDeclared) := goodIn_app (goodIn_of _ (by decide +kernel)) ggX0_enterStore_X0_totalDeclared
set_option maxRecDepth 20000 in
theorem ggX1_setSort_X1_checkSort : GoodIn wsX1_setSort wsX1_checkSort := goodIn_ca (goodIn_r _ [6, 7, 8, 5, 9, 10, 11] (by decide +kernel) (by decide +kernel)) (goodIn_sub (fun _ h => List.mem_cons_of_mem _ (List.mem_append_right _ h)) (by decide +kernel))
set_option maxRecDepth 20000 in
theorem gX1_setSort_X1_checkSort : GoodIn wsX1_setSort (va_wsS RX1 44 yX1_checkSort wsX1_checkSort) := goodIn_app (goodIn_of _ (by decide +kernel)) ggX1_setSort_X1_checkSort
set_option maxRecDepth 20000 in
theorem ggX1_setSort_X1_checkRange : GoodIn wsX1_setSort wsX1_checkRange := goodIn_ca (goodIn_r _ [9, 10, 11] (by decide +kernel) (by decide +kernel)) (goodIn_sub (fun _ h => List.mem_cons_of_mem _ (List.mem_append_right _ h)) (by decide +kernel))
set_option maxRecDepth 20000 in
theorem gX1_setSort_X1_checkRange : GoodIn wsX1_setSort (va_wsS RX1 48 yX1_checkRange wsX1_checkRange) := goodIn_app (goodIn_of _ (by decide +kernel)) ggX1_setSort_X1_checkRange
set_option maxRecDepth 20000 in
theorem ggX1_setRisk_X1_checkRange : GoodIn wsX1_setRisk wsX1_checkRange := goodIn_ca (goodIn_r _ [6, 7, 8] (by decide +kernel) (by decide +kernel)) (goodIn_sub (fun _ h => List.mem_cons_of_mem _ (List.mem_append_right _ h)) (by decide +kernel))
set_option maxRecDepth 20000 in
theorem gX1_setRisk_X1_checkRange : GoodIn wsX1_setRisk (va_wsS RX1 48 yX1_checkRange wsX1_checkRange) := goodIn_app (goodIn_of _ (by decide +kernel)) ggX1_setRisk_X1_checkRange
set_option maxRecDepth 20000 in
theorem ggX1_setRisk_X1_countToSearch : GoodIn wsX1_setRisk wsX1_countToSearch := goodIn_r _ [12, 13, 14, 15, 16, 5, 17, 18, 19, 1, 20, 21, 22, 23, 24, 25, 26, 27, 28, 29, 30, 31, 32, 33, 34, 35, 36, 37, 38, 39, 40, 41, 42, 43, 44, 45, 46, 47, 48, 49, 50, 51, 52, 53, 54, 55] (by decide +kernel) (by decide +kernel)
set_option maxRecDepth 20000 in
theorem gX1_setRisk_X1_countToSearch : GoodIn wsX1_setRisk (wsV RX1 52 RX1 yX1_countToSearch wsX1_countToSearch) := goodIn_app (goodIn_of _ (by decide +kernel)) ggX1_setRisk_X1_countToSearch
set_option maxRecDepth 20000 in
theorem ggX1_setGuarantee_X1_checkTrader : GoodIn wsX1_setGuarantee wsX1_checkTrader := goodIn_ca (goodIn_r _ [9, 10, 11, 8, 12, 13, 14] (by decide +kernel) (by decide +kernel)) (goodIn_sub (fun _ h => List.mem_cons_of_mem _ (List.mem_append_right _ h)) (by decide +kernel))
set_option maxRecDepth 20000 in
theorem gX1_setGuarantee_X1_checkTrader : GoodIn wsX1_setGuarantee (va_wsS RX1 56 yX1_checkTrader wsX1_checkTrader) := goodIn_app (goodIn_of _ (by decide +kernel)) ggX1_setGuarantee_X1_checkTrader
set_option maxRecDepth 20000 in
theorem ggX1_setGuarantee_X1_checkRange : GoodIn wsX1_setGuarantee wsX1_checkRange := goodIn_ca (goodIn_r _ [12, 13, 14] (by decide +kernel) (by decide +kernel)) (goodIn_sub (fun _ h => List.mem_cons_of_mem _ (List.mem_append_right _ h)) (by decide +kernel))
set_option maxRecDepth 20000 in
theorem gX1_setGuarantee_X1_checkRange : GoodIn wsX1_setGuarantee (va_wsS RX1 48 yX1_checkRange wsX1_checkRange) := goodIn_app (goodIn_of _ (by decide +kernel)) ggX1_setGuarantee_X1_checkRange
set_option maxRecDepth 20000 in
theorem ggX1_announce_X1_checkTrader : GoodIn wsX1_announce wsX1_checkTrader := goodIn_ca (goodIn_r _ [11, 12, 13, 10, 14, 15, 16] (by decide +kernel) (by decide +kernel)) (goodIn_sub (fun _ h => List.mem_cons_of_mem _ (List.mem_append_right _ h)) (by decide +kernel))
set_option maxRecDepth 20000 in
theorem gX1_announce_X1_checkTrader : GoodIn wsX1_announce (va_wsS RX1 56 yX1_checkTrader wsX1_checkTrader) := goodIn_app (goodIn_of _ (by decide +kernel)) ggX1_announce_X1_checkTrader
set_option maxRecDepth 20000 in
theorem ggX1_announce_X1_checkSeal : GoodIn wsX1_announce wsX1_checkSeal := goodIn_ca (goodIn_r _ [19, 12, 13, 10, 14, 15, 16] (by decide +kernel) (by decide +kernel)) (goodIn_sub (fun _ h => List.mem_cons_of_mem _ (List.mem_append_right _ h)) (by decide +kernel))
set_option maxRecDepth 20000 in
theorem gX1_announce_X1_checkSeal : GoodIn wsX1_announce (va_wsS RX1 67 yX1_checkSeal wsX1_checkSeal) := goodIn_app (goodIn_of _ (by decide +kernel)) ggX1_announce_X1_checkSeal
set_option maxRecDepth 20000 in
theorem ggX1_announce_X0_init : GoodIn wsX1_announce wsX0_init := goodIn_r _ [22, 23, 24, 25, 26, 27, 28, 29, 30, 31, 32, 33, 34, 35, 36, 37, 38, 49, 50, 51, 52, 53, 54, 55, 56, 57, 58, 59, 60] (by decide +kernel) (by decide +kernel)
set_option maxRecDepth 20000 in
theorem gX1_announce_X0_init : GoodIn wsX1_announce (wsX0_init) := ggX1_announce_X0_init
set_option maxRecDepth 20000 in
theorem ggX1_amend_X1_findConsignment : GoodIn wsX1_amend wsX1_findConsignment := goodIn_ca (goodIn_r _ [10, 11, 12, 13, 34, 35, 36, 37, 38, 39, 40, 41, 42, 43] (by decide +kernel) (by decide +kernel)) (goodIn_sub (fun _ h => List.mem_cons_of_mem _ (List.mem_append_left _ (List.mem_append_right _ h))) (by decide +kernel))
set_option maxRecDepth 20000 in
theorem gX1_amend_X1_findConsignment : GoodIn wsX1_amend (wsV RX1 75 RX1 yX1_findConsignment wsX1_findConsignment) := goodIn_app (goodIn_of _ (by decide +kernel)) ggX1_amend_X1_findConsignment
set_option maxRecDepth 20000 in
theorem ggX1_amend_X1_checkSort : GoodIn wsX1_amend wsX1_checkSort := goodIn_ca (goodIn_r _ [16, 17, 18, 9, 19, 20, 21] (by decide +kernel) (by decide +kernel)) (goodIn_sub (fun _ h => List.mem_cons_of_mem _ (List.mem_append_right _ h)) (by decide +kernel))
set_option maxRecDepth 20000 in
theorem gX1_amend_X1_checkSort : GoodIn wsX1_amend (va_wsS RX1 44 yX1_checkSort wsX1_checkSort) := goodIn_app (goodIn_of _ (by decide +kernel)) ggX1_amend_X1_checkSort
set_option maxRecDepth 20000 in
theorem ggX1_amend_X1_checkRange : GoodIn wsX1_amend wsX1_checkRange := goodIn_ca (goodIn_r _ [19, 20, 21] (by decide +kernel) (by decide +kernel)) (goodIn_sub (fun _ h => List.mem_cons_of_mem _ (List.mem_append_right _ h)) (by decide +kernel))
set_option maxRecDepth 20000 in
theorem gX1_amend_X1_checkRange : GoodIn wsX1_amend (va_wsS RX1 48 yX1_checkRange wsX1_checkRange) := goodIn_app (goodIn_of _ (by decide +kernel)) ggX1_amend_X1_checkRange
set_option maxRecDepth 20000 in
theorem ggX1_arrive_X1_findConsignment : GoodIn wsX1_arrive wsX1_findConsignment := goodIn_ca (goodIn_r _ [13, 14, 15, 16, 60, 61, 62, 63, 64, 65, 66, 67, 68, 69] (by decide +kernel) (by decide +kernel)) (goodIn_sub (fun _ h => List.mem_cons_of_mem _ (List.mem_append_left _ (List.mem_append_right _ h))) (by decide +kernel))
set_option maxRecDepth 20000 in
theorem gX1_arrive_X1_findConsignment : GoodIn wsX1_arrive (wsV RX1 75 RX1 yX1_findConsignment wsX1_findConsignment) := goodIn_app (goodIn_of _ (by decide +kernel)) ggX1_arrive_X1_findConsignment
set_option maxRecDepth 20000 in
theorem ggX1_arrive_X1_checkSeal : GoodIn wsX1_arrive wsX1_checkSeal := goodIn_ca (goodIn_r _ [19, 20, 21, 12, 22, 23, 24] (by decide +kernel) (by decide +kernel)) (goodIn_sub (fun _ h => List.mem_cons_of_mem _ (List.mem_append_right _ h)) (by decide +kernel))
set_option maxRecDepth 20000 in
theorem gX1_arrive_X1_checkSeal : GoodIn wsX1_arrive (va_wsS RX1 67 yX1_checkSeal wsX1_checkSeal) := goodIn_app (goodIn_of _ (by decide +kernel)) ggX1_arrive_X1_checkSeal
set_option maxRecDepth 20000 in
theorem ggX1_arrive_X0_totalDeclared : GoodIn wsX1_arrive wsX0_totalDeclared := goodIn_r _ [29, 30, 48, 49, 50, 51, 52, 53, 54, 55, 56, 57, 58, 59] (by decide +kernel) (by decide +kernel)
set_option maxRecDepth 20000 in
theorem gX1_arrive_X0_totalDeclared : GoodIn wsX1_arrive (wsV RX1 92 RX0 yX0_totalDeclared wsX0_totalDeclared) := goodIn_app (goodIn_of _ (by decide +kernel)) ggX1_arrive_X0_totalDeclared
set_option maxRecDepth 20000 in
theorem ggX1_arrive_X1_hasToBeSearched : GoodIn wsX1_arrive wsX1_hasToBeSearched := goodIn_r _ [34, 3, 8, 35, 36, 37, 38, 28, 39, 40, 41, 42, 43, 12, 44, 45, 46, 47, 6, 48, 49, 50, 51, 52, 53, 54, 55, 56, 57, 58, 59, 60, 61, 62, 63, 64, 65, 66, 67, 68, 69] (by decide +kernel) (by decide +kernel)
set_option maxRecDepth 20000 in
theorem gX1_arrive_X1_hasToBeSearched : GoodIn wsX1_arrive (wsV RX1 107 RX1 yX1_hasToBeSearched wsX1_hasToBeSearched) := goodIn_app (goodIn_of _ (by decide +kernel)) ggX1_arrive_X1_hasToBeSearched
set_option maxRecDepth 20000 in
theorem ggX1_risk_X1_findConsignment : GoodIn wsX1_risk wsX1_findConsignment := goodIn_ca (goodIn_r _ [8, 9, 10, 11, 32, 33, 34, 35, 36, 37, 38, 39, 40, 41] (by decide +kernel) (by decide +kernel)) (goodIn_sub (fun _ h => List.mem_cons_of_mem _ (List.mem_append_right _ h)) (by decide +kernel))
set_option maxRecDepth 20000 in
theorem gX1_risk_X1_findConsignment : GoodIn wsX1_risk (wsV RX1 75 RX1 yX1_findConsignment wsX1_findConsignment) := goodIn_app (goodIn_of _ (by decide +kernel)) ggX1_risk_X1_findConsignment
set_option maxRecDepth 20000 in
theorem ggX1_risk_X1_riskOf : GoodIn wsX1_risk wsX1_riskOf := goodIn_r _ [15, 16, 17, 18, 19, 20, 21, 22, 23, 24, 25, 26, 27, 28, 29, 30, 31, 32, 33, 34, 35, 36, 37, 38, 39, 40, 41] (by decide +kernel) (by decide +kernel)
set_option maxRecDepth 20000 in
theorem gX1_risk_X1_riskOf : GoodIn wsX1_risk (wsV RX1 113 RX1 yX1_riskOf wsX1_riskOf) := goodIn_app (goodIn_of _ (by decide +kernel)) ggX1_risk_X1_riskOf
set_option maxRecDepth 20000 in
theorem ggX1_mustSearch_X1_findConsignment : GoodIn wsX1_mustSearch wsX1_findConsignment := goodIn_ca (goodIn_r _ [5, 6, 7, 8, 30, 31, 32, 33, 34, 35, 36, 37, 38, 39] (by decide +kernel) (by decide +kernel)) (goodIn_sub (fun _ h => List.mem_cons_of_mem _ (List.mem_append_right _ h)) (by decide +kernel))
set_option maxRecDepth 20000 in
theorem gX1_mustSearch_X1_findConsignment : GoodIn wsX1_mustSearch (wsV RX1 75 RX1 yX1_findConsignment wsX1_findConsignment) := goodIn_app (goodIn_of _ (by decide +kernel)) ggX1_mustSearch_X1_findConsignment
set_option maxRecDepth 20000 in
theorem ggX1_mustSearch_X1_hasToBeSearched : GoodIn wsX1_mustSearch wsX1_hasToBeSearched := goodIn_r _ [12, 13, 14, 15, 16, 17, 18, 19, 20, 21, 22, 23, 24, 4, 25, 26, 27, 28, 29, 40, 41, 42, 43, 44, 45, 46, 47, 48, 49, 50, 51, 30, 31, 32, 33, 34, 35, 36, 37, 38, 39] (by decide +kernel) (by decide +kernel)
set_option maxRecDepth 20000 in
theorem gX1_mustSearch_X1_hasToBeSearched : GoodIn wsX1_mustSearch (wsV RX1 107 RX1 yX1_hasToBeSearched wsX1_hasToBeSearched) := goodIn_app (goodIn_of _ (by decide +kernel)) ggX1_mustSearch_X1_hasToBeSearched
set_option maxRecDepth 20000 in
theorem ggX1_search_X1_findConsignment : GoodIn wsX1_search wsX1_findConsignment := goodIn_ca (goodIn_r _ [9, 10, 11, 12, 41, 42, 43, 44, 45, 46, 47, 48, 49, 50] (by decide +kernel) (by decide +kernel)) (goodIn_sub (fun _ h => List.mem_cons_of_mem _ (List.mem_append_left _ (List.mem_append_right _ h))) (by decide +kernel))
set_option maxRecDepth 20000 in
theorem gX1_search_X1_findConsignment : GoodIn wsX1_search (wsV RX1 75 RX1 yX1_findConsignment wsX1_findConsignment) := goodIn_app (goodIn_of _ (by decide +kernel)) ggX1_search_X1_findConsignment
set_option maxRecDepth 20000 in
theorem ggX1_search_X1_checkSort : GoodIn wsX1_search wsX1_checkSort := goodIn_ca (goodIn_r _ [15, 16, 17, 8, 18, 19, 20] (by decide +kernel) (by decide +kernel)) (goodIn_sub (fun _ h => List.mem_cons_of_mem _ (List.mem_append_right _ h)) (by decide +kernel))
set_option maxRecDepth 20000 in
theorem gX1_search_X1_checkSort : GoodIn wsX1_search (va_wsS RX1 44 yX1_checkSort wsX1_checkSort) := goodIn_app (goodIn_of _ (by decide +kernel)) ggX1_search_X1_checkSort
set_option maxRecDepth 20000 in
theorem ggX1_search_X1_checkRange : GoodIn wsX1_search wsX1_checkRange := goodIn_ca (goodIn_r _ [18, 19, 20] (by decide +kernel) (by decide +kernel)) (goodIn_sub (fun _ h => List.mem_cons_of_mem _ (List.mem_append_right _ h)) (by decide +kernel))
set_option maxRecDepth 20000 in
theorem gX1_search_X1_checkRange : GoodIn wsX1_search (va_wsS RX1 48 yX1_checkRange wsX1_checkRange) := goodIn_app (goodIn_of _ (by decide +kernel)) ggX1_search_X1_checkRange
set_option maxRecDepth 20000 in
theorem ggX1_search_X0_noteSearch : GoodIn wsX1_search wsX0_noteSearch := goodIn_r _ [25, 26, 27, 28, 29, 30, 31, 32, 33, 34, 35, 36, 37, 38, 39, 40] (by decide +kernel) (by decide +kernel)
set_option maxRecDepth 20000 in
theorem gX1_search_X0_noteSearch : GoodIn wsX1_search (wsV RX1 119 RX0 yX0_noteSearch wsX0_noteSearch) := goodIn_app (goodIn_of _ (by decide +kernel)) ggX1_search_X0_noteSearch
set_option maxRecDepth 20000 in
theorem ggX1_bond_X1_findConsignment : GoodIn wsX1_bond wsX1_findConsignment := goodIn_ca (goodIn_r _ [12, 13, 14, 15, 75, 76, 77, 78, 79, 80, 81, 82, 83, 84] (by decide +kernel) (by decide +kernel)) (goodIn_sub (fun _ h => List.mem_cons_of_mem _ (List.mem_append_left _ (List.mem_append_right _ h))) (by decide +kernel))
set_option maxRecDepth 20000 in
theorem gX1_bond_X1_findConsignment : GoodIn wsX1_bond (wsV RX1 75 RX1 yX1_findConsignment wsX1_findConsignment) := goodIn_app (goodIn_of _ (by decide +kernel)) ggX1_bond_X1_findConsignment
set_option maxRecDepth 20000 in
theorem ggX1_bond_X1_checkStore : GoodIn wsX1_bond wsX1_checkStore := goodIn_ca (goodIn_r _ [18, 19, 20, 11, 21, 22, 23] (by decide +kernel) (by decide +kernel)) (goodIn_sub (fun _ h => List.mem_cons_of_mem _ (List.mem_append_right _ h)) (by decide +kernel))
set_option maxRecDepth 20000 in
theorem gX1_bond_X1_checkStore : GoodIn wsX1_bond (va_wsS RX1 125 yX1_checkStore wsX1_checkStore) := goodIn_app (goodIn_of _ (by decide +kernel)) ggX1_bond_X1_checkStore
set_option maxRecDepth 20000 in
theorem ggX1_bond_X1_hasToBeSearched : GoodIn wsX1_bond wsX1_hasToBeSearched := goodIn_r _ [27, 3, 28, 29, 30, 31, 32, 33, 34, 35, 36, 37, 38, 11, 39, 40, 41, 42, 43, 63, 64, 65, 66, 67, 68, 69, 70, 71, 72, 73, 74, 75, 76, 77, 78, 79, 80, 81, 82, 83, 84] (by decide +kernel) (by decide +kernel)
set_option maxRecDepth 20000 in
theorem gX1_bond_X1_hasToBeSearched : GoodIn wsX1_bond (wsV RX1 107 RX1 yX1_hasToBeSearched wsX1_hasToBeSearched) := goodIn_app (goodIn_of _ (by decide +kernel)) ggX1_bond_X1_hasToBeSearched
set_option maxRecDepth 20000 in
theorem ggX1_bond_X1_dutyNow : GoodIn wsX1_bond wsX1_dutyNow := goodIn_r _ [47, 40, 7, 63, 64, 65, 66, 67, 68, 69, 70, 71, 72, 73, 74, 75, 76, 77, 78, 79, 80, 81, 82, 83, 84] (by decide +kernel) (by decide +kernel)
set_option maxRecDepth 20000 in
theorem gX1_bond_X1_dutyNow : GoodIn wsX1_bond (wsV RX1 130 RX1 yX1_dutyNow wsX1_dutyNow) := goodIn_app (goodIn_of _ (by decide +kernel)) ggX1_bond_X1_dutyNow
set_option maxRecDepth 20000 in
theorem ggX1_bond_X0_enterStore : GoodIn wsX1_bond wsX0_enterStore := goodIn_r _ [51, 52, 53, 54, 55, 56, 57, 11, 58, 59, 60, 61, 33, 62, 63, 64, 65, 66, 67, 68, 69, 70, 71, 72, 73, 74] (by decide +kernel) (by decide +kernel)
set_option maxRecDepth 20000 in
theorem gX1_bond_X0_enterStore : GoodIn wsX1_bond (wsV RX1 138 RX0 yX0_enterStore wsX0_enterStore) := goodIn_app (goodIn_of _ (by decide +kernel)) ggX1_bond_X0_enterStore
set_option maxRecDepth 20000 in
theorem ggX1_move_X1_findConsignment : GoodIn wsX1_move wsX1_findConsignment := goodIn_ca (goodIn_r _ [8, 9, 10, 11, 41, 42, 43, 44, 45, 46, 47, 48, 49, 50] (by decide +kernel) (by decide +kernel)) (goodIn_sub (fun _ h => List.mem_cons_of_mem _ (List.mem_append_left _ (List.mem_append_right _ h))) (by decide +kernel))
set_option maxRecDepth 20000 in
theorem gX1_move_X1_findConsignment : GoodIn wsX1_move (wsV RX1 75 RX1 yX1_findConsignment wsX1_findConsignment) := goodIn_app (goodIn_of _ (by decide +kernel)) ggX1_move_X1_findConsignment
set_option maxRecDepth 20000 in
theorem ggX1_move_X1_checkStore : GoodIn wsX1_move wsX1_checkStore := goodIn_ca (goodIn_r _ [14, 15, 16, 7, 17, 1, 2] (by decide +kernel) (by decide +kernel)) (goodIn_sub (fun _ h => List.mem_cons_of_mem _ (List.mem_append_left _ (List.mem_append_left _ (List.mem_append_right _ h)))) (by decide +kernel))
set_option maxRecDepth 20000 in
theorem gX1_move_X1_checkStore : GoodIn wsX1_move (va_wsS RX1 125 yX1_checkStore wsX1_checkStore) := goodIn_app (goodIn_of _ (by decide +kernel)) ggX1_move_X1_checkStore
set_option maxRecDepth 20000 in
theorem ggX1_move_X1_checkTaking : GoodIn wsX1_move wsX1_checkTaking := goodIn_ca (goodIn_ca (goodIn_r _ [20, 21, 22, 3, 23, 24, 7, 25, 15, 16, 17, 1, 2, 12, 13, 14, 26, 27, 28, 29, 30, 31, 32, 33, 34, 35, 36, 37, 38, 39, 40] (by decide +kernel) (by decide +kernel)) (goodIn_sub (fun _ h => List.mem_cons_of_mem _ (List.mem_append_right _ h)) (by decide +kernel))) (goodIn_sub (fun _ h => List.mem_cons_of_mem _ (List.mem_append_left _ (List.mem_append_left _ (List.mem_append_right _ h)))) (by decide +kernel))
set_option maxRecDepth 20000 in
theorem gX1_move_X1_checkTaking : GoodIn wsX1_move (va_wsS RX1 147 yX1_checkTaking wsX1_checkTaking) := goodIn_app (goodIn_of _ (by decide +kernel)) ggX1_move_X1_checkTaking
set_option maxRecDepth 20000 in
theorem ggX1_move_X1_placeOf : GoodIn wsX1_move wsX1_placeOf := goodIn_r _ [28] (by decide +kernel) (by decide +kernel)
set_option maxRecDepth 20000 in
theorem gX1_move_X1_placeOf : GoodIn wsX1_move (va_wsS RX1 151 yX1_placeOf wsX1_placeOf) := goodIn_app (goodIn_of _ (by decide +kernel)) ggX1_move_X1_placeOf
set_option maxRecDepth 20000 in
theorem ggX1_free_X1_findConsignment : GoodIn wsX1_free wsX1_findConsignment := goodIn_ca (goodIn_r _ [7, 8, 9, 10, 39, 40, 41, 42, 43, 44, 45, 46, 47, 48] (by decide +kernel) (by decide +kernel)) (goodIn_sub (fun _ h => List.mem_cons_of_mem _ (List.mem_append_left _ (List.mem_append_left _ (List.mem_append_right _ h)))) (by decide +kernel))
set_option maxRecDepth 20000 in
theorem gX1_free_X1_findConsignment : GoodIn wsX1_free (wsV RX1 75 RX1 yX1_findConsignment wsX1_findConsignment) := goodIn_app (goodIn_of _ (by decide +kernel)) ggX1_free_X1_findConsignment
set_option maxRecDepth 20000 in
theorem ggX1_free_X1_checkTaking : GoodIn wsX1_free wsX1_checkTaking := goodIn_ca (goodIn_ca (goodIn_r _ [13, 14, 15, 16, 17, 18, 6, 19, 20, 21, 22, 23, 24, 25, 26, 27, 28, 29, 30, 49, 50, 51, 52, 53, 54, 55, 56, 57, 58, 59, 60] (by decide +kernel) (by decide +kernel)) (goodIn_sub (fun _ h => List.mem_cons_of_mem _ (List.mem_append_left _ (List.mem_append_right _ h))) (by decide +kernel))) (goodIn_sub (fun _ h => List.mem_cons_of_mem _ (List.mem_append_right _ h)) (by decide +kernel))
set_option maxRecDepth 20000 in
theorem gX1_free_X1_checkTaking : GoodIn wsX1_free (va_wsS RX1 147 yX1_checkTaking wsX1_checkTaking) := goodIn_app (goodIn_of _ (by decide +kernel)) ggX1_free_X1_checkTaking
set_option maxRecDepth 20000 in
theorem ggX1_free_X1_takeOut : GoodIn wsX1_free wsX1_takeOut := goodIn_r _ [34, 35, 36, 2, 16, 37, 38, 28, 29, 6, 30, 49, 50, 51, 52, 53, 54, 55, 56, 57, 58, 59, 60, 39, 40, 41, 42, 43, 44, 45, 46, 47, 48] (by decide +kernel) (by decide +kernel)
set_option maxRecDepth 20000 in
theorem gX1_free_X1_takeOut : GoodIn wsX1_free (wsV RX1 158 RX1 yX1_takeOut wsX1_takeOut) := goodIn_app (goodIn_of _ (by decide +kernel)) ggX1_free_X1_takeOut
set_option maxRecDepth 20000 in
theorem ggX1_sendBack_X1_findConsignment : GoodIn wsX1_sendBack wsX1_findConsignment := goodIn_ca (goodIn_r _ [5, 6, 7, 8, 38, 39, 40, 41, 42, 43, 44, 45, 46, 47] (by decide +kernel) (by decide +kernel)) (goodIn_sub (fun _ h => List.mem_cons_of_mem _ (List.mem_append_left _ (List.mem_append_left _ (List.mem_append_right _ h)))) (by decide +kernel))
set_option maxRecDepth 20000 in
theorem gX1_sendBack_X1_findConsignment : GoodIn wsX1_sendBack (wsV RX1 75 RX1 yX1_findConsignment wsX1_findConsignment) := goodIn_app (goodIn_of _ (by decide +kernel)) ggX1_sendBack_X1_findConsignment
set_option maxRecDepth 20000 in
theorem ggX1_sendBack_X1_checkTaking : GoodIn wsX1_sendBack wsX1_checkTaking := goodIn_ca (goodIn_ca (goodIn_r _ [11, 12, 13, 14, 15, 16, 4, 17, 18, 19, 20, 21, 22, 23, 24, 25, 26, 27, 28, 48, 49, 50, 51, 52, 53, 54, 55, 56, 57, 58, 59] (by decide +kernel) (by decide +kernel)) (goodIn_sub (fun _ h => List.mem_cons_of_mem _ (List.mem_append_left _ (List.mem_append_right _ h))) (by decide +kernel))) (goodIn_sub (fun _ h => List.mem_cons_of_mem _ (List.mem_append_right _ h)) (by decide +kernel))
set_option maxRecDepth 20000 in
theorem gX1_sendBack_X1_checkTaking : GoodIn wsX1_sendBack (va_wsS RX1 147 yX1_checkTaking wsX1_checkTaking) := goodIn_app (goodIn_of _ (by decide +kernel)) ggX1_sendBack_X1_checkTaking
set_option maxRecDepth 20000 in
theorem ggX1_sendBack_X1_takeOut : GoodIn wsX1_sendBack wsX1_takeOut := goodIn_r _ [32, 33, 34, 35, 14, 36, 37, 26, 27, 4, 28, 48, 49, 50, 51, 52, 53, 54, 55, 56, 57, 58, 59, 38, 39, 40, 41, 42, 43, 44, 45, 46, 47] (by decide +kernel) (by decide +kernel)
set_option maxRecDepth 20000 in
theorem gX1_sendBack_X1_takeOut : GoodIn wsX1_sendBack (wsV RX1 158 RX1 yX1_takeOut wsX1_takeOut) := goodIn_app (goodIn_of _ (by decide +kernel)) ggX1_sendBack_X1_takeOut
set_option maxRecDepth 20000 in
theorem ggX1_state_X1_findConsignment : GoodIn wsX1_state wsX1_findConsignment := goodIn_ca (goodIn_r _ [6, 7, 8, 9, 22, 23, 24, 25, 26, 27, 28, 29, 30, 31] (by decide +kernel) (by decide +kernel)) (goodIn_sub (fun _ h => List.mem_cons_of_mem _ (List.mem_append_right _ h)) (by decide +kernel))
set_option maxRecDepth 20000 in
theorem gX1_state_X1_findConsignment : GoodIn wsX1_state (wsV RX1 75 RX1 yX1_findConsignment wsX1_findConsignment) := goodIn_app (goodIn_of _ (by decide +kernel)) ggX1_state_X1_findConsignment
set_option maxRecDepth 20000 in
theorem ggX1_manifest_X1_findConsignment : GoodIn wsX1_manifest wsX1_findConsignment := goodIn_ca (goodIn_r _ [6, 7, 8, 9, 30, 31, 32, 33, 34, 35, 36, 37, 38, 39] (by decide +kernel) (by decide +kernel)) (goodIn_sub (fun _ h => List.mem_cons_of_mem _ (List.mem_append_left _ (List.mem_append_right _ h))) (by decide +kernel))
set_option maxRecDepth 20000 in
theorem gX1_manifest_X1_findConsignment : GoodIn wsX1_manifest (wsV RX1 75 RX1 yX1_findConsignment wsX1_findConsignment) := goodIn_app (goodIn_of _ (by decide +kernel)) ggX1_manifest_X1_findConsignment
set_option maxRecDepth 20000 in
theorem ggX1_manifest_X1_checkSort : GoodIn wsX1_manifest wsX1_checkSort := goodIn_ca (goodIn_r _ [12, 13, 14, 5, 15, 16, 17] (by decide +kernel) (by decide +kernel)) (goodIn_sub (fun _ h => List.mem_cons_of_mem _ (List.mem_append_right _ h)) (by decide +kernel))
set_option maxRecDepth 20000 in
theorem gX1_manifest_X1_checkSort : GoodIn wsX1_manifest (va_wsS RX1 44 yX1_checkSort wsX1_checkSort) := goodIn_app (goodIn_of _ (by decide +kernel)) ggX1_manifest_X1_checkSort
set_option maxRecDepth 20000 in
theorem ggX1_stored_X1_checkSort : GoodIn wsX1_stored wsX1_checkSort := goodIn_ca (goodIn_r _ [6, 7, 8, 5, 9, 10, 11] (by decide +kernel) (by decide +kernel)) (goodIn_sub (fun _ h => List.mem_cons_of_mem _ (List.mem_append_right _ h)) (by decide +kernel))
set_option maxRecDepth 20000 in
theorem gX1_stored_X1_checkSort : GoodIn wsX1_stored (va_wsS RX1 44 yX1_checkSort wsX1_checkSort) := goodIn_app (goodIn_of _ (by decide +kernel)) ggX1_stored_X1_checkSort
set_option maxRecDepth 20000 in
theorem ggX1_stored_X1_checkStore : GoodIn wsX1_stored wsX1_checkStore := goodIn_ca (goodIn_r _ [14, 7, 8, 5, 9, 10, 11] (by decide +kernel) (by decide +kernel)) (goodIn_sub (fun _ h => List.mem_cons_of_mem _ (List.mem_append_right _ h)) (by decide +kernel))
set_option maxRecDepth 20000 in
theorem gX1_stored_X1_checkStore : GoodIn wsX1_stored (va_wsS RX1 125 yX1_checkStore wsX1_checkStore) := goodIn_app (goodIn_of _ (by decide +kernel)) ggX1_stored_X1_checkStore
set_option maxRecDepth 20000 in
theorem ggX1_stored_X1_placeOf : GoodIn wsX1_stored wsX1_placeOf := goodIn_r _ [17] (by decide +kernel) (by decide +kernel)
set_option maxRecDepth 20000 in
theorem gX1_stored_X1_placeOf : GoodIn wsX1_stored (va_wsS RX1 151 yX1_placeOf wsX1_placeOf) := goodIn_app (goodIn_of _ (by decide +kernel)) ggX1_stored_X1_placeOf
set_option maxRecDepth 20000 in
theorem ggX1_held_X1_checkTrader : GoodIn wsX1_held wsX1_checkTrader := goodIn_ca (goodIn_r _ [5, 6, 7, 4, 8, 9, 10] (by decide +kernel) (by decide +kernel)) (goodIn_sub (fun _ h => List.mem_cons_of_mem _ (List.mem_append_right _ h)) (by decide +kernel))
set_option maxRecDepth 20000 in
theorem gX1_held_X1_checkTrader : GoodIn wsX1_held (va_wsS RX1 56 yX1_checkTrader wsX1_checkTrader) := goodIn_app (goodIn_of _ (by decide +kernel)) ggX1_held_X1_checkTrader
set_option maxRecDepth 20000 in
theorem ggX1_paid_X1_checkTrader : GoodIn wsX1_paid wsX1_checkTrader := goodIn_ca (goodIn_r _ [5, 6, 7, 4, 8, 9, 10] (by decide +kernel) (by decide +kernel)) (goodIn_sub (fun _ h => List.mem_cons_of_mem _ (List.mem_append_right _ h)) (by decide +kernel))
set_option maxRecDepth 20000 in
theorem gX1_paid_X1_checkTrader : GoodIn wsX1_paid (va_wsS RX1 56 yX1_checkTrader wsX1_checkTrader) := goodIn_app (goodIn_of _ (by decide +kernel)) ggX1_paid_X1_checkTrader
set_option maxRecDepth 20000 in
theorem ggX1_checkSort_X1_checkRange : GoodIn wsX1_checkSort wsX1_checkRange := goodIn_ca (goodIn_r _ [4, 5, 6] (by decide +kernel) (by decide +kernel)) (goodIn_sub (fun _ h => List.mem_cons_of_mem _ (List.mem_append_right _ h)) (by decide +kernel))
set_option maxRecDepth 20000 in
theorem gX1_checkSort_X1_checkRange : GoodIn wsX1_checkSort (va_wsS RX1 48 yX1_checkRange wsX1_checkRange) := goodIn_app (goodIn_of _ (by decide +kernel)) ggX1_checkSort_X1_checkRange
set_option maxRecDepth 20000 in
theorem ggX1_checkStore_X1_checkRange : GoodIn wsX1_checkStore wsX1_checkRange := goodIn_ca (goodIn_r _ [4, 5, 6] (by decide +kernel) (by decide +kernel)) (goodIn_sub (fun _ h => List.mem_cons_of_mem _ (List.mem_append_right _ h)) (by decide +kernel))
set_option maxRecDepth 20000 in
theorem gX1_checkStore_X1_checkRange : GoodIn wsX1_checkStore (va_wsS RX1 48 yX1_checkRange wsX1_checkRange) := goodIn_app (goodIn_of _ (by decide +kernel)) ggX1_checkStore_X1_checkRange
set_option maxRecDepth 20000 in
theorem ggX1_checkTrader_X1_checkRange : GoodIn wsX1_checkTrader wsX1_checkRange := goodIn_ca (goodIn_r _ [4, 5, 6] (by decide +kernel) (by decide +kernel)) (goodIn_sub (fun _ h => List.mem_cons_of_mem _ (List.mem_append_right _ h)) (by decide +kernel))
set_option maxRecDepth 20000 in
theorem gX1_checkTrader_X1_checkRange : GoodIn wsX1_checkTrader (va_wsS RX1 48 yX1_checkRange wsX1_checkRange) := goodIn_app (goodIn_of _ (by decide +kernel)) ggX1_checkTrader_X1_checkRange
set_option maxRecDepth 20000 in
theorem ggX1_checkSeal_X1_checkRange : GoodIn wsX1_checkSeal wsX1_checkRange := goodIn_ca (goodIn_r _ [4, 5, 6] (by decide +kernel) (by decide +kernel)) (goodIn_sub (fun _ h => List.mem_cons_of_mem _ (List.mem_append_right _ h)) (by decide +kernel))
set_option maxRecDepth 20000 in
theorem gX1_checkSeal_X1_checkRange : GoodIn wsX1_checkSeal (va_wsS RX1 48 yX1_checkRange wsX1_checkRange) := goodIn_app (goodIn_of _ (by decide +kernel)) ggX1_checkSeal_X1_checkRange
set_option maxRecDepth 20000 in
theorem ggX1_checkTaking_X1_checkSort : GoodIn wsX1_checkTaking wsX1_checkSort := goodIn_ca (goodIn_r _ [7, 8, 9, 6, 10, 11, 12] (by decide +kernel) (by decide +kernel)) (goodIn_sub (fun _ h => List.mem_cons_of_mem _ (List.mem_append_right _ h)) (by decide +kernel))
set_option maxRecDepth 20000 in
theorem gX1_checkTaking_X1_checkSort : GoodIn wsX1_checkTaking (va_wsS RX1 44 yX1_checkSort wsX1_checkSort) := goodIn_app (goodIn_of _ (by decide +kernel)) ggX1_checkTaking_X1_checkSort
set_option maxRecDepth 20000 in
theorem ggX1_checkTaking_X1_checkStore : GoodIn wsX1_checkTaking wsX1_checkStore := goodIn_ca (goodIn_r _ [15, 8, 9, 6, 10, 11, 12] (by decide +kernel) (by decide +kernel)) (goodIn_sub (fun _ h => List.mem_cons_of_mem _ (List.mem_append_right _ h)) (by decide +kernel))
set_option maxRecDepth 20000 in
theorem gX1_checkTaking_X1_checkStore : GoodIn wsX1_checkTaking (va_wsS RX1 125 yX1_checkStore wsX1_checkStore) := goodIn_app (goodIn_of _ (by decide +kernel)) ggX1_checkTaking_X1_checkStore
set_option maxRecDepth 20000 in
theorem ggX1_checkTaking_X1_checkRange : GoodIn wsX1_checkTaking wsX1_checkRange := goodIn_ca (goodIn_r _ [10, 11, 12] (by decide +kernel) (by decide +kernel)) (goodIn_sub (fun _ h => List.mem_cons_of_mem _ (List.mem_append_right _ h)) (by decide +kernel))
set_option maxRecDepth 20000 in
theorem gX1_checkTaking_X1_checkRange : GoodIn wsX1_checkTaking (va_wsS RX1 48 yX1_checkRange wsX1_checkRange) := goodIn_app (goodIn_of _ (by decide +kernel)) ggX1_checkTaking_X1_checkRange
set_option maxRecDepth 20000 in
theorem ggX1_checkTaking_X1_placeOf : GoodIn wsX1_checkTaking wsX1_placeOf := goodIn_r _ [18] (by decide +kernel) (by decide +kernel)
set_option maxRecDepth 20000 in
theorem gX1_checkTaking_X1_placeOf : GoodIn wsX1_checkTaking (va_wsS RX1 151 yX1_placeOf wsX1_placeOf) := goodIn_app (goodIn_of _ (by decide +kernel)) ggX1_checkTaking_X1_placeOf
set_option maxRecDepth 20000 in
theorem ggX1_hasToBeSearched_X0_wasSearched : GoodIn wsX1_hasToBeSearched wsX0_wasSearched := goodIn_r _ [8, 9, 19, 20, 21, 22, 23, 24, 25, 26, 27, 28, 29, 30] (by decide +kernel) (by decide +kernel)
set_option maxRecDepth 20000 in
theorem gX1_hasToBeSearched_X0_wasSearched : GoodIn wsX1_hasToBeSearched (wsV RX1 171 RX0 yX0_wasSearched wsX0_wasSearched) := goodIn_app (goodIn_of _ (by decide +kernel)) ggX1_hasToBeSearched_X0_wasSearched
set_option maxRecDepth 20000 in
theorem ggX1_hasToBeSearched_X1_riskOf : GoodIn wsX1_hasToBeSearched wsX1_riskOf := goodIn_r _ [14, 15, 16, 17, 18, 19, 20, 21, 22, 23, 24, 25, 26, 27, 28, 29, 30, 31, 32, 33, 34, 35, 36, 37, 38, 39, 40] (by decide +kernel) (by decide +kernel)
set_option maxRecDepth 20000 in
theorem gX1_hasToBeSearched_X1_riskOf : GoodIn wsX1_hasToBeSearched (wsV RX1 113 RX1 yX1_riskOf wsX1_riskOf) := goodIn_app (goodIn_of _ (by decide +kernel)) ggX1_hasToBeSearched_X1_riskOf
set_option maxRecDepth 20000 in
theorem ggX1_countToSearch_X1_hasToBeSearched : GoodIn wsX1_countToSearch wsX1_hasToBeSearched := goodIn_r _ [6, 7, 8, 9, 10, 11, 12, 13, 14, 15, 16, 17, 18, 5, 19, 20, 21, 22, 23, 34, 35, 36, 37, 38, 39, 40, 41, 42, 43, 44, 45, 24, 25, 26, 27, 28, 29, 30, 31, 32, 33] (by decide +kernel) (by decide +kernel)
set_option maxRecDepth 20000 in
theorem gX1_countToSearch_X1_hasToBeSearched : GoodIn wsX1_countToSearch (wsV RX1 107 RX1 yX1_hasToBeSearched wsX1_hasToBeSearched) := goodIn_app (goodIn_of _ (by decide +kernel)) ggX1_countToSearch_X1_hasToBeSearched
set_option maxRecDepth 20000 in
theorem ggX1_takeOut_X1_placeOf : GoodIn wsX1_takeOut wsX1_placeOf := goodIn_r _ [10] (by decide +kernel) (by decide +kernel)
set_option maxRecDepth 20000 in
theorem gX1_takeOut_X1_placeOf : GoodIn wsX1_takeOut (va_wsS RX1 151 yX1_placeOf wsX1_placeOf) := goodIn_app (goodIn_of _ (by decide +kernel)) ggX1_takeOut_X1_placeOf
set_option maxRecDepth 20000 in
theorem ggX2_isSort_X2_isIn : GoodIn wsX2_isSort wsX2_isIn := goodIn_r _ [4] (by decide +kernel) (by decide +kernel)
set_option maxRecDepth 20000 in
theorem gX2_isSort_X2_isIn : GoodIn wsX2_isSort (va_wsS RX2 66 yX2_isIn wsX2_isIn) := goodIn_app (goodIn_of _ (by decide +kernel)) ggX2_isSort_X2_isIn
set_option maxRecDepth 20000 in
theorem ggX2_isTrader_X2_isIn : GoodIn wsX2_isTrader wsX2_isIn := goodIn_r _ [4] (by decide +kernel) (by decide +kernel)
set_option maxRecDepth 20000 in
theorem gX2_isTrader_X2_isIn : GoodIn wsX2_isTrader (va_wsS RX2 66 yX2_isIn wsX2_isIn) := goodIn_app (goodIn_of _ (by decide +kernel)) ggX2_isTrader_X2_isIn
set_option maxRecDepth 20000 in
theorem ggX2_isStore_X2_isIn : GoodIn wsX2_isStore wsX2_isIn := goodIn_r _ [4] (by decide +kernel) (by decide +kernel)
set_option maxRecDepth 20000 in
theorem gX2_isStore_X2_isIn : GoodIn wsX2_isStore (va_wsS RX2 66 yX2_isIn wsX2_isIn) := goodIn_app (goodIn_of _ (by decide +kernel)) ggX2_isStore_X2_isIn
set_option maxRecDepth 20000 in
theorem ggX2_isConsignment_X2_isIn : GoodIn wsX2_isConsignment wsX2_isIn := goodIn_r _ [5] (by decide +kernel) (by decide +kernel)
set_option maxRecDepth 20000 in
theorem gX2_isConsignment_X2_isIn : GoodIn wsX2_isConsignment (va_wsS RX2 66 yX2_isIn wsX2_isIn) := goodIn_app (goodIn_of _ (by decide +kernel)) ggX2_isConsignment_X2_isIn
set_option maxRecDepth 20000 in
theorem ggX2_setSort_X2_isSort : GoodIn wsX2_setSort wsX2_isSort := goodIn_r _ [6, 7, 8, 5, 9] (by decide +kernel) (by decide +kernel)
set_option maxRecDepth 20000 in
theorem gX2_setSort_X2_isSort : GoodIn wsX2_setSort (va_wsS RX2 73 yX2_isSort wsX2_isSort) := goodIn_app (goodIn_of _ (by decide +kernel)) ggX2_setSort_X2_isSort
set_option maxRecDepth 20000 in
theorem ggX2_setSort_X2_isIn : GoodIn wsX2_setSort wsX2_isIn := goodIn_r _ [9] (by decide +kernel) (by decide +kernel)
set_option maxRecDepth 20000 in
theorem gX2_setSort_X2_isIn : GoodIn wsX2_setSort (va_wsS RX2 66 yX2_isIn wsX2_isIn) := goodIn_app (goodIn_of _ (by decide +kernel)) ggX2_setSort_X2_isIn
set_option maxRecDepth 20000 in
theorem ggX2_setSort_X2_isFine : GoodIn wsX2_setSort wsX2_isFine := goodIn_r _ [13, 14, 15, 16, 17, 18, 19, 20, 21, 22, 23, 24, 25, 26, 27, 28, 29, 30, 31, 32, 33, 34, 35] (by decide +kernel) (by decide +kernel)
set_option maxRecDepth 20000 in
theorem gX2_setSort_X2_isFine : GoodIn wsX2_setSort (wsV RX2 77 RX2 yX2_isFine wsX2_isFine) := goodIn_app (goodIn_of _ (by decide +kernel)) ggX2_setSort_X2_isFine
set_option maxRecDepth 20000 in
theorem ggX2_setRisk_X2_isIn : GoodIn wsX2_setRisk wsX2_isIn := goodIn_r _ [7] (by decide +kernel) (by decide +kernel)
set_option maxRecDepth 20000 in
theorem gX2_setRisk_X2_isIn : GoodIn wsX2_setRisk (va_wsS RX2 66 yX2_isIn wsX2_isIn) := goodIn_app (goodIn_of _ (by decide +kernel)) ggX2_setRisk_X2_isIn
set_option maxRecDepth 20000 in
theorem ggX2_setRisk_X2_isFine : GoodIn wsX2_setRisk wsX2_isFine := goodIn_r _ [11, 12, 28, 29, 30, 31, 32, 33, 34, 35, 36, 37, 38, 39, 40, 41, 42, 43, 44, 45, 46, 47, 48] (by decide +kernel) (by decide +kernel)
set_option maxRecDepth 20000 in
theorem gX2_setRisk_X2_isFine : GoodIn wsX2_setRisk (wsV RX2 77 RX2 yX2_isFine wsX2_isFine) := goodIn_app (goodIn_of _ (by decide +kernel)) ggX2_setRisk_X2_isFine
set_option maxRecDepth 20000 in
theorem ggX2_setRisk_X2_mustNow : GoodIn wsX2_setRisk wsX2_mustNow := goodIn_r _ [16, 17, 18, 19, 1, 20, 21, 22, 6, 23, 24, 25, 26, 27, 28, 29, 30, 31, 32, 33, 34, 35, 36, 37, 38, 39, 40, 41, 42, 43, 44, 45, 46, 47, 48] (by decide +kernel) (by decide +kernel)
set_option maxRecDepth 20000 in
theorem gX2_setRisk_X2_mustNow : GoodIn wsX2_setRisk (wsV RX2 83 RX2 yX2_mustNow wsX2_mustNow) := goodIn_app (goodIn_of _ (by decide +kernel)) ggX2_setRisk_X2_mustNow
set_option maxRecDepth 20000 in
theorem ggX2_setGuarantee_X2_isTrader : GoodIn wsX2_setGuarantee wsX2_isTrader := goodIn_r _ [7, 8, 9, 6, 10] (by decide +kernel) (by decide +kernel)
set_option maxRecDepth 20000 in
theorem gX2_setGuarantee_X2_isTrader : GoodIn wsX2_setGuarantee (va_wsS RX2 86 yX2_isTrader wsX2_isTrader) := goodIn_app (goodIn_of _ (by decide +kernel)) ggX2_setGuarantee_X2_isTrader
set_option maxRecDepth 20000 in
theorem ggX2_setGuarantee_X2_isIn : GoodIn wsX2_setGuarantee wsX2_isIn := goodIn_r _ [10] (by decide +kernel) (by decide +kernel)
set_option maxRecDepth 20000 in
theorem gX2_setGuarantee_X2_isIn : GoodIn wsX2_setGuarantee (va_wsS RX2 66 yX2_isIn wsX2_isIn) := goodIn_app (goodIn_of _ (by decide +kernel)) ggX2_setGuarantee_X2_isIn
set_option maxRecDepth 20000 in
theorem ggX2_setGuarantee_X2_isFine : GoodIn wsX2_setGuarantee wsX2_isFine := goodIn_r _ [14, 15, 16, 17, 18, 19, 20, 21, 22, 23, 24, 25, 26, 27, 28, 29, 30, 31, 32, 33, 34, 35, 36] (by decide +kernel) (by decide +kernel)
set_option maxRecDepth 20000 in
theorem gX2_setGuarantee_X2_isFine : GoodIn wsX2_setGuarantee (wsV RX2 77 RX2 yX2_isFine wsX2_isFine) := goodIn_app (goodIn_of _ (by decide +kernel)) ggX2_setGuarantee_X2_isFine
set_option maxRecDepth 20000 in
theorem ggX2_announce_X2_isTrader : GoodIn wsX2_announce wsX2_isTrader := goodIn_r _ [7, 8, 9, 6, 10] (by decide +kernel) (by decide +kernel)
set_option maxRecDepth 20000 in
theorem gX2_announce_X2_isTrader : GoodIn wsX2_announce (va_wsS RX2 86 yX2_isTrader wsX2_isTrader) := goodIn_app (goodIn_of _ (by decide +kernel)) ggX2_announce_X2_isTrader
set_option maxRecDepth 20000 in
theorem ggX2_announce_X2_isIn : GoodIn wsX2_announce wsX2_isIn := goodIn_r _ [10] (by decide +kernel) (by decide +kernel)
set_option maxRecDepth 20000 in
theorem gX2_announce_X2_isIn : GoodIn wsX2_announce (va_wsS RX2 66 yX2_isIn wsX2_isIn) := goodIn_app (goodIn_of _ (by decide +kernel)) ggX2_announce_X2_isIn
set_option maxRecDepth 20000 in
theorem ggX2_announce_X2_isFine : GoodIn wsX2_announce wsX2_isFine := goodIn_r _ [14, 15, 16, 17, 18, 19, 20, 21, 22, 23, 24, 25, 26, 27, 28, 29, 30, 31, 32, 33, 34, 35, 36] (by decide +kernel) (by decide +kernel)
set_option maxRecDepth 20000 in
theorem gX2_announce_X2_isFine : GoodIn wsX2_announce (wsV RX2 77 RX2 yX2_isFine wsX2_isFine) := goodIn_app (goodIn_of _ (by decide +kernel)) ggX2_announce_X2_isFine
set_option maxRecDepth 20000 in
theorem ggX2_amend_X2_isConsignment : GoodIn wsX2_amend wsX2_isConsignment := goodIn_r _ [8, 9, 10, 11, 7, 12, 21, 22, 23, 24, 25, 26, 27, 28, 29, 30, 31, 32, 33, 34, 35, 36, 37, 38, 39, 40, 41] (by decide +kernel) (by decide +kernel)
set_option maxRecDepth 20000 in
theorem gX2_amend_X2_isConsignment : GoodIn wsX2_amend (wsV RX2 90 RX2 yX2_isConsignment wsX2_isConsignment) := goodIn_app (goodIn_of _ (by decide +kernel)) ggX2_amend_X2_isConsignment
set_option maxRecDepth 20000 in
theorem ggX2_amend_X2_isSort : GoodIn wsX2_amend wsX2_isSort := goodIn_r _ [15, 10, 11, 7, 12] (by decide +kernel) (by decide +kernel)
set_option maxRecDepth 20000 in
theorem gX2_amend_X2_isSort : GoodIn wsX2_amend (va_wsS RX2 73 yX2_isSort wsX2_isSort) := goodIn_app (goodIn_of _ (by decide +kernel)) ggX2_amend_X2_isSort
set_option maxRecDepth 20000 in
theorem ggX2_amend_X2_isIn : GoodIn wsX2_amend wsX2_isIn := goodIn_r _ [12] (by decide +kernel) (by decide +kernel)
set_option maxRecDepth 20000 in
theorem gX2_amend_X2_isIn : GoodIn wsX2_amend (va_wsS RX2 66 yX2_isIn wsX2_isIn) := goodIn_app (goodIn_of _ (by decide +kernel)) ggX2_amend_X2_isIn
set_option maxRecDepth 20000 in
theorem ggX2_amend_X2_isFine : GoodIn wsX2_amend wsX2_isFine := goodIn_r _ [19, 20, 21, 22, 23, 24, 25, 26, 27, 28, 29, 30, 31, 32, 33, 34, 35, 36, 37, 38, 39, 40, 41] (by decide +kernel) (by decide +kernel)
set_option maxRecDepth 20000 in
theorem gX2_amend_X2_isFine : GoodIn wsX2_amend (wsV RX2 77 RX2 yX2_isFine wsX2_isFine) := goodIn_app (goodIn_of _ (by decide +kernel)) ggX2_amend_X2_isFine
set_option maxRecDepth 20000 in
theorem ggX2_arrive_X2_isConsignment : GoodIn wsX2_arrive wsX2_isConsignment := goodIn_r _ [11, 12, 13, 14, 10, 15, 38, 39, 40, 41, 42, 43, 44, 45, 46, 47, 48, 49, 50, 51, 52, 53, 54, 55, 56, 57, 58] (by decide +kernel) (by decide +kernel)
set_option maxRecDepth 20000 in
theorem gX2_arrive_X2_isConsignment : GoodIn wsX2_arrive (wsV RX2 90 RX2 yX2_isConsignment wsX2_isConsignment) := goodIn_app (goodIn_of _ (by decide +kernel)) ggX2_arrive_X2_isConsignment
set_option maxRecDepth 20000 in
theorem ggX2_arrive_X2_isEmpty : GoodIn wsX2_arrive wsX2_isEmpty := goodIn_r _ [19, 20, 38, 39, 40, 41, 42, 43, 44, 45, 46, 47, 48, 49, 50, 51, 52, 53, 54, 55, 56, 57, 58] (by decide +kernel) (by decide +kernel)
set_option maxRecDepth 20000 in
theorem gX2_arrive_X2_isEmpty : GoodIn wsX2_arrive (wsV RX2 93 RX2 yX2_isEmpty wsX2_isEmpty) := goodIn_app (goodIn_of _ (by decide +kernel)) ggX2_arrive_X2_isEmpty
set_option maxRecDepth 20000 in
theorem ggX2_arrive_X2_isIn : GoodIn wsX2_arrive wsX2_isIn := goodIn_r _ [15] (by decide +kernel) (by decide +kernel)
set_option maxRecDepth 20000 in
theorem gX2_arrive_X2_isIn : GoodIn wsX2_arrive (va_wsS RX2 66 yX2_isIn wsX2_isIn) := goodIn_app (goodIn_of _ (by decide +kernel)) ggX2_arrive_X2_isIn
set_option maxRecDepth 20000 in
theorem ggX2_arrive_X2_isFine : GoodIn wsX2_arrive wsX2_isFine := goodIn_r _ [24, 25, 38, 39, 40, 41, 42, 43, 44, 45, 46, 47, 48, 49, 50, 51, 52, 53, 54, 55, 56, 57, 58] (by decide +kernel) (by decide +kernel)
set_option maxRecDepth 20000 in
theorem gX2_arrive_X2_isFine : GoodIn wsX2_arrive (wsV RX2 77 RX2 yX2_isFine wsX2_isFine) := goodIn_app (goodIn_of _ (by decide +kernel)) ggX2_arrive_X2_isFine
set_option maxRecDepth 20000 in
theorem ggX2_arrive_X2_mustNow : GoodIn wsX2_arrive wsX2_mustNow := goodIn_r _ [29, 1, 30, 3, 31, 32, 33, 34, 10, 35, 36, 5, 20, 37, 38, 39, 40, 41, 42, 43, 44, 45, 46, 47, 48, 49, 50, 51, 52, 53, 54, 55, 56, 57, 58] (by decide +kernel) (by decide +kernel)
set_option maxRecDepth 20000 in
theorem gX2_arrive_X2_mustNow : GoodIn wsX2_arrive (wsV RX2 83 RX2 yX2_mustNow wsX2_mustNow) := goodIn_app (goodIn_of _ (by decide +kernel)) ggX2_arrive_X2_mustNow
set_option maxRecDepth 20000 in
theorem ggX2_mustNow_X2_riskNow : GoodIn wsX2_mustNow wsX2_riskNow := goodIn_r _ [9, 10, 11, 12, 13, 14, 15, 16, 17, 18, 19, 20, 21, 22, 23, 24, 25, 26, 27, 28, 29, 30, 31, 32, 33, 34] (by decide +kernel) (by decide +kernel)
set_option maxRecDepth 20000 in
theorem gX2_mustNow_X2_riskNow : GoodIn wsX2_mustNow (wsV RX2 99 RX2 yX2_riskNow wsX2_riskNow) := goodIn_app (goodIn_of _ (by decide +kernel)) ggX2_mustNow_X2_riskNow
set_option maxRecDepth 20000 in
theorem ggX2_risk_X2_isConsignment : GoodIn wsX2_risk wsX2_isConsignment := goodIn_r _ [6, 7, 8, 9, 5, 10, 24, 25, 26, 27, 28, 29, 30, 31, 32, 33, 34, 35, 36, 37, 38, 39, 40, 41, 42, 43, 44] (by decide +kernel) (by decide +kernel)
set_option maxRecDepth 20000 in
theorem gX2_risk_X2_isConsignment : GoodIn wsX2_risk (wsV RX2 90 RX2 yX2_isConsignment wsX2_isConsignment) := goodIn_app (goodIn_of _ (by decide +kernel)) ggX2_risk_X2_isConsignment
set_option maxRecDepth 20000 in
theorem ggX2_risk_X2_isFine : GoodIn wsX2_risk wsX2_isFine := goodIn_r _ [14, 15, 24, 25, 26, 27, 28, 29, 30, 31, 32, 33, 34, 35, 36, 37, 38, 39, 40, 41, 42, 43, 44] (by decide +kernel) (by decide +kernel)
set_option maxRecDepth 20000 in
theorem gX2_risk_X2_isFine : GoodIn wsX2_risk (wsV RX2 77 RX2 yX2_isFine wsX2_isFine) := goodIn_app (goodIn_of _ (by decide +kernel)) ggX2_risk_X2_isFine
set_option maxRecDepth 20000 in
theorem ggX2_risk_X2_riskNow : GoodIn wsX2_risk wsX2_riskNow := goodIn_r _ [19, 20, 21, 22, 23, 24, 25, 26, 27, 28, 29, 30, 31, 32, 33, 34, 35, 36, 37, 38, 39, 40, 41, 42, 43, 44] (by decide +kernel) (by decide +kernel)
set_option maxRecDepth 20000 in
theorem gX2_risk_X2_riskNow : GoodIn wsX2_risk (wsV RX2 99 RX2 yX2_riskNow wsX2_riskNow) := goodIn_app (goodIn_of _ (by decide +kernel)) ggX2_risk_X2_riskNow
set_option maxRecDepth 20000 in
theorem ggX2_mustSearch_X2_isConsignment : GoodIn wsX2_mustSearch wsX2_isConsignment := goodIn_r _ [5, 6, 7, 8, 4, 9, 31, 32, 33, 34, 35, 36, 37, 38, 39, 40, 41, 42, 43, 44, 45, 46, 47, 48, 49, 50, 51] (by decide +kernel) (by decide +kernel)
set_option maxRecDepth 20000 in
theorem gX2_mustSearch_X2_isConsignment : GoodIn wsX2_mustSearch (wsV RX2 90 RX2 yX2_isConsignment wsX2_isConsignment) := goodIn_app (goodIn_of _ (by decide +kernel)) ggX2_mustSearch_X2_isConsignment
set_option maxRecDepth 20000 in
theorem ggX2_mustSearch_X2_isFine : GoodIn wsX2_mustSearch wsX2_isFine := goodIn_r _ [13, 14, 31, 32, 33, 34, 35, 36, 37, 38, 39, 40, 41, 42, 43, 44, 45, 46, 47, 48, 49, 50, 51] (by decide +kernel) (by decide +kernel)
set_option maxRecDepth 20000 in
theorem gX2_mustSearch_X2_isFine : GoodIn wsX2_mustSearch (wsV RX2 77 RX2 yX2_isFine wsX2_isFine) := goodIn_app (goodIn_of _ (by decide +kernel)) ggX2_mustSearch_X2_isFine
set_option maxRecDepth 20000 in
theorem ggX2_mustSearch_X2_mustNow : GoodIn wsX2_mustSearch wsX2_mustNow := goodIn_r _ [18, 19, 20, 21, 22, 23, 24, 25, 4, 26, 27, 28, 29, 30, 31, 32, 33, 34, 35, 36, 37, 38, 39, 40, 41, 42, 43, 44, 45, 46, 47, 48, 49, 50, 51] (by decide +kernel) (by decide +kernel)
set_option maxRecDepth 20000 in
theorem gX2_mustSearch_X2_mustNow : GoodIn wsX2_mustSearch (wsV RX2 83 RX2 yX2_mustNow wsX2_mustNow) := goodIn_app (goodIn_of _ (by decide +kernel)) ggX2_mustSearch_X2_mustNow
set_option maxRecDepth 20000 in
theorem ggX2_search_X2_isConsignment : GoodIn wsX2_search wsX2_isConsignment := goodIn_r _ [9, 10, 11, 12, 8, 13, 22, 23, 24, 25, 26, 27, 28, 29, 30, 31, 32, 33, 34, 35, 36, 37, 38, 39, 40, 41, 42] (by decide +kernel) (by decide +kernel)
set_option maxRecDepth 20000 in
theorem gX2_search_X2_isConsignment : GoodIn wsX2_search (wsV RX2 90 RX2 yX2_isConsignment wsX2_isConsignment) := goodIn_app (goodIn_of _ (by decide +kernel)) ggX2_search_X2_isConsignment
set_option maxRecDepth 20000 in
theorem ggX2_search_X2_isSort : GoodIn wsX2_search wsX2_isSort := goodIn_r _ [16, 11, 12, 8, 13] (by decide +kernel) (by decide +kernel)
set_option maxRecDepth 20000 in
theorem gX2_search_X2_isSort : GoodIn wsX2_search (va_wsS RX2 73 yX2_isSort wsX2_isSort) := goodIn_app (goodIn_of _ (by decide +kernel)) ggX2_search_X2_isSort
set_option maxRecDepth 20000 in
theorem ggX2_search_X2_isIn : GoodIn wsX2_search wsX2_isIn := goodIn_r _ [13] (by decide +kernel) (by decide +kernel)
set_option maxRecDepth 20000 in
theorem gX2_search_X2_isIn : GoodIn wsX2_search (va_wsS RX2 66 yX2_isIn wsX2_isIn) := goodIn_app (goodIn_of _ (by decide +kernel)) ggX2_search_X2_isIn
end
section
set_option maxRecDepth 20000 in
theorem ggX2_search_X2_isFine : GoodIn wsX2_search wsX2_isFine := goodIn_r _ [20, 21, 22, 23, 24, 25, 26, 27, 28, 29, 30, 31, 32, 33, 34, 35, 36, 37, 38, 39, 40, 41, 42] (by decide +kernel) (by decide +kernel)
set_option maxRecDepth 20000 in
theorem gX2_search_X2_isFine : GoodIn wsX2_search (wsV RX2 77 RX2 yX2_isFine wsX2_isFine) := goodIn_app (goodIn_of _ (by decide +kernel)) ggX2_search_X2_isFine
set_option maxRecDepth 20000 in
theorem ggX2_bond_X2_isConsignment : GoodIn wsX2_bond wsX2_isConsignment := goodIn_r _ [13, 14, 15, 16, 12, 17, 51, 52, 53, 54, 55, 56, 57, 58, 59, 60, 61, 62, 63, 64, 65, 66, 67, 68, 69, 70, 71] (by decide +kernel) (by decide +kernel)
set_option maxRecDepth 20000 in
theorem gX2_bond_X2_isConsignment : GoodIn wsX2_bond (wsV RX2 90 RX2 yX2_isConsignment wsX2_isConsignment) := goodIn_app (goodIn_of _ (by decide +kernel)) ggX2_bond_X2_isConsignment
set_option maxRecDepth 20000 in
theorem ggX2_bond_X2_mustNow : GoodIn wsX2_bond wsX2_mustNow := goodIn_r _ [21, 2, 22, 23, 24, 25, 26, 27, 12, 28, 29, 30, 8, 31, 51, 52, 53, 54, 55, 56, 57, 58, 59, 60, 61, 62, 63, 64, 65, 66, 67, 68, 69, 70, 71] (by decide +kernel) (by decide +kernel)
set_option maxRecDepth 20000 in
theorem gX2_bond_X2_mustNow : GoodIn wsX2_bond (wsV RX2 83 RX2 yX2_mustNow wsX2_mustNow) := goodIn_app (goodIn_of _ (by decide +kernel)) ggX2_bond_X2_mustNow
set_option maxRecDepth 20000 in
theorem ggX2_bond_X2_owes : GoodIn wsX2_bond wsX2_owes := goodIn_r _ [35, 8, 6, 51, 52, 53, 54, 55, 56, 57, 58, 59, 60, 61, 62, 63, 64, 65, 66, 67, 68, 69, 70, 71] (by decide +kernel) (by decide +kernel)
set_option maxRecDepth 20000 in
theorem gX2_bond_X2_owes : GoodIn wsX2_bond (wsV RX2 103 RX2 yX2_owes wsX2_owes) := goodIn_app (goodIn_of _ (by decide +kernel)) ggX2_bond_X2_owes
set_option maxRecDepth 20000 in
theorem ggX2_bond_X2_isStore : GoodIn wsX2_bond wsX2_isStore := goodIn_r _ [38, 15, 16, 12, 17] (by decide +kernel) (by decide +kernel)
set_option maxRecDepth 20000 in
theorem gX2_bond_X2_isStore : GoodIn wsX2_bond (va_wsS RX2 106 yX2_isStore wsX2_isStore) := goodIn_app (goodIn_of _ (by decide +kernel)) ggX2_bond_X2_isStore
set_option maxRecDepth 20000 in
theorem ggX2_bond_X2_isFine : GoodIn wsX2_bond wsX2_isFine := goodIn_r _ [42, 43, 51, 52, 53, 54, 55, 56, 57, 58, 59, 60, 61, 62, 63, 64, 65, 66, 67, 68, 69, 70, 71] (by decide +kernel) (by decide +kernel)
set_option maxRecDepth 20000 in
theorem gX2_bond_X2_isFine : GoodIn wsX2_bond (wsV RX2 77 RX2 yX2_isFine wsX2_isFine) := goodIn_app (goodIn_of _ (by decide +kernel)) ggX2_bond_X2_isFine
set_option maxRecDepth 20000 in
theorem ggX2_bond_X2_isEmpty : GoodIn wsX2_bond wsX2_isEmpty := goodIn_r _ [47, 8, 51, 52, 53, 54, 55, 56, 57, 58, 59, 60, 61, 62, 63, 64, 65, 66, 67, 68, 69, 70, 71] (by decide +kernel) (by decide +kernel)
set_option maxRecDepth 20000 in
theorem gX2_bond_X2_isEmpty : GoodIn wsX2_bond (wsV RX2 93 RX2 yX2_isEmpty wsX2_isEmpty) := goodIn_app (goodIn_of _ (by decide +kernel)) ggX2_bond_X2_isEmpty
set_option maxRecDepth 20000 in
theorem ggX2_bond_X2_at : GoodIn wsX2_bond wsX2_at := goodIn_r _ [50] (by decide +kernel) (by decide +kernel)
set_option maxRecDepth 20000 in
theorem gX2_bond_X2_at : GoodIn wsX2_bond (va_wsS RX2 109 yX2_at wsX2_at) := goodIn_app (goodIn_of _ (by decide +kernel)) ggX2_bond_X2_at
set_option maxRecDepth 20000 in
theorem ggX2_isGoods_X2_isSort : GoodIn wsX2_isGoods wsX2_isSort := goodIn_r _ [4, 5, 6, 3, 7] (by decide +kernel) (by decide +kernel)
set_option maxRecDepth 20000 in
theorem gX2_isGoods_X2_isSort : GoodIn wsX2_isGoods (va_wsS RX2 73 yX2_isSort wsX2_isSort) := goodIn_app (goodIn_of _ (by decide +kernel)) ggX2_isGoods_X2_isSort
set_option maxRecDepth 20000 in
theorem ggX2_isGoods_X2_isStore : GoodIn wsX2_isGoods wsX2_isStore := goodIn_r _ [10, 5, 6, 3, 7] (by decide +kernel) (by decide +kernel)
set_option maxRecDepth 20000 in
theorem gX2_isGoods_X2_isStore : GoodIn wsX2_isGoods (va_wsS RX2 106 yX2_isStore wsX2_isStore) := goodIn_app (goodIn_of _ (by decide +kernel)) ggX2_isGoods_X2_isStore
set_option maxRecDepth 20000 in
theorem ggX2_isGoods_X2_isIn : GoodIn wsX2_isGoods wsX2_isIn := goodIn_r _ [7] (by decide +kernel) (by decide +kernel)
set_option maxRecDepth 20000 in
theorem gX2_isGoods_X2_isIn : GoodIn wsX2_isGoods (va_wsS RX2 66 yX2_isIn wsX2_isIn) := goodIn_app (goodIn_of _ (by decide +kernel)) ggX2_isGoods_X2_isIn
set_option maxRecDepth 20000 in
theorem ggX2_move_X2_isConsignment : GoodIn wsX2_move wsX2_isConsignment := goodIn_r _ [6, 7, 8, 9, 5, 10, 28, 29, 30, 31, 32, 33, 34, 35, 36, 37, 38, 39, 40, 41, 42, 43, 44, 45, 46, 47, 48] (by decide +kernel) (by decide +kernel)
set_option maxRecDepth 20000 in
theorem gX2_move_X2_isConsignment : GoodIn wsX2_move (wsV RX2 90 RX2 yX2_isConsignment wsX2_isConsignment) := goodIn_app (goodIn_of _ (by decide +kernel)) ggX2_move_X2_isConsignment
set_option maxRecDepth 20000 in
theorem ggX2_move_X2_isGoods : GoodIn wsX2_move wsX2_isGoods := goodIn_r _ [13, 14, 15, 5, 16, 8, 9, 10, 17, 18, 19] (by decide +kernel) (by decide +kernel)
set_option maxRecDepth 20000 in
theorem gX2_move_X2_isGoods : GoodIn wsX2_move (va_wsS RX2 113 yX2_isGoods wsX2_isGoods) := goodIn_app (goodIn_of _ (by decide +kernel)) ggX2_move_X2_isGoods
set_option maxRecDepth 20000 in
theorem ggX2_move_X2_isStore : GoodIn wsX2_move wsX2_isStore := goodIn_r _ [19, 8, 9, 5, 10] (by decide +kernel) (by decide +kernel)
set_option maxRecDepth 20000 in
theorem gX2_move_X2_isStore : GoodIn wsX2_move (va_wsS RX2 106 yX2_isStore wsX2_isStore) := goodIn_app (goodIn_of _ (by decide +kernel)) ggX2_move_X2_isStore
set_option maxRecDepth 20000 in
theorem ggX2_move_X2_at : GoodIn wsX2_move wsX2_at := goodIn_r _ [22] (by decide +kernel) (by decide +kernel)
set_option maxRecDepth 20000 in
theorem gX2_move_X2_at : GoodIn wsX2_move (va_wsS RX2 109 yX2_at wsX2_at) := goodIn_app (goodIn_of _ (by decide +kernel)) ggX2_move_X2_at
set_option maxRecDepth 20000 in
theorem ggX2_move_X2_isFine : GoodIn wsX2_move wsX2_isFine := goodIn_r _ [26, 27, 28, 29, 30, 31, 32, 33, 34, 35, 36, 37, 38, 39, 40, 41, 42, 43, 44, 45, 46, 47, 48] (by decide +kernel) (by decide +kernel)
set_option maxRecDepth 20000 in
theorem gX2_move_X2_isFine : GoodIn wsX2_move (wsV RX2 77 RX2 yX2_isFine wsX2_isFine) := goodIn_app (goodIn_of _ (by decide +kernel)) ggX2_move_X2_isFine
set_option maxRecDepth 20000 in
theorem ggX2_whyNot_X2_isConsignment : GoodIn wsX2_whyNot wsX2_isConsignment := goodIn_r _ [6, 7, 8, 9, 5, 10, 23, 24, 25, 26, 27, 28, 29, 30, 31, 32, 33, 34, 35, 36, 37, 38, 39, 40, 41, 42, 43] (by decide +kernel) (by decide +kernel)
set_option maxRecDepth 20000 in
theorem gX2_whyNot_X2_isConsignment : GoodIn wsX2_whyNot (wsV RX2 90 RX2 yX2_isConsignment wsX2_isConsignment) := goodIn_app (goodIn_of _ (by decide +kernel)) ggX2_whyNot_X2_isConsignment
set_option maxRecDepth 20000 in
theorem ggX2_whyNot_X2_isGoods : GoodIn wsX2_whyNot wsX2_isGoods := goodIn_r _ [13, 14, 15, 5, 16, 8, 9, 10, 17, 18, 19] (by decide +kernel) (by decide +kernel)
set_option maxRecDepth 20000 in
theorem gX2_whyNot_X2_isGoods : GoodIn wsX2_whyNot (va_wsS RX2 113 yX2_isGoods wsX2_isGoods) := goodIn_app (goodIn_of _ (by decide +kernel)) ggX2_whyNot_X2_isGoods
set_option maxRecDepth 20000 in
theorem ggX2_whyNot_X2_at : GoodIn wsX2_whyNot wsX2_at := goodIn_r _ [22] (by decide +kernel) (by decide +kernel)
set_option maxRecDepth 20000 in
theorem gX2_whyNot_X2_at : GoodIn wsX2_whyNot (va_wsS RX2 109 yX2_at wsX2_at) := goodIn_app (goodIn_of _ (by decide +kernel)) ggX2_whyNot_X2_at
set_option maxRecDepth 20000 in
theorem ggX2_leaves_X2_at : GoodIn wsX2_leaves wsX2_at := goodIn_r _ [9] (by decide +kernel) (by decide +kernel)
set_option maxRecDepth 20000 in
theorem gX2_leaves_X2_at : GoodIn wsX2_leaves (va_wsS RX2 109 yX2_at wsX2_at) := goodIn_app (goodIn_of _ (by decide +kernel)) ggX2_leaves_X2_at
set_option maxRecDepth 20000 in
theorem ggX2_free_X2_whyNot : GoodIn wsX2_free wsX2_whyNot := goodIn_r _ [7, 8, 9, 10, 11, 6, 12, 13, 14, 15, 16, 17, 18, 19, 20, 21, 22, 23, 24, 25, 26, 27, 28, 41, 42, 43, 44, 45, 46, 47, 48, 49, 50, 51, 52, 53, 54, 55, 56, 57, 58, 59, 60, 61] (by decide +kernel) (by decide +kernel)
set_option maxRecDepth 20000 in
theorem gX2_free_X2_whyNot : GoodIn wsX2_free (wsV RX2 116 RX2 yX2_whyNot wsX2_whyNot) := goodIn_app (goodIn_of _ (by decide +kernel)) ggX2_free_X2_whyNot
set_option maxRecDepth 20000 in
theorem ggX2_free_X2_isFine : GoodIn wsX2_free wsX2_isFine := goodIn_r _ [32, 33, 41, 42, 43, 44, 45, 46, 47, 48, 49, 50, 51, 52, 53, 54, 55, 56, 57, 58, 59, 60, 61] (by decide +kernel) (by decide +kernel)
set_option maxRecDepth 20000 in
theorem gX2_free_X2_isFine : GoodIn wsX2_free (wsV RX2 77 RX2 yX2_isFine wsX2_isFine) := goodIn_app (goodIn_of _ (by decide +kernel)) ggX2_free_X2_isFine
set_option maxRecDepth 20000 in
theorem ggX2_free_X2_leaves : GoodIn wsX2_free wsX2_leaves := goodIn_r _ [37, 8, 38, 39, 2, 40, 26, 27, 6, 28, 41, 42, 43, 44, 45, 46, 47, 48, 49, 50, 51, 52, 53, 54, 55, 56, 57, 58, 59, 60, 61] (by decide +kernel) (by decide +kernel)
set_option maxRecDepth 20000 in
theorem gX2_free_X2_leaves : GoodIn wsX2_free (wsV RX2 120 RX2 yX2_leaves wsX2_leaves) := goodIn_app (goodIn_of _ (by decide +kernel)) ggX2_free_X2_leaves
set_option maxRecDepth 20000 in
theorem ggX2_sendBack_X2_whyNot : GoodIn wsX2_sendBack wsX2_whyNot := goodIn_r _ [5, 6, 7, 8, 9, 4, 10, 11, 12, 13, 14, 15, 16, 17, 18, 19, 20, 21, 22, 23, 24, 25, 26, 40, 41, 42, 43, 44, 45, 46, 47, 48, 49, 50, 51, 52, 53, 54, 55, 56, 57, 58, 59, 60] (by decide +kernel) (by decide +kernel)
set_option maxRecDepth 20000 in
theorem gX2_sendBack_X2_whyNot : GoodIn wsX2_sendBack (wsV RX2 116 RX2 yX2_whyNot wsX2_whyNot) := goodIn_app (goodIn_of _ (by decide +kernel)) ggX2_sendBack_X2_whyNot
set_option maxRecDepth 20000 in
theorem ggX2_sendBack_X2_isFine : GoodIn wsX2_sendBack wsX2_isFine := goodIn_r _ [30, 31, 40, 41, 42, 43, 44, 45, 46, 47, 48, 49, 50, 51, 52, 53, 54, 55, 56, 57, 58, 59, 60] (by decide +kernel) (by decide +kernel)
set_option maxRecDepth 20000 in
theorem gX2_sendBack_X2_isFine : GoodIn wsX2_sendBack (wsV RX2 77 RX2 yX2_isFine wsX2_isFine) := goodIn_app (goodIn_of _ (by decide +kernel)) ggX2_sendBack_X2_isFine
set_option maxRecDepth 20000 in
theorem ggX2_sendBack_X2_leaves : GoodIn wsX2_sendBack wsX2_leaves := goodIn_r _ [35, 6, 36, 37, 38, 39, 24, 25, 4, 26, 40, 41, 42, 43, 44, 45, 46, 47, 48, 49, 50, 51, 52, 53, 54, 55, 56, 57, 58, 59, 60] (by decide +kernel) (by decide +kernel)
set_option maxRecDepth 20000 in
theorem gX2_sendBack_X2_leaves : GoodIn wsX2_sendBack (wsV RX2 120 RX2 yX2_leaves wsX2_leaves) := goodIn_app (goodIn_of _ (by decide +kernel)) ggX2_sendBack_X2_leaves
set_option maxRecDepth 20000 in
theorem ggX2_state_X2_isConsignment : GoodIn wsX2_state wsX2_isConsignment := goodIn_r _ [6, 7, 8, 9, 5, 10, 16, 17, 18, 19, 20, 21, 22, 23, 24, 25, 26, 27, 28, 29, 30, 31, 32, 33, 34, 35, 36] (by decide +kernel) (by decide +kernel)
set_option maxRecDepth 20000 in
theorem gX2_state_X2_isConsignment : GoodIn wsX2_state (wsV RX2 90 RX2 yX2_isConsignment wsX2_isConsignment) := goodIn_app (goodIn_of _ (by decide +kernel)) ggX2_state_X2_isConsignment
set_option maxRecDepth 20000 in
theorem ggX2_state_X2_isFine : GoodIn wsX2_state wsX2_isFine := goodIn_r _ [14, 15, 16, 17, 18, 19, 20, 21, 22, 23, 24, 25, 26, 27, 28, 29, 30, 31, 32, 33, 34, 35, 36] (by decide +kernel) (by decide +kernel)
set_option maxRecDepth 20000 in
theorem gX2_state_X2_isFine : GoodIn wsX2_state (wsV RX2 77 RX2 yX2_isFine wsX2_isFine) := goodIn_app (goodIn_of _ (by decide +kernel)) ggX2_state_X2_isFine
set_option maxRecDepth 20000 in
theorem ggX2_manifest_X2_isConsignment : GoodIn wsX2_manifest wsX2_isConsignment := goodIn_r _ [6, 7, 8, 9, 5, 10, 19, 20, 21, 22, 23, 24, 25, 26, 27, 28, 29, 30, 31, 32, 33, 34, 35, 36, 37, 38, 39] (by decide +kernel) (by decide +kernel)
set_option maxRecDepth 20000 in
theorem gX2_manifest_X2_isConsignment : GoodIn wsX2_manifest (wsV RX2 90 RX2 yX2_isConsignment wsX2_isConsignment) := goodIn_app (goodIn_of _ (by decide +kernel)) ggX2_manifest_X2_isConsignment
set_option maxRecDepth 20000 in
theorem ggX2_manifest_X2_isSort : GoodIn wsX2_manifest wsX2_isSort := goodIn_r _ [13, 8, 9, 5, 10] (by decide +kernel) (by decide +kernel)
set_option maxRecDepth 20000 in
theorem gX2_manifest_X2_isSort : GoodIn wsX2_manifest (va_wsS RX2 73 yX2_isSort wsX2_isSort) := goodIn_app (goodIn_of _ (by decide +kernel)) ggX2_manifest_X2_isSort
set_option maxRecDepth 20000 in
theorem ggX2_manifest_X2_isFine : GoodIn wsX2_manifest wsX2_isFine := goodIn_r _ [17, 18, 19, 20, 21, 22, 23, 24, 25, 26, 27, 28, 29, 30, 31, 32, 33, 34, 35, 36, 37, 38, 39] (by decide +kernel) (by decide +kernel)
set_option maxRecDepth 20000 in
theorem gX2_manifest_X2_isFine : GoodIn wsX2_manifest (wsV RX2 77 RX2 yX2_isFine wsX2_isFine) := goodIn_app (goodIn_of _ (by decide +kernel)) ggX2_manifest_X2_isFine
set_option maxRecDepth 20000 in
theorem ggX2_stored_X2_isSort : GoodIn wsX2_stored wsX2_isSort := goodIn_r _ [6, 7, 8, 5, 9] (by decide +kernel) (by decide +kernel)
set_option maxRecDepth 20000 in
theorem gX2_stored_X2_isSort : GoodIn wsX2_stored (va_wsS RX2 73 yX2_isSort wsX2_isSort) := goodIn_app (goodIn_of _ (by decide +kernel)) ggX2_stored_X2_isSort
set_option maxRecDepth 20000 in
theorem ggX2_stored_X2_isStore : GoodIn wsX2_stored wsX2_isStore := goodIn_r _ [12, 7, 8, 5, 9] (by decide +kernel) (by decide +kernel)
set_option maxRecDepth 20000 in
theorem gX2_stored_X2_isStore : GoodIn wsX2_stored (va_wsS RX2 106 yX2_isStore wsX2_isStore) := goodIn_app (goodIn_of _ (by decide +kernel)) ggX2_stored_X2_isStore
set_option maxRecDepth 20000 in
theorem ggX2_stored_X2_isFine : GoodIn wsX2_stored wsX2_isFine := goodIn_r _ [16, 17, 21, 22, 23, 24, 25, 26, 27, 28, 29, 30, 31, 32, 33, 34, 35, 36, 37, 38, 39, 40, 41] (by decide +kernel) (by decide +kernel)
set_option maxRecDepth 20000 in
theorem gX2_stored_X2_isFine : GoodIn wsX2_stored (wsV RX2 77 RX2 yX2_isFine wsX2_isFine) := goodIn_app (goodIn_of _ (by decide +kernel)) ggX2_stored_X2_isFine
set_option maxRecDepth 20000 in
theorem ggX2_stored_X2_at : GoodIn wsX2_stored wsX2_at := goodIn_r _ [20] (by decide +kernel) (by decide +kernel)
set_option maxRecDepth 20000 in
theorem gX2_stored_X2_at : GoodIn wsX2_stored (va_wsS RX2 109 yX2_at wsX2_at) := goodIn_app (goodIn_of _ (by decide +kernel)) ggX2_stored_X2_at
set_option maxRecDepth 20000 in
theorem ggX2_held_X2_isTrader : GoodIn wsX2_held wsX2_isTrader := goodIn_r _ [5, 6, 7, 4, 8] (by decide +kernel) (by decide +kernel)
set_option maxRecDepth 20000 in
theorem gX2_held_X2_isTrader : GoodIn wsX2_held (va_wsS RX2 86 yX2_isTrader wsX2_isTrader) := goodIn_app (goodIn_of _ (by decide +kernel)) ggX2_held_X2_isTrader
set_option maxRecDepth 20000 in
theorem ggX2_held_X2_isFine : GoodIn wsX2_held wsX2_isFine := goodIn_r _ [12, 13, 14, 15, 16, 17, 18, 19, 20, 21, 22, 23, 24, 25, 26, 27, 28, 29, 30, 31, 32, 33, 34] (by decide +kernel) (by decide +kernel)
set_option maxRecDepth 20000 in
theorem gX2_held_X2_isFine : GoodIn wsX2_held (wsV RX2 77 RX2 yX2_isFine wsX2_isFine) := goodIn_app (goodIn_of _ (by decide +kernel)) ggX2_held_X2_isFine
set_option maxRecDepth 20000 in
theorem ggX2_paid_X2_isTrader : GoodIn wsX2_paid wsX2_isTrader := goodIn_r _ [5, 6, 7, 4, 8] (by decide +kernel) (by decide +kernel)
set_option maxRecDepth 20000 in
theorem gX2_paid_X2_isTrader : GoodIn wsX2_paid (va_wsS RX2 86 yX2_isTrader wsX2_isTrader) := goodIn_app (goodIn_of _ (by decide +kernel)) ggX2_paid_X2_isTrader
set_option maxRecDepth 20000 in
theorem ggX2_paid_X2_isFine : GoodIn wsX2_paid wsX2_isFine := goodIn_r _ [12, 13, 14, 15, 16, 17, 18, 19, 20, 21, 22, 23, 24, 25, 26, 27, 28, 29, 30, 31, 32, 33, 34] (by decide +kernel) (by decide +kernel)
set_option maxRecDepth 20000 in
theorem gX2_paid_X2_isFine : GoodIn wsX2_paid (wsV RX2 77 RX2 yX2_isFine wsX2_isFine) := goodIn_app (goodIn_of _ (by decide +kernel)) ggX2_paid_X2_isFine
set_option maxRecDepth 20000 in
theorem ggL_setSort_X1_setSort : GoodIn wsL_setSort wsX1_setSort := goodIn_ca (goodIn_r _ [6, 7, 8, 9, 10, 5, 11, 12, 13, 14, 15, 16, 17, 18, 19, 20, 21, 22, 23, 24, 25, 26] (by decide +kernel) (by decide +kernel)) (goodIn_sub (fun _ h => List.mem_cons_of_mem _ (List.mem_append_right _ h)) (by decide +kernel))
set_option maxRecDepth 20000 in
theorem gL_setSort_X1_setSort : GoodIn wsL_setSort (wsV RL 7 RX1 yX1_setSort wsX1_setSort) := goodIn_app (goodIn_of _ (by decide +kernel)) ggL_setSort_X1_setSort
set_option maxRecDepth 20000 in
theorem ggL_setRisk_X1_setRisk : GoodIn wsL_setRisk wsX1_setRisk := goodIn_ca (goodIn_r _ [6, 7, 8, 9, 10, 5, 11, 12, 13, 14, 15, 16, 17, 18, 19, 20, 21, 22, 23, 24, 25, 26, 27, 28, 29, 30, 31, 32, 33, 34, 35, 36, 37, 38, 39, 40, 41, 42, 43, 44, 45, 46, 47, 48, 49, 50, 51, 52, 53, 54, 55, 56, 57, 58, 59, 60] (by decide +kernel) (by decide +kernel)) (goodIn_sub (fun _ h => List.mem_cons_of_mem _ (List.mem_append_right _ h)) (by decide +kernel))
set_option maxRecDepth 20000 in
theorem gL_setRisk_X1_setRisk : GoodIn wsL_setRisk (wsV RL 15 RX1 yX1_setRisk wsX1_setRisk) := goodIn_app (goodIn_of _ (by decide +kernel)) ggL_setRisk_X1_setRisk
set_option maxRecDepth 20000 in
theorem ggL_setGuarantee_X1_setGuarantee : GoodIn wsL_setGuarantee wsX1_setGuarantee := goodIn_ca (goodIn_ca (goodIn_r _ [7, 8, 9, 10, 11, 12, 13, 14, 6, 15, 16, 17, 18, 19, 20, 21, 22, 23, 24, 25, 26, 27, 28, 29, 30] (by decide +kernel) (by decide +kernel)) (goodIn_sub (fun _ h => List.mem_cons_of_mem _ (List.mem_append_left _ (List.mem_append_right _ h))) (by decide +kernel))) (goodIn_sub (fun _ h => List.mem_cons_of_mem _ (List.mem_append_right _ h)) (by decide +kernel))
set_option maxRecDepth 20000 in
theorem gL_setGuarantee_X1_setGuarantee : GoodIn wsL_setGuarantee (wsV RL 19 RX1 yX1_setGuarantee wsX1_setGuarantee) := goodIn_app (goodIn_of _ (by decide +kernel)) ggL_setGuarantee_X1_setGuarantee
set_option maxRecDepth 20000 in
theorem ggL_announce_X1_announce : GoodIn wsL_announce wsX1_announce := goodIn_ca (goodIn_ca (goodIn_r _ [7, 8, 9, 10, 11, 12, 13, 14, 15, 16, 6, 17, 18, 19, 20, 21, 22, 23, 24, 25, 26, 27, 28, 29, 30, 31, 32, 33, 34, 35, 36, 37, 38, 39, 40, 41, 42, 43, 44, 45, 46, 47, 48, 49, 50, 51, 52, 53, 54, 55, 56, 57, 58, 59, 60, 61, 62, 63, 64, 65, 66] (by decide +kernel) (by decide +kernel)) (goodIn_sub (fun _ h => List.mem_cons_of_mem _ (List.mem_append_left _ (List.mem_append_right _ h))) (by decide +kernel))) (goodIn_sub (fun _ h => List.mem_cons_of_mem _ (List.mem_append_right _ h)) (by decide +kernel))
set_option maxRecDepth 20000 in
theorem gL_announce_X1_announce : GoodIn wsL_announce (wsV RL 24 RX1 yX1_announce wsX1_announce) := goodIn_app (goodIn_of _ (by decide +kernel)) ggL_announce_X1_announce
set_option maxRecDepth 20000 in
theorem ggL_amend_X1_amend : GoodIn wsL_amend wsX1_amend := goodIn_ca (goodIn_ca (goodIn_ca (goodIn_r _ [8, 9, 10, 11, 12, 13, 14, 15, 16, 7, 17, 18, 19, 20, 21, 22, 23, 24, 25, 26, 27, 28, 29, 30, 31, 32, 33, 34, 35, 36, 37, 38, 39, 40, 41, 42, 43, 44, 45, 46, 47, 48, 49, 50] (by decide +kernel) (by decide +kernel)) (goodIn_sub (fun _ h => List.mem_cons_of_mem _ (List.mem_append_left _ (List.mem_append_left _ (List.mem_append_right _ h)))) (by decide +kernel))) (goodIn_sub (fun _ h => List.mem_cons_of_mem _ (List.mem_append_left _ (List.mem_append_right _ h))) (by decide +kernel))) (goodIn_sub (fun _ h => List.mem_cons_of_mem _ (List.mem_append_right _ h)) (by decide +kernel))
set_option maxRecDepth 20000 in
theorem gL_amend_X1_amend : GoodIn wsL_amend (wsV RL 27 RX1 yX1_amend wsX1_amend) := goodIn_app (goodIn_of _ (by decide +kernel)) ggL_amend_X1_amend
set_option maxRecDepth 20000 in
theorem ggL_arrive_X1_arrive : GoodIn wsL_arrive wsX1_arrive := goodIn_ca (goodIn_ca (goodIn_ca (goodIn_r _ [8, 9, 10, 11, 12, 13, 14, 15, 16, 17, 18, 19, 7, 20, 21, 22, 23, 24, 25, 26, 27, 28, 29, 30, 31, 32, 33, 34, 35, 36, 37, 38, 39, 40, 41, 42, 43, 44, 45, 46, 47, 48, 49, 50, 51, 52, 53, 54, 55, 56, 57, 58, 59, 60, 61, 62, 63, 64, 65, 66, 67, 68, 69, 70, 71, 72, 73, 74, 75, 76] (by decide +kernel) (by decide +kernel)) (goodIn_sub (fun _ h => List.mem_cons_of_mem _ (List.mem_append_left _ (List.mem_append_left _ (List.mem_append_right _ h)))) (by decide +kernel))) (goodIn_sub (fun _ h => List.mem_cons_of_mem _ (List.mem_append_left _ (List.mem_append_right _ h))) (by decide +kernel))) (goodIn_sub (fun _ h => List.mem_cons_of_mem _ (List.mem_append_right _ h)) (by decide +kernel))
set_option maxRecDepth 20000 in
theorem gL_arrive_X1_arrive : GoodIn wsL_arrive (wsV RL 33 RX1 yX1_arrive wsX1_arrive) := goodIn_app (goodIn_of _ (by decide +kernel)) ggL_arrive_X1_arrive
set_option maxRecDepth 20000 in
theorem ggL_risk_X1_risk : GoodIn wsL_risk wsX1_risk := goodIn_ca (goodIn_ca (goodIn_r _ [7, 8, 9, 10, 11, 12, 13, 6, 14, 15, 16, 17, 18, 19, 20, 21, 22, 23, 24, 25, 26, 27, 28, 29, 30, 31, 32, 33, 34, 35, 36, 37, 38, 39, 40, 41, 42, 43, 44, 45, 46, 47] (by decide +kernel) (by decide +kernel)) (goodIn_sub (fun _ h => List.mem_cons_of_mem _ (List.mem_append_left _ (List.mem_append_right _ h))) (by decide +kernel))) (goodIn_sub (fun _ h => List.mem_cons_of_mem _ (List.mem_append_right _ h)) (by decide +kernel))
set_option maxRecDepth 20000 in
theorem gL_risk_X1_risk : GoodIn wsL_risk (wsV RL 37 RX1 yX1_risk wsX1_risk) := goodIn_app (goodIn_of _ (by decide +kernel)) ggL_risk_X1_risk
set_option maxRecDepth 20000 in
theorem ggL_mustSearch_X1_mustSearch : GoodIn wsL_mustSearch wsX1_mustSearch := goodIn_ca (goodIn_r _ [6, 7, 8, 9, 5, 10, 11, 12, 13, 14, 15, 16, 17, 18, 19, 20, 21, 22, 23, 24, 25, 26, 27, 28, 29, 30, 31, 32, 33, 34, 35, 36, 37, 38, 39, 40, 41, 42, 43, 44, 45, 46, 47, 48, 49, 50, 51, 52, 53, 54, 55, 56] (by decide +kernel) (by decide +kernel)) (goodIn_sub (fun _ h => List.mem_cons_of_mem _ (List.mem_append_right _ h)) (by decide +kernel))
set_option maxRecDepth 20000 in
theorem gL_mustSearch_X1_mustSearch : GoodIn wsL_mustSearch (wsV RL 41 RX1 yX1_mustSearch wsX1_mustSearch) := goodIn_app (goodIn_of _ (by decide +kernel)) ggL_mustSearch_X1_mustSearch
set_option maxRecDepth 20000 in
theorem ggL_search_X1_search : GoodIn wsL_search wsX1_search := goodIn_ca (goodIn_ca (goodIn_ca (goodIn_r _ [8, 9, 10, 11, 12, 13, 14, 15, 7, 16, 17, 18, 19, 20, 21, 22, 23, 24, 25, 26, 27, 28, 29, 30, 31, 32, 33, 34, 35, 36, 37, 38, 39, 40, 41, 42, 43, 44, 45, 46, 47, 48, 49, 50, 51, 52, 53, 54, 55, 56, 57] (by decide +kernel) (by decide +kernel)) (goodIn_sub (fun _ h => List.mem_cons_of_mem _ (List.mem_append_left _ (List.mem_append_left _ (List.mem_append_right _ h)))) (by decide +kernel))) (goodIn_sub (fun _ h => List.mem_cons_of_mem _ (List.mem_append_left _ (List.mem_append_right _ h))) (by decide +kernel))) (goodIn_sub (fun _ h => List.mem_cons_of_mem _ (List.mem_append_right _ h)) (by decide +kernel))
set_option maxRecDepth 20000 in
theorem gL_search_X1_search : GoodIn wsL_search (wsV RL 45 RX1 yX1_search wsX1_search) := goodIn_app (goodIn_of _ (by decide +kernel)) ggL_search_X1_search
set_option maxRecDepth 20000 in
theorem ggL_bond_X1_bond : GoodIn wsL_bond wsX1_bond := goodIn_ca (goodIn_ca (goodIn_ca (goodIn_r _ [8, 9, 10, 11, 12, 13, 14, 15, 16, 17, 18, 7, 19, 20, 21, 22, 23, 24, 25, 26, 27, 28, 29, 30, 31, 32, 33, 34, 35, 36, 37, 38, 39, 40, 41, 42, 43, 44, 45, 46, 47, 48, 49, 50, 51, 52, 53, 54, 55, 56, 57, 58, 59, 60, 61, 62, 63, 64, 65, 66, 67, 68, 69, 70, 71, 72, 73, 74, 75, 76, 77, 78, 79, 80, 81, 82, 83, 84, 85, 86, 87, 88, 89, 90, 91] (by decide +kernel) (by decide +kernel)) (goodIn_sub (fun _ h => List.mem_cons_of_mem _ (List.mem_append_left _ (List.mem_append_left _ (List.mem_append_right _ h)))) (by decide +kernel))) (goodIn_sub (fun _ h => List.mem_cons_of_mem _ (List.mem_append_left _ (List.mem_append_right _ h))) (by decide +kernel))) (goodIn_sub (fun _ h => List.mem_cons_of_mem _ (List.mem_append_right _ h)) (by decide +kernel))
set_option maxRecDepth 20000 in
theorem gL_bond_X1_bond : GoodIn wsL_bond (wsV RL 48 RX1 yX1_bond wsX1_bond) := goodIn_app (goodIn_of _ (by decide +kernel)) ggL_bond_X1_bond
set_option maxRecDepth 20000 in
theorem ggL_move_X1_move : GoodIn wsL_move wsX1_move := goodIn_ca (goodIn_ca (goodIn_ca (goodIn_r _ [8, 9, 10, 11, 12, 13, 14, 7, 15, 16, 17, 18, 19, 20, 21, 22, 23, 24, 25, 26, 27, 28, 29, 30, 31, 32, 33, 34, 35, 36, 37, 38, 39, 40, 41, 42, 43, 44, 45, 46, 47, 48, 49, 50, 51, 52, 53, 54, 55, 56, 57] (by decide +kernel) (by decide +kernel)) (goodIn_sub (fun _ h => List.mem_cons_of_mem _ (List.mem_append_left _ (List.mem_append_left _ (List.mem_append_right _ h)))) (by decide +kernel))) (goodIn_sub (fun _ h => List.mem_cons_of_mem _ (List.mem_append_left _ (List.mem_append_right _ h))) (by decide +kernel))) (goodIn_sub (fun _ h => List.mem_cons_of_mem _ (List.mem_append_right _ h)) (by decide +kernel))
set_option maxRecDepth 20000 in
theorem gL_move_X1_move : GoodIn wsL_move (wsV RL 51 RX1 yX1_move wsX1_move) := goodIn_app (goodIn_of _ (by decide +kernel)) ggL_move_X1_move
set_option maxRecDepth 20000 in
theorem ggL_free_X1_free : GoodIn wsL_free wsX1_free := goodIn_ca (goodIn_ca (goodIn_ca (goodIn_r _ [8, 9, 10, 11, 12, 13, 7, 14, 15, 16, 17, 18, 19, 20, 21, 22, 23, 24, 25, 26, 27, 28, 29, 30, 31, 32, 33, 34, 35, 36, 37, 38, 39, 40, 41, 42, 43, 44, 45, 46, 47, 48, 49, 50, 51, 52, 53, 54, 55, 56, 57, 58, 59, 60, 61, 62, 63, 64, 65, 66, 67] (by decide +kernel) (by decide +kernel)) (goodIn_sub (fun _ h => List.mem_cons_of_mem _ (List.mem_append_left _ (List.mem_append_left _ (List.mem_append_right _ h)))) (by decide +kernel))) (goodIn_sub (fun _ h => List.mem_cons_of_mem _ (List.mem_append_left _ (List.mem_append_right _ h))) (by decide +kernel))) (goodIn_sub (fun _ h => List.mem_cons_of_mem _ (List.mem_append_right _ h)) (by decide +kernel))
set_option maxRecDepth 20000 in
theorem gL_free_X1_free : GoodIn wsL_free (wsV RL 55 RX1 yX1_free wsX1_free) := goodIn_app (goodIn_of _ (by decide +kernel)) ggL_free_X1_free
set_option maxRecDepth 20000 in
theorem ggL_sendBack_X1_sendBack : GoodIn wsL_sendBack wsX1_sendBack := goodIn_ca (goodIn_ca (goodIn_ca (goodIn_r _ [8, 9, 10, 11, 7, 12, 13, 14, 15, 16, 17, 18, 19, 20, 21, 22, 23, 24, 25, 26, 27, 28, 29, 30, 31, 32, 33, 34, 35, 36, 37, 38, 39, 40, 41, 42, 43, 44, 45, 46, 47, 48, 49, 50, 51, 52, 53, 54, 55, 56, 57, 58, 59, 60, 61, 62, 63, 64, 65, 66] (by decide +kernel) (by decide +kernel)) (goodIn_sub (fun _ h => List.mem_cons_of_mem _ (List.mem_append_left _ (List.mem_append_left _ (List.mem_append_right _ h)))) (by decide +kernel))) (goodIn_sub (fun _ h => List.mem_cons_of_mem _ (List.mem_append_left _ (List.mem_append_right _ h))) (by decide +kernel))) (goodIn_sub (fun _ h => List.mem_cons_of_mem _ (List.mem_append_right _ h)) (by decide +kernel))
set_option maxRecDepth 20000 in
theorem gL_sendBack_X1_sendBack : GoodIn wsL_sendBack (wsV RL 59 RX1 yX1_sendBack wsX1_sendBack) := goodIn_app (goodIn_of _ (by decide +kernel)) ggL_sendBack_X1_sendBack
set_option maxRecDepth 20000 in
theorem ggL_state_X1_state : GoodIn wsL_state wsX1_state := goodIn_ca (goodIn_r _ [6, 7, 8, 9, 10, 5, 11, 12, 13, 14, 15, 16, 17, 18, 19, 20, 21, 22, 23, 24, 25, 26, 27, 28, 29, 30, 31, 32, 33, 34, 35, 36] (by decide +kernel) (by decide +kernel)) (goodIn_sub (fun _ h => List.mem_cons_of_mem _ (List.mem_append_right _ h)) (by decide +kernel))
set_option maxRecDepth 20000 in
theorem gL_state_X1_state : GoodIn wsL_state (wsV RL 62 RX1 yX1_state wsX1_state) := goodIn_app (goodIn_of _ (by decide +kernel)) ggL_state_X1_state
set_option maxRecDepth 20000 in
theorem ggL_manifest_X1_manifest : GoodIn wsL_manifest wsX1_manifest := goodIn_ca (goodIn_ca (goodIn_r _ [7, 8, 9, 10, 11, 6, 12, 13, 14, 15, 16, 17, 18, 19, 20, 21, 22, 23, 24, 25, 26, 27, 28, 29, 30, 31, 32, 33, 34, 35, 36, 37, 38, 39, 40, 41, 42, 43, 44, 45] (by decide +kernel) (by decide +kernel)) (goodIn_sub (fun _ h => List.mem_cons_of_mem _ (List.mem_append_left _ (List.mem_append_right _ h))) (by decide +kernel))) (goodIn_sub (fun _ h => List.mem_cons_of_mem _ (List.mem_append_right _ h)) (by decide +kernel))
set_option maxRecDepth 20000 in
theorem gL_manifest_X1_manifest : GoodIn wsL_manifest (wsV RL 65 RX1 yX1_manifest wsX1_manifest) := goodIn_app (goodIn_of _ (by decide +kernel)) ggL_manifest_X1_manifest
set_option maxRecDepth 20000 in
theorem ggL_stored_X1_stored : GoodIn wsL_stored wsX1_stored := goodIn_ca (goodIn_r _ [6, 7, 8, 9, 10, 5, 11, 12, 13, 14, 15, 16, 17, 18, 19, 20, 21, 22, 23, 24, 25, 26, 27, 28, 29, 30, 31, 32, 33, 34, 35, 36, 37, 38, 39, 40, 41, 42, 43, 44] (by decide +kernel) (by decide +kernel)) (goodIn_sub (fun _ h => List.mem_cons_of_mem _ (List.mem_append_right _ h)) (by decide +kernel))
set_option maxRecDepth 20000 in
theorem gL_stored_X1_stored : GoodIn wsL_stored (wsV RL 68 RX1 yX1_stored wsX1_stored) := goodIn_app (goodIn_of _ (by decide +kernel)) ggL_stored_X1_stored
set_option maxRecDepth 20000 in
theorem ggL_held_X1_held : GoodIn wsL_held wsX1_held := goodIn_ca (goodIn_r _ [6, 7, 8, 9, 5, 10, 11, 12, 13, 14, 15, 16, 17, 18, 19, 20, 21, 22, 23, 24, 25] (by decide +kernel) (by decide +kernel)) (goodIn_sub (fun _ h => List.mem_cons_of_mem _ (List.mem_append_right _ h)) (by decide +kernel))
set_option maxRecDepth 20000 in
theorem gL_held_X1_held : GoodIn wsL_held (wsV RL 71 RX1 yX1_held wsX1_held) := goodIn_app (goodIn_of _ (by decide +kernel)) ggL_held_X1_held
set_option maxRecDepth 20000 in
theorem ggL_paid_X1_paid : GoodIn wsL_paid wsX1_paid := goodIn_ca (goodIn_r _ [6, 7, 8, 9, 5, 10, 11, 12, 13, 14, 15, 16, 17, 18, 19, 20, 21, 22, 23, 24, 25] (by decide +kernel) (by decide +kernel)) (goodIn_sub (fun _ h => List.mem_cons_of_mem _ (List.mem_append_right _ h)) (by decide +kernel))
set_option maxRecDepth 20000 in
theorem gL_paid_X1_paid : GoodIn wsL_paid (wsV RL 74 RX1 yX1_paid wsX1_paid) := goodIn_app (goodIn_of _ (by decide +kernel)) ggL_paid_X1_paid
set_option maxRecDepth 20000 in
theorem ggL_law_X1_init : GoodIn wsL_law wsX1_init := goodIn_r _ [9, 10, 11, 12, 13, 14, 15, 16, 17, 18, 19, 20, 21, 22, 23, 24, 406, 407, 408, 409, 410, 411, 412, 413, 414, 415] (by decide +kernel) (by decide +kernel)
set_option maxRecDepth 20000 in
theorem gL_law_X1_init : GoodIn wsL_law (wsX1_init) := ggL_law_X1_init
set_option maxRecDepth 20000 in
theorem ggL_law_X2_init : GoodIn wsL_law wsX2_init := goodIn_r _ [27, 28, 11, 12, 13, 29, 30, 31, 32, 33, 34, 35, 36, 37, 38, 39, 40, 41, 42, 43, 44, 45, 46, 416, 417, 418, 419, 420, 421, 422, 423, 424, 425, 426, 427, 428, 429, 430, 431, 432, 433, 434, 435, 436] (by decide +kernel) (by decide +kernel)
set_option maxRecDepth 20000 in
theorem gL_law_X2_init : GoodIn wsL_law (wsX2_init) := ggL_law_X2_init
set_option maxRecDepth 20000 in
theorem ggL_law_L_setSort : GoodIn wsL_law wsL_setSort := goodIn_ca (goodIn_r _ [50, 51, 52, 53, 54, 2, 55, 14, 15, 56, 57, 58, 59, 60, 61, 62, 63, 406, 407, 408, 409, 410, 411, 412, 413, 414, 415] (by decide +kernel) (by decide +kernel)) (goodIn_sub (fun _ h => List.mem_append_left _ (List.mem_append_left _ (List.mem_append_right _ h))) (by decide +kernel))
set_option maxRecDepth 20000 in
theorem gL_law_L_setSort : GoodIn wsL_law (va_wsS RL 81 yL_setSort wsL_setSort) := goodIn_app (goodIn_of _ (by decide +kernel)) ggL_law_L_setSort
set_option maxRecDepth 20000 in
theorem ggL_law_X2_setSort : GoodIn wsL_law wsX2_setSort := goodIn_r _ [67, 29, 30, 68, 69, 5, 70, 71, 72, 73, 74, 75, 76, 77, 78, 416, 417, 418, 419, 420, 421, 422, 423, 424, 425, 426, 427, 428, 429, 430, 431, 432, 433, 434, 435, 436] (by decide +kernel) (by decide +kernel)
set_option maxRecDepth 20000 in
theorem gL_law_X2_setSort : GoodIn wsL_law (wsV RL 86 RX2 yX2_setSort wsX2_setSort) := goodIn_app (goodIn_of _ (by decide +kernel)) ggL_law_X2_setSort
set_option maxRecDepth 20000 in
theorem ggL_law_X2_thrown : GoodIn wsL_law wsX2_thrown := goodIn_r _ [82, 78, 416, 417, 418, 419, 420, 421, 422, 423, 424, 425, 426, 427, 428, 429, 430, 431, 432, 433, 434, 435, 436] (by decide +kernel) (by decide +kernel)
set_option maxRecDepth 20000 in
theorem gL_law_X2_thrown : GoodIn wsL_law (wsV RL 87 RX2 yX2_thrown wsX2_thrown) := goodIn_app (goodIn_of _ (by decide +kernel)) ggL_law_X2_thrown
set_option maxRecDepth 20000 in
theorem ggL_law_L_setRisk : GoodIn wsL_law wsL_setRisk := goodIn_ca (goodIn_r _ [85, 51, 86, 87, 88, 2, 89, 23, 24, 59, 60, 61, 62, 63, 90, 91, 92, 93, 20, 94, 95, 96, 97, 98, 99, 100, 101, 102, 103, 104, 105, 106, 107, 108, 109, 110, 15, 111, 112, 406, 407, 408, 409, 410, 411, 412, 413, 414, 415, 437, 438, 439, 440, 441, 442, 443, 444, 445, 446, 447, 448] (by decide +kernel) (by decide +kernel)) (goodIn_sub (fun _ h => List.mem_append_left _ (List.mem_append_left _ (List.mem_append_right _ h))) (by decide +kernel))
set_option maxRecDepth 20000 in
theorem gL_law_L_setRisk : GoodIn wsL_law (va_wsS RL 91 yL_setRisk wsL_setRisk) := goodIn_app (goodIn_of _ (by decide +kernel)) ggL_law_L_setRisk
set_option maxRecDepth 20000 in
theorem ggL_law_X2_setRisk : GoodIn wsL_law wsX2_setRisk := goodIn_r _ [116, 31, 117, 118, 71, 72, 5, 73, 74, 75, 76, 77, 78, 119, 120, 121, 122, 37, 40, 42, 123, 124, 125, 126, 38, 43, 44, 30, 416, 417, 418, 419, 420, 421, 422, 423, 424, 425, 426, 427, 428, 429, 430, 431, 432, 433, 434, 435, 436] (by decide +kernel) (by decide +kernel)
set_option maxRecDepth 20000 in
theorem gL_law_X2_setRisk : GoodIn wsL_law (wsV RL 94 RX2 yX2_setRisk wsX2_setRisk) := goodIn_app (goodIn_of _ (by decide +kernel)) ggL_law_X2_setRisk
set_option maxRecDepth 20000 in
theorem ggL_law_L_setGuarantee : GoodIn wsL_law wsL_setGuarantee := goodIn_ca (goodIn_ca (goodIn_r _ [129, 51, 130, 131, 132, 133, 2, 134, 135, 136, 137, 17, 16, 138, 139, 140, 59, 60, 61, 62, 63, 406, 407, 408, 409, 410, 411, 412, 413, 414, 415] (by decide +kernel) (by decide +kernel)) (goodIn_sub (fun _ h => List.mem_append_left _ (List.mem_append_right _ h)) (by decide +kernel))) (goodIn_sub (fun _ h => List.mem_append_left _ (List.mem_append_left _ (List.mem_append_right _ h))) (by decide +kernel))
set_option maxRecDepth 20000 in
theorem gL_law_L_setGuarantee : GoodIn wsL_law (va_wsS RL 95 yL_setGuarantee wsL_setGuarantee) := goodIn_app (goodIn_of _ (by decide +kernel)) ggL_law_L_setGuarantee
set_option maxRecDepth 20000 in
theorem ggL_law_X2_setGuarantee : GoodIn wsL_law wsX2_setGuarantee := goodIn_r _ [144, 145, 33, 32, 146, 147, 5, 148, 71, 72, 73, 74, 75, 76, 77, 78, 416, 417, 418, 419, 420, 421, 422, 423, 424, 425, 426, 427, 428, 429, 430, 431, 432, 433, 434, 435, 436] (by decide +kernel) (by decide +kernel)
set_option maxRecDepth 20000 in
theorem gL_law_X2_setGuarantee : GoodIn wsL_law (wsV RL 97 RX2 yX2_setGuarantee wsX2_setGuarantee) := goodIn_app (goodIn_of _ (by decide +kernel)) ggL_law_X2_setGuarantee
set_option maxRecDepth 20000 in
theorem ggL_law_L_announce : GoodIn wsL_law wsL_announce := goodIn_ca (goodIn_ca (goodIn_r _ [151, 51, 130, 152, 153, 154, 2, 155, 135, 136, 21, 20, 19, 156, 103, 138, 139, 140, 59, 60, 61, 62, 63, 157, 158, 159, 160, 161, 162, 163, 11, 12, 13, 164, 165, 166, 167, 168, 169, 105, 170, 171, 172, 173, 174, 406, 407, 408, 409, 410, 411, 412, 413, 414, 415, 437, 438, 439, 440, 441, 442, 443, 444, 445, 446, 447, 448] (by decide +kernel) (by decide +kernel)) (goodIn_sub (fun _ h => List.mem_append_left _ (List.mem_append_right _ h)) (by decide +kernel))) (goodIn_sub (fun _ h => List.mem_append_left _ (List.mem_append_left _ (List.mem_append_right _ h))) (by decide +kernel))
set_option maxRecDepth 20000 in
theorem gL_law_L_announce : GoodIn wsL_law (va_wsS RL 98 yL_announce wsL_announce) := goodIn_app (goodIn_of _ (by decide +kernel)) ggL_law_L_announce
set_option maxRecDepth 20000 in
theorem ggL_law_X2_announce : GoodIn wsL_law wsX2_announce := goodIn_r _ [178, 118, 35, 36, 146, 147, 5, 148, 71, 72, 73, 74, 75, 76, 77, 78, 416, 417, 418, 419, 420, 421, 422, 423, 424, 425, 426, 427, 428, 429, 430, 431, 432, 433, 434, 435, 436] (by decide +kernel) (by decide +kernel)
set_option maxRecDepth 20000 in
theorem gL_law_X2_announce : GoodIn wsL_law (wsV RL 100 RX2 yX2_announce wsX2_announce) := goodIn_app (goodIn_of _ (by decide +kernel)) ggL_law_X2_announce
set_option maxRecDepth 20000 in
theorem ggL_law_L_amend : GoodIn wsL_law wsL_amend := goodIn_ca (goodIn_ca (goodIn_ca (goodIn_r _ [181, 182, 51, 130, 183, 184, 185, 2, 186, 135, 136, 98, 110, 111, 187, 188, 189, 190, 191, 192, 20, 56, 57, 58, 59, 60, 61, 62, 63, 437, 438, 439, 440, 441, 442, 443, 444, 445, 446, 447, 448, 406, 407, 408, 409, 410, 411, 412, 413, 414, 415] (by decide +kernel) (by decide +kernel)) (goodIn_sub (fun _ h => List.mem_append_left _ (List.mem_append_right _ h)) (by decide +kernel))) (goodIn_sub (fun _ h => List.mem_append_right _ h) (by decide +kernel))) (goodIn_sub (fun _ h => List.mem_append_left _ (List.mem_append_left _ (List.mem_append_right _ h))) (by decide +kernel))
set_option maxRecDepth 20000 in
theorem gL_law_L_amend : GoodIn wsL_law (va_wsS RL 101 yL_amend wsL_amend) := goodIn_app (goodIn_of _ (by decide +kernel)) ggL_law_L_amend
set_option maxRecDepth 20000 in
theorem ggL_law_X2_amend : GoodIn wsL_law wsX2_amend := goodIn_r _ [196, 37, 44, 38, 197, 198, 199, 5, 200, 118, 71, 72, 73, 68, 69, 70, 74, 75, 76, 77, 78, 416, 417, 418, 419, 420, 421, 422, 423, 424, 425, 426, 427, 428, 429, 430, 431, 432, 433, 434, 435, 436] (by decide +kernel) (by decide +kernel)
set_option maxRecDepth 20000 in
theorem gL_law_X2_amend : GoodIn wsL_law (wsV RL 104 RX2 yX2_amend wsX2_amend) := goodIn_app (goodIn_of _ (by decide +kernel)) ggL_law_X2_amend
set_option maxRecDepth 20000 in
theorem ggL_law_L_arrive : GoodIn wsL_law wsL_arrive := goodIn_ca (goodIn_ca (goodIn_ca (goodIn_r _ [203, 182, 51, 130, 204, 205, 206, 2, 207, 135, 136, 98, 22, 208, 112, 24, 99, 187, 188, 189, 190, 191, 192, 20, 157, 158, 159, 59, 60, 61, 62, 63, 209, 210, 211, 103, 212, 164, 94, 95, 96, 97, 23, 100, 101, 102, 104, 105, 106, 107, 108, 109, 110, 15, 111, 437, 438, 439, 440, 441, 442, 443, 444, 445, 446, 447, 448, 406, 407, 408, 409, 410, 411, 412, 413, 414, 415] (by decide +kernel) (by decide +kernel)) (goodIn_sub (fun _ h => List.mem_append_left _ (List.mem_append_right _ h)) (by decide +kernel))) (goodIn_sub (fun _ h => List.mem_append_right _ h) (by decide +kernel))) (goodIn_sub (fun _ h => List.mem_append_left _ (List.mem_append_left _ (List.mem_append_right _ h))) (by decide +kernel))
set_option maxRecDepth 20000 in
theorem gL_law_L_arrive : GoodIn wsL_law (va_wsS RL 105 yL_arrive wsL_arrive) := goodIn_app (goodIn_of _ (by decide +kernel)) ggL_law_L_arrive
set_option maxRecDepth 20000 in
theorem ggL_law_X2_arrive : GoodIn wsL_law wsX2_arrive := goodIn_r _ [216, 37, 217, 42, 117, 43, 36, 197, 198, 199, 5, 200, 118, 71, 72, 73, 218, 219, 220, 221, 44, 74, 75, 76, 77, 78, 119, 120, 121, 122, 40, 31, 123, 124, 125, 126, 38, 30, 416, 417, 418, 419, 420, 421, 422, 423, 424, 425, 426, 427, 428, 429, 430, 431, 432, 433, 434, 435, 436] (by decide +kernel) (by decide +kernel)
set_option maxRecDepth 20000 in
theorem gL_law_X2_arrive : GoodIn wsL_law (wsV RL 107 RX2 yX2_arrive wsX2_arrive) := goodIn_app (goodIn_of _ (by decide +kernel)) ggL_law_X2_arrive
set_option maxRecDepth 20000 in
theorem ggL_law_L_risk : GoodIn wsL_law wsL_risk := goodIn_ca (goodIn_ca (goodIn_r _ [224, 182, 130, 225, 226, 227, 2, 228, 135, 136, 98, 187, 188, 189, 190, 191, 192, 20, 106, 107, 108, 109, 110, 15, 111, 112, 437, 438, 439, 440, 441, 442, 443, 444, 445, 446, 447, 448, 406, 407, 408, 409, 410, 411, 412, 413, 414, 415] (by decide +kernel) (by decide +kernel)) (goodIn_sub (fun _ h => List.mem_append_left _ (List.mem_append_right _ h)) (by decide +kernel))) (goodIn_sub (fun _ h => List.mem_append_right _ h) (by decide +kernel))
set_option maxRecDepth 20000 in
theorem gL_law_L_risk : GoodIn wsL_law (va_wsS RL 108 yL_risk wsL_risk) := goodIn_app (goodIn_of _ (by decide +kernel)) ggL_law_L_risk
set_option maxRecDepth 20000 in
theorem ggL_law_X2_risk : GoodIn wsL_law wsX2_risk := goodIn_r _ [232, 37, 197, 198, 199, 5, 200, 118, 71, 72, 73, 74, 75, 76, 77, 78, 123, 124, 125, 126, 38, 43, 44, 30, 416, 417, 418, 419, 420, 421, 422, 423, 424, 425, 426, 427, 428, 429, 430, 431, 432, 433, 434, 435, 436] (by decide +kernel) (by decide +kernel)
set_option maxRecDepth 20000 in
theorem gL_law_X2_risk : GoodIn wsL_law (wsV RL 111 RX2 yX2_risk wsX2_risk) := goodIn_app (goodIn_of _ (by decide +kernel)) ggL_law_X2_risk
set_option maxRecDepth 20000 in
theorem ggL_law_L_mustSearch : GoodIn wsL_law wsL_mustSearch := goodIn_ca (goodIn_r _ [235, 182, 236, 237, 238, 2, 239, 187, 188, 189, 190, 191, 192, 20, 94, 95, 96, 97, 98, 99, 23, 100, 101, 102, 103, 104, 105, 106, 107, 108, 109, 110, 15, 111, 112, 406, 407, 408, 409, 410, 411, 412, 413, 414, 415, 437, 438, 439, 440, 441, 442, 443, 444, 445, 446, 447, 448] (by decide +kernel) (by decide +kernel)) (goodIn_sub (fun _ h => List.mem_append_right _ h) (by decide +kernel))
set_option maxRecDepth 20000 in
theorem gL_law_L_mustSearch : GoodIn wsL_law (va_wsS RL 112 yL_mustSearch wsL_mustSearch) := goodIn_app (goodIn_of _ (by decide +kernel)) ggL_law_L_mustSearch
set_option maxRecDepth 20000 in
theorem ggL_law_X2_mustSearch : GoodIn wsL_law wsX2_mustSearch := goodIn_r _ [243, 197, 198, 199, 5, 200, 118, 71, 72, 73, 74, 75, 76, 77, 78, 119, 120, 121, 122, 37, 40, 42, 31, 123, 124, 125, 126, 38, 43, 44, 30, 416, 417, 418, 419, 420, 421, 422, 423, 424, 425, 426, 427, 428, 429, 430, 431, 432, 433, 434, 435, 436] (by decide +kernel) (by decide +kernel)
set_option maxRecDepth 20000 in
theorem gL_law_X2_mustSearch : GoodIn wsL_law (wsV RL 114 RX2 yX2_mustSearch wsX2_mustSearch) := goodIn_app (goodIn_of _ (by decide +kernel)) ggL_law_X2_mustSearch
set_option maxRecDepth 20000 in
theorem ggL_law_L_search : GoodIn wsL_law wsL_search := goodIn_ca (goodIn_ca (goodIn_ca (goodIn_r _ [246, 182, 51, 130, 247, 248, 249, 2, 250, 135, 136, 98, 251, 187, 188, 189, 190, 191, 192, 20, 56, 57, 58, 59, 60, 61, 62, 63, 252, 253, 254, 103, 255, 164, 169, 105, 437, 438, 439, 440, 441, 442, 443, 444, 445, 446, 447, 448, 406, 407, 408, 409, 410, 411, 412, 413, 414, 415] (by decide +kernel) (by decide +kernel)) (goodIn_sub (fun _ h => List.mem_append_left _ (List.mem_append_right _ h)) (by decide +kernel))) (goodIn_sub (fun _ h => List.mem_append_right _ h) (by decide +kernel))) (goodIn_sub (fun _ h => List.mem_append_left _ (List.mem_append_left _ (List.mem_append_right _ h))) (by decide +kernel))
set_option maxRecDepth 20000 in
theorem gL_law_L_search : GoodIn wsL_law (va_wsS RL 115 yL_search wsL_search) := goodIn_app (goodIn_of _ (by decide +kernel)) ggL_law_L_search
set_option maxRecDepth 20000 in
theorem ggL_law_X2_search : GoodIn wsL_law wsX2_search := goodIn_r _ [259, 37, 40, 39, 44, 197, 198, 199, 5, 200, 118, 71, 72, 73, 68, 69, 70, 74, 75, 76, 77, 78, 416, 417, 418, 419, 420, 421, 422, 423, 424, 425, 426, 427, 428, 429, 430, 431, 432, 433, 434, 435, 436] (by decide +kernel) (by decide +kernel)
set_option maxRecDepth 20000 in
theorem gL_law_X2_search : GoodIn wsL_law (wsV RL 117 RX2 yX2_search wsX2_search) := goodIn_app (goodIn_of _ (by decide +kernel)) ggL_law_X2_search
set_option maxRecDepth 20000 in
theorem ggL_law_L_bond : GoodIn wsL_law wsL_bond := goodIn_ca (goodIn_ca (goodIn_ca (goodIn_r _ [262, 182, 51, 130, 263, 264, 265, 2, 266, 135, 136, 98, 17, 267, 16, 14, 187, 188, 189, 190, 191, 192, 20, 268, 269, 270, 59, 60, 61, 62, 63, 94, 95, 96, 97, 99, 23, 100, 101, 102, 103, 104, 105, 106, 107, 108, 109, 110, 15, 111, 112, 271, 272, 273, 274, 275, 276, 277, 278, 166, 164, 165, 170, 167, 279, 280, 281, 210, 211, 212, 437, 438, 439, 440, 441, 442, 443, 444, 445, 446, 447, 448, 406, 407, 408, 409, 410, 411, 412, 413, 414, 415] (by decide +kernel) (by decide +kernel)) (goodIn_sub (fun _ h => List.mem_append_left _ (List.mem_append_right _ h)) (by decide +kernel))) (goodIn_sub (fun _ h => List.mem_append_right _ h) (by decide +kernel))) (goodIn_sub (fun _ h => List.mem_append_left _ (List.mem_append_left _ (List.mem_append_right _ h))) (by decide +kernel))
set_option maxRecDepth 20000 in
theorem gL_law_L_bond : GoodIn wsL_law (va_wsS RL 118 yL_bond wsL_bond) := goodIn_app (goodIn_of _ (by decide +kernel)) ggL_law_L_bond
set_option maxRecDepth 20000 in
theorem ggL_law_X2_bond : GoodIn wsL_law wsX2_bond := goodIn_r _ [285, 35, 37, 33, 32, 45, 29, 46, 44, 197, 198, 199, 5, 200, 118, 71, 72, 73, 119, 120, 121, 122, 40, 42, 31, 123, 124, 125, 126, 38, 43, 30, 286, 287, 288, 289, 290, 291, 292, 74, 75, 76, 77, 78, 218, 219, 220, 221, 293, 294, 295, 416, 417, 418, 419, 420, 421, 422, 423, 424, 425, 426, 427, 428, 429, 430, 431, 432, 433, 434, 435, 436] (by decide +kernel) (by decide +kernel)
set_option maxRecDepth 20000 in
theorem gL_law_X2_bond : GoodIn wsL_law (wsV RL 120 RX2 yX2_bond wsX2_bond) := goodIn_app (goodIn_of _ (by decide +kernel)) ggL_law_X2_bond
set_option maxRecDepth 20000 in
theorem ggL_law_L_move : GoodIn wsL_law wsL_move := goodIn_ca (goodIn_ca (goodIn_ca (goodIn_r _ [298, 182, 51, 130, 299, 300, 301, 2, 302, 62, 63, 303, 187, 188, 189, 190, 191, 192, 20, 268, 269, 270, 59, 60, 61, 304, 305, 306, 135, 136, 56, 57, 58, 307, 279, 280, 437, 438, 439, 440, 441, 442, 443, 444, 445, 446, 447, 448, 406, 407, 408, 409, 410, 411, 412, 413, 414, 415] (by decide +kernel) (by decide +kernel)) (goodIn_sub (fun _ h => List.mem_append_left _ (List.mem_append_left _ (List.mem_append_right _ h))) (by decide +kernel))) (goodIn_sub (fun _ h => List.mem_append_right _ h) (by decide +kernel))) (goodIn_sub (fun _ h => List.mem_append_left _ (List.mem_append_right _ h)) (by decide +kernel))
set_option maxRecDepth 20000 in
theorem gL_law_L_move : GoodIn wsL_law (va_wsS RL 121 yL_move wsL_move) := goodIn_app (goodIn_of _ (by decide +kernel)) ggL_law_L_move
set_option maxRecDepth 20000 in
theorem ggL_law_X2_move : GoodIn wsL_law wsX2_move := goodIn_r _ [311, 46, 197, 198, 199, 5, 200, 118, 71, 72, 73, 312, 313, 314, 68, 69, 70, 290, 291, 292, 293, 294, 295, 74, 75, 76, 77, 78, 416, 417, 418, 419, 420, 421, 422, 423, 424, 425, 426, 427, 428, 429, 430, 431, 432, 433, 434, 435, 436] (by decide +kernel) (by decide +kernel)
set_option maxRecDepth 20000 in
theorem gL_law_X2_move : GoodIn wsL_law (wsV RL 124 RX2 yX2_move wsX2_move) := goodIn_app (goodIn_of _ (by decide +kernel)) ggL_law_X2_move
set_option maxRecDepth 20000 in
theorem ggL_law_L_free : GoodIn wsL_law wsL_free := goodIn_ca (goodIn_ca (goodIn_ca (goodIn_r _ [317, 182, 51, 130, 318, 319, 320, 2, 321, 18, 267, 187, 188, 189, 190, 191, 192, 20, 304, 305, 306, 135, 136, 303, 56, 57, 58, 59, 60, 61, 62, 63, 268, 269, 270, 307, 279, 280, 322, 323, 324, 325, 326, 17, 327, 98, 406, 407, 408, 409, 410, 411, 412, 413, 414, 415, 437, 438, 439, 440, 441, 442, 443, 444, 445, 446, 447, 448] (by decide +kernel) (by decide +kernel)) (goodIn_sub (fun _ h => List.mem_append_right _ h) (by decide +kernel))) (goodIn_sub (fun _ h => List.mem_append_left _ (List.mem_append_right _ h)) (by decide +kernel))) (goodIn_sub (fun _ h => List.mem_append_left _ (List.mem_append_left _ (List.mem_append_right _ h))) (by decide +kernel))
set_option maxRecDepth 20000 in
theorem gL_law_L_free : GoodIn wsL_law (va_wsS RL 125 yL_free wsL_free) := goodIn_app (goodIn_of _ (by decide +kernel)) ggL_law_L_free
set_option maxRecDepth 20000 in
theorem ggL_law_X2_free : GoodIn wsL_law wsX2_free := goodIn_r _ [331, 34, 35, 332, 333, 334, 5, 335, 46, 197, 198, 199, 200, 118, 71, 72, 73, 312, 313, 314, 68, 69, 70, 290, 291, 292, 293, 294, 295, 74, 75, 76, 77, 78, 336, 337, 338, 339, 45, 33, 37, 416, 417, 418, 419, 420, 421, 422, 423, 424, 425, 426, 427, 428, 429, 430, 431, 432, 433, 434, 435, 436] (by decide +kernel) (by decide +kernel)
set_option maxRecDepth 20000 in
theorem gL_law_X2_free : GoodIn wsL_law (wsV RL 128 RX2 yX2_free wsX2_free) := goodIn_app (goodIn_of _ (by decide +kernel)) ggL_law_X2_free
set_option maxRecDepth 20000 in
theorem ggL_law_L_sendBack : GoodIn wsL_law wsL_sendBack := goodIn_ca (goodIn_ca (goodIn_ca (goodIn_r _ [342, 182, 51, 130, 343, 344, 345, 2, 346, 187, 188, 189, 190, 191, 192, 20, 304, 305, 306, 135, 136, 303, 56, 57, 58, 59, 60, 61, 62, 63, 268, 269, 270, 307, 279, 280, 322, 323, 324, 325, 326, 17, 267, 327, 98, 406, 407, 408, 409, 410, 411, 412, 413, 414, 415, 437, 438, 439, 440, 441, 442, 443, 444, 445, 446, 447, 448] (by decide +kernel) (by decide +kernel)) (goodIn_sub (fun _ h => List.mem_append_right _ h) (by decide +kernel))) (goodIn_sub (fun _ h => List.mem_append_left _ (List.mem_append_right _ h)) (by decide +kernel))) (goodIn_sub (fun _ h => List.mem_append_left _ (List.mem_append_left _ (List.mem_append_right _ h))) (by decide +kernel))
set_option maxRecDepth 20000 in
theorem gL_law_L_sendBack : GoodIn wsL_law (va_wsS RL 129 yL_sendBack wsL_sendBack) := goodIn_app (goodIn_of _ (by decide +kernel)) ggL_law_L_sendBack
set_option maxRecDepth 20000 in
theorem ggL_law_X2_sendBack : GoodIn wsL_law wsX2_sendBack := goodIn_r _ [350, 332, 333, 334, 5, 335, 46, 197, 198, 199, 200, 118, 71, 72, 73, 312, 313, 314, 68, 69, 70, 290, 291, 292, 293, 294, 295, 74, 75, 76, 77, 78, 336, 337, 338, 339, 45, 33, 35, 37, 416, 417, 418, 419, 420, 421, 422, 423, 424, 425, 426, 427, 428, 429, 430, 431, 432, 433, 434, 435, 436] (by decide +kernel) (by decide +kernel)
set_option maxRecDepth 20000 in
theorem gL_law_X2_sendBack : GoodIn wsL_law (wsV RL 131 RX2 yX2_sendBack wsX2_sendBack) := goodIn_app (goodIn_of _ (by decide +kernel)) ggL_law_X2_sendBack
set_option maxRecDepth 20000 in
theorem ggL_law_L_state : GoodIn wsL_law wsL_state := goodIn_ca (goodIn_r _ [353, 182, 354, 355, 356, 2, 357, 98, 187, 188, 189, 190, 191, 192, 20, 437, 438, 439, 440, 441, 442, 443, 444, 445, 446, 447, 448, 406, 407, 408, 409, 410, 411, 412, 413, 414, 415] (by decide +kernel) (by decide +kernel)) (goodIn_sub (fun _ h => List.mem_append_right _ h) (by decide +kernel))
set_option maxRecDepth 20000 in
theorem gL_law_L_state : GoodIn wsL_law (va_wsS RL 132 yL_state wsL_state) := goodIn_app (goodIn_of _ (by decide +kernel)) ggL_law_L_state
set_option maxRecDepth 20000 in
theorem ggL_law_X2_state : GoodIn wsL_law wsX2_state := goodIn_r _ [361, 37, 197, 198, 199, 5, 200, 118, 71, 72, 73, 74, 75, 76, 77, 78, 416, 417, 418, 419, 420, 421, 422, 423, 424, 425, 426, 427, 428, 429, 430, 431, 432, 433, 434, 435, 436] (by decide +kernel) (by decide +kernel)
set_option maxRecDepth 20000 in
theorem gL_law_X2_state : GoodIn wsL_law (wsV RL 134 RX2 yX2_state wsX2_state) := goodIn_app (goodIn_of _ (by decide +kernel)) ggL_law_X2_state
set_option maxRecDepth 20000 in
theorem ggL_law_L_manifest : GoodIn wsL_law wsL_manifest := goodIn_ca (goodIn_ca (goodIn_r _ [364, 182, 51, 365, 366, 367, 2, 368, 110, 187, 188, 189, 190, 191, 192, 20, 56, 57, 58, 59, 60, 61, 62, 63, 437, 438, 439, 440, 441, 442, 443, 444, 445, 446, 447, 448, 406, 407, 408, 409, 410, 411, 412, 413, 414, 415] (by decide +kernel) (by decide +kernel)) (goodIn_sub (fun _ h => List.mem_append_right _ h) (by decide +kernel))) (goodIn_sub (fun _ h => List.mem_append_left _ (List.mem_append_left _ (List.mem_append_right _ h))) (by decide +kernel))
set_option maxRecDepth 20000 in
theorem gL_law_L_manifest : GoodIn wsL_law (va_wsS RL 135 yL_manifest wsL_manifest) := goodIn_app (goodIn_of _ (by decide +kernel)) ggL_law_L_manifest
set_option maxRecDepth 20000 in
theorem ggL_law_X2_manifest : GoodIn wsL_law wsX2_manifest := goodIn_r _ [372, 44, 197, 198, 199, 5, 200, 118, 71, 72, 73, 68, 69, 70, 74, 75, 76, 77, 78, 416, 417, 418, 419, 420, 421, 422, 423, 424, 425, 426, 427, 428, 429, 430, 431, 432, 433, 434, 435, 436] (by decide +kernel) (by decide +kernel)
set_option maxRecDepth 20000 in
theorem gL_law_X2_manifest : GoodIn wsL_law (wsV RL 137 RX2 yX2_manifest wsX2_manifest) := goodIn_app (goodIn_of _ (by decide +kernel)) ggL_law_X2_manifest
set_option maxRecDepth 20000 in
theorem ggL_law_L_stored : GoodIn wsL_law wsL_stored := goodIn_ca (goodIn_r _ [375, 51, 376, 377, 378, 2, 379, 20, 303, 56, 57, 58, 59, 60, 61, 62, 63, 268, 269, 270, 307, 279, 280, 406, 407, 408, 409, 410, 411, 412, 413, 414, 415, 437, 438, 439, 440, 441, 442, 443, 444, 445, 446, 447, 448] (by decide +kernel) (by decide +kernel)) (goodIn_sub (fun _ h => List.mem_append_left _ (List.mem_append_left _ (List.mem_append_right _ h))) (by decide +kernel))
set_option maxRecDepth 20000 in
theorem gL_law_L_stored : GoodIn wsL_law (va_wsS RL 138 yL_stored wsL_stored) := goodIn_app (goodIn_of _ (by decide +kernel)) ggL_law_L_stored
set_option maxRecDepth 20000 in
theorem ggL_law_X2_stored : GoodIn wsL_law wsX2_stored := goodIn_r _ [383, 118, 46, 68, 69, 5, 70, 71, 72, 73, 290, 291, 292, 74, 75, 76, 77, 78, 293, 294, 295, 416, 417, 418, 419, 420, 421, 422, 423, 424, 425, 426, 427, 428, 429, 430, 431, 432, 433, 434, 435, 436] (by decide +kernel) (by decide +kernel)
set_option maxRecDepth 20000 in
theorem gL_law_X2_stored : GoodIn wsL_law (wsV RL 140 RX2 yX2_stored wsX2_stored) := goodIn_app (goodIn_of _ (by decide +kernel)) ggL_law_X2_stored
set_option maxRecDepth 20000 in
theorem ggL_law_L_held : GoodIn wsL_law wsL_held := goodIn_ca (goodIn_r _ [386, 51, 387, 388, 389, 2, 390, 17, 138, 139, 140, 59, 60, 61, 62, 63, 406, 407, 408, 409, 410, 411, 412, 413, 414, 415] (by decide +kernel) (by decide +kernel)) (goodIn_sub (fun _ h => List.mem_append_left _ (List.mem_append_left _ (List.mem_append_right _ h))) (by decide +kernel))
set_option maxRecDepth 20000 in
theorem gL_law_L_held : GoodIn wsL_law (va_wsS RL 141 yL_held wsL_held) := goodIn_app (goodIn_of _ (by decide +kernel)) ggL_law_L_held
set_option maxRecDepth 20000 in
theorem ggL_law_X2_held : GoodIn wsL_law wsX2_held := goodIn_r _ [394, 33, 146, 147, 5, 148, 71, 72, 73, 74, 75, 76, 77, 78, 416, 417, 418, 419, 420, 421, 422, 423, 424, 425, 426, 427, 428, 429, 430, 431, 432, 433, 434, 435, 436] (by decide +kernel) (by decide +kernel)
set_option maxRecDepth 20000 in
theorem gL_law_X2_held : GoodIn wsL_law (wsV RL 143 RX2 yX2_held wsX2_held) := goodIn_app (goodIn_of _ (by decide +kernel)) ggL_law_X2_held
set_option maxRecDepth 20000 in
theorem ggL_law_L_paid : GoodIn wsL_law wsL_paid := goodIn_ca (goodIn_r _ [397, 51, 398, 399, 400, 2, 401, 18, 138, 139, 140, 59, 60, 61, 62, 63, 406, 407, 408, 409, 410, 411, 412, 413, 414, 415] (by decide +kernel) (by decide +kernel)) (goodIn_sub (fun _ h => List.mem_append_left _ (List.mem_append_left _ (List.mem_append_right _ h))) (by decide +kernel))
set_option maxRecDepth 20000 in
theorem gL_law_L_paid : GoodIn wsL_law (va_wsS RL 144 yL_paid wsL_paid) := goodIn_app (goodIn_of _ (by decide +kernel)) ggL_law_L_paid
set_option maxRecDepth 20000 in
theorem ggL_law_X2_paid : GoodIn wsL_law wsX2_paid := goodIn_r _ [405, 34, 146, 147, 5, 148, 71, 72, 73, 74, 75, 76, 77, 78, 416, 417, 418, 419, 420, 421, 422, 423, 424, 425, 426, 427, 428, 429, 430, 431, 432, 433, 434, 435, 436] (by decide +kernel) (by decide +kernel)
set_option maxRecDepth 20000 in
theorem gL_law_X2_paid : GoodIn wsL_law (wsV RL 146 RX2 yX2_paid wsX2_paid) := goodIn_app (goodIn_of _ (by decide +kernel)) ggL_law_X2_paid
end
section
theorem fw_P_perm {D : va_G} {cl : List vw_C} {ws ws' : va_W} {H : Heap} (h : List.Perm ws ws') (hP : va_P D cl ws H) : va_P D cl ws' H := by
  intro k q hk
  obtain ⟨i, hi⟩ := List.getElem?_of_mem (h.mem_iff.mpr (List.mem_of_getElem? hk))
  exact hP i q hi
theorem fw_D_nd {A : Nat → Prop} {ws : va_W} : va_D A ws ↔ List.Pairwise (fun p q : Nat × va_E => p.1 ≠ q.1) ws ∧ ∀ q ∈ ws, A q.1 := by
  constructor
  · rintro ⟨h1, h2⟩
    refine ⟨?_, fun q hq => ?_⟩
    · rw [List.pairwise_iff_getElem]
      intro i j hi hj hij e
      have := h1 i j _ _ (List.getElem?_eq_getElem hi) (List.getElem?_eq_getElem hj) e
      omega
    · obtain ⟨k, hk⟩ := List.getElem?_of_mem hq
      exact h2 k q hk
  · rintro ⟨h1, h2⟩
    refine ⟨fun i j p q hp hq hpq => ?_, fun k q hk => h2 q (List.mem_of_getElem? hk)⟩
    rw [List.pairwise_iff_getElem] at h1
    obtain ⟨hi, ei⟩ := List.getElem?_eq_some_iff.mp hp
    obtain ⟨hj, ej⟩ := List.getElem?_eq_some_iff.mp hq
    subst ei
    subst ej
    rcases Nat.lt_trichotomy i j with h | h | h
    · exact absurd hpq (h1 i j hi hj h)
    · exact h
    · exact absurd hpq.symm (h1 j i hj hi h)
theorem fw_D_perm {A : Nat → Prop} {ws ws' : va_W} (h : List.Perm ws ws') (hD : va_D A ws) : va_D A ws' := by
  rw [fw_D_nd] at hD ⊢
  exact ⟨h.pairwise hD.1 (fun z => z.symm), fun q hq => hD.2 q (h.mem_iff.mpr hq)⟩
section FW
variable {p : Program} {l : Launch} {e : Env} {R : Room} {s : State} {m : MethodId} {args : Array Value} {below : List Frame} {meth : Method} {c : Code}
variable {D : va_G} {A : Nat → Prop} {nL : Nat} {Q : State → Prop} {ws : va_W} {cells slots : Nat} {lv : List (Nat × Value)} {pc : Nat} {st : List Value}
variable {cc : ByteArray} {own : String} {Ts : List Cond} {tys : List (ClassId × FieldType)}
/-- from every heap that holds the world ws, with these locals, this stack, at this pc: the machine comes to a state with Q -/
def fw_W (p : Program) (l : Launch) (e : Env) (R : Room) (s : State) (m : MethodId) (args : Array Value) (below : List Frame) (meth : Method) (c : Code) (D : va_G) (A : Nat → Prop) (nL : Nat) (Q : State → Prop) (ws : va_W) (cells slots : Nat) (lv : List (Nat × Value)) (pc : Nat) (st : List Value) : Prop :=
  ∀ (H : Heap) (locs : List Loc) (ls : Array Slot), lv_has ls nL lv → va_P D vwCl ws H → va_D A ws → va_S A s.heap H locs → W p l e R s m args below meth c H locs cells slots Q (F0 m pc ls st)
/-- what stays the same in a method's walk -/
def fw_X (p : Program) (s : State) (m : MethodId) (args : Array Value) (c : Code) (D : va_G) (A : Nat → Prop) (nL : Nat) (cc : ByteArray) (own : String) (Ts : List Cond) (tys : List (ClassId × FieldType)) : Prop :=
  CallFix p m c cc nL s args Ts own ∧ va_K D vwCl tys s ∧ ∀ q, s.heap.size ≤ q → A q
/-- an exception of class E goes up from here -/
def fw_V (p : Program) (l : Launch) (e : Env) (R : Room) (s : State) (m : MethodId) (args : Array Value) (below : List Frame) (meth : Method) (c : Code) (D : va_G) (A : Nat → Prop) (nL : Nat) (Q : State → Prop) (ws : va_W) (cells slots : Nat) (lv : List (Nat × Value)) (pc : Nat) (st : List Value) (E : String) : Prop :=
  ∀ (H : Heap) (locs : List Loc) (ls : Array Slot) (ce : Cell) (q : Addr), lv_has ls nL lv → va_P D vwCl ws H → va_D A ws → va_S A s.heap H locs → H[q]? = some ce → ce.vm = .none → s.vm.findClass E = some ce.cls → vx_W p l e R s m args below meth c H locs cells slots Q (F0 m pc ls st) q
theorem fw_lv {lv' : List (Nat × Value)} (ks : List Nat) (h : lv_pick lv ks = lv') (k : fw_W p l e R s m args below meth c D A nL Q ws cells slots lv' pc st) : fw_W p l e R s m args below meth c D A nL Q ws cells slots lv pc st := fun H locs ls h1 h2 h3 h4 => k H locs ls (lv_sub h1 ks h) h2 h3 h4
theorem fw_wd {k n : Nat} (h1 : cells ≤ k) (h2 : slots ≤ n) (kk : fw_W p l e R s m args below meth c D A nL Q ws k n lv pc st) : fw_W p l e R s m args below meth c D A nL Q ws cells slots lv pc st := fun H locs ls g1 g2 g3 g4 => W.widen h1 h2 (kk H locs ls g1 g2 g3 g4)
theorem fw_ws {ws' : va_W} (h : ws = ws') (k : fw_W p l e R s m args below meth c D A nL Q ws' cells slots lv pc st) : fw_W p l e R s m args below meth c D A nL Q ws cells slots lv pc st := h ▸ k
theorem fw_st {st' : List Value} (h : st = st') (k : fw_W p l e R s m args below meth c D A nL Q ws cells slots lv pc st') : fw_W p l e R s m args below meth c D A nL Q ws cells slots lv pc st := h ▸ k
theorem fw_pm {ws' : va_W} (h : List.Perm ws ws') (k : fw_W p l e R s m args below meth c D A nL Q ws' cells slots lv pc st) : fw_W p l e R s m args below meth c D A nL Q ws cells slots lv pc st := fun H locs ls g1 g2 g3 g4 => k H locs ls g1 (fw_P_perm h g2) (fw_D_perm h g3) g4
theorem fw_iconst (X : fw_X p s m args c D A nL cc own Ts tys) {n : Int} {v : Int32} (hdg : decode cc pc = .ok (.iconst n, 1)) (hv : Int32.ofInt n = v) (k : fw_W p l e R s m args below meth c D A nL Q ws cells slots lv (pc + 1) (.int v :: st)) : fw_W p l e R s m args below meth c D A nL Q ws cells slots lv pc st := fun H locs ls h1 h2 h3 h4 => lv_iconst X.1.1 X.1.2.1 hdg hv (k H locs ls h1 h2 h3 h4)
theorem fw_bipush (X : fw_X p s m args c D A nL cc own Ts tys) {n : Int} {v : Int32} (hdg : decode cc pc = .ok (.bipush n, 2)) (hv : (Int8.ofInt n).toInt32 = v) (k : fw_W p l e R s m args below meth c D A nL Q ws cells slots lv (pc + 2) (.int v :: st)) : fw_W p l e R s m args below meth c D A nL Q ws cells slots lv pc st := fun H locs ls h1 h2 h3 h4 => lv_bipush X.1.1 X.1.2.1 hdg hv (k H locs ls h1 h2 h3 h4)
theorem fw_sipush (X : fw_X p s m args c D A nL cc own Ts tys) {n : Int} {v : Int32} (hdg : decode cc pc = .ok (.sipush n, 3)) (hv : (Int16.ofInt n).toInt32 = v) (k : fw_W p l e R s m args below meth c D A nL Q ws cells slots lv (pc + 3) (.int v :: st)) : fw_W p l e R s m args below meth c D A nL Q ws cells slots lv pc st := fun H locs ls h1 h2 h3 h4 => lv_sipush X.1.1 X.1.2.1 hdg hv (k H locs ls h1 h2 h3 h4)
theorem fw_lconst (X : fw_X p s m args c D A nL cc own Ts tys) {n : Fin 2} {v : Int64} (hdg : decode cc pc = .ok (.lconst n, 1)) (hv : Int64.ofNat (n : Nat) = v) (k : fw_W p l e R s m args below meth c D A nL Q ws cells slots lv (pc + 1) (.long v :: st)) : fw_W p l e R s m args below meth c D A nL Q ws cells slots lv pc st := fun H locs ls h1 h2 h3 h4 => lv_lconst X.1.1 X.1.2.1 hdg hv (k H locs ls h1 h2 h3 h4)
theorem fw_iload_n (X : fw_X p s m args c D A nL cc own Ts tys) {n : Fin 4} {i : Nat} {x : Int32} (hdg : decode cc pc = .ok (.iload_n n, 1)) (hi : (n : Nat) = i) (j : Nat) (hl : lv[j]? = some (i, .int x)) (k : fw_W p l e R s m args below meth c D A nL Q ws cells slots lv (pc + 1) (.int x :: st)) : fw_W p l e R s m args below meth c D A nL Q ws cells slots lv pc st := fun H locs ls h1 h2 h3 h4 => lv_iload_n X.1.1 X.1.2.1 hdg hi (lv_at h1 j hl) (k H locs ls h1 h2 h3 h4)
theorem fw_iload (X : fw_X p s m args c D A nL cc own Ts tys) {i : Nat} {x : Int32} (hdg : decode cc pc = .ok (.iload i, 2)) (j : Nat) (hl : lv[j]? = some (i, .int x)) (k : fw_W p l e R s m args below meth c D A nL Q ws cells slots lv (pc + 2) (.int x :: st)) : fw_W p l e R s m args below meth c D A nL Q ws cells slots lv pc st := fun H locs ls h1 h2 h3 h4 => lv_iload X.1.1 X.1.2.1 hdg (lv_at h1 j hl) (k H locs ls h1 h2 h3 h4)
theorem fw_aload_n (X : fw_X p s m args c D A nL cc own Ts tys) {n : Fin 4} {i : Nat} {x : Nat} (hdg : decode cc pc = .ok (.aload_n n, 1)) (hi : (n : Nat) = i) (j : Nat) (hl : lv[j]? = some (i, .ref x)) (k : fw_W p l e R s m args below meth c D A nL Q ws cells slots lv (pc + 1) (.ref x :: st)) : fw_W p l e R s m args below meth c D A nL Q ws cells slots lv pc st := fun H locs ls h1 h2 h3 h4 => lv_aload_n X.1.1 X.1.2.1 hdg hi (lv_at h1 j hl) (k H locs ls h1 h2 h3 h4)
theorem fw_aload (X : fw_X p s m args c D A nL cc own Ts tys) {i : Nat} {x : Nat} (hdg : decode cc pc = .ok (.aload i, 2)) (j : Nat) (hl : lv[j]? = some (i, .ref x)) (k : fw_W p l e R s m args below meth c D A nL Q ws cells slots lv (pc + 2) (.ref x :: st)) : fw_W p l e R s m args below meth c D A nL Q ws cells slots lv pc st := fun H locs ls h1 h2 h3 h4 => lv_aload X.1.1 X.1.2.1 hdg (lv_at h1 j hl) (k H locs ls h1 h2 h3 h4)
theorem fw_aloadN (X : fw_X p s m args c D A nL cc own Ts tys) {i : Nat} (hdg : decode cc pc = .ok (.aload i, 2)) (j : Nat) (hl : lv[j]? = some (i, .null)) (k : fw_W p l e R s m args below meth c D A nL Q ws cells slots lv (pc + 2) (.null :: st)) : fw_W p l e R s m args below meth c D A nL Q ws cells slots lv pc st := fun H locs ls h1 h2 h3 h4 => lv_aloadN X.1.1 X.1.2.1 hdg (lv_at h1 j hl) (k H locs ls h1 h2 h3 h4)
theorem fw_istore_n (X : fw_X p s m args c D A nL cc own Ts tys) {n : Fin 4} {i : Nat} {x : Int32} {lv' : List (Nat × Value)} (hdg : decode cc pc = .ok (.istore_n n, 1)) (hi : (n : Nat) = i) (hn : i < nL) (hl : (i, (.int x : Value)) :: lv.filter (fun q => !(q.1 == i) && !(q.1 + 1 == i && q.2.category == 2)) = lv') (k : fw_W p l e R s m args below meth c D A nL Q ws cells slots lv' (pc + 1) st) : fw_W p l e R s m args below meth c D A nL Q ws cells slots lv pc (.int x :: st) := fun H locs ls h1 h2 h3 h4 => lv_istore_n X.1.1 X.1.2.1 hdg hi h1 hn hl (fun ls g1 => k H locs ls g1 h2 h3 h4)
theorem fw_istore (X : fw_X p s m args c D A nL cc own Ts tys) {i : Nat} {x : Int32} {lv' : List (Nat × Value)} (hdg : decode cc pc = .ok (.istore i, 2))  (hn : i < nL) (hl : (i, (.int x : Value)) :: lv.filter (fun q => !(q.1 == i) && !(q.1 + 1 == i && q.2.category == 2)) = lv') (k : fw_W p l e R s m args below meth c D A nL Q ws cells slots lv' (pc + 2) st) : fw_W p l e R s m args below meth c D A nL Q ws cells slots lv pc (.int x :: st) := fun H locs ls h1 h2 h3 h4 => lv_istore X.1.1 X.1.2.1 hdg  h1 hn hl (fun ls g1 => k H locs ls g1 h2 h3 h4)
theorem fw_astore_n (X : fw_X p s m args c D A nL cc own Ts tys) {n : Fin 4} {i : Nat} {x : Nat} {lv' : List (Nat × Value)} (hdg : decode cc pc = .ok (.astore_n n, 1)) (hi : (n : Nat) = i) (hn : i < nL) (hl : (i, (.ref x : Value)) :: lv.filter (fun q => !(q.1 == i) && !(q.1 + 1 == i && q.2.category == 2)) = lv') (k : fw_W p l e R s m args below meth c D A nL Q ws cells slots lv' (pc + 1) st) : fw_W p l e R s m args below meth c D A nL Q ws cells slots lv pc (.ref x :: st) := fun H locs ls h1 h2 h3 h4 => lv_astore_n X.1.1 X.1.2.1 hdg hi h1 hn hl (fun ls g1 => k H locs ls g1 h2 h3 h4)
theorem fw_astore (X : fw_X p s m args c D A nL cc own Ts tys) {i : Nat} {x : Nat} {lv' : List (Nat × Value)} (hdg : decode cc pc = .ok (.astore i, 2))  (hn : i < nL) (hl : (i, (.ref x : Value)) :: lv.filter (fun q => !(q.1 == i) && !(q.1 + 1 == i && q.2.category == 2)) = lv') (k : fw_W p l e R s m args below meth c D A nL Q ws cells slots lv' (pc + 2) st) : fw_W p l e R s m args below meth c D A nL Q ws cells slots lv pc (.ref x :: st) := fun H locs ls h1 h2 h3 h4 => lv_astore X.1.1 X.1.2.1 hdg  h1 hn hl (fun ls g1 => k H locs ls g1 h2 h3 h4)
theorem fw_astoreN (X : fw_X p s m args c D A nL cc own Ts tys) {i : Nat} {lv' : List (Nat × Value)} (hdg : decode cc pc = .ok (.astore i, 2))  (hn : i < nL) (hl : (i, (.null : Value)) :: lv.filter (fun q => !(q.1 == i) && !(q.1 + 1 == i && q.2.category == 2)) = lv') (k : fw_W p l e R s m args below meth c D A nL Q ws cells slots lv' (pc + 2) st) : fw_W p l e R s m args below meth c D A nL Q ws cells slots lv pc (.null :: st) := fun H locs ls h1 h2 h3 h4 => lv_astoreN X.1.1 X.1.2.1 hdg  h1 hn hl (fun ls g1 => k H locs ls g1 h2 h3 h4)
theorem fw_iinc (X : fw_X p s m args c D A nL cc own Ts tys) {i j : Nat} {n : Int} {x v : Int32} {lv' : List (Nat × Value)} (hdg : decode cc pc = .ok (.iinc i n, 3)) (hk : lv[j]? = some (i, .int x)) (hv : x + Int32.ofInt n = v) (hn : i < nL) (hl : (i, Value.int v) :: lv.filter (fun q => !(q.1 == i) && !(q.1 + 1 == i && q.2.category == 2)) = lv') (k : fw_W p l e R s m args below meth c D A nL Q ws cells slots lv' (pc + 3) st) : fw_W p l e R s m args below meth c D A nL Q ws cells slots lv pc st := fun H locs ls h1 h2 h3 h4 => lv_iinc X.1.1 X.1.2.1 hdg h1 hk hv hn hl (fun ls g1 => k H locs ls g1 h2 h3 h4)
theorem fw_iadd (X : fw_X p s m args c D A nL cc own Ts tys) {x y : Int32} (hdg : decode cc pc = .ok (.iadd, 1)) (k : fw_W p l e R s m args below meth c D A nL Q ws cells slots lv (pc + 1) (.int (x + y) :: st)) : fw_W p l e R s m args below meth c D A nL Q ws cells slots lv pc (.int y :: .int x :: st) := fun H locs ls h1 h2 h3 h4 => lv_iadd X.1.1 X.1.2.1 hdg (k H locs ls h1 h2 h3 h4)
theorem fw_isub (X : fw_X p s m args c D A nL cc own Ts tys) {x y : Int32} (hdg : decode cc pc = .ok (.isub, 1)) (k : fw_W p l e R s m args below meth c D A nL Q ws cells slots lv (pc + 1) (.int (x - y) :: st)) : fw_W p l e R s m args below meth c D A nL Q ws cells slots lv pc (.int y :: .int x :: st) := fun H locs ls h1 h2 h3 h4 => lv_isub X.1.1 X.1.2.1 hdg (k H locs ls h1 h2 h3 h4)
theorem fw_imul (X : fw_X p s m args c D A nL cc own Ts tys) {x y : Int32} (hdg : decode cc pc = .ok (.imul, 1)) (k : fw_W p l e R s m args below meth c D A nL Q ws cells slots lv (pc + 1) (.int (x * y) :: st)) : fw_W p l e R s m args below meth c D A nL Q ws cells slots lv pc (.int y :: .int x :: st) := fun H locs ls h1 h2 h3 h4 => lv_imul X.1.1 X.1.2.1 hdg (k H locs ls h1 h2 h3 h4)
theorem fw_iand (X : fw_X p s m args c D A nL cc own Ts tys) {x y : Int32} (hdg : decode cc pc = .ok (.iand, 1)) (k : fw_W p l e R s m args below meth c D A nL Q ws cells slots lv (pc + 1) (.int (x &&& y) :: st)) : fw_W p l e R s m args below meth c D A nL Q ws cells slots lv pc (.int y :: .int x :: st) := fun H locs ls h1 h2 h3 h4 => lv_iand X.1.1 X.1.2.1 hdg (k H locs ls h1 h2 h3 h4)
theorem fw_ior (X : fw_X p s m args c D A nL cc own Ts tys) {x y : Int32} (hdg : decode cc pc = .ok (.ior, 1)) (k : fw_W p l e R s m args below meth c D A nL Q ws cells slots lv (pc + 1) (.int (x ||| y) :: st)) : fw_W p l e R s m args below meth c D A nL Q ws cells slots lv pc (.int y :: .int x :: st) := fun H locs ls h1 h2 h3 h4 => lv_ior X.1.1 X.1.2.1 hdg (k H locs ls h1 h2 h3 h4)
theorem fw_ishl (X : fw_X p s m args c D A nL cc own Ts tys) {x y : Int32} (hdg : decode cc pc = .ok (.ishl, 1)) (k : fw_W p l e R s m args below meth c D A nL Q ws cells slots lv (pc + 1) (.int (x <<< (y &&& 31)) :: st)) : fw_W p l e R s m args below meth c D A nL Q ws cells slots lv pc (.int y :: .int x :: st) := fun H locs ls h1 h2 h3 h4 => lv_ishl X.1.1 X.1.2.1 hdg (k H locs ls h1 h2 h3 h4)
theorem fw_irem (X : fw_X p s m args c D A nL cc own Ts tys) {x y : Int32} (hdg : decode cc pc = .ok (.irem, 1)) (hne : ¬ y = 0) (k : fw_W p l e R s m args below meth c D A nL Q ws cells slots lv (pc + 1) (.int (x - x / y * y) :: st)) : fw_W p l e R s m args below meth c D A nL Q ws cells slots lv pc (.int y :: .int x :: st) := fun H locs ls h1 h2 h3 h4 => lv_irem X.1.1 X.1.2.1 hdg hne (k H locs ls h1 h2 h3 h4)
theorem fw_i2l (X : fw_X p s m args c D A nL cc own Ts tys) {x : Int32} {v : Int64} (hdg : decode cc pc = .ok (.i2l, 1)) (hv : x.toInt64 = v) (k : fw_W p l e R s m args below meth c D A nL Q ws cells slots lv (pc + 1) (.long v :: st)) : fw_W p l e R s m args below meth c D A nL Q ws cells slots lv pc (.int x :: st) := fun H locs ls h1 h2 h3 h4 => lv_i2l X.1.1 X.1.2.1 hdg hv (k H locs ls h1 h2 h3 h4)
theorem fw_lcmp (X : fw_X p s m args c D A nL cc own Ts tys) {x y : Int64} (hdg : decode cc pc = .ok (.lcmp, 1)) (k : fw_W p l e R s m args below meth c D A nL Q ws cells slots lv (pc + 1) (.int (lg_cmp x y) :: st)) : fw_W p l e R s m args below meth c D A nL Q ws cells slots lv pc (.long y :: .long x :: st) := fun H locs ls h1 h2 h3 h4 => W.lcmp X.1.1 X.1.2.1 hdg (k H locs ls h1 h2 h3 h4)
theorem fw_dup (X : fw_X p s m args c D A nL cc own Ts tys) {v : Value} (hdg : decode cc pc = .ok (.dup, 1)) (hv : v.category = 1) (k : fw_W p l e R s m args below meth c D A nL Q ws cells slots lv (pc + 1) (v :: v :: st)) : fw_W p l e R s m args below meth c D A nL Q ws cells slots lv pc (v :: st) := fun H locs ls h1 h2 h3 h4 => lv_dup X.1.1 X.1.2.1 hdg hv (k H locs ls h1 h2 h3 h4)
theorem fw_pop (X : fw_X p s m args c D A nL cc own Ts tys) {v : Value} (hdg : decode cc pc = .ok (.pop, 1)) (hv : v.category = 1) (k : fw_W p l e R s m args below meth c D A nL Q ws cells slots lv (pc + 1) st) : fw_W p l e R s m args below meth c D A nL Q ws cells slots lv pc (v :: st) := fun H locs ls h1 h2 h3 h4 => lv_pop X.1.1 X.1.2.1 hdg hv (k H locs ls h1 h2 h3 h4)
theorem fw_dup2 (X : fw_X p s m args c D A nL cc own Ts tys) {v w : Value} (hdg : decode cc pc = .ok (.dup2, 1)) (hv : v.category = 1) (hw : w.category = 1) (k : fw_W p l e R s m args below meth c D A nL Q ws cells slots lv (pc + 1) (v :: w :: v :: w :: st)) : fw_W p l e R s m args below meth c D A nL Q ws cells slots lv pc (v :: w :: st) := fun H locs ls h1 h2 h3 h4 => lv_dup2_11 X.1.1 X.1.2.1 hdg hv hw (k H locs ls h1 h2 h3 h4)
theorem fw_dup_x1 (X : fw_X p s m args c D A nL cc own Ts tys) {v w : Value} (hdg : decode cc pc = .ok (.dup_x1, 1)) (hv : v.category = 1) (hw : w.category = 1) (k : fw_W p l e R s m args below meth c D A nL Q ws cells slots lv (pc + 1) (v :: w :: v :: st)) : fw_W p l e R s m args below meth c D A nL Q ws cells slots lv pc (v :: w :: st) := fun H locs ls h1 h2 h3 h4 => lv_dup_x1 X.1.1 X.1.2.1 hdg hv hw (k H locs ls h1 h2 h3 h4)
theorem fw_null (X : fw_X p s m args c D A nL cc own Ts tys)  (hdg : decode cc pc = .ok (.aconst_null, 1)) (k : fw_W p l e R s m args below meth c D A nL Q ws cells slots lv (pc + 1) (.null :: st)) : fw_W p l e R s m args below meth c D A nL Q ws cells slots lv pc st := fun H locs ls h1 h2 h3 h4 => lv_null X.1.1 X.1.2.1 hdg (k H locs ls h1 h2 h3 h4)
theorem fw_nm {x : Int32} (k : ∀ y : Int32, y = x → fw_W p l e R s m args below meth c D A nL Q ws cells slots lv pc (.int y :: st)) : fw_W p l e R s m args below meth c D A nL Q ws cells slots lv pc (.int x :: st) := k x rfl
theorem fw_iv {x y : Int32} (h : x = y) (k : fw_W p l e R s m args below meth c D A nL Q ws cells slots lv pc (.int y :: st)) : fw_W p l e R s m args below meth c D A nL Q ws cells slots lv pc (.int x :: st) := h ▸ k
theorem fw_ldc (X : fw_X p s m args c D A nL cc own Ts tys) {index : Nat} {v : Int32} (hc : Cond.constant own index v ∈ Ts) (hdg : decode cc pc = .ok (.ldc index, 2)) (k : fw_W p l e R s m args below meth c D A nL Q ws cells slots lv (pc + 2) (.int v :: st)) : fw_W p l e R s m args below meth c D A nL Q ws cells slots lv pc st := fun H locs ls h1 h2 h3 h4 => lv_ldc X.1.1 X.1.2.1 X.1.2.2.2.1 (X.1.2.2.2.2 _ hc) hdg (k H locs ls h1 h2 h3 h4)
theorem fw_if_eq (X : fw_X p s m args c D A nL cc own Ts tys) {x : Int32} {off : Int} {tgt : Nat} (hdg : decode cc pc = .ok (.ifCond .eq off, 3)) (ht : (pc : Int) + off = (tgt : Int)) (kt : x = 0 → fw_W p l e R s m args below meth c D A nL Q ws cells slots lv tgt st) (kf : ¬ x = 0 → fw_W p l e R s m args below meth c D A nL Q ws cells slots lv (pc + 3) st) : fw_W p l e R s m args below meth c D A nL Q ws cells slots lv pc (.int x :: st) := fun H locs ls h1 h2 h3 h4 => lv_if_eq X.1.1 X.1.2.1 hdg ht (fun q => kt q H locs ls h1 h2 h3 h4) (fun q => kf q H locs ls h1 h2 h3 h4)
theorem fw_icmp_eq (X : fw_X p s m args c D A nL cc own Ts tys) {x y : Int32} {off : Int} {tgt : Nat} (hdg : decode cc pc = .ok (.if_icmp .eq off, 3)) (ht : (pc : Int) + off = (tgt : Int)) (kt : x = y → fw_W p l e R s m args below meth c D A nL Q ws cells slots lv tgt st) (kf : ¬ x = y → fw_W p l e R s m args below meth c D A nL Q ws cells slots lv (pc + 3) st) : fw_W p l e R s m args below meth c D A nL Q ws cells slots lv pc (.int y :: .int x :: st) := fun H locs ls h1 h2 h3 h4 => lv_icmp_eq X.1.1 X.1.2.1 hdg ht (fun q => kt q H locs ls h1 h2 h3 h4) (fun q => kf q H locs ls h1 h2 h3 h4)
theorem fw_if_ne (X : fw_X p s m args c D A nL cc own Ts tys) {x : Int32} {off : Int} {tgt : Nat} (hdg : decode cc pc = .ok (.ifCond .ne off, 3)) (ht : (pc : Int) + off = (tgt : Int)) (kt : ¬ x = 0 → fw_W p l e R s m args below meth c D A nL Q ws cells slots lv tgt st) (kf : x = 0 → fw_W p l e R s m args below meth c D A nL Q ws cells slots lv (pc + 3) st) : fw_W p l e R s m args below meth c D A nL Q ws cells slots lv pc (.int x :: st) := fun H locs ls h1 h2 h3 h4 => lv_if_ne X.1.1 X.1.2.1 hdg ht (fun q => kt q H locs ls h1 h2 h3 h4) (fun q => kf q H locs ls h1 h2 h3 h4)
theorem fw_icmp_ne (X : fw_X p s m args c D A nL cc own Ts tys) {x y : Int32} {off : Int} {tgt : Nat} (hdg : decode cc pc = .ok (.if_icmp .ne off, 3)) (ht : (pc : Int) + off = (tgt : Int)) (kt : ¬ x = y → fw_W p l e R s m args below meth c D A nL Q ws cells slots lv tgt st) (kf : x = y → fw_W p l e R s m args below meth c D A nL Q ws cells slots lv (pc + 3) st) : fw_W p l e R s m args below meth c D A nL Q ws cells slots lv pc (.int y :: .int x :: st) := fun H locs ls h1 h2 h3 h4 => lv_icmp_ne X.1.1 X.1.2.1 hdg ht (fun q => kt q H locs ls h1 h2 h3 h4) (fun q => kf q H locs ls h1 h2 h3 h4)
theorem fw_if_lt (X : fw_X p s m args c D A nL cc own Ts tys) {x : Int32} {off : Int} {tgt : Nat} (hdg : decode cc pc = .ok (.ifCond .lt off, 3)) (ht : (pc : Int) + off = (tgt : Int)) (kt : x < 0 → fw_W p l e R s m args below meth c D A nL Q ws cells slots lv tgt st) (kf : ¬ x < 0 → fw_W p l e R s m args below meth c D A nL Q ws cells slots lv (pc + 3) st) : fw_W p l e R s m args below meth c D A nL Q ws cells slots lv pc (.int x :: st) := fun H locs ls h1 h2 h3 h4 => lv_if_lt X.1.1 X.1.2.1 hdg ht (fun q => kt q H locs ls h1 h2 h3 h4) (fun q => kf q H locs ls h1 h2 h3 h4)
theorem fw_icmp_lt (X : fw_X p s m args c D A nL cc own Ts tys) {x y : Int32} {off : Int} {tgt : Nat} (hdg : decode cc pc = .ok (.if_icmp .lt off, 3)) (ht : (pc : Int) + off = (tgt : Int)) (kt : x < y → fw_W p l e R s m args below meth c D A nL Q ws cells slots lv tgt st) (kf : ¬ x < y → fw_W p l e R s m args below meth c D A nL Q ws cells slots lv (pc + 3) st) : fw_W p l e R s m args below meth c D A nL Q ws cells slots lv pc (.int y :: .int x :: st) := fun H locs ls h1 h2 h3 h4 => lv_icmp_lt X.1.1 X.1.2.1 hdg ht (fun q => kt q H locs ls h1 h2 h3 h4) (fun q => kf q H locs ls h1 h2 h3 h4)
theorem fw_if_ge (X : fw_X p s m args c D A nL cc own Ts tys) {x : Int32} {off : Int} {tgt : Nat} (hdg : decode cc pc = .ok (.ifCond .ge off, 3)) (ht : (pc : Int) + off = (tgt : Int)) (kt : 0 ≤ x → fw_W p l e R s m args below meth c D A nL Q ws cells slots lv tgt st) (kf : ¬ 0 ≤ x → fw_W p l e R s m args below meth c D A nL Q ws cells slots lv (pc + 3) st) : fw_W p l e R s m args below meth c D A nL Q ws cells slots lv pc (.int x :: st) := fun H locs ls h1 h2 h3 h4 => lv_if_ge X.1.1 X.1.2.1 hdg ht (fun q => kt q H locs ls h1 h2 h3 h4) (fun q => kf q H locs ls h1 h2 h3 h4)
theorem fw_icmp_ge (X : fw_X p s m args c D A nL cc own Ts tys) {x y : Int32} {off : Int} {tgt : Nat} (hdg : decode cc pc = .ok (.if_icmp .ge off, 3)) (ht : (pc : Int) + off = (tgt : Int)) (kt : y ≤ x → fw_W p l e R s m args below meth c D A nL Q ws cells slots lv tgt st) (kf : ¬ y ≤ x → fw_W p l e R s m args below meth c D A nL Q ws cells slots lv (pc + 3) st) : fw_W p l e R s m args below meth c D A nL Q ws cells slots lv pc (.int y :: .int x :: st) := fun H locs ls h1 h2 h3 h4 => lv_icmp_ge X.1.1 X.1.2.1 hdg ht (fun q => kt q H locs ls h1 h2 h3 h4) (fun q => kf q H locs ls h1 h2 h3 h4)
theorem fw_if_gt (X : fw_X p s m args c D A nL cc own Ts tys) {x : Int32} {off : Int} {tgt : Nat} (hdg : decode cc pc = .ok (.ifCond .gt off, 3)) (ht : (pc : Int) + off = (tgt : Int)) (kt : 0 < x → fw_W p l e R s m args below meth c D A nL Q ws cells slots lv tgt st) (kf : ¬ 0 < x → fw_W p l e R s m args below meth c D A nL Q ws cells slots lv (pc + 3) st) : fw_W p l e R s m args below meth c D A nL Q ws cells slots lv pc (.int x :: st) := fun H locs ls h1 h2 h3 h4 => lv_if_gt X.1.1 X.1.2.1 hdg ht (fun q => kt q H locs ls h1 h2 h3 h4) (fun q => kf q H locs ls h1 h2 h3 h4)
theorem fw_icmp_gt (X : fw_X p s m args c D A nL cc own Ts tys) {x y : Int32} {off : Int} {tgt : Nat} (hdg : decode cc pc = .ok (.if_icmp .gt off, 3)) (ht : (pc : Int) + off = (tgt : Int)) (kt : y < x → fw_W p l e R s m args below meth c D A nL Q ws cells slots lv tgt st) (kf : ¬ y < x → fw_W p l e R s m args below meth c D A nL Q ws cells slots lv (pc + 3) st) : fw_W p l e R s m args below meth c D A nL Q ws cells slots lv pc (.int y :: .int x :: st) := fun H locs ls h1 h2 h3 h4 => lv_icmp_gt X.1.1 X.1.2.1 hdg ht (fun q => kt q H locs ls h1 h2 h3 h4) (fun q => kf q H locs ls h1 h2 h3 h4)
theorem fw_if_le (X : fw_X p s m args c D A nL cc own Ts tys) {x : Int32} {off : Int} {tgt : Nat} (hdg : decode cc pc = .ok (.ifCond .le off, 3)) (ht : (pc : Int) + off = (tgt : Int)) (kt : x ≤ 0 → fw_W p l e R s m args below meth c D A nL Q ws cells slots lv tgt st) (kf : ¬ x ≤ 0 → fw_W p l e R s m args below meth c D A nL Q ws cells slots lv (pc + 3) st) : fw_W p l e R s m args below meth c D A nL Q ws cells slots lv pc (.int x :: st) := fun H locs ls h1 h2 h3 h4 => lv_if_le X.1.1 X.1.2.1 hdg ht (fun q => kt q H locs ls h1 h2 h3 h4) (fun q => kf q H locs ls h1 h2 h3 h4)
theorem fw_icmp_le (X : fw_X p s m args c D A nL cc own Ts tys) {x y : Int32} {off : Int} {tgt : Nat} (hdg : decode cc pc = .ok (.if_icmp .le off, 3)) (ht : (pc : Int) + off = (tgt : Int)) (kt : x ≤ y → fw_W p l e R s m args below meth c D A nL Q ws cells slots lv tgt st) (kf : ¬ x ≤ y → fw_W p l e R s m args below meth c D A nL Q ws cells slots lv (pc + 3) st) : fw_W p l e R s m args below meth c D A nL Q ws cells slots lv pc (.int y :: .int x :: st) := fun H locs ls h1 h2 h3 h4 => lv_icmp_le X.1.1 X.1.2.1 hdg ht (fun q => kt q H locs ls h1 h2 h3 h4) (fun q => kf q H locs ls h1 h2 h3 h4)
theorem fw_goto (X : fw_X p s m args c D A nL cc own Ts tys) {off : Int} {tgt : Nat} (hdg : decode cc pc = .ok (.goto off, 3)) (ht : (pc : Int) + off = (tgt : Int)) (k : fw_W p l e R s m args below meth c D A nL Q ws cells slots lv tgt st) : fw_W p l e R s m args below meth c D A nL Q ws cells slots lv pc st := fun H locs ls h1 h2 h3 h4 => lv_goto X.1.1 X.1.2.1 hdg ht (k H locs ls h1 h2 h3 h4)
theorem fw_ifnull (X : fw_X p s m args c D A nL cc own Ts tys) {x : Nat} {off : Int} (hdg : decode cc pc = .ok (.ifnull off, 3)) (k : fw_W p l e R s m args below meth c D A nL Q ws cells slots lv (pc + 3) st) : fw_W p l e R s m args below meth c D A nL Q ws cells slots lv pc (.ref x :: st) := fun H locs ls h1 h2 h3 h4 => lv_ifnull X.1.1 X.1.2.1 hdg (k H locs ls h1 h2 h3 h4)
theorem fw_ifnullN (X : fw_X p s m args c D A nL cc own Ts tys) {off : Int} {tgt : Nat} (hdg : decode cc pc = .ok (.ifnull off, 3)) (ht : (pc : Int) + off = (tgt : Int)) (k : fw_W p l e R s m args below meth c D A nL Q ws cells slots lv tgt st) : fw_W p l e R s m args below meth c D A nL Q ws cells slots lv pc (.null :: st) := fun H locs ls h1 h2 h3 h4 => lv_ifnullN X.1.1 X.1.2.1 hdg ht (k H locs ls h1 h2 h3 h4)
theorem fw_ifnonnull (X : fw_X p s m args c D A nL cc own Ts tys) {x : Nat} {off : Int} {tgt : Nat} (hdg : decode cc pc = .ok (.ifnonnull off, 3)) (ht : (pc : Int) + off = (tgt : Int)) (k : fw_W p l e R s m args below meth c D A nL Q ws cells slots lv tgt st) : fw_W p l e R s m args below meth c D A nL Q ws cells slots lv pc (.ref x :: st) := fun H locs ls h1 h2 h3 h4 => lv_ifnonnull X.1.1 X.1.2.1 hdg ht (k H locs ls h1 h2 h3 h4)
theorem fw_ifnonnullN (X : fw_X p s m args c D A nL cc own Ts tys) {off : Int} (hdg : decode cc pc = .ok (.ifnonnull off, 3)) (k : fw_W p l e R s m args below meth c D A nL Q ws cells slots lv (pc + 3) st) : fw_W p l e R s m args below meth c D A nL Q ws cells slots lv pc (.null :: st) := fun H locs ls h1 h2 h3 h4 => lv_ifnonnullN X.1.1 X.1.2.1 hdg (k H locs ls h1 h2 h3 h4)
theorem fw_get (X : fw_X p s m args c D A nL cc own Ts tys) {C : String} {T : u_T} {N ci index : Nat} (hin : ∀ w ∈ u_ws C T N, w ∈ Ts) (q0 : Nat) {a : Nat} {fs : List Value} (he : ws[q0]? = some (a, .inr (ci, fs))) (hc : vwCl[ci]? = some (C, T, N)) (k : Nat) (hk : k < N) (hlink : Cond.fieldLink own index (T k).1 (T k).2.1 (T k).2.2.1 ∈ Ts) {v : Value} (hv : fs[k]? = some v) (hdg : decode cc pc = .ok (.getfield index, 3))
    (kk : fw_W p l e R s m args below meth c D A nL Q ws cells slots lv (pc + 3) (v :: st)) : fw_W p l e R s m args below meth c D A nL Q ws cells slots lv pc (.ref a :: st) := fun H locs ls h1 h2 h3 h4 =>
  va_get X.1.1 X.1.2.1 X.1.2.2.2.2 hin X.1.2.2.2.1 X.2.1 h2 q0 he hc k hk (X.1.2.2.2.2 _ hlink) (fun _ h => h) hv hdg (kk H locs ls h1 h2 h3 h4)
theorem fw_put (X : fw_X p s m args c D A nL cc own Ts tys) {C : String} {T : u_T} {N ci index : Nat} (hin : ∀ w ∈ u_ws C T N, w ∈ Ts) (ty0 : Nat → FieldType) (hty : ∀ k, k < N → parseFieldDescriptor (T k).2.2.1 = some (ty0 k)) (hnm : ∀ a, a < N → ∀ b, b < N → a ≠ b → (T a).2.1 ≠ (T b).2.1) (q0 : Nat) {a : Nat} {fs : List Value} (he : ws[q0]? = some (a, .inr (ci, fs))) (hc : vwCl[ci]? = some (C, T, N)) (k : Nat) (hk : k < N) (hlink : Cond.fieldLink own index (T k).1 (T k).2.1 (T k).2.2.1 ∈ Ts) (hfin : (T k).2.2.2 = false) {v : Value} (hn : narrow (ty0 k) v = v) (hfit : fits (ty0 k) v = true) (hl : k < fs.length) (hdg : decode cc pc = .ok (.putfield index, 3)) {ws' : va_W} (hw : ws.set q0 (a, .inr (ci, fs.set k v)) = ws')
    (kk : fw_W p l e R s m args below meth c D A nL Q ws' cells slots lv (pc + 3) st) : fw_W p l e R s m args below meth c D A nL Q ws cells slots lv pc (v :: .ref a :: st) := fun H locs ls h1 h2 h3 h4 =>
  va_put X.1.1 X.1.2.1 X.1.2.2.2.2 hin ty0 hty hnm X.1.2.2.2.1 X.2.1 h2 h3 h4 q0 he hc k hk (X.1.2.2.2.2 _ hlink) (fun _ h => h) hfin (hty k hk) hn hfit hl hdg (fun H1 locs1 g2 g3 g4 => kk H1 locs1 ls h1 (hw ▸ g2) (hw ▸ g3) g4)
theorem fw_putF (X : fw_X p s m args c D A nL cc own Ts tys) {C : String} {T : u_T} {N ci index : Nat} (hin : ∀ w ∈ u_ws C T N, w ∈ Ts) (ty0 : Nat → FieldType) (hty : ∀ k, k < N → parseFieldDescriptor (T k).2.2.1 = some (ty0 k)) (hnm : ∀ a, a < N → ∀ b, b < N → a ≠ b → (T a).2.1 ≠ (T b).2.1) (q0 : Nat) {a : Nat} {fs : List Value} (he : ws[q0]? = some (a, .inr (ci, fs))) (hc : vwCl[ci]? = some (C, T, N)) (k : Nat) (hk : k < N) (hlink : Cond.fieldLink own index (T k).1 (T k).2.1 (T k).2.2.1 ∈ Ts) (hfin : (T k).2.2.2 = true) (hin2 : meth.name = "<init>") (hdecl : (T k).1 = own) {v : Value} (hn : narrow (ty0 k) v = v) (hfit : fits (ty0 k) v = true) (hl : k < fs.length) (hdg : decode cc pc = .ok (.putfield index, 3)) {ws' : va_W} (hw : ws.set q0 (a, .inr (ci, fs.set k v)) = ws')
    (kk : fw_W p l e R s m args below meth c D A nL Q ws' cells slots lv (pc + 3) st) : fw_W p l e R s m args below meth c D A nL Q ws cells slots lv pc (v :: .ref a :: st) := fun H locs ls h1 h2 h3 h4 =>
  va_putF X.1.1 X.1.2.1 X.1.2.2.2.2 hin ty0 hty hnm X.1.2.2.2.1 X.2.1 h2 h3 h4 q0 he hc k hk (X.1.2.2.2.2 _ hlink) (fun _ h => h) hfin hin2 hdecl (hty k hk) hn hfit hl hdg (fun H1 locs1 g2 g3 g4 => kk H1 locs1 ls h1 (hw ▸ g2) (hw ▸ g3) g4)
theorem fw_iald (X : fw_X p s m args c D A nL cc own Ts tys) (q0 t0 : Nat) {a n : Nat} {cA : ClassId} {f : Nat → Int32} (ha : ws[q0]? = some (a, .inl (cA, n, .inl f))) (ht : tys[t0]? = some (cA, .int)) (j : Nat) {x : Int32} (hx : x = nI j) (hj : j < n) (hn : n < 2 ^ 31) (hdg : decode cc pc = .ok (.iaload, 1)) (k : fw_W p l e R s m args below meth c D A nL Q ws cells slots lv (pc + 1) (.int (f j) :: st)) : fw_W p l e R s m args below meth c D A nL Q ws cells slots lv pc (.int x :: .ref a :: st) := fun H locs ls h1 h2 h3 h4 => by
  subst hx
  have k2 := k H locs ls h1 h2 h3 h4
  rw [← nI_clamp (Nat.lt_trans hj hn)] at k2
  exact va_iald X.1.1 X.1.2.1 X.2.1 h2 q0 t0 ha ht (vp_in_nI hj hn) hdg k2
theorem fw_zald (X : fw_X p s m args c D A nL cc own Ts tys) (q0 t0 : Nat) {a n : Nat} {cA : ClassId} {f : Nat → Int32} (ha : ws[q0]? = some (a, .inl (cA, n, .inl f))) (ht : tys[t0]? = some (cA, .boolean)) (j : Nat) {x : Int32} (hx : x = nI j) (hj : j < n) (hn : n < 2 ^ 31) (hdg : decode cc pc = .ok (.baload, 1)) (k : fw_W p l e R s m args below meth c D A nL Q ws cells slots lv (pc + 1) (.int (f j) :: st)) : fw_W p l e R s m args below meth c D A nL Q ws cells slots lv pc (.int x :: .ref a :: st) := fun H locs ls h1 h2 h3 h4 => by
  subst hx
  have k2 := k H locs ls h1 h2 h3 h4
  rw [← nI_clamp (Nat.lt_trans hj hn)] at k2
  exact va_zald X.1.1 X.1.2.1 X.2.1 h2 q0 t0 ha ht (vp_in_nI hj hn) hdg k2
theorem fw_iast (X : fw_X p s m args c D A nL cc own Ts tys) (q0 t0 : Nat) {a n : Nat} {cA : ClassId} {f : Nat → Int32} (ha : ws[q0]? = some (a, .inl (cA, n, .inl f))) (ht : tys[t0]? = some (cA, .int)) (j : Nat) {x y : Int32} (hx : x = nI j) (hj : j < n) (hn : n < 2 ^ 31) (hdg : decode cc pc = .ok (.iastore, 1)) {ws' : va_W} (hw : ws.set q0 (a, .inl (cA, n, .inl (upd f j y))) = ws') (k : fw_W p l e R s m args below meth c D A nL Q ws' cells slots lv (pc + 1) st) : fw_W p l e R s m args below meth c D A nL Q ws cells slots lv pc (.int y :: .int x :: .ref a :: st) := fun H locs ls h1 h2 h3 h4 => by
  subst hx
  have e : (nI j).toNatClampNeg = j := nI_clamp (Nat.lt_trans hj hn)
  refine va_iast X.1.1 X.1.2.1 X.2.1 h2 h3 h4 q0 t0 ha ht (vp_in_nI hj hn) hdg (fun H1 locs1 g2 g3 g4 => ?_)
  rw [e] at g2 g3
  exact k H1 locs1 ls h1 (hw ▸ g2) (hw ▸ g3) g4
theorem fw_zast (X : fw_X p s m args c D A nL cc own Ts tys) (q0 t0 : Nat) {a n : Nat} {cA : ClassId} {f : Nat → Int32} (ha : ws[q0]? = some (a, .inl (cA, n, .inl f))) (ht : tys[t0]? = some (cA, .boolean)) (j : Nat) {x y : Int32} (hx : x = nI j) (hj : j < n) (hn : n < 2 ^ 31) (hv : vp_nar .boolean y = y) (hdg : decode cc pc = .ok (.bastore, 1)) {ws' : va_W} (hw : ws.set q0 (a, .inl (cA, n, .inl (upd f j y))) = ws') (k : fw_W p l e R s m args below meth c D A nL Q ws' cells slots lv (pc + 1) st) : fw_W p l e R s m args below meth c D A nL Q ws cells slots lv pc (.int y :: .int x :: .ref a :: st) := fun H locs ls h1 h2 h3 h4 => by
  subst hx
  have e : (nI j).toNatClampNeg = j := nI_clamp (Nat.lt_trans hj hn)
  refine va_zast X.1.1 X.1.2.1 X.2.1 h2 h3 h4 q0 t0 ha ht (vp_in_nI hj hn) hdg (fun H1 locs1 g2 g3 g4 => ?_)
  rw [e, hv] at g2 g3
  exact k H1 locs1 ls h1 (hw ▸ g2) (hw ▸ g3) g4
theorem fw_lald (X : fw_X p s m args c D A nL cc own Ts tys) (q0 t0 : Nat) {a n : Nat} {cA : ClassId} {f : Nat → Int64} (ha : ws[q0]? = some (a, .inl (cA, n, .inr (.inl f)))) (ht : tys[t0]? = some (cA, .long)) (j : Nat) {x : Int32} (hx : x = nI j) (hj : j < n) (hn : n < 2 ^ 31) (hdg : decode cc pc = .ok (.laload, 1)) (k : fw_W p l e R s m args below meth c D A nL Q ws cells slots lv (pc + 1) (.long (f j) :: st)) : fw_W p l e R s m args below meth c D A nL Q ws cells slots lv pc (.int x :: .ref a :: st) := fun H locs ls h1 h2 h3 h4 => by
  subst hx
  have k2 := k H locs ls h1 h2 h3 h4
  rw [← nI_clamp (Nat.lt_trans hj hn)] at k2
  exact va_lald X.1.1 X.1.2.1 X.2.1 h2 q0 t0 ha ht (vp_in_nI hj hn) hdg k2
theorem fw_aldq (X : fw_X p s m args c D A nL cc own Ts tys) {C : String} (q0 t0 : Nat) {a n : Nat} {cA : ClassId} {f : Nat → Option Nat} (ha : ws[q0]? = some (a, .inl (cA, n, .inr (.inr (.inr (.inr f)))))) (ht : tys[t0]? = some (cA, .object C)) (j : Nat) {x : Int32} (hx : x = nI j) (hj : j < n) (hn : n < 2 ^ 31) (hdg : decode cc pc = .ok (.aaload, 1)) (k : fw_W p l e R s m args below meth c D A nL Q ws cells slots lv (pc + 1) (va_rf (f j) :: st)) : fw_W p l e R s m args below meth c D A nL Q ws cells slots lv pc (.int x :: .ref a :: st) := fun H locs ls h1 h2 h3 h4 => by
  subst hx
  have k2 := k H locs ls h1 h2 h3 h4
  rw [← nI_clamp (Nat.lt_trans hj hn)] at k2
  exact va_aldq X.1.1 X.1.2.1 X.2.1 h2 q0 t0 ha ht (vp_in_nI hj hn) hdg k2
theorem fw_alen (X : fw_X p s m args c D A nL cc own Ts tys) (q0 t0 : Nat) {a : Nat} {cA : ClassId} {x : vp_A} (ha : ws[q0]? = some (a, .inl (cA, x))) {ty : FieldType} (ht : tys[t0]? = some (cA, ty)) {v : Int32} (hv : nI x.1 = v) (hdg : decode cc pc = .ok (.arraylength, 1)) (k : fw_W p l e R s m args below meth c D A nL Q ws cells slots lv (pc + 1) (.int v :: st)) : fw_W p l e R s m args below meth c D A nL Q ws cells slots lv pc (.ref a :: st) := fun H locs ls h1 h2 h3 h4 =>
  va_alen X.1.1 X.1.2.1 X.2.1 h2 q0 t0 ha ht hv hdg (k H locs ls h1 h2 h3 h4)
theorem fw_last (X : fw_X p s m args c D A nL cc own Ts tys) (q0 t0 : Nat) {a n : Nat} {cA : ClassId} {f : Nat → Int64} (ha : ws[q0]? = some (a, .inl (cA, n, .inr (.inl f)))) (ht : tys[t0]? = some (cA, .long)) (j : Nat) {x : Int32} {y : Int64} (hx : x = nI j) (hj : j < n) (hn : n < 2 ^ 31) (hdg : decode cc pc = .ok (.lastore, 1)) {ws' : va_W} (hw : ws.set q0 (a, .inl (cA, n, .inr (.inl (vp_updL f j y)))) = ws') (k : fw_W p l e R s m args below meth c D A nL Q ws' cells slots lv (pc + 1) st) : fw_W p l e R s m args below meth c D A nL Q ws cells slots lv pc (.long y :: .int x :: .ref a :: st) := fun H locs ls h1 h2 h3 h4 => by
  subst hx
  have e : (nI j).toNatClampNeg = j := nI_clamp (Nat.lt_trans hj hn)
  refine va_last X.1.1 X.1.2.1 X.2.1 h2 h3 h4 q0 t0 ha ht (vp_in_nI hj hn) hdg (fun H1 locs1 g2 g3 g4 => ?_)
  rw [e] at g2 g3
  exact k H1 locs1 ls h1 (hw ▸ g2) (hw ▸ g3) g4
theorem fw_astq (X : fw_X p s m args c D A nL cc own Ts tys) {C : String} {T : u_T} {N : Nat} (q0 t0 qk ci : Nat) {a n v : Nat} {cA : ClassId} {vs : List Value} {f : Nat → Option Nat} (ha : ws[q0]? = some (a, .inl (cA, n, .inr (.inr (.inr (.inr f)))))) (ht : tys[t0]? = some (cA, .object C)) (hv : ws[qk]? = some (v, .inr (ci, vs))) (hc : vwCl[ci]? = some (C, T, N)) (j : Nat) {x : Int32} (hx : x = nI j) (hj : j < n) (hn : n < 2 ^ 31) (hdg : decode cc pc = .ok (.aastore, 1)) {ws' : va_W} (hw : ws.set q0 (a, .inl (cA, n, .inr (.inr (.inr (.inr (va_up f j (some v))))))) = ws') (k : fw_W p l e R s m args below meth c D A nL Q ws' cells slots lv (pc + 1) st) : fw_W p l e R s m args below meth c D A nL Q ws cells slots lv pc (.ref v :: .int x :: .ref a :: st) := fun H locs ls h1 h2 h3 h4 => by
  subst hx
  have e : (nI j).toNatClampNeg = j := nI_clamp (Nat.lt_trans hj hn)
  refine va_astq (r := (C, T, N)) X.1.1 X.1.2.1 X.2.1 h2 h3 h4 q0 t0 qk ci ha ht hv hc (vp_in_nI hj hn) hdg (fun H1 locs1 g2 g3 g4 => ?_)
  rw [e] at g2 g3
  exact k H1 locs1 ls h1 (hw ▸ g2) (hw ▸ g3) g4
end FW
end
section
section FC
variable {p : Program} {l : Launch} {e : Env} {R : Room} {s : State} {m : MethodId} {args : Array Value} {below : List Frame} {meth : Method} {c : Code}
variable {D : va_G} {A : Nat → Prop} {nL : Nat} {Q : State → Prop} {ws : va_W} {cells slots : Nat} {lv : List (Nat × Value)} {pc : Nat} {st : List Value}
variable {cc : ByteArray} {own : String} {Ts : List Cond} {tys : List (ClassId × FieldType)}
/-- a world behind a method -/
def fw_B (D : va_G) (tys : List (ClassId × FieldType)) (A : Nat → Prop) (ws : va_W) (t : State) : Prop := va_P D vwCl ws t.heap ∧ va_K D vwCl tys t ∧ va_D A ws
def fw_S : List (Nat × String) := [(167, "a parameter is out of range"), (111, "the consignment is under way"), (70, "no more consignments can be announced"), (82, "the consignment is not under way"), (117, "the consignment is not at the door"), (144, "both stores are the same"), (62, "more than that is held"), (164, "there is no such consignment"), (169, "there is less of the sort in the store"), (95, "the manifest has nothing"), (128, "the consignment has to be searched"), (87, "the manifest says so already"), (136, "the guarantee does not reach")]
def fw_IA : String := "java/lang/IllegalArgumentException"
def fw_IS : String := "java/lang/IllegalStateException"
def fw_IO : String := "java/lang/IndexOutOfBoundsException"
def fw_anc : List String := ["java/lang/RuntimeException", "java/lang/Exception", Bundle.tN]
/-- what a method that throws needs of the machine's own statics, texts and tables (b: whether it throws) -/
def fw_E (b : Bool) (A : Nat → Prop) (U : State) : Prop := b = true →
  vx_Zq Bundle.tN "UNASSIGNED_STACK" Bundle.steD A U U.heap ∧ vx_Zq Bundle.tN "SUPPRESSED_SENTINEL" Bundle.listD A U U.heap ∧ (∀ q ∈ fw_S, ∃ a, vk_R RX1 q.1 q.2 a U) ∧ (∀ C ∈ [fw_IA, fw_IS, fw_IO], va_Nw (.castable C C) U) ∧ (∀ C ∈ fw_anc, va_Nw (.declares (Bundle.initS C)) U) ∧ va_Nw (.methodLinkNest RX0 50 yX1_placeOf RX1) U
theorem fw_E_call {b b' : Bool} {A B : Nat → Prop} {s U : State} {H : Heap} {locs : List Loc} (hb : b' = true → b = true) (h : fw_E b A s) (hS : va_S A s.heap H locs) (hU : U.heap = H) (hW : s.WarmedH U.vm) (hAB : ∀ q, B q → A q) : fw_E b' B U := fun hb' => by
  obtain ⟨h1, h2, h3, h4, h6, h5⟩ := h (hb hb')
  refine ⟨?_, ?_, fun q hq => (h3 q hq).imp fun a ha => vk_R.warm hW ha, fun C hC => va_Nw.warmC hW (h4 C hC), fun C hC => va_Nw.warmD hW (h6 C hC), va_Nw.warmM hW h5⟩
  · rw [hU]; exact vx_Zq.moved hW.alike ((h1.kept hS.2.1).narrow hAB)
  · rw [hU]; exact vx_Zq.moved hW.alike ((h2.kept hS.2.1).narrow hAB)
theorem fw_E_blind {b : Bool} {A : Nat → Prop} {U : State} {g : JFrame} {mk : MethodId} {a : Array Value} (h : fw_E b A U) : fw_E b A (U.calling g mk a) := fun hb => by
  obtain ⟨h1, h2, h3, h4, h6, h5⟩ := h hb
  refine ⟨vx_Zq.moved (u := U) (U := U.calling g mk a) (Vm.Alike.refl U.vm) h1, vx_Zq.moved (u := U) (U := U.calling g mk a) (Vm.Alike.refl U.vm) h2, fun q hq => (h3 q hq).imp fun a ha => vk_R.same rfl ha, fun C hC => va_Nw.same rfl rfl (h4 C hC), fun C hC => va_Nw.same rfl rfl (h6 C hC), va_Nw.same rfl rfl h5⟩
def fw_Pre (b : Bool) (D : va_G) (tys : List (ClassId × FieldType)) (ws : va_W) (sz : Nat) (U : State) : Prop := U.heap.size = sz ∧ va_P D vwCl ws U.heap ∧ va_K D vwCl tys U ∧ va_D (fun _ => True) ws ∧ fw_E b (va_A ws sz) U
def fw_Q {S : Type} (D : va_G) (tys : List (ClassId × FieldType)) (A : Nat → Prop) (post : Option Value → S → Prop) (WS : S → va_W) : Array Value → State → Outcome → State → Prop := fun _ st oc t => (∃ (r : Option Value) (u : S), oc = .returned r ∧ post r u ∧ fw_B D tys A (WS u) t) ∧ va_F A st t
def fw_XC (D : va_G) (tys : List (ClassId × FieldType)) (A : Nat → Prop) (PX : String → Prop) (ws : va_W) : String → State → State → Prop := fun E st t => PX E ∧ fw_B D tys A ws t ∧ va_F A st t
/-- THE CONTRACT: from the world ws, with the arguments av: it returns r with post r u and the world WS u, or throws a class with PX and the world is as before -/
def fw_C {S : Type} (l : Launch) (y : MethodName) (wy : List Cond) (rm : Room) (mc ms : Nat) (b : Bool) (av : List Value) (D : va_G) (tys : List (ClassId × FieldType)) (ws : va_W) (post : Option Value → S → Prop) (WS : S → va_W) (PX : String → Prop) : Prop :=
  ∀ sz : Nat, vx_Met l y wy rm (va_Pc av (fw_Pre b D tys ws sz)) (fw_Q D tys (va_A ws sz) post WS) (fw_XC D tys (va_A ws sz) PX ws) mc ms (va_A ws sz)
theorem fw_blind {av : List Value} {b : Bool} {sz : Nat} : FrameBlind (va_Pc av (fw_Pre b D tys ws sz)) := fun a U g mk q => by
  obtain ⟨q0, q1, qP, qK, qD, qE⟩ := q
  exact ⟨q0, q1, qP, va_K.moved (u := U) (U := U.calling g mk a) (Vm.Alike.refl U.vm) qK, qD, fw_E_blind qE⟩
/-- a method's entry -/
theorem fw_met {S : Type} {y : MethodName} {wy wy' : List Cond} {rm : Room} {mc ms : Nat} {b : Bool} {av : List Value} {post : Option Value → S → Prop} {WS : S → va_W} {PX : String → Prop} {maxL : Nat} {ret : Option FieldType} (hy : plainName y.cls = true) (hw : wy = Cond.code y cc maxL ret :: wy') (hsl : (lg_sl av).length ≤ maxL)
    (body : ∀ (p : Program) (e : Env) (s : State) (m : MethodId) (args : Array Value) (below : List Frame) (meth : Method) (c : Code) (A : Nat → Prop), fw_X p s m args c D A maxL cc y.cls wy tys → meth.sig.returnType = ret → meth.locks = false → meth.name = y.name → (∀ x ∈ c.exceptionTable.toList, False) → fw_E b A s →
      fw_W p l e rm s m args below meth c D A maxL (vx_MQ below (fw_Q D tys A post WS) (fw_XC D tys A PX ws) args s mc ms A) ws 0 0 (lv_args 0 av) 0 []) : fw_C l y wy rm mc ms b av D tys ws post WS PX := by
  intro sz
  refine vx_ofW (cc := cc) (maxL := maxL) (ret := ret) hy hw ?_
  intro p e s m args below meth c s₁ B hml htab hv
  obtain ⟨rfl, hsz, hP, hK, hD0, hE⟩ := hv
  have hts := atoms_spec (ws := wy) B.pre
  have hown : s.vm.findClass y.cls = some m.cls := findClass_of_methodNamed B.named
  have hA : ∀ q, s.heap.size ≤ q → va_A ws sz q := fun q h => Or.inr (by rw [← hsz]; exact h)
  have hl := lv_entry av (n := maxL) hsl
  have K := body p e s m av.toArray below meth c (va_A ws sz) ⟨⟨B.exec, B.bytes, hml, hown, hts⟩, hK, hA⟩ B.returns B.notSynchronized (name_of_methodNamed B.named B.method).1 htab hE
  rw [lg_entry_eq]
  exact K s.heap [] _ hl hP hD0.self va_S.rf
section Ends
variable {S : Type} {post : Option Value → S → Prop} {WS : S → va_W} {XC : String → State → State → Prop} {mc ms : Nat}
theorem fw_iret {v : Int32} (X : fw_X p s m args c D A nL cc own Ts tys) (hr : meth.sig.returnType = some .int) (hlk : meth.locks = false) (hc : cells ≤ mc) (hs : slots ≤ ms) (hdg : decode cc pc = .ok (.ireturn, 1)) (u : S) (hp : post (some (.int v)) u) (hw : ws = WS u) :
    fw_W p l e R s m args below meth c D A nL (vx_MQ below (fw_Q D tys A post WS) XC args s mc ms A) ws cells slots lv pc [.int v] := fun H locs ls h1 h2 h3 h4 =>
  W.widen hc hs (vx_ret (W.iret X.1.1 X.1.2.1 hr (fun t ht hW => ⟨⟨_, u, rfl, hp, by rw [ht, ← hw]; exact h2, va_K.moved hW.alike X.2.1, hw ▸ h3⟩, h4.F ht⟩) h4.2.2 hdg hlk))
theorem fw_zret {v : Int32} (X : fw_X p s m args c D A nL cc own Ts tys) (hr : meth.sig.returnType = some .boolean) (hn : narrow .boolean (.int v) = .int v) (hlk : meth.locks = false) (hc : cells ≤ mc) (hs : slots ≤ ms) (hdg : decode cc pc = .ok (.ireturn, 1)) (u : S) (hp : post (some (.int v)) u) (hw : ws = WS u) :
    fw_W p l e R s m args below meth c D A nL (vx_MQ below (fw_Q D tys A post WS) XC args s mc ms A) ws cells slots lv pc [.int v] := fun H locs ls h1 h2 h3 h4 =>
  W.widen hc hs (vx_ret (W.zret X.1.1 X.1.2.1 hr hn (fun t ht hW => ⟨⟨_, u, rfl, hp, by rw [ht, ← hw]; exact h2, va_K.moved hW.alike X.2.1, hw ▸ h3⟩, h4.F ht⟩) h4.2.2 hdg hlk))
theorem fw_vret (X : fw_X p s m args c D A nL cc own Ts tys) (hr : meth.sig.returnType = none) (hlk : meth.locks = false) (hc : cells ≤ mc) (hs : slots ≤ ms) (hdg : decode cc pc = .ok (.return_, 1)) (u : S) (hp : post none u) (hw : ws = WS u) :
    fw_W p l e R s m args below meth c D A nL (vx_MQ below (fw_Q D tys A post WS) XC args s mc ms A) ws cells slots lv pc [] := fun H locs ls h1 h2 h3 h4 =>
  W.widen hc hs (vx_ret (W.vret X.1.1 X.1.2.1 hr (fun t ht hW => ⟨⟨_, u, rfl, hp, by rw [ht, ← hw]; exact h2, va_K.moved hW.alike X.2.1, hw ▸ h3⟩, h4.F ht⟩) h4.2.2 hdg hlk))
theorem fw_aret {v : Nat} {C : String} (X : fw_X p s m args c D A nL cc own Ts tys) (hr : meth.sig.returnType = some (.object C)) (hlk : meth.locks = false) (hc : cells ≤ mc) (hs : slots ≤ ms) (hdg : decode cc pc = .ok (.areturn, 1)) (u : S) (hp : post (some (.ref v)) u) (hw : ws = WS u) :
    fw_W p l e R s m args below meth c D A nL (vx_MQ below (fw_Q D tys A post WS) XC args s mc ms A) ws cells slots lv pc [.ref v] := fun H locs ls h1 h2 h3 h4 =>
  W.widen hc hs (vx_ret (W.aret X.1.1 X.1.2.1 hr (Or.inl ⟨_, rfl⟩) (Or.inr ⟨_, rfl⟩) (fun t ht hW => ⟨⟨_, u, rfl, hp, by rw [ht, ← hw]; exact h2, va_K.moved hW.alike X.2.1, hw ▸ h3⟩, h4.F ht⟩) h4.2.2 hdg hlk))
/-- an exception of a callee goes on to the caller -/
theorem fw_out {Qc : Array Value → State → Outcome → State → Prop} {PX : String → Prop} {ws0 : va_W} {E : String} (X : fw_X p s m args c D A nL cc own Ts tys) (htab : ∀ x ∈ c.exceptionTable.toList, False) (hlk : meth.locks = false) (hc : cells ≤ mc) (hs : slots ≤ ms) (hp : PX E) (hw : ws = ws0) :
    fw_V p l e R s m args below meth c D A nL (vx_MQ below Qc (fw_XC D tys A PX ws0) args s mc ms A) ws cells slots lv pc st E := fun H locs ls ce q h1 h2 h3 h4 g1 g2 g3 =>
  vx_out (fun x hx => (htab x hx).elim) hlk g1 g2 g3 (fun t ht hW => ⟨hp, ⟨by rw [ht, ← hw]; exact h2, va_K.moved hW X.2.1, hw ▸ h3⟩, h4.F ht⟩) h4.2.2 hc hs
end Ends
theorem fw_free (X : fw_X p s m args c D A nL cc own Ts tys) {H : Heap} {locs : List Loc} (h3 : va_D A ws) (h4 : va_S A s.heap H locs) : ∀ q, va_A ws H.size q → A q := fun q h => by
  rcases h with ⟨k, e, h⟩ | h
  · exact h3.2 k (q, e) h
  · exact X.2.2 q (Nat.le_trans h4.1 h)
/-- a call, its world the whole one -/
theorem fw_run {S : Type} {post : Option Value → S → Prop} {WS : S → va_W} {PX : String → Prop} {mc ms : Nat} {av : Array Value} {stk : List Value} (X : fw_X p s m args c D A nL cc own Ts tys)
    (hr : ∀ (H : Heap) (locs : List Loc) (ls : Array Slot), lv_has ls nL lv → va_P D vwCl ws H → va_D A ws → va_S A s.heap H locs → vx_Run p l e R s m args below meth c H locs cells slots mc ms (F0 m pc ls stk) st (fw_Q D tys (va_A ws H.size) post WS av) (fw_XC D tys (va_A ws H.size) PX ws) (va_A ws H.size))
    (kx : ∀ E, PX E → fw_V p l e R s m args below meth c D A nL Q ws (cells + mc) (slots + ms) lv pc st E)
    (kk : ∀ (r : Option Value) (u : S), post r u → fw_W p l e R s m args below meth c D A nL Q (WS u) (cells + mc) (slots + ms) lv (pc + 3) (r.toList ++ st)) :
    fw_W p l e R s m args below meth c D A nL Q ws cells slots lv pc stk := fun H locs ls h1 h2 h3 h4 T hT X0 => by
  have hf := fw_free X h3 h4
  rcases hr H locs ls h1 h2 h3 h4 T hT X0 with ⟨v, st₀, t, T', L, h0, X', hL, e1, e2, ⟨⟨r, u, hv, hp, hb⟩, hF⟩, go⟩ | ⟨q, st₀, t, T', L, E, ce, h0, X', hL, e1, e2, ⟨hp, hb, hF⟩, hce, hcv, hcl, go⟩
  · cases hv
    obtain ⟨k1, k2, k3⟩ := vx_keep h0 e1 h4 (fun q _ h => hf q h) hf hL hF
    obtain ⟨t2, a1, b1⟩ := kk v u hp T'.heap (locs ++ L) ls h1 (by rw [e1]; exact hb.1) (hb.2.2.weaken (fun k q _ h => hf q.1 h)) k3 T' rfl X'
    exact ⟨t2, go t2 a1, b1⟩
  · obtain ⟨k1, k2, k3⟩ := vx_keep h0 e1 h4 (fun q _ h => hf q h) hf hL hF
    obtain ⟨t2, a1, b1⟩ := kx E hp T'.heap (locs ++ L) ls ce q h1 (by rw [e1]; exact hb.1) (hb.2.2.weaken (fun k q _ h => hf q.1 h)) k3 (by rw [e1]; exact hce) hcv hcl T' rfl X'
    exact ⟨t2, go.trans a1, b1⟩
section Calls
variable {S : Type} {y : MethodName} {bytes : ByteArray} {maxL n index : Nat} {ret : Option FieldType} {wy wy' : List Cond} {rm : Room} {mc ms : Nat} {b b' : Bool} {post : Option Value → S → Prop} {WS : S → va_W} {PX : String → Prop} {stk : List Value}
abbrev fw_dsc (y : MethodName) (n : Nat) : Prop := y.cls ≠ "java/lang/invoke/MethodHandle" ∧ y.cls ≠ "java/lang/invoke/VarHandle" ∧ (parseMethodDescriptor y.desc).map (fun d => d.parameters.length) = some n
theorem fw_callS (X : fw_X p s m args c D A nL cc own Ts tys) (hE : fw_E b A s) (As : List Value) (hM : fw_C l y wy rm mc ms b' As D tys ws post WS PX) (hb : b' = true → b = true) (hG : GoodIn Ts (va_wsS own index y wy)) (hw : wy = Cond.code y bytes maxL ret :: wy') (hrc : rm.cells = mc ∧ rm.slots = ms) (hd : fw_dsc y n) (hR : rm.frames + 1 ≤ R.frames ∧ 8 + (maxL + 11) + rm.locals ≤ R.locals)
    (hn : As.length = n) (hstk : stk = As.reverse ++ st) (hcat : (st.map fun v => v.category).sum ≤ 8) (hdg : decode cc pc = .ok (.invokestatic index, 3)) (hf : cells + mc ≤ R.cells ∧ slots + ms ≤ R.slots)
    (kx : ∀ E, PX E → fw_V p l e R s m args below meth c D A nL Q ws (cells + mc) (slots + ms) lv pc st E)
    (kk : ∀ (r : Option Value) (u : S), post r u → fw_W p l e R s m args below meth c D A nL Q (WS u) (cells + mc) (slots + ms) lv (pc + 3) (r.toList ++ st)) :
    fw_W p l e R s m args below meth c D A nL Q ws cells slots lv pc stk :=
  fw_run X (fun H locs ls h1 h2 h3 h4 => vx_runS X.1 (hM H.size) (va_cwS n X.1.2.2.2.2 hG hw hrc.1 hrc.2 hd hR) ⟨fw_blind, fun U hU hW => ⟨rfl, by rw [hU], by rw [hU]; exact h2, va_K.moved hW.alike X.2.1, h3.weaken (fun _ _ _ _ => trivial), fw_E_call hb hE h4 hU hW (fw_free X h3 h4)⟩⟩ rfl hn h1.1 hstk (lv_room hcat) hdg hf) kx kk
theorem fw_callV {C : vw_C} {ci q0 b0 : Nat} {fs : List Value} (X : fw_X p s m args c D A nL cc own Ts tys) (hE : fw_E b A s) (As : List Value) (hM : fw_C l y wy rm mc ms b' (.ref b0 :: As) D tys ws post WS PX) (hb : b' = true → b = true) (hG : GoodIn Ts (wsV own index C.1 y wy)) (hw : wy = Cond.code y bytes maxL ret :: wy') (hrc : rm.cells = mc ∧ rm.slots = ms) (hd : y.cls = C.1 ∧ fw_dsc y n) (hR : rm.frames + 1 ≤ R.frames ∧ 8 + (maxL + 11) + rm.locals ≤ R.locals)
    (hc : vwCl[ci]? = some C) (he : ws[q0]? = some (b0, .inr (ci, fs)))
    (hn : As.length = n) (hstk : stk = As.reverse ++ .ref b0 :: st) (hcat : (st.map fun v => v.category).sum ≤ 8) (hdg : decode cc pc = .ok (.invokevirtual index, 3)) (hf : cells + mc ≤ R.cells ∧ slots + ms ≤ R.slots)
    (kx : ∀ E, PX E → fw_V p l e R s m args below meth c D A nL Q ws (cells + mc) (slots + ms) lv pc st E)
    (kk : ∀ (r : Option Value) (u : S), post r u → fw_W p l e R s m args below meth c D A nL Q (WS u) (cells + mc) (slots + ms) lv (pc + 3) (r.toList ++ st)) :
    fw_W p l e R s m args below meth c D A nL Q ws cells slots lv pc stk :=
  fw_run X (fun H locs ls h1 h2 h3 h4 => vx_runV X.1 (hM H.size) (cwV n X.1.2.2.2.2 hG hw hrc.1 hrc.2 hd hR) ⟨fw_blind, va_recv X.2.1 h2 hc he, fun U hU hW => ⟨rfl, by rw [hU], by rw [hU]; exact h2, va_K.moved hW.alike X.2.1, h3.weaken (fun _ _ _ _ => trivial), fw_E_call hb hE h4 hU hW (fw_free X h3 h4)⟩⟩ rfl hn h1.1 hstk (lv_room hcat) hdg hf) kx kk
end Calls
section Throws
variable {Qc : Array Value → State → Outcome → State → Prop} {PX : String → Prop} {ws0 : va_W} {mc ms : Nat}
abbrev fw_chn : List String := ["java/lang/RuntimeException", "java/lang/Exception"]
theorem fw_chn_fit : ∀ n ∈ fw_chn, Bundle.fit n = true := by decide +kernel
theorem fw_throw (X : fw_X p s m args c D A nL cc RX1 Ts tys) (hE : fw_E true A s) (hl : l.stackTraces = false) {ik is ic : Nat} {cls text : String} (hfit : Bundle.fit cls = true) (hgood : ∀ w ∈ Cond.classLink RX1 ik cls :: Cond.initialized cls :: vx_atS RX1 ic cls fw_chn, vx_ot w = true) (hbad : ∀ w ∈ (vx_atS RX1 ic cls fw_chn).filter (fun w => !goodWord w), w ∈ Cond.castable cls cls :: fw_anc.map (fun C => Cond.declares (Bundle.initS C)))
    (hcls : cls ∈ [fw_IA, fw_IS, fw_IO]) (hin : (is, text) ∈ fw_S) (hk : Cond.classLink RX1 ik cls ∈ Ts) (hini : Cond.initialized cls ∈ Ts) (hat : ∀ w ∈ (vx_atS RX1 ic cls fw_chn).filter goodWord, w ∈ Ts)
    (d0 : decode cc pc = .ok (.new ik, 3)) (d3 : decode cc (pc + 3) = .ok (.dup, 1)) (d4 : decode cc (pc + 4) = .ok (.ldc is, 2)) (d6 : decode cc (pc + 6) = .ok (.invokespecial ic, 3)) (d9 : decode cc (pc + 9) = .ok (.athrow, 1))
    (hR : 5 < R.frames ∧ (st.map fun v => v.category).sum + 82 ≤ R.locals ∧ cells + 1 ≤ R.cells ∧ slots + 6 ≤ R.slots) (htab : ∀ x ∈ c.exceptionTable.toList, False) (hlk : meth.locks = false) (hp : PX cls) (hc : cells + 1 ≤ mc) (hs : slots + 6 ≤ ms) (hw : ws = ws0) :
    fw_W p l e R s m args below meth c D A nL (vx_MQ below Qc (fw_XC D tys A PX ws0) args s mc ms A) ws cells slots lv pc st := fun H locs ls h1 h2 h3 h4 => by
  obtain ⟨e1, e2, e3, e4, e5, -⟩ := hE rfl
  obtain ⟨sa, hsa⟩ := e3 _ hin
  have hts := X.1.2.2.2.2
  exact vx_throwS (names := fw_chn) X.1.1 X.1.2.1 hl X.1.2.2.2.1 hfit fw_chn_fit (hts _ hk) (hts _ hini) hsa (vx_hat (fun w hw => hts w (hat w hw)) hbad (vx_c (va_Nw.use rfl (e4 cls hcls)) (fun w hw => by obtain ⟨C, hC, rfl⟩ := List.mem_map.mp hw; exact va_Nw.use rfl (e5 C hC)))) hgood e1 e2 h4 (h1.1.trans X.1.2.2.1.symm) d0 d3 d4 d6 d9 (fun x hx => (htab x hx).elim) hR.1 hR.2.1 hR.2.2.1 hR.2.2.2 hlk
    (fun t hW g1 g2 => ⟨hp, ⟨by rw [← hw]; exact h2.kept (fun k q hk => g2 q.1 (h2 k q hk).lt), va_K.moved hW X.2.1, hw ▸ h3⟩, ⟨Nat.le_trans h4.1 g1, fun q g3 g4 => by rw [g2 q (Nat.lt_of_lt_of_le g3 h4.1)]; exact h4.2.1 q g3 g4⟩⟩) h4.2.2 hc hs
theorem fw_good_IA : ∀ w ∈ Cond.classLink RX1 142 fw_IA :: Cond.initialized fw_IA :: vx_atS RX1 146 fw_IA fw_chn, vx_ot w = true := by decide +kernel
theorem fw_good_IS : ∀ w ∈ Cond.classLink RX1 60 fw_IS :: Cond.initialized fw_IS :: vx_atS RX1 64 fw_IS fw_chn, vx_ot w = true := by decide +kernel
theorem fw_good_IO : ∀ w ∈ Cond.classLink RX1 162 fw_IO :: Cond.initialized fw_IO :: vx_atS RX1 166 fw_IO fw_chn, vx_ot w = true := by decide +kernel
theorem fw_bad_IA : ∀ w ∈ (vx_atS RX1 146 fw_IA fw_chn).filter (fun w => !goodWord w), w ∈ Cond.castable fw_IA fw_IA :: fw_anc.map (fun C => Cond.declares (Bundle.initS C)) := by decide +kernel
theorem fw_bad_IS : ∀ w ∈ (vx_atS RX1 64 fw_IS fw_chn).filter (fun w => !goodWord w), w ∈ Cond.castable fw_IS fw_IS :: fw_anc.map (fun C => Cond.declares (Bundle.initS C)) := by decide +kernel
theorem fw_bad_IO : ∀ w ∈ (vx_atS RX1 166 fw_IO fw_chn).filter (fun w => !goodWord w), w ∈ Cond.castable fw_IO fw_IO :: fw_anc.map (fun C => Cond.declares (Bundle.initS C)) := by decide +kernel
theorem fw_fit_IA : Bundle.fit fw_IA = true := by decide +kernel
theorem fw_fit_IS : Bundle.fit fw_IS = true := by decide +kernel
theorem fw_fit_IO : Bundle.fit fw_IO = true := by decide +kernel
end Throws
end FC
end
section
abbrev tyS (K : Nat → ClassId) : List (ClassId × FieldType) := [(K 0, .int), (K 1, .boolean), (K 2, .long), (K 3, .object RX0)]
def MF (a : Nat → Nat) (F : Nat → Int32) : List Value := [.int (F 0), .ref (a 1), .ref (a 2), .int (F 3), .int (F 4), .ref (a 5), .ref (a 6), .ref (a 7), .ref (a 8), .ref (a 9), .ref (a 10), .ref (a 11), .ref (a 12), .ref (a 13), .ref (a 14), .ref (a 15), .ref (a 16), .ref (a 17), .ref (a 18), .int (F 19), .int (F 20)]
/-- the model: its address a 0, its int fields F by slot, its arrays a k, G k by slot -/
def MW (K : Nat → ClassId) (a : Nat → Nat) (F : Nat → Int32) (G : Nat → Nat → Int32) : va_W := (a 0, .inr (2, MF a F)) :: (a 1, .inl (K 0, 6, .inl (G 1))) :: (a 2, .inl (K 0, 6, .inl (G 2))) :: (a 5, .inl (K 0, 4, .inl (G 5))) :: (a 6, .inl (K 0, 4, .inl (G 6))) :: (a 7, .inl (K 0, 4, .inl (G 7))) :: (a 8, .inl (K 0, 15, .inl (G 8))) :: (a 9, .inl (K 0, 15, .inl (G 9))) :: (a 10, .inl (K 0, 15, .inl (G 10))) :: (a 11, .inl (K 0, 15, .inl (G 11))) :: (a 12, .inl (K 0, 15, .inl (G 12))) :: (a 13, .inl (K 0, 15, .inl (G 13))) :: (a 14, .inl (K 1, 15, .inl (G 14))) :: (a 15, .inl (K 1, 15, .inl (G 15))) :: (a 16, .inl (K 0, 90, .inl (G 16))) :: (a 17, .inl (K 0, 90, .inl (G 17))) :: (a 18, .inl (K 0, 270, .inl (G 18))) :: []
theorem M_obj {K : Nat → ClassId} {a : Nat → Nat} {F : Nat → Int32} {G : Nat → Nat → Int32} : (MW K a F G)[0]? = some (a 0, .inr (2, MF a F)) := rfl
theorem M_g1 {K : Nat → ClassId} {a : Nat → Nat} {F : Nat → Int32} {G : Nat → Nat → Int32} : (MW K a F G)[1]? = some (a 1, .inl (K 0, 6, .inl (G 1))) := rfl
theorem M_s1 {K : Nat → ClassId} {a : Nat → Nat} {F : Nat → Int32} {G : Nat → Nat → Int32} (f : Nat → Int32) : (MW K a F G).set 1 (a 1, .inl (K 0, 6, .inl f)) = MW K a F (va_up G 1 f) := rfl
theorem M_g2 {K : Nat → ClassId} {a : Nat → Nat} {F : Nat → Int32} {G : Nat → Nat → Int32} : (MW K a F G)[2]? = some (a 2, .inl (K 0, 6, .inl (G 2))) := rfl
theorem M_s2 {K : Nat → ClassId} {a : Nat → Nat} {F : Nat → Int32} {G : Nat → Nat → Int32} (f : Nat → Int32) : (MW K a F G).set 2 (a 2, .inl (K 0, 6, .inl f)) = MW K a F (va_up G 2 f) := rfl
theorem M_g5 {K : Nat → ClassId} {a : Nat → Nat} {F : Nat → Int32} {G : Nat → Nat → Int32} : (MW K a F G)[3]? = some (a 5, .inl (K 0, 4, .inl (G 5))) := rfl
theorem M_s5 {K : Nat → ClassId} {a : Nat → Nat} {F : Nat → Int32} {G : Nat → Nat → Int32} (f : Nat → Int32) : (MW K a F G).set 3 (a 5, .inl (K 0, 4, .inl f)) = MW K a F (va_up G 5 f) := rfl
theorem M_g6 {K : Nat → ClassId} {a : Nat → Nat} {F : Nat → Int32} {G : Nat → Nat → Int32} : (MW K a F G)[4]? = some (a 6, .inl (K 0, 4, .inl (G 6))) := rfl
theorem M_s6 {K : Nat → ClassId} {a : Nat → Nat} {F : Nat → Int32} {G : Nat → Nat → Int32} (f : Nat → Int32) : (MW K a F G).set 4 (a 6, .inl (K 0, 4, .inl f)) = MW K a F (va_up G 6 f) := rfl
theorem M_g7 {K : Nat → ClassId} {a : Nat → Nat} {F : Nat → Int32} {G : Nat → Nat → Int32} : (MW K a F G)[5]? = some (a 7, .inl (K 0, 4, .inl (G 7))) := rfl
theorem M_s7 {K : Nat → ClassId} {a : Nat → Nat} {F : Nat → Int32} {G : Nat → Nat → Int32} (f : Nat → Int32) : (MW K a F G).set 5 (a 7, .inl (K 0, 4, .inl f)) = MW K a F (va_up G 7 f) := rfl
theorem M_g8 {K : Nat → ClassId} {a : Nat → Nat} {F : Nat → Int32} {G : Nat → Nat → Int32} : (MW K a F G)[6]? = some (a 8, .inl (K 0, 15, .inl (G 8))) := rfl
theorem M_s8 {K : Nat → ClassId} {a : Nat → Nat} {F : Nat → Int32} {G : Nat → Nat → Int32} (f : Nat → Int32) : (MW K a F G).set 6 (a 8, .inl (K 0, 15, .inl f)) = MW K a F (va_up G 8 f) := rfl
theorem M_g9 {K : Nat → ClassId} {a : Nat → Nat} {F : Nat → Int32} {G : Nat → Nat → Int32} : (MW K a F G)[7]? = some (a 9, .inl (K 0, 15, .inl (G 9))) := rfl
theorem M_s9 {K : Nat → ClassId} {a : Nat → Nat} {F : Nat → Int32} {G : Nat → Nat → Int32} (f : Nat → Int32) : (MW K a F G).set 7 (a 9, .inl (K 0, 15, .inl f)) = MW K a F (va_up G 9 f) := rfl
theorem M_g10 {K : Nat → ClassId} {a : Nat → Nat} {F : Nat → Int32} {G : Nat → Nat → Int32} : (MW K a F G)[8]? = some (a 10, .inl (K 0, 15, .inl (G 10))) := rfl
theorem M_s10 {K : Nat → ClassId} {a : Nat → Nat} {F : Nat → Int32} {G : Nat → Nat → Int32} (f : Nat → Int32) : (MW K a F G).set 8 (a 10, .inl (K 0, 15, .inl f)) = MW K a F (va_up G 10 f) := rfl
theorem M_g11 {K : Nat → ClassId} {a : Nat → Nat} {F : Nat → Int32} {G : Nat → Nat → Int32} : (MW K a F G)[9]? = some (a 11, .inl (K 0, 15, .inl (G 11))) := rfl
theorem M_s11 {K : Nat → ClassId} {a : Nat → Nat} {F : Nat → Int32} {G : Nat → Nat → Int32} (f : Nat → Int32) : (MW K a F G).set 9 (a 11, .inl (K 0, 15, .inl f)) = MW K a F (va_up G 11 f) := rfl
theorem M_g12 {K : Nat → ClassId} {a : Nat → Nat} {F : Nat → Int32} {G : Nat → Nat → Int32} : (MW K a F G)[10]? = some (a 12, .inl (K 0, 15, .inl (G 12))) := rfl
theorem M_s12 {K : Nat → ClassId} {a : Nat → Nat} {F : Nat → Int32} {G : Nat → Nat → Int32} (f : Nat → Int32) : (MW K a F G).set 10 (a 12, .inl (K 0, 15, .inl f)) = MW K a F (va_up G 12 f) := rfl
theorem M_g13 {K : Nat → ClassId} {a : Nat → Nat} {F : Nat → Int32} {G : Nat → Nat → Int32} : (MW K a F G)[11]? = some (a 13, .inl (K 0, 15, .inl (G 13))) := rfl
theorem M_s13 {K : Nat → ClassId} {a : Nat → Nat} {F : Nat → Int32} {G : Nat → Nat → Int32} (f : Nat → Int32) : (MW K a F G).set 11 (a 13, .inl (K 0, 15, .inl f)) = MW K a F (va_up G 13 f) := rfl
theorem M_g14 {K : Nat → ClassId} {a : Nat → Nat} {F : Nat → Int32} {G : Nat → Nat → Int32} : (MW K a F G)[12]? = some (a 14, .inl (K 1, 15, .inl (G 14))) := rfl
theorem M_s14 {K : Nat → ClassId} {a : Nat → Nat} {F : Nat → Int32} {G : Nat → Nat → Int32} (f : Nat → Int32) : (MW K a F G).set 12 (a 14, .inl (K 1, 15, .inl f)) = MW K a F (va_up G 14 f) := rfl
theorem M_g15 {K : Nat → ClassId} {a : Nat → Nat} {F : Nat → Int32} {G : Nat → Nat → Int32} : (MW K a F G)[13]? = some (a 15, .inl (K 1, 15, .inl (G 15))) := rfl
theorem M_s15 {K : Nat → ClassId} {a : Nat → Nat} {F : Nat → Int32} {G : Nat → Nat → Int32} (f : Nat → Int32) : (MW K a F G).set 13 (a 15, .inl (K 1, 15, .inl f)) = MW K a F (va_up G 15 f) := rfl
theorem M_g16 {K : Nat → ClassId} {a : Nat → Nat} {F : Nat → Int32} {G : Nat → Nat → Int32} : (MW K a F G)[14]? = some (a 16, .inl (K 0, 90, .inl (G 16))) := rfl
theorem M_s16 {K : Nat → ClassId} {a : Nat → Nat} {F : Nat → Int32} {G : Nat → Nat → Int32} (f : Nat → Int32) : (MW K a F G).set 14 (a 16, .inl (K 0, 90, .inl f)) = MW K a F (va_up G 16 f) := rfl
theorem M_g17 {K : Nat → ClassId} {a : Nat → Nat} {F : Nat → Int32} {G : Nat → Nat → Int32} : (MW K a F G)[15]? = some (a 17, .inl (K 0, 90, .inl (G 17))) := rfl
theorem M_s17 {K : Nat → ClassId} {a : Nat → Nat} {F : Nat → Int32} {G : Nat → Nat → Int32} (f : Nat → Int32) : (MW K a F G).set 15 (a 17, .inl (K 0, 90, .inl f)) = MW K a F (va_up G 17 f) := rfl
theorem M_g18 {K : Nat → ClassId} {a : Nat → Nat} {F : Nat → Int32} {G : Nat → Nat → Int32} : (MW K a F G)[16]? = some (a 18, .inl (K 0, 270, .inl (G 18))) := rfl
theorem M_s18 {K : Nat → ClassId} {a : Nat → Nat} {F : Nat → Int32} {G : Nat → Nat → Int32} (f : Nat → Int32) : (MW K a F G).set 16 (a 18, .inl (K 0, 270, .inl f)) = MW K a F (va_up G 18 f) := rfl
theorem M_f0 {K : Nat → ClassId} {a : Nat → Nat} {F : Nat → Int32} {G : Nat → Nat → Int32} (v : Int32) : (MW K a F G).set 0 (a 0, .inr (2, (MF a F).set 0 (.int v))) = MW K a (upd F 0 v) G := rfl
theorem M_f3 {K : Nat → ClassId} {a : Nat → Nat} {F : Nat → Int32} {G : Nat → Nat → Int32} (v : Int32) : (MW K a F G).set 0 (a 0, .inr (2, (MF a F).set 3 (.int v))) = MW K a (upd F 3 v) G := rfl
theorem M_f4 {K : Nat → ClassId} {a : Nat → Nat} {F : Nat → Int32} {G : Nat → Nat → Int32} (v : Int32) : (MW K a F G).set 0 (a 0, .inr (2, (MF a F).set 4 (.int v))) = MW K a (upd F 4 v) G := rfl
theorem M_f19 {K : Nat → ClassId} {a : Nat → Nat} {F : Nat → Int32} {G : Nat → Nat → Int32} (v : Int32) : (MW K a F G).set 0 (a 0, .inr (2, (MF a F).set 19 (.int v))) = MW K a (upd F 19 v) G := rfl
theorem M_f20 {K : Nat → ClassId} {a : Nat → Nat} {F : Nat → Int32} {G : Nat → Nat → Int32} (v : Int32) : (MW K a F G).set 0 (a 0, .inr (2, (MF a F).set 20 (.int v))) = MW K a (upd F 20 v) G := rfl
def BF (ba : Nat → Nat) (bf : Nat → Int32) : List Value := [.ref (ba 0), .ref (ba 1), .ref (ba 2), .ref (ba 3), .ref (ba 4), .ref (ba 5), .int (bf 6), .int (bf 7), .int (bf 8), .int (bf 9)]
def CF (ca : Nat → Nat → Nat) (cf : Nat → Nat → Int32) (k : Nat) : List Value := [.int (cf k 0), .int (cf k 1), .ref (ca k 2), .ref (ca k 3), .ref (ca k 4), .int (cf k 5), .int (cf k 6), .int (cf k 7), .int (cf k 8), .int (cf k 9), .int (cf k 10), .int (cf k 11)]
def CW (K : Nat → ClassId) (ca : Nat → Nat → Nat) (cf : Nat → Nat → Int32) (cg : Nat → Nat → Nat → Int32) (k : Nat) : va_W := [(ca k 0, .inr (0, CF ca cf k)), (ca k 2, .inl (K 0, 6, .inl (cg k 2))), (ca k 3, .inl (K 0, 6, .inl (cg k 3))), (ca k 4, .inl (K 0, 18, .inl (cg k 4)))]
def CR (ca : Nat → Nat → Nat) (n : Nat) : Nat → Option Nat := fun k => if k < n then some (ca k 0) else none
/-- the border house: its address ba 6, int fields bf by slot, arrays ba k, bg k; n consignments: fields cf k, arrays cg k -/
def BW (K : Nat → ClassId) (ba : Nat → Nat) (bf : Nat → Int32) (bg : Nat → Nat → Int32) (n : Nat) (ca : Nat → Nat → Nat) (cf : Nat → Nat → Int32) (cg : Nat → Nat → Nat → Int32) : va_W := (ba 6, .inr (1, BF ba bf)) :: (ba 0, .inl (K 0, 6, .inl (bg 0))) :: (ba 1, .inl (K 0, 6, .inl (bg 1))) :: (ba 2, .inl (K 0, 4, .inl (bg 2))) :: (ba 3, .inl (K 0, 4, .inl (bg 3))) :: (ba 4, .inl (K 0, 4, .inl (bg 4))) :: (ba 5, .inl (K 3, 15, .inr (.inr (.inr (.inr (CR ca n)))))) :: (List.range n).flatMap (CW K ca cf cg)
theorem B_obj {K : Nat → ClassId} {ba : Nat → Nat} {bf : Nat → Int32} {bg : Nat → Nat → Int32} {n : Nat} {ca : Nat → Nat → Nat} {cf : Nat → Nat → Int32} {cg : Nat → Nat → Nat → Int32} : (BW K ba bf bg n ca cf cg)[0]? = some (ba 6, .inr (1, BF ba bf)) := rfl
theorem B_g0 {K : Nat → ClassId} {ba : Nat → Nat} {bf : Nat → Int32} {bg : Nat → Nat → Int32} {n : Nat} {ca : Nat → Nat → Nat} {cf : Nat → Nat → Int32} {cg : Nat → Nat → Nat → Int32} : (BW K ba bf bg n ca cf cg)[1]? = some (ba 0, .inl (K 0, 6, .inl (bg 0))) := rfl
theorem B_s0 {K : Nat → ClassId} {ba : Nat → Nat} {bf : Nat → Int32} {bg : Nat → Nat → Int32} {n : Nat} {ca : Nat → Nat → Nat} {cf : Nat → Nat → Int32} {cg : Nat → Nat → Nat → Int32} (f : Nat → Int32) : (BW K ba bf bg n ca cf cg).set 1 (ba 0, .inl (K 0, 6, .inl f)) = BW K ba bf (va_up bg 0 f) n ca cf cg := rfl
theorem B_g1 {K : Nat → ClassId} {ba : Nat → Nat} {bf : Nat → Int32} {bg : Nat → Nat → Int32} {n : Nat} {ca : Nat → Nat → Nat} {cf : Nat → Nat → Int32} {cg : Nat → Nat → Nat → Int32} : (BW K ba bf bg n ca cf cg)[2]? = some (ba 1, .inl (K 0, 6, .inl (bg 1))) := rfl
theorem B_s1 {K : Nat → ClassId} {ba : Nat → Nat} {bf : Nat → Int32} {bg : Nat → Nat → Int32} {n : Nat} {ca : Nat → Nat → Nat} {cf : Nat → Nat → Int32} {cg : Nat → Nat → Nat → Int32} (f : Nat → Int32) : (BW K ba bf bg n ca cf cg).set 2 (ba 1, .inl (K 0, 6, .inl f)) = BW K ba bf (va_up bg 1 f) n ca cf cg := rfl
theorem B_g2 {K : Nat → ClassId} {ba : Nat → Nat} {bf : Nat → Int32} {bg : Nat → Nat → Int32} {n : Nat} {ca : Nat → Nat → Nat} {cf : Nat → Nat → Int32} {cg : Nat → Nat → Nat → Int32} : (BW K ba bf bg n ca cf cg)[3]? = some (ba 2, .inl (K 0, 4, .inl (bg 2))) := rfl
theorem B_s2 {K : Nat → ClassId} {ba : Nat → Nat} {bf : Nat → Int32} {bg : Nat → Nat → Int32} {n : Nat} {ca : Nat → Nat → Nat} {cf : Nat → Nat → Int32} {cg : Nat → Nat → Nat → Int32} (f : Nat → Int32) : (BW K ba bf bg n ca cf cg).set 3 (ba 2, .inl (K 0, 4, .inl f)) = BW K ba bf (va_up bg 2 f) n ca cf cg := rfl
theorem B_g3 {K : Nat → ClassId} {ba : Nat → Nat} {bf : Nat → Int32} {bg : Nat → Nat → Int32} {n : Nat} {ca : Nat → Nat → Nat} {cf : Nat → Nat → Int32} {cg : Nat → Nat → Nat → Int32} : (BW K ba bf bg n ca cf cg)[4]? = some (ba 3, .inl (K 0, 4, .inl (bg 3))) := rfl
theorem B_s3 {K : Nat → ClassId} {ba : Nat → Nat} {bf : Nat → Int32} {bg : Nat → Nat → Int32} {n : Nat} {ca : Nat → Nat → Nat} {cf : Nat → Nat → Int32} {cg : Nat → Nat → Nat → Int32} (f : Nat → Int32) : (BW K ba bf bg n ca cf cg).set 4 (ba 3, .inl (K 0, 4, .inl f)) = BW K ba bf (va_up bg 3 f) n ca cf cg := rfl
theorem B_g4 {K : Nat → ClassId} {ba : Nat → Nat} {bf : Nat → Int32} {bg : Nat → Nat → Int32} {n : Nat} {ca : Nat → Nat → Nat} {cf : Nat → Nat → Int32} {cg : Nat → Nat → Nat → Int32} : (BW K ba bf bg n ca cf cg)[5]? = some (ba 4, .inl (K 0, 4, .inl (bg 4))) := rfl
theorem B_s4 {K : Nat → ClassId} {ba : Nat → Nat} {bf : Nat → Int32} {bg : Nat → Nat → Int32} {n : Nat} {ca : Nat → Nat → Nat} {cf : Nat → Nat → Int32} {cg : Nat → Nat → Nat → Int32} (f : Nat → Int32) : (BW K ba bf bg n ca cf cg).set 5 (ba 4, .inl (K 0, 4, .inl f)) = BW K ba bf (va_up bg 4 f) n ca cf cg := rfl
theorem B_g5 {K : Nat → ClassId} {ba : Nat → Nat} {bf : Nat → Int32} {bg : Nat → Nat → Int32} {n : Nat} {ca : Nat → Nat → Nat} {cf : Nat → Nat → Int32} {cg : Nat → Nat → Nat → Int32} : (BW K ba bf bg n ca cf cg)[6]? = some (ba 5, .inl (K 3, 15, .inr (.inr (.inr (.inr (CR ca n)))))) := rfl
theorem B_f6 {K : Nat → ClassId} {ba : Nat → Nat} {bf : Nat → Int32} {bg : Nat → Nat → Int32} {n : Nat} {ca : Nat → Nat → Nat} {cf : Nat → Nat → Int32} {cg : Nat → Nat → Nat → Int32} (v : Int32) : (BW K ba bf bg n ca cf cg).set 0 (ba 6, .inr (1, (BF ba bf).set 6 (.int v))) = BW K ba (upd bf 6 v) bg n ca cf cg := rfl
theorem B_f7 {K : Nat → ClassId} {ba : Nat → Nat} {bf : Nat → Int32} {bg : Nat → Nat → Int32} {n : Nat} {ca : Nat → Nat → Nat} {cf : Nat → Nat → Int32} {cg : Nat → Nat → Nat → Int32} (v : Int32) : (BW K ba bf bg n ca cf cg).set 0 (ba 6, .inr (1, (BF ba bf).set 7 (.int v))) = BW K ba (upd bf 7 v) bg n ca cf cg := rfl
theorem B_f8 {K : Nat → ClassId} {ba : Nat → Nat} {bf : Nat → Int32} {bg : Nat → Nat → Int32} {n : Nat} {ca : Nat → Nat → Nat} {cf : Nat → Nat → Int32} {cg : Nat → Nat → Nat → Int32} (v : Int32) : (BW K ba bf bg n ca cf cg).set 0 (ba 6, .inr (1, (BF ba bf).set 8 (.int v))) = BW K ba (upd bf 8 v) bg n ca cf cg := rfl
theorem B_f9 {K : Nat → ClassId} {ba : Nat → Nat} {bf : Nat → Int32} {bg : Nat → Nat → Int32} {n : Nat} {ca : Nat → Nat → Nat} {cf : Nat → Nat → Int32} {cg : Nat → Nat → Nat → Int32} (v : Int32) : (BW K ba bf bg n ca cf cg).set 0 (ba 6, .inr (1, (BF ba bf).set 9 (.int v))) = BW K ba (upd bf 9 v) bg n ca cf cg := rfl
theorem fl_len {α : Type} (g : Nat → List α) (w : Nat) (hw : ∀ k, (g k).length = w) (n : Nat) : ((List.range n).flatMap g).length = w * n := by
  induction n with
  | zero => simp
  | succ n ih => rw [List.range_succ, List.flatMap_append, List.length_append, ih]; simp [hw, Nat.mul_succ]
theorem fl_get {α : Type} (g : Nat → List α) (w : Nat) (hw : ∀ k, (g k).length = w) (n k i : Nat) (hk : k < n) (hi : i < w) : ((List.range n).flatMap g)[w * k + i]? = (g k)[i]? := by
  induction n with
  | zero => omega
  | succ n ih =>
    rw [List.range_succ, List.flatMap_append]
    have hl := fl_len g w hw n
    by_cases h : k < n
    · rw [List.getElem?_append_left (by rw [hl]; have := Nat.mul_le_mul_left w (show k + 1 ≤ n from h); rw [Nat.mul_succ] at this; omega)]
      exact ih h
    · have e : k = n := by omega
      subst e
      rw [List.getElem?_append_right (by rw [hl]; omega), hl, Nat.add_sub_cancel_left]
      simp
theorem fl_set {α : Type} (g : Nat → List α) (w : Nat) (hw : ∀ k, (g k).length = w) (n k i : Nat) (x : α) (hk : k < n) (hi : i < w) : ((List.range n).flatMap g).set (w * k + i) x = (List.range n).flatMap (fun j => if j = k then (g j).set i x else g j) := by
  induction n with
  | zero => omega
  | succ n ih =>
    rw [List.range_succ, List.flatMap_append, List.flatMap_append]
    have hl := fl_len g w hw n
    by_cases h : k < n
    · rw [List.set_append_left _ _ (by rw [hl]; have := Nat.mul_le_mul_left w (show k + 1 ≤ n from h); rw [Nat.mul_succ] at this; omega), ih h]
      have hne : ¬ n = k := by omega
      simp [hne]
    · have e : k = n := by omega
      subst e
      rw [List.set_append_right _ _ (by rw [hl]; omega), hl, Nat.add_sub_cancel_left]
      have e2 : (List.range k).flatMap g = (List.range k).flatMap (fun j => if j = k then (g j).set i x else g j) := by
        have : ∀ m, m ≤ k → (List.range m).flatMap g = (List.range m).flatMap (fun j => if j = k then (g j).set i x else g j) := by
          intro m
          induction m with
          | zero => intro _; rfl
          | succ m im =>
            intro hm
            rw [List.range_succ, List.flatMap_append, List.flatMap_append, im (by omega)]
            have hne : ¬ m = k := by omega
            simp [hne]
        exact this k (Nat.le_refl k)
      rw [← e2]
      simp
theorem C_len {K : Nat → ClassId} {ca : Nat → Nat → Nat} {cf : Nat → Nat → Int32} {cg : Nat → Nat → Nat → Int32} : ∀ k, (CW K ca cf cg k).length = 4 := fun _ => rfl
theorem B_c {K : Nat → ClassId} {ba : Nat → Nat} {bf : Nat → Int32} {bg : Nat → Nat → Int32} {n : Nat} {ca : Nat → Nat → Nat} {cf : Nat → Nat → Int32} {cg : Nat → Nat → Nat → Int32} (k i : Nat) (hk : k < n) (hi : i < 4) : (BW K ba bf bg n ca cf cg)[4 * k + i + 7]? = (CW K ca cf cg k)[i]? := by
  rw [← fl_get (CW K ca cf cg) 4 C_len n k i hk hi]
  rfl
theorem B_cs {K : Nat → ClassId} {ba : Nat → Nat} {bf : Nat → Int32} {bg : Nat → Nat → Int32} {n : Nat} {ca : Nat → Nat → Nat} {cf : Nat → Nat → Int32} {cg : Nat → Nat → Nat → Int32} (k i : Nat) (hk : k < n) (hi : i < 4) (x : Nat × va_E) : (BW K ba bf bg n ca cf cg).set (4 * k + i + 7) x = (BW K ba bf bg 0 ca cf cg).set 6 (ba 5, .inl (K 3, 15, .inr (.inr (.inr (.inr (CR ca n)))))) ++ (List.range n).flatMap (fun j => if j = k then (CW K ca cf cg j).set i x else CW K ca cf cg j) := by
  rw [← fl_set (CW K ca cf cg) 4 C_len n k i x hk hi]
  rfl
theorem B_co {K : Nat → ClassId} {ba : Nat → Nat} {bf : Nat → Int32} {bg : Nat → Nat → Int32} {n : Nat} {ca : Nat → Nat → Nat} {cf : Nat → Nat → Int32} {cg : Nat → Nat → Nat → Int32} (k : Nat) (hk : k < n) : (BW K ba bf bg n ca cf cg)[4 * k + 0 + 7]? = some (ca k 0, .inr (0, CF ca cf k)) := B_c k 0 hk (by decide)
theorem B_c2 {K : Nat → ClassId} {ba : Nat → Nat} {bf : Nat → Int32} {bg : Nat → Nat → Int32} {n : Nat} {ca : Nat → Nat → Nat} {cf : Nat → Nat → Int32} {cg : Nat → Nat → Nat → Int32} (k : Nat) (hk : k < n) : (BW K ba bf bg n ca cf cg)[4 * k + 1 + 7]? = some (ca k 2, .inl (K 0, 6, .inl (cg k 2))) := B_c k 1 hk (by decide)
theorem B_cs2 {K : Nat → ClassId} {ba : Nat → Nat} {bf : Nat → Int32} {bg : Nat → Nat → Int32} {n : Nat} {ca : Nat → Nat → Nat} {cf : Nat → Nat → Int32} {cg : Nat → Nat → Nat → Int32} (k : Nat) (hk : k < n) (f : Nat → Int32) : (BW K ba bf bg n ca cf cg).set (4 * k + 1 + 7) (ca k 2, .inl (K 0, 6, .inl f)) = BW K ba bf bg n ca cf (va_up cg k (va_up (cg k) 2 f)) := by
  rw [B_cs k 1 hk (by decide)]
  have e : (fun j => if j = k then (CW K ca cf cg j).set 1 (ca k 2, .inl (K 0, 6, .inl f)) else CW K ca cf cg j) = CW K ca cf (va_up cg k (va_up (cg k) 2 f)) := by
    funext j
    by_cases h : j = k
    · subst h
      simp [CW, va_up]
    · simp [CW, va_up, h]
  rw [e]
  rfl
theorem B_c3 {K : Nat → ClassId} {ba : Nat → Nat} {bf : Nat → Int32} {bg : Nat → Nat → Int32} {n : Nat} {ca : Nat → Nat → Nat} {cf : Nat → Nat → Int32} {cg : Nat → Nat → Nat → Int32} (k : Nat) (hk : k < n) : (BW K ba bf bg n ca cf cg)[4 * k + 2 + 7]? = some (ca k 3, .inl (K 0, 6, .inl (cg k 3))) := B_c k 2 hk (by decide)
theorem B_cs3 {K : Nat → ClassId} {ba : Nat → Nat} {bf : Nat → Int32} {bg : Nat → Nat → Int32} {n : Nat} {ca : Nat → Nat → Nat} {cf : Nat → Nat → Int32} {cg : Nat → Nat → Nat → Int32} (k : Nat) (hk : k < n) (f : Nat → Int32) : (BW K ba bf bg n ca cf cg).set (4 * k + 2 + 7) (ca k 3, .inl (K 0, 6, .inl f)) = BW K ba bf bg n ca cf (va_up cg k (va_up (cg k) 3 f)) := by
  rw [B_cs k 2 hk (by decide)]
  have e : (fun j => if j = k then (CW K ca cf cg j).set 2 (ca k 3, .inl (K 0, 6, .inl f)) else CW K ca cf cg j) = CW K ca cf (va_up cg k (va_up (cg k) 3 f)) := by
    funext j
    by_cases h : j = k
    · subst h
      simp [CW, va_up]
    · simp [CW, va_up, h]
  rw [e]
  rfl
theorem B_c4 {K : Nat → ClassId} {ba : Nat → Nat} {bf : Nat → Int32} {bg : Nat → Nat → Int32} {n : Nat} {ca : Nat → Nat → Nat} {cf : Nat → Nat → Int32} {cg : Nat → Nat → Nat → Int32} (k : Nat) (hk : k < n) : (BW K ba bf bg n ca cf cg)[4 * k + 3 + 7]? = some (ca k 4, .inl (K 0, 18, .inl (cg k 4))) := B_c k 3 hk (by decide)
theorem B_cs4 {K : Nat → ClassId} {ba : Nat → Nat} {bf : Nat → Int32} {bg : Nat → Nat → Int32} {n : Nat} {ca : Nat → Nat → Nat} {cf : Nat → Nat → Int32} {cg : Nat → Nat → Nat → Int32} (k : Nat) (hk : k < n) (f : Nat → Int32) : (BW K ba bf bg n ca cf cg).set (4 * k + 3 + 7) (ca k 4, .inl (K 0, 18, .inl f)) = BW K ba bf bg n ca cf (va_up cg k (va_up (cg k) 4 f)) := by
  rw [B_cs k 3 hk (by decide)]
  have e : (fun j => if j = k then (CW K ca cf cg j).set 3 (ca k 4, .inl (K 0, 18, .inl f)) else CW K ca cf cg j) = CW K ca cf (va_up cg k (va_up (cg k) 4 f)) := by
    funext j
    by_cases h : j = k
    · subst h
      simp [CW, va_up]
    · simp [CW, va_up, h]
  rw [e]
  rfl
theorem B_cf5 {K : Nat → ClassId} {ba : Nat → Nat} {bf : Nat → Int32} {bg : Nat → Nat → Int32} {n : Nat} {ca : Nat → Nat → Nat} {cf : Nat → Nat → Int32} {cg : Nat → Nat → Nat → Int32} (k : Nat) (hk : k < n) (v : Int32) : (BW K ba bf bg n ca cf cg).set (4 * k + 0 + 7) (ca k 0, .inr (0, (CF ca cf k).set 5 (.int v))) = BW K ba bf bg n ca (va_up cf k (upd (cf k) 5 v)) cg := by
  rw [B_cs k 0 hk (by decide)]
  have e : (fun j => if j = k then (CW K ca cf cg j).set 0 (ca k 0, .inr (0, (CF ca cf k).set 5 (.int v))) else CW K ca cf cg j) = CW K ca (va_up cf k (upd (cf k) 5 v)) cg := by
    funext j
    by_cases h : j = k
    · subst h
      simp [CW, CF, va_up, upd]
    · simp [CW, CF, va_up, h]
  rw [e]
  rfl
theorem B_cf6 {K : Nat → ClassId} {ba : Nat → Nat} {bf : Nat → Int32} {bg : Nat → Nat → Int32} {n : Nat} {ca : Nat → Nat → Nat} {cf : Nat → Nat → Int32} {cg : Nat → Nat → Nat → Int32} (k : Nat) (hk : k < n) (v : Int32) : (BW K ba bf bg n ca cf cg).set (4 * k + 0 + 7) (ca k 0, .inr (0, (CF ca cf k).set 6 (.int v))) = BW K ba bf bg n ca (va_up cf k (upd (cf k) 6 v)) cg := by
  rw [B_cs k 0 hk (by decide)]
  have e : (fun j => if j = k then (CW K ca cf cg j).set 0 (ca k 0, .inr (0, (CF ca cf k).set 6 (.int v))) else CW K ca cf cg j) = CW K ca (va_up cf k (upd (cf k) 6 v)) cg := by
    funext j
    by_cases h : j = k
    · subst h
      simp [CW, CF, va_up, upd]
    · simp [CW, CF, va_up, h]
  rw [e]
  rfl
theorem B_cf7 {K : Nat → ClassId} {ba : Nat → Nat} {bf : Nat → Int32} {bg : Nat → Nat → Int32} {n : Nat} {ca : Nat → Nat → Nat} {cf : Nat → Nat → Int32} {cg : Nat → Nat → Nat → Int32} (k : Nat) (hk : k < n) (v : Int32) : (BW K ba bf bg n ca cf cg).set (4 * k + 0 + 7) (ca k 0, .inr (0, (CF ca cf k).set 7 (.int v))) = BW K ba bf bg n ca (va_up cf k (upd (cf k) 7 v)) cg := by
  rw [B_cs k 0 hk (by decide)]
  have e : (fun j => if j = k then (CW K ca cf cg j).set 0 (ca k 0, .inr (0, (CF ca cf k).set 7 (.int v))) else CW K ca cf cg j) = CW K ca (va_up cf k (upd (cf k) 7 v)) cg := by
    funext j
    by_cases h : j = k
    · subst h
      simp [CW, CF, va_up, upd]
    · simp [CW, CF, va_up, h]
  rw [e]
  rfl
theorem B_cf8 {K : Nat → ClassId} {ba : Nat → Nat} {bf : Nat → Int32} {bg : Nat → Nat → Int32} {n : Nat} {ca : Nat → Nat → Nat} {cf : Nat → Nat → Int32} {cg : Nat → Nat → Nat → Int32} (k : Nat) (hk : k < n) (v : Int32) : (BW K ba bf bg n ca cf cg).set (4 * k + 0 + 7) (ca k 0, .inr (0, (CF ca cf k).set 8 (.int v))) = BW K ba bf bg n ca (va_up cf k (upd (cf k) 8 v)) cg := by
  rw [B_cs k 0 hk (by decide)]
  have e : (fun j => if j = k then (CW K ca cf cg j).set 0 (ca k 0, .inr (0, (CF ca cf k).set 8 (.int v))) else CW K ca cf cg j) = CW K ca (va_up cf k (upd (cf k) 8 v)) cg := by
    funext j
    by_cases h : j = k
    · subst h
      simp [CW, CF, va_up, upd]
    · simp [CW, CF, va_up, h]
  rw [e]
  rfl
theorem B_cf9 {K : Nat → ClassId} {ba : Nat → Nat} {bf : Nat → Int32} {bg : Nat → Nat → Int32} {n : Nat} {ca : Nat → Nat → Nat} {cf : Nat → Nat → Int32} {cg : Nat → Nat → Nat → Int32} (k : Nat) (hk : k < n) (v : Int32) : (BW K ba bf bg n ca cf cg).set (4 * k + 0 + 7) (ca k 0, .inr (0, (CF ca cf k).set 9 (.int v))) = BW K ba bf bg n ca (va_up cf k (upd (cf k) 9 v)) cg := by
  rw [B_cs k 0 hk (by decide)]
  have e : (fun j => if j = k then (CW K ca cf cg j).set 0 (ca k 0, .inr (0, (CF ca cf k).set 9 (.int v))) else CW K ca cf cg j) = CW K ca (va_up cf k (upd (cf k) 9 v)) cg := by
    funext j
    by_cases h : j = k
    · subst h
      simp [CW, CF, va_up, upd]
    · simp [CW, CF, va_up, h]
  rw [e]
  rfl
theorem B_cf10 {K : Nat → ClassId} {ba : Nat → Nat} {bf : Nat → Int32} {bg : Nat → Nat → Int32} {n : Nat} {ca : Nat → Nat → Nat} {cf : Nat → Nat → Int32} {cg : Nat → Nat → Nat → Int32} (k : Nat) (hk : k < n) (v : Int32) : (BW K ba bf bg n ca cf cg).set (4 * k + 0 + 7) (ca k 0, .inr (0, (CF ca cf k).set 10 (.int v))) = BW K ba bf bg n ca (va_up cf k (upd (cf k) 10 v)) cg := by
  rw [B_cs k 0 hk (by decide)]
  have e : (fun j => if j = k then (CW K ca cf cg j).set 0 (ca k 0, .inr (0, (CF ca cf k).set 10 (.int v))) else CW K ca cf cg j) = CW K ca (va_up cf k (upd (cf k) 10 v)) cg := by
    funext j
    by_cases h : j = k
    · subst h
      simp [CW, CF, va_up, upd]
    · simp [CW, CF, va_up, h]
  rw [e]
  rfl
theorem B_cf11 {K : Nat → ClassId} {ba : Nat → Nat} {bf : Nat → Int32} {bg : Nat → Nat → Int32} {n : Nat} {ca : Nat → Nat → Nat} {cf : Nat → Nat → Int32} {cg : Nat → Nat → Nat → Int32} (k : Nat) (hk : k < n) (v : Int32) : (BW K ba bf bg n ca cf cg).set (4 * k + 0 + 7) (ca k 0, .inr (0, (CF ca cf k).set 11 (.int v))) = BW K ba bf bg n ca (va_up cf k (upd (cf k) 11 v)) cg := by
  rw [B_cs k 0 hk (by decide)]
  have e : (fun j => if j = k then (CW K ca cf cg j).set 0 (ca k 0, .inr (0, (CF ca cf k).set 11 (.int v))) else CW K ca cf cg j) = CW K ca (va_up cf k (upd (cf k) 11 v)) cg := by
    funext j
    by_cases h : j = k
    · subst h
      simp [CW, CF, va_up, upd]
    · simp [CW, CF, va_up, h]
  rw [e]
  rfl
theorem nf_add {x y : Int32} {i j : Nat} (h1 : x = nI i) (h2 : y = nI j) : x + y = nI (i + j) := by rw [h1, h2, nI_add]
theorem nf_mul {x y : Int32} {i j : Nat} (h1 : x = nI i) (h2 : y = nI j) : x * y = nI (i * j) := by rw [h1, h2, pk_mul]
abbrev ix (c : Int32) : Nat := c.toNatClampNeg
def m_in (v lo hi : Int32) : Bool := decide (¬ v < lo) && decide (¬ hi < v)
abbrev b2i (p : Prop) [Decidable p] : Int32 := if p then 1 else 0
theorem m_in_iff {v lo hi : Int32} : m_in v lo hi = true ↔ ¬ v < lo ∧ ¬ hi < v := by
  unfold m_in
  rw [Bool.and_eq_true, decide_eq_true_eq, decide_eq_true_eq]
theorem in_ix {v : Int32} {h : Int32} {N : Nat} (hh : h.toInt < N) (hN : N ≤ 2000000) (hv : m_in v 0 h = true) : v = nI (ix v) ∧ ix v < N := by
  obtain ⟨h1, h2⟩ := m_in_iff.mp hv
  obtain ⟨j, hj, rfl⟩ := nI_of h1
  have e : ix (nI j) = j := nI_clamp hj
  rw [e]
  refine ⟨rfl, ?_⟩
  rw [Int32.lt_iff_toInt_lt, nI_toInt hj] at h2
  omega
theorem in_con {v : Int32} {n : Nat} (hn : n ≤ 15) (hv : m_in v 0 (nI n - 1) = true) : v = nI (ix v) ∧ ix v < n := by
  obtain ⟨h1, h2⟩ := m_in_iff.mp hv
  obtain ⟨j, hj, rfl⟩ := nI_of h1
  have e : ix (nI j) = j := nI_clamp hj
  rw [e]
  refine ⟨rfl, ?_⟩
  rcases Nat.eq_zero_or_pos n with h0 | h0
  · subst h0
    exfalso
    apply h2
    rw [Int32.lt_iff_toInt_lt, nI_toInt hj]
    have h3 : (nI 0 - 1).toInt = -1 := by decide +kernel
    omega
  · rw [show n = (n - 1) + 1 by omega, nI_pred, Int32.lt_iff_toInt_lt, nI_toInt hj, nI_toInt (by omega)] at h2
    omega
theorem nr_b {p : Prop} [Decidable p] : narrow .boolean (.int (b2i p)) = .int (b2i p) := by
  unfold b2i
  split <;> rfl
theorem nr_1 : narrow .boolean (.int 1) = .int 1 := by rfl
theorem ft_b {p : Prop} [Decidable p] : fits .boolean (.int (b2i p)) = true := by
  unfold b2i
  split <;> rfl
theorem vz_b {p : Prop} [Decidable p] : vp_nar .boolean (b2i p) = b2i p := by
  unfold b2i
  split <;> decide +kernel
theorem nz_le {x : Int32} (h : ¬ x ≤ 0) : ¬ x = 0 := fun q => h (by rw [q]; exact Int32.le_refl _)
theorem nr_0 : narrow .boolean (.int 0) = .int 0 := by rfl
end
section
def m_gd (s r q : Int32) : Bool := (m_in s 0 5 && m_in r 0 2) && m_in q 1 100
def m_rs (G : Nat → Nat → Int32) (k : Nat) : Nat → Int32
  | 0 => 2 * (G 11 k - 1) + (if G 15 k = 0 then 0 else 30)
  | i + 1 => m_rs G k i + (if G 16 (6 * k + i) ≤ 0 then 0 else G 2 i)
def m_em (G : Nat → Nat → Int32) (k : Nat) : Nat → Int32
  | 0 => 0
  | i + 1 => m_em G k i + G 16 (6 * k + i)
def m_ow (G : Nat → Nat → Int32) (k : Nat) : Nat → Int32
  | 0 => 0
  | i + 1 => m_ow G k i + G 16 (6 * k + i) * G 1 i
def m_must (F : Nat → Int32) (G : Nat → Nat → Int32) (k : Nat) : Bool := decide (G 10 k = 1) && (!decide (G 13 k = 63) && (!decide (G 14 k = 0) || !decide (m_rs G k 6 < F 3)))
def m_cn (F : Nat → Int32) (G : Nat → Nat → Int32) : Nat → Int32
  | 0 => 0
  | i + 1 => m_cn F G i + b2i (m_must F G i = true)
def m_sr (G : Nat → Nat → Int32) (s r : Nat) : Nat → Int32
  | 0 => 0
  | i + 1 => m_sr G s r i + G 18 (3 * (6 * i + s) + r)
def m_lf (f : Nat → Int32) (b : Nat) : Nat → Int32
  | 0 => 0
  | i + 1 => m_lf f b i + f (b + i)
def m_tk (G : Nat → Nat → Int32) (k : Nat) : Nat → Nat → Int32
  | 0 => G 17
  | i + 1 => upd (m_tk G k i) (6 * k + i) (G 1 i)
def m_st (G : Nat → Nat → Int32) (k r : Nat) : Nat → Nat → Int32
  | 0 => G 18
  | i + 1 => upd (m_st G k r i) (3 * (6 * k + i) + r) (G 16 (6 * k + i))
def m_i1 (f : Nat → Int32) : Nat → Nat → Int32
  | 0 => f
  | i + 1 => upd (m_i1 f i) i 1
def m_setSort_k (s d w : Int32) : Int32 := if m_in s 0 5 = true ∧ m_in d 0 50 = true ∧ m_in w 0 20 = true then 0 else 1
def m_setSort_G (G : Nat → Nat → Int32) (s d w : Int32) : Nat → Nat → Int32 := if m_setSort_k s d w = 0 then va_up (va_up G 1 (upd (G 1) (ix s) d)) 2 (upd (G 2) (ix s) w) else G
def m_setRisk_k (x y : Int32) : Int32 := if m_in x 0 200 = true ∧ m_in y 0 10 = true then 0 else 1
def m_setRisk_F (F : Nat → Int32) (x y : Int32) : Nat → Int32 := if m_setRisk_k x y = 0 then upd (upd (upd F 0 0) 3 x) 4 y else upd F 0 1
def m_setRisk_v (F : Nat → Int32) (G : Nat → Nat → Int32) (n : Nat) (x y : Int32) : Int32 := if m_setRisk_k x y = 0 then m_cn (upd (upd (upd F 0 0) 3 x) 4 y) G n else 0
def m_setG_k (G : Nat → Nat → Int32) (t x : Int32) : Int32 := if m_in t 0 3 = true ∧ m_in x 0 1000000 = true then (if G 6 (ix t) ≤ x then 0 else 2) else 1
def m_setG_v (G : Nat → Nat → Int32) (t x : Int32) : Int32 := if m_setG_k G t x = 0 then G 5 (ix t) else 0
def m_setG_G (G : Nat → Nat → Int32) (t x : Int32) : Nat → Nat → Int32 := if m_setG_k G t x = 0 then va_up G 5 (upd (G 5) (ix t) x) else G
def m_ann_k (F : Nat → Int32) (t x : Int32) : Int32 := if m_in t 0 3 = true ∧ m_in x 0 999 = true then (if F 19 = 15 then 2 else 0) else 1
def m_ann_v (F : Nat → Int32) (t x : Int32) : Int32 := if m_ann_k F t x = 0 then F 19 + 1 - 1 else 0
def m_ann_F (F : Nat → Int32) (t x : Int32) : Nat → Int32 := if m_ann_k F t x = 0 then upd (upd F 0 0) 19 (F 19 + 1) else upd F 0 (m_ann_k F t x)
def m_ann_G (F : Nat → Int32) (G : Nat → Nat → Int32) (n : Nat) (t x : Int32) : Nat → Nat → Int32 := if m_ann_k F t x = 0 then va_up (va_up G 8 (upd (G 8) n t)) 9 (upd (G 9) n x) else G
def m_amd_k (F : Nat → Int32) (G : Nat → Nat → Int32) (c s q : Int32) : Int32 := if m_in c 0 (F 19 - 1) = true then (if m_in s 0 5 = true ∧ m_in q 0 100 = true then (if G 10 (ix c) = 0 ∧ ¬ G 16 (6 * ix c + ix s) = q then 0 else 3) else 2) else 1
def m_amd_v (F : Nat → Int32) (G : Nat → Nat → Int32) (c s q : Int32) : Int32 := if m_amd_k F G c s q = 0 then G 11 (ix c) + 1 else 0
def m_amd_G (F : Nat → Int32) (G : Nat → Nat → Int32) (c s q : Int32) : Nat → Nat → Int32 := if m_amd_k F G c s q = 0 then va_up (va_up G 16 (upd (G 16) (6 * ix c + ix s) q)) 11 (upd (G 11) (ix c) (G 11 (ix c) + 1)) else G
def m_arr_k (F : Nat → Int32) (G : Nat → Nat → Int32) (c x : Int32) : Int32 := if m_in c 0 (F 19 - 1) = true then (if m_in x 0 999 = true then (if G 10 (ix c) = 0 ∧ ¬ m_em G (ix c) 6 = 0 then 0 else 3) else 2) else 1
def m_smp (x y : Int32) : Int32 := if y ≤ 0 then 0 else if x - x / y * y = 0 then 1 else 0
def m_arr_F (F : Nat → Int32) (G : Nat → Nat → Int32) (c x : Int32) : Nat → Int32 := if m_arr_k F G c x = 0 then upd (upd F 0 0) 20 (F 20 + 1) else upd F 0 (m_arr_k F G c x)
def m_arr_G (F : Nat → Int32) (G : Nat → Nat → Int32) (c x : Int32) : Nat → Nat → Int32 := if m_arr_k F G c x = 0 then va_up (va_up (va_up G 14 (upd (G 14) (ix c) (m_smp (F 20 + 1) (F 4)))) 10 (upd (G 10) (ix c) 1)) 15 (upd (G 15) (ix c) (if G 9 (ix c) = x then 0 else 1)) else G
def m_arr_v (F : Nat → Int32) (G : Nat → Nat → Int32) (c x : Int32) : Int32 := if m_arr_k F G c x = 0 then b2i (m_must (m_arr_F F G c x) (m_arr_G F G c x) (ix c) = true) else 0
def m_rsk_k (F : Nat → Int32) (G : Nat → Nat → Int32) (c : Int32) : Int32 := if m_in c 0 (F 19 - 1) = true then (if G 10 (ix c) = 0 then 2 else 0) else 1
def m_rsk_v (F : Nat → Int32) (G : Nat → Nat → Int32) (c : Int32) : Int32 := if m_rsk_k F G c = 0 then m_rs G (ix c) 6 else 0
def m_c_k (F : Nat → Int32) (c : Int32) : Int32 := if m_in c 0 (F 19 - 1) = true then 0 else 1
def m_mus_v (F : Nat → Int32) (G : Nat → Nat → Int32) (c : Int32) : Int32 := if m_c_k F c = 0 then b2i (m_must F G (ix c) = true) else 0
def m_sch_k (F : Nat → Int32) (G : Nat → Nat → Int32) (c s q : Int32) : Int32 := if m_in c 0 (F 19 - 1) = true then (if m_in s 0 5 = true ∧ m_in q 0 100 = true then (if G 10 (ix c) = 1 then 0 else 3) else 2) else 1
def m_sch_p (G : Nat → Nat → Int32) (c s q : Int32) : Int32 := G 12 (ix c) + (if G 16 (6 * ix c + ix s) = q then 0 else 1)
def m_sch_v (F : Nat → Int32) (G : Nat → Nat → Int32) (c s q : Int32) : Int32 := if m_sch_k F G c s q = 0 then m_sch_p G c s q else 0
def m_sch_G (F : Nat → Int32) (G : Nat → Nat → Int32) (c s q : Int32) : Nat → Nat → Int32 := if m_sch_k F G c s q = 0 then va_up (va_up (va_up G 13 (upd (G 13) (ix c) (G 13 (ix c) ||| 1 <<< (s &&& 31)))) 12 (upd (G 12) (ix c) (m_sch_p G c s q))) 16 (upd (G 16) (6 * ix c + ix s) q) else G
def m_bnd_k (F : Nat → Int32) (G : Nat → Nat → Int32) (c r : Int32) : Int32 := if m_in c 0 (F 19 - 1) = true then (if m_in r 0 2 = true then (if G 10 (ix c) = 1 ∧ ¬ m_must F G (ix c) = true ∧ ¬ G 5 (ix (G 8 (ix c))) < G 6 (ix (G 8 (ix c))) + m_ow G (ix c) 6 then 0 else 3) else 2) else 1
def m_bnd_1 (G : Nat → Nat → Int32) (c : Int32) : Nat → Nat → Int32 := va_up G 10 (upd (G 10) (ix c) (if m_em G (ix c) 6 = 0 then 3 else 2))
def m_bnd_2 (G : Nat → Nat → Int32) (c r : Int32) : Nat → Nat → Int32 := va_up (va_up G 17 (m_tk G (ix c) 6)) 18 (m_st G (ix c) (ix r) 6)
def m_bnd_3 (G : Nat → Nat → Int32) (c : Int32) : Nat → Nat → Int32 := va_up G 6 (upd (G 6) (ix (G 8 (ix c))) (G 6 (ix (G 8 (ix c))) + m_ow G (ix c) 6))
def m_bnd_G (F : Nat → Int32) (G : Nat → Nat → Int32) (c r : Int32) : Nat → Nat → Int32 := if m_bnd_k F G c r = 0 then m_bnd_3 (m_bnd_2 (m_bnd_1 G c) c r) c else G
def m_bnd_v (F : Nat → Int32) (G : Nat → Nat → Int32) (c r : Int32) : Int32 := if m_bnd_k F G c r = 0 then m_ow (m_bnd_G F G c r) (ix c) 6 else 0
def m_mov_k (F : Nat → Int32) (G : Nat → Nat → Int32) (c s x y q : Int32) : Int32 := if m_in c 0 (F 19 - 1) = true then (if m_gd s x q = true ∧ m_in y 0 2 = true ∧ ¬ x = y then (if G 18 (3 * (6 * ix c + ix s) + ix x) < q then 3 else 0) else 2) else 1
def m_mov_1 (G : Nat → Nat → Int32) (c s x q : Int32) : Nat → Int32 := upd (G 18) (3 * (6 * ix c + ix s) + ix x) (G 18 (3 * (6 * ix c + ix s) + ix x) - q)
def m_mov_2 (G : Nat → Nat → Int32) (c s x y q : Int32) : Nat → Int32 := upd (m_mov_1 G c s x q) (3 * (6 * ix c + ix s) + ix y) (m_mov_1 G c s x q (3 * (6 * ix c + ix s) + ix y) + q)
def m_mov_G (F : Nat → Int32) (G : Nat → Nat → Int32) (c s x y q : Int32) : Nat → Nat → Int32 := if m_mov_k F G c s x y q = 0 then va_up G 18 (m_mov_2 G c s x y q) else G
def m_mov_v (F : Nat → Int32) (G : Nat → Nat → Int32) (c s x y q : Int32) : Int32 := if m_mov_k F G c s x y q = 0 then m_mov_2 G c s x y q (3 * (6 * ix c + ix s) + ix y) else 0
def m_why (F : Nat → Int32) (G : Nat → Nat → Int32) (c s r q : Int32) : Int32 := if m_in c 0 (F 19 - 1) = true then (if m_gd s r q = true then (if G 18 (3 * (6 * ix c + ix s) + ix r) < q then 3 else 0) else 2) else 1
def m_lv_G (G : Nat → Nat → Int32) (k i j : Nat) (q : Int32) : Nat → Nat → Int32 := va_up (va_up (va_up G 18 (upd (G 18) (3 * (6 * k + i) + j) (G 18 (3 * (6 * k + i) + j) - q))) 6 (upd (G 6) (ix (G 8 k)) (G 6 (ix (G 8 k)) - q * G 17 (6 * k + i)))) 10 (upd (G 10) k (if m_lf (upd (G 18) (3 * (6 * k + i) + j) (G 18 (3 * (6 * k + i) + j) - q)) (3 * (6 * k + 0) + 0) 18 = 0 then 3 else 2))
def m_fr_v (F : Nat → Int32) (G : Nat → Nat → Int32) (c s r q : Int32) : Int32 := if m_why F G c s r q = 0 then q * G 17 (6 * ix c + ix s) else 0
def m_fr_G (F : Nat → Int32) (G : Nat → Nat → Int32) (c s r q : Int32) : Nat → Nat → Int32 := if m_why F G c s r q = 0 then va_up (m_lv_G G (ix c) (ix s) (ix r) q) 7 (upd (G 7) (ix (G 8 (ix c))) (G 7 (ix (G 8 (ix c))) + q * G 17 (6 * ix c + ix s))) else G
def m_sb_G (F : Nat → Int32) (G : Nat → Nat → Int32) (c s r q : Int32) : Nat → Nat → Int32 := if m_why F G c s r q = 0 then m_lv_G G (ix c) (ix s) (ix r) q else G
def m_sta_v (F : Nat → Int32) (G : Nat → Nat → Int32) (c : Int32) : Int32 := if m_c_k F c = 0 then G 10 (ix c) else 0
def m_man_k (F : Nat → Int32) (c s : Int32) : Int32 := if m_in c 0 (F 19 - 1) = true then (if m_in s 0 5 = true then 0 else 2) else 1
def m_man_v (F : Nat → Int32) (G : Nat → Nat → Int32) (c s : Int32) : Int32 := if m_man_k F c s = 0 then G 16 (6 * ix c + ix s) else 0
def m_sto_k (s r : Int32) : Int32 := if m_in s 0 5 = true ∧ m_in r 0 2 = true then 0 else 1
def m_sto_v (G : Nat → Nat → Int32) (n : Nat) (s r : Int32) : Int32 := if m_sto_k s r = 0 then m_sr G (ix s) (ix r) n else 0
def m_tr_k (t : Int32) : Int32 := if m_in t 0 3 = true then 0 else 1
def m_tr_v (G : Nat → Nat → Int32) (j : Nat) (t : Int32) : Int32 := if m_tr_k t = 0 then G j (ix t) else 0
theorem gd_true {s r q : Int32} (h : m_gd s r q = true) : m_in s 0 5 = true ∧ m_in r 0 2 = true ∧ m_in q 1 100 = true := by
  simp only [m_gd, Bool.and_eq_true] at h
  exact ⟨h.1.1, h.1.2, h.2⟩
theorem why_0 {F : Nat → Int32} {G : Nat → Nat → Int32} {c s r q : Int32} (h : m_why F G c s r q = 0) : m_in c 0 (F 19 - 1) = true ∧ m_gd s r q = true ∧ ¬ G 18 (3 * (6 * ix c + ix s) + ix r) < q := by
  unfold m_why at h
  split at h
  · split at h
    · split at h
      · exact absurd h (by decide)
      · exact ⟨by assumption, by assumption, by assumption⟩
    · exact absurd h (by decide)
  · exact absurd h (by decide)
theorem dsc_X2_isIn : fw_dsc yX2_isIn 3 := by decide +kernel
set_option maxHeartbeats 4000000 in
set_option maxRecDepth 100000 in
theorem ct_X2_isIn {l : Launch} {D : va_G} {K : Nat → ClassId} {ws : va_W} (v lo hi : Int32) : fw_C (S := Unit) l yX2_isIn wsX2_isIn ({ frames := 0, cells := 0, slots := 0, locals := 0 }) 0 0 false [.int v, .int lo, .int hi] D (tyS K) (ws) (fun r _ => r = some (.int (b2i (m_in v lo hi = true)))) (fun _ => ws) (fun _ => False) := by
  refine fw_met (maxL := 3) (ret := (some .boolean)) (by decide) rfl (Nat.le_of_ble_eq_true rfl) ?_
  intro p e s m args below meth c A X hr hlk hnm htab hE
  refine fw_lv (lv' := [(0, .int v), (1, .int lo), (2, .int hi)]) [0, 1, 2] rfl ?_
  refine fw_iload_n (pc := 0) X dX2_isIn_0 rfl 0 rfl ?_
  refine fw_iload_n (pc := 1) X dX2_isIn_1 rfl 1 rfl ?_
  refine fw_icmp_lt (pc := 2) (tgt := 14) X dX2_isIn_2 (by decide) (fun c_1 => ?_) (fun c_1 => ?_)
  · refine fw_iconst (pc := 14) (v := 0) X dX2_isIn_14 (by decide) ?_
    exact fw_zret (pc := 15) X hr nr_0 hlk (Nat.le_of_ble_eq_true rfl) (Nat.le_of_ble_eq_true rfl) dX2_isIn_15 () (by simp [m_in, c_1]) (by simp [m_in, c_1])
  · refine fw_iload_n (pc := 5) X dX2_isIn_5 rfl 0 rfl ?_
    refine fw_iload_n (pc := 6) X dX2_isIn_6 rfl 2 rfl ?_
    refine fw_icmp_gt (pc := 7) (tgt := 14) X dX2_isIn_7 (by decide) (fun c_2 => ?_) (fun c_2 => ?_)
    · refine fw_iconst (pc := 14) (v := 0) X dX2_isIn_14 (by decide) ?_
      exact fw_zret (pc := 15) X hr nr_0 hlk (Nat.le_of_ble_eq_true rfl) (Nat.le_of_ble_eq_true rfl) dX2_isIn_15 () (by simp [m_in, c_1, c_2]) (by simp [m_in, c_1, c_2])
    · refine fw_iconst (pc := 10) (v := 1) X dX2_isIn_10 (by decide) ?_
      refine fw_goto (pc := 11) (tgt := 15) X dX2_isIn_11 (by decide) ?_
      exact fw_zret (pc := 15) X hr nr_1 hlk (Nat.le_of_ble_eq_true rfl) (Nat.le_of_ble_eq_true rfl) dX2_isIn_15 () (by simp [m_in, c_1, c_2]) (by simp [m_in, c_1, c_2])
theorem dsc_X2_isSort : fw_dsc yX2_isSort 1 := by decide +kernel
set_option maxHeartbeats 4000000 in
set_option maxRecDepth 100000 in
theorem ct_X2_isSort {l : Launch} {D : va_G} {K : Nat → ClassId} {ws : va_W} (v : Int32) : fw_C (S := Unit) l yX2_isSort wsX2_isSort ({ frames := 1, cells := 0, slots := 0, locals := 22 }) 0 0 false [.int v] D (tyS K) (ws) (fun r _ => r = some (.int (b2i (m_in v 0 5 = true)))) (fun _ => ws) (fun _ => False) := by
  refine fw_met (maxL := 1) (ret := (some .boolean)) (by decide) rfl (Nat.le_of_ble_eq_true rfl) ?_
  intro p e s m args below meth c A X hr hlk hnm htab hE
  refine fw_lv (lv' := [(0, .int v)]) [0] rfl ?_
  refine fw_iload_n (pc := 0) X dX2_isSort_0 rfl 0 rfl ?_
  refine fw_iconst (pc := 1) (v := 0) X dX2_isSort_1 (by decide) ?_
  refine fw_iconst (pc := 2) (v := 5) X dX2_isSort_2 (by decide) ?_
  refine fw_callS (pc := 3) (n := 3) X hE [.int v, .int 0, .int 5] (ct_X2_isIn v 0 5) (by decide) gX2_isSort_X2_isIn rfl ⟨rfl, rfl⟩ dsc_X2_isIn ⟨Nat.le_of_ble_eq_true rfl, Nat.le_of_ble_eq_true rfl⟩ rfl rfl (Nat.le_of_ble_eq_true rfl) dX2_isSort_3 ⟨Nat.le_of_ble_eq_true rfl, Nat.le_of_ble_eq_true rfl⟩ (fun _ q => q.elim) (fun r0 u0 r_1 => ?_)
  subst r_1
  exact fw_zret (pc := 6) X hr nr_b hlk (Nat.le_of_ble_eq_true rfl) (Nat.le_of_ble_eq_true rfl) dX2_isSort_6 () rfl rfl
theorem dsc_X2_isTrader : fw_dsc yX2_isTrader 1 := by decide +kernel
set_option maxHeartbeats 4000000 in
set_option maxRecDepth 100000 in
theorem ct_X2_isTrader {l : Launch} {D : va_G} {K : Nat → ClassId} {ws : va_W} (v : Int32) : fw_C (S := Unit) l yX2_isTrader wsX2_isTrader ({ frames := 1, cells := 0, slots := 0, locals := 22 }) 0 0 false [.int v] D (tyS K) (ws) (fun r _ => r = some (.int (b2i (m_in v 0 3 = true)))) (fun _ => ws) (fun _ => False) := by
  refine fw_met (maxL := 1) (ret := (some .boolean)) (by decide) rfl (Nat.le_of_ble_eq_true rfl) ?_
  intro p e s m args below meth c A X hr hlk hnm htab hE
  refine fw_lv (lv' := [(0, .int v)]) [0] rfl ?_
  refine fw_iload_n (pc := 0) X dX2_isTrader_0 rfl 0 rfl ?_
  refine fw_iconst (pc := 1) (v := 0) X dX2_isTrader_1 (by decide) ?_
  refine fw_iconst (pc := 2) (v := 3) X dX2_isTrader_2 (by decide) ?_
  refine fw_callS (pc := 3) (n := 3) X hE [.int v, .int 0, .int 3] (ct_X2_isIn v 0 3) (by decide) gX2_isTrader_X2_isIn rfl ⟨rfl, rfl⟩ dsc_X2_isIn ⟨Nat.le_of_ble_eq_true rfl, Nat.le_of_ble_eq_true rfl⟩ rfl rfl (Nat.le_of_ble_eq_true rfl) dX2_isTrader_3 ⟨Nat.le_of_ble_eq_true rfl, Nat.le_of_ble_eq_true rfl⟩ (fun _ q => q.elim) (fun r0 u0 r_1 => ?_)
  subst r_1
  exact fw_zret (pc := 6) X hr nr_b hlk (Nat.le_of_ble_eq_true rfl) (Nat.le_of_ble_eq_true rfl) dX2_isTrader_6 () rfl rfl
theorem dsc_X2_isStore : fw_dsc yX2_isStore 1 := by decide +kernel
set_option maxHeartbeats 4000000 in
set_option maxRecDepth 100000 in
theorem ct_X2_isStore {l : Launch} {D : va_G} {K : Nat → ClassId} {ws : va_W} (v : Int32) : fw_C (S := Unit) l yX2_isStore wsX2_isStore ({ frames := 1, cells := 0, slots := 0, locals := 22 }) 0 0 false [.int v] D (tyS K) (ws) (fun r _ => r = some (.int (b2i (m_in v 0 2 = true)))) (fun _ => ws) (fun _ => False) := by
  refine fw_met (maxL := 1) (ret := (some .boolean)) (by decide) rfl (Nat.le_of_ble_eq_true rfl) ?_
  intro p e s m args below meth c A X hr hlk hnm htab hE
  refine fw_lv (lv' := [(0, .int v)]) [0] rfl ?_
  refine fw_iload_n (pc := 0) X dX2_isStore_0 rfl 0 rfl ?_
  refine fw_iconst (pc := 1) (v := 0) X dX2_isStore_1 (by decide) ?_
  refine fw_iconst (pc := 2) (v := 2) X dX2_isStore_2 (by decide) ?_
  refine fw_callS (pc := 3) (n := 3) X hE [.int v, .int 0, .int 2] (ct_X2_isIn v 0 2) (by decide) gX2_isStore_X2_isIn rfl ⟨rfl, rfl⟩ dsc_X2_isIn ⟨Nat.le_of_ble_eq_true rfl, Nat.le_of_ble_eq_true rfl⟩ rfl rfl (Nat.le_of_ble_eq_true rfl) dX2_isStore_3 ⟨Nat.le_of_ble_eq_true rfl, Nat.le_of_ble_eq_true rfl⟩ (fun _ q => q.elim) (fun r0 u0 r_1 => ?_)
  subst r_1
  exact fw_zret (pc := 6) X hr nr_b hlk (Nat.le_of_ble_eq_true rfl) (Nat.le_of_ble_eq_true rfl) dX2_isStore_6 () rfl rfl
theorem dsc_X2_at : fw_dsc yX2_at 3 := by decide +kernel
set_option maxHeartbeats 4000000 in
set_option maxRecDepth 100000 in
theorem ct_X2_at {l : Launch} {D : va_G} {K : Nat → ClassId} {ws : va_W} (v y z : Int32) : fw_C (S := Unit) l yX2_at wsX2_at ({ frames := 0, cells := 0, slots := 0, locals := 0 }) 0 0 false [.int v, .int y, .int z] D (tyS K) (ws) (fun r _ => r = some (.int (3 * (6 * v + y) + z))) (fun _ => ws) (fun _ => False) := by
  refine fw_met (maxL := 3) (ret := (some .int)) (by decide) rfl (Nat.le_of_ble_eq_true rfl) ?_
  intro p e s m args below meth c A X hr hlk hnm htab hE
  refine fw_lv (lv' := [(0, .int v), (1, .int y), (2, .int z)]) [0, 1, 2] rfl ?_
  refine fw_iconst (pc := 0) (v := 3) X dX2_at_0 (by decide) ?_
  refine fw_bipush (pc := 1) (v := 6) X dX2_at_1 (by decide) ?_
  refine fw_iload_n (pc := 3) X dX2_at_3 rfl 0 rfl ?_
  refine fw_imul (pc := 4) X dX2_at_4 ?_
  refine fw_iload_n (pc := 5) X dX2_at_5 rfl 1 rfl ?_
  refine fw_iadd (pc := 6) X dX2_at_6 ?_
  refine fw_imul (pc := 7) X dX2_at_7 ?_
  refine fw_iload_n (pc := 8) X dX2_at_8 rfl 2 rfl ?_
  refine fw_iadd (pc := 9) X dX2_at_9 ?_
  exact fw_iret (pc := 10) X hr hlk (Nat.le_of_ble_eq_true rfl) (Nat.le_of_ble_eq_true rfl) dX2_at_10 () rfl rfl
theorem kX2_thrown_63 : Cond.fieldLink RX2 63 (TX2 0).1 (TX2 0).2.1 (TX2 0).2.2.1 ∈ wsX2_thrown := by decide +kernel
set_option maxRecDepth 20000 in
theorem iX2_thrown_X2 : ∀ w ∈ wsX20, w ∈ wsX2_thrown := by decide +kernel
theorem dsc_X2_thrown : fw_dsc yX2_thrown 0 := by decide +kernel
set_option maxHeartbeats 4000000 in
set_option maxRecDepth 100000 in
theorem ct_X2_thrown {l : Launch} {D : va_G} {K : Nat → ClassId} {a : Nat → Nat} {F : Nat → Int32} {G : Nat → Nat → Int32}  : fw_C (S := Unit) l yX2_thrown wsX2_thrown ({ frames := 0, cells := 0, slots := 0, locals := 0 }) 0 0 false [.ref (a 0)] D (tyS K) (MW K a F G) (fun r _ => r = some (.int (F 0))) (fun _ => MW K a F G) (fun _ => False) := by
  refine fw_met (maxL := 1) (ret := (some .int)) (by decide) rfl (Nat.le_of_ble_eq_true rfl) ?_
  intro p e s m args below meth c A X hr hlk hnm htab hE
  refine fw_lv (lv' := [(0, .ref (a 0))]) [0] rfl ?_
  refine fw_aload_n (pc := 0) X dX2_thrown_0 rfl 0 rfl ?_
  refine fw_get (pc := 1) (v := .int (F 0)) X iX2_thrown_X2 0 M_obj rfl 0 (by decide) kX2_thrown_63 rfl dX2_thrown_1 ?_
  exact fw_iret (pc := 4) X hr hlk (Nat.le_of_ble_eq_true rfl) (Nat.le_of_ble_eq_true rfl) dX2_thrown_4 () rfl rfl
theorem kX2_isFine_63 : Cond.fieldLink RX2 63 (TX2 0).1 (TX2 0).2.1 (TX2 0).2.2.1 ∈ wsX2_isFine := by decide +kernel
set_option maxRecDepth 20000 in
theorem iX2_isFine_X2 : ∀ w ∈ wsX20, w ∈ wsX2_isFine := by decide +kernel
theorem dsc_X2_isFine : fw_dsc yX2_isFine 1 := by decide +kernel
set_option maxHeartbeats 4000000 in
set_option maxRecDepth 100000 in
theorem ct_X2_isFine {l : Launch} {D : va_G} {K : Nat → ClassId} {a : Nat → Nat} {F : Nat → Int32} {G : Nat → Nat → Int32} (v : Int32) : fw_C (S := Unit) l yX2_isFine wsX2_isFine ({ frames := 0, cells := 0, slots := 0, locals := 0 }) 0 0 false [.ref (a 0), .int v] D (tyS K) (MW K a F G) (fun r _ => r = some (.int (b2i (v = 0)))) (fun _ => MW K a (upd F 0 v) G) (fun _ => False) := by
  refine fw_met (maxL := 2) (ret := (some .boolean)) (by decide) rfl (Nat.le_of_ble_eq_true rfl) ?_
  intro p e s m args below meth c A X hr hlk hnm htab hE
  refine fw_lv (lv' := [(0, .ref (a 0)), (1, .int v)]) [0, 1] rfl ?_
  refine fw_aload_n (pc := 0) X dX2_isFine_0 rfl 0 rfl ?_
  refine fw_iload_n (pc := 1) X dX2_isFine_1 rfl 1 rfl ?_
  refine fw_put (pc := 2) (ws' := MW K a (upd F 0 v) G) X iX2_isFine_X2 tyX2 tyX2_ok nmX2 0 M_obj rfl 0 (by decide) kX2_isFine_63 rfl rfl rfl (Nat.le_of_ble_eq_true rfl) dX2_isFine_2 rfl ?_
  refine fw_iload_n (pc := 5) X dX2_isFine_5 rfl 1 rfl ?_
  refine fw_if_ne (pc := 6) (tgt := 13) X dX2_isFine_6 (by decide) (fun c_1 => ?_) (fun c_1 => ?_)
  · refine fw_iconst (pc := 13) (v := 0) X dX2_isFine_13 (by decide) ?_
    exact fw_zret (pc := 14) X hr nr_0 hlk (Nat.le_of_ble_eq_true rfl) (Nat.le_of_ble_eq_true rfl) dX2_isFine_14 () (by simp [c_1]) (by simp [c_1])
  · refine fw_iconst (pc := 9) (v := 1) X dX2_isFine_9 (by decide) ?_
    refine fw_goto (pc := 10) (tgt := 14) X dX2_isFine_10 (by decide) ?_
    exact fw_zret (pc := 14) X hr nr_1 hlk (Nat.le_of_ble_eq_true rfl) (Nat.le_of_ble_eq_true rfl) dX2_isFine_14 () (by simp [c_1]) (by simp [c_1])
theorem kX2_isConsignment_70 : Cond.fieldLink RX2 70 (TX2 19).1 (TX2 19).2.1 (TX2 19).2.2.1 ∈ wsX2_isConsignment := by decide +kernel
set_option maxRecDepth 20000 in
theorem iX2_isConsignment_X2 : ∀ w ∈ wsX20, w ∈ wsX2_isConsignment := by decide +kernel
theorem dsc_X2_isConsignment : fw_dsc yX2_isConsignment 1 := by decide +kernel
set_option maxHeartbeats 4000000 in
set_option maxRecDepth 100000 in
theorem ct_X2_isConsignment {l : Launch} {D : va_G} {K : Nat → ClassId} {a : Nat → Nat} {F : Nat → Int32} {G : Nat → Nat → Int32} (v : Int32) : fw_C (S := Unit) l yX2_isConsignment wsX2_isConsignment ({ frames := 1, cells := 0, slots := 0, locals := 22 }) 0 0 false [.ref (a 0), .int v] D (tyS K) (MW K a F G) (fun r _ => r = some (.int (b2i (m_in v 0 (F 19 - 1) = true)))) (fun _ => MW K a F G) (fun _ => False) := by
  refine fw_met (maxL := 2) (ret := (some .boolean)) (by decide) rfl (Nat.le_of_ble_eq_true rfl) ?_
  intro p e s m args below meth c A X hr hlk hnm htab hE
  refine fw_lv (lv' := [(0, .ref (a 0)), (1, .int v)]) [0, 1] rfl ?_
  refine fw_iload_n (pc := 0) X dX2_isConsignment_0 rfl 1 rfl ?_
  refine fw_iconst (pc := 1) (v := 0) X dX2_isConsignment_1 (by decide) ?_
  refine fw_aload_n (pc := 2) X dX2_isConsignment_2 rfl 0 rfl ?_
  refine fw_get (pc := 3) (v := .int (F 19)) X iX2_isConsignment_X2 0 M_obj rfl 19 (by decide) kX2_isConsignment_70 rfl dX2_isConsignment_3 ?_
  refine fw_iconst (pc := 6) (v := 1) X dX2_isConsignment_6 (by decide) ?_
  refine fw_isub (pc := 7) X dX2_isConsignment_7 ?_
  refine fw_callS (pc := 8) (n := 3) X hE [.int v, .int 0, .int ((F 19) - 1)] (ct_X2_isIn v 0 ((F 19) - 1)) (by decide) gX2_isConsignment_X2_isIn rfl ⟨rfl, rfl⟩ dsc_X2_isIn ⟨Nat.le_of_ble_eq_true rfl, Nat.le_of_ble_eq_true rfl⟩ rfl rfl (Nat.le_of_ble_eq_true rfl) dX2_isConsignment_8 ⟨Nat.le_of_ble_eq_true rfl, Nat.le_of_ble_eq_true rfl⟩ (fun _ q => q.elim) (fun r0 u0 r_1 => ?_)
  subst r_1
  exact fw_zret (pc := 11) X hr nr_b hlk (Nat.le_of_ble_eq_true rfl) (Nat.le_of_ble_eq_true rfl) dX2_isConsignment_11 () rfl rfl
theorem kX2_isEmpty_54 : Cond.fieldLink RX2 54 (TX2 16).1 (TX2 16).2.1 (TX2 16).2.2.1 ∈ wsX2_isEmpty := by decide +kernel
set_option maxRecDepth 20000 in
theorem iX2_isEmpty_X2 : ∀ w ∈ wsX20, w ∈ wsX2_isEmpty := by decide +kernel
set_option maxHeartbeats 4000000 in
set_option maxRecDepth 100000 in
theorem lp_X2_isEmpty_4 {p : Program} {l : Launch} {e : Env} {R : Room} {s : State} {m : MethodId} {args : Array Value} {below : List Frame} {meth : Method} {c : Code} {D : va_G} {A : Nat → Prop} {Q : State → Prop} {cells slots : Nat} {K : Nat → ClassId} {a : Nat → Nat} {F : Nat → Int32} {G : Nat → Nat → Int32} (v : Int32) (k : Nat) (hv : v = nI k) (hk : k < 15) (X : fw_X p s m args c D A 4 cX2_isEmpty RX2 wsX2_isEmpty (tyS K))  (kk : fw_W p l e R s m args below meth c D A 4 Q (MW K a F G) cells slots [(0, .ref (a 0)), (1, .int v), (2, .int (m_em G k 6)), (3, .int (nI 6))] 30 []) : ∀ (d i : Nat), i + d = 6 → fw_W p l e R s m args below meth c D A 4 Q (MW K a F G) cells slots [(0, .ref (a 0)), (1, .int v), (2, .int (m_em G k i)), (3, .int (nI i))] 4 [] := by
  intro d
  induction d with
  | zero =>
    intro i hi
    obtain rfl : i = 6 := by omega
    refine fw_iload_n (pc := 4) X dX2_isEmpty_4 rfl 3 rfl ?_
    refine fw_bipush (pc := 5) (v := 6) X dX2_isEmpty_5 (by decide) ?_
    refine fw_icmp_ge (pc := 7) (tgt := 30) X dX2_isEmpty_7 (by decide) (fun _ => ?_) (fun q => absurd (by decide) q)
    exact kk
  | succ d ih =>
    intro i hi
    refine fw_iload_n (pc := 4) X dX2_isEmpty_4 rfl 3 rfl ?_
    refine fw_bipush (pc := 5) (v := 6) X dX2_isEmpty_5 (by decide) ?_
    refine fw_icmp_ge (pc := 7) (tgt := 30) X dX2_isEmpty_7 (by decide) (fun q => absurd q (nI_ge (a := i) (b := 6) (by omega) (by omega))) (fun _ => ?_)
    refine fw_iload_n (pc := 10) X dX2_isEmpty_10 rfl 2 rfl ?_
    refine fw_aload_n (pc := 11) X dX2_isEmpty_11 rfl 0 rfl ?_
    refine fw_get (pc := 12) (v := .ref (a 16)) X iX2_isEmpty_X2 0 M_obj rfl 16 (by decide) kX2_isEmpty_54 rfl dX2_isEmpty_12 ?_
    refine fw_bipush (pc := 15) (v := 6) X dX2_isEmpty_15 (by decide) ?_
    refine fw_iload_n (pc := 17) X dX2_isEmpty_17 rfl 1 rfl ?_
    refine fw_imul (pc := 18) X dX2_isEmpty_18 ?_
    refine fw_iload_n (pc := 19) X dX2_isEmpty_19 rfl 3 rfl ?_
    refine fw_iadd (pc := 20) X dX2_isEmpty_20 ?_
    refine fw_iald (pc := 21) (f := G 16) X 14 0 (M_g16 (G := G)) rfl ((6 * k) + i) (nf_add (nf_mul rfl hv) rfl) (by omega) (by decide) dX2_isEmpty_21 ?_
    refine fw_iadd (pc := 22) X dX2_isEmpty_22 ?_
    refine fw_iv (show (m_em G k i) + (G 16 ((6 * k) + i)) = m_em G k ((i + 1)) from rfl) ?_
    refine fw_istore_n (pc := 23) (lv' := [(2, .int (m_em G k ((i + 1)))), (0, .ref (a 0)), (1, .int v), (3, .int (nI i))]) X dX2_isEmpty_23 rfl (by decide) rfl ?_
    refine fw_iinc (pc := 24) (v := nI (i + 1)) (lv' := [(3, .int (nI (i + 1))), (2, .int (m_em G k ((i + 1)))), (0, .ref (a 0)), (1, .int v)]) (j := 3) X dX2_isEmpty_24 rfl (nI_1 _) (by decide) rfl ?_
    refine fw_goto (pc := 27) (tgt := 4) X dX2_isEmpty_27 (by decide) ?_
    refine fw_lv (lv' := [(0, .ref (a 0)), (1, .int v), (2, .int (m_em G k ((i + 1)))), (3, .int (nI ((i + 1))))]) [2, 3, 1, 0] rfl ?_
    exact ih (i + 1) (by omega)
theorem dsc_X2_isEmpty : fw_dsc yX2_isEmpty 1 := by decide +kernel
set_option maxHeartbeats 4000000 in
set_option maxRecDepth 100000 in
theorem ct_X2_isEmpty {l : Launch} {D : va_G} {K : Nat → ClassId} {a : Nat → Nat} {F : Nat → Int32} {G : Nat → Nat → Int32} (v : Int32) (k : Nat) (hv : v = nI k) (hk : k < 15) : fw_C (S := Unit) l yX2_isEmpty wsX2_isEmpty ({ frames := 0, cells := 0, slots := 0, locals := 0 }) 0 0 false [.ref (a 0), .int v] D (tyS K) (MW K a F G) (fun r _ => r = some (.int (b2i (m_em G k 6 = 0)))) (fun _ => MW K a F G) (fun _ => False) := by
  refine fw_met (maxL := 4) (ret := (some .boolean)) (by decide) rfl (Nat.le_of_ble_eq_true rfl) ?_
  intro p e s m args below meth c A X hr hlk hnm htab hE
  refine fw_lv (lv' := [(0, .ref (a 0)), (1, .int v)]) [0, 1] rfl ?_
  refine fw_iconst (pc := 0) (v := 0) X dX2_isEmpty_0 (by decide) ?_
  refine fw_istore_n (pc := 1) (lv' := [(2, .int 0), (0, .ref (a 0)), (1, .int v)]) X dX2_isEmpty_1 rfl (by decide) rfl ?_
  refine fw_iconst (pc := 2) (v := 0) X dX2_isEmpty_2 (by decide) ?_
  refine fw_istore_n (pc := 3) (lv' := [(3, .int 0), (2, .int 0), (0, .ref (a 0)), (1, .int v)]) X dX2_isEmpty_3 rfl (by decide) rfl ?_
  refine fw_lv (lv' := [(0, .ref (a 0)), (1, .int v), (2, .int (m_em G k 0)), (3, .int (nI 0))]) [2, 3, 1, 0] rfl ?_
  refine lp_X2_isEmpty_4 v k hv hk X ?_ 6 0 (by omega)
  refine fw_iload_n (pc := 30) X dX2_isEmpty_30 rfl 2 rfl ?_
  refine fw_if_ne (pc := 31) (tgt := 38) X dX2_isEmpty_31 (by decide) (fun c_1 => ?_) (fun c_1 => ?_)
  · refine fw_iconst (pc := 38) (v := 0) X dX2_isEmpty_38 (by decide) ?_
    exact fw_zret (pc := 39) X hr nr_0 hlk (Nat.le_of_ble_eq_true rfl) (Nat.le_of_ble_eq_true rfl) dX2_isEmpty_39 () (by simp [c_1]) (by simp [c_1])
  · refine fw_iconst (pc := 34) (v := 1) X dX2_isEmpty_34 (by decide) ?_
    refine fw_goto (pc := 35) (tgt := 39) X dX2_isEmpty_35 (by decide) ?_
    exact fw_zret (pc := 39) X hr nr_1 hlk (Nat.le_of_ble_eq_true rfl) (Nat.le_of_ble_eq_true rfl) dX2_isEmpty_39 () (by simp [c_1]) (by simp [c_1])
theorem kX2_riskNow_38 : Cond.fieldLink RX2 38 (TX2 11).1 (TX2 11).2.1 (TX2 11).2.2.1 ∈ wsX2_riskNow := by decide +kernel
theorem kX2_riskNow_51 : Cond.fieldLink RX2 51 (TX2 15).1 (TX2 15).2.1 (TX2 15).2.2.1 ∈ wsX2_riskNow := by decide +kernel
theorem kX2_riskNow_54 : Cond.fieldLink RX2 54 (TX2 16).1 (TX2 16).2.1 (TX2 16).2.2.1 ∈ wsX2_riskNow := by decide +kernel
set_option maxRecDepth 20000 in
theorem iX2_riskNow_X2 : ∀ w ∈ wsX20, w ∈ wsX2_riskNow := by decide +kernel
theorem kX2_riskNow_13 : Cond.fieldLink RX2 13 (TX2 2).1 (TX2 2).2.1 (TX2 2).2.2.1 ∈ wsX2_riskNow := by decide +kernel
set_option maxHeartbeats 4000000 in
set_option maxRecDepth 100000 in
theorem lp_X2_riskNow_29 {p : Program} {l : Launch} {e : Env} {R : Room} {s : State} {m : MethodId} {args : Array Value} {below : List Frame} {meth : Method} {c : Code} {D : va_G} {A : Nat → Prop} {Q : State → Prop} {cells slots : Nat} {K : Nat → ClassId} {a : Nat → Nat} {F : Nat → Int32} {G : Nat → Nat → Int32} (v : Int32) (k : Nat) (hv : v = nI k) (hk : k < 15) (X : fw_X p s m args c D A 4 cX2_riskNow RX2 wsX2_riskNow (tyS K))  (kk : fw_W p l e R s m args below meth c D A 4 Q (MW K a F G) cells slots [(0, .ref (a 0)), (1, .int v), (2, .int (m_rs G k 6)), (3, .int (nI 6))] 68 []) : ∀ (d i : Nat), i + d = 6 → fw_W p l e R s m args below meth c D A 4 Q (MW K a F G) cells slots [(0, .ref (a 0)), (1, .int v), (2, .int (m_rs G k i)), (3, .int (nI i))] 29 [] := by
  intro d
  induction d with
  | zero =>
    intro i hi
    obtain rfl : i = 6 := by omega
    refine fw_iload_n (pc := 29) X dX2_riskNow_29 rfl 3 rfl ?_
    refine fw_bipush (pc := 30) (v := 6) X dX2_riskNow_30 (by decide) ?_
    refine fw_icmp_ge (pc := 32) (tgt := 68) X dX2_riskNow_32 (by decide) (fun _ => ?_) (fun q => absurd (by decide) q)
    exact kk
  | succ d ih =>
    intro i hi
    refine fw_iload_n (pc := 29) X dX2_riskNow_29 rfl 3 rfl ?_
    refine fw_bipush (pc := 30) (v := 6) X dX2_riskNow_30 (by decide) ?_
    refine fw_icmp_ge (pc := 32) (tgt := 68) X dX2_riskNow_32 (by decide) (fun q => absurd q (nI_ge (a := i) (b := 6) (by omega) (by omega))) (fun _ => ?_)
    refine fw_iload_n (pc := 35) X dX2_riskNow_35 rfl 2 rfl ?_
    refine fw_aload_n (pc := 36) X dX2_riskNow_36 rfl 0 rfl ?_
    refine fw_get (pc := 37) (v := .ref (a 16)) X iX2_riskNow_X2 0 M_obj rfl 16 (by decide) kX2_riskNow_54 rfl dX2_riskNow_37 ?_
    refine fw_bipush (pc := 40) (v := 6) X dX2_riskNow_40 (by decide) ?_
    refine fw_iload_n (pc := 42) X dX2_riskNow_42 rfl 1 rfl ?_
    refine fw_imul (pc := 43) X dX2_riskNow_43 ?_
    refine fw_iload_n (pc := 44) X dX2_riskNow_44 rfl 3 rfl ?_
    refine fw_iadd (pc := 45) X dX2_riskNow_45 ?_
    refine fw_iald (pc := 46) (f := G 16) X 14 0 (M_g16 (G := G)) rfl ((6 * k) + i) (nf_add (nf_mul rfl hv) rfl) (by omega) (by decide) dX2_riskNow_46 ?_
    refine fw_if_le (pc := 47) (tgt := 59) X dX2_riskNow_47 (by decide) (fun c_1 => ?_) (fun c_1 => ?_)
    · refine fw_iconst (pc := 59) (v := 0) X dX2_riskNow_59 (by decide) ?_
      refine fw_iadd (pc := 60) X dX2_riskNow_60 ?_
      refine fw_iv (show (m_rs G k i) + 0 = m_rs G k ((i + 1)) from (by simp [m_rs, c_1])) ?_
      refine fw_istore_n (pc := 61) (lv' := [(2, .int (m_rs G k ((i + 1)))), (0, .ref (a 0)), (1, .int v), (3, .int (nI i))]) X dX2_riskNow_61 rfl (by decide) rfl ?_
      refine fw_iinc (pc := 62) (v := nI (i + 1)) (lv' := [(3, .int (nI (i + 1))), (2, .int (m_rs G k ((i + 1)))), (0, .ref (a 0)), (1, .int v)]) (j := 3) X dX2_riskNow_62 rfl (nI_1 _) (by decide) rfl ?_
      refine fw_goto (pc := 65) (tgt := 29) X dX2_riskNow_65 (by decide) ?_
      refine fw_lv (lv' := [(0, .ref (a 0)), (1, .int v), (2, .int (m_rs G k ((i + 1)))), (3, .int (nI ((i + 1))))]) [2, 3, 1, 0] rfl ?_
      exact ih (i + 1) (by omega)
    · refine fw_aload_n (pc := 50) X dX2_riskNow_50 rfl 0 rfl ?_
      refine fw_get (pc := 51) (v := .ref (a 2)) X iX2_riskNow_X2 0 M_obj rfl 2 (by decide) kX2_riskNow_13 rfl dX2_riskNow_51 ?_
      refine fw_iload_n (pc := 54) X dX2_riskNow_54 rfl 3 rfl ?_
      refine fw_iald (pc := 55) (f := G 2) X 2 0 (M_g2 (G := G)) rfl i rfl (by omega) (by decide) dX2_riskNow_55 ?_
      refine fw_goto (pc := 56) (tgt := 60) X dX2_riskNow_56 (by decide) ?_
      refine fw_iadd (pc := 60) X dX2_riskNow_60 ?_
      refine fw_iv (show (m_rs G k i) + (G 2 i) = m_rs G k ((i + 1)) from (by simp [m_rs, c_1])) ?_
      refine fw_istore_n (pc := 61) (lv' := [(2, .int (m_rs G k ((i + 1)))), (0, .ref (a 0)), (1, .int v), (3, .int (nI i))]) X dX2_riskNow_61 rfl (by decide) rfl ?_
      refine fw_iinc (pc := 62) (v := nI (i + 1)) (lv' := [(3, .int (nI (i + 1))), (2, .int (m_rs G k ((i + 1)))), (0, .ref (a 0)), (1, .int v)]) (j := 3) X dX2_riskNow_62 rfl (nI_1 _) (by decide) rfl ?_
      refine fw_goto (pc := 65) (tgt := 29) X dX2_riskNow_65 (by decide) ?_
      refine fw_lv (lv' := [(0, .ref (a 0)), (1, .int v), (2, .int (m_rs G k ((i + 1)))), (3, .int (nI ((i + 1))))]) [2, 3, 1, 0] rfl ?_
      exact ih (i + 1) (by omega)
theorem dsc_X2_riskNow : fw_dsc yX2_riskNow 1 := by decide +kernel
set_option maxHeartbeats 4000000 in
set_option maxRecDepth 100000 in
theorem ct_X2_riskNow {l : Launch} {D : va_G} {K : Nat → ClassId} {a : Nat → Nat} {F : Nat → Int32} {G : Nat → Nat → Int32} (v : Int32) (k : Nat) (hv : v = nI k) (hk : k < 15) : fw_C (S := Unit) l yX2_riskNow wsX2_riskNow ({ frames := 0, cells := 0, slots := 0, locals := 0 }) 0 0 false [.ref (a 0), .int v] D (tyS K) (MW K a F G) (fun r _ => r = some (.int (m_rs G k 6))) (fun _ => MW K a F G) (fun _ => False) := by
  refine fw_met (maxL := 4) (ret := (some .int)) (by decide) rfl (Nat.le_of_ble_eq_true rfl) ?_
  intro p e s m args below meth c A X hr hlk hnm htab hE
  refine fw_lv (lv' := [(0, .ref (a 0)), (1, .int v)]) [0, 1] rfl ?_
  refine fw_iconst (pc := 0) (v := 2) X dX2_riskNow_0 (by decide) ?_
  refine fw_aload_n (pc := 1) X dX2_riskNow_1 rfl 0 rfl ?_
  refine fw_get (pc := 2) (v := .ref (a 11)) X iX2_riskNow_X2 0 M_obj rfl 11 (by decide) kX2_riskNow_38 rfl dX2_riskNow_2 ?_
  refine fw_iload_n (pc := 5) X dX2_riskNow_5 rfl 1 rfl ?_
  refine fw_iald (pc := 6) (f := G 11) X 9 0 (M_g11 (G := G)) rfl k hv (by omega) (by decide) dX2_riskNow_6 ?_
  refine fw_iconst (pc := 7) (v := 1) X dX2_riskNow_7 (by decide) ?_
  refine fw_isub (pc := 8) X dX2_riskNow_8 ?_
  refine fw_imul (pc := 9) X dX2_riskNow_9 ?_
  refine fw_aload_n (pc := 10) X dX2_riskNow_10 rfl 0 rfl ?_
  refine fw_get (pc := 11) (v := .ref (a 15)) X iX2_riskNow_X2 0 M_obj rfl 15 (by decide) kX2_riskNow_51 rfl dX2_riskNow_11 ?_
  refine fw_iload_n (pc := 14) X dX2_riskNow_14 rfl 1 rfl ?_
  refine fw_zald (pc := 15) (f := G 15) X 13 1 (M_g15 (G := G)) rfl k hv (by omega) (by decide) dX2_riskNow_15 ?_
  refine fw_if_eq (pc := 16) (tgt := 24) X dX2_riskNow_16 (by decide) (fun c_2 => ?_) (fun c_2 => ?_)
  · refine fw_iconst (pc := 24) (v := 0) X dX2_riskNow_24 (by decide) ?_
    refine fw_iadd (pc := 25) X dX2_riskNow_25 ?_
    refine fw_iv (show (2 * ((G 11 k) - 1)) + 0 = m_rs G k 0 from (by simp [m_rs, c_2])) ?_
    refine fw_istore_n (pc := 26) (lv' := [(2, .int (m_rs G k 0)), (0, .ref (a 0)), (1, .int v)]) X dX2_riskNow_26 rfl (by decide) rfl ?_
    refine fw_iconst (pc := 27) (v := 0) X dX2_riskNow_27 (by decide) ?_
    refine fw_istore_n (pc := 28) (lv' := [(3, .int 0), (2, .int (m_rs G k 0)), (0, .ref (a 0)), (1, .int v)]) X dX2_riskNow_28 rfl (by decide) rfl ?_
    refine fw_lv (lv' := [(0, .ref (a 0)), (1, .int v), (2, .int (m_rs G k 0)), (3, .int (nI 0))]) [2, 3, 1, 0] rfl ?_
    refine lp_X2_riskNow_29 v k hv hk X ?_ 6 0 (by omega)
    refine fw_iload_n (pc := 68) X dX2_riskNow_68 rfl 2 rfl ?_
    exact fw_iret (pc := 69) X hr hlk (Nat.le_of_ble_eq_true rfl) (Nat.le_of_ble_eq_true rfl) dX2_riskNow_69 () rfl rfl
  · refine fw_bipush (pc := 19) (v := 30) X dX2_riskNow_19 (by decide) ?_
    refine fw_goto (pc := 21) (tgt := 25) X dX2_riskNow_21 (by decide) ?_
    refine fw_iadd (pc := 25) X dX2_riskNow_25 ?_
    refine fw_iv (show (2 * ((G 11 k) - 1)) + 30 = m_rs G k 0 from (by simp [m_rs, c_2])) ?_
    refine fw_istore_n (pc := 26) (lv' := [(2, .int (m_rs G k 0)), (0, .ref (a 0)), (1, .int v)]) X dX2_riskNow_26 rfl (by decide) rfl ?_
    refine fw_iconst (pc := 27) (v := 0) X dX2_riskNow_27 (by decide) ?_
    refine fw_istore_n (pc := 28) (lv' := [(3, .int 0), (2, .int (m_rs G k 0)), (0, .ref (a 0)), (1, .int v)]) X dX2_riskNow_28 rfl (by decide) rfl ?_
    refine fw_lv (lv' := [(0, .ref (a 0)), (1, .int v), (2, .int (m_rs G k 0)), (3, .int (nI 0))]) [2, 3, 1, 0] rfl ?_
    refine lp_X2_riskNow_29 v k hv hk X ?_ 6 0 (by omega)
    refine fw_iload_n (pc := 68) X dX2_riskNow_68 rfl 2 rfl ?_
    exact fw_iret (pc := 69) X hr hlk (Nat.le_of_ble_eq_true rfl) (Nat.le_of_ble_eq_true rfl) dX2_riskNow_69 () rfl rfl
theorem kX2_mustNow_35 : Cond.fieldLink RX2 35 (TX2 10).1 (TX2 10).2.1 (TX2 10).2.2.1 ∈ wsX2_mustNow := by decide +kernel
set_option maxRecDepth 20000 in
theorem iX2_mustNow_X2 : ∀ w ∈ wsX20, w ∈ wsX2_mustNow := by decide +kernel
theorem kX2_mustNow_44 : Cond.fieldLink RX2 44 (TX2 13).1 (TX2 13).2.1 (TX2 13).2.2.1 ∈ wsX2_mustNow := by decide +kernel
theorem kX2_mustNow_47 : Cond.fieldLink RX2 47 (TX2 14).1 (TX2 14).2.1 (TX2 14).2.2.1 ∈ wsX2_mustNow := by decide +kernel
theorem kX2_mustNow_16 : Cond.fieldLink RX2 16 (TX2 3).1 (TX2 3).2.1 (TX2 3).2.2.1 ∈ wsX2_mustNow := by decide +kernel
theorem dsc_X2_mustNow : fw_dsc yX2_mustNow 1 := by decide +kernel
set_option maxHeartbeats 4000000 in
set_option maxRecDepth 100000 in
theorem ct_X2_mustNow {l : Launch} {D : va_G} {K : Nat → ClassId} {a : Nat → Nat} {F : Nat → Int32} {G : Nat → Nat → Int32} (v : Int32) (k : Nat) (hv : v = nI k) (hk : k < 15) : fw_C (S := Unit) l yX2_mustNow wsX2_mustNow ({ frames := 1, cells := 0, slots := 0, locals := 23 }) 0 0 false [.ref (a 0), .int v] D (tyS K) (MW K a F G) (fun r _ => r = some (.int (b2i (m_must F G k = true)))) (fun _ => MW K a F G) (fun _ => False) := by
  refine fw_met (maxL := 2) (ret := (some .boolean)) (by decide) rfl (Nat.le_of_ble_eq_true rfl) ?_
  intro p e s m args below meth c A X hr hlk hnm htab hE
  refine fw_lv (lv' := [(0, .ref (a 0)), (1, .int v)]) [0, 1] rfl ?_
  refine fw_aload_n (pc := 0) X dX2_mustNow_0 rfl 0 rfl ?_
  refine fw_get (pc := 1) (v := .ref (a 10)) X iX2_mustNow_X2 0 M_obj rfl 10 (by decide) kX2_mustNow_35 rfl dX2_mustNow_1 ?_
  refine fw_iload_n (pc := 4) X dX2_mustNow_4 rfl 1 rfl ?_
  refine fw_iald (pc := 5) (f := G 10) X 8 0 (M_g10 (G := G)) rfl k hv (by omega) (by decide) dX2_mustNow_5 ?_
  refine fw_iconst (pc := 6) (v := 1) X dX2_mustNow_6 (by decide) ?_
  refine fw_icmp_ne (pc := 7) (tgt := 46) X dX2_mustNow_7 (by decide) (fun c_1 => ?_) (fun c_1 => ?_)
  · refine fw_iconst (pc := 46) (v := 0) X dX2_mustNow_46 (by decide) ?_
    exact fw_zret (pc := 47) X hr nr_0 hlk (Nat.le_of_ble_eq_true rfl) (Nat.le_of_ble_eq_true rfl) dX2_mustNow_47 () (by simp [m_must, c_1]) (by simp [m_must, c_1])
  · refine fw_aload_n (pc := 10) X dX2_mustNow_10 rfl 0 rfl ?_
    refine fw_get (pc := 11) (v := .ref (a 13)) X iX2_mustNow_X2 0 M_obj rfl 13 (by decide) kX2_mustNow_44 rfl dX2_mustNow_11 ?_
    refine fw_iload_n (pc := 14) X dX2_mustNow_14 rfl 1 rfl ?_
    refine fw_iald (pc := 15) (f := G 13) X 11 0 (M_g13 (G := G)) rfl k hv (by omega) (by decide) dX2_mustNow_15 ?_
    refine fw_bipush (pc := 16) (v := 63) X dX2_mustNow_16 (by decide) ?_
    refine fw_icmp_eq (pc := 18) (tgt := 46) X dX2_mustNow_18 (by decide) (fun c_2 => ?_) (fun c_2 => ?_)
    · refine fw_iconst (pc := 46) (v := 0) X dX2_mustNow_46 (by decide) ?_
      exact fw_zret (pc := 47) X hr nr_0 hlk (Nat.le_of_ble_eq_true rfl) (Nat.le_of_ble_eq_true rfl) dX2_mustNow_47 () (by simp [m_must, c_1, c_2]) (by simp [m_must, c_1, c_2])
    · refine fw_aload_n (pc := 21) X dX2_mustNow_21 rfl 0 rfl ?_
      refine fw_get (pc := 22) (v := .ref (a 14)) X iX2_mustNow_X2 0 M_obj rfl 14 (by decide) kX2_mustNow_47 rfl dX2_mustNow_22 ?_
      refine fw_iload_n (pc := 25) X dX2_mustNow_25 rfl 1 rfl ?_
      refine fw_zald (pc := 26) (f := G 14) X 12 1 (M_g14 (G := G)) rfl k hv (by omega) (by decide) dX2_mustNow_26 ?_
      refine fw_if_ne (pc := 27) (tgt := 42) X dX2_mustNow_27 (by decide) (fun c_3 => ?_) (fun c_3 => ?_)
      · refine fw_iconst (pc := 42) (v := 1) X dX2_mustNow_42 (by decide) ?_
        refine fw_goto (pc := 43) (tgt := 47) X dX2_mustNow_43 (by decide) ?_
        exact fw_zret (pc := 47) X hr nr_1 hlk (Nat.le_of_ble_eq_true rfl) (Nat.le_of_ble_eq_true rfl) dX2_mustNow_47 () (by simp [m_must, c_1, c_2, c_3]) (by simp [m_must, c_1, c_2, c_3])
      · refine fw_aload_n (pc := 30) X dX2_mustNow_30 rfl 0 rfl ?_
        refine fw_iload_n (pc := 31) X dX2_mustNow_31 rfl 1 rfl ?_
        refine fw_callV (pc := 32) (n := 1) (C := (RX2, TX2, 21)) (ci := 2) (q0 := 0) X hE [.int v] (ct_X2_riskNow v k hv (by omega)) (by decide) gX2_mustNow_X2_riskNow rfl ⟨rfl, rfl⟩ ⟨rfl, dsc_X2_riskNow⟩ ⟨Nat.le_of_ble_eq_true rfl, Nat.le_of_ble_eq_true rfl⟩ rfl M_obj rfl rfl (Nat.le_of_ble_eq_true rfl) dX2_mustNow_32 ⟨Nat.le_of_ble_eq_true rfl, Nat.le_of_ble_eq_true rfl⟩ (fun _ q => q.elim) (fun r0 u0 r_4 => ?_)
        subst r_4
        refine fw_aload_n (pc := 35) X dX2_mustNow_35 rfl 0 rfl ?_
        refine fw_get (pc := 36) (v := .int (F 3)) X iX2_mustNow_X2 0 M_obj rfl 3 (by decide) kX2_mustNow_16 rfl dX2_mustNow_36 ?_
        refine fw_icmp_lt (pc := 39) (tgt := 46) X dX2_mustNow_39 (by decide) (fun c_5 => ?_) (fun c_5 => ?_)
        · refine fw_iconst (pc := 46) (v := 0) X dX2_mustNow_46 (by decide) ?_
          exact fw_zret (pc := 47) X hr nr_0 hlk (Nat.le_of_ble_eq_true rfl) (Nat.le_of_ble_eq_true rfl) dX2_mustNow_47 () (by simp [m_must, c_1, c_2, c_3, c_5]) (by simp [m_must, c_1, c_2, c_3, c_5])
        · refine fw_iconst (pc := 42) (v := 1) X dX2_mustNow_42 (by decide) ?_
          refine fw_goto (pc := 43) (tgt := 47) X dX2_mustNow_43 (by decide) ?_
          exact fw_zret (pc := 47) X hr nr_1 hlk (Nat.le_of_ble_eq_true rfl) (Nat.le_of_ble_eq_true rfl) dX2_mustNow_47 () (by simp [m_must, c_1, c_2, c_3, c_5]) (by simp [m_must, c_1, c_2, c_3, c_5])
theorem kX2_owes_54 : Cond.fieldLink RX2 54 (TX2 16).1 (TX2 16).2.1 (TX2 16).2.2.1 ∈ wsX2_owes := by decide +kernel
set_option maxRecDepth 20000 in
theorem iX2_owes_X2 : ∀ w ∈ wsX20, w ∈ wsX2_owes := by decide +kernel
theorem kX2_owes_7 : Cond.fieldLink RX2 7 (TX2 1).1 (TX2 1).2.1 (TX2 1).2.2.1 ∈ wsX2_owes := by decide +kernel
set_option maxHeartbeats 4000000 in
set_option maxRecDepth 100000 in
theorem lp_X2_owes_4 {p : Program} {l : Launch} {e : Env} {R : Room} {s : State} {m : MethodId} {args : Array Value} {below : List Frame} {meth : Method} {c : Code} {D : va_G} {A : Nat → Prop} {Q : State → Prop} {cells slots : Nat} {K : Nat → ClassId} {a : Nat → Nat} {F : Nat → Int32} {G : Nat → Nat → Int32} (v : Int32) (k : Nat) (hv : v = nI k) (hk : k < 15) (X : fw_X p s m args c D A 4 cX2_owes RX2 wsX2_owes (tyS K))  (kk : fw_W p l e R s m args below meth c D A 4 Q (MW K a F G) cells slots [(0, .ref (a 0)), (1, .int v), (2, .int (m_ow G k 6)), (3, .int (nI 6))] 37 []) : ∀ (d i : Nat), i + d = 6 → fw_W p l e R s m args below meth c D A 4 Q (MW K a F G) cells slots [(0, .ref (a 0)), (1, .int v), (2, .int (m_ow G k i)), (3, .int (nI i))] 4 [] := by
  intro d
  induction d with
  | zero =>
    intro i hi
    obtain rfl : i = 6 := by omega
    refine fw_iload_n (pc := 4) X dX2_owes_4 rfl 3 rfl ?_
    refine fw_bipush (pc := 5) (v := 6) X dX2_owes_5 (by decide) ?_
    refine fw_icmp_ge (pc := 7) (tgt := 37) X dX2_owes_7 (by decide) (fun _ => ?_) (fun q => absurd (by decide) q)
    exact kk
  | succ d ih =>
    intro i hi
    refine fw_iload_n (pc := 4) X dX2_owes_4 rfl 3 rfl ?_
    refine fw_bipush (pc := 5) (v := 6) X dX2_owes_5 (by decide) ?_
    refine fw_icmp_ge (pc := 7) (tgt := 37) X dX2_owes_7 (by decide) (fun q => absurd q (nI_ge (a := i) (b := 6) (by omega) (by omega))) (fun _ => ?_)
    refine fw_iload_n (pc := 10) X dX2_owes_10 rfl 2 rfl ?_
    refine fw_aload_n (pc := 11) X dX2_owes_11 rfl 0 rfl ?_
    refine fw_get (pc := 12) (v := .ref (a 16)) X iX2_owes_X2 0 M_obj rfl 16 (by decide) kX2_owes_54 rfl dX2_owes_12 ?_
    refine fw_bipush (pc := 15) (v := 6) X dX2_owes_15 (by decide) ?_
    refine fw_iload_n (pc := 17) X dX2_owes_17 rfl 1 rfl ?_
    refine fw_imul (pc := 18) X dX2_owes_18 ?_
    refine fw_iload_n (pc := 19) X dX2_owes_19 rfl 3 rfl ?_
    refine fw_iadd (pc := 20) X dX2_owes_20 ?_
    refine fw_iald (pc := 21) (f := G 16) X 14 0 (M_g16 (G := G)) rfl ((6 * k) + i) (nf_add (nf_mul rfl hv) rfl) (by omega) (by decide) dX2_owes_21 ?_
    refine fw_aload_n (pc := 22) X dX2_owes_22 rfl 0 rfl ?_
    refine fw_get (pc := 23) (v := .ref (a 1)) X iX2_owes_X2 0 M_obj rfl 1 (by decide) kX2_owes_7 rfl dX2_owes_23 ?_
    refine fw_iload_n (pc := 26) X dX2_owes_26 rfl 3 rfl ?_
    refine fw_iald (pc := 27) (f := G 1) X 1 0 (M_g1 (G := G)) rfl i rfl (by omega) (by decide) dX2_owes_27 ?_
    refine fw_imul (pc := 28) X dX2_owes_28 ?_
    refine fw_iadd (pc := 29) X dX2_owes_29 ?_
    refine fw_iv (show (m_ow G k i) + ((G 16 ((6 * k) + i)) * (G 1 i)) = m_ow G k ((i + 1)) from rfl) ?_
    refine fw_istore_n (pc := 30) (lv' := [(2, .int (m_ow G k ((i + 1)))), (0, .ref (a 0)), (1, .int v), (3, .int (nI i))]) X dX2_owes_30 rfl (by decide) rfl ?_
    refine fw_iinc (pc := 31) (v := nI (i + 1)) (lv' := [(3, .int (nI (i + 1))), (2, .int (m_ow G k ((i + 1)))), (0, .ref (a 0)), (1, .int v)]) (j := 3) X dX2_owes_31 rfl (nI_1 _) (by decide) rfl ?_
    refine fw_goto (pc := 34) (tgt := 4) X dX2_owes_34 (by decide) ?_
    refine fw_lv (lv' := [(0, .ref (a 0)), (1, .int v), (2, .int (m_ow G k ((i + 1)))), (3, .int (nI ((i + 1))))]) [2, 3, 1, 0] rfl ?_
    exact ih (i + 1) (by omega)
theorem dsc_X2_owes : fw_dsc yX2_owes 1 := by decide +kernel
set_option maxHeartbeats 4000000 in
set_option maxRecDepth 100000 in
theorem ct_X2_owes {l : Launch} {D : va_G} {K : Nat → ClassId} {a : Nat → Nat} {F : Nat → Int32} {G : Nat → Nat → Int32} (v : Int32) (k : Nat) (hv : v = nI k) (hk : k < 15) : fw_C (S := Unit) l yX2_owes wsX2_owes ({ frames := 0, cells := 0, slots := 0, locals := 0 }) 0 0 false [.ref (a 0), .int v] D (tyS K) (MW K a F G) (fun r _ => r = some (.int (m_ow G k 6))) (fun _ => MW K a F G) (fun _ => False) := by
  refine fw_met (maxL := 4) (ret := (some .int)) (by decide) rfl (Nat.le_of_ble_eq_true rfl) ?_
  intro p e s m args below meth c A X hr hlk hnm htab hE
  refine fw_lv (lv' := [(0, .ref (a 0)), (1, .int v)]) [0, 1] rfl ?_
  refine fw_iconst (pc := 0) (v := 0) X dX2_owes_0 (by decide) ?_
  refine fw_istore_n (pc := 1) (lv' := [(2, .int 0), (0, .ref (a 0)), (1, .int v)]) X dX2_owes_1 rfl (by decide) rfl ?_
  refine fw_iconst (pc := 2) (v := 0) X dX2_owes_2 (by decide) ?_
  refine fw_istore_n (pc := 3) (lv' := [(3, .int 0), (2, .int 0), (0, .ref (a 0)), (1, .int v)]) X dX2_owes_3 rfl (by decide) rfl ?_
  refine fw_lv (lv' := [(0, .ref (a 0)), (1, .int v), (2, .int (m_ow G k 0)), (3, .int (nI 0))]) [2, 3, 1, 0] rfl ?_
  refine lp_X2_owes_4 v k hv hk X ?_ 6 0 (by omega)
  refine fw_iload_n (pc := 37) X dX2_owes_37 rfl 2 rfl ?_
  exact fw_iret (pc := 38) X hr hlk (Nat.le_of_ble_eq_true rfl) (Nat.le_of_ble_eq_true rfl) dX2_owes_38 () rfl rfl
theorem dsc_X2_isGoods : fw_dsc yX2_isGoods 3 := by decide +kernel
set_option maxHeartbeats 4000000 in
set_option maxRecDepth 100000 in
theorem ct_X2_isGoods {l : Launch} {D : va_G} {K : Nat → ClassId} {ws : va_W} (v x y : Int32) : fw_C (S := Unit) l yX2_isGoods wsX2_isGoods ({ frames := 2, cells := 0, slots := 0, locals := 42 }) 0 0 false [.int v, .int x, .int y] D (tyS K) (ws) (fun r _ => r = some (.int (b2i (m_gd v x y = true)))) (fun _ => ws) (fun _ => False) := by
  refine fw_met (maxL := 3) (ret := (some .boolean)) (by decide) rfl (Nat.le_of_ble_eq_true rfl) ?_
  intro p e s m args below meth c A X hr hlk hnm htab hE
  refine fw_lv (lv' := [(0, .int v), (1, .int x), (2, .int y)]) [0, 1, 2] rfl ?_
  refine fw_iload_n (pc := 0) X dX2_isGoods_0 rfl 0 rfl ?_
  refine fw_callS (pc := 1) (n := 1) X hE [.int v] (ct_X2_isSort v) (by decide) gX2_isGoods_X2_isSort rfl ⟨rfl, rfl⟩ dsc_X2_isSort ⟨Nat.le_of_ble_eq_true rfl, Nat.le_of_ble_eq_true rfl⟩ rfl rfl (Nat.le_of_ble_eq_true rfl) dX2_isGoods_1 ⟨Nat.le_of_ble_eq_true rfl, Nat.le_of_ble_eq_true rfl⟩ (fun _ q => q.elim) (fun r0 u0 r_1 => ?_)
  subst r_1
  show fw_W _ _ _ _ _ _ _ _ _ _ _ _ _ _ _ _ _ _ _ (.int (b2i (m_in v 0 5 = true)) :: _)
  by_cases c_2 : m_in v 0 5 = true
  · obtain ⟨hx_v, hl_v⟩ := in_ix (h := 5) (N := 6) (by decide) (by decide) c_2
    refine fw_iv (y := 1) (if_pos c_2) ?_
    refine fw_if_eq (pc := 4) (tgt := 28) X dX2_isGoods_4 (by decide) (fun q => absurd q (by decide)) (fun _ => ?_)
    refine fw_iload_n (pc := 7) X dX2_isGoods_7 rfl 1 rfl ?_
    refine fw_callS (pc := 8) (n := 1) X hE [.int x] (ct_X2_isStore x) (by decide) gX2_isGoods_X2_isStore rfl ⟨rfl, rfl⟩ dsc_X2_isStore ⟨Nat.le_of_ble_eq_true rfl, Nat.le_of_ble_eq_true rfl⟩ rfl rfl (Nat.le_of_ble_eq_true rfl) dX2_isGoods_8 ⟨Nat.le_of_ble_eq_true rfl, Nat.le_of_ble_eq_true rfl⟩ (fun _ q => q.elim) (fun r0 u0 r_3 => ?_)
    subst r_3
    show fw_W _ _ _ _ _ _ _ _ _ _ _ _ _ _ _ _ _ _ _ (.int (b2i (m_in x 0 2 = true)) :: _)
    by_cases c_4 : m_in x 0 2 = true
    · obtain ⟨hx_x, hl_x⟩ := in_ix (h := 2) (N := 3) (by decide) (by decide) c_4
      refine fw_iv (y := 1) (if_pos c_4) ?_
      refine fw_if_eq (pc := 11) (tgt := 28) X dX2_isGoods_11 (by decide) (fun q => absurd q (by decide)) (fun _ => ?_)
      refine fw_iload_n (pc := 14) X dX2_isGoods_14 rfl 2 rfl ?_
      refine fw_iconst (pc := 15) (v := 1) X dX2_isGoods_15 (by decide) ?_
      refine fw_bipush (pc := 16) (v := 100) X dX2_isGoods_16 (by decide) ?_
      refine fw_callS (pc := 18) (n := 3) X hE [.int y, .int 1, .int 100] (ct_X2_isIn y 1 100) (by decide) gX2_isGoods_X2_isIn rfl ⟨rfl, rfl⟩ dsc_X2_isIn ⟨Nat.le_of_ble_eq_true rfl, Nat.le_of_ble_eq_true rfl⟩ rfl rfl (Nat.le_of_ble_eq_true rfl) dX2_isGoods_18 ⟨Nat.le_of_ble_eq_true rfl, Nat.le_of_ble_eq_true rfl⟩ (fun _ q => q.elim) (fun r0 u0 r_5 => ?_)
      subst r_5
      show fw_W _ _ _ _ _ _ _ _ _ _ _ _ _ _ _ _ _ _ _ (.int (b2i (m_in y 1 100 = true)) :: _)
      by_cases c_6 : m_in y 1 100 = true
      · refine fw_iv (y := 1) (if_pos c_6) ?_
        refine fw_if_eq (pc := 21) (tgt := 28) X dX2_isGoods_21 (by decide) (fun q => absurd q (by decide)) (fun _ => ?_)
        refine fw_iconst (pc := 24) (v := 1) X dX2_isGoods_24 (by decide) ?_
        refine fw_goto (pc := 25) (tgt := 29) X dX2_isGoods_25 (by decide) ?_
        exact fw_zret (pc := 29) X hr nr_1 hlk (Nat.le_of_ble_eq_true rfl) (Nat.le_of_ble_eq_true rfl) dX2_isGoods_29 () (by simp [m_gd, c_2, c_4, c_6]) (by simp [m_gd, c_2, c_4, c_6])
      · refine fw_iv (y := 0) (if_neg c_6) ?_
        refine fw_if_eq (pc := 21) (tgt := 28) X dX2_isGoods_21 (by decide) (fun _ => ?_) (fun q => absurd (by decide) q)
        refine fw_iconst (pc := 28) (v := 0) X dX2_isGoods_28 (by decide) ?_
        exact fw_zret (pc := 29) X hr nr_0 hlk (Nat.le_of_ble_eq_true rfl) (Nat.le_of_ble_eq_true rfl) dX2_isGoods_29 () (by simp [m_gd, c_2, c_4, c_6]) (by simp [m_gd, c_2, c_4, c_6])
    · refine fw_iv (y := 0) (if_neg c_4) ?_
      refine fw_if_eq (pc := 11) (tgt := 28) X dX2_isGoods_11 (by decide) (fun _ => ?_) (fun q => absurd (by decide) q)
      refine fw_iconst (pc := 28) (v := 0) X dX2_isGoods_28 (by decide) ?_
      exact fw_zret (pc := 29) X hr nr_0 hlk (Nat.le_of_ble_eq_true rfl) (Nat.le_of_ble_eq_true rfl) dX2_isGoods_29 () (by simp [m_gd, c_2, c_4]) (by simp [m_gd, c_2, c_4])
  · refine fw_iv (y := 0) (if_neg c_2) ?_
    refine fw_if_eq (pc := 4) (tgt := 28) X dX2_isGoods_4 (by decide) (fun _ => ?_) (fun q => absurd (by decide) q)
    refine fw_iconst (pc := 28) (v := 0) X dX2_isGoods_28 (by decide) ?_
    exact fw_zret (pc := 29) X hr nr_0 hlk (Nat.le_of_ble_eq_true rfl) (Nat.le_of_ble_eq_true rfl) dX2_isGoods_29 () (by simp [m_gd, c_2]) (by simp [m_gd, c_2])
end
section
theorem ann_lt {F : Nat → Int32} {n : Nat} (hn : F 19 = nI n) (hn15 : n ≤ 15) (h : ¬ F 19 = 15) : n < 15 := by
  rcases Nat.lt_or_ge n 15 with q | q
  · exact q
  · exact absurd (by rw [hn, show n = 15 by omega]; rfl) h
theorem kX2_setSort_7 : Cond.fieldLink RX2 7 (TX2 1).1 (TX2 1).2.1 (TX2 1).2.2.1 ∈ wsX2_setSort := by decide +kernel
set_option maxRecDepth 20000 in
theorem iX2_setSort_X2 : ∀ w ∈ wsX20, w ∈ wsX2_setSort := by decide +kernel
theorem kX2_setSort_13 : Cond.fieldLink RX2 13 (TX2 2).1 (TX2 2).2.1 (TX2 2).2.2.1 ∈ wsX2_setSort := by decide +kernel
theorem dsc_X2_setSort : fw_dsc yX2_setSort 3 := by decide +kernel
set_option maxHeartbeats 4000000 in
set_option maxRecDepth 100000 in
theorem ct_X2_setSort {l : Launch} {D : va_G} {K : Nat → ClassId} {a : Nat → Nat} {F : Nat → Int32} {G : Nat → Nat → Int32} (v x y : Int32) : fw_C (S := Unit) l yX2_setSort wsX2_setSort ({ frames := 2, cells := 0, slots := 0, locals := 42 }) 0 0 false [.ref (a 0), .int v, .int x, .int y] D (tyS K) (MW K a F G) (fun r _ => r = none) (fun _ => MW K a (upd F 0 (m_setSort_k v x y)) (m_setSort_G G v x y)) (fun _ => False) := by
  refine fw_met (maxL := 4) (ret := none) (by decide) rfl (Nat.le_of_ble_eq_true rfl) ?_
  intro p e s m args below meth c A X hr hlk hnm htab hE
  refine fw_lv (lv' := [(0, .ref (a 0)), (1, .int v), (2, .int x), (3, .int y)]) [0, 1, 2, 3] rfl ?_
  refine fw_aload_n (pc := 0) X dX2_setSort_0 rfl 0 rfl ?_
  refine fw_iload_n (pc := 1) X dX2_setSort_1 rfl 1 rfl ?_
  refine fw_callS (pc := 2) (n := 1) X hE [.int v] (ct_X2_isSort v) (by decide) gX2_setSort_X2_isSort rfl ⟨rfl, rfl⟩ dsc_X2_isSort ⟨Nat.le_of_ble_eq_true rfl, Nat.le_of_ble_eq_true rfl⟩ rfl rfl (Nat.le_of_ble_eq_true rfl) dX2_setSort_2 ⟨Nat.le_of_ble_eq_true rfl, Nat.le_of_ble_eq_true rfl⟩ (fun _ q => q.elim) (fun r0 u0 r_1 => ?_)
  subst r_1
  show fw_W _ _ _ _ _ _ _ _ _ _ _ _ _ _ _ _ _ _ _ (.int (b2i (m_in v 0 5 = true)) :: _)
  by_cases c_2 : m_in v 0 5 = true
  · obtain ⟨hx_v, hl_v⟩ := in_ix (h := 5) (N := 6) (by decide) (by decide) c_2
    refine fw_iv (y := 1) (if_pos c_2) ?_
    refine fw_if_eq (pc := 5) (tgt := 32) X dX2_setSort_5 (by decide) (fun q => absurd q (by decide)) (fun _ => ?_)
    refine fw_iload_n (pc := 8) X dX2_setSort_8 rfl 2 rfl ?_
    refine fw_iconst (pc := 9) (v := 0) X dX2_setSort_9 (by decide) ?_
    refine fw_bipush (pc := 10) (v := 50) X dX2_setSort_10 (by decide) ?_
    refine fw_callS (pc := 12) (n := 3) X hE [.int x, .int 0, .int 50] (ct_X2_isIn x 0 50) (by decide) gX2_setSort_X2_isIn rfl ⟨rfl, rfl⟩ dsc_X2_isIn ⟨Nat.le_of_ble_eq_true rfl, Nat.le_of_ble_eq_true rfl⟩ rfl rfl (Nat.le_of_ble_eq_true rfl) dX2_setSort_12 ⟨Nat.le_of_ble_eq_true rfl, Nat.le_of_ble_eq_true rfl⟩ (fun _ q => q.elim) (fun r0 u0 r_3 => ?_)
    subst r_3
    show fw_W _ _ _ _ _ _ _ _ _ _ _ _ _ _ _ _ _ _ _ (.int (b2i (m_in x 0 50 = true)) :: _)
    by_cases c_4 : m_in x 0 50 = true
    · obtain ⟨hx_x, hl_x⟩ := in_ix (h := 50) (N := 51) (by decide) (by decide) c_4
      refine fw_iv (y := 1) (if_pos c_4) ?_
      refine fw_if_eq (pc := 15) (tgt := 32) X dX2_setSort_15 (by decide) (fun q => absurd q (by decide)) (fun _ => ?_)
      refine fw_iload_n (pc := 18) X dX2_setSort_18 rfl 3 rfl ?_
      refine fw_iconst (pc := 19) (v := 0) X dX2_setSort_19 (by decide) ?_
      refine fw_bipush (pc := 20) (v := 20) X dX2_setSort_20 (by decide) ?_
      refine fw_callS (pc := 22) (n := 3) X hE [.int y, .int 0, .int 20] (ct_X2_isIn y 0 20) (by decide) gX2_setSort_X2_isIn rfl ⟨rfl, rfl⟩ dsc_X2_isIn ⟨Nat.le_of_ble_eq_true rfl, Nat.le_of_ble_eq_true rfl⟩ rfl rfl (Nat.le_of_ble_eq_true rfl) dX2_setSort_22 ⟨Nat.le_of_ble_eq_true rfl, Nat.le_of_ble_eq_true rfl⟩ (fun _ q => q.elim) (fun r0 u0 r_5 => ?_)
      subst r_5
      show fw_W _ _ _ _ _ _ _ _ _ _ _ _ _ _ _ _ _ _ _ (.int (b2i (m_in y 0 20 = true)) :: _)
      by_cases c_6 : m_in y 0 20 = true
      · obtain ⟨hx_y, hl_y⟩ := in_ix (h := 20) (N := 21) (by decide) (by decide) c_6
        refine fw_iv (y := 1) (if_pos c_6) ?_
        refine fw_if_eq (pc := 25) (tgt := 32) X dX2_setSort_25 (by decide) (fun q => absurd q (by decide)) (fun _ => ?_)
        refine fw_iconst (pc := 28) (v := 0) X dX2_setSort_28 (by decide) ?_
        refine fw_goto (pc := 29) (tgt := 33) X dX2_setSort_29 (by decide) ?_
        refine fw_callV (pc := 33) (n := 1) (C := (RX2, TX2, 21)) (ci := 2) (q0 := 0) X hE [.int 0] (ct_X2_isFine 0) (by decide) gX2_setSort_X2_isFine rfl ⟨rfl, rfl⟩ ⟨rfl, dsc_X2_isFine⟩ ⟨Nat.le_of_ble_eq_true rfl, Nat.le_of_ble_eq_true rfl⟩ rfl M_obj rfl rfl (Nat.le_of_ble_eq_true rfl) dX2_setSort_33 ⟨Nat.le_of_ble_eq_true rfl, Nat.le_of_ble_eq_true rfl⟩ (fun _ q => q.elim) (fun r0 u0 r_7 => ?_)
        subst r_7
        show fw_W _ _ _ _ _ _ _ _ _ _ _ _ _ _ _ _ _ _ _ (.int (b2i (0 = 0)) :: _)
        refine fw_iv (y := 1) (if_pos (by decide)) ?_
        refine fw_if_eq (pc := 36) (tgt := 53) X dX2_setSort_36 (by decide) (fun q => absurd q (by decide)) (fun _ => ?_)
        refine fw_aload_n (pc := 39) X dX2_setSort_39 rfl 0 rfl ?_
        refine fw_get (pc := 40) (v := .ref (a 1)) X iX2_setSort_X2 0 M_obj rfl 1 (by decide) kX2_setSort_7 rfl dX2_setSort_40 ?_
        refine fw_iload_n (pc := 43) X dX2_setSort_43 rfl 1 rfl ?_
        refine fw_iload_n (pc := 44) X dX2_setSort_44 rfl 2 rfl ?_
        refine fw_iast (pc := 45) (f := G 1) (ws' := MW K a (upd F 0 0) (va_up G 1 (upd (G 1) (ix v) x))) X 1 0 (M_g1 (G := G)) rfl (ix v) hx_v (by omega) (by decide) dX2_setSort_45 rfl ?_
        refine fw_aload_n (pc := 46) X dX2_setSort_46 rfl 0 rfl ?_
        refine fw_get (pc := 47) (v := .ref (a 2)) X iX2_setSort_X2 0 M_obj rfl 2 (by decide) kX2_setSort_13 rfl dX2_setSort_47 ?_
        refine fw_iload_n (pc := 50) X dX2_setSort_50 rfl 1 rfl ?_
        refine fw_iload_n (pc := 51) X dX2_setSort_51 rfl 3 rfl ?_
        refine fw_iast (pc := 52) (f := G 2) (ws' := MW K a (upd F 0 0) (va_up (va_up G 1 (upd (G 1) (ix v) x)) 2 (upd (G 2) (ix v) y))) X 2 0 (M_g2 (G := (va_up G 1 (upd (G 1) (ix v) x)))) rfl (ix v) hx_v (by omega) (by decide) dX2_setSort_52 rfl ?_
        exact fw_vret (pc := 53) X hr hlk (Nat.le_of_ble_eq_true rfl) (Nat.le_of_ble_eq_true rfl) dX2_setSort_53 () rfl (by simp [m_setSort_G, m_setSort_k, c_2, c_4, c_6]; try rfl)
      · refine fw_iv (y := 0) (if_neg c_6) ?_
        refine fw_if_eq (pc := 25) (tgt := 32) X dX2_setSort_25 (by decide) (fun _ => ?_) (fun q => absurd (by decide) q)
        refine fw_iconst (pc := 32) (v := 1) X dX2_setSort_32 (by decide) ?_
        refine fw_callV (pc := 33) (n := 1) (C := (RX2, TX2, 21)) (ci := 2) (q0 := 0) X hE [.int 1] (ct_X2_isFine 1) (by decide) gX2_setSort_X2_isFine rfl ⟨rfl, rfl⟩ ⟨rfl, dsc_X2_isFine⟩ ⟨Nat.le_of_ble_eq_true rfl, Nat.le_of_ble_eq_true rfl⟩ rfl M_obj rfl rfl (Nat.le_of_ble_eq_true rfl) dX2_setSort_33 ⟨Nat.le_of_ble_eq_true rfl, Nat.le_of_ble_eq_true rfl⟩ (fun _ q => q.elim) (fun r0 u0 r_8 => ?_)
        subst r_8
        show fw_W _ _ _ _ _ _ _ _ _ _ _ _ _ _ _ _ _ _ _ (.int (b2i (1 = 0)) :: _)
        refine fw_iv (y := 0) (if_neg (by decide)) ?_
        refine fw_if_eq (pc := 36) (tgt := 53) X dX2_setSort_36 (by decide) (fun _ => ?_) (fun q => absurd (by decide) q)
        exact fw_vret (pc := 53) X hr hlk (Nat.le_of_ble_eq_true rfl) (Nat.le_of_ble_eq_true rfl) dX2_setSort_53 () rfl (by simp [m_setSort_G, m_setSort_k, c_2, c_4, c_6]; try rfl)
    · refine fw_iv (y := 0) (if_neg c_4) ?_
      refine fw_if_eq (pc := 15) (tgt := 32) X dX2_setSort_15 (by decide) (fun _ => ?_) (fun q => absurd (by decide) q)
      refine fw_iconst (pc := 32) (v := 1) X dX2_setSort_32 (by decide) ?_
      refine fw_callV (pc := 33) (n := 1) (C := (RX2, TX2, 21)) (ci := 2) (q0 := 0) X hE [.int 1] (ct_X2_isFine 1) (by decide) gX2_setSort_X2_isFine rfl ⟨rfl, rfl⟩ ⟨rfl, dsc_X2_isFine⟩ ⟨Nat.le_of_ble_eq_true rfl, Nat.le_of_ble_eq_true rfl⟩ rfl M_obj rfl rfl (Nat.le_of_ble_eq_true rfl) dX2_setSort_33 ⟨Nat.le_of_ble_eq_true rfl, Nat.le_of_ble_eq_true rfl⟩ (fun _ q => q.elim) (fun r0 u0 r_9 => ?_)
      subst r_9
      show fw_W _ _ _ _ _ _ _ _ _ _ _ _ _ _ _ _ _ _ _ (.int (b2i (1 = 0)) :: _)
      refine fw_iv (y := 0) (if_neg (by decide)) ?_
      refine fw_if_eq (pc := 36) (tgt := 53) X dX2_setSort_36 (by decide) (fun _ => ?_) (fun q => absurd (by decide) q)
      exact fw_vret (pc := 53) X hr hlk (Nat.le_of_ble_eq_true rfl) (Nat.le_of_ble_eq_true rfl) dX2_setSort_53 () rfl (by simp [m_setSort_G, m_setSort_k, c_2, c_4]; try rfl)
  · refine fw_iv (y := 0) (if_neg c_2) ?_
    refine fw_if_eq (pc := 5) (tgt := 32) X dX2_setSort_5 (by decide) (fun _ => ?_) (fun q => absurd (by decide) q)
    refine fw_iconst (pc := 32) (v := 1) X dX2_setSort_32 (by decide) ?_
    refine fw_callV (pc := 33) (n := 1) (C := (RX2, TX2, 21)) (ci := 2) (q0 := 0) X hE [.int 1] (ct_X2_isFine 1) (by decide) gX2_setSort_X2_isFine rfl ⟨rfl, rfl⟩ ⟨rfl, dsc_X2_isFine⟩ ⟨Nat.le_of_ble_eq_true rfl, Nat.le_of_ble_eq_true rfl⟩ rfl M_obj rfl rfl (Nat.le_of_ble_eq_true rfl) dX2_setSort_33 ⟨Nat.le_of_ble_eq_true rfl, Nat.le_of_ble_eq_true rfl⟩ (fun _ q => q.elim) (fun r0 u0 r_10 => ?_)
    subst r_10
    show fw_W _ _ _ _ _ _ _ _ _ _ _ _ _ _ _ _ _ _ _ (.int (b2i (1 = 0)) :: _)
    refine fw_iv (y := 0) (if_neg (by decide)) ?_
    refine fw_if_eq (pc := 36) (tgt := 53) X dX2_setSort_36 (by decide) (fun _ => ?_) (fun q => absurd (by decide) q)
    exact fw_vret (pc := 53) X hr hlk (Nat.le_of_ble_eq_true rfl) (Nat.le_of_ble_eq_true rfl) dX2_setSort_53 () rfl (by simp [m_setSort_G, m_setSort_k, c_2]; try rfl)
theorem kX2_setRisk_16 : Cond.fieldLink RX2 16 (TX2 3).1 (TX2 3).2.1 (TX2 3).2.2.1 ∈ wsX2_setRisk := by decide +kernel
theorem kX2_setRisk_80 : Cond.fieldLink RX2 80 (TX2 4).1 (TX2 4).2.1 (TX2 4).2.2.1 ∈ wsX2_setRisk := by decide +kernel
theorem kX2_setRisk_70 : Cond.fieldLink RX2 70 (TX2 19).1 (TX2 19).2.1 (TX2 19).2.2.1 ∈ wsX2_setRisk := by decide +kernel
set_option maxRecDepth 20000 in
theorem iX2_setRisk_X2 : ∀ w ∈ wsX20, w ∈ wsX2_setRisk := by decide +kernel
set_option maxHeartbeats 4000000 in
set_option maxRecDepth 100000 in
theorem lp_X2_setRisk_50 {p : Program} {l : Launch} {e : Env}  {s : State} {m : MethodId} {args : Array Value} {below : List Frame} {meth : Method} {c : Code} {D : va_G} {A : Nat → Prop} {Q : State → Prop}  {K : Nat → ClassId} {a : Nat → Nat} {F : Nat → Int32} {G : Nat → Nat → Int32} (v x : Int32) {n : Nat} (hn : F 19 = nI n) (hn15 : n ≤ 15) (X : fw_X p s m args c D A 5 cX2_setRisk RX2 wsX2_setRisk (tyS K)) (hE : fw_E false A s) (kk : fw_W p l e ({ frames := 2, cells := 0, slots := 0, locals := 44 }) s m args below meth c D A 5 Q (MW K a F G) 0 0 [(0, .ref (a 0)), (1, .int v), (2, .int x), (3, .int (m_cn F G n)), (4, .int (nI n))] 82 []) : ∀ (d i : Nat), i + d = n → fw_W p l e ({ frames := 2, cells := 0, slots := 0, locals := 44 }) s m args below meth c D A 5 Q (MW K a F G) 0 0 [(0, .ref (a 0)), (1, .int v), (2, .int x), (3, .int (m_cn F G i)), (4, .int (nI i))] 50 [] := by
  intro d
  induction d with
  | zero =>
    intro i hi
    have hiN : i = n := by omega
    subst hiN
    refine fw_iload (pc := 50) X dX2_setRisk_50 4 rfl ?_
    refine fw_aload_n (pc := 52) X dX2_setRisk_52 rfl 0 rfl ?_
    refine fw_get (pc := 53) (v := .int (F 19)) X iX2_setRisk_X2 0 M_obj rfl 19 (by decide) kX2_setRisk_70 rfl dX2_setRisk_53 ?_
    refine fw_icmp_ge (pc := 56) (tgt := 82) X dX2_setRisk_56 (by decide) (fun _ => ?_) (fun q => absurd (by rw [hn]; exact Int32.le_refl _) q)
    exact kk
  | succ d ih =>
    intro i hi
    refine fw_iload (pc := 50) X dX2_setRisk_50 4 rfl ?_
    refine fw_aload_n (pc := 52) X dX2_setRisk_52 rfl 0 rfl ?_
    refine fw_get (pc := 53) (v := .int (F 19)) X iX2_setRisk_X2 0 M_obj rfl 19 (by decide) kX2_setRisk_70 rfl dX2_setRisk_53 ?_
    refine fw_icmp_ge (pc := 56) (tgt := 82) X dX2_setRisk_56 (by decide) (fun q => absurd q (by rw [hn]; exact nI_ge (by omega) (by omega))) (fun _ => ?_)
    refine fw_iload_n (pc := 59) X dX2_setRisk_59 rfl 3 rfl ?_
    refine fw_aload_n (pc := 60) X dX2_setRisk_60 rfl 0 rfl ?_
    refine fw_iload (pc := 61) X dX2_setRisk_61 4 rfl ?_
    refine fw_callV (pc := 63) (n := 1) (C := (RX2, TX2, 21)) (ci := 2) (q0 := 0) X hE [.int (nI i)] (ct_X2_mustNow (nI i) i rfl (by omega)) (by decide) gX2_setRisk_X2_mustNow rfl ⟨rfl, rfl⟩ ⟨rfl, dsc_X2_mustNow⟩ ⟨Nat.le_of_ble_eq_true rfl, Nat.le_of_ble_eq_true rfl⟩ rfl M_obj rfl rfl (Nat.le_of_ble_eq_true rfl) dX2_setRisk_63 ⟨Nat.le_of_ble_eq_true rfl, Nat.le_of_ble_eq_true rfl⟩ (fun _ q => q.elim) (fun r0 u0 r_1 => ?_)
    subst r_1
    show fw_W _ _ _ _ _ _ _ _ _ _ _ _ _ _ _ _ _ _ _ (.int (b2i (m_must F G i = true)) :: _)
    by_cases c_2 : m_must F G i = true
    · refine fw_iv (y := 1) (if_pos c_2) ?_
      refine fw_if_eq (pc := 66) (tgt := 73) X dX2_setRisk_66 (by decide) (fun q => absurd q (by decide)) (fun _ => ?_)
      refine fw_iconst (pc := 69) (v := 1) X dX2_setRisk_69 (by decide) ?_
      refine fw_goto (pc := 70) (tgt := 74) X dX2_setRisk_70 (by decide) ?_
      refine fw_iadd (pc := 74) X dX2_setRisk_74 ?_
      refine fw_iv (show (m_cn F G i) + 1 = m_cn F G ((i + 1)) from (by simp [m_cn, c_2])) ?_
      refine fw_istore_n (pc := 75) (lv' := [(3, .int (m_cn F G ((i + 1)))), (0, .ref (a 0)), (1, .int v), (2, .int x), (4, .int (nI i))]) X dX2_setRisk_75 rfl (by decide) rfl ?_
      refine fw_iinc (pc := 76) (v := nI (i + 1)) (lv' := [(4, .int (nI (i + 1))), (3, .int (m_cn F G ((i + 1)))), (0, .ref (a 0)), (1, .int v), (2, .int x)]) (j := 4) X dX2_setRisk_76 rfl (nI_1 _) (by decide) rfl ?_
      refine fw_goto (pc := 79) (tgt := 50) X dX2_setRisk_79 (by decide) ?_
      refine fw_lv (lv' := [(0, .ref (a 0)), (1, .int v), (2, .int x), (3, .int (m_cn F G ((i + 1)))), (4, .int (nI ((i + 1))))]) [2, 3, 4, 1, 0] rfl ?_
      exact ih (i + 1) (by omega)
    · refine fw_iv (y := 0) (if_neg c_2) ?_
      refine fw_if_eq (pc := 66) (tgt := 73) X dX2_setRisk_66 (by decide) (fun _ => ?_) (fun q => absurd (by decide) q)
      refine fw_iconst (pc := 73) (v := 0) X dX2_setRisk_73 (by decide) ?_
      refine fw_iadd (pc := 74) X dX2_setRisk_74 ?_
      refine fw_iv (show (m_cn F G i) + 0 = m_cn F G ((i + 1)) from (by simp [m_cn, c_2])) ?_
      refine fw_istore_n (pc := 75) (lv' := [(3, .int (m_cn F G ((i + 1)))), (0, .ref (a 0)), (1, .int v), (2, .int x), (4, .int (nI i))]) X dX2_setRisk_75 rfl (by decide) rfl ?_
      refine fw_iinc (pc := 76) (v := nI (i + 1)) (lv' := [(4, .int (nI (i + 1))), (3, .int (m_cn F G ((i + 1)))), (0, .ref (a 0)), (1, .int v), (2, .int x)]) (j := 4) X dX2_setRisk_76 rfl (nI_1 _) (by decide) rfl ?_
      refine fw_goto (pc := 79) (tgt := 50) X dX2_setRisk_79 (by decide) ?_
      refine fw_lv (lv' := [(0, .ref (a 0)), (1, .int v), (2, .int x), (3, .int (m_cn F G ((i + 1)))), (4, .int (nI ((i + 1))))]) [2, 3, 4, 1, 0] rfl ?_
      exact ih (i + 1) (by omega)
theorem dsc_X2_setRisk : fw_dsc yX2_setRisk 2 := by decide +kernel
set_option maxHeartbeats 4000000 in
set_option maxRecDepth 100000 in
theorem ct_X2_setRisk {l : Launch} {D : va_G} {K : Nat → ClassId} {a : Nat → Nat} {F : Nat → Int32} {G : Nat → Nat → Int32} (v x : Int32) {n : Nat} (hn : F 19 = nI n) (hn15 : n ≤ 15) : fw_C (S := Unit) l yX2_setRisk wsX2_setRisk ({ frames := 2, cells := 0, slots := 0, locals := 44 }) 0 0 false [.ref (a 0), .int v, .int x] D (tyS K) (MW K a F G) (fun r _ => r = some (.int (m_setRisk_v F G n v x))) (fun _ => MW K a (m_setRisk_F F v x) G) (fun _ => False) := by
  refine fw_met (maxL := 5) (ret := (some .int)) (by decide) rfl (Nat.le_of_ble_eq_true rfl) ?_
  intro p e s m args below meth c A X hr hlk hnm htab hE
  refine fw_lv (lv' := [(0, .ref (a 0)), (1, .int v), (2, .int x)]) [0, 1, 2] rfl ?_
  refine fw_aload_n (pc := 0) X dX2_setRisk_0 rfl 0 rfl ?_
  refine fw_iload_n (pc := 1) X dX2_setRisk_1 rfl 1 rfl ?_
  refine fw_iconst (pc := 2) (v := 0) X dX2_setRisk_2 (by decide) ?_
  refine fw_sipush (pc := 3) (v := 200) X dX2_setRisk_3 (by decide) ?_
  refine fw_callS (pc := 6) (n := 3) X hE [.int v, .int 0, .int 200] (ct_X2_isIn v 0 200) (by decide) gX2_setRisk_X2_isIn rfl ⟨rfl, rfl⟩ dsc_X2_isIn ⟨Nat.le_of_ble_eq_true rfl, Nat.le_of_ble_eq_true rfl⟩ rfl rfl (Nat.le_of_ble_eq_true rfl) dX2_setRisk_6 ⟨Nat.le_of_ble_eq_true rfl, Nat.le_of_ble_eq_true rfl⟩ (fun _ q => q.elim) (fun r0 u0 r_3 => ?_)
  subst r_3
  show fw_W _ _ _ _ _ _ _ _ _ _ _ _ _ _ _ _ _ _ _ (.int (b2i (m_in v 0 200 = true)) :: _)
  by_cases c_4 : m_in v 0 200 = true
  · obtain ⟨hx_v, hl_v⟩ := in_ix (h := 200) (N := 201) (by decide) (by decide) c_4
    refine fw_iv (y := 1) (if_pos c_4) ?_
    refine fw_if_eq (pc := 9) (tgt := 26) X dX2_setRisk_9 (by decide) (fun q => absurd q (by decide)) (fun _ => ?_)
    refine fw_iload_n (pc := 12) X dX2_setRisk_12 rfl 2 rfl ?_
    refine fw_iconst (pc := 13) (v := 0) X dX2_setRisk_13 (by decide) ?_
    refine fw_bipush (pc := 14) (v := 10) X dX2_setRisk_14 (by decide) ?_
    refine fw_callS (pc := 16) (n := 3) X hE [.int x, .int 0, .int 10] (ct_X2_isIn x 0 10) (by decide) gX2_setRisk_X2_isIn rfl ⟨rfl, rfl⟩ dsc_X2_isIn ⟨Nat.le_of_ble_eq_true rfl, Nat.le_of_ble_eq_true rfl⟩ rfl rfl (Nat.le_of_ble_eq_true rfl) dX2_setRisk_16 ⟨Nat.le_of_ble_eq_true rfl, Nat.le_of_ble_eq_true rfl⟩ (fun _ q => q.elim) (fun r0 u0 r_5 => ?_)
    subst r_5
    show fw_W _ _ _ _ _ _ _ _ _ _ _ _ _ _ _ _ _ _ _ (.int (b2i (m_in x 0 10 = true)) :: _)
    by_cases c_6 : m_in x 0 10 = true
    · obtain ⟨hx_x, hl_x⟩ := in_ix (h := 10) (N := 11) (by decide) (by decide) c_6
      refine fw_iv (y := 1) (if_pos c_6) ?_
      refine fw_if_eq (pc := 19) (tgt := 26) X dX2_setRisk_19 (by decide) (fun q => absurd q (by decide)) (fun _ => ?_)
      refine fw_iconst (pc := 22) (v := 0) X dX2_setRisk_22 (by decide) ?_
      refine fw_goto (pc := 23) (tgt := 27) X dX2_setRisk_23 (by decide) ?_
      refine fw_callV (pc := 27) (n := 1) (C := (RX2, TX2, 21)) (ci := 2) (q0 := 0) X hE [.int 0] (ct_X2_isFine 0) (by decide) gX2_setRisk_X2_isFine rfl ⟨rfl, rfl⟩ ⟨rfl, dsc_X2_isFine⟩ ⟨Nat.le_of_ble_eq_true rfl, Nat.le_of_ble_eq_true rfl⟩ rfl M_obj rfl rfl (Nat.le_of_ble_eq_true rfl) dX2_setRisk_27 ⟨Nat.le_of_ble_eq_true rfl, Nat.le_of_ble_eq_true rfl⟩ (fun _ q => q.elim) (fun r0 u0 r_7 => ?_)
      subst r_7
      show fw_W _ _ _ _ _ _ _ _ _ _ _ _ _ _ _ _ _ _ _ (.int (b2i (0 = 0)) :: _)
      refine fw_iv (y := 1) (if_pos (by decide)) ?_
      refine fw_if_ne (pc := 30) (tgt := 35) X dX2_setRisk_30 (by decide) (fun _ => ?_) (fun q => absurd q (by decide))
      refine fw_aload_n (pc := 35) X dX2_setRisk_35 rfl 0 rfl ?_
      refine fw_iload_n (pc := 36) X dX2_setRisk_36 rfl 1 rfl ?_
      refine fw_put (pc := 37) (ws' := MW K a (upd (upd F 0 0) 3 v) G) X iX2_setRisk_X2 tyX2 tyX2_ok nmX2 0 M_obj rfl 3 (by decide) kX2_setRisk_16 rfl rfl rfl (Nat.le_of_ble_eq_true rfl) dX2_setRisk_37 rfl ?_
      refine fw_aload_n (pc := 40) X dX2_setRisk_40 rfl 0 rfl ?_
      refine fw_iload_n (pc := 41) X dX2_setRisk_41 rfl 2 rfl ?_
      refine fw_put (pc := 42) (ws' := MW K a (upd (upd (upd F 0 0) 3 v) 4 x) G) X iX2_setRisk_X2 tyX2 tyX2_ok nmX2 0 M_obj rfl 4 (by decide) kX2_setRisk_80 rfl rfl rfl (Nat.le_of_ble_eq_true rfl) dX2_setRisk_42 rfl ?_
      refine fw_iconst (pc := 45) (v := 0) X dX2_setRisk_45 (by decide) ?_
      refine fw_istore_n (pc := 46) (lv' := [(3, .int 0), (0, .ref (a 0)), (1, .int v), (2, .int x)]) X dX2_setRisk_46 rfl (by decide) rfl ?_
      refine fw_iconst (pc := 47) (v := 0) X dX2_setRisk_47 (by decide) ?_
      refine fw_istore (pc := 48) (lv' := [(4, .int 0), (3, .int 0), (0, .ref (a 0)), (1, .int v), (2, .int x)]) X dX2_setRisk_48 (by decide) rfl ?_
      refine fw_lv (lv' := [(0, .ref (a 0)), (1, .int v), (2, .int x), (3, .int (m_cn F G 0)), (4, .int (nI 0))]) [2, 3, 4, 1, 0] rfl ?_
      refine lp_X2_setRisk_50 v x (by exact hn) hn15 X hE ?_ n 0 (by omega)
      refine fw_iload_n (pc := 82) X dX2_setRisk_82 rfl 3 rfl ?_
      exact fw_iret (pc := 83) X hr hlk (Nat.le_of_ble_eq_true rfl) (Nat.le_of_ble_eq_true rfl) dX2_setRisk_83 () (by simp [m_setRisk_v, m_setRisk_F, m_setRisk_k, c_4, c_6]) (by simp [m_setRisk_v, m_setRisk_F, m_setRisk_k, c_4, c_6])
    · refine fw_iv (y := 0) (if_neg c_6) ?_
      refine fw_if_eq (pc := 19) (tgt := 26) X dX2_setRisk_19 (by decide) (fun _ => ?_) (fun q => absurd (by decide) q)
      refine fw_iconst (pc := 26) (v := 1) X dX2_setRisk_26 (by decide) ?_
      refine fw_callV (pc := 27) (n := 1) (C := (RX2, TX2, 21)) (ci := 2) (q0 := 0) X hE [.int 1] (ct_X2_isFine 1) (by decide) gX2_setRisk_X2_isFine rfl ⟨rfl, rfl⟩ ⟨rfl, dsc_X2_isFine⟩ ⟨Nat.le_of_ble_eq_true rfl, Nat.le_of_ble_eq_true rfl⟩ rfl M_obj rfl rfl (Nat.le_of_ble_eq_true rfl) dX2_setRisk_27 ⟨Nat.le_of_ble_eq_true rfl, Nat.le_of_ble_eq_true rfl⟩ (fun _ q => q.elim) (fun r0 u0 r_8 => ?_)
      subst r_8
      show fw_W _ _ _ _ _ _ _ _ _ _ _ _ _ _ _ _ _ _ _ (.int (b2i (1 = 0)) :: _)
      refine fw_iv (y := 0) (if_neg (by decide)) ?_
      refine fw_if_ne (pc := 30) (tgt := 35) X dX2_setRisk_30 (by decide) (fun q => absurd (by decide) q) (fun _ => ?_)
      refine fw_iconst (pc := 33) (v := 0) X dX2_setRisk_33 (by decide) ?_
      exact fw_iret (pc := 34) X hr hlk (Nat.le_of_ble_eq_true rfl) (Nat.le_of_ble_eq_true rfl) dX2_setRisk_34 () (by simp [m_setRisk_v, m_setRisk_F, m_setRisk_k, c_4, c_6]) (by simp [m_setRisk_v, m_setRisk_F, m_setRisk_k, c_4, c_6])
  · refine fw_iv (y := 0) (if_neg c_4) ?_
    refine fw_if_eq (pc := 9) (tgt := 26) X dX2_setRisk_9 (by decide) (fun _ => ?_) (fun q => absurd (by decide) q)
    refine fw_iconst (pc := 26) (v := 1) X dX2_setRisk_26 (by decide) ?_
    refine fw_callV (pc := 27) (n := 1) (C := (RX2, TX2, 21)) (ci := 2) (q0 := 0) X hE [.int 1] (ct_X2_isFine 1) (by decide) gX2_setRisk_X2_isFine rfl ⟨rfl, rfl⟩ ⟨rfl, dsc_X2_isFine⟩ ⟨Nat.le_of_ble_eq_true rfl, Nat.le_of_ble_eq_true rfl⟩ rfl M_obj rfl rfl (Nat.le_of_ble_eq_true rfl) dX2_setRisk_27 ⟨Nat.le_of_ble_eq_true rfl, Nat.le_of_ble_eq_true rfl⟩ (fun _ q => q.elim) (fun r0 u0 r_9 => ?_)
    subst r_9
    show fw_W _ _ _ _ _ _ _ _ _ _ _ _ _ _ _ _ _ _ _ (.int (b2i (1 = 0)) :: _)
    refine fw_iv (y := 0) (if_neg (by decide)) ?_
    refine fw_if_ne (pc := 30) (tgt := 35) X dX2_setRisk_30 (by decide) (fun q => absurd (by decide) q) (fun _ => ?_)
    refine fw_iconst (pc := 33) (v := 0) X dX2_setRisk_33 (by decide) ?_
    exact fw_iret (pc := 34) X hr hlk (Nat.le_of_ble_eq_true rfl) (Nat.le_of_ble_eq_true rfl) dX2_setRisk_34 () (by simp [m_setRisk_v, m_setRisk_F, m_setRisk_k, c_4]) (by simp [m_setRisk_v, m_setRisk_F, m_setRisk_k, c_4])
theorem kX2_setGuarantee_89 : Cond.constant RX2 89 1000000 ∈ wsX2_setGuarantee := by decide +kernel
theorem kX2_setGuarantee_23 : Cond.fieldLink RX2 23 (TX2 6).1 (TX2 6).2.1 (TX2 6).2.2.1 ∈ wsX2_setGuarantee := by decide +kernel
set_option maxRecDepth 20000 in
theorem iX2_setGuarantee_X2 : ∀ w ∈ wsX20, w ∈ wsX2_setGuarantee := by decide +kernel
theorem kX2_setGuarantee_20 : Cond.fieldLink RX2 20 (TX2 5).1 (TX2 5).2.1 (TX2 5).2.2.1 ∈ wsX2_setGuarantee := by decide +kernel
theorem dsc_X2_setGuarantee : fw_dsc yX2_setGuarantee 2 := by decide +kernel
set_option maxHeartbeats 4000000 in
set_option maxRecDepth 100000 in
theorem ct_X2_setGuarantee {l : Launch} {D : va_G} {K : Nat → ClassId} {a : Nat → Nat} {F : Nat → Int32} {G : Nat → Nat → Int32} (v x : Int32) : fw_C (S := Unit) l yX2_setGuarantee wsX2_setGuarantee ({ frames := 2, cells := 0, slots := 0, locals := 42 }) 0 0 false [.ref (a 0), .int v, .int x] D (tyS K) (MW K a F G) (fun r _ => r = some (.int (m_setG_v G v x))) (fun _ => MW K a (upd F 0 (m_setG_k G v x)) (m_setG_G G v x)) (fun _ => False) := by
  refine fw_met (maxL := 5) (ret := (some .int)) (by decide) rfl (Nat.le_of_ble_eq_true rfl) ?_
  intro p e s m args below meth c A X hr hlk hnm htab hE
  refine fw_lv (lv' := [(0, .ref (a 0)), (1, .int v), (2, .int x)]) [0, 1, 2] rfl ?_
  refine fw_iload_n (pc := 0) X dX2_setGuarantee_0 rfl 1 rfl ?_
  refine fw_callS (pc := 1) (n := 1) X hE [.int v] (ct_X2_isTrader v) (by decide) gX2_setGuarantee_X2_isTrader rfl ⟨rfl, rfl⟩ dsc_X2_isTrader ⟨Nat.le_of_ble_eq_true rfl, Nat.le_of_ble_eq_true rfl⟩ rfl rfl (Nat.le_of_ble_eq_true rfl) dX2_setGuarantee_1 ⟨Nat.le_of_ble_eq_true rfl, Nat.le_of_ble_eq_true rfl⟩ (fun _ q => q.elim) (fun r0 u0 r_1 => ?_)
  subst r_1
  show fw_W _ _ _ _ _ _ _ _ _ _ _ _ _ _ _ _ _ _ _ (.int (b2i (m_in v 0 3 = true)) :: _)
  by_cases c_2 : m_in v 0 3 = true
  · obtain ⟨hx_v, hl_v⟩ := in_ix (h := 3) (N := 4) (by decide) (by decide) c_2
    refine fw_iv (y := 1) (if_pos c_2) ?_
    refine fw_if_eq (pc := 4) (tgt := 21) X dX2_setGuarantee_4 (by decide) (fun q => absurd q (by decide)) (fun _ => ?_)
    refine fw_iload_n (pc := 7) X dX2_setGuarantee_7 rfl 2 rfl ?_
    refine fw_iconst (pc := 8) (v := 0) X dX2_setGuarantee_8 (by decide) ?_
    refine fw_ldc (pc := 9) (v := 1000000) X kX2_setGuarantee_89 dX2_setGuarantee_9 ?_
    refine fw_callS (pc := 11) (n := 3) X hE [.int x, .int 0, .int 1000000] (ct_X2_isIn x 0 1000000) (by decide) gX2_setGuarantee_X2_isIn rfl ⟨rfl, rfl⟩ dsc_X2_isIn ⟨Nat.le_of_ble_eq_true rfl, Nat.le_of_ble_eq_true rfl⟩ rfl rfl (Nat.le_of_ble_eq_true rfl) dX2_setGuarantee_11 ⟨Nat.le_of_ble_eq_true rfl, Nat.le_of_ble_eq_true rfl⟩ (fun _ q => q.elim) (fun r0 u0 r_3 => ?_)
    subst r_3
    show fw_W _ _ _ _ _ _ _ _ _ _ _ _ _ _ _ _ _ _ _ (.int (b2i (m_in x 0 1000000 = true)) :: _)
    by_cases c_4 : m_in x 0 1000000 = true
    · obtain ⟨hx_x, hl_x⟩ := in_ix (h := 1000000) (N := 1000001) (by decide) (by decide) c_4
      refine fw_iv (y := 1) (if_pos c_4) ?_
      refine fw_if_eq (pc := 14) (tgt := 21) X dX2_setGuarantee_14 (by decide) (fun q => absurd q (by decide)) (fun _ => ?_)
      refine fw_iconst (pc := 17) (v := 1) X dX2_setGuarantee_17 (by decide) ?_
      refine fw_goto (pc := 18) (tgt := 22) X dX2_setGuarantee_18 (by decide) ?_
      refine fw_istore_n (pc := 22) (lv' := [(3, .int 1), (0, .ref (a 0)), (1, .int v), (2, .int x)]) X dX2_setGuarantee_22 rfl (by decide) rfl ?_
      refine fw_aload_n (pc := 23) X dX2_setGuarantee_23 rfl 1 rfl ?_
      refine fw_iload_n (pc := 24) X dX2_setGuarantee_24 rfl 0 rfl ?_
      refine fw_if_ne (pc := 25) (tgt := 32) X dX2_setGuarantee_25 (by decide) (fun _ => ?_) (fun q => absurd q (by decide))
      refine fw_aload_n (pc := 32) X dX2_setGuarantee_32 rfl 1 rfl ?_
      refine fw_get (pc := 33) (v := .ref (a 6)) X iX2_setGuarantee_X2 0 M_obj rfl 6 (by decide) kX2_setGuarantee_23 rfl dX2_setGuarantee_33 ?_
      refine fw_iload_n (pc := 36) X dX2_setGuarantee_36 rfl 2 rfl ?_
      refine fw_iald (pc := 37) (f := G 6) X 4 0 (M_g6 (G := G)) rfl (ix v) hx_v (by omega) (by decide) dX2_setGuarantee_37 ?_
      refine fw_iload_n (pc := 38) X dX2_setGuarantee_38 rfl 3 rfl ?_
      refine fw_icmp_le (pc := 39) (tgt := 46) X dX2_setGuarantee_39 (by decide) (fun c_5 => ?_) (fun c_5 => ?_)
      · refine fw_iconst (pc := 46) (v := 0) X dX2_setGuarantee_46 (by decide) ?_
        refine fw_callV (pc := 47) (n := 1) (C := (RX2, TX2, 21)) (ci := 2) (q0 := 0) X hE [.int 0] (ct_X2_isFine 0) (by decide) gX2_setGuarantee_X2_isFine rfl ⟨rfl, rfl⟩ ⟨rfl, dsc_X2_isFine⟩ ⟨Nat.le_of_ble_eq_true rfl, Nat.le_of_ble_eq_true rfl⟩ rfl M_obj rfl rfl (Nat.le_of_ble_eq_true rfl) dX2_setGuarantee_47 ⟨Nat.le_of_ble_eq_true rfl, Nat.le_of_ble_eq_true rfl⟩ (fun _ q => q.elim) (fun r0 u0 r_6 => ?_)
        subst r_6
        show fw_W _ _ _ _ _ _ _ _ _ _ _ _ _ _ _ _ _ _ _ (.int (b2i (0 = 0)) :: _)
        refine fw_iv (y := 1) (if_pos (by decide)) ?_
        refine fw_if_ne (pc := 50) (tgt := 55) X dX2_setGuarantee_50 (by decide) (fun _ => ?_) (fun q => absurd q (by decide))
        refine fw_aload_n (pc := 55) X dX2_setGuarantee_55 rfl 1 rfl ?_
        refine fw_get (pc := 56) (v := .ref (a 5)) X iX2_setGuarantee_X2 0 M_obj rfl 5 (by decide) kX2_setGuarantee_20 rfl dX2_setGuarantee_56 ?_
        refine fw_iload_n (pc := 59) X dX2_setGuarantee_59 rfl 2 rfl ?_
        refine fw_iald (pc := 60) (f := G 5) X 3 0 (M_g5 (G := G)) rfl (ix v) hx_v (by omega) (by decide) dX2_setGuarantee_60 ?_
        refine fw_istore (pc := 61) (lv' := [(4, .int (G 5 (ix v))), (3, .int 1), (0, .ref (a 0)), (1, .int v), (2, .int x)]) X dX2_setGuarantee_61 (by decide) rfl ?_
        refine fw_aload_n (pc := 63) X dX2_setGuarantee_63 rfl 2 rfl ?_
        refine fw_get (pc := 64) (v := .ref (a 5)) X iX2_setGuarantee_X2 0 M_obj rfl 5 (by decide) kX2_setGuarantee_20 rfl dX2_setGuarantee_64 ?_
        refine fw_iload_n (pc := 67) X dX2_setGuarantee_67 rfl 3 rfl ?_
        refine fw_iload_n (pc := 68) X dX2_setGuarantee_68 rfl 4 rfl ?_
        refine fw_iast (pc := 69) (f := G 5) (ws' := MW K a (upd F 0 0) (va_up G 5 (upd (G 5) (ix v) x))) X 3 0 (M_g5 (G := G)) rfl (ix v) hx_v (by omega) (by decide) dX2_setGuarantee_69 rfl ?_
        refine fw_iload (pc := 70) X dX2_setGuarantee_70 0 rfl ?_
        exact fw_iret (pc := 72) X hr hlk (Nat.le_of_ble_eq_true rfl) (Nat.le_of_ble_eq_true rfl) dX2_setGuarantee_72 () (by simp [m_setG_v, m_setG_G, m_setG_k, c_2, c_4, c_5]) (by simp [m_setG_v, m_setG_G, m_setG_k, c_2, c_4, c_5])
      · refine fw_iconst (pc := 42) (v := 2) X dX2_setGuarantee_42 (by decide) ?_
        refine fw_goto (pc := 43) (tgt := 47) X dX2_setGuarantee_43 (by decide) ?_
        refine fw_callV (pc := 47) (n := 1) (C := (RX2, TX2, 21)) (ci := 2) (q0 := 0) X hE [.int 2] (ct_X2_isFine 2) (by decide) gX2_setGuarantee_X2_isFine rfl ⟨rfl, rfl⟩ ⟨rfl, dsc_X2_isFine⟩ ⟨Nat.le_of_ble_eq_true rfl, Nat.le_of_ble_eq_true rfl⟩ rfl M_obj rfl rfl (Nat.le_of_ble_eq_true rfl) dX2_setGuarantee_47 ⟨Nat.le_of_ble_eq_true rfl, Nat.le_of_ble_eq_true rfl⟩ (fun _ q => q.elim) (fun r0 u0 r_7 => ?_)
        subst r_7
        show fw_W _ _ _ _ _ _ _ _ _ _ _ _ _ _ _ _ _ _ _ (.int (b2i (2 = 0)) :: _)
        refine fw_iv (y := 0) (if_neg (by decide)) ?_
        refine fw_if_ne (pc := 50) (tgt := 55) X dX2_setGuarantee_50 (by decide) (fun q => absurd (by decide) q) (fun _ => ?_)
        refine fw_iconst (pc := 53) (v := 0) X dX2_setGuarantee_53 (by decide) ?_
        exact fw_iret (pc := 54) X hr hlk (Nat.le_of_ble_eq_true rfl) (Nat.le_of_ble_eq_true rfl) dX2_setGuarantee_54 () (by simp [m_setG_v, m_setG_G, m_setG_k, c_2, c_4, c_5]) (by simp [m_setG_v, m_setG_G, m_setG_k, c_2, c_4, c_5])
    · refine fw_iv (y := 0) (if_neg c_4) ?_
      refine fw_if_eq (pc := 14) (tgt := 21) X dX2_setGuarantee_14 (by decide) (fun _ => ?_) (fun q => absurd (by decide) q)
      refine fw_iconst (pc := 21) (v := 0) X dX2_setGuarantee_21 (by decide) ?_
      refine fw_istore_n (pc := 22) (lv' := [(3, .int 0), (0, .ref (a 0)), (1, .int v), (2, .int x)]) X dX2_setGuarantee_22 rfl (by decide) rfl ?_
      refine fw_aload_n (pc := 23) X dX2_setGuarantee_23 rfl 1 rfl ?_
      refine fw_iload_n (pc := 24) X dX2_setGuarantee_24 rfl 0 rfl ?_
      refine fw_if_ne (pc := 25) (tgt := 32) X dX2_setGuarantee_25 (by decide) (fun q => absurd (by decide) q) (fun _ => ?_)
      refine fw_iconst (pc := 28) (v := 1) X dX2_setGuarantee_28 (by decide) ?_
      refine fw_goto (pc := 29) (tgt := 47) X dX2_setGuarantee_29 (by decide) ?_
      refine fw_callV (pc := 47) (n := 1) (C := (RX2, TX2, 21)) (ci := 2) (q0 := 0) X hE [.int 1] (ct_X2_isFine 1) (by decide) gX2_setGuarantee_X2_isFine rfl ⟨rfl, rfl⟩ ⟨rfl, dsc_X2_isFine⟩ ⟨Nat.le_of_ble_eq_true rfl, Nat.le_of_ble_eq_true rfl⟩ rfl M_obj rfl rfl (Nat.le_of_ble_eq_true rfl) dX2_setGuarantee_47 ⟨Nat.le_of_ble_eq_true rfl, Nat.le_of_ble_eq_true rfl⟩ (fun _ q => q.elim) (fun r0 u0 r_8 => ?_)
      subst r_8
      show fw_W _ _ _ _ _ _ _ _ _ _ _ _ _ _ _ _ _ _ _ (.int (b2i (1 = 0)) :: _)
      refine fw_iv (y := 0) (if_neg (by decide)) ?_
      refine fw_if_ne (pc := 50) (tgt := 55) X dX2_setGuarantee_50 (by decide) (fun q => absurd (by decide) q) (fun _ => ?_)
      refine fw_iconst (pc := 53) (v := 0) X dX2_setGuarantee_53 (by decide) ?_
      exact fw_iret (pc := 54) X hr hlk (Nat.le_of_ble_eq_true rfl) (Nat.le_of_ble_eq_true rfl) dX2_setGuarantee_54 () (by simp [m_setG_v, m_setG_G, m_setG_k, c_2, c_4]) (by simp [m_setG_v, m_setG_G, m_setG_k, c_2, c_4])
  · refine fw_iv (y := 0) (if_neg c_2) ?_
    refine fw_if_eq (pc := 4) (tgt := 21) X dX2_setGuarantee_4 (by decide) (fun _ => ?_) (fun q => absurd (by decide) q)
    refine fw_iconst (pc := 21) (v := 0) X dX2_setGuarantee_21 (by decide) ?_
    refine fw_istore_n (pc := 22) (lv' := [(3, .int 0), (0, .ref (a 0)), (1, .int v), (2, .int x)]) X dX2_setGuarantee_22 rfl (by decide) rfl ?_
    refine fw_aload_n (pc := 23) X dX2_setGuarantee_23 rfl 1 rfl ?_
    refine fw_iload_n (pc := 24) X dX2_setGuarantee_24 rfl 0 rfl ?_
    refine fw_if_ne (pc := 25) (tgt := 32) X dX2_setGuarantee_25 (by decide) (fun q => absurd (by decide) q) (fun _ => ?_)
    refine fw_iconst (pc := 28) (v := 1) X dX2_setGuarantee_28 (by decide) ?_
    refine fw_goto (pc := 29) (tgt := 47) X dX2_setGuarantee_29 (by decide) ?_
    refine fw_callV (pc := 47) (n := 1) (C := (RX2, TX2, 21)) (ci := 2) (q0 := 0) X hE [.int 1] (ct_X2_isFine 1) (by decide) gX2_setGuarantee_X2_isFine rfl ⟨rfl, rfl⟩ ⟨rfl, dsc_X2_isFine⟩ ⟨Nat.le_of_ble_eq_true rfl, Nat.le_of_ble_eq_true rfl⟩ rfl M_obj rfl rfl (Nat.le_of_ble_eq_true rfl) dX2_setGuarantee_47 ⟨Nat.le_of_ble_eq_true rfl, Nat.le_of_ble_eq_true rfl⟩ (fun _ q => q.elim) (fun r0 u0 r_9 => ?_)
    subst r_9
    show fw_W _ _ _ _ _ _ _ _ _ _ _ _ _ _ _ _ _ _ _ (.int (b2i (1 = 0)) :: _)
    refine fw_iv (y := 0) (if_neg (by decide)) ?_
    refine fw_if_ne (pc := 50) (tgt := 55) X dX2_setGuarantee_50 (by decide) (fun q => absurd (by decide) q) (fun _ => ?_)
    refine fw_iconst (pc := 53) (v := 0) X dX2_setGuarantee_53 (by decide) ?_
    exact fw_iret (pc := 54) X hr hlk (Nat.le_of_ble_eq_true rfl) (Nat.le_of_ble_eq_true rfl) dX2_setGuarantee_54 () (by simp [m_setG_v, m_setG_G, m_setG_k, c_2]) (by simp [m_setG_v, m_setG_G, m_setG_k, c_2])
theorem kX2_announce_70 : Cond.fieldLink RX2 70 (TX2 19).1 (TX2 19).2.1 (TX2 19).2.2.1 ∈ wsX2_announce := by decide +kernel
set_option maxRecDepth 20000 in
theorem iX2_announce_X2 : ∀ w ∈ wsX20, w ∈ wsX2_announce := by decide +kernel
theorem kX2_announce_29 : Cond.fieldLink RX2 29 (TX2 8).1 (TX2 8).2.1 (TX2 8).2.2.1 ∈ wsX2_announce := by decide +kernel
theorem kX2_announce_32 : Cond.fieldLink RX2 32 (TX2 9).1 (TX2 9).2.1 (TX2 9).2.2.1 ∈ wsX2_announce := by decide +kernel
theorem dsc_X2_announce : fw_dsc yX2_announce 2 := by decide +kernel
set_option maxHeartbeats 4000000 in
set_option maxRecDepth 100000 in
theorem ct_X2_announce {l : Launch} {D : va_G} {K : Nat → ClassId} {a : Nat → Nat} {F : Nat → Int32} {G : Nat → Nat → Int32} (v x : Int32) {n : Nat} (hn : F 19 = nI n) (hn15 : n ≤ 15) : fw_C (S := Unit) l yX2_announce wsX2_announce ({ frames := 2, cells := 0, slots := 0, locals := 42 }) 0 0 false [.ref (a 0), .int v, .int x] D (tyS K) (MW K a F G) (fun r _ => r = some (.int (m_ann_v F v x))) (fun _ => MW K a (m_ann_F F v x) (m_ann_G F G n v x)) (fun _ => False) := by
  refine fw_met (maxL := 4) (ret := (some .int)) (by decide) rfl (Nat.le_of_ble_eq_true rfl) ?_
  intro p e s m args below meth c A X hr hlk hnm htab hE
  refine fw_lv (lv' := [(0, .ref (a 0)), (1, .int v), (2, .int x)]) [0, 1, 2] rfl ?_
  refine fw_iload_n (pc := 0) X dX2_announce_0 rfl 1 rfl ?_
  refine fw_callS (pc := 1) (n := 1) X hE [.int v] (ct_X2_isTrader v) (by decide) gX2_announce_X2_isTrader rfl ⟨rfl, rfl⟩ dsc_X2_isTrader ⟨Nat.le_of_ble_eq_true rfl, Nat.le_of_ble_eq_true rfl⟩ rfl rfl (Nat.le_of_ble_eq_true rfl) dX2_announce_1 ⟨Nat.le_of_ble_eq_true rfl, Nat.le_of_ble_eq_true rfl⟩ (fun _ q => q.elim) (fun r0 u0 r_1 => ?_)
  subst r_1
  show fw_W _ _ _ _ _ _ _ _ _ _ _ _ _ _ _ _ _ _ _ (.int (b2i (m_in v 0 3 = true)) :: _)
  by_cases c_2 : m_in v 0 3 = true
  · obtain ⟨hx_v, hl_v⟩ := in_ix (h := 3) (N := 4) (by decide) (by decide) c_2
    refine fw_iv (y := 1) (if_pos c_2) ?_
    refine fw_if_eq (pc := 4) (tgt := 22) X dX2_announce_4 (by decide) (fun q => absurd q (by decide)) (fun _ => ?_)
    refine fw_iload_n (pc := 7) X dX2_announce_7 rfl 2 rfl ?_
    refine fw_iconst (pc := 8) (v := 0) X dX2_announce_8 (by decide) ?_
    refine fw_sipush (pc := 9) (v := 999) X dX2_announce_9 (by decide) ?_
    refine fw_callS (pc := 12) (n := 3) X hE [.int x, .int 0, .int 999] (ct_X2_isIn x 0 999) (by decide) gX2_announce_X2_isIn rfl ⟨rfl, rfl⟩ dsc_X2_isIn ⟨Nat.le_of_ble_eq_true rfl, Nat.le_of_ble_eq_true rfl⟩ rfl rfl (Nat.le_of_ble_eq_true rfl) dX2_announce_12 ⟨Nat.le_of_ble_eq_true rfl, Nat.le_of_ble_eq_true rfl⟩ (fun _ q => q.elim) (fun r0 u0 r_3 => ?_)
    subst r_3
    show fw_W _ _ _ _ _ _ _ _ _ _ _ _ _ _ _ _ _ _ _ (.int (b2i (m_in x 0 999 = true)) :: _)
    by_cases c_4 : m_in x 0 999 = true
    · obtain ⟨hx_x, hl_x⟩ := in_ix (h := 999) (N := 1000) (by decide) (by decide) c_4
      refine fw_iv (y := 1) (if_pos c_4) ?_
      refine fw_if_eq (pc := 15) (tgt := 22) X dX2_announce_15 (by decide) (fun q => absurd q (by decide)) (fun _ => ?_)
      refine fw_iconst (pc := 18) (v := 1) X dX2_announce_18 (by decide) ?_
      refine fw_goto (pc := 19) (tgt := 23) X dX2_announce_19 (by decide) ?_
      refine fw_istore_n (pc := 23) (lv' := [(3, .int 1), (0, .ref (a 0)), (1, .int v), (2, .int x)]) X dX2_announce_23 rfl (by decide) rfl ?_
      refine fw_aload_n (pc := 24) X dX2_announce_24 rfl 1 rfl ?_
      refine fw_iload_n (pc := 25) X dX2_announce_25 rfl 0 rfl ?_
      refine fw_if_ne (pc := 26) (tgt := 33) X dX2_announce_26 (by decide) (fun _ => ?_) (fun q => absurd q (by decide))
      refine fw_aload_n (pc := 33) X dX2_announce_33 rfl 1 rfl ?_
      refine fw_get (pc := 34) (v := .int (F 19)) X iX2_announce_X2 0 M_obj rfl 19 (by decide) kX2_announce_70 rfl dX2_announce_34 ?_
      refine fw_bipush (pc := 37) (v := 15) X dX2_announce_37 (by decide) ?_
      refine fw_icmp_ne (pc := 39) (tgt := 46) X dX2_announce_39 (by decide) (fun c_5 => ?_) (fun c_5 => ?_)
      · refine fw_iconst (pc := 46) (v := 0) X dX2_announce_46 (by decide) ?_
        refine fw_callV (pc := 47) (n := 1) (C := (RX2, TX2, 21)) (ci := 2) (q0 := 0) X hE [.int 0] (ct_X2_isFine 0) (by decide) gX2_announce_X2_isFine rfl ⟨rfl, rfl⟩ ⟨rfl, dsc_X2_isFine⟩ ⟨Nat.le_of_ble_eq_true rfl, Nat.le_of_ble_eq_true rfl⟩ rfl M_obj rfl rfl (Nat.le_of_ble_eq_true rfl) dX2_announce_47 ⟨Nat.le_of_ble_eq_true rfl, Nat.le_of_ble_eq_true rfl⟩ (fun _ q => q.elim) (fun r0 u0 r_6 => ?_)
        subst r_6
        show fw_W _ _ _ _ _ _ _ _ _ _ _ _ _ _ _ _ _ _ _ (.int (b2i (0 = 0)) :: _)
        refine fw_iv (y := 1) (if_pos (by decide)) ?_
        refine fw_if_ne (pc := 50) (tgt := 55) X dX2_announce_50 (by decide) (fun _ => ?_) (fun q => absurd q (by decide))
        refine fw_aload_n (pc := 55) X dX2_announce_55 rfl 1 rfl ?_
        refine fw_get (pc := 56) (v := .ref (a 8)) X iX2_announce_X2 0 M_obj rfl 8 (by decide) kX2_announce_29 rfl dX2_announce_56 ?_
        refine fw_aload_n (pc := 59) X dX2_announce_59 rfl 1 rfl ?_
        refine fw_get (pc := 60) (v := .int (F 19)) X iX2_announce_X2 0 M_obj rfl 19 (by decide) kX2_announce_70 rfl dX2_announce_60 ?_
        refine fw_iload_n (pc := 63) X dX2_announce_63 rfl 2 rfl ?_
        refine fw_iast (pc := 64) (f := G 8) (ws' := MW K a (upd F 0 0) (va_up G 8 (upd (G 8) n v))) X 6 0 (M_g8 (G := G)) rfl n hn (ann_lt hn hn15 c_5) (by decide) dX2_announce_64 rfl ?_
        refine fw_aload_n (pc := 65) X dX2_announce_65 rfl 1 rfl ?_
        refine fw_get (pc := 66) (v := .ref (a 9)) X iX2_announce_X2 0 M_obj rfl 9 (by decide) kX2_announce_32 rfl dX2_announce_66 ?_
        refine fw_aload_n (pc := 69) X dX2_announce_69 rfl 1 rfl ?_
        refine fw_get (pc := 70) (v := .int (F 19)) X iX2_announce_X2 0 M_obj rfl 19 (by decide) kX2_announce_70 rfl dX2_announce_70 ?_
        refine fw_iload_n (pc := 73) X dX2_announce_73 rfl 3 rfl ?_
        refine fw_iast (pc := 74) (f := G 9) (ws' := MW K a (upd F 0 0) (va_up (va_up G 8 (upd (G 8) n v)) 9 (upd (G 9) n x))) X 7 0 (M_g9 (G := (va_up G 8 (upd (G 8) n v)))) rfl n hn (ann_lt hn hn15 c_5) (by decide) dX2_announce_74 rfl ?_
        refine fw_aload_n (pc := 75) X dX2_announce_75 rfl 1 rfl ?_
        refine fw_dup (pc := 76) X dX2_announce_76 rfl ?_
        refine fw_get (pc := 77) (v := .int (F 19)) X iX2_announce_X2 0 M_obj rfl 19 (by decide) kX2_announce_70 rfl dX2_announce_77 ?_
        refine fw_iconst (pc := 80) (v := 1) X dX2_announce_80 (by decide) ?_
        refine fw_iadd (pc := 81) X dX2_announce_81 ?_
        refine fw_put (pc := 82) (ws' := MW K a (upd (upd F 0 0) 19 ((F 19) + 1)) (va_up (va_up G 8 (upd (G 8) n v)) 9 (upd (G 9) n x))) X iX2_announce_X2 tyX2 tyX2_ok nmX2 0 M_obj rfl 19 (by decide) kX2_announce_70 rfl rfl rfl (Nat.le_of_ble_eq_true rfl) dX2_announce_82 rfl ?_
        refine fw_aload_n (pc := 85) X dX2_announce_85 rfl 1 rfl ?_
        refine fw_get (pc := 86) (v := .int ((F 19) + 1)) X iX2_announce_X2 0 M_obj rfl 19 (by decide) kX2_announce_70 rfl dX2_announce_86 ?_
        refine fw_iconst (pc := 89) (v := 1) X dX2_announce_89 (by decide) ?_
        refine fw_isub (pc := 90) X dX2_announce_90 ?_
        exact fw_iret (pc := 91) X hr hlk (Nat.le_of_ble_eq_true rfl) (Nat.le_of_ble_eq_true rfl) dX2_announce_91 () (by simp [m_ann_v, m_ann_F, m_ann_G, m_ann_k, c_2, c_4, c_5]) (by simp [m_ann_v, m_ann_F, m_ann_G, m_ann_k, c_2, c_4, c_5])
      · refine fw_iconst (pc := 42) (v := 2) X dX2_announce_42 (by decide) ?_
        refine fw_goto (pc := 43) (tgt := 47) X dX2_announce_43 (by decide) ?_
        refine fw_callV (pc := 47) (n := 1) (C := (RX2, TX2, 21)) (ci := 2) (q0 := 0) X hE [.int 2] (ct_X2_isFine 2) (by decide) gX2_announce_X2_isFine rfl ⟨rfl, rfl⟩ ⟨rfl, dsc_X2_isFine⟩ ⟨Nat.le_of_ble_eq_true rfl, Nat.le_of_ble_eq_true rfl⟩ rfl M_obj rfl rfl (Nat.le_of_ble_eq_true rfl) dX2_announce_47 ⟨Nat.le_of_ble_eq_true rfl, Nat.le_of_ble_eq_true rfl⟩ (fun _ q => q.elim) (fun r0 u0 r_7 => ?_)
        subst r_7
        show fw_W _ _ _ _ _ _ _ _ _ _ _ _ _ _ _ _ _ _ _ (.int (b2i (2 = 0)) :: _)
        refine fw_iv (y := 0) (if_neg (by decide)) ?_
        refine fw_if_ne (pc := 50) (tgt := 55) X dX2_announce_50 (by decide) (fun q => absurd (by decide) q) (fun _ => ?_)
        refine fw_iconst (pc := 53) (v := 0) X dX2_announce_53 (by decide) ?_
        exact fw_iret (pc := 54) X hr hlk (Nat.le_of_ble_eq_true rfl) (Nat.le_of_ble_eq_true rfl) dX2_announce_54 () (by simp [m_ann_v, m_ann_F, m_ann_G, m_ann_k, c_2, c_4, c_5]) (by simp [m_ann_v, m_ann_F, m_ann_G, m_ann_k, c_2, c_4, c_5])
    · refine fw_iv (y := 0) (if_neg c_4) ?_
      refine fw_if_eq (pc := 15) (tgt := 22) X dX2_announce_15 (by decide) (fun _ => ?_) (fun q => absurd (by decide) q)
      refine fw_iconst (pc := 22) (v := 0) X dX2_announce_22 (by decide) ?_
      refine fw_istore_n (pc := 23) (lv' := [(3, .int 0), (0, .ref (a 0)), (1, .int v), (2, .int x)]) X dX2_announce_23 rfl (by decide) rfl ?_
      refine fw_aload_n (pc := 24) X dX2_announce_24 rfl 1 rfl ?_
      refine fw_iload_n (pc := 25) X dX2_announce_25 rfl 0 rfl ?_
      refine fw_if_ne (pc := 26) (tgt := 33) X dX2_announce_26 (by decide) (fun q => absurd (by decide) q) (fun _ => ?_)
      refine fw_iconst (pc := 29) (v := 1) X dX2_announce_29 (by decide) ?_
      refine fw_goto (pc := 30) (tgt := 47) X dX2_announce_30 (by decide) ?_
      refine fw_callV (pc := 47) (n := 1) (C := (RX2, TX2, 21)) (ci := 2) (q0 := 0) X hE [.int 1] (ct_X2_isFine 1) (by decide) gX2_announce_X2_isFine rfl ⟨rfl, rfl⟩ ⟨rfl, dsc_X2_isFine⟩ ⟨Nat.le_of_ble_eq_true rfl, Nat.le_of_ble_eq_true rfl⟩ rfl M_obj rfl rfl (Nat.le_of_ble_eq_true rfl) dX2_announce_47 ⟨Nat.le_of_ble_eq_true rfl, Nat.le_of_ble_eq_true rfl⟩ (fun _ q => q.elim) (fun r0 u0 r_8 => ?_)
      subst r_8
      show fw_W _ _ _ _ _ _ _ _ _ _ _ _ _ _ _ _ _ _ _ (.int (b2i (1 = 0)) :: _)
      refine fw_iv (y := 0) (if_neg (by decide)) ?_
      refine fw_if_ne (pc := 50) (tgt := 55) X dX2_announce_50 (by decide) (fun q => absurd (by decide) q) (fun _ => ?_)
      refine fw_iconst (pc := 53) (v := 0) X dX2_announce_53 (by decide) ?_
      exact fw_iret (pc := 54) X hr hlk (Nat.le_of_ble_eq_true rfl) (Nat.le_of_ble_eq_true rfl) dX2_announce_54 () (by simp [m_ann_v, m_ann_F, m_ann_G, m_ann_k, c_2, c_4]) (by simp [m_ann_v, m_ann_F, m_ann_G, m_ann_k, c_2, c_4])
  · refine fw_iv (y := 0) (if_neg c_2) ?_
    refine fw_if_eq (pc := 4) (tgt := 22) X dX2_announce_4 (by decide) (fun _ => ?_) (fun q => absurd (by decide) q)
    refine fw_iconst (pc := 22) (v := 0) X dX2_announce_22 (by decide) ?_
    refine fw_istore_n (pc := 23) (lv' := [(3, .int 0), (0, .ref (a 0)), (1, .int v), (2, .int x)]) X dX2_announce_23 rfl (by decide) rfl ?_
    refine fw_aload_n (pc := 24) X dX2_announce_24 rfl 1 rfl ?_
    refine fw_iload_n (pc := 25) X dX2_announce_25 rfl 0 rfl ?_
    refine fw_if_ne (pc := 26) (tgt := 33) X dX2_announce_26 (by decide) (fun q => absurd (by decide) q) (fun _ => ?_)
    refine fw_iconst (pc := 29) (v := 1) X dX2_announce_29 (by decide) ?_
    refine fw_goto (pc := 30) (tgt := 47) X dX2_announce_30 (by decide) ?_
    refine fw_callV (pc := 47) (n := 1) (C := (RX2, TX2, 21)) (ci := 2) (q0 := 0) X hE [.int 1] (ct_X2_isFine 1) (by decide) gX2_announce_X2_isFine rfl ⟨rfl, rfl⟩ ⟨rfl, dsc_X2_isFine⟩ ⟨Nat.le_of_ble_eq_true rfl, Nat.le_of_ble_eq_true rfl⟩ rfl M_obj rfl rfl (Nat.le_of_ble_eq_true rfl) dX2_announce_47 ⟨Nat.le_of_ble_eq_true rfl, Nat.le_of_ble_eq_true rfl⟩ (fun _ q => q.elim) (fun r0 u0 r_9 => ?_)
    subst r_9
    show fw_W _ _ _ _ _ _ _ _ _ _ _ _ _ _ _ _ _ _ _ (.int (b2i (1 = 0)) :: _)
    refine fw_iv (y := 0) (if_neg (by decide)) ?_
    refine fw_if_ne (pc := 50) (tgt := 55) X dX2_announce_50 (by decide) (fun q => absurd (by decide) q) (fun _ => ?_)
    refine fw_iconst (pc := 53) (v := 0) X dX2_announce_53 (by decide) ?_
    exact fw_iret (pc := 54) X hr hlk (Nat.le_of_ble_eq_true rfl) (Nat.le_of_ble_eq_true rfl) dX2_announce_54 () (by simp [m_ann_v, m_ann_F, m_ann_G, m_ann_k, c_2]) (by simp [m_ann_v, m_ann_F, m_ann_G, m_ann_k, c_2])
theorem kX2_amend_35 : Cond.fieldLink RX2 35 (TX2 10).1 (TX2 10).2.1 (TX2 10).2.2.1 ∈ wsX2_amend := by decide +kernel
set_option maxRecDepth 20000 in
theorem iX2_amend_X2 : ∀ w ∈ wsX20, w ∈ wsX2_amend := by decide +kernel
theorem kX2_amend_54 : Cond.fieldLink RX2 54 (TX2 16).1 (TX2 16).2.1 (TX2 16).2.2.1 ∈ wsX2_amend := by decide +kernel
theorem kX2_amend_38 : Cond.fieldLink RX2 38 (TX2 11).1 (TX2 11).2.1 (TX2 11).2.2.1 ∈ wsX2_amend := by decide +kernel
theorem dsc_X2_amend : fw_dsc yX2_amend 3 := by decide +kernel
set_option maxHeartbeats 4000000 in
set_option maxRecDepth 100000 in
theorem ct_X2_amend {l : Launch} {D : va_G} {K : Nat → ClassId} {a : Nat → Nat} {F : Nat → Int32} {G : Nat → Nat → Int32} (u v x : Int32) {n : Nat} (hn : F 19 = nI n) (hn15 : n ≤ 15) : fw_C (S := Unit) l yX2_amend wsX2_amend ({ frames := 2, cells := 0, slots := 0, locals := 43 }) 0 0 false [.ref (a 0), .int u, .int v, .int x] D (tyS K) (MW K a F G) (fun r _ => r = some (.int (m_amd_v F G u v x))) (fun _ => MW K a (upd F 0 (m_amd_k F G u v x)) (m_amd_G F G u v x)) (fun _ => False) := by
  refine fw_met (maxL := 7) (ret := (some .int)) (by decide) rfl (Nat.le_of_ble_eq_true rfl) ?_
  intro p e s m args below meth c A X hr hlk hnm htab hE
  refine fw_lv (lv' := [(0, .ref (a 0)), (1, .int u), (2, .int v), (3, .int x)]) [0, 1, 2, 3] rfl ?_
  refine fw_aload_n (pc := 0) X dX2_amend_0 rfl 0 rfl ?_
  refine fw_iload_n (pc := 1) X dX2_amend_1 rfl 1 rfl ?_
  refine fw_callV (pc := 2) (n := 1) (C := (RX2, TX2, 21)) (ci := 2) (q0 := 0) X hE [.int u] (ct_X2_isConsignment u) (by decide) gX2_amend_X2_isConsignment rfl ⟨rfl, rfl⟩ ⟨rfl, dsc_X2_isConsignment⟩ ⟨Nat.le_of_ble_eq_true rfl, Nat.le_of_ble_eq_true rfl⟩ rfl M_obj rfl rfl (Nat.le_of_ble_eq_true rfl) dX2_amend_2 ⟨Nat.le_of_ble_eq_true rfl, Nat.le_of_ble_eq_true rfl⟩ (fun _ q => q.elim) (fun r0 u0 r_1 => ?_)
  subst r_1
  show fw_W _ _ _ _ _ _ _ _ _ _ _ _ _ _ _ _ _ _ _ (.int (b2i (m_in u 0 (F 19 - 1) = true)) :: _)
  by_cases c_2 : m_in u 0 (F 19 - 1) = true
  · obtain ⟨hx_u, hl_u⟩ := in_con hn15 (by rw [← hn]; exact c_2)
    refine fw_iv (y := 1) (if_pos c_2) ?_
    refine fw_istore (pc := 5) (lv' := [(4, .int 1), (0, .ref (a 0)), (1, .int u), (2, .int v), (3, .int x)]) X dX2_amend_5 (by decide) rfl ?_
    refine fw_iload_n (pc := 7) X dX2_amend_7 rfl 3 rfl ?_
    refine fw_callS (pc := 8) (n := 1) X hE [.int v] (ct_X2_isSort v) (by decide) gX2_amend_X2_isSort rfl ⟨rfl, rfl⟩ dsc_X2_isSort ⟨Nat.le_of_ble_eq_true rfl, Nat.le_of_ble_eq_true rfl⟩ rfl rfl (Nat.le_of_ble_eq_true rfl) dX2_amend_8 ⟨Nat.le_of_ble_eq_true rfl, Nat.le_of_ble_eq_true rfl⟩ (fun _ q => q.elim) (fun r0 u0 r_3 => ?_)
    subst r_3
    show fw_W _ _ _ _ _ _ _ _ _ _ _ _ _ _ _ _ _ _ _ (.int (b2i (m_in v 0 5 = true)) :: _)
    by_cases c_4 : m_in v 0 5 = true
    · obtain ⟨hx_v, hl_v⟩ := in_ix (h := 5) (N := 6) (by decide) (by decide) c_4
      refine fw_iv (y := 1) (if_pos c_4) ?_
      refine fw_if_eq (pc := 11) (tgt := 28) X dX2_amend_11 (by decide) (fun q => absurd q (by decide)) (fun _ => ?_)
      refine fw_iload_n (pc := 14) X dX2_amend_14 rfl 4 rfl ?_
      refine fw_iconst (pc := 15) (v := 0) X dX2_amend_15 (by decide) ?_
      refine fw_bipush (pc := 16) (v := 100) X dX2_amend_16 (by decide) ?_
      refine fw_callS (pc := 18) (n := 3) X hE [.int x, .int 0, .int 100] (ct_X2_isIn x 0 100) (by decide) gX2_amend_X2_isIn rfl ⟨rfl, rfl⟩ dsc_X2_isIn ⟨Nat.le_of_ble_eq_true rfl, Nat.le_of_ble_eq_true rfl⟩ rfl rfl (Nat.le_of_ble_eq_true rfl) dX2_amend_18 ⟨Nat.le_of_ble_eq_true rfl, Nat.le_of_ble_eq_true rfl⟩ (fun _ q => q.elim) (fun r0 u0 r_5 => ?_)
      subst r_5
      show fw_W _ _ _ _ _ _ _ _ _ _ _ _ _ _ _ _ _ _ _ (.int (b2i (m_in x 0 100 = true)) :: _)
      by_cases c_6 : m_in x 0 100 = true
      · obtain ⟨hx_x, hl_x⟩ := in_ix (h := 100) (N := 101) (by decide) (by decide) c_6
        refine fw_iv (y := 1) (if_pos c_6) ?_
        refine fw_if_eq (pc := 21) (tgt := 28) X dX2_amend_21 (by decide) (fun q => absurd q (by decide)) (fun _ => ?_)
        refine fw_iconst (pc := 24) (v := 1) X dX2_amend_24 (by decide) ?_
        refine fw_goto (pc := 25) (tgt := 29) X dX2_amend_25 (by decide) ?_
        refine fw_istore (pc := 29) (lv' := [(5, .int 1), (4, .int 1), (0, .ref (a 0)), (1, .int u), (2, .int v), (3, .int x)]) X dX2_amend_29 (by decide) rfl ?_
        refine fw_iload (pc := 31) X dX2_amend_31 1 rfl ?_
        refine fw_if_eq (pc := 33) (tgt := 69) X dX2_amend_33 (by decide) (fun q => absurd q (by decide)) (fun _ => ?_)
        refine fw_iload (pc := 36) X dX2_amend_36 0 rfl ?_
        refine fw_if_eq (pc := 38) (tgt := 69) X dX2_amend_38 (by decide) (fun q => absurd q (by decide)) (fun _ => ?_)
        refine fw_aload_n (pc := 41) X dX2_amend_41 rfl 2 rfl ?_
        refine fw_get (pc := 42) (v := .ref (a 10)) X iX2_amend_X2 0 M_obj rfl 10 (by decide) kX2_amend_35 rfl dX2_amend_42 ?_
        refine fw_iload_n (pc := 45) X dX2_amend_45 rfl 3 rfl ?_
        refine fw_iald (pc := 46) (f := G 10) X 8 0 (M_g10 (G := G)) rfl (ix u) hx_u (by omega) (by decide) dX2_amend_46 ?_
        refine fw_if_ne (pc := 47) (tgt := 69) X dX2_amend_47 (by decide) (fun c_7 => ?_) (fun c_7 => ?_)
        · refine fw_iconst (pc := 69) (v := 0) X dX2_amend_69 (by decide) ?_
          refine fw_istore (pc := 70) (lv' := [(6, .int 0), (5, .int 1), (4, .int 1), (0, .ref (a 0)), (1, .int u), (2, .int v), (3, .int x)]) X dX2_amend_70 (by decide) rfl ?_
          refine fw_aload_n (pc := 72) X dX2_amend_72 rfl 3 rfl ?_
          refine fw_iload (pc := 73) X dX2_amend_73 2 rfl ?_
          refine fw_if_ne (pc := 75) (tgt := 82) X dX2_amend_75 (by decide) (fun _ => ?_) (fun q => absurd q (by decide))
          refine fw_iload (pc := 82) X dX2_amend_82 1 rfl ?_
          refine fw_if_ne (pc := 84) (tgt := 91) X dX2_amend_84 (by decide) (fun _ => ?_) (fun q => absurd q (by decide))
          refine fw_iload (pc := 91) X dX2_amend_91 0 rfl ?_
          refine fw_if_ne (pc := 93) (tgt := 100) X dX2_amend_93 (by decide) (fun q => absurd (by decide) q) (fun _ => ?_)
          refine fw_iconst (pc := 96) (v := 3) X dX2_amend_96 (by decide) ?_
          refine fw_goto (pc := 97) (tgt := 101) X dX2_amend_97 (by decide) ?_
          refine fw_callV (pc := 101) (n := 1) (C := (RX2, TX2, 21)) (ci := 2) (q0 := 0) X hE [.int 3] (ct_X2_isFine 3) (by decide) gX2_amend_X2_isFine rfl ⟨rfl, rfl⟩ ⟨rfl, dsc_X2_isFine⟩ ⟨Nat.le_of_ble_eq_true rfl, Nat.le_of_ble_eq_true rfl⟩ rfl M_obj rfl rfl (Nat.le_of_ble_eq_true rfl) dX2_amend_101 ⟨Nat.le_of_ble_eq_true rfl, Nat.le_of_ble_eq_true rfl⟩ (fun _ q => q.elim) (fun r0 u0 r_8 => ?_)
          subst r_8
          show fw_W _ _ _ _ _ _ _ _ _ _ _ _ _ _ _ _ _ _ _ (.int (b2i (3 = 0)) :: _)
          refine fw_iv (y := 0) (if_neg (by decide)) ?_
          refine fw_if_ne (pc := 104) (tgt := 109) X dX2_amend_104 (by decide) (fun q => absurd (by decide) q) (fun _ => ?_)
          refine fw_iconst (pc := 107) (v := 0) X dX2_amend_107 (by decide) ?_
          exact fw_iret (pc := 108) X hr hlk (Nat.le_of_ble_eq_true rfl) (Nat.le_of_ble_eq_true rfl) dX2_amend_108 () (by simp [m_amd_v, m_amd_G, m_amd_k, upd, c_2, c_4, c_6, c_7]) (by simp [m_amd_v, m_amd_G, m_amd_k, upd, c_2, c_4, c_6, c_7])
        · refine fw_aload_n (pc := 50) X dX2_amend_50 rfl 2 rfl ?_
          refine fw_get (pc := 51) (v := .ref (a 16)) X iX2_amend_X2 0 M_obj rfl 16 (by decide) kX2_amend_54 rfl dX2_amend_51 ?_
          refine fw_bipush (pc := 54) (v := 6) X dX2_amend_54 (by decide) ?_
          refine fw_iload_n (pc := 56) X dX2_amend_56 rfl 3 rfl ?_
          refine fw_imul (pc := 57) X dX2_amend_57 ?_
          refine fw_iload_n (pc := 58) X dX2_amend_58 rfl 4 rfl ?_
          refine fw_iadd (pc := 59) X dX2_amend_59 ?_
          refine fw_iald (pc := 60) (f := G 16) X 14 0 (M_g16 (G := G)) rfl ((6 * (ix u)) + (ix v)) (nf_add (nf_mul rfl hx_u) hx_v) (by omega) (by decide) dX2_amend_60 ?_
          refine fw_iload_n (pc := 61) X dX2_amend_61 rfl 5 rfl ?_
          refine fw_icmp_eq (pc := 62) (tgt := 69) X dX2_amend_62 (by decide) (fun c_9 => ?_) (fun c_9 => ?_)
          · refine fw_iconst (pc := 69) (v := 0) X dX2_amend_69 (by decide) ?_
            refine fw_istore (pc := 70) (lv' := [(6, .int 0), (5, .int 1), (4, .int 1), (0, .ref (a 0)), (1, .int u), (2, .int v), (3, .int x)]) X dX2_amend_70 (by decide) rfl ?_
            refine fw_aload_n (pc := 72) X dX2_amend_72 rfl 3 rfl ?_
            refine fw_iload (pc := 73) X dX2_amend_73 2 rfl ?_
            refine fw_if_ne (pc := 75) (tgt := 82) X dX2_amend_75 (by decide) (fun _ => ?_) (fun q => absurd q (by decide))
            refine fw_iload (pc := 82) X dX2_amend_82 1 rfl ?_
            refine fw_if_ne (pc := 84) (tgt := 91) X dX2_amend_84 (by decide) (fun _ => ?_) (fun q => absurd q (by decide))
            refine fw_iload (pc := 91) X dX2_amend_91 0 rfl ?_
            refine fw_if_ne (pc := 93) (tgt := 100) X dX2_amend_93 (by decide) (fun q => absurd (by decide) q) (fun _ => ?_)
            refine fw_iconst (pc := 96) (v := 3) X dX2_amend_96 (by decide) ?_
            refine fw_goto (pc := 97) (tgt := 101) X dX2_amend_97 (by decide) ?_
            refine fw_callV (pc := 101) (n := 1) (C := (RX2, TX2, 21)) (ci := 2) (q0 := 0) X hE [.int 3] (ct_X2_isFine 3) (by decide) gX2_amend_X2_isFine rfl ⟨rfl, rfl⟩ ⟨rfl, dsc_X2_isFine⟩ ⟨Nat.le_of_ble_eq_true rfl, Nat.le_of_ble_eq_true rfl⟩ rfl M_obj rfl rfl (Nat.le_of_ble_eq_true rfl) dX2_amend_101 ⟨Nat.le_of_ble_eq_true rfl, Nat.le_of_ble_eq_true rfl⟩ (fun _ q => q.elim) (fun r0 u0 r_10 => ?_)
            subst r_10
            show fw_W _ _ _ _ _ _ _ _ _ _ _ _ _ _ _ _ _ _ _ (.int (b2i (3 = 0)) :: _)
            refine fw_iv (y := 0) (if_neg (by decide)) ?_
            refine fw_if_ne (pc := 104) (tgt := 109) X dX2_amend_104 (by decide) (fun q => absurd (by decide) q) (fun _ => ?_)
            refine fw_iconst (pc := 107) (v := 0) X dX2_amend_107 (by decide) ?_
            exact fw_iret (pc := 108) X hr hlk (Nat.le_of_ble_eq_true rfl) (Nat.le_of_ble_eq_true rfl) dX2_amend_108 () (by simp [m_amd_v, m_amd_G, m_amd_k, upd, c_2, c_4, c_6, c_7, c_9]) (by simp [m_amd_v, m_amd_G, m_amd_k, upd, c_2, c_4, c_6, c_7, c_9])
          · refine fw_iconst (pc := 65) (v := 1) X dX2_amend_65 (by decide) ?_
            refine fw_goto (pc := 66) (tgt := 70) X dX2_amend_66 (by decide) ?_
            refine fw_istore (pc := 70) (lv' := [(6, .int 1), (5, .int 1), (4, .int 1), (0, .ref (a 0)), (1, .int u), (2, .int v), (3, .int x)]) X dX2_amend_70 (by decide) rfl ?_
            refine fw_aload_n (pc := 72) X dX2_amend_72 rfl 3 rfl ?_
            refine fw_iload (pc := 73) X dX2_amend_73 2 rfl ?_
            refine fw_if_ne (pc := 75) (tgt := 82) X dX2_amend_75 (by decide) (fun _ => ?_) (fun q => absurd q (by decide))
            refine fw_iload (pc := 82) X dX2_amend_82 1 rfl ?_
            refine fw_if_ne (pc := 84) (tgt := 91) X dX2_amend_84 (by decide) (fun _ => ?_) (fun q => absurd q (by decide))
            refine fw_iload (pc := 91) X dX2_amend_91 0 rfl ?_
            refine fw_if_ne (pc := 93) (tgt := 100) X dX2_amend_93 (by decide) (fun _ => ?_) (fun q => absurd q (by decide))
            refine fw_iconst (pc := 100) (v := 0) X dX2_amend_100 (by decide) ?_
            refine fw_callV (pc := 101) (n := 1) (C := (RX2, TX2, 21)) (ci := 2) (q0 := 0) X hE [.int 0] (ct_X2_isFine 0) (by decide) gX2_amend_X2_isFine rfl ⟨rfl, rfl⟩ ⟨rfl, dsc_X2_isFine⟩ ⟨Nat.le_of_ble_eq_true rfl, Nat.le_of_ble_eq_true rfl⟩ rfl M_obj rfl rfl (Nat.le_of_ble_eq_true rfl) dX2_amend_101 ⟨Nat.le_of_ble_eq_true rfl, Nat.le_of_ble_eq_true rfl⟩ (fun _ q => q.elim) (fun r0 u0 r_11 => ?_)
            subst r_11
            show fw_W _ _ _ _ _ _ _ _ _ _ _ _ _ _ _ _ _ _ _ (.int (b2i (0 = 0)) :: _)
            refine fw_iv (y := 1) (if_pos (by decide)) ?_
            refine fw_if_ne (pc := 104) (tgt := 109) X dX2_amend_104 (by decide) (fun _ => ?_) (fun q => absurd q (by decide))
            refine fw_aload_n (pc := 109) X dX2_amend_109 rfl 3 rfl ?_
            refine fw_get (pc := 110) (v := .ref (a 16)) X iX2_amend_X2 0 M_obj rfl 16 (by decide) kX2_amend_54 rfl dX2_amend_110 ?_
            refine fw_bipush (pc := 113) (v := 6) X dX2_amend_113 (by decide) ?_
            refine fw_iload_n (pc := 115) X dX2_amend_115 rfl 4 rfl ?_
            refine fw_imul (pc := 116) X dX2_amend_116 ?_
            refine fw_iload_n (pc := 117) X dX2_amend_117 rfl 5 rfl ?_
            refine fw_iadd (pc := 118) X dX2_amend_118 ?_
            refine fw_iload_n (pc := 119) X dX2_amend_119 rfl 6 rfl ?_
            refine fw_iast (pc := 120) (f := G 16) (ws' := MW K a (upd F 0 0) (va_up G 16 (upd (G 16) ((6 * (ix u)) + (ix v)) x))) X 14 0 (M_g16 (G := G)) rfl ((6 * (ix u)) + (ix v)) (nf_add (nf_mul rfl hx_u) hx_v) (by omega) (by decide) dX2_amend_120 rfl ?_
            refine fw_aload_n (pc := 121) X dX2_amend_121 rfl 3 rfl ?_
            refine fw_get (pc := 122) (v := .ref (a 11)) X iX2_amend_X2 0 M_obj rfl 11 (by decide) kX2_amend_38 rfl dX2_amend_122 ?_
            refine fw_iload_n (pc := 125) X dX2_amend_125 rfl 4 rfl ?_
            refine fw_dup2 (pc := 126) X dX2_amend_126 rfl rfl ?_
            refine fw_iald (pc := 127) (f := G 11) X 9 0 (M_g11 (G := (va_up G 16 (upd (G 16) ((6 * (ix u)) + (ix v)) x)))) rfl (ix u) hx_u (by omega) (by decide) dX2_amend_127 ?_
            refine fw_iconst (pc := 128) (v := 1) X dX2_amend_128 (by decide) ?_
            refine fw_iadd (pc := 129) X dX2_amend_129 ?_
            refine fw_iast (pc := 130) (f := G 11) (ws' := MW K a (upd F 0 0) (va_up (va_up G 16 (upd (G 16) ((6 * (ix u)) + (ix v)) x)) 11 (upd (G 11) (ix u) ((G 11 (ix u)) + 1)))) X 9 0 (M_g11 (G := (va_up G 16 (upd (G 16) ((6 * (ix u)) + (ix v)) x)))) rfl (ix u) hx_u (by omega) (by decide) dX2_amend_130 rfl ?_
            refine fw_aload_n (pc := 131) X dX2_amend_131 rfl 3 rfl ?_
            refine fw_get (pc := 132) (v := .ref (a 11)) X iX2_amend_X2 0 M_obj rfl 11 (by decide) kX2_amend_38 rfl dX2_amend_132 ?_
            refine fw_iload_n (pc := 135) X dX2_amend_135 rfl 4 rfl ?_
            refine fw_iald (pc := 136) (f := upd (G 11) (ix u) ((G 11 (ix u)) + 1)) X 9 0 (M_g11 (G := (va_up (va_up G 16 (upd (G 16) ((6 * (ix u)) + (ix v)) x)) 11 (upd (G 11) (ix u) ((G 11 (ix u)) + 1))))) rfl (ix u) hx_u (by omega) (by decide) dX2_amend_136 ?_
            exact fw_iret (pc := 137) X hr hlk (Nat.le_of_ble_eq_true rfl) (Nat.le_of_ble_eq_true rfl) dX2_amend_137 () (by simp [m_amd_v, m_amd_G, m_amd_k, upd, c_2, c_4, c_6, c_7, c_9]) (by simp [m_amd_v, m_amd_G, m_amd_k, upd, c_2, c_4, c_6, c_7, c_9])
      · refine fw_iv (y := 0) (if_neg c_6) ?_
        refine fw_if_eq (pc := 21) (tgt := 28) X dX2_amend_21 (by decide) (fun _ => ?_) (fun q => absurd (by decide) q)
        refine fw_iconst (pc := 28) (v := 0) X dX2_amend_28 (by decide) ?_
        refine fw_istore (pc := 29) (lv' := [(5, .int 0), (4, .int 1), (0, .ref (a 0)), (1, .int u), (2, .int v), (3, .int x)]) X dX2_amend_29 (by decide) rfl ?_
        refine fw_iload (pc := 31) X dX2_amend_31 1 rfl ?_
        refine fw_if_eq (pc := 33) (tgt := 69) X dX2_amend_33 (by decide) (fun q => absurd q (by decide)) (fun _ => ?_)
        refine fw_iload (pc := 36) X dX2_amend_36 0 rfl ?_
        refine fw_if_eq (pc := 38) (tgt := 69) X dX2_amend_38 (by decide) (fun _ => ?_) (fun q => absurd (by decide) q)
        refine fw_iconst (pc := 69) (v := 0) X dX2_amend_69 (by decide) ?_
        refine fw_istore (pc := 70) (lv' := [(6, .int 0), (5, .int 0), (4, .int 1), (0, .ref (a 0)), (1, .int u), (2, .int v), (3, .int x)]) X dX2_amend_70 (by decide) rfl ?_
        refine fw_aload_n (pc := 72) X dX2_amend_72 rfl 3 rfl ?_
        refine fw_iload (pc := 73) X dX2_amend_73 2 rfl ?_
        refine fw_if_ne (pc := 75) (tgt := 82) X dX2_amend_75 (by decide) (fun _ => ?_) (fun q => absurd q (by decide))
        refine fw_iload (pc := 82) X dX2_amend_82 1 rfl ?_
        refine fw_if_ne (pc := 84) (tgt := 91) X dX2_amend_84 (by decide) (fun q => absurd (by decide) q) (fun _ => ?_)
        refine fw_iconst (pc := 87) (v := 2) X dX2_amend_87 (by decide) ?_
        refine fw_goto (pc := 88) (tgt := 101) X dX2_amend_88 (by decide) ?_
        refine fw_callV (pc := 101) (n := 1) (C := (RX2, TX2, 21)) (ci := 2) (q0 := 0) X hE [.int 2] (ct_X2_isFine 2) (by decide) gX2_amend_X2_isFine rfl ⟨rfl, rfl⟩ ⟨rfl, dsc_X2_isFine⟩ ⟨Nat.le_of_ble_eq_true rfl, Nat.le_of_ble_eq_true rfl⟩ rfl M_obj rfl rfl (Nat.le_of_ble_eq_true rfl) dX2_amend_101 ⟨Nat.le_of_ble_eq_true rfl, Nat.le_of_ble_eq_true rfl⟩ (fun _ q => q.elim) (fun r0 u0 r_12 => ?_)
        subst r_12
        show fw_W _ _ _ _ _ _ _ _ _ _ _ _ _ _ _ _ _ _ _ (.int (b2i (2 = 0)) :: _)
        refine fw_iv (y := 0) (if_neg (by decide)) ?_
        refine fw_if_ne (pc := 104) (tgt := 109) X dX2_amend_104 (by decide) (fun q => absurd (by decide) q) (fun _ => ?_)
        refine fw_iconst (pc := 107) (v := 0) X dX2_amend_107 (by decide) ?_
        exact fw_iret (pc := 108) X hr hlk (Nat.le_of_ble_eq_true rfl) (Nat.le_of_ble_eq_true rfl) dX2_amend_108 () (by simp [m_amd_v, m_amd_G, m_amd_k, upd, c_2, c_4, c_6]) (by simp [m_amd_v, m_amd_G, m_amd_k, upd, c_2, c_4, c_6])
    · refine fw_iv (y := 0) (if_neg c_4) ?_
      refine fw_if_eq (pc := 11) (tgt := 28) X dX2_amend_11 (by decide) (fun _ => ?_) (fun q => absurd (by decide) q)
      refine fw_iconst (pc := 28) (v := 0) X dX2_amend_28 (by decide) ?_
      refine fw_istore (pc := 29) (lv' := [(5, .int 0), (4, .int 1), (0, .ref (a 0)), (1, .int u), (2, .int v), (3, .int x)]) X dX2_amend_29 (by decide) rfl ?_
      refine fw_iload (pc := 31) X dX2_amend_31 1 rfl ?_
      refine fw_if_eq (pc := 33) (tgt := 69) X dX2_amend_33 (by decide) (fun q => absurd q (by decide)) (fun _ => ?_)
      refine fw_iload (pc := 36) X dX2_amend_36 0 rfl ?_
      refine fw_if_eq (pc := 38) (tgt := 69) X dX2_amend_38 (by decide) (fun _ => ?_) (fun q => absurd (by decide) q)
      refine fw_iconst (pc := 69) (v := 0) X dX2_amend_69 (by decide) ?_
      refine fw_istore (pc := 70) (lv' := [(6, .int 0), (5, .int 0), (4, .int 1), (0, .ref (a 0)), (1, .int u), (2, .int v), (3, .int x)]) X dX2_amend_70 (by decide) rfl ?_
      refine fw_aload_n (pc := 72) X dX2_amend_72 rfl 3 rfl ?_
      refine fw_iload (pc := 73) X dX2_amend_73 2 rfl ?_
      refine fw_if_ne (pc := 75) (tgt := 82) X dX2_amend_75 (by decide) (fun _ => ?_) (fun q => absurd q (by decide))
      refine fw_iload (pc := 82) X dX2_amend_82 1 rfl ?_
      refine fw_if_ne (pc := 84) (tgt := 91) X dX2_amend_84 (by decide) (fun q => absurd (by decide) q) (fun _ => ?_)
      refine fw_iconst (pc := 87) (v := 2) X dX2_amend_87 (by decide) ?_
      refine fw_goto (pc := 88) (tgt := 101) X dX2_amend_88 (by decide) ?_
      refine fw_callV (pc := 101) (n := 1) (C := (RX2, TX2, 21)) (ci := 2) (q0 := 0) X hE [.int 2] (ct_X2_isFine 2) (by decide) gX2_amend_X2_isFine rfl ⟨rfl, rfl⟩ ⟨rfl, dsc_X2_isFine⟩ ⟨Nat.le_of_ble_eq_true rfl, Nat.le_of_ble_eq_true rfl⟩ rfl M_obj rfl rfl (Nat.le_of_ble_eq_true rfl) dX2_amend_101 ⟨Nat.le_of_ble_eq_true rfl, Nat.le_of_ble_eq_true rfl⟩ (fun _ q => q.elim) (fun r0 u0 r_13 => ?_)
      subst r_13
      show fw_W _ _ _ _ _ _ _ _ _ _ _ _ _ _ _ _ _ _ _ (.int (b2i (2 = 0)) :: _)
      refine fw_iv (y := 0) (if_neg (by decide)) ?_
      refine fw_if_ne (pc := 104) (tgt := 109) X dX2_amend_104 (by decide) (fun q => absurd (by decide) q) (fun _ => ?_)
      refine fw_iconst (pc := 107) (v := 0) X dX2_amend_107 (by decide) ?_
      exact fw_iret (pc := 108) X hr hlk (Nat.le_of_ble_eq_true rfl) (Nat.le_of_ble_eq_true rfl) dX2_amend_108 () (by simp [m_amd_v, m_amd_G, m_amd_k, upd, c_2, c_4]) (by simp [m_amd_v, m_amd_G, m_amd_k, upd, c_2, c_4])
  · refine fw_iv (y := 0) (if_neg c_2) ?_
    refine fw_istore (pc := 5) (lv' := [(4, .int 0), (0, .ref (a 0)), (1, .int u), (2, .int v), (3, .int x)]) X dX2_amend_5 (by decide) rfl ?_
    refine fw_iload_n (pc := 7) X dX2_amend_7 rfl 3 rfl ?_
    refine fw_callS (pc := 8) (n := 1) X hE [.int v] (ct_X2_isSort v) (by decide) gX2_amend_X2_isSort rfl ⟨rfl, rfl⟩ dsc_X2_isSort ⟨Nat.le_of_ble_eq_true rfl, Nat.le_of_ble_eq_true rfl⟩ rfl rfl (Nat.le_of_ble_eq_true rfl) dX2_amend_8 ⟨Nat.le_of_ble_eq_true rfl, Nat.le_of_ble_eq_true rfl⟩ (fun _ q => q.elim) (fun r0 u0 r_14 => ?_)
    subst r_14
    show fw_W _ _ _ _ _ _ _ _ _ _ _ _ _ _ _ _ _ _ _ (.int (b2i (m_in v 0 5 = true)) :: _)
    by_cases c_15 : m_in v 0 5 = true
    · obtain ⟨hx_v, hl_v⟩ := in_ix (h := 5) (N := 6) (by decide) (by decide) c_15
      refine fw_iv (y := 1) (if_pos c_15) ?_
      refine fw_if_eq (pc := 11) (tgt := 28) X dX2_amend_11 (by decide) (fun q => absurd q (by decide)) (fun _ => ?_)
      refine fw_iload_n (pc := 14) X dX2_amend_14 rfl 4 rfl ?_
      refine fw_iconst (pc := 15) (v := 0) X dX2_amend_15 (by decide) ?_
      refine fw_bipush (pc := 16) (v := 100) X dX2_amend_16 (by decide) ?_
      refine fw_callS (pc := 18) (n := 3) X hE [.int x, .int 0, .int 100] (ct_X2_isIn x 0 100) (by decide) gX2_amend_X2_isIn rfl ⟨rfl, rfl⟩ dsc_X2_isIn ⟨Nat.le_of_ble_eq_true rfl, Nat.le_of_ble_eq_true rfl⟩ rfl rfl (Nat.le_of_ble_eq_true rfl) dX2_amend_18 ⟨Nat.le_of_ble_eq_true rfl, Nat.le_of_ble_eq_true rfl⟩ (fun _ q => q.elim) (fun r0 u0 r_16 => ?_)
      subst r_16
      show fw_W _ _ _ _ _ _ _ _ _ _ _ _ _ _ _ _ _ _ _ (.int (b2i (m_in x 0 100 = true)) :: _)
      by_cases c_17 : m_in x 0 100 = true
      · obtain ⟨hx_x, hl_x⟩ := in_ix (h := 100) (N := 101) (by decide) (by decide) c_17
        refine fw_iv (y := 1) (if_pos c_17) ?_
        refine fw_if_eq (pc := 21) (tgt := 28) X dX2_amend_21 (by decide) (fun q => absurd q (by decide)) (fun _ => ?_)
        refine fw_iconst (pc := 24) (v := 1) X dX2_amend_24 (by decide) ?_
        refine fw_goto (pc := 25) (tgt := 29) X dX2_amend_25 (by decide) ?_
        refine fw_istore (pc := 29) (lv' := [(5, .int 1), (4, .int 0), (0, .ref (a 0)), (1, .int u), (2, .int v), (3, .int x)]) X dX2_amend_29 (by decide) rfl ?_
        refine fw_iload (pc := 31) X dX2_amend_31 1 rfl ?_
        refine fw_if_eq (pc := 33) (tgt := 69) X dX2_amend_33 (by decide) (fun _ => ?_) (fun q => absurd (by decide) q)
        refine fw_iconst (pc := 69) (v := 0) X dX2_amend_69 (by decide) ?_
        refine fw_istore (pc := 70) (lv' := [(6, .int 0), (5, .int 1), (4, .int 0), (0, .ref (a 0)), (1, .int u), (2, .int v), (3, .int x)]) X dX2_amend_70 (by decide) rfl ?_
        refine fw_aload_n (pc := 72) X dX2_amend_72 rfl 3 rfl ?_
        refine fw_iload (pc := 73) X dX2_amend_73 2 rfl ?_
        refine fw_if_ne (pc := 75) (tgt := 82) X dX2_amend_75 (by decide) (fun q => absurd (by decide) q) (fun _ => ?_)
        refine fw_iconst (pc := 78) (v := 1) X dX2_amend_78 (by decide) ?_
        refine fw_goto (pc := 79) (tgt := 101) X dX2_amend_79 (by decide) ?_
        refine fw_callV (pc := 101) (n := 1) (C := (RX2, TX2, 21)) (ci := 2) (q0 := 0) X hE [.int 1] (ct_X2_isFine 1) (by decide) gX2_amend_X2_isFine rfl ⟨rfl, rfl⟩ ⟨rfl, dsc_X2_isFine⟩ ⟨Nat.le_of_ble_eq_true rfl, Nat.le_of_ble_eq_true rfl⟩ rfl M_obj rfl rfl (Nat.le_of_ble_eq_true rfl) dX2_amend_101 ⟨Nat.le_of_ble_eq_true rfl, Nat.le_of_ble_eq_true rfl⟩ (fun _ q => q.elim) (fun r0 u0 r_18 => ?_)
        subst r_18
        show fw_W _ _ _ _ _ _ _ _ _ _ _ _ _ _ _ _ _ _ _ (.int (b2i (1 = 0)) :: _)
        refine fw_iv (y := 0) (if_neg (by decide)) ?_
        refine fw_if_ne (pc := 104) (tgt := 109) X dX2_amend_104 (by decide) (fun q => absurd (by decide) q) (fun _ => ?_)
        refine fw_iconst (pc := 107) (v := 0) X dX2_amend_107 (by decide) ?_
        exact fw_iret (pc := 108) X hr hlk (Nat.le_of_ble_eq_true rfl) (Nat.le_of_ble_eq_true rfl) dX2_amend_108 () (by simp [m_amd_v, m_amd_G, m_amd_k, upd, c_2, c_15, c_17]) (by simp [m_amd_v, m_amd_G, m_amd_k, upd, c_2, c_15, c_17])
      · refine fw_iv (y := 0) (if_neg c_17) ?_
        refine fw_if_eq (pc := 21) (tgt := 28) X dX2_amend_21 (by decide) (fun _ => ?_) (fun q => absurd (by decide) q)
        refine fw_iconst (pc := 28) (v := 0) X dX2_amend_28 (by decide) ?_
        refine fw_istore (pc := 29) (lv' := [(5, .int 0), (4, .int 0), (0, .ref (a 0)), (1, .int u), (2, .int v), (3, .int x)]) X dX2_amend_29 (by decide) rfl ?_
        refine fw_iload (pc := 31) X dX2_amend_31 1 rfl ?_
        refine fw_if_eq (pc := 33) (tgt := 69) X dX2_amend_33 (by decide) (fun _ => ?_) (fun q => absurd (by decide) q)
        refine fw_iconst (pc := 69) (v := 0) X dX2_amend_69 (by decide) ?_
        refine fw_istore (pc := 70) (lv' := [(6, .int 0), (5, .int 0), (4, .int 0), (0, .ref (a 0)), (1, .int u), (2, .int v), (3, .int x)]) X dX2_amend_70 (by decide) rfl ?_
        refine fw_aload_n (pc := 72) X dX2_amend_72 rfl 3 rfl ?_
        refine fw_iload (pc := 73) X dX2_amend_73 2 rfl ?_
        refine fw_if_ne (pc := 75) (tgt := 82) X dX2_amend_75 (by decide) (fun q => absurd (by decide) q) (fun _ => ?_)
        refine fw_iconst (pc := 78) (v := 1) X dX2_amend_78 (by decide) ?_
        refine fw_goto (pc := 79) (tgt := 101) X dX2_amend_79 (by decide) ?_
        refine fw_callV (pc := 101) (n := 1) (C := (RX2, TX2, 21)) (ci := 2) (q0 := 0) X hE [.int 1] (ct_X2_isFine 1) (by decide) gX2_amend_X2_isFine rfl ⟨rfl, rfl⟩ ⟨rfl, dsc_X2_isFine⟩ ⟨Nat.le_of_ble_eq_true rfl, Nat.le_of_ble_eq_true rfl⟩ rfl M_obj rfl rfl (Nat.le_of_ble_eq_true rfl) dX2_amend_101 ⟨Nat.le_of_ble_eq_true rfl, Nat.le_of_ble_eq_true rfl⟩ (fun _ q => q.elim) (fun r0 u0 r_19 => ?_)
        subst r_19
        show fw_W _ _ _ _ _ _ _ _ _ _ _ _ _ _ _ _ _ _ _ (.int (b2i (1 = 0)) :: _)
        refine fw_iv (y := 0) (if_neg (by decide)) ?_
        refine fw_if_ne (pc := 104) (tgt := 109) X dX2_amend_104 (by decide) (fun q => absurd (by decide) q) (fun _ => ?_)
        refine fw_iconst (pc := 107) (v := 0) X dX2_amend_107 (by decide) ?_
        exact fw_iret (pc := 108) X hr hlk (Nat.le_of_ble_eq_true rfl) (Nat.le_of_ble_eq_true rfl) dX2_amend_108 () (by simp [m_amd_v, m_amd_G, m_amd_k, upd, c_2, c_15, c_17]) (by simp [m_amd_v, m_amd_G, m_amd_k, upd, c_2, c_15, c_17])
    · refine fw_iv (y := 0) (if_neg c_15) ?_
      refine fw_if_eq (pc := 11) (tgt := 28) X dX2_amend_11 (by decide) (fun _ => ?_) (fun q => absurd (by decide) q)
      refine fw_iconst (pc := 28) (v := 0) X dX2_amend_28 (by decide) ?_
      refine fw_istore (pc := 29) (lv' := [(5, .int 0), (4, .int 0), (0, .ref (a 0)), (1, .int u), (2, .int v), (3, .int x)]) X dX2_amend_29 (by decide) rfl ?_
      refine fw_iload (pc := 31) X dX2_amend_31 1 rfl ?_
      refine fw_if_eq (pc := 33) (tgt := 69) X dX2_amend_33 (by decide) (fun _ => ?_) (fun q => absurd (by decide) q)
      refine fw_iconst (pc := 69) (v := 0) X dX2_amend_69 (by decide) ?_
      refine fw_istore (pc := 70) (lv' := [(6, .int 0), (5, .int 0), (4, .int 0), (0, .ref (a 0)), (1, .int u), (2, .int v), (3, .int x)]) X dX2_amend_70 (by decide) rfl ?_
      refine fw_aload_n (pc := 72) X dX2_amend_72 rfl 3 rfl ?_
      refine fw_iload (pc := 73) X dX2_amend_73 2 rfl ?_
      refine fw_if_ne (pc := 75) (tgt := 82) X dX2_amend_75 (by decide) (fun q => absurd (by decide) q) (fun _ => ?_)
      refine fw_iconst (pc := 78) (v := 1) X dX2_amend_78 (by decide) ?_
      refine fw_goto (pc := 79) (tgt := 101) X dX2_amend_79 (by decide) ?_
      refine fw_callV (pc := 101) (n := 1) (C := (RX2, TX2, 21)) (ci := 2) (q0 := 0) X hE [.int 1] (ct_X2_isFine 1) (by decide) gX2_amend_X2_isFine rfl ⟨rfl, rfl⟩ ⟨rfl, dsc_X2_isFine⟩ ⟨Nat.le_of_ble_eq_true rfl, Nat.le_of_ble_eq_true rfl⟩ rfl M_obj rfl rfl (Nat.le_of_ble_eq_true rfl) dX2_amend_101 ⟨Nat.le_of_ble_eq_true rfl, Nat.le_of_ble_eq_true rfl⟩ (fun _ q => q.elim) (fun r0 u0 r_20 => ?_)
      subst r_20
      show fw_W _ _ _ _ _ _ _ _ _ _ _ _ _ _ _ _ _ _ _ (.int (b2i (1 = 0)) :: _)
      refine fw_iv (y := 0) (if_neg (by decide)) ?_
      refine fw_if_ne (pc := 104) (tgt := 109) X dX2_amend_104 (by decide) (fun q => absurd (by decide) q) (fun _ => ?_)
      refine fw_iconst (pc := 107) (v := 0) X dX2_amend_107 (by decide) ?_
      exact fw_iret (pc := 108) X hr hlk (Nat.le_of_ble_eq_true rfl) (Nat.le_of_ble_eq_true rfl) dX2_amend_108 () (by simp [m_amd_v, m_amd_G, m_amd_k, upd, c_2, c_15]) (by simp [m_amd_v, m_amd_G, m_amd_k, upd, c_2, c_15])
theorem kX2_arrive_35 : Cond.fieldLink RX2 35 (TX2 10).1 (TX2 10).2.1 (TX2 10).2.2.1 ∈ wsX2_arrive := by decide +kernel
set_option maxRecDepth 20000 in
theorem iX2_arrive_X2 : ∀ w ∈ wsX20, w ∈ wsX2_arrive := by decide +kernel
theorem kX2_arrive_96 : Cond.fieldLink RX2 96 (TX2 20).1 (TX2 20).2.1 (TX2 20).2.2.1 ∈ wsX2_arrive := by decide +kernel
theorem kX2_arrive_47 : Cond.fieldLink RX2 47 (TX2 14).1 (TX2 14).2.1 (TX2 14).2.2.1 ∈ wsX2_arrive := by decide +kernel
theorem kX2_arrive_80 : Cond.fieldLink RX2 80 (TX2 4).1 (TX2 4).2.1 (TX2 4).2.2.1 ∈ wsX2_arrive := by decide +kernel
theorem kX2_arrive_51 : Cond.fieldLink RX2 51 (TX2 15).1 (TX2 15).2.1 (TX2 15).2.2.1 ∈ wsX2_arrive := by decide +kernel
theorem kX2_arrive_32 : Cond.fieldLink RX2 32 (TX2 9).1 (TX2 9).2.1 (TX2 9).2.2.1 ∈ wsX2_arrive := by decide +kernel
theorem dsc_X2_arrive : fw_dsc yX2_arrive 2 := by decide +kernel
set_option maxHeartbeats 4000000 in
set_option maxRecDepth 100000 in
theorem ct_X2_arrive {l : Launch} {D : va_G} {K : Nat → ClassId} {a : Nat → Nat} {F : Nat → Int32} {G : Nat → Nat → Int32} (u x : Int32) {n : Nat} (hn : F 19 = nI n) (hn15 : n ≤ 15) : fw_C (S := Unit) l yX2_arrive wsX2_arrive ({ frames := 2, cells := 0, slots := 0, locals := 44 }) 0 0 false [.ref (a 0), .int u, .int x] D (tyS K) (MW K a F G) (fun r _ => r = some (.int (m_arr_v F G u x))) (fun _ => MW K a (m_arr_F F G u x) (m_arr_G F G u x)) (fun _ => False) := by
  refine fw_met (maxL := 5) (ret := (some .boolean)) (by decide) rfl (Nat.le_of_ble_eq_true rfl) ?_
  intro p e s m args below meth c A X hr hlk hnm htab hE
  refine fw_lv (lv' := [(0, .ref (a 0)), (1, .int u), (2, .int x)]) [0, 1, 2] rfl ?_
  refine fw_aload_n (pc := 0) X dX2_arrive_0 rfl 0 rfl ?_
  refine fw_iload_n (pc := 1) X dX2_arrive_1 rfl 1 rfl ?_
  refine fw_callV (pc := 2) (n := 1) (C := (RX2, TX2, 21)) (ci := 2) (q0 := 0) X hE [.int u] (ct_X2_isConsignment u) (by decide) gX2_arrive_X2_isConsignment rfl ⟨rfl, rfl⟩ ⟨rfl, dsc_X2_isConsignment⟩ ⟨Nat.le_of_ble_eq_true rfl, Nat.le_of_ble_eq_true rfl⟩ rfl M_obj rfl rfl (Nat.le_of_ble_eq_true rfl) dX2_arrive_2 ⟨Nat.le_of_ble_eq_true rfl, Nat.le_of_ble_eq_true rfl⟩ (fun _ q => q.elim) (fun r0 u0 r_1 => ?_)
  subst r_1
  show fw_W _ _ _ _ _ _ _ _ _ _ _ _ _ _ _ _ _ _ _ (.int (b2i (m_in u 0 (F 19 - 1) = true)) :: _)
  by_cases c_2 : m_in u 0 (F 19 - 1) = true
  · obtain ⟨hx_u, hl_u⟩ := in_con hn15 (by rw [← hn]; exact c_2)
    refine fw_iv (y := 1) (if_pos c_2) ?_
    refine fw_istore_n (pc := 5) (lv' := [(3, .int 1), (0, .ref (a 0)), (1, .int u), (2, .int x)]) X dX2_arrive_5 rfl (by decide) rfl ?_
    refine fw_iload_n (pc := 6) X dX2_arrive_6 rfl 0 rfl ?_
    refine fw_if_eq (pc := 7) (tgt := 31) X dX2_arrive_7 (by decide) (fun q => absurd q (by decide)) (fun _ => ?_)
    refine fw_aload_n (pc := 10) X dX2_arrive_10 rfl 1 rfl ?_
    refine fw_get (pc := 11) (v := .ref (a 10)) X iX2_arrive_X2 0 M_obj rfl 10 (by decide) kX2_arrive_35 rfl dX2_arrive_11 ?_
    refine fw_iload_n (pc := 14) X dX2_arrive_14 rfl 2 rfl ?_
    refine fw_iald (pc := 15) (f := G 10) X 8 0 (M_g10 (G := G)) rfl (ix u) hx_u (by omega) (by decide) dX2_arrive_15 ?_
    refine fw_if_ne (pc := 16) (tgt := 31) X dX2_arrive_16 (by decide) (fun c_3 => ?_) (fun c_3 => ?_)
    · refine fw_iconst (pc := 31) (v := 0) X dX2_arrive_31 (by decide) ?_
      refine fw_istore (pc := 32) (lv' := [(4, .int 0), (3, .int 1), (0, .ref (a 0)), (1, .int u), (2, .int x)]) X dX2_arrive_32 (by decide) rfl ?_
      refine fw_aload_n (pc := 34) X dX2_arrive_34 rfl 2 rfl ?_
      refine fw_iload_n (pc := 35) X dX2_arrive_35 rfl 1 rfl ?_
      refine fw_if_ne (pc := 36) (tgt := 43) X dX2_arrive_36 (by decide) (fun _ => ?_) (fun q => absurd q (by decide))
      refine fw_iload_n (pc := 43) X dX2_arrive_43 rfl 4 rfl ?_
      refine fw_iconst (pc := 44) (v := 0) X dX2_arrive_44 (by decide) ?_
      refine fw_sipush (pc := 45) (v := 999) X dX2_arrive_45 (by decide) ?_
      refine fw_callS (pc := 48) (n := 3) X hE [.int x, .int 0, .int 999] (ct_X2_isIn x 0 999) (by decide) gX2_arrive_X2_isIn rfl ⟨rfl, rfl⟩ dsc_X2_isIn ⟨Nat.le_of_ble_eq_true rfl, Nat.le_of_ble_eq_true rfl⟩ rfl rfl (Nat.le_of_ble_eq_true rfl) dX2_arrive_48 ⟨Nat.le_of_ble_eq_true rfl, Nat.le_of_ble_eq_true rfl⟩ (fun _ q => q.elim) (fun r0 u0 r_4 => ?_)
      subst r_4
      show fw_W _ _ _ _ _ _ _ _ _ _ _ _ _ _ _ _ _ _ _ (.int (b2i (m_in x 0 999 = true)) :: _)
      by_cases c_5 : m_in x 0 999 = true
      · obtain ⟨hx_x, hl_x⟩ := in_ix (h := 999) (N := 1000) (by decide) (by decide) c_5
        refine fw_iv (y := 1) (if_pos c_5) ?_
        refine fw_if_ne (pc := 51) (tgt := 58) X dX2_arrive_51 (by decide) (fun _ => ?_) (fun q => absurd q (by decide))
        refine fw_iload (pc := 58) X dX2_arrive_58 0 rfl ?_
        refine fw_if_ne (pc := 60) (tgt := 67) X dX2_arrive_60 (by decide) (fun q => absurd (by decide) q) (fun _ => ?_)
        refine fw_iconst (pc := 63) (v := 3) X dX2_arrive_63 (by decide) ?_
        refine fw_goto (pc := 64) (tgt := 68) X dX2_arrive_64 (by decide) ?_
        refine fw_callV (pc := 68) (n := 1) (C := (RX2, TX2, 21)) (ci := 2) (q0 := 0) X hE [.int 3] (ct_X2_isFine 3) (by decide) gX2_arrive_X2_isFine rfl ⟨rfl, rfl⟩ ⟨rfl, dsc_X2_isFine⟩ ⟨Nat.le_of_ble_eq_true rfl, Nat.le_of_ble_eq_true rfl⟩ rfl M_obj rfl rfl (Nat.le_of_ble_eq_true rfl) dX2_arrive_68 ⟨Nat.le_of_ble_eq_true rfl, Nat.le_of_ble_eq_true rfl⟩ (fun _ q => q.elim) (fun r0 u0 r_6 => ?_)
        subst r_6
        show fw_W _ _ _ _ _ _ _ _ _ _ _ _ _ _ _ _ _ _ _ (.int (b2i (3 = 0)) :: _)
        refine fw_iv (y := 0) (if_neg (by decide)) ?_
        refine fw_if_ne (pc := 71) (tgt := 76) X dX2_arrive_71 (by decide) (fun q => absurd (by decide) q) (fun _ => ?_)
        refine fw_iconst (pc := 74) (v := 0) X dX2_arrive_74 (by decide) ?_
        exact fw_zret (pc := 75) X hr nr_0 hlk (Nat.le_of_ble_eq_true rfl) (Nat.le_of_ble_eq_true rfl) dX2_arrive_75 () (by simp [m_arr_v, m_arr_F, m_arr_G, m_arr_k, m_smp, c_2, c_3, c_5]) (by simp [m_arr_v, m_arr_F, m_arr_G, m_arr_k, m_smp, c_2, c_3, c_5])
      · refine fw_iv (y := 0) (if_neg c_5) ?_
        refine fw_if_ne (pc := 51) (tgt := 58) X dX2_arrive_51 (by decide) (fun q => absurd (by decide) q) (fun _ => ?_)
        refine fw_iconst (pc := 54) (v := 2) X dX2_arrive_54 (by decide) ?_
        refine fw_goto (pc := 55) (tgt := 68) X dX2_arrive_55 (by decide) ?_
        refine fw_callV (pc := 68) (n := 1) (C := (RX2, TX2, 21)) (ci := 2) (q0 := 0) X hE [.int 2] (ct_X2_isFine 2) (by decide) gX2_arrive_X2_isFine rfl ⟨rfl, rfl⟩ ⟨rfl, dsc_X2_isFine⟩ ⟨Nat.le_of_ble_eq_true rfl, Nat.le_of_ble_eq_true rfl⟩ rfl M_obj rfl rfl (Nat.le_of_ble_eq_true rfl) dX2_arrive_68 ⟨Nat.le_of_ble_eq_true rfl, Nat.le_of_ble_eq_true rfl⟩ (fun _ q => q.elim) (fun r0 u0 r_7 => ?_)
        subst r_7
        show fw_W _ _ _ _ _ _ _ _ _ _ _ _ _ _ _ _ _ _ _ (.int (b2i (2 = 0)) :: _)
        refine fw_iv (y := 0) (if_neg (by decide)) ?_
        refine fw_if_ne (pc := 71) (tgt := 76) X dX2_arrive_71 (by decide) (fun q => absurd (by decide) q) (fun _ => ?_)
        refine fw_iconst (pc := 74) (v := 0) X dX2_arrive_74 (by decide) ?_
        exact fw_zret (pc := 75) X hr nr_0 hlk (Nat.le_of_ble_eq_true rfl) (Nat.le_of_ble_eq_true rfl) dX2_arrive_75 () (by simp [m_arr_v, m_arr_F, m_arr_G, m_arr_k, m_smp, c_2, c_3, c_5]) (by simp [m_arr_v, m_arr_F, m_arr_G, m_arr_k, m_smp, c_2, c_3, c_5])
    · refine fw_aload_n (pc := 19) X dX2_arrive_19 rfl 1 rfl ?_
      refine fw_iload_n (pc := 20) X dX2_arrive_20 rfl 2 rfl ?_
      refine fw_callV (pc := 21) (n := 1) (C := (RX2, TX2, 21)) (ci := 2) (q0 := 0) X hE [.int u] (ct_X2_isEmpty u (ix u) hx_u (by omega)) (by decide) gX2_arrive_X2_isEmpty rfl ⟨rfl, rfl⟩ ⟨rfl, dsc_X2_isEmpty⟩ ⟨Nat.le_of_ble_eq_true rfl, Nat.le_of_ble_eq_true rfl⟩ rfl M_obj rfl rfl (Nat.le_of_ble_eq_true rfl) dX2_arrive_21 ⟨Nat.le_of_ble_eq_true rfl, Nat.le_of_ble_eq_true rfl⟩ (fun _ q => q.elim) (fun r0 u0 r_8 => ?_)
      subst r_8
      show fw_W _ _ _ _ _ _ _ _ _ _ _ _ _ _ _ _ _ _ _ (.int (b2i (m_em G (ix u) 6 = 0)) :: _)
      by_cases c_9 : m_em G (ix u) 6 = 0
      · refine fw_iv (y := 1) (if_pos c_9) ?_
        refine fw_if_ne (pc := 24) (tgt := 31) X dX2_arrive_24 (by decide) (fun _ => ?_) (fun q => absurd q (by decide))
        refine fw_iconst (pc := 31) (v := 0) X dX2_arrive_31 (by decide) ?_
        refine fw_istore (pc := 32) (lv' := [(4, .int 0), (3, .int 1), (0, .ref (a 0)), (1, .int u), (2, .int x)]) X dX2_arrive_32 (by decide) rfl ?_
        refine fw_aload_n (pc := 34) X dX2_arrive_34 rfl 2 rfl ?_
        refine fw_iload_n (pc := 35) X dX2_arrive_35 rfl 1 rfl ?_
        refine fw_if_ne (pc := 36) (tgt := 43) X dX2_arrive_36 (by decide) (fun _ => ?_) (fun q => absurd q (by decide))
        refine fw_iload_n (pc := 43) X dX2_arrive_43 rfl 4 rfl ?_
        refine fw_iconst (pc := 44) (v := 0) X dX2_arrive_44 (by decide) ?_
        refine fw_sipush (pc := 45) (v := 999) X dX2_arrive_45 (by decide) ?_
        refine fw_callS (pc := 48) (n := 3) X hE [.int x, .int 0, .int 999] (ct_X2_isIn x 0 999) (by decide) gX2_arrive_X2_isIn rfl ⟨rfl, rfl⟩ dsc_X2_isIn ⟨Nat.le_of_ble_eq_true rfl, Nat.le_of_ble_eq_true rfl⟩ rfl rfl (Nat.le_of_ble_eq_true rfl) dX2_arrive_48 ⟨Nat.le_of_ble_eq_true rfl, Nat.le_of_ble_eq_true rfl⟩ (fun _ q => q.elim) (fun r0 u0 r_10 => ?_)
        subst r_10
        show fw_W _ _ _ _ _ _ _ _ _ _ _ _ _ _ _ _ _ _ _ (.int (b2i (m_in x 0 999 = true)) :: _)
        by_cases c_11 : m_in x 0 999 = true
        · obtain ⟨hx_x, hl_x⟩ := in_ix (h := 999) (N := 1000) (by decide) (by decide) c_11
          refine fw_iv (y := 1) (if_pos c_11) ?_
          refine fw_if_ne (pc := 51) (tgt := 58) X dX2_arrive_51 (by decide) (fun _ => ?_) (fun q => absurd q (by decide))
          refine fw_iload (pc := 58) X dX2_arrive_58 0 rfl ?_
          refine fw_if_ne (pc := 60) (tgt := 67) X dX2_arrive_60 (by decide) (fun q => absurd (by decide) q) (fun _ => ?_)
          refine fw_iconst (pc := 63) (v := 3) X dX2_arrive_63 (by decide) ?_
          refine fw_goto (pc := 64) (tgt := 68) X dX2_arrive_64 (by decide) ?_
          refine fw_callV (pc := 68) (n := 1) (C := (RX2, TX2, 21)) (ci := 2) (q0 := 0) X hE [.int 3] (ct_X2_isFine 3) (by decide) gX2_arrive_X2_isFine rfl ⟨rfl, rfl⟩ ⟨rfl, dsc_X2_isFine⟩ ⟨Nat.le_of_ble_eq_true rfl, Nat.le_of_ble_eq_true rfl⟩ rfl M_obj rfl rfl (Nat.le_of_ble_eq_true rfl) dX2_arrive_68 ⟨Nat.le_of_ble_eq_true rfl, Nat.le_of_ble_eq_true rfl⟩ (fun _ q => q.elim) (fun r0 u0 r_12 => ?_)
          subst r_12
          show fw_W _ _ _ _ _ _ _ _ _ _ _ _ _ _ _ _ _ _ _ (.int (b2i (3 = 0)) :: _)
          refine fw_iv (y := 0) (if_neg (by decide)) ?_
          refine fw_if_ne (pc := 71) (tgt := 76) X dX2_arrive_71 (by decide) (fun q => absurd (by decide) q) (fun _ => ?_)
          refine fw_iconst (pc := 74) (v := 0) X dX2_arrive_74 (by decide) ?_
          exact fw_zret (pc := 75) X hr nr_0 hlk (Nat.le_of_ble_eq_true rfl) (Nat.le_of_ble_eq_true rfl) dX2_arrive_75 () (by simp [m_arr_v, m_arr_F, m_arr_G, m_arr_k, m_smp, c_2, c_3, c_9, c_11]) (by simp [m_arr_v, m_arr_F, m_arr_G, m_arr_k, m_smp, c_2, c_3, c_9, c_11])
        · refine fw_iv (y := 0) (if_neg c_11) ?_
          refine fw_if_ne (pc := 51) (tgt := 58) X dX2_arrive_51 (by decide) (fun q => absurd (by decide) q) (fun _ => ?_)
          refine fw_iconst (pc := 54) (v := 2) X dX2_arrive_54 (by decide) ?_
          refine fw_goto (pc := 55) (tgt := 68) X dX2_arrive_55 (by decide) ?_
          refine fw_callV (pc := 68) (n := 1) (C := (RX2, TX2, 21)) (ci := 2) (q0 := 0) X hE [.int 2] (ct_X2_isFine 2) (by decide) gX2_arrive_X2_isFine rfl ⟨rfl, rfl⟩ ⟨rfl, dsc_X2_isFine⟩ ⟨Nat.le_of_ble_eq_true rfl, Nat.le_of_ble_eq_true rfl⟩ rfl M_obj rfl rfl (Nat.le_of_ble_eq_true rfl) dX2_arrive_68 ⟨Nat.le_of_ble_eq_true rfl, Nat.le_of_ble_eq_true rfl⟩ (fun _ q => q.elim) (fun r0 u0 r_13 => ?_)
          subst r_13
          show fw_W _ _ _ _ _ _ _ _ _ _ _ _ _ _ _ _ _ _ _ (.int (b2i (2 = 0)) :: _)
          refine fw_iv (y := 0) (if_neg (by decide)) ?_
          refine fw_if_ne (pc := 71) (tgt := 76) X dX2_arrive_71 (by decide) (fun q => absurd (by decide) q) (fun _ => ?_)
          refine fw_iconst (pc := 74) (v := 0) X dX2_arrive_74 (by decide) ?_
          exact fw_zret (pc := 75) X hr nr_0 hlk (Nat.le_of_ble_eq_true rfl) (Nat.le_of_ble_eq_true rfl) dX2_arrive_75 () (by simp [m_arr_v, m_arr_F, m_arr_G, m_arr_k, m_smp, c_2, c_3, c_9, c_11]) (by simp [m_arr_v, m_arr_F, m_arr_G, m_arr_k, m_smp, c_2, c_3, c_9, c_11])
      · refine fw_iv (y := 0) (if_neg c_9) ?_
        refine fw_if_ne (pc := 24) (tgt := 31) X dX2_arrive_24 (by decide) (fun q => absurd (by decide) q) (fun _ => ?_)
        refine fw_iconst (pc := 27) (v := 1) X dX2_arrive_27 (by decide) ?_
        refine fw_goto (pc := 28) (tgt := 32) X dX2_arrive_28 (by decide) ?_
        refine fw_istore (pc := 32) (lv' := [(4, .int 1), (3, .int 1), (0, .ref (a 0)), (1, .int u), (2, .int x)]) X dX2_arrive_32 (by decide) rfl ?_
        refine fw_aload_n (pc := 34) X dX2_arrive_34 rfl 2 rfl ?_
        refine fw_iload_n (pc := 35) X dX2_arrive_35 rfl 1 rfl ?_
        refine fw_if_ne (pc := 36) (tgt := 43) X dX2_arrive_36 (by decide) (fun _ => ?_) (fun q => absurd q (by decide))
        refine fw_iload_n (pc := 43) X dX2_arrive_43 rfl 4 rfl ?_
        refine fw_iconst (pc := 44) (v := 0) X dX2_arrive_44 (by decide) ?_
        refine fw_sipush (pc := 45) (v := 999) X dX2_arrive_45 (by decide) ?_
        refine fw_callS (pc := 48) (n := 3) X hE [.int x, .int 0, .int 999] (ct_X2_isIn x 0 999) (by decide) gX2_arrive_X2_isIn rfl ⟨rfl, rfl⟩ dsc_X2_isIn ⟨Nat.le_of_ble_eq_true rfl, Nat.le_of_ble_eq_true rfl⟩ rfl rfl (Nat.le_of_ble_eq_true rfl) dX2_arrive_48 ⟨Nat.le_of_ble_eq_true rfl, Nat.le_of_ble_eq_true rfl⟩ (fun _ q => q.elim) (fun r0 u0 r_14 => ?_)
        subst r_14
        show fw_W _ _ _ _ _ _ _ _ _ _ _ _ _ _ _ _ _ _ _ (.int (b2i (m_in x 0 999 = true)) :: _)
        by_cases c_15 : m_in x 0 999 = true
        · obtain ⟨hx_x, hl_x⟩ := in_ix (h := 999) (N := 1000) (by decide) (by decide) c_15
          refine fw_iv (y := 1) (if_pos c_15) ?_
          refine fw_if_ne (pc := 51) (tgt := 58) X dX2_arrive_51 (by decide) (fun _ => ?_) (fun q => absurd q (by decide))
          refine fw_iload (pc := 58) X dX2_arrive_58 0 rfl ?_
          refine fw_if_ne (pc := 60) (tgt := 67) X dX2_arrive_60 (by decide) (fun _ => ?_) (fun q => absurd q (by decide))
          refine fw_iconst (pc := 67) (v := 0) X dX2_arrive_67 (by decide) ?_
          refine fw_callV (pc := 68) (n := 1) (C := (RX2, TX2, 21)) (ci := 2) (q0 := 0) X hE [.int 0] (ct_X2_isFine 0) (by decide) gX2_arrive_X2_isFine rfl ⟨rfl, rfl⟩ ⟨rfl, dsc_X2_isFine⟩ ⟨Nat.le_of_ble_eq_true rfl, Nat.le_of_ble_eq_true rfl⟩ rfl M_obj rfl rfl (Nat.le_of_ble_eq_true rfl) dX2_arrive_68 ⟨Nat.le_of_ble_eq_true rfl, Nat.le_of_ble_eq_true rfl⟩ (fun _ q => q.elim) (fun r0 u0 r_16 => ?_)
          subst r_16
          show fw_W _ _ _ _ _ _ _ _ _ _ _ _ _ _ _ _ _ _ _ (.int (b2i (0 = 0)) :: _)
          refine fw_iv (y := 1) (if_pos (by decide)) ?_
          refine fw_if_ne (pc := 71) (tgt := 76) X dX2_arrive_71 (by decide) (fun _ => ?_) (fun q => absurd q (by decide))
          refine fw_aload_n (pc := 76) X dX2_arrive_76 rfl 2 rfl ?_
          refine fw_dup (pc := 77) X dX2_arrive_77 rfl ?_
          refine fw_get (pc := 78) (v := .int (F 20)) X iX2_arrive_X2 0 M_obj rfl 20 (by decide) kX2_arrive_96 rfl dX2_arrive_78 ?_
          refine fw_iconst (pc := 81) (v := 1) X dX2_arrive_81 (by decide) ?_
          refine fw_iadd (pc := 82) X dX2_arrive_82 ?_
          refine fw_put (pc := 83) (ws' := MW K a (upd (upd F 0 0) 20 ((F 20) + 1)) G) X iX2_arrive_X2 tyX2 tyX2_ok nmX2 0 M_obj rfl 20 (by decide) kX2_arrive_96 rfl rfl rfl (Nat.le_of_ble_eq_true rfl) dX2_arrive_83 rfl ?_
          refine fw_aload_n (pc := 86) X dX2_arrive_86 rfl 2 rfl ?_
          refine fw_get (pc := 87) (v := .ref (a 14)) X iX2_arrive_X2 0 M_obj rfl 14 (by decide) kX2_arrive_47 rfl dX2_arrive_87 ?_
          refine fw_iload_n (pc := 90) X dX2_arrive_90 rfl 3 rfl ?_
          refine fw_aload_n (pc := 91) X dX2_arrive_91 rfl 2 rfl ?_
          refine fw_get (pc := 92) (v := .int (F 4)) X iX2_arrive_X2 0 M_obj rfl 4 (by decide) kX2_arrive_80 rfl dX2_arrive_92 ?_
          refine fw_if_le (pc := 95) (tgt := 114) X dX2_arrive_95 (by decide) (fun c_17 => ?_) (fun c_17 => ?_)
          · refine fw_iconst (pc := 114) (v := 0) X dX2_arrive_114 (by decide) ?_
            refine fw_zast (pc := 115) (f := G 14) (ws' := MW K a (upd (upd F 0 0) 20 ((F 20) + 1)) (va_up G 14 (upd (G 14) (ix u) 0))) X 12 1 (M_g14 (G := G)) rfl (ix u) hx_u (by omega) (by decide) (by decide) dX2_arrive_115 rfl ?_
            refine fw_aload_n (pc := 116) X dX2_arrive_116 rfl 2 rfl ?_
            refine fw_get (pc := 117) (v := .ref (a 10)) X iX2_arrive_X2 0 M_obj rfl 10 (by decide) kX2_arrive_35 rfl dX2_arrive_117 ?_
            refine fw_iload_n (pc := 120) X dX2_arrive_120 rfl 3 rfl ?_
            refine fw_iconst (pc := 121) (v := 1) X dX2_arrive_121 (by decide) ?_
            refine fw_iast (pc := 122) (f := G 10) (ws' := MW K a (upd (upd F 0 0) 20 ((F 20) + 1)) (va_up (va_up G 14 (upd (G 14) (ix u) 0)) 10 (upd (G 10) (ix u) 1))) X 8 0 (M_g10 (G := (va_up G 14 (upd (G 14) (ix u) 0)))) rfl (ix u) hx_u (by omega) (by decide) dX2_arrive_122 rfl ?_
            refine fw_aload_n (pc := 123) X dX2_arrive_123 rfl 2 rfl ?_
            refine fw_get (pc := 124) (v := .ref (a 15)) X iX2_arrive_X2 0 M_obj rfl 15 (by decide) kX2_arrive_51 rfl dX2_arrive_124 ?_
            refine fw_iload_n (pc := 127) X dX2_arrive_127 rfl 3 rfl ?_
            refine fw_aload_n (pc := 128) X dX2_arrive_128 rfl 2 rfl ?_
            refine fw_get (pc := 129) (v := .ref (a 9)) X iX2_arrive_X2 0 M_obj rfl 9 (by decide) kX2_arrive_32 rfl dX2_arrive_129 ?_
            refine fw_iload_n (pc := 132) X dX2_arrive_132 rfl 3 rfl ?_
            refine fw_iald (pc := 133) (f := G 9) X 7 0 (M_g9 (G := (va_up (va_up G 14 (upd (G 14) (ix u) 0)) 10 (upd (G 10) (ix u) 1)))) rfl (ix u) hx_u (by omega) (by decide) dX2_arrive_133 ?_
            refine fw_iload_n (pc := 134) X dX2_arrive_134 rfl 4 rfl ?_
            refine fw_icmp_eq (pc := 135) (tgt := 142) X dX2_arrive_135 (by decide) (fun c_18 => ?_) (fun c_18 => ?_)
            · refine fw_iconst (pc := 142) (v := 0) X dX2_arrive_142 (by decide) ?_
              refine fw_zast (pc := 143) (f := G 15) (ws' := MW K a (upd (upd F 0 0) 20 ((F 20) + 1)) (va_up (va_up (va_up G 14 (upd (G 14) (ix u) 0)) 10 (upd (G 10) (ix u) 1)) 15 (upd (G 15) (ix u) 0))) X 13 1 (M_g15 (G := (va_up (va_up G 14 (upd (G 14) (ix u) 0)) 10 (upd (G 10) (ix u) 1)))) rfl (ix u) hx_u (by omega) (by decide) (by decide) dX2_arrive_143 rfl ?_
              refine fw_aload_n (pc := 144) X dX2_arrive_144 rfl 2 rfl ?_
              refine fw_iload_n (pc := 145) X dX2_arrive_145 rfl 3 rfl ?_
              refine fw_callV (pc := 146) (n := 1) (C := (RX2, TX2, 21)) (ci := 2) (q0 := 0) X hE [.int u] (ct_X2_mustNow u (ix u) hx_u (by omega)) (by decide) gX2_arrive_X2_mustNow rfl ⟨rfl, rfl⟩ ⟨rfl, dsc_X2_mustNow⟩ ⟨Nat.le_of_ble_eq_true rfl, Nat.le_of_ble_eq_true rfl⟩ rfl M_obj rfl rfl (Nat.le_of_ble_eq_true rfl) dX2_arrive_146 ⟨Nat.le_of_ble_eq_true rfl, Nat.le_of_ble_eq_true rfl⟩ (fun _ q => q.elim) (fun r0 u0 r_19 => ?_)
              subst r_19
              exact fw_zret (pc := 149) X hr nr_b hlk (Nat.le_of_ble_eq_true rfl) (Nat.le_of_ble_eq_true rfl) dX2_arrive_149 () (by simp [m_arr_v, m_arr_F, m_arr_G, m_arr_k, m_smp, c_2, c_3, c_9, c_15, c_17, c_18]) (by simp [m_arr_v, m_arr_F, m_arr_G, m_arr_k, m_smp, c_2, c_3, c_9, c_15, c_17, c_18])
            · refine fw_iconst (pc := 138) (v := 1) X dX2_arrive_138 (by decide) ?_
              refine fw_goto (pc := 139) (tgt := 143) X dX2_arrive_139 (by decide) ?_
              refine fw_zast (pc := 143) (f := G 15) (ws' := MW K a (upd (upd F 0 0) 20 ((F 20) + 1)) (va_up (va_up (va_up G 14 (upd (G 14) (ix u) 0)) 10 (upd (G 10) (ix u) 1)) 15 (upd (G 15) (ix u) 1))) X 13 1 (M_g15 (G := (va_up (va_up G 14 (upd (G 14) (ix u) 0)) 10 (upd (G 10) (ix u) 1)))) rfl (ix u) hx_u (by omega) (by decide) (by decide) dX2_arrive_143 rfl ?_
              refine fw_aload_n (pc := 144) X dX2_arrive_144 rfl 2 rfl ?_
              refine fw_iload_n (pc := 145) X dX2_arrive_145 rfl 3 rfl ?_
              refine fw_callV (pc := 146) (n := 1) (C := (RX2, TX2, 21)) (ci := 2) (q0 := 0) X hE [.int u] (ct_X2_mustNow u (ix u) hx_u (by omega)) (by decide) gX2_arrive_X2_mustNow rfl ⟨rfl, rfl⟩ ⟨rfl, dsc_X2_mustNow⟩ ⟨Nat.le_of_ble_eq_true rfl, Nat.le_of_ble_eq_true rfl⟩ rfl M_obj rfl rfl (Nat.le_of_ble_eq_true rfl) dX2_arrive_146 ⟨Nat.le_of_ble_eq_true rfl, Nat.le_of_ble_eq_true rfl⟩ (fun _ q => q.elim) (fun r0 u0 r_20 => ?_)
              subst r_20
              exact fw_zret (pc := 149) X hr nr_b hlk (Nat.le_of_ble_eq_true rfl) (Nat.le_of_ble_eq_true rfl) dX2_arrive_149 () (by simp [m_arr_v, m_arr_F, m_arr_G, m_arr_k, m_smp, c_2, c_3, c_9, c_15, c_17, c_18]) (by simp [m_arr_v, m_arr_F, m_arr_G, m_arr_k, m_smp, c_2, c_3, c_9, c_15, c_17, c_18])
          · refine fw_aload_n (pc := 98) X dX2_arrive_98 rfl 2 rfl ?_
            refine fw_get (pc := 99) (v := .int ((F 20) + 1)) X iX2_arrive_X2 0 M_obj rfl 20 (by decide) kX2_arrive_96 rfl dX2_arrive_99 ?_
            refine fw_aload_n (pc := 102) X dX2_arrive_102 rfl 2 rfl ?_
            refine fw_get (pc := 103) (v := .int (F 4)) X iX2_arrive_X2 0 M_obj rfl 4 (by decide) kX2_arrive_80 rfl dX2_arrive_103 ?_
            refine fw_irem (pc := 106) X dX2_arrive_106 (nz_le c_17) ?_
            refine fw_if_ne (pc := 107) (tgt := 114) X dX2_arrive_107 (by decide) (fun c_21 => ?_) (fun c_21 => ?_)
            · refine fw_iconst (pc := 114) (v := 0) X dX2_arrive_114 (by decide) ?_
              refine fw_zast (pc := 115) (f := G 14) (ws' := MW K a (upd (upd F 0 0) 20 ((F 20) + 1)) (va_up G 14 (upd (G 14) (ix u) 0))) X 12 1 (M_g14 (G := G)) rfl (ix u) hx_u (by omega) (by decide) (by decide) dX2_arrive_115 rfl ?_
              refine fw_aload_n (pc := 116) X dX2_arrive_116 rfl 2 rfl ?_
              refine fw_get (pc := 117) (v := .ref (a 10)) X iX2_arrive_X2 0 M_obj rfl 10 (by decide) kX2_arrive_35 rfl dX2_arrive_117 ?_
              refine fw_iload_n (pc := 120) X dX2_arrive_120 rfl 3 rfl ?_
              refine fw_iconst (pc := 121) (v := 1) X dX2_arrive_121 (by decide) ?_
              refine fw_iast (pc := 122) (f := G 10) (ws' := MW K a (upd (upd F 0 0) 20 ((F 20) + 1)) (va_up (va_up G 14 (upd (G 14) (ix u) 0)) 10 (upd (G 10) (ix u) 1))) X 8 0 (M_g10 (G := (va_up G 14 (upd (G 14) (ix u) 0)))) rfl (ix u) hx_u (by omega) (by decide) dX2_arrive_122 rfl ?_
              refine fw_aload_n (pc := 123) X dX2_arrive_123 rfl 2 rfl ?_
              refine fw_get (pc := 124) (v := .ref (a 15)) X iX2_arrive_X2 0 M_obj rfl 15 (by decide) kX2_arrive_51 rfl dX2_arrive_124 ?_
              refine fw_iload_n (pc := 127) X dX2_arrive_127 rfl 3 rfl ?_
              refine fw_aload_n (pc := 128) X dX2_arrive_128 rfl 2 rfl ?_
              refine fw_get (pc := 129) (v := .ref (a 9)) X iX2_arrive_X2 0 M_obj rfl 9 (by decide) kX2_arrive_32 rfl dX2_arrive_129 ?_
              refine fw_iload_n (pc := 132) X dX2_arrive_132 rfl 3 rfl ?_
              refine fw_iald (pc := 133) (f := G 9) X 7 0 (M_g9 (G := (va_up (va_up G 14 (upd (G 14) (ix u) 0)) 10 (upd (G 10) (ix u) 1)))) rfl (ix u) hx_u (by omega) (by decide) dX2_arrive_133 ?_
              refine fw_iload_n (pc := 134) X dX2_arrive_134 rfl 4 rfl ?_
              refine fw_icmp_eq (pc := 135) (tgt := 142) X dX2_arrive_135 (by decide) (fun c_22 => ?_) (fun c_22 => ?_)
              · refine fw_iconst (pc := 142) (v := 0) X dX2_arrive_142 (by decide) ?_
                refine fw_zast (pc := 143) (f := G 15) (ws' := MW K a (upd (upd F 0 0) 20 ((F 20) + 1)) (va_up (va_up (va_up G 14 (upd (G 14) (ix u) 0)) 10 (upd (G 10) (ix u) 1)) 15 (upd (G 15) (ix u) 0))) X 13 1 (M_g15 (G := (va_up (va_up G 14 (upd (G 14) (ix u) 0)) 10 (upd (G 10) (ix u) 1)))) rfl (ix u) hx_u (by omega) (by decide) (by decide) dX2_arrive_143 rfl ?_
                refine fw_aload_n (pc := 144) X dX2_arrive_144 rfl 2 rfl ?_
                refine fw_iload_n (pc := 145) X dX2_arrive_145 rfl 3 rfl ?_
                refine fw_callV (pc := 146) (n := 1) (C := (RX2, TX2, 21)) (ci := 2) (q0 := 0) X hE [.int u] (ct_X2_mustNow u (ix u) hx_u (by omega)) (by decide) gX2_arrive_X2_mustNow rfl ⟨rfl, rfl⟩ ⟨rfl, dsc_X2_mustNow⟩ ⟨Nat.le_of_ble_eq_true rfl, Nat.le_of_ble_eq_true rfl⟩ rfl M_obj rfl rfl (Nat.le_of_ble_eq_true rfl) dX2_arrive_146 ⟨Nat.le_of_ble_eq_true rfl, Nat.le_of_ble_eq_true rfl⟩ (fun _ q => q.elim) (fun r0 u0 r_23 => ?_)
                subst r_23
                exact fw_zret (pc := 149) X hr nr_b hlk (Nat.le_of_ble_eq_true rfl) (Nat.le_of_ble_eq_true rfl) dX2_arrive_149 () (by simp [m_arr_v, m_arr_F, m_arr_G, m_arr_k, m_smp, c_2, c_3, c_9, c_15, c_17, c_21, c_22]) (by simp [m_arr_v, m_arr_F, m_arr_G, m_arr_k, m_smp, c_2, c_3, c_9, c_15, c_17, c_21, c_22])
              · refine fw_iconst (pc := 138) (v := 1) X dX2_arrive_138 (by decide) ?_
                refine fw_goto (pc := 139) (tgt := 143) X dX2_arrive_139 (by decide) ?_
                refine fw_zast (pc := 143) (f := G 15) (ws' := MW K a (upd (upd F 0 0) 20 ((F 20) + 1)) (va_up (va_up (va_up G 14 (upd (G 14) (ix u) 0)) 10 (upd (G 10) (ix u) 1)) 15 (upd (G 15) (ix u) 1))) X 13 1 (M_g15 (G := (va_up (va_up G 14 (upd (G 14) (ix u) 0)) 10 (upd (G 10) (ix u) 1)))) rfl (ix u) hx_u (by omega) (by decide) (by decide) dX2_arrive_143 rfl ?_
                refine fw_aload_n (pc := 144) X dX2_arrive_144 rfl 2 rfl ?_
                refine fw_iload_n (pc := 145) X dX2_arrive_145 rfl 3 rfl ?_
                refine fw_callV (pc := 146) (n := 1) (C := (RX2, TX2, 21)) (ci := 2) (q0 := 0) X hE [.int u] (ct_X2_mustNow u (ix u) hx_u (by omega)) (by decide) gX2_arrive_X2_mustNow rfl ⟨rfl, rfl⟩ ⟨rfl, dsc_X2_mustNow⟩ ⟨Nat.le_of_ble_eq_true rfl, Nat.le_of_ble_eq_true rfl⟩ rfl M_obj rfl rfl (Nat.le_of_ble_eq_true rfl) dX2_arrive_146 ⟨Nat.le_of_ble_eq_true rfl, Nat.le_of_ble_eq_true rfl⟩ (fun _ q => q.elim) (fun r0 u0 r_24 => ?_)
                subst r_24
                exact fw_zret (pc := 149) X hr nr_b hlk (Nat.le_of_ble_eq_true rfl) (Nat.le_of_ble_eq_true rfl) dX2_arrive_149 () (by simp [m_arr_v, m_arr_F, m_arr_G, m_arr_k, m_smp, c_2, c_3, c_9, c_15, c_17, c_21, c_22]) (by simp [m_arr_v, m_arr_F, m_arr_G, m_arr_k, m_smp, c_2, c_3, c_9, c_15, c_17, c_21, c_22])
            · refine fw_iconst (pc := 110) (v := 1) X dX2_arrive_110 (by decide) ?_
              refine fw_goto (pc := 111) (tgt := 115) X dX2_arrive_111 (by decide) ?_
              refine fw_zast (pc := 115) (f := G 14) (ws' := MW K a (upd (upd F 0 0) 20 ((F 20) + 1)) (va_up G 14 (upd (G 14) (ix u) 1))) X 12 1 (M_g14 (G := G)) rfl (ix u) hx_u (by omega) (by decide) (by decide) dX2_arrive_115 rfl ?_
              refine fw_aload_n (pc := 116) X dX2_arrive_116 rfl 2 rfl ?_
              refine fw_get (pc := 117) (v := .ref (a 10)) X iX2_arrive_X2 0 M_obj rfl 10 (by decide) kX2_arrive_35 rfl dX2_arrive_117 ?_
              refine fw_iload_n (pc := 120) X dX2_arrive_120 rfl 3 rfl ?_
              refine fw_iconst (pc := 121) (v := 1) X dX2_arrive_121 (by decide) ?_
              refine fw_iast (pc := 122) (f := G 10) (ws' := MW K a (upd (upd F 0 0) 20 ((F 20) + 1)) (va_up (va_up G 14 (upd (G 14) (ix u) 1)) 10 (upd (G 10) (ix u) 1))) X 8 0 (M_g10 (G := (va_up G 14 (upd (G 14) (ix u) 1)))) rfl (ix u) hx_u (by omega) (by decide) dX2_arrive_122 rfl ?_
              refine fw_aload_n (pc := 123) X dX2_arrive_123 rfl 2 rfl ?_
              refine fw_get (pc := 124) (v := .ref (a 15)) X iX2_arrive_X2 0 M_obj rfl 15 (by decide) kX2_arrive_51 rfl dX2_arrive_124 ?_
              refine fw_iload_n (pc := 127) X dX2_arrive_127 rfl 3 rfl ?_
              refine fw_aload_n (pc := 128) X dX2_arrive_128 rfl 2 rfl ?_
              refine fw_get (pc := 129) (v := .ref (a 9)) X iX2_arrive_X2 0 M_obj rfl 9 (by decide) kX2_arrive_32 rfl dX2_arrive_129 ?_
              refine fw_iload_n (pc := 132) X dX2_arrive_132 rfl 3 rfl ?_
              refine fw_iald (pc := 133) (f := G 9) X 7 0 (M_g9 (G := (va_up (va_up G 14 (upd (G 14) (ix u) 1)) 10 (upd (G 10) (ix u) 1)))) rfl (ix u) hx_u (by omega) (by decide) dX2_arrive_133 ?_
              refine fw_iload_n (pc := 134) X dX2_arrive_134 rfl 4 rfl ?_
              refine fw_icmp_eq (pc := 135) (tgt := 142) X dX2_arrive_135 (by decide) (fun c_25 => ?_) (fun c_25 => ?_)
              · refine fw_iconst (pc := 142) (v := 0) X dX2_arrive_142 (by decide) ?_
                refine fw_zast (pc := 143) (f := G 15) (ws' := MW K a (upd (upd F 0 0) 20 ((F 20) + 1)) (va_up (va_up (va_up G 14 (upd (G 14) (ix u) 1)) 10 (upd (G 10) (ix u) 1)) 15 (upd (G 15) (ix u) 0))) X 13 1 (M_g15 (G := (va_up (va_up G 14 (upd (G 14) (ix u) 1)) 10 (upd (G 10) (ix u) 1)))) rfl (ix u) hx_u (by omega) (by decide) (by decide) dX2_arrive_143 rfl ?_
                refine fw_aload_n (pc := 144) X dX2_arrive_144 rfl 2 rfl ?_
                refine fw_iload_n (pc := 145) X dX2_arrive_145 rfl 3 rfl ?_
                refine fw_callV (pc := 146) (n := 1) (C := (RX2, TX2, 21)) (ci := 2) (q0 := 0) X hE [.int u] (ct_X2_mustNow u (ix u) hx_u (by omega)) (by decide) gX2_arrive_X2_mustNow rfl ⟨rfl, rfl⟩ ⟨rfl, dsc_X2_mustNow⟩ ⟨Nat.le_of_ble_eq_true rfl, Nat.le_of_ble_eq_true rfl⟩ rfl M_obj rfl rfl (Nat.le_of_ble_eq_true rfl) dX2_arrive_146 ⟨Nat.le_of_ble_eq_true rfl, Nat.le_of_ble_eq_true rfl⟩ (fun _ q => q.elim) (fun r0 u0 r_26 => ?_)
                subst r_26
                exact fw_zret (pc := 149) X hr nr_b hlk (Nat.le_of_ble_eq_true rfl) (Nat.le_of_ble_eq_true rfl) dX2_arrive_149 () (by simp [m_arr_v, m_arr_F, m_arr_G, m_arr_k, m_smp, c_2, c_3, c_9, c_15, c_17, c_21, c_25]) (by simp [m_arr_v, m_arr_F, m_arr_G, m_arr_k, m_smp, c_2, c_3, c_9, c_15, c_17, c_21, c_25])
              · refine fw_iconst (pc := 138) (v := 1) X dX2_arrive_138 (by decide) ?_
                refine fw_goto (pc := 139) (tgt := 143) X dX2_arrive_139 (by decide) ?_
                refine fw_zast (pc := 143) (f := G 15) (ws' := MW K a (upd (upd F 0 0) 20 ((F 20) + 1)) (va_up (va_up (va_up G 14 (upd (G 14) (ix u) 1)) 10 (upd (G 10) (ix u) 1)) 15 (upd (G 15) (ix u) 1))) X 13 1 (M_g15 (G := (va_up (va_up G 14 (upd (G 14) (ix u) 1)) 10 (upd (G 10) (ix u) 1)))) rfl (ix u) hx_u (by omega) (by decide) (by decide) dX2_arrive_143 rfl ?_
                refine fw_aload_n (pc := 144) X dX2_arrive_144 rfl 2 rfl ?_
                refine fw_iload_n (pc := 145) X dX2_arrive_145 rfl 3 rfl ?_
                refine fw_callV (pc := 146) (n := 1) (C := (RX2, TX2, 21)) (ci := 2) (q0 := 0) X hE [.int u] (ct_X2_mustNow u (ix u) hx_u (by omega)) (by decide) gX2_arrive_X2_mustNow rfl ⟨rfl, rfl⟩ ⟨rfl, dsc_X2_mustNow⟩ ⟨Nat.le_of_ble_eq_true rfl, Nat.le_of_ble_eq_true rfl⟩ rfl M_obj rfl rfl (Nat.le_of_ble_eq_true rfl) dX2_arrive_146 ⟨Nat.le_of_ble_eq_true rfl, Nat.le_of_ble_eq_true rfl⟩ (fun _ q => q.elim) (fun r0 u0 r_27 => ?_)
                subst r_27
                exact fw_zret (pc := 149) X hr nr_b hlk (Nat.le_of_ble_eq_true rfl) (Nat.le_of_ble_eq_true rfl) dX2_arrive_149 () (by simp [m_arr_v, m_arr_F, m_arr_G, m_arr_k, m_smp, c_2, c_3, c_9, c_15, c_17, c_21, c_25]) (by simp [m_arr_v, m_arr_F, m_arr_G, m_arr_k, m_smp, c_2, c_3, c_9, c_15, c_17, c_21, c_25])
        · refine fw_iv (y := 0) (if_neg c_15) ?_
          refine fw_if_ne (pc := 51) (tgt := 58) X dX2_arrive_51 (by decide) (fun q => absurd (by decide) q) (fun _ => ?_)
          refine fw_iconst (pc := 54) (v := 2) X dX2_arrive_54 (by decide) ?_
          refine fw_goto (pc := 55) (tgt := 68) X dX2_arrive_55 (by decide) ?_
          refine fw_callV (pc := 68) (n := 1) (C := (RX2, TX2, 21)) (ci := 2) (q0 := 0) X hE [.int 2] (ct_X2_isFine 2) (by decide) gX2_arrive_X2_isFine rfl ⟨rfl, rfl⟩ ⟨rfl, dsc_X2_isFine⟩ ⟨Nat.le_of_ble_eq_true rfl, Nat.le_of_ble_eq_true rfl⟩ rfl M_obj rfl rfl (Nat.le_of_ble_eq_true rfl) dX2_arrive_68 ⟨Nat.le_of_ble_eq_true rfl, Nat.le_of_ble_eq_true rfl⟩ (fun _ q => q.elim) (fun r0 u0 r_28 => ?_)
          subst r_28
          show fw_W _ _ _ _ _ _ _ _ _ _ _ _ _ _ _ _ _ _ _ (.int (b2i (2 = 0)) :: _)
          refine fw_iv (y := 0) (if_neg (by decide)) ?_
          refine fw_if_ne (pc := 71) (tgt := 76) X dX2_arrive_71 (by decide) (fun q => absurd (by decide) q) (fun _ => ?_)
          refine fw_iconst (pc := 74) (v := 0) X dX2_arrive_74 (by decide) ?_
          exact fw_zret (pc := 75) X hr nr_0 hlk (Nat.le_of_ble_eq_true rfl) (Nat.le_of_ble_eq_true rfl) dX2_arrive_75 () (by simp [m_arr_v, m_arr_F, m_arr_G, m_arr_k, m_smp, c_2, c_3, c_9, c_15]) (by simp [m_arr_v, m_arr_F, m_arr_G, m_arr_k, m_smp, c_2, c_3, c_9, c_15])
  · refine fw_iv (y := 0) (if_neg c_2) ?_
    refine fw_istore_n (pc := 5) (lv' := [(3, .int 0), (0, .ref (a 0)), (1, .int u), (2, .int x)]) X dX2_arrive_5 rfl (by decide) rfl ?_
    refine fw_iload_n (pc := 6) X dX2_arrive_6 rfl 0 rfl ?_
    refine fw_if_eq (pc := 7) (tgt := 31) X dX2_arrive_7 (by decide) (fun _ => ?_) (fun q => absurd (by decide) q)
    refine fw_iconst (pc := 31) (v := 0) X dX2_arrive_31 (by decide) ?_
    refine fw_istore (pc := 32) (lv' := [(4, .int 0), (3, .int 0), (0, .ref (a 0)), (1, .int u), (2, .int x)]) X dX2_arrive_32 (by decide) rfl ?_
    refine fw_aload_n (pc := 34) X dX2_arrive_34 rfl 2 rfl ?_
    refine fw_iload_n (pc := 35) X dX2_arrive_35 rfl 1 rfl ?_
    refine fw_if_ne (pc := 36) (tgt := 43) X dX2_arrive_36 (by decide) (fun q => absurd (by decide) q) (fun _ => ?_)
    refine fw_iconst (pc := 39) (v := 1) X dX2_arrive_39 (by decide) ?_
    refine fw_goto (pc := 40) (tgt := 68) X dX2_arrive_40 (by decide) ?_
    refine fw_callV (pc := 68) (n := 1) (C := (RX2, TX2, 21)) (ci := 2) (q0 := 0) X hE [.int 1] (ct_X2_isFine 1) (by decide) gX2_arrive_X2_isFine rfl ⟨rfl, rfl⟩ ⟨rfl, dsc_X2_isFine⟩ ⟨Nat.le_of_ble_eq_true rfl, Nat.le_of_ble_eq_true rfl⟩ rfl M_obj rfl rfl (Nat.le_of_ble_eq_true rfl) dX2_arrive_68 ⟨Nat.le_of_ble_eq_true rfl, Nat.le_of_ble_eq_true rfl⟩ (fun _ q => q.elim) (fun r0 u0 r_29 => ?_)
    subst r_29
    show fw_W _ _ _ _ _ _ _ _ _ _ _ _ _ _ _ _ _ _ _ (.int (b2i (1 = 0)) :: _)
    refine fw_iv (y := 0) (if_neg (by decide)) ?_
    refine fw_if_ne (pc := 71) (tgt := 76) X dX2_arrive_71 (by decide) (fun q => absurd (by decide) q) (fun _ => ?_)
    refine fw_iconst (pc := 74) (v := 0) X dX2_arrive_74 (by decide) ?_
    exact fw_zret (pc := 75) X hr nr_0 hlk (Nat.le_of_ble_eq_true rfl) (Nat.le_of_ble_eq_true rfl) dX2_arrive_75 () (by simp [m_arr_v, m_arr_F, m_arr_G, m_arr_k, m_smp, c_2]) (by simp [m_arr_v, m_arr_F, m_arr_G, m_arr_k, m_smp, c_2])
theorem kX2_risk_35 : Cond.fieldLink RX2 35 (TX2 10).1 (TX2 10).2.1 (TX2 10).2.2.1 ∈ wsX2_risk := by decide +kernel
set_option maxRecDepth 20000 in
theorem iX2_risk_X2 : ∀ w ∈ wsX20, w ∈ wsX2_risk := by decide +kernel
theorem dsc_X2_risk : fw_dsc yX2_risk 1 := by decide +kernel
set_option maxHeartbeats 4000000 in
set_option maxRecDepth 100000 in
theorem ct_X2_risk {l : Launch} {D : va_G} {K : Nat → ClassId} {a : Nat → Nat} {F : Nat → Int32} {G : Nat → Nat → Int32} (u : Int32) {n : Nat} (hn : F 19 = nI n) (hn15 : n ≤ 15) : fw_C (S := Unit) l yX2_risk wsX2_risk ({ frames := 2, cells := 0, slots := 0, locals := 43 }) 0 0 false [.ref (a 0), .int u] D (tyS K) (MW K a F G) (fun r _ => r = some (.int (m_rsk_v F G u))) (fun _ => MW K a (upd F 0 (m_rsk_k F G u)) G) (fun _ => False) := by
  refine fw_met (maxL := 3) (ret := (some .int)) (by decide) rfl (Nat.le_of_ble_eq_true rfl) ?_
  intro p e s m args below meth c A X hr hlk hnm htab hE
  refine fw_lv (lv' := [(0, .ref (a 0)), (1, .int u)]) [0, 1] rfl ?_
  refine fw_aload_n (pc := 0) X dX2_risk_0 rfl 0 rfl ?_
  refine fw_iload_n (pc := 1) X dX2_risk_1 rfl 1 rfl ?_
  refine fw_callV (pc := 2) (n := 1) (C := (RX2, TX2, 21)) (ci := 2) (q0 := 0) X hE [.int u] (ct_X2_isConsignment u) (by decide) gX2_risk_X2_isConsignment rfl ⟨rfl, rfl⟩ ⟨rfl, dsc_X2_isConsignment⟩ ⟨Nat.le_of_ble_eq_true rfl, Nat.le_of_ble_eq_true rfl⟩ rfl M_obj rfl rfl (Nat.le_of_ble_eq_true rfl) dX2_risk_2 ⟨Nat.le_of_ble_eq_true rfl, Nat.le_of_ble_eq_true rfl⟩ (fun _ q => q.elim) (fun r0 u0 r_1 => ?_)
  subst r_1
  show fw_W _ _ _ _ _ _ _ _ _ _ _ _ _ _ _ _ _ _ _ (.int (b2i (m_in u 0 (F 19 - 1) = true)) :: _)
  by_cases c_2 : m_in u 0 (F 19 - 1) = true
  · obtain ⟨hx_u, hl_u⟩ := in_con hn15 (by rw [← hn]; exact c_2)
    refine fw_iv (y := 1) (if_pos c_2) ?_
    refine fw_istore_n (pc := 5) (lv' := [(2, .int 1), (0, .ref (a 0)), (1, .int u)]) X dX2_risk_5 rfl (by decide) rfl ?_
    refine fw_aload_n (pc := 6) X dX2_risk_6 rfl 1 rfl ?_
    refine fw_iload_n (pc := 7) X dX2_risk_7 rfl 0 rfl ?_
    refine fw_if_ne (pc := 8) (tgt := 15) X dX2_risk_8 (by decide) (fun _ => ?_) (fun q => absurd q (by decide))
    refine fw_aload_n (pc := 15) X dX2_risk_15 rfl 1 rfl ?_
    refine fw_get (pc := 16) (v := .ref (a 10)) X iX2_risk_X2 0 M_obj rfl 10 (by decide) kX2_risk_35 rfl dX2_risk_16 ?_
    refine fw_iload_n (pc := 19) X dX2_risk_19 rfl 2 rfl ?_
    refine fw_iald (pc := 20) (f := G 10) X 8 0 (M_g10 (G := G)) rfl (ix u) hx_u (by omega) (by decide) dX2_risk_20 ?_
    refine fw_if_ne (pc := 21) (tgt := 28) X dX2_risk_21 (by decide) (fun c_3 => ?_) (fun c_3 => ?_)
    · refine fw_iconst (pc := 28) (v := 0) X dX2_risk_28 (by decide) ?_
      refine fw_callV (pc := 29) (n := 1) (C := (RX2, TX2, 21)) (ci := 2) (q0 := 0) X hE [.int 0] (ct_X2_isFine 0) (by decide) gX2_risk_X2_isFine rfl ⟨rfl, rfl⟩ ⟨rfl, dsc_X2_isFine⟩ ⟨Nat.le_of_ble_eq_true rfl, Nat.le_of_ble_eq_true rfl⟩ rfl M_obj rfl rfl (Nat.le_of_ble_eq_true rfl) dX2_risk_29 ⟨Nat.le_of_ble_eq_true rfl, Nat.le_of_ble_eq_true rfl⟩ (fun _ q => q.elim) (fun r0 u0 r_4 => ?_)
      subst r_4
      show fw_W _ _ _ _ _ _ _ _ _ _ _ _ _ _ _ _ _ _ _ (.int (b2i (0 = 0)) :: _)
      refine fw_iv (y := 1) (if_pos (by decide)) ?_
      refine fw_if_eq (pc := 32) (tgt := 43) X dX2_risk_32 (by decide) (fun q => absurd q (by decide)) (fun _ => ?_)
      refine fw_aload_n (pc := 35) X dX2_risk_35 rfl 1 rfl ?_
      refine fw_iload_n (pc := 36) X dX2_risk_36 rfl 2 rfl ?_
      refine fw_callV (pc := 37) (n := 1) (C := (RX2, TX2, 21)) (ci := 2) (q0 := 0) X hE [.int u] (ct_X2_riskNow u (ix u) hx_u (by omega)) (by decide) gX2_risk_X2_riskNow rfl ⟨rfl, rfl⟩ ⟨rfl, dsc_X2_riskNow⟩ ⟨Nat.le_of_ble_eq_true rfl, Nat.le_of_ble_eq_true rfl⟩ rfl M_obj rfl rfl (Nat.le_of_ble_eq_true rfl) dX2_risk_37 ⟨Nat.le_of_ble_eq_true rfl, Nat.le_of_ble_eq_true rfl⟩ (fun _ q => q.elim) (fun r0 u0 r_5 => ?_)
      subst r_5
      refine fw_goto (pc := 40) (tgt := 44) X dX2_risk_40 (by decide) ?_
      exact fw_iret (pc := 44) X hr hlk (Nat.le_of_ble_eq_true rfl) (Nat.le_of_ble_eq_true rfl) dX2_risk_44 () (by simp [m_rsk_v, m_rsk_k, c_2, c_3]) (by simp [m_rsk_v, m_rsk_k, c_2, c_3])
    · refine fw_iconst (pc := 24) (v := 2) X dX2_risk_24 (by decide) ?_
      refine fw_goto (pc := 25) (tgt := 29) X dX2_risk_25 (by decide) ?_
      refine fw_callV (pc := 29) (n := 1) (C := (RX2, TX2, 21)) (ci := 2) (q0 := 0) X hE [.int 2] (ct_X2_isFine 2) (by decide) gX2_risk_X2_isFine rfl ⟨rfl, rfl⟩ ⟨rfl, dsc_X2_isFine⟩ ⟨Nat.le_of_ble_eq_true rfl, Nat.le_of_ble_eq_true rfl⟩ rfl M_obj rfl rfl (Nat.le_of_ble_eq_true rfl) dX2_risk_29 ⟨Nat.le_of_ble_eq_true rfl, Nat.le_of_ble_eq_true rfl⟩ (fun _ q => q.elim) (fun r0 u0 r_6 => ?_)
      subst r_6
      show fw_W _ _ _ _ _ _ _ _ _ _ _ _ _ _ _ _ _ _ _ (.int (b2i (2 = 0)) :: _)
      refine fw_iv (y := 0) (if_neg (by decide)) ?_
      refine fw_if_eq (pc := 32) (tgt := 43) X dX2_risk_32 (by decide) (fun _ => ?_) (fun q => absurd (by decide) q)
      refine fw_iconst (pc := 43) (v := 0) X dX2_risk_43 (by decide) ?_
      exact fw_iret (pc := 44) X hr hlk (Nat.le_of_ble_eq_true rfl) (Nat.le_of_ble_eq_true rfl) dX2_risk_44 () (by simp [m_rsk_v, m_rsk_k, c_2, c_3]) (by simp [m_rsk_v, m_rsk_k, c_2, c_3])
  · refine fw_iv (y := 0) (if_neg c_2) ?_
    refine fw_istore_n (pc := 5) (lv' := [(2, .int 0), (0, .ref (a 0)), (1, .int u)]) X dX2_risk_5 rfl (by decide) rfl ?_
    refine fw_aload_n (pc := 6) X dX2_risk_6 rfl 1 rfl ?_
    refine fw_iload_n (pc := 7) X dX2_risk_7 rfl 0 rfl ?_
    refine fw_if_ne (pc := 8) (tgt := 15) X dX2_risk_8 (by decide) (fun q => absurd (by decide) q) (fun _ => ?_)
    refine fw_iconst (pc := 11) (v := 1) X dX2_risk_11 (by decide) ?_
    refine fw_goto (pc := 12) (tgt := 29) X dX2_risk_12 (by decide) ?_
    refine fw_callV (pc := 29) (n := 1) (C := (RX2, TX2, 21)) (ci := 2) (q0 := 0) X hE [.int 1] (ct_X2_isFine 1) (by decide) gX2_risk_X2_isFine rfl ⟨rfl, rfl⟩ ⟨rfl, dsc_X2_isFine⟩ ⟨Nat.le_of_ble_eq_true rfl, Nat.le_of_ble_eq_true rfl⟩ rfl M_obj rfl rfl (Nat.le_of_ble_eq_true rfl) dX2_risk_29 ⟨Nat.le_of_ble_eq_true rfl, Nat.le_of_ble_eq_true rfl⟩ (fun _ q => q.elim) (fun r0 u0 r_7 => ?_)
    subst r_7
    show fw_W _ _ _ _ _ _ _ _ _ _ _ _ _ _ _ _ _ _ _ (.int (b2i (1 = 0)) :: _)
    refine fw_iv (y := 0) (if_neg (by decide)) ?_
    refine fw_if_eq (pc := 32) (tgt := 43) X dX2_risk_32 (by decide) (fun _ => ?_) (fun q => absurd (by decide) q)
    refine fw_iconst (pc := 43) (v := 0) X dX2_risk_43 (by decide) ?_
    exact fw_iret (pc := 44) X hr hlk (Nat.le_of_ble_eq_true rfl) (Nat.le_of_ble_eq_true rfl) dX2_risk_44 () (by simp [m_rsk_v, m_rsk_k, c_2]) (by simp [m_rsk_v, m_rsk_k, c_2])
theorem dsc_X2_mustSearch : fw_dsc yX2_mustSearch 1 := by decide +kernel
set_option maxHeartbeats 4000000 in
set_option maxRecDepth 100000 in
theorem ct_X2_mustSearch {l : Launch} {D : va_G} {K : Nat → ClassId} {a : Nat → Nat} {F : Nat → Int32} {G : Nat → Nat → Int32} (u : Int32) {n : Nat} (hn : F 19 = nI n) (hn15 : n ≤ 15) : fw_C (S := Unit) l yX2_mustSearch wsX2_mustSearch ({ frames := 2, cells := 0, slots := 0, locals := 44 }) 0 0 false [.ref (a 0), .int u] D (tyS K) (MW K a F G) (fun r _ => r = some (.int (m_mus_v F G u))) (fun _ => MW K a (upd F 0 (m_c_k F u)) G) (fun _ => False) := by
  refine fw_met (maxL := 2) (ret := (some .boolean)) (by decide) rfl (Nat.le_of_ble_eq_true rfl) ?_
  intro p e s m args below meth c A X hr hlk hnm htab hE
  refine fw_lv (lv' := [(0, .ref (a 0)), (1, .int u)]) [0, 1] rfl ?_
  refine fw_aload_n (pc := 0) X dX2_mustSearch_0 rfl 0 rfl ?_
  refine fw_aload_n (pc := 1) X dX2_mustSearch_1 rfl 0 rfl ?_
  refine fw_iload_n (pc := 2) X dX2_mustSearch_2 rfl 1 rfl ?_
  refine fw_callV (pc := 3) (n := 1) (C := (RX2, TX2, 21)) (ci := 2) (q0 := 0) X hE [.int u] (ct_X2_isConsignment u) (by decide) gX2_mustSearch_X2_isConsignment rfl ⟨rfl, rfl⟩ ⟨rfl, dsc_X2_isConsignment⟩ ⟨Nat.le_of_ble_eq_true rfl, Nat.le_of_ble_eq_true rfl⟩ rfl M_obj rfl rfl (Nat.le_of_ble_eq_true rfl) dX2_mustSearch_3 ⟨Nat.le_of_ble_eq_true rfl, Nat.le_of_ble_eq_true rfl⟩ (fun _ q => q.elim) (fun r0 u0 r_1 => ?_)
  subst r_1
  show fw_W _ _ _ _ _ _ _ _ _ _ _ _ _ _ _ _ _ _ _ (.int (b2i (m_in u 0 (F 19 - 1) = true)) :: _)
  by_cases c_2 : m_in u 0 (F 19 - 1) = true
  · obtain ⟨hx_u, hl_u⟩ := in_con hn15 (by rw [← hn]; exact c_2)
    refine fw_iv (y := 1) (if_pos c_2) ?_
    refine fw_if_eq (pc := 6) (tgt := 13) X dX2_mustSearch_6 (by decide) (fun q => absurd q (by decide)) (fun _ => ?_)
    refine fw_iconst (pc := 9) (v := 0) X dX2_mustSearch_9 (by decide) ?_
    refine fw_goto (pc := 10) (tgt := 14) X dX2_mustSearch_10 (by decide) ?_
    refine fw_callV (pc := 14) (n := 1) (C := (RX2, TX2, 21)) (ci := 2) (q0 := 0) X hE [.int 0] (ct_X2_isFine 0) (by decide) gX2_mustSearch_X2_isFine rfl ⟨rfl, rfl⟩ ⟨rfl, dsc_X2_isFine⟩ ⟨Nat.le_of_ble_eq_true rfl, Nat.le_of_ble_eq_true rfl⟩ rfl M_obj rfl rfl (Nat.le_of_ble_eq_true rfl) dX2_mustSearch_14 ⟨Nat.le_of_ble_eq_true rfl, Nat.le_of_ble_eq_true rfl⟩ (fun _ q => q.elim) (fun r0 u0 r_3 => ?_)
    subst r_3
    show fw_W _ _ _ _ _ _ _ _ _ _ _ _ _ _ _ _ _ _ _ (.int (b2i (0 = 0)) :: _)
    refine fw_iv (y := 1) (if_pos (by decide)) ?_
    refine fw_if_eq (pc := 17) (tgt := 32) X dX2_mustSearch_17 (by decide) (fun q => absurd q (by decide)) (fun _ => ?_)
    refine fw_aload_n (pc := 20) X dX2_mustSearch_20 rfl 0 rfl ?_
    refine fw_iload_n (pc := 21) X dX2_mustSearch_21 rfl 1 rfl ?_
    refine fw_callV (pc := 22) (n := 1) (C := (RX2, TX2, 21)) (ci := 2) (q0 := 0) X hE [.int u] (ct_X2_mustNow u (ix u) hx_u (by omega)) (by decide) gX2_mustSearch_X2_mustNow rfl ⟨rfl, rfl⟩ ⟨rfl, dsc_X2_mustNow⟩ ⟨Nat.le_of_ble_eq_true rfl, Nat.le_of_ble_eq_true rfl⟩ rfl M_obj rfl rfl (Nat.le_of_ble_eq_true rfl) dX2_mustSearch_22 ⟨Nat.le_of_ble_eq_true rfl, Nat.le_of_ble_eq_true rfl⟩ (fun _ q => q.elim) (fun r0 u0 r_4 => ?_)
    subst r_4
    show fw_W _ _ _ _ _ _ _ _ _ _ _ _ _ _ _ _ _ _ _ (.int (b2i (m_must (upd F 0 0) G (ix u) = true)) :: _)
    by_cases c_5 : m_must (upd F 0 0) G (ix u) = true
    · refine fw_iv (y := 1) (if_pos c_5) ?_
      refine fw_if_eq (pc := 25) (tgt := 32) X dX2_mustSearch_25 (by decide) (fun q => absurd q (by decide)) (fun _ => ?_)
      refine fw_iconst (pc := 28) (v := 1) X dX2_mustSearch_28 (by decide) ?_
      refine fw_goto (pc := 29) (tgt := 33) X dX2_mustSearch_29 (by decide) ?_
      exact fw_zret (pc := 33) X hr nr_1 hlk (Nat.le_of_ble_eq_true rfl) (Nat.le_of_ble_eq_true rfl) dX2_mustSearch_33 () (by simp [m_mus_v, m_c_k, c_2, c_5]) (by simp [m_mus_v, m_c_k, c_2, c_5])
    · refine fw_iv (y := 0) (if_neg c_5) ?_
      refine fw_if_eq (pc := 25) (tgt := 32) X dX2_mustSearch_25 (by decide) (fun _ => ?_) (fun q => absurd (by decide) q)
      refine fw_iconst (pc := 32) (v := 0) X dX2_mustSearch_32 (by decide) ?_
      exact fw_zret (pc := 33) X hr nr_0 hlk (Nat.le_of_ble_eq_true rfl) (Nat.le_of_ble_eq_true rfl) dX2_mustSearch_33 () (by simp [m_mus_v, m_c_k, c_2, c_5]) (by simp [m_mus_v, m_c_k, c_2, c_5])
  · refine fw_iv (y := 0) (if_neg c_2) ?_
    refine fw_if_eq (pc := 6) (tgt := 13) X dX2_mustSearch_6 (by decide) (fun _ => ?_) (fun q => absurd (by decide) q)
    refine fw_iconst (pc := 13) (v := 1) X dX2_mustSearch_13 (by decide) ?_
    refine fw_callV (pc := 14) (n := 1) (C := (RX2, TX2, 21)) (ci := 2) (q0 := 0) X hE [.int 1] (ct_X2_isFine 1) (by decide) gX2_mustSearch_X2_isFine rfl ⟨rfl, rfl⟩ ⟨rfl, dsc_X2_isFine⟩ ⟨Nat.le_of_ble_eq_true rfl, Nat.le_of_ble_eq_true rfl⟩ rfl M_obj rfl rfl (Nat.le_of_ble_eq_true rfl) dX2_mustSearch_14 ⟨Nat.le_of_ble_eq_true rfl, Nat.le_of_ble_eq_true rfl⟩ (fun _ q => q.elim) (fun r0 u0 r_6 => ?_)
    subst r_6
    show fw_W _ _ _ _ _ _ _ _ _ _ _ _ _ _ _ _ _ _ _ (.int (b2i (1 = 0)) :: _)
    refine fw_iv (y := 0) (if_neg (by decide)) ?_
    refine fw_if_eq (pc := 17) (tgt := 32) X dX2_mustSearch_17 (by decide) (fun _ => ?_) (fun q => absurd (by decide) q)
    refine fw_iconst (pc := 32) (v := 0) X dX2_mustSearch_32 (by decide) ?_
    exact fw_zret (pc := 33) X hr nr_0 hlk (Nat.le_of_ble_eq_true rfl) (Nat.le_of_ble_eq_true rfl) dX2_mustSearch_33 () (by simp [m_mus_v, m_c_k, c_2]) (by simp [m_mus_v, m_c_k, c_2])
theorem kX2_search_35 : Cond.fieldLink RX2 35 (TX2 10).1 (TX2 10).2.1 (TX2 10).2.2.1 ∈ wsX2_search := by decide +kernel
set_option maxRecDepth 20000 in
theorem iX2_search_X2 : ∀ w ∈ wsX20, w ∈ wsX2_search := by decide +kernel
theorem kX2_search_44 : Cond.fieldLink RX2 44 (TX2 13).1 (TX2 13).2.1 (TX2 13).2.2.1 ∈ wsX2_search := by decide +kernel
theorem kX2_search_41 : Cond.fieldLink RX2 41 (TX2 12).1 (TX2 12).2.1 (TX2 12).2.2.1 ∈ wsX2_search := by decide +kernel
theorem kX2_search_54 : Cond.fieldLink RX2 54 (TX2 16).1 (TX2 16).2.1 (TX2 16).2.2.1 ∈ wsX2_search := by decide +kernel
theorem dsc_X2_search : fw_dsc yX2_search 3 := by decide +kernel
set_option maxHeartbeats 4000000 in
set_option maxRecDepth 100000 in
theorem ct_X2_search {l : Launch} {D : va_G} {K : Nat → ClassId} {a : Nat → Nat} {F : Nat → Int32} {G : Nat → Nat → Int32} (u v x : Int32) {n : Nat} (hn : F 19 = nI n) (hn15 : n ≤ 15) : fw_C (S := Unit) l yX2_search wsX2_search ({ frames := 2, cells := 0, slots := 0, locals := 43 }) 0 0 false [.ref (a 0), .int u, .int v, .int x] D (tyS K) (MW K a F G) (fun r _ => r = some (.int (m_sch_v F G u v x))) (fun _ => MW K a (upd F 0 (m_sch_k F G u v x)) (m_sch_G F G u v x)) (fun _ => False) := by
  refine fw_met (maxL := 6) (ret := (some .int)) (by decide) rfl (Nat.le_of_ble_eq_true rfl) ?_
  intro p e s m args below meth c A X hr hlk hnm htab hE
  refine fw_lv (lv' := [(0, .ref (a 0)), (1, .int u), (2, .int v), (3, .int x)]) [0, 1, 2, 3] rfl ?_
  refine fw_aload_n (pc := 0) X dX2_search_0 rfl 0 rfl ?_
  refine fw_iload_n (pc := 1) X dX2_search_1 rfl 1 rfl ?_
  refine fw_callV (pc := 2) (n := 1) (C := (RX2, TX2, 21)) (ci := 2) (q0 := 0) X hE [.int u] (ct_X2_isConsignment u) (by decide) gX2_search_X2_isConsignment rfl ⟨rfl, rfl⟩ ⟨rfl, dsc_X2_isConsignment⟩ ⟨Nat.le_of_ble_eq_true rfl, Nat.le_of_ble_eq_true rfl⟩ rfl M_obj rfl rfl (Nat.le_of_ble_eq_true rfl) dX2_search_2 ⟨Nat.le_of_ble_eq_true rfl, Nat.le_of_ble_eq_true rfl⟩ (fun _ q => q.elim) (fun r0 u0 r_1 => ?_)
  subst r_1
  show fw_W _ _ _ _ _ _ _ _ _ _ _ _ _ _ _ _ _ _ _ (.int (b2i (m_in u 0 (F 19 - 1) = true)) :: _)
  by_cases c_2 : m_in u 0 (F 19 - 1) = true
  · obtain ⟨hx_u, hl_u⟩ := in_con hn15 (by rw [← hn]; exact c_2)
    refine fw_iv (y := 1) (if_pos c_2) ?_
    refine fw_istore (pc := 5) (lv' := [(4, .int 1), (0, .ref (a 0)), (1, .int u), (2, .int v), (3, .int x)]) X dX2_search_5 (by decide) rfl ?_
    refine fw_iload_n (pc := 7) X dX2_search_7 rfl 3 rfl ?_
    refine fw_callS (pc := 8) (n := 1) X hE [.int v] (ct_X2_isSort v) (by decide) gX2_search_X2_isSort rfl ⟨rfl, rfl⟩ dsc_X2_isSort ⟨Nat.le_of_ble_eq_true rfl, Nat.le_of_ble_eq_true rfl⟩ rfl rfl (Nat.le_of_ble_eq_true rfl) dX2_search_8 ⟨Nat.le_of_ble_eq_true rfl, Nat.le_of_ble_eq_true rfl⟩ (fun _ q => q.elim) (fun r0 u0 r_3 => ?_)
    subst r_3
    show fw_W _ _ _ _ _ _ _ _ _ _ _ _ _ _ _ _ _ _ _ (.int (b2i (m_in v 0 5 = true)) :: _)
    by_cases c_4 : m_in v 0 5 = true
    · obtain ⟨hx_v, hl_v⟩ := in_ix (h := 5) (N := 6) (by decide) (by decide) c_4
      refine fw_iv (y := 1) (if_pos c_4) ?_
      refine fw_if_eq (pc := 11) (tgt := 28) X dX2_search_11 (by decide) (fun q => absurd q (by decide)) (fun _ => ?_)
      refine fw_iload_n (pc := 14) X dX2_search_14 rfl 4 rfl ?_
      refine fw_iconst (pc := 15) (v := 0) X dX2_search_15 (by decide) ?_
      refine fw_bipush (pc := 16) (v := 100) X dX2_search_16 (by decide) ?_
      refine fw_callS (pc := 18) (n := 3) X hE [.int x, .int 0, .int 100] (ct_X2_isIn x 0 100) (by decide) gX2_search_X2_isIn rfl ⟨rfl, rfl⟩ dsc_X2_isIn ⟨Nat.le_of_ble_eq_true rfl, Nat.le_of_ble_eq_true rfl⟩ rfl rfl (Nat.le_of_ble_eq_true rfl) dX2_search_18 ⟨Nat.le_of_ble_eq_true rfl, Nat.le_of_ble_eq_true rfl⟩ (fun _ q => q.elim) (fun r0 u0 r_5 => ?_)
      subst r_5
      show fw_W _ _ _ _ _ _ _ _ _ _ _ _ _ _ _ _ _ _ _ (.int (b2i (m_in x 0 100 = true)) :: _)
      by_cases c_6 : m_in x 0 100 = true
      · obtain ⟨hx_x, hl_x⟩ := in_ix (h := 100) (N := 101) (by decide) (by decide) c_6
        refine fw_iv (y := 1) (if_pos c_6) ?_
        refine fw_if_eq (pc := 21) (tgt := 28) X dX2_search_21 (by decide) (fun q => absurd q (by decide)) (fun _ => ?_)
        refine fw_iconst (pc := 24) (v := 1) X dX2_search_24 (by decide) ?_
        refine fw_goto (pc := 25) (tgt := 29) X dX2_search_25 (by decide) ?_
        refine fw_istore (pc := 29) (lv' := [(5, .int 1), (4, .int 1), (0, .ref (a 0)), (1, .int u), (2, .int v), (3, .int x)]) X dX2_search_29 (by decide) rfl ?_
        refine fw_aload_n (pc := 31) X dX2_search_31 rfl 2 rfl ?_
        refine fw_iload (pc := 32) X dX2_search_32 1 rfl ?_
        refine fw_if_ne (pc := 34) (tgt := 41) X dX2_search_34 (by decide) (fun _ => ?_) (fun q => absurd q (by decide))
        refine fw_iload (pc := 41) X dX2_search_41 0 rfl ?_
        refine fw_if_ne (pc := 43) (tgt := 50) X dX2_search_43 (by decide) (fun _ => ?_) (fun q => absurd q (by decide))
        refine fw_aload_n (pc := 50) X dX2_search_50 rfl 2 rfl ?_
        refine fw_get (pc := 51) (v := .ref (a 10)) X iX2_search_X2 0 M_obj rfl 10 (by decide) kX2_search_35 rfl dX2_search_51 ?_
        refine fw_iload_n (pc := 54) X dX2_search_54 rfl 3 rfl ?_
        refine fw_iald (pc := 55) (f := G 10) X 8 0 (M_g10 (G := G)) rfl (ix u) hx_u (by omega) (by decide) dX2_search_55 ?_
        refine fw_iconst (pc := 56) (v := 1) X dX2_search_56 (by decide) ?_
        refine fw_icmp_eq (pc := 57) (tgt := 64) X dX2_search_57 (by decide) (fun c_7 => ?_) (fun c_7 => ?_)
        · refine fw_iconst (pc := 64) (v := 0) X dX2_search_64 (by decide) ?_
          refine fw_callV (pc := 65) (n := 1) (C := (RX2, TX2, 21)) (ci := 2) (q0 := 0) X hE [.int 0] (ct_X2_isFine 0) (by decide) gX2_search_X2_isFine rfl ⟨rfl, rfl⟩ ⟨rfl, dsc_X2_isFine⟩ ⟨Nat.le_of_ble_eq_true rfl, Nat.le_of_ble_eq_true rfl⟩ rfl M_obj rfl rfl (Nat.le_of_ble_eq_true rfl) dX2_search_65 ⟨Nat.le_of_ble_eq_true rfl, Nat.le_of_ble_eq_true rfl⟩ (fun _ q => q.elim) (fun r0 u0 r_8 => ?_)
          subst r_8
          show fw_W _ _ _ _ _ _ _ _ _ _ _ _ _ _ _ _ _ _ _ (.int (b2i (0 = 0)) :: _)
          refine fw_iv (y := 1) (if_pos (by decide)) ?_
          refine fw_if_ne (pc := 68) (tgt := 73) X dX2_search_68 (by decide) (fun _ => ?_) (fun q => absurd q (by decide))
          refine fw_aload_n (pc := 73) X dX2_search_73 rfl 2 rfl ?_
          refine fw_get (pc := 74) (v := .ref (a 13)) X iX2_search_X2 0 M_obj rfl 13 (by decide) kX2_search_44 rfl dX2_search_74 ?_
          refine fw_iload_n (pc := 77) X dX2_search_77 rfl 3 rfl ?_
          refine fw_dup2 (pc := 78) X dX2_search_78 rfl rfl ?_
          refine fw_iald (pc := 79) (f := G 13) X 11 0 (M_g13 (G := G)) rfl (ix u) hx_u (by omega) (by decide) dX2_search_79 ?_
          refine fw_iconst (pc := 80) (v := 1) X dX2_search_80 (by decide) ?_
          refine fw_iload_n (pc := 81) X dX2_search_81 rfl 4 rfl ?_
          refine fw_ishl (pc := 82) X dX2_search_82 ?_
          refine fw_ior (pc := 83) X dX2_search_83 ?_
          refine fw_iast (pc := 84) (f := G 13) (ws' := MW K a (upd F 0 0) (va_up G 13 (upd (G 13) (ix u) ((G 13 (ix u)) ||| (1 <<< (v &&& 31)))))) X 11 0 (M_g13 (G := G)) rfl (ix u) hx_u (by omega) (by decide) dX2_search_84 rfl ?_
          refine fw_aload_n (pc := 85) X dX2_search_85 rfl 2 rfl ?_
          refine fw_get (pc := 86) (v := .ref (a 12)) X iX2_search_X2 0 M_obj rfl 12 (by decide) kX2_search_41 rfl dX2_search_86 ?_
          refine fw_iload_n (pc := 89) X dX2_search_89 rfl 3 rfl ?_
          refine fw_dup2 (pc := 90) X dX2_search_90 rfl rfl ?_
          refine fw_iald (pc := 91) (f := G 12) X 10 0 (M_g12 (G := (va_up G 13 (upd (G 13) (ix u) ((G 13 (ix u)) ||| (1 <<< (v &&& 31))))))) rfl (ix u) hx_u (by omega) (by decide) dX2_search_91 ?_
          refine fw_aload_n (pc := 92) X dX2_search_92 rfl 2 rfl ?_
          refine fw_get (pc := 93) (v := .ref (a 16)) X iX2_search_X2 0 M_obj rfl 16 (by decide) kX2_search_54 rfl dX2_search_93 ?_
          refine fw_bipush (pc := 96) (v := 6) X dX2_search_96 (by decide) ?_
          refine fw_iload_n (pc := 98) X dX2_search_98 rfl 3 rfl ?_
          refine fw_imul (pc := 99) X dX2_search_99 ?_
          refine fw_iload_n (pc := 100) X dX2_search_100 rfl 4 rfl ?_
          refine fw_iadd (pc := 101) X dX2_search_101 ?_
          refine fw_iald (pc := 102) (f := G 16) X 14 0 (M_g16 (G := (va_up G 13 (upd (G 13) (ix u) ((G 13 (ix u)) ||| (1 <<< (v &&& 31))))))) rfl ((6 * (ix u)) + (ix v)) (nf_add (nf_mul rfl hx_u) hx_v) (by omega) (by decide) dX2_search_102 ?_
          refine fw_iload_n (pc := 103) X dX2_search_103 rfl 5 rfl ?_
          refine fw_icmp_eq (pc := 104) (tgt := 111) X dX2_search_104 (by decide) (fun c_9 => ?_) (fun c_9 => ?_)
          · refine fw_iconst (pc := 111) (v := 0) X dX2_search_111 (by decide) ?_
            refine fw_iadd (pc := 112) X dX2_search_112 ?_
            refine fw_iast (pc := 113) (f := G 12) (ws' := MW K a (upd F 0 0) (va_up (va_up G 13 (upd (G 13) (ix u) ((G 13 (ix u)) ||| (1 <<< (v &&& 31))))) 12 (upd (G 12) (ix u) ((G 12 (ix u)) + 0)))) X 10 0 (M_g12 (G := (va_up G 13 (upd (G 13) (ix u) ((G 13 (ix u)) ||| (1 <<< (v &&& 31))))))) rfl (ix u) hx_u (by omega) (by decide) dX2_search_113 rfl ?_
            refine fw_aload_n (pc := 114) X dX2_search_114 rfl 2 rfl ?_
            refine fw_get (pc := 115) (v := .ref (a 16)) X iX2_search_X2 0 M_obj rfl 16 (by decide) kX2_search_54 rfl dX2_search_115 ?_
            refine fw_bipush (pc := 118) (v := 6) X dX2_search_118 (by decide) ?_
            refine fw_iload_n (pc := 120) X dX2_search_120 rfl 3 rfl ?_
            refine fw_imul (pc := 121) X dX2_search_121 ?_
            refine fw_iload_n (pc := 122) X dX2_search_122 rfl 4 rfl ?_
            refine fw_iadd (pc := 123) X dX2_search_123 ?_
            refine fw_iload_n (pc := 124) X dX2_search_124 rfl 5 rfl ?_
            refine fw_iast (pc := 125) (f := G 16) (ws' := MW K a (upd F 0 0) (va_up (va_up (va_up G 13 (upd (G 13) (ix u) ((G 13 (ix u)) ||| (1 <<< (v &&& 31))))) 12 (upd (G 12) (ix u) ((G 12 (ix u)) + 0))) 16 (upd (G 16) ((6 * (ix u)) + (ix v)) x))) X 14 0 (M_g16 (G := (va_up (va_up G 13 (upd (G 13) (ix u) ((G 13 (ix u)) ||| (1 <<< (v &&& 31))))) 12 (upd (G 12) (ix u) ((G 12 (ix u)) + 0))))) rfl ((6 * (ix u)) + (ix v)) (nf_add (nf_mul rfl hx_u) hx_v) (by omega) (by decide) dX2_search_125 rfl ?_
            refine fw_aload_n (pc := 126) X dX2_search_126 rfl 2 rfl ?_
            refine fw_get (pc := 127) (v := .ref (a 12)) X iX2_search_X2 0 M_obj rfl 12 (by decide) kX2_search_41 rfl dX2_search_127 ?_
            refine fw_iload_n (pc := 130) X dX2_search_130 rfl 3 rfl ?_
            refine fw_iald (pc := 131) (f := upd (G 12) (ix u) ((G 12 (ix u)) + 0)) X 10 0 (M_g12 (G := (va_up (va_up (va_up G 13 (upd (G 13) (ix u) ((G 13 (ix u)) ||| (1 <<< (v &&& 31))))) 12 (upd (G 12) (ix u) ((G 12 (ix u)) + 0))) 16 (upd (G 16) ((6 * (ix u)) + (ix v)) x)))) rfl (ix u) hx_u (by omega) (by decide) dX2_search_131 ?_
            exact fw_iret (pc := 132) X hr hlk (Nat.le_of_ble_eq_true rfl) (Nat.le_of_ble_eq_true rfl) dX2_search_132 () (by simp [m_sch_v, m_sch_G, m_sch_k, m_sch_p, upd, c_2, c_4, c_6, c_7, c_9]) (by simp [m_sch_v, m_sch_G, m_sch_k, m_sch_p, upd, c_2, c_4, c_6, c_7, c_9])
          · refine fw_iconst (pc := 107) (v := 1) X dX2_search_107 (by decide) ?_
            refine fw_goto (pc := 108) (tgt := 112) X dX2_search_108 (by decide) ?_
            refine fw_iadd (pc := 112) X dX2_search_112 ?_
            refine fw_iast (pc := 113) (f := G 12) (ws' := MW K a (upd F 0 0) (va_up (va_up G 13 (upd (G 13) (ix u) ((G 13 (ix u)) ||| (1 <<< (v &&& 31))))) 12 (upd (G 12) (ix u) ((G 12 (ix u)) + 1)))) X 10 0 (M_g12 (G := (va_up G 13 (upd (G 13) (ix u) ((G 13 (ix u)) ||| (1 <<< (v &&& 31))))))) rfl (ix u) hx_u (by omega) (by decide) dX2_search_113 rfl ?_
            refine fw_aload_n (pc := 114) X dX2_search_114 rfl 2 rfl ?_
            refine fw_get (pc := 115) (v := .ref (a 16)) X iX2_search_X2 0 M_obj rfl 16 (by decide) kX2_search_54 rfl dX2_search_115 ?_
            refine fw_bipush (pc := 118) (v := 6) X dX2_search_118 (by decide) ?_
            refine fw_iload_n (pc := 120) X dX2_search_120 rfl 3 rfl ?_
            refine fw_imul (pc := 121) X dX2_search_121 ?_
            refine fw_iload_n (pc := 122) X dX2_search_122 rfl 4 rfl ?_
            refine fw_iadd (pc := 123) X dX2_search_123 ?_
            refine fw_iload_n (pc := 124) X dX2_search_124 rfl 5 rfl ?_
            refine fw_iast (pc := 125) (f := G 16) (ws' := MW K a (upd F 0 0) (va_up (va_up (va_up G 13 (upd (G 13) (ix u) ((G 13 (ix u)) ||| (1 <<< (v &&& 31))))) 12 (upd (G 12) (ix u) ((G 12 (ix u)) + 1))) 16 (upd (G 16) ((6 * (ix u)) + (ix v)) x))) X 14 0 (M_g16 (G := (va_up (va_up G 13 (upd (G 13) (ix u) ((G 13 (ix u)) ||| (1 <<< (v &&& 31))))) 12 (upd (G 12) (ix u) ((G 12 (ix u)) + 1))))) rfl ((6 * (ix u)) + (ix v)) (nf_add (nf_mul rfl hx_u) hx_v) (by omega) (by decide) dX2_search_125 rfl ?_
            refine fw_aload_n (pc := 126) X dX2_search_126 rfl 2 rfl ?_
            refine fw_get (pc := 127) (v := .ref (a 12)) X iX2_search_X2 0 M_obj rfl 12 (by decide) kX2_search_41 rfl dX2_search_127 ?_
            refine fw_iload_n (pc := 130) X dX2_search_130 rfl 3 rfl ?_
            refine fw_iald (pc := 131) (f := upd (G 12) (ix u) ((G 12 (ix u)) + 1)) X 10 0 (M_g12 (G := (va_up (va_up (va_up G 13 (upd (G 13) (ix u) ((G 13 (ix u)) ||| (1 <<< (v &&& 31))))) 12 (upd (G 12) (ix u) ((G 12 (ix u)) + 1))) 16 (upd (G 16) ((6 * (ix u)) + (ix v)) x)))) rfl (ix u) hx_u (by omega) (by decide) dX2_search_131 ?_
            exact fw_iret (pc := 132) X hr hlk (Nat.le_of_ble_eq_true rfl) (Nat.le_of_ble_eq_true rfl) dX2_search_132 () (by simp [m_sch_v, m_sch_G, m_sch_k, m_sch_p, upd, c_2, c_4, c_6, c_7, c_9]) (by simp [m_sch_v, m_sch_G, m_sch_k, m_sch_p, upd, c_2, c_4, c_6, c_7, c_9])
        · refine fw_iconst (pc := 60) (v := 3) X dX2_search_60 (by decide) ?_
          refine fw_goto (pc := 61) (tgt := 65) X dX2_search_61 (by decide) ?_
          refine fw_callV (pc := 65) (n := 1) (C := (RX2, TX2, 21)) (ci := 2) (q0 := 0) X hE [.int 3] (ct_X2_isFine 3) (by decide) gX2_search_X2_isFine rfl ⟨rfl, rfl⟩ ⟨rfl, dsc_X2_isFine⟩ ⟨Nat.le_of_ble_eq_true rfl, Nat.le_of_ble_eq_true rfl⟩ rfl M_obj rfl rfl (Nat.le_of_ble_eq_true rfl) dX2_search_65 ⟨Nat.le_of_ble_eq_true rfl, Nat.le_of_ble_eq_true rfl⟩ (fun _ q => q.elim) (fun r0 u0 r_10 => ?_)
          subst r_10
          show fw_W _ _ _ _ _ _ _ _ _ _ _ _ _ _ _ _ _ _ _ (.int (b2i (3 = 0)) :: _)
          refine fw_iv (y := 0) (if_neg (by decide)) ?_
          refine fw_if_ne (pc := 68) (tgt := 73) X dX2_search_68 (by decide) (fun q => absurd (by decide) q) (fun _ => ?_)
          refine fw_iconst (pc := 71) (v := 0) X dX2_search_71 (by decide) ?_
          exact fw_iret (pc := 72) X hr hlk (Nat.le_of_ble_eq_true rfl) (Nat.le_of_ble_eq_true rfl) dX2_search_72 () (by simp [m_sch_v, m_sch_G, m_sch_k, m_sch_p, upd, c_2, c_4, c_6, c_7]) (by simp [m_sch_v, m_sch_G, m_sch_k, m_sch_p, upd, c_2, c_4, c_6, c_7])
      · refine fw_iv (y := 0) (if_neg c_6) ?_
        refine fw_if_eq (pc := 21) (tgt := 28) X dX2_search_21 (by decide) (fun _ => ?_) (fun q => absurd (by decide) q)
        refine fw_iconst (pc := 28) (v := 0) X dX2_search_28 (by decide) ?_
        refine fw_istore (pc := 29) (lv' := [(5, .int 0), (4, .int 1), (0, .ref (a 0)), (1, .int u), (2, .int v), (3, .int x)]) X dX2_search_29 (by decide) rfl ?_
        refine fw_aload_n (pc := 31) X dX2_search_31 rfl 2 rfl ?_
        refine fw_iload (pc := 32) X dX2_search_32 1 rfl ?_
        refine fw_if_ne (pc := 34) (tgt := 41) X dX2_search_34 (by decide) (fun _ => ?_) (fun q => absurd q (by decide))
        refine fw_iload (pc := 41) X dX2_search_41 0 rfl ?_
        refine fw_if_ne (pc := 43) (tgt := 50) X dX2_search_43 (by decide) (fun q => absurd (by decide) q) (fun _ => ?_)
        refine fw_iconst (pc := 46) (v := 2) X dX2_search_46 (by decide) ?_
        refine fw_goto (pc := 47) (tgt := 65) X dX2_search_47 (by decide) ?_
        refine fw_callV (pc := 65) (n := 1) (C := (RX2, TX2, 21)) (ci := 2) (q0 := 0) X hE [.int 2] (ct_X2_isFine 2) (by decide) gX2_search_X2_isFine rfl ⟨rfl, rfl⟩ ⟨rfl, dsc_X2_isFine⟩ ⟨Nat.le_of_ble_eq_true rfl, Nat.le_of_ble_eq_true rfl⟩ rfl M_obj rfl rfl (Nat.le_of_ble_eq_true rfl) dX2_search_65 ⟨Nat.le_of_ble_eq_true rfl, Nat.le_of_ble_eq_true rfl⟩ (fun _ q => q.elim) (fun r0 u0 r_11 => ?_)
        subst r_11
        show fw_W _ _ _ _ _ _ _ _ _ _ _ _ _ _ _ _ _ _ _ (.int (b2i (2 = 0)) :: _)
        refine fw_iv (y := 0) (if_neg (by decide)) ?_
        refine fw_if_ne (pc := 68) (tgt := 73) X dX2_search_68 (by decide) (fun q => absurd (by decide) q) (fun _ => ?_)
        refine fw_iconst (pc := 71) (v := 0) X dX2_search_71 (by decide) ?_
        exact fw_iret (pc := 72) X hr hlk (Nat.le_of_ble_eq_true rfl) (Nat.le_of_ble_eq_true rfl) dX2_search_72 () (by simp [m_sch_v, m_sch_G, m_sch_k, m_sch_p, upd, c_2, c_4, c_6]) (by simp [m_sch_v, m_sch_G, m_sch_k, m_sch_p, upd, c_2, c_4, c_6])
    · refine fw_iv (y := 0) (if_neg c_4) ?_
      refine fw_if_eq (pc := 11) (tgt := 28) X dX2_search_11 (by decide) (fun _ => ?_) (fun q => absurd (by decide) q)
      refine fw_iconst (pc := 28) (v := 0) X dX2_search_28 (by decide) ?_
      refine fw_istore (pc := 29) (lv' := [(5, .int 0), (4, .int 1), (0, .ref (a 0)), (1, .int u), (2, .int v), (3, .int x)]) X dX2_search_29 (by decide) rfl ?_
      refine fw_aload_n (pc := 31) X dX2_search_31 rfl 2 rfl ?_
      refine fw_iload (pc := 32) X dX2_search_32 1 rfl ?_
      refine fw_if_ne (pc := 34) (tgt := 41) X dX2_search_34 (by decide) (fun _ => ?_) (fun q => absurd q (by decide))
      refine fw_iload (pc := 41) X dX2_search_41 0 rfl ?_
      refine fw_if_ne (pc := 43) (tgt := 50) X dX2_search_43 (by decide) (fun q => absurd (by decide) q) (fun _ => ?_)
      refine fw_iconst (pc := 46) (v := 2) X dX2_search_46 (by decide) ?_
      refine fw_goto (pc := 47) (tgt := 65) X dX2_search_47 (by decide) ?_
      refine fw_callV (pc := 65) (n := 1) (C := (RX2, TX2, 21)) (ci := 2) (q0 := 0) X hE [.int 2] (ct_X2_isFine 2) (by decide) gX2_search_X2_isFine rfl ⟨rfl, rfl⟩ ⟨rfl, dsc_X2_isFine⟩ ⟨Nat.le_of_ble_eq_true rfl, Nat.le_of_ble_eq_true rfl⟩ rfl M_obj rfl rfl (Nat.le_of_ble_eq_true rfl) dX2_search_65 ⟨Nat.le_of_ble_eq_true rfl, Nat.le_of_ble_eq_true rfl⟩ (fun _ q => q.elim) (fun r0 u0 r_12 => ?_)
      subst r_12
      show fw_W _ _ _ _ _ _ _ _ _ _ _ _ _ _ _ _ _ _ _ (.int (b2i (2 = 0)) :: _)
      refine fw_iv (y := 0) (if_neg (by decide)) ?_
      refine fw_if_ne (pc := 68) (tgt := 73) X dX2_search_68 (by decide) (fun q => absurd (by decide) q) (fun _ => ?_)
      refine fw_iconst (pc := 71) (v := 0) X dX2_search_71 (by decide) ?_
      exact fw_iret (pc := 72) X hr hlk (Nat.le_of_ble_eq_true rfl) (Nat.le_of_ble_eq_true rfl) dX2_search_72 () (by simp [m_sch_v, m_sch_G, m_sch_k, m_sch_p, upd, c_2, c_4]) (by simp [m_sch_v, m_sch_G, m_sch_k, m_sch_p, upd, c_2, c_4])
  · refine fw_iv (y := 0) (if_neg c_2) ?_
    refine fw_istore (pc := 5) (lv' := [(4, .int 0), (0, .ref (a 0)), (1, .int u), (2, .int v), (3, .int x)]) X dX2_search_5 (by decide) rfl ?_
    refine fw_iload_n (pc := 7) X dX2_search_7 rfl 3 rfl ?_
    refine fw_callS (pc := 8) (n := 1) X hE [.int v] (ct_X2_isSort v) (by decide) gX2_search_X2_isSort rfl ⟨rfl, rfl⟩ dsc_X2_isSort ⟨Nat.le_of_ble_eq_true rfl, Nat.le_of_ble_eq_true rfl⟩ rfl rfl (Nat.le_of_ble_eq_true rfl) dX2_search_8 ⟨Nat.le_of_ble_eq_true rfl, Nat.le_of_ble_eq_true rfl⟩ (fun _ q => q.elim) (fun r0 u0 r_13 => ?_)
    subst r_13
    show fw_W _ _ _ _ _ _ _ _ _ _ _ _ _ _ _ _ _ _ _ (.int (b2i (m_in v 0 5 = true)) :: _)
    by_cases c_14 : m_in v 0 5 = true
    · obtain ⟨hx_v, hl_v⟩ := in_ix (h := 5) (N := 6) (by decide) (by decide) c_14
      refine fw_iv (y := 1) (if_pos c_14) ?_
      refine fw_if_eq (pc := 11) (tgt := 28) X dX2_search_11 (by decide) (fun q => absurd q (by decide)) (fun _ => ?_)
      refine fw_iload_n (pc := 14) X dX2_search_14 rfl 4 rfl ?_
      refine fw_iconst (pc := 15) (v := 0) X dX2_search_15 (by decide) ?_
      refine fw_bipush (pc := 16) (v := 100) X dX2_search_16 (by decide) ?_
      refine fw_callS (pc := 18) (n := 3) X hE [.int x, .int 0, .int 100] (ct_X2_isIn x 0 100) (by decide) gX2_search_X2_isIn rfl ⟨rfl, rfl⟩ dsc_X2_isIn ⟨Nat.le_of_ble_eq_true rfl, Nat.le_of_ble_eq_true rfl⟩ rfl rfl (Nat.le_of_ble_eq_true rfl) dX2_search_18 ⟨Nat.le_of_ble_eq_true rfl, Nat.le_of_ble_eq_true rfl⟩ (fun _ q => q.elim) (fun r0 u0 r_15 => ?_)
      subst r_15
      show fw_W _ _ _ _ _ _ _ _ _ _ _ _ _ _ _ _ _ _ _ (.int (b2i (m_in x 0 100 = true)) :: _)
      by_cases c_16 : m_in x 0 100 = true
      · obtain ⟨hx_x, hl_x⟩ := in_ix (h := 100) (N := 101) (by decide) (by decide) c_16
        refine fw_iv (y := 1) (if_pos c_16) ?_
        refine fw_if_eq (pc := 21) (tgt := 28) X dX2_search_21 (by decide) (fun q => absurd q (by decide)) (fun _ => ?_)
        refine fw_iconst (pc := 24) (v := 1) X dX2_search_24 (by decide) ?_
        refine fw_goto (pc := 25) (tgt := 29) X dX2_search_25 (by decide) ?_
        refine fw_istore (pc := 29) (lv' := [(5, .int 1), (4, .int 0), (0, .ref (a 0)), (1, .int u), (2, .int v), (3, .int x)]) X dX2_search_29 (by decide) rfl ?_
        refine fw_aload_n (pc := 31) X dX2_search_31 rfl 2 rfl ?_
        refine fw_iload (pc := 32) X dX2_search_32 1 rfl ?_
        refine fw_if_ne (pc := 34) (tgt := 41) X dX2_search_34 (by decide) (fun q => absurd (by decide) q) (fun _ => ?_)
        refine fw_iconst (pc := 37) (v := 1) X dX2_search_37 (by decide) ?_
        refine fw_goto (pc := 38) (tgt := 65) X dX2_search_38 (by decide) ?_
        refine fw_callV (pc := 65) (n := 1) (C := (RX2, TX2, 21)) (ci := 2) (q0 := 0) X hE [.int 1] (ct_X2_isFine 1) (by decide) gX2_search_X2_isFine rfl ⟨rfl, rfl⟩ ⟨rfl, dsc_X2_isFine⟩ ⟨Nat.le_of_ble_eq_true rfl, Nat.le_of_ble_eq_true rfl⟩ rfl M_obj rfl rfl (Nat.le_of_ble_eq_true rfl) dX2_search_65 ⟨Nat.le_of_ble_eq_true rfl, Nat.le_of_ble_eq_true rfl⟩ (fun _ q => q.elim) (fun r0 u0 r_17 => ?_)
        subst r_17
        show fw_W _ _ _ _ _ _ _ _ _ _ _ _ _ _ _ _ _ _ _ (.int (b2i (1 = 0)) :: _)
        refine fw_iv (y := 0) (if_neg (by decide)) ?_
        refine fw_if_ne (pc := 68) (tgt := 73) X dX2_search_68 (by decide) (fun q => absurd (by decide) q) (fun _ => ?_)
        refine fw_iconst (pc := 71) (v := 0) X dX2_search_71 (by decide) ?_
        exact fw_iret (pc := 72) X hr hlk (Nat.le_of_ble_eq_true rfl) (Nat.le_of_ble_eq_true rfl) dX2_search_72 () (by simp [m_sch_v, m_sch_G, m_sch_k, m_sch_p, upd, c_2, c_14, c_16]) (by simp [m_sch_v, m_sch_G, m_sch_k, m_sch_p, upd, c_2, c_14, c_16])
      · refine fw_iv (y := 0) (if_neg c_16) ?_
        refine fw_if_eq (pc := 21) (tgt := 28) X dX2_search_21 (by decide) (fun _ => ?_) (fun q => absurd (by decide) q)
        refine fw_iconst (pc := 28) (v := 0) X dX2_search_28 (by decide) ?_
        refine fw_istore (pc := 29) (lv' := [(5, .int 0), (4, .int 0), (0, .ref (a 0)), (1, .int u), (2, .int v), (3, .int x)]) X dX2_search_29 (by decide) rfl ?_
        refine fw_aload_n (pc := 31) X dX2_search_31 rfl 2 rfl ?_
        refine fw_iload (pc := 32) X dX2_search_32 1 rfl ?_
        refine fw_if_ne (pc := 34) (tgt := 41) X dX2_search_34 (by decide) (fun q => absurd (by decide) q) (fun _ => ?_)
        refine fw_iconst (pc := 37) (v := 1) X dX2_search_37 (by decide) ?_
        refine fw_goto (pc := 38) (tgt := 65) X dX2_search_38 (by decide) ?_
        refine fw_callV (pc := 65) (n := 1) (C := (RX2, TX2, 21)) (ci := 2) (q0 := 0) X hE [.int 1] (ct_X2_isFine 1) (by decide) gX2_search_X2_isFine rfl ⟨rfl, rfl⟩ ⟨rfl, dsc_X2_isFine⟩ ⟨Nat.le_of_ble_eq_true rfl, Nat.le_of_ble_eq_true rfl⟩ rfl M_obj rfl rfl (Nat.le_of_ble_eq_true rfl) dX2_search_65 ⟨Nat.le_of_ble_eq_true rfl, Nat.le_of_ble_eq_true rfl⟩ (fun _ q => q.elim) (fun r0 u0 r_18 => ?_)
        subst r_18
        show fw_W _ _ _ _ _ _ _ _ _ _ _ _ _ _ _ _ _ _ _ (.int (b2i (1 = 0)) :: _)
        refine fw_iv (y := 0) (if_neg (by decide)) ?_
        refine fw_if_ne (pc := 68) (tgt := 73) X dX2_search_68 (by decide) (fun q => absurd (by decide) q) (fun _ => ?_)
        refine fw_iconst (pc := 71) (v := 0) X dX2_search_71 (by decide) ?_
        exact fw_iret (pc := 72) X hr hlk (Nat.le_of_ble_eq_true rfl) (Nat.le_of_ble_eq_true rfl) dX2_search_72 () (by simp [m_sch_v, m_sch_G, m_sch_k, m_sch_p, upd, c_2, c_14, c_16]) (by simp [m_sch_v, m_sch_G, m_sch_k, m_sch_p, upd, c_2, c_14, c_16])
    · refine fw_iv (y := 0) (if_neg c_14) ?_
      refine fw_if_eq (pc := 11) (tgt := 28) X dX2_search_11 (by decide) (fun _ => ?_) (fun q => absurd (by decide) q)
      refine fw_iconst (pc := 28) (v := 0) X dX2_search_28 (by decide) ?_
      refine fw_istore (pc := 29) (lv' := [(5, .int 0), (4, .int 0), (0, .ref (a 0)), (1, .int u), (2, .int v), (3, .int x)]) X dX2_search_29 (by decide) rfl ?_
      refine fw_aload_n (pc := 31) X dX2_search_31 rfl 2 rfl ?_
      refine fw_iload (pc := 32) X dX2_search_32 1 rfl ?_
      refine fw_if_ne (pc := 34) (tgt := 41) X dX2_search_34 (by decide) (fun q => absurd (by decide) q) (fun _ => ?_)
      refine fw_iconst (pc := 37) (v := 1) X dX2_search_37 (by decide) ?_
      refine fw_goto (pc := 38) (tgt := 65) X dX2_search_38 (by decide) ?_
      refine fw_callV (pc := 65) (n := 1) (C := (RX2, TX2, 21)) (ci := 2) (q0 := 0) X hE [.int 1] (ct_X2_isFine 1) (by decide) gX2_search_X2_isFine rfl ⟨rfl, rfl⟩ ⟨rfl, dsc_X2_isFine⟩ ⟨Nat.le_of_ble_eq_true rfl, Nat.le_of_ble_eq_true rfl⟩ rfl M_obj rfl rfl (Nat.le_of_ble_eq_true rfl) dX2_search_65 ⟨Nat.le_of_ble_eq_true rfl, Nat.le_of_ble_eq_true rfl⟩ (fun _ q => q.elim) (fun r0 u0 r_19 => ?_)
      subst r_19
      show fw_W _ _ _ _ _ _ _ _ _ _ _ _ _ _ _ _ _ _ _ (.int (b2i (1 = 0)) :: _)
      refine fw_iv (y := 0) (if_neg (by decide)) ?_
      refine fw_if_ne (pc := 68) (tgt := 73) X dX2_search_68 (by decide) (fun q => absurd (by decide) q) (fun _ => ?_)
      refine fw_iconst (pc := 71) (v := 0) X dX2_search_71 (by decide) ?_
      exact fw_iret (pc := 72) X hr hlk (Nat.le_of_ble_eq_true rfl) (Nat.le_of_ble_eq_true rfl) dX2_search_72 () (by simp [m_sch_v, m_sch_G, m_sch_k, m_sch_p, upd, c_2, c_14]) (by simp [m_sch_v, m_sch_G, m_sch_k, m_sch_p, upd, c_2, c_14])
theorem kX2_state_35 : Cond.fieldLink RX2 35 (TX2 10).1 (TX2 10).2.1 (TX2 10).2.2.1 ∈ wsX2_state := by decide +kernel
set_option maxRecDepth 20000 in
theorem iX2_state_X2 : ∀ w ∈ wsX20, w ∈ wsX2_state := by decide +kernel
theorem dsc_X2_state : fw_dsc yX2_state 1 := by decide +kernel
set_option maxHeartbeats 4000000 in
set_option maxRecDepth 100000 in
theorem ct_X2_state {l : Launch} {D : va_G} {K : Nat → ClassId} {a : Nat → Nat} {F : Nat → Int32} {G : Nat → Nat → Int32} (u : Int32) {n : Nat} (hn : F 19 = nI n) (hn15 : n ≤ 15) : fw_C (S := Unit) l yX2_state wsX2_state ({ frames := 2, cells := 0, slots := 0, locals := 43 }) 0 0 false [.ref (a 0), .int u] D (tyS K) (MW K a F G) (fun r _ => r = some (.int (m_sta_v F G u))) (fun _ => MW K a (upd F 0 (m_c_k F u)) G) (fun _ => False) := by
  refine fw_met (maxL := 2) (ret := (some .int)) (by decide) rfl (Nat.le_of_ble_eq_true rfl) ?_
  intro p e s m args below meth c A X hr hlk hnm htab hE
  refine fw_lv (lv' := [(0, .ref (a 0)), (1, .int u)]) [0, 1] rfl ?_
  refine fw_aload_n (pc := 0) X dX2_state_0 rfl 0 rfl ?_
  refine fw_aload_n (pc := 1) X dX2_state_1 rfl 0 rfl ?_
  refine fw_iload_n (pc := 2) X dX2_state_2 rfl 1 rfl ?_
  refine fw_callV (pc := 3) (n := 1) (C := (RX2, TX2, 21)) (ci := 2) (q0 := 0) X hE [.int u] (ct_X2_isConsignment u) (by decide) gX2_state_X2_isConsignment rfl ⟨rfl, rfl⟩ ⟨rfl, dsc_X2_isConsignment⟩ ⟨Nat.le_of_ble_eq_true rfl, Nat.le_of_ble_eq_true rfl⟩ rfl M_obj rfl rfl (Nat.le_of_ble_eq_true rfl) dX2_state_3 ⟨Nat.le_of_ble_eq_true rfl, Nat.le_of_ble_eq_true rfl⟩ (fun _ q => q.elim) (fun r0 u0 r_1 => ?_)
  subst r_1
  show fw_W _ _ _ _ _ _ _ _ _ _ _ _ _ _ _ _ _ _ _ (.int (b2i (m_in u 0 (F 19 - 1) = true)) :: _)
  by_cases c_2 : m_in u 0 (F 19 - 1) = true
  · obtain ⟨hx_u, hl_u⟩ := in_con hn15 (by rw [← hn]; exact c_2)
    refine fw_iv (y := 1) (if_pos c_2) ?_
    refine fw_if_eq (pc := 6) (tgt := 13) X dX2_state_6 (by decide) (fun q => absurd q (by decide)) (fun _ => ?_)
    refine fw_iconst (pc := 9) (v := 0) X dX2_state_9 (by decide) ?_
    refine fw_goto (pc := 10) (tgt := 14) X dX2_state_10 (by decide) ?_
    refine fw_callV (pc := 14) (n := 1) (C := (RX2, TX2, 21)) (ci := 2) (q0 := 0) X hE [.int 0] (ct_X2_isFine 0) (by decide) gX2_state_X2_isFine rfl ⟨rfl, rfl⟩ ⟨rfl, dsc_X2_isFine⟩ ⟨Nat.le_of_ble_eq_true rfl, Nat.le_of_ble_eq_true rfl⟩ rfl M_obj rfl rfl (Nat.le_of_ble_eq_true rfl) dX2_state_14 ⟨Nat.le_of_ble_eq_true rfl, Nat.le_of_ble_eq_true rfl⟩ (fun _ q => q.elim) (fun r0 u0 r_3 => ?_)
    subst r_3
    show fw_W _ _ _ _ _ _ _ _ _ _ _ _ _ _ _ _ _ _ _ (.int (b2i (0 = 0)) :: _)
    refine fw_iv (y := 1) (if_pos (by decide)) ?_
    refine fw_if_eq (pc := 17) (tgt := 29) X dX2_state_17 (by decide) (fun q => absurd q (by decide)) (fun _ => ?_)
    refine fw_aload_n (pc := 20) X dX2_state_20 rfl 0 rfl ?_
    refine fw_get (pc := 21) (v := .ref (a 10)) X iX2_state_X2 0 M_obj rfl 10 (by decide) kX2_state_35 rfl dX2_state_21 ?_
    refine fw_iload_n (pc := 24) X dX2_state_24 rfl 1 rfl ?_
    refine fw_iald (pc := 25) (f := G 10) X 8 0 (M_g10 (G := G)) rfl (ix u) hx_u (by omega) (by decide) dX2_state_25 ?_
    refine fw_goto (pc := 26) (tgt := 30) X dX2_state_26 (by decide) ?_
    exact fw_iret (pc := 30) X hr hlk (Nat.le_of_ble_eq_true rfl) (Nat.le_of_ble_eq_true rfl) dX2_state_30 () (by simp [m_sta_v, m_c_k, c_2]) (by simp [m_sta_v, m_c_k, c_2])
  · refine fw_iv (y := 0) (if_neg c_2) ?_
    refine fw_if_eq (pc := 6) (tgt := 13) X dX2_state_6 (by decide) (fun _ => ?_) (fun q => absurd (by decide) q)
    refine fw_iconst (pc := 13) (v := 1) X dX2_state_13 (by decide) ?_
    refine fw_callV (pc := 14) (n := 1) (C := (RX2, TX2, 21)) (ci := 2) (q0 := 0) X hE [.int 1] (ct_X2_isFine 1) (by decide) gX2_state_X2_isFine rfl ⟨rfl, rfl⟩ ⟨rfl, dsc_X2_isFine⟩ ⟨Nat.le_of_ble_eq_true rfl, Nat.le_of_ble_eq_true rfl⟩ rfl M_obj rfl rfl (Nat.le_of_ble_eq_true rfl) dX2_state_14 ⟨Nat.le_of_ble_eq_true rfl, Nat.le_of_ble_eq_true rfl⟩ (fun _ q => q.elim) (fun r0 u0 r_4 => ?_)
    subst r_4
    show fw_W _ _ _ _ _ _ _ _ _ _ _ _ _ _ _ _ _ _ _ (.int (b2i (1 = 0)) :: _)
    refine fw_iv (y := 0) (if_neg (by decide)) ?_
    refine fw_if_eq (pc := 17) (tgt := 29) X dX2_state_17 (by decide) (fun _ => ?_) (fun q => absurd (by decide) q)
    refine fw_iconst (pc := 29) (v := 0) X dX2_state_29 (by decide) ?_
    exact fw_iret (pc := 30) X hr hlk (Nat.le_of_ble_eq_true rfl) (Nat.le_of_ble_eq_true rfl) dX2_state_30 () (by simp [m_sta_v, m_c_k, c_2]) (by simp [m_sta_v, m_c_k, c_2])
theorem kX2_manifest_54 : Cond.fieldLink RX2 54 (TX2 16).1 (TX2 16).2.1 (TX2 16).2.2.1 ∈ wsX2_manifest := by decide +kernel
set_option maxRecDepth 20000 in
theorem iX2_manifest_X2 : ∀ w ∈ wsX20, w ∈ wsX2_manifest := by decide +kernel
theorem dsc_X2_manifest : fw_dsc yX2_manifest 2 := by decide +kernel
set_option maxHeartbeats 4000000 in
set_option maxRecDepth 100000 in
theorem ct_X2_manifest {l : Launch} {D : va_G} {K : Nat → ClassId} {a : Nat → Nat} {F : Nat → Int32} {G : Nat → Nat → Int32} (u v : Int32) {n : Nat} (hn : F 19 = nI n) (hn15 : n ≤ 15) : fw_C (S := Unit) l yX2_manifest wsX2_manifest ({ frames := 2, cells := 0, slots := 0, locals := 43 }) 0 0 false [.ref (a 0), .int u, .int v] D (tyS K) (MW K a F G) (fun r _ => r = some (.int (m_man_v F G u v))) (fun _ => MW K a (upd F 0 (m_man_k F u v)) G) (fun _ => False) := by
  refine fw_met (maxL := 4) (ret := (some .int)) (by decide) rfl (Nat.le_of_ble_eq_true rfl) ?_
  intro p e s m args below meth c A X hr hlk hnm htab hE
  refine fw_lv (lv' := [(0, .ref (a 0)), (1, .int u), (2, .int v)]) [0, 1, 2] rfl ?_
  refine fw_aload_n (pc := 0) X dX2_manifest_0 rfl 0 rfl ?_
  refine fw_iload_n (pc := 1) X dX2_manifest_1 rfl 1 rfl ?_
  refine fw_callV (pc := 2) (n := 1) (C := (RX2, TX2, 21)) (ci := 2) (q0 := 0) X hE [.int u] (ct_X2_isConsignment u) (by decide) gX2_manifest_X2_isConsignment rfl ⟨rfl, rfl⟩ ⟨rfl, dsc_X2_isConsignment⟩ ⟨Nat.le_of_ble_eq_true rfl, Nat.le_of_ble_eq_true rfl⟩ rfl M_obj rfl rfl (Nat.le_of_ble_eq_true rfl) dX2_manifest_2 ⟨Nat.le_of_ble_eq_true rfl, Nat.le_of_ble_eq_true rfl⟩ (fun _ q => q.elim) (fun r0 u0 r_1 => ?_)
  subst r_1
  show fw_W _ _ _ _ _ _ _ _ _ _ _ _ _ _ _ _ _ _ _ (.int (b2i (m_in u 0 (F 19 - 1) = true)) :: _)
  by_cases c_2 : m_in u 0 (F 19 - 1) = true
  · obtain ⟨hx_u, hl_u⟩ := in_con hn15 (by rw [← hn]; exact c_2)
    refine fw_iv (y := 1) (if_pos c_2) ?_
    refine fw_istore_n (pc := 5) (lv' := [(3, .int 1), (0, .ref (a 0)), (1, .int u), (2, .int v)]) X dX2_manifest_5 rfl (by decide) rfl ?_
    refine fw_aload_n (pc := 6) X dX2_manifest_6 rfl 1 rfl ?_
    refine fw_iload_n (pc := 7) X dX2_manifest_7 rfl 0 rfl ?_
    refine fw_if_ne (pc := 8) (tgt := 15) X dX2_manifest_8 (by decide) (fun _ => ?_) (fun q => absurd q (by decide))
    refine fw_iload_n (pc := 15) X dX2_manifest_15 rfl 3 rfl ?_
    refine fw_callS (pc := 16) (n := 1) X hE [.int v] (ct_X2_isSort v) (by decide) gX2_manifest_X2_isSort rfl ⟨rfl, rfl⟩ dsc_X2_isSort ⟨Nat.le_of_ble_eq_true rfl, Nat.le_of_ble_eq_true rfl⟩ rfl rfl (Nat.le_of_ble_eq_true rfl) dX2_manifest_16 ⟨Nat.le_of_ble_eq_true rfl, Nat.le_of_ble_eq_true rfl⟩ (fun _ q => q.elim) (fun r0 u0 r_3 => ?_)
    subst r_3
    show fw_W _ _ _ _ _ _ _ _ _ _ _ _ _ _ _ _ _ _ _ (.int (b2i (m_in v 0 5 = true)) :: _)
    by_cases c_4 : m_in v 0 5 = true
    · obtain ⟨hx_v, hl_v⟩ := in_ix (h := 5) (N := 6) (by decide) (by decide) c_4
      refine fw_iv (y := 1) (if_pos c_4) ?_
      refine fw_if_ne (pc := 19) (tgt := 26) X dX2_manifest_19 (by decide) (fun _ => ?_) (fun q => absurd q (by decide))
      refine fw_iconst (pc := 26) (v := 0) X dX2_manifest_26 (by decide) ?_
      refine fw_callV (pc := 27) (n := 1) (C := (RX2, TX2, 21)) (ci := 2) (q0 := 0) X hE [.int 0] (ct_X2_isFine 0) (by decide) gX2_manifest_X2_isFine rfl ⟨rfl, rfl⟩ ⟨rfl, dsc_X2_isFine⟩ ⟨Nat.le_of_ble_eq_true rfl, Nat.le_of_ble_eq_true rfl⟩ rfl M_obj rfl rfl (Nat.le_of_ble_eq_true rfl) dX2_manifest_27 ⟨Nat.le_of_ble_eq_true rfl, Nat.le_of_ble_eq_true rfl⟩ (fun _ q => q.elim) (fun r0 u0 r_5 => ?_)
      subst r_5
      show fw_W _ _ _ _ _ _ _ _ _ _ _ _ _ _ _ _ _ _ _ (.int (b2i (0 = 0)) :: _)
      refine fw_iv (y := 1) (if_pos (by decide)) ?_
      refine fw_if_eq (pc := 30) (tgt := 47) X dX2_manifest_30 (by decide) (fun q => absurd q (by decide)) (fun _ => ?_)
      refine fw_aload_n (pc := 33) X dX2_manifest_33 rfl 1 rfl ?_
      refine fw_get (pc := 34) (v := .ref (a 16)) X iX2_manifest_X2 0 M_obj rfl 16 (by decide) kX2_manifest_54 rfl dX2_manifest_34 ?_
      refine fw_bipush (pc := 37) (v := 6) X dX2_manifest_37 (by decide) ?_
      refine fw_iload_n (pc := 39) X dX2_manifest_39 rfl 2 rfl ?_
      refine fw_imul (pc := 40) X dX2_manifest_40 ?_
      refine fw_iload_n (pc := 41) X dX2_manifest_41 rfl 3 rfl ?_
      refine fw_iadd (pc := 42) X dX2_manifest_42 ?_
      refine fw_iald (pc := 43) (f := G 16) X 14 0 (M_g16 (G := G)) rfl ((6 * (ix u)) + (ix v)) (nf_add (nf_mul rfl hx_u) hx_v) (by omega) (by decide) dX2_manifest_43 ?_
      refine fw_goto (pc := 44) (tgt := 48) X dX2_manifest_44 (by decide) ?_
      exact fw_iret (pc := 48) X hr hlk (Nat.le_of_ble_eq_true rfl) (Nat.le_of_ble_eq_true rfl) dX2_manifest_48 () (by simp [m_man_v, m_man_k, c_2, c_4]) (by simp [m_man_v, m_man_k, c_2, c_4])
    · refine fw_iv (y := 0) (if_neg c_4) ?_
      refine fw_if_ne (pc := 19) (tgt := 26) X dX2_manifest_19 (by decide) (fun q => absurd (by decide) q) (fun _ => ?_)
      refine fw_iconst (pc := 22) (v := 2) X dX2_manifest_22 (by decide) ?_
      refine fw_goto (pc := 23) (tgt := 27) X dX2_manifest_23 (by decide) ?_
      refine fw_callV (pc := 27) (n := 1) (C := (RX2, TX2, 21)) (ci := 2) (q0 := 0) X hE [.int 2] (ct_X2_isFine 2) (by decide) gX2_manifest_X2_isFine rfl ⟨rfl, rfl⟩ ⟨rfl, dsc_X2_isFine⟩ ⟨Nat.le_of_ble_eq_true rfl, Nat.le_of_ble_eq_true rfl⟩ rfl M_obj rfl rfl (Nat.le_of_ble_eq_true rfl) dX2_manifest_27 ⟨Nat.le_of_ble_eq_true rfl, Nat.le_of_ble_eq_true rfl⟩ (fun _ q => q.elim) (fun r0 u0 r_6 => ?_)
      subst r_6
      show fw_W _ _ _ _ _ _ _ _ _ _ _ _ _ _ _ _ _ _ _ (.int (b2i (2 = 0)) :: _)
      refine fw_iv (y := 0) (if_neg (by decide)) ?_
      refine fw_if_eq (pc := 30) (tgt := 47) X dX2_manifest_30 (by decide) (fun _ => ?_) (fun q => absurd (by decide) q)
      refine fw_iconst (pc := 47) (v := 0) X dX2_manifest_47 (by decide) ?_
      exact fw_iret (pc := 48) X hr hlk (Nat.le_of_ble_eq_true rfl) (Nat.le_of_ble_eq_true rfl) dX2_manifest_48 () (by simp [m_man_v, m_man_k, c_2, c_4]) (by simp [m_man_v, m_man_k, c_2, c_4])
  · refine fw_iv (y := 0) (if_neg c_2) ?_
    refine fw_istore_n (pc := 5) (lv' := [(3, .int 0), (0, .ref (a 0)), (1, .int u), (2, .int v)]) X dX2_manifest_5 rfl (by decide) rfl ?_
    refine fw_aload_n (pc := 6) X dX2_manifest_6 rfl 1 rfl ?_
    refine fw_iload_n (pc := 7) X dX2_manifest_7 rfl 0 rfl ?_
    refine fw_if_ne (pc := 8) (tgt := 15) X dX2_manifest_8 (by decide) (fun q => absurd (by decide) q) (fun _ => ?_)
    refine fw_iconst (pc := 11) (v := 1) X dX2_manifest_11 (by decide) ?_
    refine fw_goto (pc := 12) (tgt := 27) X dX2_manifest_12 (by decide) ?_
    refine fw_callV (pc := 27) (n := 1) (C := (RX2, TX2, 21)) (ci := 2) (q0 := 0) X hE [.int 1] (ct_X2_isFine 1) (by decide) gX2_manifest_X2_isFine rfl ⟨rfl, rfl⟩ ⟨rfl, dsc_X2_isFine⟩ ⟨Nat.le_of_ble_eq_true rfl, Nat.le_of_ble_eq_true rfl⟩ rfl M_obj rfl rfl (Nat.le_of_ble_eq_true rfl) dX2_manifest_27 ⟨Nat.le_of_ble_eq_true rfl, Nat.le_of_ble_eq_true rfl⟩ (fun _ q => q.elim) (fun r0 u0 r_7 => ?_)
    subst r_7
    show fw_W _ _ _ _ _ _ _ _ _ _ _ _ _ _ _ _ _ _ _ (.int (b2i (1 = 0)) :: _)
    refine fw_iv (y := 0) (if_neg (by decide)) ?_
    refine fw_if_eq (pc := 30) (tgt := 47) X dX2_manifest_30 (by decide) (fun _ => ?_) (fun q => absurd (by decide) q)
    refine fw_iconst (pc := 47) (v := 0) X dX2_manifest_47 (by decide) ?_
    exact fw_iret (pc := 48) X hr hlk (Nat.le_of_ble_eq_true rfl) (Nat.le_of_ble_eq_true rfl) dX2_manifest_48 () (by simp [m_man_v, m_man_k, c_2]) (by simp [m_man_v, m_man_k, c_2])
theorem kX2_held_23 : Cond.fieldLink RX2 23 (TX2 6).1 (TX2 6).2.1 (TX2 6).2.2.1 ∈ wsX2_held := by decide +kernel
set_option maxRecDepth 20000 in
theorem iX2_held_X2 : ∀ w ∈ wsX20, w ∈ wsX2_held := by decide +kernel
theorem dsc_X2_held : fw_dsc yX2_held 1 := by decide +kernel
set_option maxHeartbeats 4000000 in
set_option maxRecDepth 100000 in
theorem ct_X2_held {l : Launch} {D : va_G} {K : Nat → ClassId} {a : Nat → Nat} {F : Nat → Int32} {G : Nat → Nat → Int32} (v : Int32) : fw_C (S := Unit) l yX2_held wsX2_held ({ frames := 2, cells := 0, slots := 0, locals := 42 }) 0 0 false [.ref (a 0), .int v] D (tyS K) (MW K a F G) (fun r _ => r = some (.int (m_tr_v G 6 v))) (fun _ => MW K a (upd F 0 (m_tr_k v)) G) (fun _ => False) := by
  refine fw_met (maxL := 2) (ret := (some .int)) (by decide) rfl (Nat.le_of_ble_eq_true rfl) ?_
  intro p e s m args below meth c A X hr hlk hnm htab hE
  refine fw_lv (lv' := [(0, .ref (a 0)), (1, .int v)]) [0, 1] rfl ?_
  refine fw_aload_n (pc := 0) X dX2_held_0 rfl 0 rfl ?_
  refine fw_iload_n (pc := 1) X dX2_held_1 rfl 1 rfl ?_
  refine fw_callS (pc := 2) (n := 1) X hE [.int v] (ct_X2_isTrader v) (by decide) gX2_held_X2_isTrader rfl ⟨rfl, rfl⟩ dsc_X2_isTrader ⟨Nat.le_of_ble_eq_true rfl, Nat.le_of_ble_eq_true rfl⟩ rfl rfl (Nat.le_of_ble_eq_true rfl) dX2_held_2 ⟨Nat.le_of_ble_eq_true rfl, Nat.le_of_ble_eq_true rfl⟩ (fun _ q => q.elim) (fun r0 u0 r_1 => ?_)
  subst r_1
  show fw_W _ _ _ _ _ _ _ _ _ _ _ _ _ _ _ _ _ _ _ (.int (b2i (m_in v 0 3 = true)) :: _)
  by_cases c_2 : m_in v 0 3 = true
  · obtain ⟨hx_v, hl_v⟩ := in_ix (h := 3) (N := 4) (by decide) (by decide) c_2
    refine fw_iv (y := 1) (if_pos c_2) ?_
    refine fw_if_eq (pc := 5) (tgt := 12) X dX2_held_5 (by decide) (fun q => absurd q (by decide)) (fun _ => ?_)
    refine fw_iconst (pc := 8) (v := 0) X dX2_held_8 (by decide) ?_
    refine fw_goto (pc := 9) (tgt := 13) X dX2_held_9 (by decide) ?_
    refine fw_callV (pc := 13) (n := 1) (C := (RX2, TX2, 21)) (ci := 2) (q0 := 0) X hE [.int 0] (ct_X2_isFine 0) (by decide) gX2_held_X2_isFine rfl ⟨rfl, rfl⟩ ⟨rfl, dsc_X2_isFine⟩ ⟨Nat.le_of_ble_eq_true rfl, Nat.le_of_ble_eq_true rfl⟩ rfl M_obj rfl rfl (Nat.le_of_ble_eq_true rfl) dX2_held_13 ⟨Nat.le_of_ble_eq_true rfl, Nat.le_of_ble_eq_true rfl⟩ (fun _ q => q.elim) (fun r0 u0 r_3 => ?_)
    subst r_3
    show fw_W _ _ _ _ _ _ _ _ _ _ _ _ _ _ _ _ _ _ _ (.int (b2i (0 = 0)) :: _)
    refine fw_iv (y := 1) (if_pos (by decide)) ?_
    refine fw_if_eq (pc := 16) (tgt := 28) X dX2_held_16 (by decide) (fun q => absurd q (by decide)) (fun _ => ?_)
    refine fw_aload_n (pc := 19) X dX2_held_19 rfl 0 rfl ?_
    refine fw_get (pc := 20) (v := .ref (a 6)) X iX2_held_X2 0 M_obj rfl 6 (by decide) kX2_held_23 rfl dX2_held_20 ?_
    refine fw_iload_n (pc := 23) X dX2_held_23 rfl 1 rfl ?_
    refine fw_iald (pc := 24) (f := G 6) X 4 0 (M_g6 (G := G)) rfl (ix v) hx_v (by omega) (by decide) dX2_held_24 ?_
    refine fw_goto (pc := 25) (tgt := 29) X dX2_held_25 (by decide) ?_
    exact fw_iret (pc := 29) X hr hlk (Nat.le_of_ble_eq_true rfl) (Nat.le_of_ble_eq_true rfl) dX2_held_29 () (by simp [m_tr_v, m_tr_k, c_2]) (by simp [m_tr_v, m_tr_k, c_2])
  · refine fw_iv (y := 0) (if_neg c_2) ?_
    refine fw_if_eq (pc := 5) (tgt := 12) X dX2_held_5 (by decide) (fun _ => ?_) (fun q => absurd (by decide) q)
    refine fw_iconst (pc := 12) (v := 1) X dX2_held_12 (by decide) ?_
    refine fw_callV (pc := 13) (n := 1) (C := (RX2, TX2, 21)) (ci := 2) (q0 := 0) X hE [.int 1] (ct_X2_isFine 1) (by decide) gX2_held_X2_isFine rfl ⟨rfl, rfl⟩ ⟨rfl, dsc_X2_isFine⟩ ⟨Nat.le_of_ble_eq_true rfl, Nat.le_of_ble_eq_true rfl⟩ rfl M_obj rfl rfl (Nat.le_of_ble_eq_true rfl) dX2_held_13 ⟨Nat.le_of_ble_eq_true rfl, Nat.le_of_ble_eq_true rfl⟩ (fun _ q => q.elim) (fun r0 u0 r_4 => ?_)
    subst r_4
    show fw_W _ _ _ _ _ _ _ _ _ _ _ _ _ _ _ _ _ _ _ (.int (b2i (1 = 0)) :: _)
    refine fw_iv (y := 0) (if_neg (by decide)) ?_
    refine fw_if_eq (pc := 16) (tgt := 28) X dX2_held_16 (by decide) (fun _ => ?_) (fun q => absurd (by decide) q)
    refine fw_iconst (pc := 28) (v := 0) X dX2_held_28 (by decide) ?_
    exact fw_iret (pc := 29) X hr hlk (Nat.le_of_ble_eq_true rfl) (Nat.le_of_ble_eq_true rfl) dX2_held_29 () (by simp [m_tr_v, m_tr_k, c_2]) (by simp [m_tr_v, m_tr_k, c_2])
theorem kX2_paid_26 : Cond.fieldLink RX2 26 (TX2 7).1 (TX2 7).2.1 (TX2 7).2.2.1 ∈ wsX2_paid := by decide +kernel
set_option maxRecDepth 20000 in
theorem iX2_paid_X2 : ∀ w ∈ wsX20, w ∈ wsX2_paid := by decide +kernel
theorem dsc_X2_paid : fw_dsc yX2_paid 1 := by decide +kernel
set_option maxHeartbeats 4000000 in
set_option maxRecDepth 100000 in
theorem ct_X2_paid {l : Launch} {D : va_G} {K : Nat → ClassId} {a : Nat → Nat} {F : Nat → Int32} {G : Nat → Nat → Int32} (v : Int32) : fw_C (S := Unit) l yX2_paid wsX2_paid ({ frames := 2, cells := 0, slots := 0, locals := 42 }) 0 0 false [.ref (a 0), .int v] D (tyS K) (MW K a F G) (fun r _ => r = some (.int (m_tr_v G 7 v))) (fun _ => MW K a (upd F 0 (m_tr_k v)) G) (fun _ => False) := by
  refine fw_met (maxL := 2) (ret := (some .int)) (by decide) rfl (Nat.le_of_ble_eq_true rfl) ?_
  intro p e s m args below meth c A X hr hlk hnm htab hE
  refine fw_lv (lv' := [(0, .ref (a 0)), (1, .int v)]) [0, 1] rfl ?_
  refine fw_aload_n (pc := 0) X dX2_paid_0 rfl 0 rfl ?_
  refine fw_iload_n (pc := 1) X dX2_paid_1 rfl 1 rfl ?_
  refine fw_callS (pc := 2) (n := 1) X hE [.int v] (ct_X2_isTrader v) (by decide) gX2_paid_X2_isTrader rfl ⟨rfl, rfl⟩ dsc_X2_isTrader ⟨Nat.le_of_ble_eq_true rfl, Nat.le_of_ble_eq_true rfl⟩ rfl rfl (Nat.le_of_ble_eq_true rfl) dX2_paid_2 ⟨Nat.le_of_ble_eq_true rfl, Nat.le_of_ble_eq_true rfl⟩ (fun _ q => q.elim) (fun r0 u0 r_1 => ?_)
  subst r_1
  show fw_W _ _ _ _ _ _ _ _ _ _ _ _ _ _ _ _ _ _ _ (.int (b2i (m_in v 0 3 = true)) :: _)
  by_cases c_2 : m_in v 0 3 = true
  · obtain ⟨hx_v, hl_v⟩ := in_ix (h := 3) (N := 4) (by decide) (by decide) c_2
    refine fw_iv (y := 1) (if_pos c_2) ?_
    refine fw_if_eq (pc := 5) (tgt := 12) X dX2_paid_5 (by decide) (fun q => absurd q (by decide)) (fun _ => ?_)
    refine fw_iconst (pc := 8) (v := 0) X dX2_paid_8 (by decide) ?_
    refine fw_goto (pc := 9) (tgt := 13) X dX2_paid_9 (by decide) ?_
    refine fw_callV (pc := 13) (n := 1) (C := (RX2, TX2, 21)) (ci := 2) (q0 := 0) X hE [.int 0] (ct_X2_isFine 0) (by decide) gX2_paid_X2_isFine rfl ⟨rfl, rfl⟩ ⟨rfl, dsc_X2_isFine⟩ ⟨Nat.le_of_ble_eq_true rfl, Nat.le_of_ble_eq_true rfl⟩ rfl M_obj rfl rfl (Nat.le_of_ble_eq_true rfl) dX2_paid_13 ⟨Nat.le_of_ble_eq_true rfl, Nat.le_of_ble_eq_true rfl⟩ (fun _ q => q.elim) (fun r0 u0 r_3 => ?_)
    subst r_3
    show fw_W _ _ _ _ _ _ _ _ _ _ _ _ _ _ _ _ _ _ _ (.int (b2i (0 = 0)) :: _)
    refine fw_iv (y := 1) (if_pos (by decide)) ?_
    refine fw_if_eq (pc := 16) (tgt := 28) X dX2_paid_16 (by decide) (fun q => absurd q (by decide)) (fun _ => ?_)
    refine fw_aload_n (pc := 19) X dX2_paid_19 rfl 0 rfl ?_
    refine fw_get (pc := 20) (v := .ref (a 7)) X iX2_paid_X2 0 M_obj rfl 7 (by decide) kX2_paid_26 rfl dX2_paid_20 ?_
    refine fw_iload_n (pc := 23) X dX2_paid_23 rfl 1 rfl ?_
    refine fw_iald (pc := 24) (f := G 7) X 5 0 (M_g7 (G := G)) rfl (ix v) hx_v (by omega) (by decide) dX2_paid_24 ?_
    refine fw_goto (pc := 25) (tgt := 29) X dX2_paid_25 (by decide) ?_
    exact fw_iret (pc := 29) X hr hlk (Nat.le_of_ble_eq_true rfl) (Nat.le_of_ble_eq_true rfl) dX2_paid_29 () (by simp [m_tr_v, m_tr_k, c_2]) (by simp [m_tr_v, m_tr_k, c_2])
  · refine fw_iv (y := 0) (if_neg c_2) ?_
    refine fw_if_eq (pc := 5) (tgt := 12) X dX2_paid_5 (by decide) (fun _ => ?_) (fun q => absurd (by decide) q)
    refine fw_iconst (pc := 12) (v := 1) X dX2_paid_12 (by decide) ?_
    refine fw_callV (pc := 13) (n := 1) (C := (RX2, TX2, 21)) (ci := 2) (q0 := 0) X hE [.int 1] (ct_X2_isFine 1) (by decide) gX2_paid_X2_isFine rfl ⟨rfl, rfl⟩ ⟨rfl, dsc_X2_isFine⟩ ⟨Nat.le_of_ble_eq_true rfl, Nat.le_of_ble_eq_true rfl⟩ rfl M_obj rfl rfl (Nat.le_of_ble_eq_true rfl) dX2_paid_13 ⟨Nat.le_of_ble_eq_true rfl, Nat.le_of_ble_eq_true rfl⟩ (fun _ q => q.elim) (fun r0 u0 r_4 => ?_)
    subst r_4
    show fw_W _ _ _ _ _ _ _ _ _ _ _ _ _ _ _ _ _ _ _ (.int (b2i (1 = 0)) :: _)
    refine fw_iv (y := 0) (if_neg (by decide)) ?_
    refine fw_if_eq (pc := 16) (tgt := 28) X dX2_paid_16 (by decide) (fun _ => ?_) (fun q => absurd (by decide) q)
    refine fw_iconst (pc := 28) (v := 0) X dX2_paid_28 (by decide) ?_
    exact fw_iret (pc := 29) X hr hlk (Nat.le_of_ble_eq_true rfl) (Nat.le_of_ble_eq_true rfl) dX2_paid_29 () (by simp [m_tr_v, m_tr_k, c_2]) (by simp [m_tr_v, m_tr_k, c_2])
end
