section LW1
variable {p : Program} {l : Launch} {e : Env} {R : Room} {s : State} {m : MethodId} {args : Array Value} {below : List Frame} {meth : Method} {c : Code}
variable {D : va_G} {A : Nat → Prop} {nL : Nat} {Q : State → Prop} {ws : va_W} {cells slots : Nat} {lv : List (Nat × Value)} {pc : Nat} {st : List Value}
variable {cc : ByteArray} {own : String} {Ts : List Cond} {tys : List (ClassId × FieldType)}
theorem fw_catch0 {E name : String} {x : ExceptionTableEntry} {suf : List ExceptionTableEntry} (X : fw_X p s m args c D A nL cc own Ts tys) (htab : c.exceptionTable.toList = x :: suf) (hx : covers x pc = true) (h0 : x.catchType ≠ 0) (hlink : Cond.classLink own x.catchType name ∈ Ts) (hcast : va_Nw (.castable E name) s)
    (kk : ∀ q : Nat, fw_W p l e R s m args below meth c D A nL Q ws cells slots lv x.handlerPc [.ref q]) : fw_V p l e R s m args below meth c D A nL Q ws cells slots lv pc st E := fun H locs ls ce q h1 h2 h3 h4 g1 g2 g3 =>
  vx_catch X.1.2.2.2.1 [] x suf htab (fun z hz => nomatch hz) hx h0 (X.1.2.2.2.2 _ hlink) (va_Nw.use rfl hcast) g1 g2 g3 (kk q H locs ls h1 h2 h3 h4)
theorem fw_catch1 {E name n0 : String} {x x0 : ExceptionTableEntry} {suf : List ExceptionTableEntry} (X : fw_X p s m args c D A nL cc own Ts tys) (htab : c.exceptionTable.toList = x0 :: x :: suf) (hz0 : x0.catchType ≠ 0) (hl0 : Cond.classLink own x0.catchType n0 ∈ Ts) (hn0 : va_Nc E n0 s) (hx : covers x pc = true) (h0 : x.catchType ≠ 0) (hlink : Cond.classLink own x.catchType name ∈ Ts) (hcast : va_Nw (.castable E name) s)
    (kk : ∀ q : Nat, fw_W p l e R s m args below meth c D A nL Q ws cells slots lv x.handlerPc [.ref q]) : fw_V p l e R s m args below meth c D A nL Q ws cells slots lv pc st E := fun H locs ls ce q h1 h2 h3 h4 g1 g2 g3 =>
  vx_catch X.1.2.2.2.1 [x0] x suf htab (fun z hz => by
    rcases List.mem_cons.mp hz with rfl | hz
    · exact Or.inr ⟨hz0, n0, X.1.2.2.2.2 _ hl0, hn0⟩
    · cases hz) hx h0 (X.1.2.2.2.2 _ hlink) (va_Nw.use rfl hcast) g1 g2 g3 (kk q H locs ls h1 h2 h3 h4)
theorem fw_catch2 {E name n0 n1 : String} {x x0 x1 : ExceptionTableEntry} {suf : List ExceptionTableEntry} (X : fw_X p s m args c D A nL cc own Ts tys) (htab : c.exceptionTable.toList = x0 :: x1 :: x :: suf) (hz0 : x0.catchType ≠ 0) (hl0 : Cond.classLink own x0.catchType n0 ∈ Ts) (hn0 : va_Nc E n0 s) (hz1 : x1.catchType ≠ 0) (hl1 : Cond.classLink own x1.catchType n1 ∈ Ts) (hn1 : va_Nc E n1 s) (hx : covers x pc = true) (h0 : x.catchType ≠ 0) (hlink : Cond.classLink own x.catchType name ∈ Ts) (hcast : va_Nw (.castable E name) s)
    (kk : ∀ q : Nat, fw_W p l e R s m args below meth c D A nL Q ws cells slots lv x.handlerPc [.ref q]) : fw_V p l e R s m args below meth c D A nL Q ws cells slots lv pc st E := fun H locs ls ce q h1 h2 h3 h4 g1 g2 g3 =>
  vx_catch X.1.2.2.2.1 [x0, x1] x suf htab (fun z hz => by
    rcases List.mem_cons.mp hz with rfl | hz
    · exact Or.inr ⟨hz0, n0, X.1.2.2.2.2 _ hl0, hn0⟩
    · rcases List.mem_cons.mp hz with rfl | hz
      · exact Or.inr ⟨hz1, n1, X.1.2.2.2.2 _ hl1, hn1⟩
      · cases hz) hx h0 (X.1.2.2.2.2 _ hlink) (va_Nw.use rfl hcast) g1 g2 g3 (kk q H locs ls h1 h2 h3 h4)
theorem fw_metH {S : Type} {y : MethodName} {wy wy' : List Cond} {rm : Room} {mc ms : Nat} {b : Bool} {av : List Value} {post : Option Value → S → Prop} {WS : S → va_W} {PX : String → Prop} {maxL : Nat} {ret : Option FieldType} {hh : List (Nat × Nat × Nat × Nat)} (hy : plainName y.cls = true) (hw : wy = Cond.codeWith y cc maxL ret hh :: wy') (hsl : (lg_sl av).length ≤ maxL)
    (body : ∀ (p : Program) (e : Env) (s : State) (m : MethodId) (args : Array Value) (below : List Frame) (meth : Method) (c : Code) (A : Nat → Prop), fw_X p s m args c D A maxL cc y.cls wy tys → meth.sig.returnType = ret → meth.locks = false → c.exceptionTable.toList = tableOf hh → fw_E b A s →
      fw_W p l e rm s m args below meth c D A maxL (vx_MQ below (fw_Q D tys A post WS) (fw_XC D tys A PX ws) args s mc ms A) ws 0 0 (lv_args 0 av) 0 []) : fw_C l y wy rm mc ms b av D tys ws post WS PX := by
  intro sz
  refine vx_ofWH (cc := cc) (maxL := maxL) (ret := ret) hy hw ?_
  intro p e s m args below meth c s₁ B hml hv
  obtain ⟨rfl, hsz, hP, hK, hD0, hE⟩ := hv
  have hts := atoms_spec (ws := wy) B.pre
  have hown : s.vm.findClass y.cls = some m.cls := findClass_of_methodNamed B.named
  have hA : ∀ q, s.heap.size ≤ q → va_A ws sz q := fun q h => Or.inr (by rw [← hsz]; exact h)
  have hl := lv_entry av (n := maxL) hsl
  have htab := vx_table (x := y) B (hts _ (by rw [hw]; exact List.mem_cons_self))
  have K := body p e s m av.toArray below meth c (va_A ws sz) ⟨⟨B.exec, B.bytes, hml, hown, hts⟩, hK, hA⟩ B.returns B.notSynchronized htab hE
  rw [lg_entry_eq]
  exact K s.heap [] _ hl hP hD0.self va_S.rf
section
variable {S : Type} {y : MethodName} {bytes : ByteArray} {maxL n index : Nat} {ret : Option FieldType} {wy wy' : List Cond} {rm : Room} {mc ms : Nat} {b b' : Bool} {post : Option Value → S → Prop} {WS : S → va_W} {PX : String → Prop} {stk : List Value} {wc wr : va_W}
theorem fw_callVR {C : vw_C} {ci q0 b0 : Nat} {fs : List Value} (X : fw_X p s m args c D A nL cc own Ts tys) (hE : fw_E b A s) (As : List Value) (hM : fw_C l y wy rm mc ms b' (.ref b0 :: As) D tys wc post WS PX) (hb : b' = true → b = true) (hG : GoodIn Ts (wsV own index C.1 y wy)) (hw : wy = Cond.code y bytes maxL ret :: wy') (hrc : rm.cells = mc ∧ rm.slots = ms) (hd : y.cls = C.1 ∧ fw_dsc y n) (hR : rm.frames + 1 ≤ R.frames ∧ 8 + (maxL + 11) + rm.locals ≤ R.locals)
    (hc : vwCl[ci]? = some C) (he : wc[q0]? = some (b0, .inr (ci, fs)))
    (hn : As.length = n) (hstk : stk = As.reverse ++ .ref b0 :: st) (hcat : (st.map fun v => v.category).sum ≤ 8) (hdg : decode cc pc = .ok (.invokevirtual index, 3)) (hf : cells + mc ≤ R.cells ∧ slots + ms ≤ R.slots)
    (kx : ∀ E, PX E → fw_V p l e R s m args below meth c D A nL Q (wc ++ wr) (cells + mc) (slots + ms) lv pc st E)
    (kk : ∀ (r : Option Value) (u : S), post r u → fw_W p l e R s m args below meth c D A nL Q (WS u ++ wr) (cells + mc) (slots + ms) lv (pc + 3) (r.toList ++ st)) :
    fw_W p l e R s m args below meth c D A nL Q (wc ++ wr) cells slots lv pc stk :=
  fw_runR X (fun H locs ls h1 h2 h3 h4 => vx_runV X.1 (hM H.size) (cwV n X.1.2.2.2.2 hG hw hrc.1 hrc.2 hd hR) ⟨fw_blind, va_recv X.2.1 h2 hc he, fun U hU hW => ⟨rfl, by rw [hU], by rw [hU]; exact h2, va_K.moved hW.alike X.2.1, h3.weaken (fun _ _ _ _ => trivial), fw_E_call hb hE h4 hU hW (fw_free X h3 h4)⟩⟩ rfl hn h1.1 hstk (lv_room hcat) hdg hf) kx kk
theorem fw_callHR {hh : List (Nat × Nat × Nat × Nat)} (X : fw_X p s m args c D A nL cc own Ts tys) (hE : fw_E b A s) (As : List Value) (hM : fw_C l y wy rm mc ms b' As D tys wc post WS PX) (hb : b' = true → b = true) (hG : GoodIn Ts (va_wsS own index y wy)) (hw : wy = Cond.codeWith y bytes maxL ret hh :: wy') (hrc : rm.cells = mc ∧ rm.slots = ms) (hd : fw_dsc y n) (hR : rm.frames + 1 ≤ R.frames ∧ 8 + (maxL + 11) + rm.locals ≤ R.locals)
    (hn : As.length = n) (hstk : stk = As.reverse ++ st) (hcat : (st.map fun v => v.category).sum ≤ 8) (hdg : decode cc pc = .ok (.invokestatic index, 3)) (hf : cells + mc ≤ R.cells ∧ slots + ms ≤ R.slots)
    (kx : ∀ E, PX E → fw_V p l e R s m args below meth c D A nL Q (wc ++ wr) (cells + mc) (slots + ms) lv pc st E)
    (kk : ∀ (r : Option Value) (u : S), post r u → fw_W p l e R s m args below meth c D A nL Q (WS u ++ wr) (cells + mc) (slots + ms) lv (pc + 3) (r.toList ++ st)) :
    fw_W p l e R s m args below meth c D A nL Q (wc ++ wr) cells slots lv pc stk :=
  fw_runR X (fun H locs ls h1 h2 h3 h4 => vx_runSX X.1 (hM H.size) (vx_cwSW n X.1.2.2.2.2 hG hw hrc.1 hrc.2 hd hR) ⟨fw_blind, fun U hU hW => ⟨rfl, by rw [hU], by rw [hU]; exact h2, va_K.moved hW.alike X.2.1, h3.weaken (fun _ _ _ _ => trivial), fw_E_call hb hE h4 hU hW (fw_free X h3 h4)⟩⟩ rfl hn h1.1 hstk (lv_room hcat) hdg hf) kx kk
end
end LW1
def OW (K : Nat → ClassId) (oa : Nat) (o : Nat → Int64) : va_W := [(oa, .inl (K 2, 1, .inr (.inl o)))]
theorem kL_setSort_clIA : Cond.classLink RL 13 fw_IA ∈ wsL_setSort := by decide +kernel
theorem dsc_L_setSort : fw_dsc yL_setSort 4 := by decide +kernel
set_option maxHeartbeats 4000000 in
set_option maxRecDepth 100000 in
theorem ct_L_setSort {l : Launch} (hl : l.stackTraces = false) {D : va_G} {K : Nat → ClassId} {ba : Nat → Nat} {bf : Nat → Int32} {bg : Nat → Nat → Int32} {n : Nat} {ca : Nat → Nat → Nat} {cf : Nat → Nat → Int32} {cg : Nat → Nat → Nat → Int32} {oa : Nat} {o : Nat → Int64} (v x y : Int32) : fw_C (S := Unit) l yL_setSort wsL_setSort ({ frames := 9, cells := 3, slots := 18, locals := 155 }) 3 18 true [.ref (ba 6), .int v, .int x, .int y] D (tyS K) (OW K oa o ++ BW K ba bf bg n ca cf cg) (fun r _ => r = some (.int (b_ss_k v x y))) (fun u0 => if b_ss_k v x y = 0 then OW K oa o ++ BW K ba bf (va_up (va_up bg 0 (upd (bg 0) (ix v) x)) 1 (upd (bg 1) (ix v) y)) n ca cf cg else OW K oa o ++ BW K ba bf bg n ca cf cg) (fun _ => False) := by
  refine fw_metH (maxL := 5) (ret := (some .int)) (by decide) rfl (Nat.le_of_ble_eq_true rfl) ?_
  intro p e s m args below meth c A X hr hlk htab hE
  refine fw_lv (lv' := [(0, .ref (ba 6)), (1, .int v), (2, .int x), (3, .int y)]) [0, 1, 2, 3] rfl ?_
  refine fw_aload_n (pc := 0) X dL_setSort_0 rfl 0 rfl ?_
  refine fw_iload_n (pc := 1) X dL_setSort_1 rfl 1 rfl ?_
  refine fw_iload_n (pc := 2) X dL_setSort_2 rfl 2 rfl ?_
  refine fw_iload_n (pc := 3) X dL_setSort_3 rfl 3 rfl ?_
  refine fw_pm (ws' := BW K ba bf bg n ca cf cg ++ OW K oa o) List.perm_append_comm ?_
  refine fw_callVR (pc := 4) (n := 3) (C := (RX1, TX1, 10)) (ci := 1) (q0 := 0) X hE [.int v, .int x, .int y] (ct_X1_setSort hl v x y) (fun _ => rfl) gL_setSort_X1_setSort rfl ⟨rfl, rfl⟩ ⟨rfl, dsc_X1_setSort⟩ ⟨(Nat.le_of_ble_eq_true rfl), (Nat.le_of_ble_eq_true rfl)⟩ rfl B_obj rfl rfl (Nat.le_of_ble_eq_true rfl) dL_setSort_4 ⟨(Nat.le_of_ble_eq_true rfl), (Nat.le_of_ble_eq_true rfl)⟩ (fun E q => ?_) (fun r0 u0 hq => ?_)
  · obtain ⟨rfl, hk⟩ := q
    refine fw_catch0 (pc := 4) X htab (by decide) (by decide) kL_setSort_clIA ((hE rfl).2.2.2.1 fw_IA fw_c_IA) (fun q9 => ?_)
    refine fw_pm (ws' := OW K oa o ++ BW K ba bf bg n ca cf cg) List.perm_append_comm ?_
    refine fw_astore (pc := 10) (lv' := [(4, .ref q9), (0, .ref (ba 6)), (1, .int v), (2, .int x), (3, .int y)]) X dL_setSort_10 (by decide) rfl ?_
    refine fw_iconst (pc := 12) (v := 1) X dL_setSort_12 (by decide) ?_
    exact fw_iret (pc := 13) X hr hlk (Nat.le_of_ble_eq_true rfl) (Nat.le_of_ble_eq_true rfl) dL_setSort_13 () (by rw [hk]) (if_neg (by rw [hk]; decide)).symm
  · obtain ⟨hk, rfl⟩ := hq
    refine fw_pm (ws' := OW K oa o ++ BW K ba bf (va_up (va_up bg 0 (upd (bg 0) (ix v) x)) 1 (upd (bg 1) (ix v) y)) n ca cf cg) List.perm_append_comm ?_
    refine fw_goto (pc := 7) (tgt := 14) X dL_setSort_7 (by decide) ?_
    refine fw_iconst (pc := 14) (v := 0) X dL_setSort_14 (by decide) ?_
    exact fw_iret (pc := 15) X hr hlk (Nat.le_of_ble_eq_true rfl) (Nat.le_of_ble_eq_true rfl) dL_setSort_15 u0 (by rw [hk]) (if_pos hk).symm
theorem kL_setRisk_clIA : Cond.classLink RL 13 fw_IA ∈ wsL_setRisk := by decide +kernel
theorem dsc_L_setRisk : fw_dsc yL_setRisk 4 := by decide +kernel
set_option maxHeartbeats 4000000 in
set_option maxRecDepth 100000 in
theorem ct_L_setRisk {l : Launch} (hl : l.stackTraces = false) {D : va_G} {K : Nat → ClassId} {ba : Nat → Nat} {bf : Nat → Int32} {bg : Nat → Nat → Int32} {n : Nat} {ca : Nat → Nat → Nat} {cf : Nat → Nat → Int32} {cg : Nat → Nat → Nat → Int32} {oa : Nat} {o : Nat → Int64} (v x : Int32) : fw_C (S := Unit) l yL_setRisk wsL_setRisk ({ frames := 8, cells := 2, slots := 12, locals := 134 }) 2 12 true [.ref (ba 6), .int v, .int x, .ref oa] D (tyS K) (OW K oa o ++ BW K ba bf bg n ca cf cg) (fun r _ => r = some (.int (b_sr_k v x))) (fun u0 => if b_sr_k v x = 0 then OW K oa (vp_updL o 0 (b_cn (upd (upd bf 8 v) 9 x) bg n cf cg 15).toInt64) ++ BW K ba (upd (upd bf 8 v) 9 x) bg n ca cf cg else OW K oa o ++ BW K ba bf bg n ca cf cg) (fun _ => False) := by
  refine fw_metH (maxL := 5) (ret := (some .int)) (by decide) rfl (Nat.le_of_ble_eq_true rfl) ?_
  intro p e s m args below meth c A X hr hlk htab hE
  refine fw_lv (lv' := [(0, .ref (ba 6)), (1, .int v), (2, .int x), (3, .ref oa)]) [0, 1, 2, 3] rfl ?_
  refine fw_aload_n (pc := 0) X dL_setRisk_0 rfl 3 rfl ?_
  refine fw_iconst (pc := 1) (v := 0) X dL_setRisk_1 (by decide) ?_
  refine fw_aload_n (pc := 2) X dL_setRisk_2 rfl 0 rfl ?_
  refine fw_iload_n (pc := 3) X dL_setRisk_3 rfl 1 rfl ?_
  refine fw_iload_n (pc := 4) X dL_setRisk_4 rfl 2 rfl ?_
  refine fw_pm (ws' := BW K ba bf bg n ca cf cg ++ OW K oa o) List.perm_append_comm ?_
  refine fw_callVR (pc := 5) (n := 2) (C := (RX1, TX1, 10)) (ci := 1) (q0 := 0) X hE [.int v, .int x] (ct_X1_setRisk hl v x) (fun _ => rfl) gL_setRisk_X1_setRisk rfl ⟨rfl, rfl⟩ ⟨rfl, dsc_X1_setRisk⟩ ⟨(Nat.le_of_ble_eq_true rfl), (Nat.le_of_ble_eq_true rfl)⟩ rfl B_obj rfl rfl (Nat.le_of_ble_eq_true rfl) dL_setRisk_5 ⟨(Nat.le_of_ble_eq_true rfl), (Nat.le_of_ble_eq_true rfl)⟩ (fun E q => ?_) (fun r0 u0 hq => ?_)
  · obtain ⟨rfl, hk⟩ := q
    refine fw_catch0 (pc := 5) X htab (by decide) (by decide) kL_setRisk_clIA ((hE rfl).2.2.2.1 fw_IA fw_c_IA) (fun q9 => ?_)
    refine fw_pm (ws' := OW K oa o ++ BW K ba bf bg n ca cf cg) List.perm_append_comm ?_
    refine fw_astore (pc := 13) (lv' := [(4, .ref q9), (0, .ref (ba 6)), (1, .int v), (2, .int x), (3, .ref oa)]) X dL_setRisk_13 (by decide) rfl ?_
    refine fw_iconst (pc := 15) (v := 1) X dL_setRisk_15 (by decide) ?_
    exact fw_iret (pc := 16) X hr hlk (Nat.le_of_ble_eq_true rfl) (Nat.le_of_ble_eq_true rfl) dL_setRisk_16 () (by rw [hk]) (if_neg (by rw [hk]; decide)).symm
  · obtain ⟨hk, rfl⟩ := hq
    refine fw_pm (ws' := OW K oa o ++ BW K ba (upd (upd bf 8 v) 9 x) bg n ca cf cg) List.perm_append_comm ?_
    refine fw_i2l (pc := 8) (v := (b_cn (upd (upd bf 8 v) 9 x) bg n cf cg 15).toInt64) X dL_setRisk_8 rfl ?_
    refine fw_last (pc := 9) (n := 1) (cA := K 2) (f := o) (ws' := OW K oa (vp_updL o 0 (b_cn (upd (upd bf 8 v) 9 x) bg n cf cg 15).toInt64) ++ BW K ba (upd (upd bf 8 v) 9 x) bg n ca cf cg) X 0 2 rfl rfl 0 (show (0 : Int32) = nI 0 from rfl) (by decide) (by decide) dL_setRisk_9 rfl ?_
    refine fw_goto (pc := 10) (tgt := 17) X dL_setRisk_10 (by decide) ?_
    refine fw_iconst (pc := 17) (v := 0) X dL_setRisk_17 (by decide) ?_
    exact fw_iret (pc := 18) X hr hlk (Nat.le_of_ble_eq_true rfl) (Nat.le_of_ble_eq_true rfl) dL_setRisk_18 u0 (by rw [hk]) (if_pos hk).symm
theorem kL_setGuarantee_clIA : Cond.classLink RL 13 fw_IA ∈ wsL_setGuarantee := by decide +kernel
theorem kL_setGuarantee_clIS : Cond.classLink RL 22 fw_IS ∈ wsL_setGuarantee := by decide +kernel
theorem dsc_L_setGuarantee : fw_dsc yL_setGuarantee 4 := by decide +kernel
set_option maxHeartbeats 4000000 in
set_option maxRecDepth 100000 in
theorem ct_L_setGuarantee {l : Launch} (hl : l.stackTraces = false) {D : va_G} {K : Nat → ClassId} {ba : Nat → Nat} {bf : Nat → Int32} {bg : Nat → Nat → Int32} {n : Nat} {ca : Nat → Nat → Nat} {cf : Nat → Nat → Int32} {cg : Nat → Nat → Nat → Int32} {oa : Nat} {o : Nat → Int64} (v x : Int32) : fw_C (S := Unit) l yL_setGuarantee wsL_setGuarantee ({ frames := 9, cells := 3, slots := 18, locals := 155 }) 3 18 true [.ref (ba 6), .int v, .int x, .ref oa] D (tyS K) (OW K oa o ++ BW K ba bf bg n ca cf cg) (fun r _ => r = some (.int (b_sg_k bg v x))) (fun u0 => if b_sg_k bg v x = 0 then OW K oa (vp_updL o 0 (bg 2 (ix v)).toInt64) ++ BW K ba bf (va_up bg 2 (upd (bg 2) (ix v) x)) n ca cf cg else OW K oa o ++ BW K ba bf bg n ca cf cg) (fun _ => False) := by
  refine fw_metH (maxL := 5) (ret := (some .int)) (by decide) rfl (Nat.le_of_ble_eq_true rfl) ?_
  intro p e s m args below meth c A X hr hlk htab hE
  refine fw_lv (lv' := [(0, .ref (ba 6)), (1, .int v), (2, .int x), (3, .ref oa)]) [0, 1, 2, 3] rfl ?_
  refine fw_aload_n (pc := 0) X dL_setGuarantee_0 rfl 3 rfl ?_
  refine fw_iconst (pc := 1) (v := 0) X dL_setGuarantee_1 (by decide) ?_
  refine fw_aload_n (pc := 2) X dL_setGuarantee_2 rfl 0 rfl ?_
  refine fw_iload_n (pc := 3) X dL_setGuarantee_3 rfl 1 rfl ?_
  refine fw_iload_n (pc := 4) X dL_setGuarantee_4 rfl 2 rfl ?_
  refine fw_pm (ws' := BW K ba bf bg n ca cf cg ++ OW K oa o) List.perm_append_comm ?_
  refine fw_callVR (pc := 5) (n := 2) (C := (RX1, TX1, 10)) (ci := 1) (q0 := 0) X hE [.int v, .int x] (ct_X1_setGuarantee hl v x) (fun _ => rfl) gL_setGuarantee_X1_setGuarantee rfl ⟨rfl, rfl⟩ ⟨rfl, dsc_X1_setGuarantee⟩ ⟨(Nat.le_of_ble_eq_true rfl), (Nat.le_of_ble_eq_true rfl)⟩ rfl B_obj rfl rfl (Nat.le_of_ble_eq_true rfl) dL_setGuarantee_5 ⟨(Nat.le_of_ble_eq_true rfl), (Nat.le_of_ble_eq_true rfl)⟩ (fun E q => ?_) (fun r0 u0 hq => ?_)
  · rcases q with ⟨rfl, hk⟩ | ⟨rfl, hk⟩
    · refine fw_catch0 (pc := 5) X htab (by decide) (by decide) kL_setGuarantee_clIA ((hE rfl).2.2.2.1 fw_IA fw_c_IA) (fun q9 => ?_)
      refine fw_pm (ws' := OW K oa o ++ BW K ba bf bg n ca cf cg) List.perm_append_comm ?_
      refine fw_astore (pc := 13) (lv' := [(4, .ref q9), (0, .ref (ba 6)), (1, .int v), (2, .int x), (3, .ref oa)]) X dL_setGuarantee_13 (by decide) rfl ?_
      refine fw_iconst (pc := 15) (v := 1) X dL_setGuarantee_15 (by decide) ?_
      exact fw_iret (pc := 16) X hr hlk (Nat.le_of_ble_eq_true rfl) (Nat.le_of_ble_eq_true rfl) dL_setGuarantee_16 () (by rw [hk]) (if_neg (by rw [hk]; decide)).symm
    · refine fw_catch1 (pc := 5) X htab (by decide) kL_setGuarantee_clIA (hE rfl).2.2.2.2.2.2.2.2.2 (by decide) (by decide) kL_setGuarantee_clIS ((hE rfl).2.2.2.1 fw_IS fw_c_IS) (fun q9 => ?_)
      refine fw_pm (ws' := OW K oa o ++ BW K ba bf bg n ca cf cg) List.perm_append_comm ?_
      refine fw_astore (pc := 17) (lv' := [(4, .ref q9), (0, .ref (ba 6)), (1, .int v), (2, .int x), (3, .ref oa)]) X dL_setGuarantee_17 (by decide) rfl ?_
      refine fw_iconst (pc := 19) (v := 2) X dL_setGuarantee_19 (by decide) ?_
      exact fw_iret (pc := 20) X hr hlk (Nat.le_of_ble_eq_true rfl) (Nat.le_of_ble_eq_true rfl) dL_setGuarantee_20 () (by rw [hk]) (if_neg (by rw [hk]; decide)).symm
  · obtain ⟨hk, rfl⟩ := hq
    refine fw_pm (ws' := OW K oa o ++ BW K ba bf (va_up bg 2 (upd (bg 2) (ix v) x)) n ca cf cg) List.perm_append_comm ?_
    refine fw_i2l (pc := 8) (v := (bg 2 (ix v)).toInt64) X dL_setGuarantee_8 rfl ?_
    refine fw_last (pc := 9) (n := 1) (cA := K 2) (f := o) (ws' := OW K oa (vp_updL o 0 (bg 2 (ix v)).toInt64) ++ BW K ba bf (va_up bg 2 (upd (bg 2) (ix v) x)) n ca cf cg) X 0 2 rfl rfl 0 (show (0 : Int32) = nI 0 from rfl) (by decide) (by decide) dL_setGuarantee_9 rfl ?_
    refine fw_goto (pc := 10) (tgt := 21) X dL_setGuarantee_10 (by decide) ?_
    refine fw_iconst (pc := 21) (v := 0) X dL_setGuarantee_21 (by decide) ?_
    exact fw_iret (pc := 22) X hr hlk (Nat.le_of_ble_eq_true rfl) (Nat.le_of_ble_eq_true rfl) dL_setGuarantee_22 u0 (by rw [hk]) (if_pos hk).symm
theorem kL_announce_clIA : Cond.classLink RL 13 fw_IA ∈ wsL_announce := by decide +kernel
theorem kL_announce_clIS : Cond.classLink RL 22 fw_IS ∈ wsL_announce := by decide +kernel
theorem dsc_L_announce : fw_dsc yL_announce 4 := by decide +kernel
set_option maxHeartbeats 4000000 in
set_option maxRecDepth 100000 in
theorem ct_L_announce {l : Launch} (hl : l.stackTraces = false) {D : va_G} {K : Nat → ClassId} {ba : Nat → Nat} {bf : Nat → Int32} {bg : Nat → Nat → Int32} {n : Nat} {ca : Nat → Nat → Nat} {cf : Nat → Nat → Int32} {cg : Nat → Nat → Nat → Int32} {oa : Nat} {o : Nat → Int64} (v x : Int32) (hn : bf 6 = nI n) (hn15 : n ≤ 15) : fw_C (S := Nat → Nat) l yL_announce wsL_announce ({ frames := 9, cells := 7, slots := 60, locals := 155 }) 7 60 true [.ref (ba 6), .int v, .int x, .ref oa] D (tyS K) (OW K oa o ++ BW K ba bf bg n ca cf cg) (fun r _ => r = some (.int (b_ann_k bf v x))) (fun u0 => if b_ann_k bf v x = 0 then OW K oa (vp_updL o 0 (bf 6).toInt64) ++ BW K ba (upd bf 6 (bf 6 + 1)) bg (n + 1) (va_up ca n u0) (va_up cf n (c0F v x)) (va_up cg n c0G) else OW K oa o ++ BW K ba bf bg n ca cf cg) (fun _ => False) := by
  refine fw_metH (maxL := 5) (ret := (some .int)) (by decide) rfl (Nat.le_of_ble_eq_true rfl) ?_
  intro p e s m args below meth c A X hr hlk htab hE
  refine fw_lv (lv' := [(0, .ref (ba 6)), (1, .int v), (2, .int x), (3, .ref oa)]) [0, 1, 2, 3] rfl ?_
  refine fw_aload_n (pc := 0) X dL_announce_0 rfl 3 rfl ?_
  refine fw_iconst (pc := 1) (v := 0) X dL_announce_1 (by decide) ?_
  refine fw_aload_n (pc := 2) X dL_announce_2 rfl 0 rfl ?_
  refine fw_iload_n (pc := 3) X dL_announce_3 rfl 1 rfl ?_
  refine fw_iload_n (pc := 4) X dL_announce_4 rfl 2 rfl ?_
  refine fw_pm (ws' := BW K ba bf bg n ca cf cg ++ OW K oa o) List.perm_append_comm ?_
  refine fw_callVR (pc := 5) (n := 2) (C := (RX1, TX1, 10)) (ci := 1) (q0 := 0) X hE [.int v, .int x] (ct_X1_announce hl v x hn hn15) (fun _ => rfl) gL_announce_X1_announce rfl ⟨rfl, rfl⟩ ⟨rfl, dsc_X1_announce⟩ ⟨(Nat.le_of_ble_eq_true rfl), (Nat.le_of_ble_eq_true rfl)⟩ rfl B_obj rfl rfl (Nat.le_of_ble_eq_true rfl) dL_announce_5 ⟨(Nat.le_of_ble_eq_true rfl), (Nat.le_of_ble_eq_true rfl)⟩ (fun E q => ?_) (fun r0 u0 hq => ?_)
  · rcases q with ⟨rfl, hk⟩ | ⟨rfl, hk⟩
    · refine fw_catch0 (pc := 5) X htab (by decide) (by decide) kL_announce_clIA ((hE rfl).2.2.2.1 fw_IA fw_c_IA) (fun q9 => ?_)
      refine fw_pm (ws' := OW K oa o ++ BW K ba bf bg n ca cf cg) List.perm_append_comm ?_
      refine fw_astore (pc := 13) (lv' := [(4, .ref q9), (0, .ref (ba 6)), (1, .int v), (2, .int x), (3, .ref oa)]) X dL_announce_13 (by decide) rfl ?_
      refine fw_iconst (pc := 15) (v := 1) X dL_announce_15 (by decide) ?_
      exact fw_iret (pc := 16) X hr hlk (Nat.le_of_ble_eq_true rfl) (Nat.le_of_ble_eq_true rfl) dL_announce_16 (fun _ => 0) (by rw [hk]) (if_neg (by rw [hk]; decide)).symm
    · refine fw_catch1 (pc := 5) X htab (by decide) kL_announce_clIA (hE rfl).2.2.2.2.2.2.2.2.2 (by decide) (by decide) kL_announce_clIS ((hE rfl).2.2.2.1 fw_IS fw_c_IS) (fun q9 => ?_)
      refine fw_pm (ws' := OW K oa o ++ BW K ba bf bg n ca cf cg) List.perm_append_comm ?_
      refine fw_astore (pc := 17) (lv' := [(4, .ref q9), (0, .ref (ba 6)), (1, .int v), (2, .int x), (3, .ref oa)]) X dL_announce_17 (by decide) rfl ?_
      refine fw_iconst (pc := 19) (v := 2) X dL_announce_19 (by decide) ?_
      exact fw_iret (pc := 20) X hr hlk (Nat.le_of_ble_eq_true rfl) (Nat.le_of_ble_eq_true rfl) dL_announce_20 (fun _ => 0) (by rw [hk]) (if_neg (by rw [hk]; decide)).symm
  · obtain ⟨hk, rfl⟩ := hq
    refine fw_pm (ws' := OW K oa o ++ BW K ba (upd bf 6 (bf 6 + 1)) bg (n + 1) (va_up ca n u0) (va_up cf n (c0F v x)) (va_up cg n c0G)) List.perm_append_comm ?_
    refine fw_i2l (pc := 8) (v := (bf 6).toInt64) X dL_announce_8 rfl ?_
    refine fw_last (pc := 9) (n := 1) (cA := K 2) (f := o) (ws' := OW K oa (vp_updL o 0 (bf 6).toInt64) ++ BW K ba (upd bf 6 (bf 6 + 1)) bg (n + 1) (va_up ca n u0) (va_up cf n (c0F v x)) (va_up cg n c0G)) X 0 2 rfl rfl 0 (show (0 : Int32) = nI 0 from rfl) (by decide) (by decide) dL_announce_9 rfl ?_
    refine fw_goto (pc := 10) (tgt := 21) X dL_announce_10 (by decide) ?_
    refine fw_iconst (pc := 21) (v := 0) X dL_announce_21 (by decide) ?_
    exact fw_iret (pc := 22) X hr hlk (Nat.le_of_ble_eq_true rfl) (Nat.le_of_ble_eq_true rfl) dL_announce_22 u0 (by rw [hk]) (if_pos hk).symm
theorem kL_amend_clIO : Cond.classLink RL 31 fw_IO ∈ wsL_amend := by decide +kernel
theorem kL_amend_clIA : Cond.classLink RL 13 fw_IA ∈ wsL_amend := by decide +kernel
theorem kL_amend_clIS : Cond.classLink RL 22 fw_IS ∈ wsL_amend := by decide +kernel
theorem dsc_L_amend : fw_dsc yL_amend 5 := by decide +kernel
set_option maxHeartbeats 4000000 in
set_option maxRecDepth 100000 in
theorem ct_L_amend {l : Launch} (hl : l.stackTraces = false) {D : va_G} {K : Nat → ClassId} {ba : Nat → Nat} {bf : Nat → Int32} {bg : Nat → Nat → Int32} {n : Nat} {ca : Nat → Nat → Nat} {cf : Nat → Nat → Int32} {cg : Nat → Nat → Nat → Int32} {oa : Nat} {o : Nat → Int64} (u v x : Int32) (hn15 : n ≤ 15) : fw_C (S := Unit) l yL_amend wsL_amend ({ frames := 9, cells := 4, slots := 24, locals := 156 }) 4 24 true [.ref (ba 6), .int u, .int v, .int x, .ref oa] D (tyS K) (OW K oa o ++ BW K ba bf bg n ca cf cg) (fun r _ => r = some (.int (b_amd_k n cf cg u v x))) (fun u0 => if b_amd_k n cf cg u v x = 0 then OW K oa (vp_updL o 0 (cf (ix u) 6 + 1).toInt64) ++ BW K ba bf bg n ca (va_up cf (ix u) (upd (cf (ix u)) 6 (cf (ix u) 6 + 1))) (va_up cg (ix u) (va_up (cg (ix u)) 2 (upd (cg (ix u) 2) (ix v) x))) else OW K oa o ++ BW K ba bf bg n ca cf cg) (fun _ => False) := by
  refine fw_metH (maxL := 6) (ret := (some .int)) (by decide) rfl (Nat.le_of_ble_eq_true rfl) ?_
  intro p e s m args below meth c A X hr hlk htab hE
  refine fw_lv (lv' := [(0, .ref (ba 6)), (1, .int u), (2, .int v), (3, .int x), (4, .ref oa)]) [0, 1, 2, 3, 4] rfl ?_
  refine fw_aload (pc := 0) X dL_amend_0 4 rfl ?_
  refine fw_iconst (pc := 2) (v := 0) X dL_amend_2 (by decide) ?_
  refine fw_aload_n (pc := 3) X dL_amend_3 rfl 0 rfl ?_
  refine fw_iload_n (pc := 4) X dL_amend_4 rfl 1 rfl ?_
  refine fw_iload_n (pc := 5) X dL_amend_5 rfl 2 rfl ?_
  refine fw_iload_n (pc := 6) X dL_amend_6 rfl 3 rfl ?_
  refine fw_pm (ws' := BW K ba bf bg n ca cf cg ++ OW K oa o) List.perm_append_comm ?_
  refine fw_callVR (pc := 7) (n := 3) (C := (RX1, TX1, 10)) (ci := 1) (q0 := 0) X hE [.int u, .int v, .int x] (ct_X1_amend hl u v x hn15) (fun _ => rfl) gL_amend_X1_amend rfl ⟨rfl, rfl⟩ ⟨rfl, dsc_X1_amend⟩ ⟨(Nat.le_of_ble_eq_true rfl), (Nat.le_of_ble_eq_true rfl)⟩ rfl B_obj rfl rfl (Nat.le_of_ble_eq_true rfl) dL_amend_7 ⟨(Nat.le_of_ble_eq_true rfl), (Nat.le_of_ble_eq_true rfl)⟩ (fun E q => ?_) (fun r0 u0 hq => ?_)
  · rcases q with ⟨rfl, hk⟩ | ⟨rfl, hk⟩ | ⟨rfl, hk⟩
    · refine fw_catch0 (pc := 7) X htab (by decide) (by decide) kL_amend_clIO ((hE rfl).2.2.2.1 fw_IO fw_c_IO) (fun q9 => ?_)
      refine fw_pm (ws' := OW K oa o ++ BW K ba bf bg n ca cf cg) List.perm_append_comm ?_
      refine fw_astore (pc := 15) (lv' := [(5, .ref q9), (0, .ref (ba 6)), (1, .int u), (2, .int v), (3, .int x), (4, .ref oa)]) X dL_amend_15 (by decide) rfl ?_
      refine fw_iconst (pc := 17) (v := 1) X dL_amend_17 (by decide) ?_
      exact fw_iret (pc := 18) X hr hlk (Nat.le_of_ble_eq_true rfl) (Nat.le_of_ble_eq_true rfl) dL_amend_18 () (by rw [hk]) (if_neg (by rw [hk]; decide)).symm
    · refine fw_catch1 (pc := 7) X htab (by decide) kL_amend_clIO (hE rfl).2.2.2.2.2.2.2.1 (by decide) (by decide) kL_amend_clIA ((hE rfl).2.2.2.1 fw_IA fw_c_IA) (fun q9 => ?_)
      refine fw_pm (ws' := OW K oa o ++ BW K ba bf bg n ca cf cg) List.perm_append_comm ?_
      refine fw_astore (pc := 19) (lv' := [(5, .ref q9), (0, .ref (ba 6)), (1, .int u), (2, .int v), (3, .int x), (4, .ref oa)]) X dL_amend_19 (by decide) rfl ?_
      refine fw_iconst (pc := 21) (v := 2) X dL_amend_21 (by decide) ?_
      exact fw_iret (pc := 22) X hr hlk (Nat.le_of_ble_eq_true rfl) (Nat.le_of_ble_eq_true rfl) dL_amend_22 () (by rw [hk]) (if_neg (by rw [hk]; decide)).symm
    · refine fw_catch2 (pc := 7) X htab (by decide) kL_amend_clIO (hE rfl).2.2.2.2.2.2.2.2.1 (by decide) kL_amend_clIA (hE rfl).2.2.2.2.2.2.2.2.2 (by decide) (by decide) kL_amend_clIS ((hE rfl).2.2.2.1 fw_IS fw_c_IS) (fun q9 => ?_)
      refine fw_pm (ws' := OW K oa o ++ BW K ba bf bg n ca cf cg) List.perm_append_comm ?_
      refine fw_astore (pc := 23) (lv' := [(5, .ref q9), (0, .ref (ba 6)), (1, .int u), (2, .int v), (3, .int x), (4, .ref oa)]) X dL_amend_23 (by decide) rfl ?_
      refine fw_iconst (pc := 25) (v := 3) X dL_amend_25 (by decide) ?_
      exact fw_iret (pc := 26) X hr hlk (Nat.le_of_ble_eq_true rfl) (Nat.le_of_ble_eq_true rfl) dL_amend_26 () (by rw [hk]) (if_neg (by rw [hk]; decide)).symm
  · obtain ⟨hk, rfl⟩ := hq
    refine fw_pm (ws' := OW K oa o ++ BW K ba bf bg n ca (va_up cf (ix u) (upd (cf (ix u)) 6 (cf (ix u) 6 + 1))) (va_up cg (ix u) (va_up (cg (ix u)) 2 (upd (cg (ix u) 2) (ix v) x)))) List.perm_append_comm ?_
    refine fw_i2l (pc := 10) (v := (cf (ix u) 6 + 1).toInt64) X dL_amend_10 rfl ?_
    refine fw_last (pc := 11) (n := 1) (cA := K 2) (f := o) (ws' := OW K oa (vp_updL o 0 (cf (ix u) 6 + 1).toInt64) ++ BW K ba bf bg n ca (va_up cf (ix u) (upd (cf (ix u)) 6 (cf (ix u) 6 + 1))) (va_up cg (ix u) (va_up (cg (ix u)) 2 (upd (cg (ix u) 2) (ix v) x)))) X 0 2 rfl rfl 0 (show (0 : Int32) = nI 0 from rfl) (by decide) (by decide) dL_amend_11 rfl ?_
    refine fw_goto (pc := 12) (tgt := 27) X dL_amend_12 (by decide) ?_
    refine fw_iconst (pc := 27) (v := 0) X dL_amend_27 (by decide) ?_
    exact fw_iret (pc := 28) X hr hlk (Nat.le_of_ble_eq_true rfl) (Nat.le_of_ble_eq_true rfl) dL_amend_28 u0 (by rw [hk]) (if_pos hk).symm
theorem kL_arrive_clIO : Cond.classLink RL 31 fw_IO ∈ wsL_arrive := by decide +kernel
theorem kL_arrive_clIA : Cond.classLink RL 13 fw_IA ∈ wsL_arrive := by decide +kernel
theorem kL_arrive_clIS : Cond.classLink RL 22 fw_IS ∈ wsL_arrive := by decide +kernel
theorem dsc_L_arrive : fw_dsc yL_arrive 4 := by decide +kernel
set_option maxHeartbeats 4000000 in
set_option maxRecDepth 100000 in
theorem ct_L_arrive {l : Launch} (hl : l.stackTraces = false) {D : va_G} {K : Nat → ClassId} {ba : Nat → Nat} {bf : Nat → Int32} {bg : Nat → Nat → Int32} {n : Nat} {ca : Nat → Nat → Nat} {cf : Nat → Nat → Int32} {cg : Nat → Nat → Nat → Int32} {oa : Nat} {o : Nat → Int64} (u x : Int32) (hn15 : n ≤ 15) : fw_C (S := Unit) l yL_arrive wsL_arrive ({ frames := 9, cells := 3, slots := 18, locals := 155 }) 3 18 true [.ref (ba 6), .int u, .int x, .ref oa] D (tyS K) (OW K oa o ++ BW K ba bf bg n ca cf cg) (fun r _ => r = some (.int (b_arr_k n cf cg u x))) (fun u0 => if b_arr_k n cf cg u x = 0 then OW K oa (vp_updL o 0 (b2i (b_must (upd bf 7 (bf 7 + 1)) bg (b_arr_f bf cf (ix u) x) cg (ix u) = true)).toInt64) ++ BW K ba (upd bf 7 (bf 7 + 1)) bg n ca (b_arr_f bf cf (ix u) x) cg else OW K oa o ++ BW K ba bf bg n ca cf cg) (fun _ => False) := by
  refine fw_metH (maxL := 5) (ret := (some .int)) (by decide) rfl (Nat.le_of_ble_eq_true rfl) ?_
  intro p e s m args below meth c A X hr hlk htab hE
  refine fw_lv (lv' := [(0, .ref (ba 6)), (1, .int u), (2, .int x), (3, .ref oa)]) [0, 1, 2, 3] rfl ?_
  refine fw_aload_n (pc := 0) X dL_arrive_0 rfl 3 rfl ?_
  refine fw_iconst (pc := 1) (v := 0) X dL_arrive_1 (by decide) ?_
  refine fw_aload_n (pc := 2) X dL_arrive_2 rfl 0 rfl ?_
  refine fw_iload_n (pc := 3) X dL_arrive_3 rfl 1 rfl ?_
  refine fw_iload_n (pc := 4) X dL_arrive_4 rfl 2 rfl ?_
  refine fw_pm (ws' := BW K ba bf bg n ca cf cg ++ OW K oa o) List.perm_append_comm ?_
  refine fw_callVR (pc := 5) (n := 2) (C := (RX1, TX1, 10)) (ci := 1) (q0 := 0) X hE [.int u, .int x] (ct_X1_arrive hl u x hn15) (fun _ => rfl) gL_arrive_X1_arrive rfl ⟨rfl, rfl⟩ ⟨rfl, dsc_X1_arrive⟩ ⟨(Nat.le_of_ble_eq_true rfl), (Nat.le_of_ble_eq_true rfl)⟩ rfl B_obj rfl rfl (Nat.le_of_ble_eq_true rfl) dL_arrive_5 ⟨(Nat.le_of_ble_eq_true rfl), (Nat.le_of_ble_eq_true rfl)⟩ (fun E q => ?_) (fun r0 u0 hq => ?_)
  · rcases q with ⟨rfl, hk⟩ | ⟨rfl, hk⟩ | ⟨rfl, hk⟩
    · refine fw_catch0 (pc := 5) X htab (by decide) (by decide) kL_arrive_clIO ((hE rfl).2.2.2.1 fw_IO fw_c_IO) (fun q9 => ?_)
      refine fw_pm (ws' := OW K oa o ++ BW K ba bf bg n ca cf cg) List.perm_append_comm ?_
      refine fw_astore (pc := 20) (lv' := [(4, .ref q9), (0, .ref (ba 6)), (1, .int u), (2, .int x), (3, .ref oa)]) X dL_arrive_20 (by decide) rfl ?_
      refine fw_iconst (pc := 22) (v := 1) X dL_arrive_22 (by decide) ?_
      exact fw_iret (pc := 23) X hr hlk (Nat.le_of_ble_eq_true rfl) (Nat.le_of_ble_eq_true rfl) dL_arrive_23 () (by rw [hk]) (if_neg (by rw [hk]; decide)).symm
    · refine fw_catch1 (pc := 5) X htab (by decide) kL_arrive_clIO (hE rfl).2.2.2.2.2.2.2.1 (by decide) (by decide) kL_arrive_clIA ((hE rfl).2.2.2.1 fw_IA fw_c_IA) (fun q9 => ?_)
      refine fw_pm (ws' := OW K oa o ++ BW K ba bf bg n ca cf cg) List.perm_append_comm ?_
      refine fw_astore (pc := 24) (lv' := [(4, .ref q9), (0, .ref (ba 6)), (1, .int u), (2, .int x), (3, .ref oa)]) X dL_arrive_24 (by decide) rfl ?_
      refine fw_iconst (pc := 26) (v := 2) X dL_arrive_26 (by decide) ?_
      exact fw_iret (pc := 27) X hr hlk (Nat.le_of_ble_eq_true rfl) (Nat.le_of_ble_eq_true rfl) dL_arrive_27 () (by rw [hk]) (if_neg (by rw [hk]; decide)).symm
    · refine fw_catch2 (pc := 5) X htab (by decide) kL_arrive_clIO (hE rfl).2.2.2.2.2.2.2.2.1 (by decide) kL_arrive_clIA (hE rfl).2.2.2.2.2.2.2.2.2 (by decide) (by decide) kL_arrive_clIS ((hE rfl).2.2.2.1 fw_IS fw_c_IS) (fun q9 => ?_)
      refine fw_pm (ws' := OW K oa o ++ BW K ba bf bg n ca cf cg) List.perm_append_comm ?_
      refine fw_astore (pc := 28) (lv' := [(4, .ref q9), (0, .ref (ba 6)), (1, .int u), (2, .int x), (3, .ref oa)]) X dL_arrive_28 (by decide) rfl ?_
      refine fw_iconst (pc := 30) (v := 3) X dL_arrive_30 (by decide) ?_
      exact fw_iret (pc := 31) X hr hlk (Nat.le_of_ble_eq_true rfl) (Nat.le_of_ble_eq_true rfl) dL_arrive_31 () (by rw [hk]) (if_neg (by rw [hk]; decide)).symm
  · obtain ⟨hk, rfl⟩ := hq
    refine fw_pm (ws' := OW K oa o ++ BW K ba (upd bf 7 (bf 7 + 1)) bg n ca (b_arr_f bf cf (ix u) x) cg) List.perm_append_comm ?_
    by_cases hb : b_must (upd bf 7 (bf 7 + 1)) bg (b_arr_f bf cf (ix u) x) cg (ix u) = true
    · refine fw_iv (y := 1) (if_pos hb) ?_
      refine fw_if_eq (pc := 8) (tgt := 15) X dL_arrive_8 (by decide) (fun q => absurd q (by decide)) (fun _ => ?_)
      refine fw_lconst (pc := 11) (v := 1) X dL_arrive_11 (by decide) ?_
      refine fw_goto (pc := 12) (tgt := 16) X dL_arrive_12 (by decide) ?_
      refine fw_last (pc := 16) (n := 1) (cA := K 2) (f := o) (ws' := OW K oa (vp_updL o 0 1) ++ BW K ba (upd bf 7 (bf 7 + 1)) bg n ca (b_arr_f bf cf (ix u) x) cg) X 0 2 rfl rfl 0 (show (0 : Int32) = nI 0 from rfl) (by decide) (by decide) dL_arrive_16 rfl ?_
      refine fw_goto (pc := 17) (tgt := 32) X dL_arrive_17 (by decide) ?_
      refine fw_iconst (pc := 32) (v := 0) X dL_arrive_32 (by decide) ?_
      exact fw_iret (pc := 33) X hr hlk (Nat.le_of_ble_eq_true rfl) (Nat.le_of_ble_eq_true rfl) dL_arrive_33 u0 (by rw [hk]) (by rw [if_pos hk, show (b2i (b_must (upd bf 7 (bf 7 + 1)) bg (b_arr_f bf cf (ix u) x) cg (ix u) = true)).toInt64 = 1 from by rw [b2i, if_pos hb]; rfl])
    · refine fw_iv (y := 0) (if_neg hb) ?_
      refine fw_if_eq (pc := 8) (tgt := 15) X dL_arrive_8 (by decide) (fun _ => ?_) (fun q => absurd rfl q)
      refine fw_lconst (pc := 15) (v := 0) X dL_arrive_15 (by decide) ?_
      refine fw_last (pc := 16) (n := 1) (cA := K 2) (f := o) (ws' := OW K oa (vp_updL o 0 0) ++ BW K ba (upd bf 7 (bf 7 + 1)) bg n ca (b_arr_f bf cf (ix u) x) cg) X 0 2 rfl rfl 0 (show (0 : Int32) = nI 0 from rfl) (by decide) (by decide) dL_arrive_16 rfl ?_
      refine fw_goto (pc := 17) (tgt := 32) X dL_arrive_17 (by decide) ?_
      refine fw_iconst (pc := 32) (v := 0) X dL_arrive_32 (by decide) ?_
      exact fw_iret (pc := 33) X hr hlk (Nat.le_of_ble_eq_true rfl) (Nat.le_of_ble_eq_true rfl) dL_arrive_33 u0 (by rw [hk]) (by rw [if_pos hk, show (b2i (b_must (upd bf 7 (bf 7 + 1)) bg (b_arr_f bf cf (ix u) x) cg (ix u) = true)).toInt64 = 0 from by rw [b2i, if_neg hb]; rfl])
theorem kL_risk_clIO : Cond.classLink RL 31 fw_IO ∈ wsL_risk := by decide +kernel
theorem kL_risk_clIS : Cond.classLink RL 22 fw_IS ∈ wsL_risk := by decide +kernel
theorem dsc_L_risk : fw_dsc yL_risk 3 := by decide +kernel
set_option maxHeartbeats 4000000 in
set_option maxRecDepth 100000 in
theorem ct_L_risk {l : Launch} (hl : l.stackTraces = false) {D : va_G} {K : Nat → ClassId} {ba : Nat → Nat} {bf : Nat → Int32} {bg : Nat → Nat → Int32} {n : Nat} {ca : Nat → Nat → Nat} {cf : Nat → Nat → Int32} {cg : Nat → Nat → Nat → Int32} {oa : Nat} {o : Nat → Int64} (u : Int32) (hn15 : n ≤ 15) : fw_C (S := Unit) l yL_risk wsL_risk ({ frames := 8, cells := 2, slots := 12, locals := 134 }) 2 12 true [.ref (ba 6), .int u, .ref oa] D (tyS K) (OW K oa o ++ BW K ba bf bg n ca cf cg) (fun r _ => r = some (.int (b_rsk_k n cf u))) (fun u0 => if b_rsk_k n cf u = 0 then OW K oa (vp_updL o 0 (b_risk bg cf cg (ix u)).toInt64) ++ BW K ba bf bg n ca cf cg else OW K oa o ++ BW K ba bf bg n ca cf cg) (fun _ => False) := by
  refine fw_metH (maxL := 4) (ret := (some .int)) (by decide) rfl (Nat.le_of_ble_eq_true rfl) ?_
  intro p e s m args below meth c A X hr hlk htab hE
  refine fw_lv (lv' := [(0, .ref (ba 6)), (1, .int u), (2, .ref oa)]) [0, 1, 2] rfl ?_
  refine fw_aload_n (pc := 0) X dL_risk_0 rfl 2 rfl ?_
  refine fw_iconst (pc := 1) (v := 0) X dL_risk_1 (by decide) ?_
  refine fw_aload_n (pc := 2) X dL_risk_2 rfl 0 rfl ?_
  refine fw_iload_n (pc := 3) X dL_risk_3 rfl 1 rfl ?_
  refine fw_pm (ws' := BW K ba bf bg n ca cf cg ++ OW K oa o) List.perm_append_comm ?_
  refine fw_callVR (pc := 4) (n := 1) (C := (RX1, TX1, 10)) (ci := 1) (q0 := 0) X hE [.int u] (ct_X1_risk hl u hn15) (fun _ => rfl) gL_risk_X1_risk rfl ⟨rfl, rfl⟩ ⟨rfl, dsc_X1_risk⟩ ⟨(Nat.le_of_ble_eq_true rfl), (Nat.le_of_ble_eq_true rfl)⟩ rfl B_obj rfl rfl (Nat.le_of_ble_eq_true rfl) dL_risk_4 ⟨(Nat.le_of_ble_eq_true rfl), (Nat.le_of_ble_eq_true rfl)⟩ (fun E q => ?_) (fun r0 u0 hq => ?_)
  · rcases q with ⟨rfl, hk⟩ | ⟨rfl, hk⟩
    · refine fw_catch0 (pc := 4) X htab (by decide) (by decide) kL_risk_clIO ((hE rfl).2.2.2.1 fw_IO fw_c_IO) (fun q9 => ?_)
      refine fw_pm (ws' := OW K oa o ++ BW K ba bf bg n ca cf cg) List.perm_append_comm ?_
      refine fw_astore_n (pc := 12) (lv' := [(3, .ref q9), (0, .ref (ba 6)), (1, .int u), (2, .ref oa)]) X dL_risk_12 rfl (by decide) rfl ?_
      refine fw_iconst (pc := 13) (v := 1) X dL_risk_13 (by decide) ?_
      exact fw_iret (pc := 14) X hr hlk (Nat.le_of_ble_eq_true rfl) (Nat.le_of_ble_eq_true rfl) dL_risk_14 () (by rw [hk]) (if_neg (by rw [hk]; decide)).symm
    · refine fw_catch1 (pc := 4) X htab (by decide) kL_risk_clIO (hE rfl).2.2.2.2.2.2.2.2.1 (by decide) (by decide) kL_risk_clIS ((hE rfl).2.2.2.1 fw_IS fw_c_IS) (fun q9 => ?_)
      refine fw_pm (ws' := OW K oa o ++ BW K ba bf bg n ca cf cg) List.perm_append_comm ?_
      refine fw_astore_n (pc := 15) (lv' := [(3, .ref q9), (0, .ref (ba 6)), (1, .int u), (2, .ref oa)]) X dL_risk_15 rfl (by decide) rfl ?_
      refine fw_iconst (pc := 16) (v := 2) X dL_risk_16 (by decide) ?_
      exact fw_iret (pc := 17) X hr hlk (Nat.le_of_ble_eq_true rfl) (Nat.le_of_ble_eq_true rfl) dL_risk_17 () (by rw [hk]) (if_neg (by rw [hk]; decide)).symm
  · obtain ⟨hk, rfl⟩ := hq
    refine fw_pm (ws' := OW K oa o ++ BW K ba bf bg n ca cf cg) List.perm_append_comm ?_
    refine fw_i2l (pc := 7) (v := (b_risk bg cf cg (ix u)).toInt64) X dL_risk_7 rfl ?_
    refine fw_last (pc := 8) (n := 1) (cA := K 2) (f := o) (ws' := OW K oa (vp_updL o 0 (b_risk bg cf cg (ix u)).toInt64) ++ BW K ba bf bg n ca cf cg) X 0 2 rfl rfl 0 (show (0 : Int32) = nI 0 from rfl) (by decide) (by decide) dL_risk_8 rfl ?_
    refine fw_goto (pc := 9) (tgt := 18) X dL_risk_9 (by decide) ?_
    refine fw_iconst (pc := 18) (v := 0) X dL_risk_18 (by decide) ?_
    exact fw_iret (pc := 19) X hr hlk (Nat.le_of_ble_eq_true rfl) (Nat.le_of_ble_eq_true rfl) dL_risk_19 u0 (by rw [hk]) (if_pos hk).symm
theorem kL_mustSearch_clIO : Cond.classLink RL 31 fw_IO ∈ wsL_mustSearch := by decide +kernel
theorem dsc_L_mustSearch : fw_dsc yL_mustSearch 3 := by decide +kernel
set_option maxHeartbeats 4000000 in
set_option maxRecDepth 100000 in
theorem ct_L_mustSearch {l : Launch} (hl : l.stackTraces = false) {D : va_G} {K : Nat → ClassId} {ba : Nat → Nat} {bf : Nat → Int32} {bg : Nat → Nat → Int32} {n : Nat} {ca : Nat → Nat → Nat} {cf : Nat → Nat → Int32} {cg : Nat → Nat → Nat → Int32} {oa : Nat} {o : Nat → Int64} (u : Int32) (hn15 : n ≤ 15) : fw_C (S := Unit) l yL_mustSearch wsL_mustSearch ({ frames := 8, cells := 1, slots := 6, locals := 133 }) 1 6 true [.ref (ba 6), .int u, .ref oa] D (tyS K) (OW K oa o ++ BW K ba bf bg n ca cf cg) (fun r _ => r = some (.int (b_c_k n u))) (fun u0 => if b_c_k n u = 0 then OW K oa (vp_updL o 0 (b2i (b_must bf bg cf cg (ix u) = true)).toInt64) ++ BW K ba bf bg n ca cf cg else OW K oa o ++ BW K ba bf bg n ca cf cg) (fun _ => False) := by
  refine fw_metH (maxL := 4) (ret := (some .int)) (by decide) rfl (Nat.le_of_ble_eq_true rfl) ?_
  intro p e s m args below meth c A X hr hlk htab hE
  refine fw_lv (lv' := [(0, .ref (ba 6)), (1, .int u), (2, .ref oa)]) [0, 1, 2] rfl ?_
  refine fw_aload_n (pc := 0) X dL_mustSearch_0 rfl 2 rfl ?_
  refine fw_iconst (pc := 1) (v := 0) X dL_mustSearch_1 (by decide) ?_
  refine fw_aload_n (pc := 2) X dL_mustSearch_2 rfl 0 rfl ?_
  refine fw_iload_n (pc := 3) X dL_mustSearch_3 rfl 1 rfl ?_
  refine fw_pm (ws' := BW K ba bf bg n ca cf cg ++ OW K oa o) List.perm_append_comm ?_
  refine fw_callVR (pc := 4) (n := 1) (C := (RX1, TX1, 10)) (ci := 1) (q0 := 0) X hE [.int u] (ct_X1_mustSearch hl u hn15) (fun _ => rfl) gL_mustSearch_X1_mustSearch rfl ⟨rfl, rfl⟩ ⟨rfl, dsc_X1_mustSearch⟩ ⟨(Nat.le_of_ble_eq_true rfl), (Nat.le_of_ble_eq_true rfl)⟩ rfl B_obj rfl rfl (Nat.le_of_ble_eq_true rfl) dL_mustSearch_4 ⟨(Nat.le_of_ble_eq_true rfl), (Nat.le_of_ble_eq_true rfl)⟩ (fun E q => ?_) (fun r0 u0 hq => ?_)
  · obtain ⟨rfl, hk⟩ := q
    refine fw_catch0 (pc := 4) X htab (by decide) (by decide) kL_mustSearch_clIO ((hE rfl).2.2.2.1 fw_IO fw_c_IO) (fun q9 => ?_)
    refine fw_pm (ws' := OW K oa o ++ BW K ba bf bg n ca cf cg) List.perm_append_comm ?_
    refine fw_astore_n (pc := 19) (lv' := [(3, .ref q9), (0, .ref (ba 6)), (1, .int u), (2, .ref oa)]) X dL_mustSearch_19 rfl (by decide) rfl ?_
    refine fw_iconst (pc := 20) (v := 1) X dL_mustSearch_20 (by decide) ?_
    exact fw_iret (pc := 21) X hr hlk (Nat.le_of_ble_eq_true rfl) (Nat.le_of_ble_eq_true rfl) dL_mustSearch_21 () (by rw [hk]) (if_neg (by rw [hk]; decide)).symm
  · obtain ⟨hk, rfl⟩ := hq
    refine fw_pm (ws' := OW K oa o ++ BW K ba bf bg n ca cf cg) List.perm_append_comm ?_
    by_cases hb : b_must bf bg cf cg (ix u) = true
    · refine fw_iv (y := 1) (if_pos hb) ?_
      refine fw_if_eq (pc := 7) (tgt := 14) X dL_mustSearch_7 (by decide) (fun q => absurd q (by decide)) (fun _ => ?_)
      refine fw_lconst (pc := 10) (v := 1) X dL_mustSearch_10 (by decide) ?_
      refine fw_goto (pc := 11) (tgt := 15) X dL_mustSearch_11 (by decide) ?_
      refine fw_last (pc := 15) (n := 1) (cA := K 2) (f := o) (ws' := OW K oa (vp_updL o 0 1) ++ BW K ba bf bg n ca cf cg) X 0 2 rfl rfl 0 (show (0 : Int32) = nI 0 from rfl) (by decide) (by decide) dL_mustSearch_15 rfl ?_
      refine fw_goto (pc := 16) (tgt := 22) X dL_mustSearch_16 (by decide) ?_
      refine fw_iconst (pc := 22) (v := 0) X dL_mustSearch_22 (by decide) ?_
      exact fw_iret (pc := 23) X hr hlk (Nat.le_of_ble_eq_true rfl) (Nat.le_of_ble_eq_true rfl) dL_mustSearch_23 u0 (by rw [hk]) (by rw [if_pos hk, show (b2i (b_must bf bg cf cg (ix u) = true)).toInt64 = 1 from by rw [b2i, if_pos hb]; rfl])
    · refine fw_iv (y := 0) (if_neg hb) ?_
      refine fw_if_eq (pc := 7) (tgt := 14) X dL_mustSearch_7 (by decide) (fun _ => ?_) (fun q => absurd rfl q)
      refine fw_lconst (pc := 14) (v := 0) X dL_mustSearch_14 (by decide) ?_
      refine fw_last (pc := 15) (n := 1) (cA := K 2) (f := o) (ws' := OW K oa (vp_updL o 0 0) ++ BW K ba bf bg n ca cf cg) X 0 2 rfl rfl 0 (show (0 : Int32) = nI 0 from rfl) (by decide) (by decide) dL_mustSearch_15 rfl ?_
      refine fw_goto (pc := 16) (tgt := 22) X dL_mustSearch_16 (by decide) ?_
      refine fw_iconst (pc := 22) (v := 0) X dL_mustSearch_22 (by decide) ?_
      exact fw_iret (pc := 23) X hr hlk (Nat.le_of_ble_eq_true rfl) (Nat.le_of_ble_eq_true rfl) dL_mustSearch_23 u0 (by rw [hk]) (by rw [if_pos hk, show (b2i (b_must bf bg cf cg (ix u) = true)).toInt64 = 0 from by rw [b2i, if_neg hb]; rfl])
theorem kL_search_clIO : Cond.classLink RL 31 fw_IO ∈ wsL_search := by decide +kernel
theorem kL_search_clIA : Cond.classLink RL 13 fw_IA ∈ wsL_search := by decide +kernel
theorem kL_search_clIS : Cond.classLink RL 22 fw_IS ∈ wsL_search := by decide +kernel
theorem dsc_L_search : fw_dsc yL_search 5 := by decide +kernel
set_option maxHeartbeats 4000000 in
set_option maxRecDepth 100000 in
theorem ct_L_search {l : Launch} (hl : l.stackTraces = false) {D : va_G} {K : Nat → ClassId} {ba : Nat → Nat} {bf : Nat → Int32} {bg : Nat → Nat → Int32} {n : Nat} {ca : Nat → Nat → Nat} {cf : Nat → Nat → Int32} {cg : Nat → Nat → Nat → Int32} {oa : Nat} {o : Nat → Int64} (u v x : Int32) (hn15 : n ≤ 15) : fw_C (S := Unit) l yL_search wsL_search ({ frames := 9, cells := 4, slots := 24, locals := 156 }) 4 24 true [.ref (ba 6), .int u, .int v, .int x, .ref oa] D (tyS K) (OW K oa o ++ BW K ba bf bg n ca cf cg) (fun r _ => r = some (.int (b_sch_k n cf u v x))) (fun u0 => if b_sch_k n cf u v x = 0 then OW K oa (vp_updL o 0 (b_ns_cf cf cg (ix u) (ix v) v x (ix u) 7).toInt64) ++ BW K ba bf bg n ca (b_ns_cf cf cg (ix u) (ix v) v x) (b_ns_cg cg (ix u) (ix v) x) else OW K oa o ++ BW K ba bf bg n ca cf cg) (fun _ => False) := by
  refine fw_metH (maxL := 6) (ret := (some .int)) (by decide) rfl (Nat.le_of_ble_eq_true rfl) ?_
  intro p e s m args below meth c A X hr hlk htab hE
  refine fw_lv (lv' := [(0, .ref (ba 6)), (1, .int u), (2, .int v), (3, .int x), (4, .ref oa)]) [0, 1, 2, 3, 4] rfl ?_
  refine fw_aload (pc := 0) X dL_search_0 4 rfl ?_
  refine fw_iconst (pc := 2) (v := 0) X dL_search_2 (by decide) ?_
  refine fw_aload_n (pc := 3) X dL_search_3 rfl 0 rfl ?_
  refine fw_iload_n (pc := 4) X dL_search_4 rfl 1 rfl ?_
  refine fw_iload_n (pc := 5) X dL_search_5 rfl 2 rfl ?_
  refine fw_iload_n (pc := 6) X dL_search_6 rfl 3 rfl ?_
  refine fw_pm (ws' := BW K ba bf bg n ca cf cg ++ OW K oa o) List.perm_append_comm ?_
  refine fw_callVR (pc := 7) (n := 3) (C := (RX1, TX1, 10)) (ci := 1) (q0 := 0) X hE [.int u, .int v, .int x] (ct_X1_search hl u v x hn15) (fun _ => rfl) gL_search_X1_search rfl ⟨rfl, rfl⟩ ⟨rfl, dsc_X1_search⟩ ⟨(Nat.le_of_ble_eq_true rfl), (Nat.le_of_ble_eq_true rfl)⟩ rfl B_obj rfl rfl (Nat.le_of_ble_eq_true rfl) dL_search_7 ⟨(Nat.le_of_ble_eq_true rfl), (Nat.le_of_ble_eq_true rfl)⟩ (fun E q => ?_) (fun r0 u0 hq => ?_)
  · rcases q with ⟨rfl, hk⟩ | ⟨rfl, hk⟩ | ⟨rfl, hk⟩
    · refine fw_catch0 (pc := 7) X htab (by decide) (by decide) kL_search_clIO ((hE rfl).2.2.2.1 fw_IO fw_c_IO) (fun q9 => ?_)
      refine fw_pm (ws' := OW K oa o ++ BW K ba bf bg n ca cf cg) List.perm_append_comm ?_
      refine fw_astore (pc := 15) (lv' := [(5, .ref q9), (0, .ref (ba 6)), (1, .int u), (2, .int v), (3, .int x), (4, .ref oa)]) X dL_search_15 (by decide) rfl ?_
      refine fw_iconst (pc := 17) (v := 1) X dL_search_17 (by decide) ?_
      exact fw_iret (pc := 18) X hr hlk (Nat.le_of_ble_eq_true rfl) (Nat.le_of_ble_eq_true rfl) dL_search_18 () (by rw [hk]) (if_neg (by rw [hk]; decide)).symm
    · refine fw_catch1 (pc := 7) X htab (by decide) kL_search_clIO (hE rfl).2.2.2.2.2.2.2.1 (by decide) (by decide) kL_search_clIA ((hE rfl).2.2.2.1 fw_IA fw_c_IA) (fun q9 => ?_)
      refine fw_pm (ws' := OW K oa o ++ BW K ba bf bg n ca cf cg) List.perm_append_comm ?_
      refine fw_astore (pc := 19) (lv' := [(5, .ref q9), (0, .ref (ba 6)), (1, .int u), (2, .int v), (3, .int x), (4, .ref oa)]) X dL_search_19 (by decide) rfl ?_
      refine fw_iconst (pc := 21) (v := 2) X dL_search_21 (by decide) ?_
      exact fw_iret (pc := 22) X hr hlk (Nat.le_of_ble_eq_true rfl) (Nat.le_of_ble_eq_true rfl) dL_search_22 () (by rw [hk]) (if_neg (by rw [hk]; decide)).symm
    · refine fw_catch2 (pc := 7) X htab (by decide) kL_search_clIO (hE rfl).2.2.2.2.2.2.2.2.1 (by decide) kL_search_clIA (hE rfl).2.2.2.2.2.2.2.2.2 (by decide) (by decide) kL_search_clIS ((hE rfl).2.2.2.1 fw_IS fw_c_IS) (fun q9 => ?_)
      refine fw_pm (ws' := OW K oa o ++ BW K ba bf bg n ca cf cg) List.perm_append_comm ?_
      refine fw_astore (pc := 23) (lv' := [(5, .ref q9), (0, .ref (ba 6)), (1, .int u), (2, .int v), (3, .int x), (4, .ref oa)]) X dL_search_23 (by decide) rfl ?_
      refine fw_iconst (pc := 25) (v := 3) X dL_search_25 (by decide) ?_
      exact fw_iret (pc := 26) X hr hlk (Nat.le_of_ble_eq_true rfl) (Nat.le_of_ble_eq_true rfl) dL_search_26 () (by rw [hk]) (if_neg (by rw [hk]; decide)).symm
  · obtain ⟨hk, rfl⟩ := hq
    refine fw_pm (ws' := OW K oa o ++ BW K ba bf bg n ca (b_ns_cf cf cg (ix u) (ix v) v x) (b_ns_cg cg (ix u) (ix v) x)) List.perm_append_comm ?_
    refine fw_i2l (pc := 10) (v := (b_ns_cf cf cg (ix u) (ix v) v x (ix u) 7).toInt64) X dL_search_10 rfl ?_
    refine fw_last (pc := 11) (n := 1) (cA := K 2) (f := o) (ws' := OW K oa (vp_updL o 0 (b_ns_cf cf cg (ix u) (ix v) v x (ix u) 7).toInt64) ++ BW K ba bf bg n ca (b_ns_cf cf cg (ix u) (ix v) v x) (b_ns_cg cg (ix u) (ix v) x)) X 0 2 rfl rfl 0 (show (0 : Int32) = nI 0 from rfl) (by decide) (by decide) dL_search_11 rfl ?_
    refine fw_goto (pc := 12) (tgt := 27) X dL_search_12 (by decide) ?_
    refine fw_iconst (pc := 27) (v := 0) X dL_search_27 (by decide) ?_
    exact fw_iret (pc := 28) X hr hlk (Nat.le_of_ble_eq_true rfl) (Nat.le_of_ble_eq_true rfl) dL_search_28 u0 (by rw [hk]) (if_pos hk).symm
theorem kL_bond_clIO : Cond.classLink RL 31 fw_IO ∈ wsL_bond := by decide +kernel
theorem kL_bond_clIA : Cond.classLink RL 13 fw_IA ∈ wsL_bond := by decide +kernel
theorem kL_bond_clIS : Cond.classLink RL 22 fw_IS ∈ wsL_bond := by decide +kernel
theorem dsc_L_bond : fw_dsc yL_bond 4 := by decide +kernel
set_option maxHeartbeats 4000000 in
set_option maxRecDepth 100000 in
theorem ct_L_bond {l : Launch} (hl : l.stackTraces = false) {D : va_G} {K : Nat → ClassId} {ba : Nat → Nat} {bf : Nat → Int32} {bg : Nat → Nat → Int32} {n : Nat} {ca : Nat → Nat → Nat} {cf : Nat → Nat → Int32} {cg : Nat → Nat → Nat → Int32} {oa : Nat} {o : Nat → Int64} (u x : Int32) (hn15 : n ≤ 15) (hT : ∀ k, k < n → cf k 0 = nI (ix (cf k 0)) ∧ ix (cf k 0) < 4) : fw_C (S := Unit) l yL_bond wsL_bond ({ frames := 9, cells := 3, slots := 18, locals := 156 }) 3 18 true [.ref (ba 6), .int u, .int x, .ref oa] D (tyS K) (OW K oa o ++ BW K ba bf bg n ca cf cg) (fun r _ => r = some (.int (b_bnd_k bf bg n cf cg u x))) (fun u0 => if b_bnd_k bf bg n cf cg u x = 0 then OW K oa (vp_updL o 0 (b_dn bg cg (ix u) 6).toInt64) ++ BW K ba bf (va_up bg 3 (upd (bg 3) (ix (cf (ix u) 0)) (bg 3 (ix (cf (ix u) 0)) + b_dn bg cg (ix u) 6))) n ca (b_en_cf cf (b_td (b_en_cg (va_up bg 3 (upd (bg 3) (ix (cf (ix u) 0)) (bg 3 (ix (cf (ix u) 0)) + b_dn bg cg (ix u) 6))) cg (ix u) (ix x)) (ix u) 6) (ix u)) (b_en_cg (va_up bg 3 (upd (bg 3) (ix (cf (ix u) 0)) (bg 3 (ix (cf (ix u) 0)) + b_dn bg cg (ix u) 6))) cg (ix u) (ix x)) else OW K oa o ++ BW K ba bf bg n ca cf cg) (fun _ => False) := by
  refine fw_metH (maxL := 5) (ret := (some .int)) (by decide) rfl (Nat.le_of_ble_eq_true rfl) ?_
  intro p e s m args below meth c A X hr hlk htab hE
  refine fw_lv (lv' := [(0, .ref (ba 6)), (1, .int u), (2, .int x), (3, .ref oa)]) [0, 1, 2, 3] rfl ?_
  refine fw_aload_n (pc := 0) X dL_bond_0 rfl 3 rfl ?_
  refine fw_iconst (pc := 1) (v := 0) X dL_bond_1 (by decide) ?_
  refine fw_aload_n (pc := 2) X dL_bond_2 rfl 0 rfl ?_
  refine fw_iload_n (pc := 3) X dL_bond_3 rfl 1 rfl ?_
  refine fw_iload_n (pc := 4) X dL_bond_4 rfl 2 rfl ?_
  refine fw_pm (ws' := BW K ba bf bg n ca cf cg ++ OW K oa o) List.perm_append_comm ?_
  refine fw_callVR (pc := 5) (n := 2) (C := (RX1, TX1, 10)) (ci := 1) (q0 := 0) X hE [.int u, .int x] (ct_X1_bond hl u x hn15 hT) (fun _ => rfl) gL_bond_X1_bond rfl ⟨rfl, rfl⟩ ⟨rfl, dsc_X1_bond⟩ ⟨(Nat.le_of_ble_eq_true rfl), (Nat.le_of_ble_eq_true rfl)⟩ rfl B_obj rfl rfl (Nat.le_of_ble_eq_true rfl) dL_bond_5 ⟨(Nat.le_of_ble_eq_true rfl), (Nat.le_of_ble_eq_true rfl)⟩ (fun E q => ?_) (fun r0 u0 hq => ?_)
  · rcases q with ⟨rfl, hk⟩ | ⟨rfl, hk⟩ | ⟨rfl, hk⟩
    · refine fw_catch0 (pc := 5) X htab (by decide) (by decide) kL_bond_clIO ((hE rfl).2.2.2.1 fw_IO fw_c_IO) (fun q9 => ?_)
      refine fw_pm (ws' := OW K oa o ++ BW K ba bf bg n ca cf cg) List.perm_append_comm ?_
      refine fw_astore (pc := 13) (lv' := [(4, .ref q9), (0, .ref (ba 6)), (1, .int u), (2, .int x), (3, .ref oa)]) X dL_bond_13 (by decide) rfl ?_
      refine fw_iconst (pc := 15) (v := 1) X dL_bond_15 (by decide) ?_
      exact fw_iret (pc := 16) X hr hlk (Nat.le_of_ble_eq_true rfl) (Nat.le_of_ble_eq_true rfl) dL_bond_16 () (by rw [hk]) (if_neg (by rw [hk]; decide)).symm
    · refine fw_catch1 (pc := 5) X htab (by decide) kL_bond_clIO (hE rfl).2.2.2.2.2.2.2.1 (by decide) (by decide) kL_bond_clIA ((hE rfl).2.2.2.1 fw_IA fw_c_IA) (fun q9 => ?_)
      refine fw_pm (ws' := OW K oa o ++ BW K ba bf bg n ca cf cg) List.perm_append_comm ?_
      refine fw_astore (pc := 17) (lv' := [(4, .ref q9), (0, .ref (ba 6)), (1, .int u), (2, .int x), (3, .ref oa)]) X dL_bond_17 (by decide) rfl ?_
      refine fw_iconst (pc := 19) (v := 2) X dL_bond_19 (by decide) ?_
      exact fw_iret (pc := 20) X hr hlk (Nat.le_of_ble_eq_true rfl) (Nat.le_of_ble_eq_true rfl) dL_bond_20 () (by rw [hk]) (if_neg (by rw [hk]; decide)).symm
    · refine fw_catch2 (pc := 5) X htab (by decide) kL_bond_clIO (hE rfl).2.2.2.2.2.2.2.2.1 (by decide) kL_bond_clIA (hE rfl).2.2.2.2.2.2.2.2.2 (by decide) (by decide) kL_bond_clIS ((hE rfl).2.2.2.1 fw_IS fw_c_IS) (fun q9 => ?_)
      refine fw_pm (ws' := OW K oa o ++ BW K ba bf bg n ca cf cg) List.perm_append_comm ?_
      refine fw_astore (pc := 21) (lv' := [(4, .ref q9), (0, .ref (ba 6)), (1, .int u), (2, .int x), (3, .ref oa)]) X dL_bond_21 (by decide) rfl ?_
      refine fw_iconst (pc := 23) (v := 3) X dL_bond_23 (by decide) ?_
      exact fw_iret (pc := 24) X hr hlk (Nat.le_of_ble_eq_true rfl) (Nat.le_of_ble_eq_true rfl) dL_bond_24 () (by rw [hk]) (if_neg (by rw [hk]; decide)).symm
  · obtain ⟨hk, rfl⟩ := hq
    refine fw_pm (ws' := OW K oa o ++ BW K ba bf (va_up bg 3 (upd (bg 3) (ix (cf (ix u) 0)) (bg 3 (ix (cf (ix u) 0)) + b_dn bg cg (ix u) 6))) n ca (b_en_cf cf (b_td (b_en_cg (va_up bg 3 (upd (bg 3) (ix (cf (ix u) 0)) (bg 3 (ix (cf (ix u) 0)) + b_dn bg cg (ix u) 6))) cg (ix u) (ix x)) (ix u) 6) (ix u)) (b_en_cg (va_up bg 3 (upd (bg 3) (ix (cf (ix u) 0)) (bg 3 (ix (cf (ix u) 0)) + b_dn bg cg (ix u) 6))) cg (ix u) (ix x))) List.perm_append_comm ?_
    refine fw_i2l (pc := 8) (v := (b_dn bg cg (ix u) 6).toInt64) X dL_bond_8 rfl ?_
    refine fw_last (pc := 9) (n := 1) (cA := K 2) (f := o) (ws' := OW K oa (vp_updL o 0 (b_dn bg cg (ix u) 6).toInt64) ++ BW K ba bf (va_up bg 3 (upd (bg 3) (ix (cf (ix u) 0)) (bg 3 (ix (cf (ix u) 0)) + b_dn bg cg (ix u) 6))) n ca (b_en_cf cf (b_td (b_en_cg (va_up bg 3 (upd (bg 3) (ix (cf (ix u) 0)) (bg 3 (ix (cf (ix u) 0)) + b_dn bg cg (ix u) 6))) cg (ix u) (ix x)) (ix u) 6) (ix u)) (b_en_cg (va_up bg 3 (upd (bg 3) (ix (cf (ix u) 0)) (bg 3 (ix (cf (ix u) 0)) + b_dn bg cg (ix u) 6))) cg (ix u) (ix x))) X 0 2 rfl rfl 0 (show (0 : Int32) = nI 0 from rfl) (by decide) (by decide) dL_bond_9 rfl ?_
    refine fw_goto (pc := 10) (tgt := 25) X dL_bond_10 (by decide) ?_
    refine fw_iconst (pc := 25) (v := 0) X dL_bond_25 (by decide) ?_
    exact fw_iret (pc := 26) X hr hlk (Nat.le_of_ble_eq_true rfl) (Nat.le_of_ble_eq_true rfl) dL_bond_26 u0 (by rw [hk]) (if_pos hk).symm
theorem kL_move_clIO : Cond.classLink RL 31 fw_IO ∈ wsL_move := by decide +kernel
theorem kL_move_clIA : Cond.classLink RL 13 fw_IA ∈ wsL_move := by decide +kernel
theorem kL_move_clIS : Cond.classLink RL 22 fw_IS ∈ wsL_move := by decide +kernel
theorem dsc_L_move : fw_dsc yL_move 7 := by decide +kernel
set_option maxHeartbeats 4000000 in
set_option maxRecDepth 100000 in
theorem ct_L_move {l : Launch} (hl : l.stackTraces = false) {D : va_G} {K : Nat → ClassId} {ba : Nat → Nat} {bf : Nat → Int32} {bg : Nat → Nat → Int32} {n : Nat} {ca : Nat → Nat → Nat} {cf : Nat → Nat → Int32} {cg : Nat → Nat → Nat → Int32} {oa : Nat} {o : Nat → Int64} (u v x y z : Int32) (hn15 : n ≤ 15) : fw_C (S := Unit) l yL_move wsL_move ({ frames := 10, cells := 7, slots := 42, locals := 182 }) 7 42 true [.ref (ba 6), .int u, .int v, .int x, .int y, .int z, .ref oa] D (tyS K) (OW K oa o ++ BW K ba bf bg n ca cf cg) (fun r _ => r = some (.int (b_mov_k n cg u v x y z))) (fun u0 => if b_mov_k n cg u v x y z = 0 then OW K oa (vp_updL o 0 (b_mv_g cg (ix u) (ix v) (ix x) (ix y) z (ix v * 3 + ix y)).toInt64) ++ BW K ba bf bg n ca cf (va_up cg (ix u) (va_up (cg (ix u)) 4 (b_mv_g cg (ix u) (ix v) (ix x) (ix y) z))) else OW K oa o ++ BW K ba bf bg n ca cf cg) (fun _ => False) := by
  refine fw_metH (maxL := 8) (ret := (some .int)) (by decide) rfl (Nat.le_of_ble_eq_true rfl) ?_
  intro p e s m args below meth c A X hr hlk htab hE
  refine fw_lv (lv' := [(0, .ref (ba 6)), (1, .int u), (2, .int v), (3, .int x), (4, .int y), (5, .int z), (6, .ref oa)]) [0, 1, 2, 3, 4, 5, 6] rfl ?_
  refine fw_aload (pc := 0) X dL_move_0 6 rfl ?_
  refine fw_iconst (pc := 2) (v := 0) X dL_move_2 (by decide) ?_
  refine fw_aload_n (pc := 3) X dL_move_3 rfl 0 rfl ?_
  refine fw_iload_n (pc := 4) X dL_move_4 rfl 1 rfl ?_
  refine fw_iload_n (pc := 5) X dL_move_5 rfl 2 rfl ?_
  refine fw_iload_n (pc := 6) X dL_move_6 rfl 3 rfl ?_
  refine fw_iload (pc := 7) X dL_move_7 4 rfl ?_
  refine fw_iload (pc := 9) X dL_move_9 5 rfl ?_
  refine fw_pm (ws' := BW K ba bf bg n ca cf cg ++ OW K oa o) List.perm_append_comm ?_
  refine fw_callVR (pc := 11) (n := 5) (C := (RX1, TX1, 10)) (ci := 1) (q0 := 0) X hE [.int u, .int v, .int x, .int y, .int z] (ct_X1_move hl u v x y z hn15) (fun _ => rfl) gL_move_X1_move rfl ⟨rfl, rfl⟩ ⟨rfl, dsc_X1_move⟩ ⟨(Nat.le_of_ble_eq_true rfl), (Nat.le_of_ble_eq_true rfl)⟩ rfl B_obj rfl rfl (Nat.le_of_ble_eq_true rfl) dL_move_11 ⟨(Nat.le_of_ble_eq_true rfl), (Nat.le_of_ble_eq_true rfl)⟩ (fun E q => ?_) (fun r0 u0 hq => ?_)
  · rcases q with ⟨rfl, hk⟩ | ⟨rfl, hk⟩ | ⟨rfl, hk⟩
    · refine fw_catch0 (pc := 11) X htab (by decide) (by decide) kL_move_clIO ((hE rfl).2.2.2.1 fw_IO fw_c_IO) (fun q9 => ?_)
      refine fw_pm (ws' := OW K oa o ++ BW K ba bf bg n ca cf cg) List.perm_append_comm ?_
      refine fw_astore (pc := 19) (lv' := [(7, .ref q9), (0, .ref (ba 6)), (1, .int u), (2, .int v), (3, .int x), (4, .int y), (5, .int z), (6, .ref oa)]) X dL_move_19 (by decide) rfl ?_
      refine fw_iconst (pc := 21) (v := 1) X dL_move_21 (by decide) ?_
      exact fw_iret (pc := 22) X hr hlk (Nat.le_of_ble_eq_true rfl) (Nat.le_of_ble_eq_true rfl) dL_move_22 () (by rw [hk]) (if_neg (by rw [hk]; decide)).symm
    · refine fw_catch1 (pc := 11) X htab (by decide) kL_move_clIO (hE rfl).2.2.2.2.2.2.2.1 (by decide) (by decide) kL_move_clIA ((hE rfl).2.2.2.1 fw_IA fw_c_IA) (fun q9 => ?_)
      refine fw_pm (ws' := OW K oa o ++ BW K ba bf bg n ca cf cg) List.perm_append_comm ?_
      refine fw_astore (pc := 23) (lv' := [(7, .ref q9), (0, .ref (ba 6)), (1, .int u), (2, .int v), (3, .int x), (4, .int y), (5, .int z), (6, .ref oa)]) X dL_move_23 (by decide) rfl ?_
      refine fw_iconst (pc := 25) (v := 2) X dL_move_25 (by decide) ?_
      exact fw_iret (pc := 26) X hr hlk (Nat.le_of_ble_eq_true rfl) (Nat.le_of_ble_eq_true rfl) dL_move_26 () (by rw [hk]) (if_neg (by rw [hk]; decide)).symm
    · refine fw_catch2 (pc := 11) X htab (by decide) kL_move_clIO (hE rfl).2.2.2.2.2.2.2.2.1 (by decide) kL_move_clIA (hE rfl).2.2.2.2.2.2.2.2.2 (by decide) (by decide) kL_move_clIS ((hE rfl).2.2.2.1 fw_IS fw_c_IS) (fun q9 => ?_)
      refine fw_pm (ws' := OW K oa o ++ BW K ba bf bg n ca cf cg) List.perm_append_comm ?_
      refine fw_astore (pc := 27) (lv' := [(7, .ref q9), (0, .ref (ba 6)), (1, .int u), (2, .int v), (3, .int x), (4, .int y), (5, .int z), (6, .ref oa)]) X dL_move_27 (by decide) rfl ?_
      refine fw_iconst (pc := 29) (v := 3) X dL_move_29 (by decide) ?_
      exact fw_iret (pc := 30) X hr hlk (Nat.le_of_ble_eq_true rfl) (Nat.le_of_ble_eq_true rfl) dL_move_30 () (by rw [hk]) (if_neg (by rw [hk]; decide)).symm
  · obtain ⟨hk, rfl⟩ := hq
    refine fw_pm (ws' := OW K oa o ++ BW K ba bf bg n ca cf (va_up cg (ix u) (va_up (cg (ix u)) 4 (b_mv_g cg (ix u) (ix v) (ix x) (ix y) z)))) List.perm_append_comm ?_
    refine fw_i2l (pc := 14) (v := (b_mv_g cg (ix u) (ix v) (ix x) (ix y) z (ix v * 3 + ix y)).toInt64) X dL_move_14 rfl ?_
    refine fw_last (pc := 15) (n := 1) (cA := K 2) (f := o) (ws' := OW K oa (vp_updL o 0 (b_mv_g cg (ix u) (ix v) (ix x) (ix y) z (ix v * 3 + ix y)).toInt64) ++ BW K ba bf bg n ca cf (va_up cg (ix u) (va_up (cg (ix u)) 4 (b_mv_g cg (ix u) (ix v) (ix x) (ix y) z)))) X 0 2 rfl rfl 0 (show (0 : Int32) = nI 0 from rfl) (by decide) (by decide) dL_move_15 rfl ?_
    refine fw_goto (pc := 16) (tgt := 31) X dL_move_16 (by decide) ?_
    refine fw_iconst (pc := 31) (v := 0) X dL_move_31 (by decide) ?_
    exact fw_iret (pc := 32) X hr hlk (Nat.le_of_ble_eq_true rfl) (Nat.le_of_ble_eq_true rfl) dL_move_32 u0 (by rw [hk]) (if_pos hk).symm
theorem kL_free_clIO : Cond.classLink RL 31 fw_IO ∈ wsL_free := by decide +kernel
theorem kL_free_clIA : Cond.classLink RL 13 fw_IA ∈ wsL_free := by decide +kernel
theorem kL_free_clIS : Cond.classLink RL 22 fw_IS ∈ wsL_free := by decide +kernel
theorem dsc_L_free : fw_dsc yL_free 6 := by decide +kernel
set_option maxHeartbeats 4000000 in
set_option maxRecDepth 100000 in
theorem ct_L_free {l : Launch} (hl : l.stackTraces = false) {D : va_G} {K : Nat → ClassId} {ba : Nat → Nat} {bf : Nat → Int32} {bg : Nat → Nat → Int32} {n : Nat} {ca : Nat → Nat → Nat} {cf : Nat → Nat → Int32} {cg : Nat → Nat → Nat → Int32} {oa : Nat} {o : Nat → Int64} (u v x y : Int32) (hn15 : n ≤ 15) (hT : ∀ k, k < n → cf k 0 = nI (ix (cf k 0)) ∧ ix (cf k 0) < 4) : fw_C (S := Unit) l yL_free wsL_free ({ frames := 10, cells := 5, slots := 30, locals := 181 }) 5 30 true [.ref (ba 6), .int u, .int v, .int x, .int y, .ref oa] D (tyS K) (OW K oa o ++ BW K ba bf bg n ca cf cg) (fun r _ => r = some (.int (b_fre_k n cg u v x y))) (fun u0 => if b_fre_k n cg u v x y = 0 then OW K oa (vp_updL o 0 (y * cg (ix u) 3 (ix v)).toInt64) ++ BW K ba bf (va_up (va_up bg 3 (upd (bg 3) (ix (cf (ix u) 0)) (bg 3 (ix (cf (ix u) 0)) - y * cg (ix u) 3 (ix v)))) 4 (upd (bg 4) (ix (cf (ix u) 0)) (bg 4 (ix (cf (ix u) 0)) + y * cg (ix u) 3 (ix v)))) n ca (b_to_cf cf (ix u) y) (va_up cg (ix u) (va_up (cg (ix u)) 4 (upd (cg (ix u) 4) (ix v * 3 + ix x) (cg (ix u) 4 (ix v * 3 + ix x) - y)))) else OW K oa o ++ BW K ba bf bg n ca cf cg) (fun _ => False) := by
  refine fw_metH (maxL := 7) (ret := (some .int)) (by decide) rfl (Nat.le_of_ble_eq_true rfl) ?_
  intro p e s m args below meth c A X hr hlk htab hE
  refine fw_lv (lv' := [(0, .ref (ba 6)), (1, .int u), (2, .int v), (3, .int x), (4, .int y), (5, .ref oa)]) [0, 1, 2, 3, 4, 5] rfl ?_
  refine fw_aload (pc := 0) X dL_free_0 5 rfl ?_
  refine fw_iconst (pc := 2) (v := 0) X dL_free_2 (by decide) ?_
  refine fw_aload_n (pc := 3) X dL_free_3 rfl 0 rfl ?_
  refine fw_iload_n (pc := 4) X dL_free_4 rfl 1 rfl ?_
  refine fw_iload_n (pc := 5) X dL_free_5 rfl 2 rfl ?_
  refine fw_iload_n (pc := 6) X dL_free_6 rfl 3 rfl ?_
  refine fw_iload (pc := 7) X dL_free_7 4 rfl ?_
  refine fw_pm (ws' := BW K ba bf bg n ca cf cg ++ OW K oa o) List.perm_append_comm ?_
  refine fw_callVR (pc := 9) (n := 4) (C := (RX1, TX1, 10)) (ci := 1) (q0 := 0) X hE [.int u, .int v, .int x, .int y] (ct_X1_free hl u v x y hn15 hT) (fun _ => rfl) gL_free_X1_free rfl ⟨rfl, rfl⟩ ⟨rfl, dsc_X1_free⟩ ⟨(Nat.le_of_ble_eq_true rfl), (Nat.le_of_ble_eq_true rfl)⟩ rfl B_obj rfl rfl (Nat.le_of_ble_eq_true rfl) dL_free_9 ⟨(Nat.le_of_ble_eq_true rfl), (Nat.le_of_ble_eq_true rfl)⟩ (fun E q => ?_) (fun r0 u0 hq => ?_)
  · rcases q with ⟨rfl, hk⟩ | ⟨rfl, hk⟩ | ⟨rfl, hk⟩
    · refine fw_catch0 (pc := 9) X htab (by decide) (by decide) kL_free_clIO ((hE rfl).2.2.2.1 fw_IO fw_c_IO) (fun q9 => ?_)
      refine fw_pm (ws' := OW K oa o ++ BW K ba bf bg n ca cf cg) List.perm_append_comm ?_
      refine fw_astore (pc := 17) (lv' := [(6, .ref q9), (0, .ref (ba 6)), (1, .int u), (2, .int v), (3, .int x), (4, .int y), (5, .ref oa)]) X dL_free_17 (by decide) rfl ?_
      refine fw_iconst (pc := 19) (v := 1) X dL_free_19 (by decide) ?_
      exact fw_iret (pc := 20) X hr hlk (Nat.le_of_ble_eq_true rfl) (Nat.le_of_ble_eq_true rfl) dL_free_20 () (by rw [hk]) (if_neg (by rw [hk]; decide)).symm
    · refine fw_catch1 (pc := 9) X htab (by decide) kL_free_clIO (hE rfl).2.2.2.2.2.2.2.1 (by decide) (by decide) kL_free_clIA ((hE rfl).2.2.2.1 fw_IA fw_c_IA) (fun q9 => ?_)
      refine fw_pm (ws' := OW K oa o ++ BW K ba bf bg n ca cf cg) List.perm_append_comm ?_
      refine fw_astore (pc := 21) (lv' := [(6, .ref q9), (0, .ref (ba 6)), (1, .int u), (2, .int v), (3, .int x), (4, .int y), (5, .ref oa)]) X dL_free_21 (by decide) rfl ?_
      refine fw_iconst (pc := 23) (v := 2) X dL_free_23 (by decide) ?_
      exact fw_iret (pc := 24) X hr hlk (Nat.le_of_ble_eq_true rfl) (Nat.le_of_ble_eq_true rfl) dL_free_24 () (by rw [hk]) (if_neg (by rw [hk]; decide)).symm
    · refine fw_catch2 (pc := 9) X htab (by decide) kL_free_clIO (hE rfl).2.2.2.2.2.2.2.2.1 (by decide) kL_free_clIA (hE rfl).2.2.2.2.2.2.2.2.2 (by decide) (by decide) kL_free_clIS ((hE rfl).2.2.2.1 fw_IS fw_c_IS) (fun q9 => ?_)
      refine fw_pm (ws' := OW K oa o ++ BW K ba bf bg n ca cf cg) List.perm_append_comm ?_
      refine fw_astore (pc := 25) (lv' := [(6, .ref q9), (0, .ref (ba 6)), (1, .int u), (2, .int v), (3, .int x), (4, .int y), (5, .ref oa)]) X dL_free_25 (by decide) rfl ?_
      refine fw_iconst (pc := 27) (v := 3) X dL_free_27 (by decide) ?_
      exact fw_iret (pc := 28) X hr hlk (Nat.le_of_ble_eq_true rfl) (Nat.le_of_ble_eq_true rfl) dL_free_28 () (by rw [hk]) (if_neg (by rw [hk]; decide)).symm
  · obtain ⟨hk, rfl⟩ := hq
    refine fw_pm (ws' := OW K oa o ++ BW K ba bf (va_up (va_up bg 3 (upd (bg 3) (ix (cf (ix u) 0)) (bg 3 (ix (cf (ix u) 0)) - y * cg (ix u) 3 (ix v)))) 4 (upd (bg 4) (ix (cf (ix u) 0)) (bg 4 (ix (cf (ix u) 0)) + y * cg (ix u) 3 (ix v)))) n ca (b_to_cf cf (ix u) y) (va_up cg (ix u) (va_up (cg (ix u)) 4 (upd (cg (ix u) 4) (ix v * 3 + ix x) (cg (ix u) 4 (ix v * 3 + ix x) - y))))) List.perm_append_comm ?_
    refine fw_i2l (pc := 12) (v := (y * cg (ix u) 3 (ix v)).toInt64) X dL_free_12 rfl ?_
    refine fw_last (pc := 13) (n := 1) (cA := K 2) (f := o) (ws' := OW K oa (vp_updL o 0 (y * cg (ix u) 3 (ix v)).toInt64) ++ BW K ba bf (va_up (va_up bg 3 (upd (bg 3) (ix (cf (ix u) 0)) (bg 3 (ix (cf (ix u) 0)) - y * cg (ix u) 3 (ix v)))) 4 (upd (bg 4) (ix (cf (ix u) 0)) (bg 4 (ix (cf (ix u) 0)) + y * cg (ix u) 3 (ix v)))) n ca (b_to_cf cf (ix u) y) (va_up cg (ix u) (va_up (cg (ix u)) 4 (upd (cg (ix u) 4) (ix v * 3 + ix x) (cg (ix u) 4 (ix v * 3 + ix x) - y))))) X 0 2 rfl rfl 0 (show (0 : Int32) = nI 0 from rfl) (by decide) (by decide) dL_free_13 rfl ?_
    refine fw_goto (pc := 14) (tgt := 29) X dL_free_14 (by decide) ?_
    refine fw_iconst (pc := 29) (v := 0) X dL_free_29 (by decide) ?_
    exact fw_iret (pc := 30) X hr hlk (Nat.le_of_ble_eq_true rfl) (Nat.le_of_ble_eq_true rfl) dL_free_30 u0 (by rw [hk]) (if_pos hk).symm
theorem kL_sendBack_clIO : Cond.classLink RL 31 fw_IO ∈ wsL_sendBack := by decide +kernel
theorem kL_sendBack_clIA : Cond.classLink RL 13 fw_IA ∈ wsL_sendBack := by decide +kernel
theorem kL_sendBack_clIS : Cond.classLink RL 22 fw_IS ∈ wsL_sendBack := by decide +kernel
theorem dsc_L_sendBack : fw_dsc yL_sendBack 6 := by decide +kernel
set_option maxHeartbeats 4000000 in
set_option maxRecDepth 100000 in
theorem ct_L_sendBack {l : Launch} (hl : l.stackTraces = false) {D : va_G} {K : Nat → ClassId} {ba : Nat → Nat} {bf : Nat → Int32} {bg : Nat → Nat → Int32} {n : Nat} {ca : Nat → Nat → Nat} {cf : Nat → Nat → Int32} {cg : Nat → Nat → Nat → Int32} {oa : Nat} {o : Nat → Int64} (u v x y : Int32) (hn15 : n ≤ 15) (hT : ∀ k, k < n → cf k 0 = nI (ix (cf k 0)) ∧ ix (cf k 0) < 4) : fw_C (S := Unit) l yL_sendBack wsL_sendBack ({ frames := 10, cells := 5, slots := 30, locals := 180 }) 5 30 true [.ref (ba 6), .int u, .int v, .int x, .int y, .ref oa] D (tyS K) (OW K oa o ++ BW K ba bf bg n ca cf cg) (fun r _ => r = some (.int (b_fre_k n cg u v x y))) (fun u0 => if b_fre_k n cg u v x y = 0 then OW K oa (vp_updL o 0 (y * cg (ix u) 3 (ix v)).toInt64) ++ BW K ba bf (va_up bg 3 (upd (bg 3) (ix (cf (ix u) 0)) (bg 3 (ix (cf (ix u) 0)) - y * cg (ix u) 3 (ix v)))) n ca (b_to_cf cf (ix u) y) (va_up cg (ix u) (va_up (cg (ix u)) 4 (upd (cg (ix u) 4) (ix v * 3 + ix x) (cg (ix u) 4 (ix v * 3 + ix x) - y)))) else OW K oa o ++ BW K ba bf bg n ca cf cg) (fun _ => False) := by
  refine fw_metH (maxL := 7) (ret := (some .int)) (by decide) rfl (Nat.le_of_ble_eq_true rfl) ?_
  intro p e s m args below meth c A X hr hlk htab hE
  refine fw_lv (lv' := [(0, .ref (ba 6)), (1, .int u), (2, .int v), (3, .int x), (4, .int y), (5, .ref oa)]) [0, 1, 2, 3, 4, 5] rfl ?_
  refine fw_aload (pc := 0) X dL_sendBack_0 5 rfl ?_
  refine fw_iconst (pc := 2) (v := 0) X dL_sendBack_2 (by decide) ?_
  refine fw_aload_n (pc := 3) X dL_sendBack_3 rfl 0 rfl ?_
  refine fw_iload_n (pc := 4) X dL_sendBack_4 rfl 1 rfl ?_
  refine fw_iload_n (pc := 5) X dL_sendBack_5 rfl 2 rfl ?_
  refine fw_iload_n (pc := 6) X dL_sendBack_6 rfl 3 rfl ?_
  refine fw_iload (pc := 7) X dL_sendBack_7 4 rfl ?_
  refine fw_pm (ws' := BW K ba bf bg n ca cf cg ++ OW K oa o) List.perm_append_comm ?_
  refine fw_callVR (pc := 9) (n := 4) (C := (RX1, TX1, 10)) (ci := 1) (q0 := 0) X hE [.int u, .int v, .int x, .int y] (ct_X1_sendBack hl u v x y hn15 hT) (fun _ => rfl) gL_sendBack_X1_sendBack rfl ⟨rfl, rfl⟩ ⟨rfl, dsc_X1_sendBack⟩ ⟨(Nat.le_of_ble_eq_true rfl), (Nat.le_of_ble_eq_true rfl)⟩ rfl B_obj rfl rfl (Nat.le_of_ble_eq_true rfl) dL_sendBack_9 ⟨(Nat.le_of_ble_eq_true rfl), (Nat.le_of_ble_eq_true rfl)⟩ (fun E q => ?_) (fun r0 u0 hq => ?_)
  · rcases q with ⟨rfl, hk⟩ | ⟨rfl, hk⟩ | ⟨rfl, hk⟩
    · refine fw_catch0 (pc := 9) X htab (by decide) (by decide) kL_sendBack_clIO ((hE rfl).2.2.2.1 fw_IO fw_c_IO) (fun q9 => ?_)
      refine fw_pm (ws' := OW K oa o ++ BW K ba bf bg n ca cf cg) List.perm_append_comm ?_
      refine fw_astore (pc := 17) (lv' := [(6, .ref q9), (0, .ref (ba 6)), (1, .int u), (2, .int v), (3, .int x), (4, .int y), (5, .ref oa)]) X dL_sendBack_17 (by decide) rfl ?_
      refine fw_iconst (pc := 19) (v := 1) X dL_sendBack_19 (by decide) ?_
      exact fw_iret (pc := 20) X hr hlk (Nat.le_of_ble_eq_true rfl) (Nat.le_of_ble_eq_true rfl) dL_sendBack_20 () (by rw [hk]) (if_neg (by rw [hk]; decide)).symm
    · refine fw_catch1 (pc := 9) X htab (by decide) kL_sendBack_clIO (hE rfl).2.2.2.2.2.2.2.1 (by decide) (by decide) kL_sendBack_clIA ((hE rfl).2.2.2.1 fw_IA fw_c_IA) (fun q9 => ?_)
      refine fw_pm (ws' := OW K oa o ++ BW K ba bf bg n ca cf cg) List.perm_append_comm ?_
      refine fw_astore (pc := 21) (lv' := [(6, .ref q9), (0, .ref (ba 6)), (1, .int u), (2, .int v), (3, .int x), (4, .int y), (5, .ref oa)]) X dL_sendBack_21 (by decide) rfl ?_
      refine fw_iconst (pc := 23) (v := 2) X dL_sendBack_23 (by decide) ?_
      exact fw_iret (pc := 24) X hr hlk (Nat.le_of_ble_eq_true rfl) (Nat.le_of_ble_eq_true rfl) dL_sendBack_24 () (by rw [hk]) (if_neg (by rw [hk]; decide)).symm
    · refine fw_catch2 (pc := 9) X htab (by decide) kL_sendBack_clIO (hE rfl).2.2.2.2.2.2.2.2.1 (by decide) kL_sendBack_clIA (hE rfl).2.2.2.2.2.2.2.2.2 (by decide) (by decide) kL_sendBack_clIS ((hE rfl).2.2.2.1 fw_IS fw_c_IS) (fun q9 => ?_)
      refine fw_pm (ws' := OW K oa o ++ BW K ba bf bg n ca cf cg) List.perm_append_comm ?_
      refine fw_astore (pc := 25) (lv' := [(6, .ref q9), (0, .ref (ba 6)), (1, .int u), (2, .int v), (3, .int x), (4, .int y), (5, .ref oa)]) X dL_sendBack_25 (by decide) rfl ?_
      refine fw_iconst (pc := 27) (v := 3) X dL_sendBack_27 (by decide) ?_
      exact fw_iret (pc := 28) X hr hlk (Nat.le_of_ble_eq_true rfl) (Nat.le_of_ble_eq_true rfl) dL_sendBack_28 () (by rw [hk]) (if_neg (by rw [hk]; decide)).symm
  · obtain ⟨hk, rfl⟩ := hq
    refine fw_pm (ws' := OW K oa o ++ BW K ba bf (va_up bg 3 (upd (bg 3) (ix (cf (ix u) 0)) (bg 3 (ix (cf (ix u) 0)) - y * cg (ix u) 3 (ix v)))) n ca (b_to_cf cf (ix u) y) (va_up cg (ix u) (va_up (cg (ix u)) 4 (upd (cg (ix u) 4) (ix v * 3 + ix x) (cg (ix u) 4 (ix v * 3 + ix x) - y))))) List.perm_append_comm ?_
    refine fw_i2l (pc := 12) (v := (y * cg (ix u) 3 (ix v)).toInt64) X dL_sendBack_12 rfl ?_
    refine fw_last (pc := 13) (n := 1) (cA := K 2) (f := o) (ws' := OW K oa (vp_updL o 0 (y * cg (ix u) 3 (ix v)).toInt64) ++ BW K ba bf (va_up bg 3 (upd (bg 3) (ix (cf (ix u) 0)) (bg 3 (ix (cf (ix u) 0)) - y * cg (ix u) 3 (ix v)))) n ca (b_to_cf cf (ix u) y) (va_up cg (ix u) (va_up (cg (ix u)) 4 (upd (cg (ix u) 4) (ix v * 3 + ix x) (cg (ix u) 4 (ix v * 3 + ix x) - y))))) X 0 2 rfl rfl 0 (show (0 : Int32) = nI 0 from rfl) (by decide) (by decide) dL_sendBack_13 rfl ?_
    refine fw_goto (pc := 14) (tgt := 29) X dL_sendBack_14 (by decide) ?_
    refine fw_iconst (pc := 29) (v := 0) X dL_sendBack_29 (by decide) ?_
    exact fw_iret (pc := 30) X hr hlk (Nat.le_of_ble_eq_true rfl) (Nat.le_of_ble_eq_true rfl) dL_sendBack_30 u0 (by rw [hk]) (if_pos hk).symm
theorem kL_state_clIO : Cond.classLink RL 31 fw_IO ∈ wsL_state := by decide +kernel
theorem dsc_L_state : fw_dsc yL_state 3 := by decide +kernel
set_option maxHeartbeats 4000000 in
set_option maxRecDepth 100000 in
theorem ct_L_state {l : Launch} (hl : l.stackTraces = false) {D : va_G} {K : Nat → ClassId} {ba : Nat → Nat} {bf : Nat → Int32} {bg : Nat → Nat → Int32} {n : Nat} {ca : Nat → Nat → Nat} {cf : Nat → Nat → Int32} {cg : Nat → Nat → Nat → Int32} {oa : Nat} {o : Nat → Int64} (u : Int32) (hn15 : n ≤ 15) : fw_C (S := Unit) l yL_state wsL_state ({ frames := 8, cells := 1, slots := 6, locals := 133 }) 1 6 true [.ref (ba 6), .int u, .ref oa] D (tyS K) (OW K oa o ++ BW K ba bf bg n ca cf cg) (fun r _ => r = some (.int (b_c_k n u))) (fun u0 => if b_c_k n u = 0 then OW K oa (vp_updL o 0 (cf (ix u) 5).toInt64) ++ BW K ba bf bg n ca cf cg else OW K oa o ++ BW K ba bf bg n ca cf cg) (fun _ => False) := by
  refine fw_metH (maxL := 4) (ret := (some .int)) (by decide) rfl (Nat.le_of_ble_eq_true rfl) ?_
  intro p e s m args below meth c A X hr hlk htab hE
  refine fw_lv (lv' := [(0, .ref (ba 6)), (1, .int u), (2, .ref oa)]) [0, 1, 2] rfl ?_
  refine fw_aload_n (pc := 0) X dL_state_0 rfl 2 rfl ?_
  refine fw_iconst (pc := 1) (v := 0) X dL_state_1 (by decide) ?_
  refine fw_aload_n (pc := 2) X dL_state_2 rfl 0 rfl ?_
  refine fw_iload_n (pc := 3) X dL_state_3 rfl 1 rfl ?_
  refine fw_pm (ws' := BW K ba bf bg n ca cf cg ++ OW K oa o) List.perm_append_comm ?_
  refine fw_callVR (pc := 4) (n := 1) (C := (RX1, TX1, 10)) (ci := 1) (q0 := 0) X hE [.int u] (ct_X1_state hl u hn15) (fun _ => rfl) gL_state_X1_state rfl ⟨rfl, rfl⟩ ⟨rfl, dsc_X1_state⟩ ⟨(Nat.le_of_ble_eq_true rfl), (Nat.le_of_ble_eq_true rfl)⟩ rfl B_obj rfl rfl (Nat.le_of_ble_eq_true rfl) dL_state_4 ⟨(Nat.le_of_ble_eq_true rfl), (Nat.le_of_ble_eq_true rfl)⟩ (fun E q => ?_) (fun r0 u0 hq => ?_)
  · obtain ⟨rfl, hk⟩ := q
    refine fw_catch0 (pc := 4) X htab (by decide) (by decide) kL_state_clIO ((hE rfl).2.2.2.1 fw_IO fw_c_IO) (fun q9 => ?_)
    refine fw_pm (ws' := OW K oa o ++ BW K ba bf bg n ca cf cg) List.perm_append_comm ?_
    refine fw_astore_n (pc := 12) (lv' := [(3, .ref q9), (0, .ref (ba 6)), (1, .int u), (2, .ref oa)]) X dL_state_12 rfl (by decide) rfl ?_
    refine fw_iconst (pc := 13) (v := 1) X dL_state_13 (by decide) ?_
    exact fw_iret (pc := 14) X hr hlk (Nat.le_of_ble_eq_true rfl) (Nat.le_of_ble_eq_true rfl) dL_state_14 () (by rw [hk]) (if_neg (by rw [hk]; decide)).symm
  · obtain ⟨hk, rfl⟩ := hq
    refine fw_pm (ws' := OW K oa o ++ BW K ba bf bg n ca cf cg) List.perm_append_comm ?_
    refine fw_i2l (pc := 7) (v := (cf (ix u) 5).toInt64) X dL_state_7 rfl ?_
    refine fw_last (pc := 8) (n := 1) (cA := K 2) (f := o) (ws' := OW K oa (vp_updL o 0 (cf (ix u) 5).toInt64) ++ BW K ba bf bg n ca cf cg) X 0 2 rfl rfl 0 (show (0 : Int32) = nI 0 from rfl) (by decide) (by decide) dL_state_8 rfl ?_
    refine fw_goto (pc := 9) (tgt := 15) X dL_state_9 (by decide) ?_
    refine fw_iconst (pc := 15) (v := 0) X dL_state_15 (by decide) ?_
    exact fw_iret (pc := 16) X hr hlk (Nat.le_of_ble_eq_true rfl) (Nat.le_of_ble_eq_true rfl) dL_state_16 u0 (by rw [hk]) (if_pos hk).symm
theorem kL_manifest_clIO : Cond.classLink RL 31 fw_IO ∈ wsL_manifest := by decide +kernel
theorem kL_manifest_clIA : Cond.classLink RL 13 fw_IA ∈ wsL_manifest := by decide +kernel
theorem dsc_L_manifest : fw_dsc yL_manifest 4 := by decide +kernel
set_option maxHeartbeats 4000000 in
set_option maxRecDepth 100000 in
theorem ct_L_manifest {l : Launch} (hl : l.stackTraces = false) {D : va_G} {K : Nat → ClassId} {ba : Nat → Nat} {bf : Nat → Int32} {bg : Nat → Nat → Int32} {n : Nat} {ca : Nat → Nat → Nat} {cf : Nat → Nat → Int32} {cg : Nat → Nat → Nat → Int32} {oa : Nat} {o : Nat → Int64} (u v : Int32) (hn15 : n ≤ 15) : fw_C (S := Unit) l yL_manifest wsL_manifest ({ frames := 9, cells := 2, slots := 12, locals := 155 }) 2 12 true [.ref (ba 6), .int u, .int v, .ref oa] D (tyS K) (OW K oa o ++ BW K ba bf bg n ca cf cg) (fun r _ => r = some (.int (b_man_k n u v))) (fun u0 => if b_man_k n u v = 0 then OW K oa (vp_updL o 0 (cg (ix u) 2 (ix v)).toInt64) ++ BW K ba bf bg n ca cf cg else OW K oa o ++ BW K ba bf bg n ca cf cg) (fun _ => False) := by
  refine fw_metH (maxL := 5) (ret := (some .int)) (by decide) rfl (Nat.le_of_ble_eq_true rfl) ?_
  intro p e s m args below meth c A X hr hlk htab hE
  refine fw_lv (lv' := [(0, .ref (ba 6)), (1, .int u), (2, .int v), (3, .ref oa)]) [0, 1, 2, 3] rfl ?_
  refine fw_aload_n (pc := 0) X dL_manifest_0 rfl 3 rfl ?_
  refine fw_iconst (pc := 1) (v := 0) X dL_manifest_1 (by decide) ?_
  refine fw_aload_n (pc := 2) X dL_manifest_2 rfl 0 rfl ?_
  refine fw_iload_n (pc := 3) X dL_manifest_3 rfl 1 rfl ?_
  refine fw_iload_n (pc := 4) X dL_manifest_4 rfl 2 rfl ?_
  refine fw_pm (ws' := BW K ba bf bg n ca cf cg ++ OW K oa o) List.perm_append_comm ?_
  refine fw_callVR (pc := 5) (n := 2) (C := (RX1, TX1, 10)) (ci := 1) (q0 := 0) X hE [.int u, .int v] (ct_X1_manifest hl u v hn15) (fun _ => rfl) gL_manifest_X1_manifest rfl ⟨rfl, rfl⟩ ⟨rfl, dsc_X1_manifest⟩ ⟨(Nat.le_of_ble_eq_true rfl), (Nat.le_of_ble_eq_true rfl)⟩ rfl B_obj rfl rfl (Nat.le_of_ble_eq_true rfl) dL_manifest_5 ⟨(Nat.le_of_ble_eq_true rfl), (Nat.le_of_ble_eq_true rfl)⟩ (fun E q => ?_) (fun r0 u0 hq => ?_)
  · rcases q with ⟨rfl, hk⟩ | ⟨rfl, hk⟩
    · refine fw_catch0 (pc := 5) X htab (by decide) (by decide) kL_manifest_clIO ((hE rfl).2.2.2.1 fw_IO fw_c_IO) (fun q9 => ?_)
      refine fw_pm (ws' := OW K oa o ++ BW K ba bf bg n ca cf cg) List.perm_append_comm ?_
      refine fw_astore (pc := 13) (lv' := [(4, .ref q9), (0, .ref (ba 6)), (1, .int u), (2, .int v), (3, .ref oa)]) X dL_manifest_13 (by decide) rfl ?_
      refine fw_iconst (pc := 15) (v := 1) X dL_manifest_15 (by decide) ?_
      exact fw_iret (pc := 16) X hr hlk (Nat.le_of_ble_eq_true rfl) (Nat.le_of_ble_eq_true rfl) dL_manifest_16 () (by rw [hk]) (if_neg (by rw [hk]; decide)).symm
    · refine fw_catch1 (pc := 5) X htab (by decide) kL_manifest_clIO (hE rfl).2.2.2.2.2.2.2.1 (by decide) (by decide) kL_manifest_clIA ((hE rfl).2.2.2.1 fw_IA fw_c_IA) (fun q9 => ?_)
      refine fw_pm (ws' := OW K oa o ++ BW K ba bf bg n ca cf cg) List.perm_append_comm ?_
      refine fw_astore (pc := 17) (lv' := [(4, .ref q9), (0, .ref (ba 6)), (1, .int u), (2, .int v), (3, .ref oa)]) X dL_manifest_17 (by decide) rfl ?_
      refine fw_iconst (pc := 19) (v := 2) X dL_manifest_19 (by decide) ?_
      exact fw_iret (pc := 20) X hr hlk (Nat.le_of_ble_eq_true rfl) (Nat.le_of_ble_eq_true rfl) dL_manifest_20 () (by rw [hk]) (if_neg (by rw [hk]; decide)).symm
  · obtain ⟨hk, rfl⟩ := hq
    refine fw_pm (ws' := OW K oa o ++ BW K ba bf bg n ca cf cg) List.perm_append_comm ?_
    refine fw_i2l (pc := 8) (v := (cg (ix u) 2 (ix v)).toInt64) X dL_manifest_8 rfl ?_
    refine fw_last (pc := 9) (n := 1) (cA := K 2) (f := o) (ws' := OW K oa (vp_updL o 0 (cg (ix u) 2 (ix v)).toInt64) ++ BW K ba bf bg n ca cf cg) X 0 2 rfl rfl 0 (show (0 : Int32) = nI 0 from rfl) (by decide) (by decide) dL_manifest_9 rfl ?_
    refine fw_goto (pc := 10) (tgt := 21) X dL_manifest_10 (by decide) ?_
    refine fw_iconst (pc := 21) (v := 0) X dL_manifest_21 (by decide) ?_
    exact fw_iret (pc := 22) X hr hlk (Nat.le_of_ble_eq_true rfl) (Nat.le_of_ble_eq_true rfl) dL_manifest_22 u0 (by rw [hk]) (if_pos hk).symm
theorem kL_stored_clIA : Cond.classLink RL 13 fw_IA ∈ wsL_stored := by decide +kernel
theorem dsc_L_stored : fw_dsc yL_stored 4 := by decide +kernel
set_option maxHeartbeats 4000000 in
set_option maxRecDepth 100000 in
theorem ct_L_stored {l : Launch} (hl : l.stackTraces = false) {D : va_G} {K : Nat → ClassId} {ba : Nat → Nat} {bf : Nat → Int32} {bg : Nat → Nat → Int32} {n : Nat} {ca : Nat → Nat → Nat} {cf : Nat → Nat → Int32} {cg : Nat → Nat → Nat → Int32} {oa : Nat} {o : Nat → Int64} (v x : Int32) : fw_C (S := Unit) l yL_stored wsL_stored ({ frames := 9, cells := 2, slots := 12, locals := 159 }) 2 12 true [.ref (ba 6), .int v, .int x, .ref oa] D (tyS K) (OW K oa o ++ BW K ba bf bg n ca cf cg) (fun r _ => r = some (.int (b_sto_k v x))) (fun u0 => if b_sto_k v x = 0 then OW K oa (vp_updL o 0 (b_gs n cg (ix v) (ix x) 15).toInt64) ++ BW K ba bf bg n ca cf cg else OW K oa o ++ BW K ba bf bg n ca cf cg) (fun _ => False) := by
  refine fw_metH (maxL := 5) (ret := (some .int)) (by decide) rfl (Nat.le_of_ble_eq_true rfl) ?_
  intro p e s m args below meth c A X hr hlk htab hE
  refine fw_lv (lv' := [(0, .ref (ba 6)), (1, .int v), (2, .int x), (3, .ref oa)]) [0, 1, 2, 3] rfl ?_
  refine fw_aload_n (pc := 0) X dL_stored_0 rfl 3 rfl ?_
  refine fw_iconst (pc := 1) (v := 0) X dL_stored_1 (by decide) ?_
  refine fw_aload_n (pc := 2) X dL_stored_2 rfl 0 rfl ?_
  refine fw_iload_n (pc := 3) X dL_stored_3 rfl 1 rfl ?_
  refine fw_iload_n (pc := 4) X dL_stored_4 rfl 2 rfl ?_
  refine fw_pm (ws' := BW K ba bf bg n ca cf cg ++ OW K oa o) List.perm_append_comm ?_
  refine fw_callVR (pc := 5) (n := 2) (C := (RX1, TX1, 10)) (ci := 1) (q0 := 0) X hE [.int v, .int x] (ct_X1_stored hl v x) (fun _ => rfl) gL_stored_X1_stored rfl ⟨rfl, rfl⟩ ⟨rfl, dsc_X1_stored⟩ ⟨(Nat.le_of_ble_eq_true rfl), (Nat.le_of_ble_eq_true rfl)⟩ rfl B_obj rfl rfl (Nat.le_of_ble_eq_true rfl) dL_stored_5 ⟨(Nat.le_of_ble_eq_true rfl), (Nat.le_of_ble_eq_true rfl)⟩ (fun E q => ?_) (fun r0 u0 hq => ?_)
  · obtain ⟨rfl, hk⟩ := q
    refine fw_catch0 (pc := 5) X htab (by decide) (by decide) kL_stored_clIA ((hE rfl).2.2.2.1 fw_IA fw_c_IA) (fun q9 => ?_)
    refine fw_pm (ws' := OW K oa o ++ BW K ba bf bg n ca cf cg) List.perm_append_comm ?_
    refine fw_astore (pc := 13) (lv' := [(4, .ref q9), (0, .ref (ba 6)), (1, .int v), (2, .int x), (3, .ref oa)]) X dL_stored_13 (by decide) rfl ?_
    refine fw_iconst (pc := 15) (v := 1) X dL_stored_15 (by decide) ?_
    exact fw_iret (pc := 16) X hr hlk (Nat.le_of_ble_eq_true rfl) (Nat.le_of_ble_eq_true rfl) dL_stored_16 () (by rw [hk]) (if_neg (by rw [hk]; decide)).symm
  · obtain ⟨hk, rfl⟩ := hq
    refine fw_pm (ws' := OW K oa o ++ BW K ba bf bg n ca cf cg) List.perm_append_comm ?_
    refine fw_i2l (pc := 8) (v := (b_gs n cg (ix v) (ix x) 15).toInt64) X dL_stored_8 rfl ?_
    refine fw_last (pc := 9) (n := 1) (cA := K 2) (f := o) (ws' := OW K oa (vp_updL o 0 (b_gs n cg (ix v) (ix x) 15).toInt64) ++ BW K ba bf bg n ca cf cg) X 0 2 rfl rfl 0 (show (0 : Int32) = nI 0 from rfl) (by decide) (by decide) dL_stored_9 rfl ?_
    refine fw_goto (pc := 10) (tgt := 17) X dL_stored_10 (by decide) ?_
    refine fw_iconst (pc := 17) (v := 0) X dL_stored_17 (by decide) ?_
    exact fw_iret (pc := 18) X hr hlk (Nat.le_of_ble_eq_true rfl) (Nat.le_of_ble_eq_true rfl) dL_stored_18 u0 (by rw [hk]) (if_pos hk).symm
theorem kL_held_clIA : Cond.classLink RL 13 fw_IA ∈ wsL_held := by decide +kernel
theorem dsc_L_held : fw_dsc yL_held 3 := by decide +kernel
set_option maxHeartbeats 4000000 in
set_option maxRecDepth 100000 in
theorem ct_L_held {l : Launch} (hl : l.stackTraces = false) {D : va_G} {K : Nat → ClassId} {ba : Nat → Nat} {bf : Nat → Int32} {bg : Nat → Nat → Int32} {n : Nat} {ca : Nat → Nat → Nat} {cf : Nat → Nat → Int32} {cg : Nat → Nat → Nat → Int32} {oa : Nat} {o : Nat → Int64} (v : Int32) : fw_C (S := Unit) l yL_held wsL_held ({ frames := 9, cells := 1, slots := 6, locals := 153 }) 1 6 true [.ref (ba 6), .int v, .ref oa] D (tyS K) (OW K oa o ++ BW K ba bf bg n ca cf cg) (fun r _ => r = some (.int (b_tr_k v))) (fun u0 => if b_tr_k v = 0 then OW K oa (vp_updL o 0 (bg 3 (ix v)).toInt64) ++ BW K ba bf bg n ca cf cg else OW K oa o ++ BW K ba bf bg n ca cf cg) (fun _ => False) := by
  refine fw_metH (maxL := 4) (ret := (some .int)) (by decide) rfl (Nat.le_of_ble_eq_true rfl) ?_
  intro p e s m args below meth c A X hr hlk htab hE
  refine fw_lv (lv' := [(0, .ref (ba 6)), (1, .int v), (2, .ref oa)]) [0, 1, 2] rfl ?_
  refine fw_aload_n (pc := 0) X dL_held_0 rfl 2 rfl ?_
  refine fw_iconst (pc := 1) (v := 0) X dL_held_1 (by decide) ?_
  refine fw_aload_n (pc := 2) X dL_held_2 rfl 0 rfl ?_
  refine fw_iload_n (pc := 3) X dL_held_3 rfl 1 rfl ?_
  refine fw_pm (ws' := BW K ba bf bg n ca cf cg ++ OW K oa o) List.perm_append_comm ?_
  refine fw_callVR (pc := 4) (n := 1) (C := (RX1, TX1, 10)) (ci := 1) (q0 := 0) X hE [.int v] (ct_X1_held hl v) (fun _ => rfl) gL_held_X1_held rfl ⟨rfl, rfl⟩ ⟨rfl, dsc_X1_held⟩ ⟨(Nat.le_of_ble_eq_true rfl), (Nat.le_of_ble_eq_true rfl)⟩ rfl B_obj rfl rfl (Nat.le_of_ble_eq_true rfl) dL_held_4 ⟨(Nat.le_of_ble_eq_true rfl), (Nat.le_of_ble_eq_true rfl)⟩ (fun E q => ?_) (fun r0 u0 hq => ?_)
  · obtain ⟨rfl, hk⟩ := q
    refine fw_catch0 (pc := 4) X htab (by decide) (by decide) kL_held_clIA ((hE rfl).2.2.2.1 fw_IA fw_c_IA) (fun q9 => ?_)
    refine fw_pm (ws' := OW K oa o ++ BW K ba bf bg n ca cf cg) List.perm_append_comm ?_
    refine fw_astore_n (pc := 12) (lv' := [(3, .ref q9), (0, .ref (ba 6)), (1, .int v), (2, .ref oa)]) X dL_held_12 rfl (by decide) rfl ?_
    refine fw_iconst (pc := 13) (v := 1) X dL_held_13 (by decide) ?_
    exact fw_iret (pc := 14) X hr hlk (Nat.le_of_ble_eq_true rfl) (Nat.le_of_ble_eq_true rfl) dL_held_14 () (by rw [hk]) (if_neg (by rw [hk]; decide)).symm
  · obtain ⟨hk, rfl⟩ := hq
    refine fw_pm (ws' := OW K oa o ++ BW K ba bf bg n ca cf cg) List.perm_append_comm ?_
    refine fw_i2l (pc := 7) (v := (bg 3 (ix v)).toInt64) X dL_held_7 rfl ?_
    refine fw_last (pc := 8) (n := 1) (cA := K 2) (f := o) (ws' := OW K oa (vp_updL o 0 (bg 3 (ix v)).toInt64) ++ BW K ba bf bg n ca cf cg) X 0 2 rfl rfl 0 (show (0 : Int32) = nI 0 from rfl) (by decide) (by decide) dL_held_8 rfl ?_
    refine fw_goto (pc := 9) (tgt := 15) X dL_held_9 (by decide) ?_
    refine fw_iconst (pc := 15) (v := 0) X dL_held_15 (by decide) ?_
    exact fw_iret (pc := 16) X hr hlk (Nat.le_of_ble_eq_true rfl) (Nat.le_of_ble_eq_true rfl) dL_held_16 u0 (by rw [hk]) (if_pos hk).symm
theorem kL_paid_clIA : Cond.classLink RL 13 fw_IA ∈ wsL_paid := by decide +kernel
theorem dsc_L_paid : fw_dsc yL_paid 3 := by decide +kernel
set_option maxHeartbeats 4000000 in
set_option maxRecDepth 100000 in
theorem ct_L_paid {l : Launch} (hl : l.stackTraces = false) {D : va_G} {K : Nat → ClassId} {ba : Nat → Nat} {bf : Nat → Int32} {bg : Nat → Nat → Int32} {n : Nat} {ca : Nat → Nat → Nat} {cf : Nat → Nat → Int32} {cg : Nat → Nat → Nat → Int32} {oa : Nat} {o : Nat → Int64} (v : Int32) : fw_C (S := Unit) l yL_paid wsL_paid ({ frames := 9, cells := 1, slots := 6, locals := 153 }) 1 6 true [.ref (ba 6), .int v, .ref oa] D (tyS K) (OW K oa o ++ BW K ba bf bg n ca cf cg) (fun r _ => r = some (.int (b_tr_k v))) (fun u0 => if b_tr_k v = 0 then OW K oa (vp_updL o 0 (bg 4 (ix v)).toInt64) ++ BW K ba bf bg n ca cf cg else OW K oa o ++ BW K ba bf bg n ca cf cg) (fun _ => False) := by
  refine fw_metH (maxL := 4) (ret := (some .int)) (by decide) rfl (Nat.le_of_ble_eq_true rfl) ?_
  intro p e s m args below meth c A X hr hlk htab hE
  refine fw_lv (lv' := [(0, .ref (ba 6)), (1, .int v), (2, .ref oa)]) [0, 1, 2] rfl ?_
  refine fw_aload_n (pc := 0) X dL_paid_0 rfl 2 rfl ?_
  refine fw_iconst (pc := 1) (v := 0) X dL_paid_1 (by decide) ?_
  refine fw_aload_n (pc := 2) X dL_paid_2 rfl 0 rfl ?_
  refine fw_iload_n (pc := 3) X dL_paid_3 rfl 1 rfl ?_
  refine fw_pm (ws' := BW K ba bf bg n ca cf cg ++ OW K oa o) List.perm_append_comm ?_
  refine fw_callVR (pc := 4) (n := 1) (C := (RX1, TX1, 10)) (ci := 1) (q0 := 0) X hE [.int v] (ct_X1_paid hl v) (fun _ => rfl) gL_paid_X1_paid rfl ⟨rfl, rfl⟩ ⟨rfl, dsc_X1_paid⟩ ⟨(Nat.le_of_ble_eq_true rfl), (Nat.le_of_ble_eq_true rfl)⟩ rfl B_obj rfl rfl (Nat.le_of_ble_eq_true rfl) dL_paid_4 ⟨(Nat.le_of_ble_eq_true rfl), (Nat.le_of_ble_eq_true rfl)⟩ (fun E q => ?_) (fun r0 u0 hq => ?_)
  · obtain ⟨rfl, hk⟩ := q
    refine fw_catch0 (pc := 4) X htab (by decide) (by decide) kL_paid_clIA ((hE rfl).2.2.2.1 fw_IA fw_c_IA) (fun q9 => ?_)
    refine fw_pm (ws' := OW K oa o ++ BW K ba bf bg n ca cf cg) List.perm_append_comm ?_
    refine fw_astore_n (pc := 12) (lv' := [(3, .ref q9), (0, .ref (ba 6)), (1, .int v), (2, .ref oa)]) X dL_paid_12 rfl (by decide) rfl ?_
    refine fw_iconst (pc := 13) (v := 1) X dL_paid_13 (by decide) ?_
    exact fw_iret (pc := 14) X hr hlk (Nat.le_of_ble_eq_true rfl) (Nat.le_of_ble_eq_true rfl) dL_paid_14 () (by rw [hk]) (if_neg (by rw [hk]; decide)).symm
  · obtain ⟨hk, rfl⟩ := hq
    refine fw_pm (ws' := OW K oa o ++ BW K ba bf bg n ca cf cg) List.perm_append_comm ?_
    refine fw_i2l (pc := 7) (v := (bg 4 (ix v)).toInt64) X dL_paid_7 rfl ?_
    refine fw_last (pc := 8) (n := 1) (cA := K 2) (f := o) (ws' := OW K oa (vp_updL o 0 (bg 4 (ix v)).toInt64) ++ BW K ba bf bg n ca cf cg) X 0 2 rfl rfl 0 (show (0 : Int32) = nI 0 from rfl) (by decide) (by decide) dL_paid_8 rfl ?_
    refine fw_goto (pc := 9) (tgt := 15) X dL_paid_9 (by decide) ?_
    refine fw_iconst (pc := 15) (v := 0) X dL_paid_15 (by decide) ?_
    exact fw_iret (pc := 16) X hr hlk (Nat.le_of_ble_eq_true rfl) (Nat.le_of_ble_eq_true rfl) dL_paid_16 u0 (by rw [hk]) (if_pos hk).symm
