def BWq (K : Nat → ClassId) (ba : Nat → Nat) (bf : Nat → Int32) (bg : Nat → Nat → Int32) (r : Nat → Option Nat) (n : Nat) (ca : Nat → Nat → Nat) (cf : Nat → Nat → Int32) (cg : Nat → Nat → Nat → Int32) : va_W := (ba 6, .inr (1, BF ba bf)) :: (ba 0, .inl (K 0, 6, .inl (bg 0))) :: (ba 1, .inl (K 0, 6, .inl (bg 1))) :: (ba 2, .inl (K 0, 4, .inl (bg 2))) :: (ba 3, .inl (K 0, 4, .inl (bg 3))) :: (ba 4, .inl (K 0, 4, .inl (bg 4))) :: (ba 5, .inl (K 3, 15, .inr (.inr (.inr (.inr r))))) :: (List.range n).flatMap (CW K ca cf cg)
theorem BWq_eq {K : Nat → ClassId} {ba : Nat → Nat} {bf : Nat → Int32} {bg : Nat → Nat → Int32} {n : Nat} {ca : Nat → Nat → Nat} {cf : Nat → Nat → Int32} {cg : Nat → Nat → Nat → Int32} : BW K ba bf bg n ca cf cg = BWq K ba bf bg (CR ca n) n ca cf cg := rfl
theorem CR_push {ca : Nat → Nat → Nat} {n : Nat} {u : Nat → Nat} : va_up (CR ca n) n (some (u 0)) = CR (va_up ca n u) (n + 1) := by
  funext k
  unfold CR va_up
  by_cases h : k = n
  · subst h
    simp
  · by_cases h2 : k < n
    · have h3 : k < n + 1 := by omega
      simp [h, h2, h3]
    · have h3 : ¬ k < n + 1 := by omega
      simp [h, h2, h3]
theorem fm_push {K : Nat → ClassId} {n : Nat} {ca : Nat → Nat → Nat} {cf : Nat → Nat → Int32} {cg : Nat → Nat → Nat → Int32} {u : Nat → Nat} {f : Nat → Int32} {g : Nat → Nat → Int32} : (List.range (n + 1)).flatMap (CW K (va_up ca n u) (va_up cf n f) (va_up cg n g)) = (List.range n).flatMap (CW K ca cf cg) ++ NW K u f g := by
  rw [List.range_succ, List.flatMap_append]
  have e : ∀ m, m ≤ n → (List.range m).flatMap (CW K (va_up ca n u) (va_up cf n f) (va_up cg n g)) = (List.range m).flatMap (CW K ca cf cg) := by
    intro m
    induction m with
    | zero => intro _; rfl
    | succ m ih =>
      intro hm
      rw [List.range_succ, List.flatMap_append, List.flatMap_append, ih (by omega)]
      have hne : ¬ m = n := by omega
      simp [CW, CF, va_up, hne]
  rw [e n (Nat.le_refl n)]
  simp [CW, CF, NW, va_up]
theorem B_push {K : Nat → ClassId} {ba : Nat → Nat} {bf : Nat → Int32} {bg : Nat → Nat → Int32} {n : Nat} {ca : Nat → Nat → Nat} {cf : Nat → Nat → Int32} {cg : Nat → Nat → Nat → Int32} {u : Nat → Nat} {f : Nat → Int32} {g : Nat → Nat → Int32} : List.Perm (NW K u f g ++ BWq K ba bf bg (va_up (CR ca n) n (some (u 0))) n ca cf cg) (BW K ba bf bg (n + 1) (va_up ca n u) (va_up cf n f) (va_up cg n g)) := by
  unfold BW
  rw [fm_push, CR_push]
  unfold BWq
  refine List.perm_append_comm.trans ?_
  simp only [List.cons_append]
  exact List.Perm.refl _
def b_ann_k (bf : Nat → Int32) (v x : Int32) : Int32 := if m_in v 0 3 = true ∧ m_in x 0 999 = true then (if bf 6 < 15 then 0 else 2) else 1
theorem b_ann_lt {bf : Nat → Int32} {n : Nat} (hn : bf 6 = nI n) (hn15 : n ≤ 15) (h : bf 6 < 15) : n < 15 := by
  rcases Nat.lt_or_ge n 15 with q | q
  · exact q
  · exact absurd h (by rw [hn, show n = 15 by omega]; decide +kernel)
theorem X0_dflt : ∀ j, j < 12 → defaultValue (tyX0 j) = vp_V [.int 0, .int 0, .null, .null, .null, .int 0, .int 0, .int 0, .int 0, .int 0, .int 0, .int 0] j := fun j hj => by
  have h : j = 0 ∨ j = 1 ∨ j = 2 ∨ j = 3 ∨ j = 4 ∨ j = 5 ∨ j = 6 ∨ j = 7 ∨ j = 8 ∨ j = 9 ∨ j = 10 ∨ j = 11 := by omega
  rcases h with rfl | rfl | rfl | rfl | rfl | rfl | rfl | rfl | rfl | rfl | rfl | rfl <;> rfl
theorem kX1_announce_31 : Cond.fieldLink RX1 31 (TX1 6).1 (TX1 6).2.1 (TX1 6).2.2.1 ∈ wsX1_announce := by decide +kernel
set_option maxRecDepth 20000 in
theorem iX1_announce_X1 : ∀ w ∈ wsX10, w ∈ wsX1_announce := by decide +kernel
theorem kX1_announce_27 : Cond.fieldLink RX1 27 (TX1 5).1 (TX1 5).2.1 (TX1 5).2.2.1 ∈ wsX1_announce := by decide +kernel
set_option maxRecDepth 20000 in
theorem iX1_announce_X0 : ∀ w ∈ wsX00, w ∈ wsX1_announce := by decide +kernel
theorem kX1_announce_ncl : Cond.classLink RX1 25 RX0 ∈ wsX1_announce := by decide +kernel
theorem kX1_announce_nin : Cond.instantiable RX0 12 ∈ wsX1_announce := by decide +kernel
theorem kX1_announce_nni : Cond.initialized RX0 ∈ wsX1_announce := by decide +kernel
theorem kX1_announce_nml : Cond.methodLink RX1 72 yX0_init ∈ wsX1_announce := by decide +kernel
theorem kX1_announce_nim : Cond.instanceMethod yX0_init ∈ wsX1_announce := by decide +kernel
theorem kX1_announce_clIS : Cond.classLink RX1 60 fw_IS ∈ wsX1_announce := by decide +kernel
theorem kX1_announce_iniIS : Cond.initialized fw_IS ∈ wsX1_announce := by decide +kernel
set_option maxRecDepth 20000 in
theorem kX1_announce_atIS : ∀ w ∈ (vx_atS RX1 64 fw_IS fw_chn).filter goodWord, w ∈ wsX1_announce := by decide +kernel
theorem dsc_X1_announce : fw_dsc yX1_announce 2 := by decide +kernel
set_option maxHeartbeats 4000000 in
set_option maxRecDepth 100000 in
theorem ct_X1_announce {l : Launch} (hl : l.stackTraces = false) {D : va_G} {K : Nat → ClassId} {ba : Nat → Nat} {bf : Nat → Int32} {bg : Nat → Nat → Int32} {n : Nat} {ca : Nat → Nat → Nat} {cf : Nat → Nat → Int32} {cg : Nat → Nat → Nat → Int32} (v x : Int32) (hn : bf 6 = nI n) (hn15 : n ≤ 15) : fw_C (S := Nat → Nat) l yX1_announce wsX1_announce ({ frames := 8, cells := 7, slots := 60, locals := 132 }) 7 60 true [.ref (ba 6), .int v, .int x] D (tyS K) (BW K ba bf bg n ca cf cg) (fun r _ => b_ann_k bf v x = 0 ∧ r = some (.int (bf 6))) (fun u => BW K ba (upd bf 6 (bf 6 + 1)) bg (n + 1) (va_up ca n u) (va_up cf n (c0F v x)) (va_up cg n c0G)) (fun E => px2 E (b_ann_k bf v x)) := by
  refine fw_met (maxL := 4) (ret := (some .int)) (by decide) rfl (Nat.le_of_ble_eq_true rfl) ?_
  intro p e s m args below meth c A X hr hlk hnm htab hE
  refine fw_lv (lv' := [(0, .ref (ba 6)), (1, .int v), (2, .int x)]) [0, 1, 2] rfl ?_
  refine fw_iload_n (pc := 0) X dX1_announce_0 rfl 1 rfl ?_
  refine fw_callS (pc := 1) (n := 1) X hE [.int v] (ct_X1_checkTrader hl v) (by decide) gX1_announce_X1_checkTrader rfl ⟨rfl, rfl⟩ dsc_X1_checkTrader ⟨Nat.le_of_ble_eq_true rfl, Nat.le_of_ble_eq_true rfl⟩ rfl rfl (Nat.le_of_ble_eq_true rfl) dX1_announce_1 ⟨Nat.le_of_ble_eq_true rfl, Nat.le_of_ble_eq_true rfl⟩ (fun E q => by obtain ⟨rfl, q2⟩ := q; exact fw_out X htab hlk (Nat.le_of_ble_eq_true rfl) (Nat.le_of_ble_eq_true rfl) (px2_IA (by simp [b_ann_k, q2])) rfl) (fun r0 u0 r_1 => ?_)
  obtain ⟨q_2, rfl⟩ := r_1
  obtain ⟨hx_v, hl_v⟩ := in_ix (h := 3) (N := 4) (by decide) (by decide) q_2
  refine fw_iload_n (pc := 4) X dX1_announce_4 rfl 2 rfl ?_
  refine fw_callS (pc := 5) (n := 1) X hE [.int x] (ct_X1_checkSeal hl x) (by decide) gX1_announce_X1_checkSeal rfl ⟨rfl, rfl⟩ dsc_X1_checkSeal ⟨Nat.le_of_ble_eq_true rfl, Nat.le_of_ble_eq_true rfl⟩ rfl rfl (Nat.le_of_ble_eq_true rfl) dX1_announce_5 ⟨Nat.le_of_ble_eq_true rfl, Nat.le_of_ble_eq_true rfl⟩ (fun E q => by obtain ⟨rfl, q2⟩ := q; exact fw_out X htab hlk (Nat.le_of_ble_eq_true rfl) (Nat.le_of_ble_eq_true rfl) (px2_IA (by simp [b_ann_k, q_2, q2])) rfl) (fun r0 u0 r_3 => ?_)
  obtain ⟨q_4, rfl⟩ := r_3
  obtain ⟨hx_x, hl_x⟩ := in_ix (h := 999) (N := 1000) (by decide) (by decide) q_4
  refine fw_aload_n (pc := 8) X dX1_announce_8 rfl 0 rfl ?_
  refine fw_get (pc := 9) (v := .int (bf 6)) X iX1_announce_X1 0 B_obj rfl 6 (by decide) kX1_announce_31 rfl dX1_announce_9 ?_
  refine fw_bipush (pc := 12) (v := 15) X dX1_announce_12 (by decide) ?_
  refine fw_icmp_lt (pc := 14) (tgt := 27) X dX1_announce_14 (by decide) (fun c_5 => ?_) (fun c_5 => ?_)
  · refine fw_aload_n (pc := 27) X dX1_announce_27 rfl 0 rfl ?_
    refine fw_get (pc := 28) (v := .int (bf 6)) X iX1_announce_X1 0 B_obj rfl 6 (by decide) kX1_announce_31 rfl dX1_announce_28 ?_
    refine fw_istore_n (pc := 31) (lv' := [(3, .int (bf 6)), (0, .ref (ba 6)), (1, .int v), (2, .int x)]) X dX1_announce_31 rfl (by decide) rfl ?_
    refine fw_aload_n (pc := 32) X dX1_announce_32 rfl 1 rfl ?_
    refine fw_get (pc := 33) (v := .ref (ba 5)) X iX1_announce_X1 0 B_obj rfl 5 (by decide) kX1_announce_27 rfl dX1_announce_33 ?_
    refine fw_iload_n (pc := 36) X dX1_announce_36 rfl 0 rfl ?_
    have hlt : n < 15 := b_ann_lt hn hn15 c_5
    refine fw_new (pc := 37) (C := RX0) (T := TX0) (N := 12) (ci := 0) (fs := [.int 0, .int 0, .null, .null, .null, .int 0, .int 0, .int 0, .int 0, .int 0, .int 0, .int 0]) X iX1_announce_X0 tyX0 tyX0_ok kX1_announce_ncl kX1_announce_nin kX1_announce_nni rfl X0_dflt (Nat.le_of_ble_eq_true rfl) (Nat.le_of_ble_eq_true rfl) dX1_announce_37 (fun q => ?_)
    refine fw_dup (pc := 40) X dX1_announce_40 rfl ?_
    refine fw_iload_n (pc := 41) X dX1_announce_41 rfl 2 rfl ?_
    refine fw_iload_n (pc := 42) X dX1_announce_42 rfl 3 rfl ?_
    refine fw_pm (ws' := [(q, .inr (0, [.int 0, .int 0, .null, .null, .null, .int 0, .int 0, .int 0, .int 0, .int 0, .int 0, .int 0]))] ++ BW K ba bf bg n ca cf cg) List.perm_append_comm ?_
    refine fw_callIR (pc := 43) (n := 2) X hE [.int v, .int x] (ct_X0_init q v x) (fun _ => rfl) gX1_announce_X0_init rfl ⟨rfl, rfl⟩ dsc_X0_init ⟨(Nat.le_of_ble_eq_true rfl), (Nat.le_of_ble_eq_true rfl)⟩ kX1_announce_nni kX1_announce_nml kX1_announce_nim rfl rfl rfl (Nat.le_of_ble_eq_true rfl) dX1_announce_43 ⟨(Nat.le_of_ble_eq_true rfl), (Nat.le_of_ble_eq_true rfl)⟩ (fun _ z => z.elim) (fun r0 u hu => ?_)
    obtain ⟨rfl, hu0⟩ := hu
    subst hu0
    refine fw_astq (pc := 46) (C := RX0) (T := TX0) (N := 12) (n := 15) (cA := K 3) (f := CR ca n) (ws' := NW K u (c0F v x) c0G ++ BWq K ba bf bg (va_up (CR ca n) n (some (u 0))) n ca cf cg) X 10 3 0 0 rfl rfl rfl rfl n hn hlt (by decide) dX1_announce_46 rfl ?_
    refine fw_aload_n (pc := 47) X dX1_announce_47 rfl 1 rfl ?_
    refine fw_iload_n (pc := 48) X dX1_announce_48 rfl 0 rfl ?_
    refine fw_iconst (pc := 49) (v := 1) X dX1_announce_49 (by decide) ?_
    refine fw_iadd (pc := 50) X dX1_announce_50 ?_
    refine fw_put (pc := 51) (ws' := NW K u (c0F v x) c0G ++ BWq K ba (upd bf 6 (bf 6 + 1)) bg (va_up (CR ca n) n (some (u 0))) n ca cf cg) X iX1_announce_X1 tyX1 tyX1_ok nmX1 4 rfl rfl 6 (by decide) kX1_announce_31 rfl rfl rfl (Nat.le_of_ble_eq_true rfl) dX1_announce_51 rfl ?_
    refine fw_iload_n (pc := 54) X dX1_announce_54 rfl 0 rfl ?_
    refine fw_pm B_push ?_
    exact fw_iret (pc := 55) X hr hlk (Nat.le_of_ble_eq_true rfl) (Nat.le_of_ble_eq_true rfl) dX1_announce_55 u ⟨(by simp [b_ann_k, q_2, q_4, c_5]), rfl⟩ rfl
  · exact fw_throw (pc := 17) (text := "no more consignments can be announced") X hE hl fw_fit_IS fw_good_IS fw_bad_IS fw_c_IS (by decide +kernel) kX1_announce_clIS kX1_announce_iniIS kX1_announce_atIS dX1_announce_17 dX1_announce_20 dX1_announce_21 dX1_announce_23 dX1_announce_26 ⟨Nat.le_of_ble_eq_true rfl, Nat.le_of_ble_eq_true rfl, Nat.le_of_ble_eq_true rfl, Nat.le_of_ble_eq_true rfl⟩ htab hlk (px2_IS (by simp [b_ann_k, q_2, q_4, c_5])) (Nat.le_of_ble_eq_true rfl) (Nat.le_of_ble_eq_true rfl) rfl
