theorem kX1_setSort_9 : Cond.fieldLink RX1 9 (TX1 0).1 (TX1 0).2.1 (TX1 0).2.2.1 ∈ wsX1_setSort := by decide +kernel
set_option maxRecDepth 20000 in
theorem iX1_setSort_X1 : ∀ w ∈ wsX10, w ∈ wsX1_setSort := by decide +kernel
theorem kX1_setSort_13 : Cond.fieldLink RX1 13 (TX1 1).1 (TX1 1).2.1 (TX1 1).2.2.1 ∈ wsX1_setSort := by decide +kernel
theorem dsc_X1_setSort : fw_dsc yX1_setSort 3 := by decide +kernel
set_option maxHeartbeats 4000000 in
set_option maxRecDepth 100000 in
theorem ct_X1_setSort {l : Launch} (hl : l.stackTraces = false) {D : va_G} {K : Nat → ClassId} {ba : Nat → Nat} {bf : Nat → Int32} {bg : Nat → Nat → Int32} {n : Nat} {ca : Nat → Nat → Nat} {cf : Nat → Nat → Int32} {cg : Nat → Nat → Nat → Int32} (v x y : Int32) : fw_C (S := Unit) l yX1_setSort wsX1_setSort ({ frames := 8, cells := 3, slots := 18, locals := 132 }) 3 18 true [.ref (ba 6), .int v, .int x, .int y] D (tyS K) (BW K ba bf bg n ca cf cg) (fun r _ => b_ss_k v x y = 0 ∧ r = none) (fun _ => BW K ba bf (va_up (va_up bg 0 (upd (bg 0) (ix v) x)) 1 (upd (bg 1) (ix v) y)) n ca cf cg) (fun E => pxa E (b_ss_k v x y)) := by
  refine fw_met (maxL := 4) (ret := none) (by decide) rfl (Nat.le_of_ble_eq_true rfl) ?_
  intro p e s m args below meth c A X hr hlk hnm htab hE
  refine fw_lv (lv' := [(0, .ref (ba 6)), (1, .int v), (2, .int x), (3, .int y)]) [0, 1, 2, 3] rfl ?_
  refine fw_iload_n (pc := 0) X dX1_setSort_0 rfl 1 rfl ?_
  refine fw_callS (pc := 1) (n := 1) X hE [.int v] (ct_X1_checkSort hl v) (by decide) gX1_setSort_X1_checkSort rfl ⟨rfl, rfl⟩ dsc_X1_checkSort ⟨Nat.le_of_ble_eq_true rfl, Nat.le_of_ble_eq_true rfl⟩ rfl rfl (Nat.le_of_ble_eq_true rfl) dX1_setSort_1 ⟨Nat.le_of_ble_eq_true rfl, Nat.le_of_ble_eq_true rfl⟩ (fun E q => by obtain ⟨rfl, q2⟩ := q; exact fw_out X htab hlk (Nat.le_of_ble_eq_true rfl) (Nat.le_of_ble_eq_true rfl) (pxa_IA (by simp [b_ss_k, q2])) rfl) (fun r0 u0 r_1 => ?_)
  obtain ⟨q_2, rfl⟩ := r_1
  obtain ⟨hx_v, hl_v⟩ := in_ix (h := 5) (N := 6) (by decide) (by decide) q_2
  refine fw_iload_n (pc := 4) X dX1_setSort_4 rfl 2 rfl ?_
  refine fw_iconst (pc := 5) (v := 0) X dX1_setSort_5 (by decide) ?_
  refine fw_bipush (pc := 6) (v := 50) X dX1_setSort_6 (by decide) ?_
  refine fw_callS (pc := 8) (n := 3) X hE [.int x, .int 0, .int 50] (ct_X1_checkRange hl x 0 50) (by decide) gX1_setSort_X1_checkRange rfl ⟨rfl, rfl⟩ dsc_X1_checkRange ⟨Nat.le_of_ble_eq_true rfl, Nat.le_of_ble_eq_true rfl⟩ rfl rfl (Nat.le_of_ble_eq_true rfl) dX1_setSort_8 ⟨Nat.le_of_ble_eq_true rfl, Nat.le_of_ble_eq_true rfl⟩ (fun E q => by obtain ⟨rfl, q2⟩ := q; exact fw_out X htab hlk (Nat.le_of_ble_eq_true rfl) (Nat.le_of_ble_eq_true rfl) (pxa_IA (by simp [b_ss_k, q_2, q2])) rfl) (fun r0 u0 r_3 => ?_)
  obtain ⟨q_4, rfl⟩ := r_3
  obtain ⟨hx_x, hl_x⟩ := in_ix (h := 50) (N := 51) (by decide) (by decide) q_4
  refine fw_iload_n (pc := 11) X dX1_setSort_11 rfl 3 rfl ?_
  refine fw_iconst (pc := 12) (v := 0) X dX1_setSort_12 (by decide) ?_
  refine fw_bipush (pc := 13) (v := 20) X dX1_setSort_13 (by decide) ?_
  refine fw_callS (pc := 15) (n := 3) X hE [.int y, .int 0, .int 20] (ct_X1_checkRange hl y 0 20) (by decide) gX1_setSort_X1_checkRange rfl ⟨rfl, rfl⟩ dsc_X1_checkRange ⟨Nat.le_of_ble_eq_true rfl, Nat.le_of_ble_eq_true rfl⟩ rfl rfl (Nat.le_of_ble_eq_true rfl) dX1_setSort_15 ⟨Nat.le_of_ble_eq_true rfl, Nat.le_of_ble_eq_true rfl⟩ (fun E q => by obtain ⟨rfl, q2⟩ := q; exact fw_out X htab hlk (Nat.le_of_ble_eq_true rfl) (Nat.le_of_ble_eq_true rfl) (pxa_IA (by simp [b_ss_k, q_2, q_4, q2])) rfl) (fun r0 u0 r_5 => ?_)
  obtain ⟨q_6, rfl⟩ := r_5
  obtain ⟨hx_y, hl_y⟩ := in_ix (h := 20) (N := 21) (by decide) (by decide) q_6
  refine fw_aload_n (pc := 18) X dX1_setSort_18 rfl 0 rfl ?_
  refine fw_get (pc := 19) (v := .ref (ba 0)) X iX1_setSort_X1 0 B_obj rfl 0 (by decide) kX1_setSort_9 rfl dX1_setSort_19 ?_
  refine fw_iload_n (pc := 22) X dX1_setSort_22 rfl 1 rfl ?_
  refine fw_iload_n (pc := 23) X dX1_setSort_23 rfl 2 rfl ?_
  refine fw_iast (pc := 24) (n := 6) (cA := K 0) (f := bg 0) (ws' := BW K ba bf (va_up bg 0 (upd (bg 0) (ix v) x)) n ca cf cg) X 1 0 (B_g0 (bg := bg)) rfl (ix v) hx_v (by omega) (by decide) dX1_setSort_24 (B_s0 _) ?_
  refine fw_aload_n (pc := 25) X dX1_setSort_25 rfl 0 rfl ?_
  refine fw_get (pc := 26) (v := .ref (ba 1)) X iX1_setSort_X1 0 B_obj rfl 1 (by decide) kX1_setSort_13 rfl dX1_setSort_26 ?_
  refine fw_iload_n (pc := 29) X dX1_setSort_29 rfl 1 rfl ?_
  refine fw_iload_n (pc := 30) X dX1_setSort_30 rfl 3 rfl ?_
  refine fw_iast (pc := 31) (n := 6) (cA := K 0) (f := bg 1) (ws' := BW K ba bf (va_up (va_up bg 0 (upd (bg 0) (ix v) x)) 1 (upd (bg 1) (ix v) y)) n ca cf cg) X 2 0 (B_g1 (bg := (va_up bg 0 (upd (bg 0) (ix v) x)))) rfl (ix v) hx_v (by omega) (by decide) dX1_setSort_31 (B_s1 _) ?_
  exact fw_vret (pc := 32) X hr hlk (Nat.le_of_ble_eq_true rfl) (Nat.le_of_ble_eq_true rfl) dX1_setSort_32 () ⟨(by simp [b_ss_k, q_2, q_4, q_6]), (by first | rfl | simp [q_2, q_4, q_6])⟩ (by first | rfl | simp [q_2, q_4, q_6])
theorem kX1_setRisk_38 : Cond.fieldLink RX1 38 (TX1 8).1 (TX1 8).2.1 (TX1 8).2.2.1 ∈ wsX1_setRisk := by decide +kernel
set_option maxRecDepth 20000 in
theorem iX1_setRisk_X1 : ∀ w ∈ wsX10, w ∈ wsX1_setRisk := by decide +kernel
theorem kX1_setRisk_41 : Cond.fieldLink RX1 41 (TX1 9).1 (TX1 9).2.1 (TX1 9).2.2.1 ∈ wsX1_setRisk := by decide +kernel
theorem dsc_X1_setRisk : fw_dsc yX1_setRisk 2 := by decide +kernel
set_option maxHeartbeats 4000000 in
set_option maxRecDepth 100000 in
theorem ct_X1_setRisk {l : Launch} (hl : l.stackTraces = false) {D : va_G} {K : Nat → ClassId} {ba : Nat → Nat} {bf : Nat → Int32} {bg : Nat → Nat → Int32} {n : Nat} {ca : Nat → Nat → Nat} {cf : Nat → Nat → Int32} {cg : Nat → Nat → Nat → Int32} (v x : Int32) : fw_C (S := Unit) l yX1_setRisk wsX1_setRisk ({ frames := 7, cells := 2, slots := 12, locals := 112 }) 2 12 true [.ref (ba 6), .int v, .int x] D (tyS K) (BW K ba bf bg n ca cf cg) (fun r _ => b_sr_k v x = 0 ∧ r = some (.int (b_cn (upd (upd bf 8 v) 9 x) bg n cf cg 15))) (fun _ => BW K ba (upd (upd bf 8 v) 9 x) bg n ca cf cg) (fun E => pxa E (b_sr_k v x)) := by
  refine fw_met (maxL := 3) (ret := (some .int)) (by decide) rfl (Nat.le_of_ble_eq_true rfl) ?_
  intro p e s m args below meth c A X hr hlk hnm htab hE
  refine fw_lv (lv' := [(0, .ref (ba 6)), (1, .int v), (2, .int x)]) [0, 1, 2] rfl ?_
  refine fw_iload_n (pc := 0) X dX1_setRisk_0 rfl 1 rfl ?_
  refine fw_iconst (pc := 1) (v := 0) X dX1_setRisk_1 (by decide) ?_
  refine fw_sipush (pc := 2) (v := 200) X dX1_setRisk_2 (by decide) ?_
  refine fw_callS (pc := 5) (n := 3) X hE [.int v, .int 0, .int 200] (ct_X1_checkRange hl v 0 200) (by decide) gX1_setRisk_X1_checkRange rfl ⟨rfl, rfl⟩ dsc_X1_checkRange ⟨Nat.le_of_ble_eq_true rfl, Nat.le_of_ble_eq_true rfl⟩ rfl rfl (Nat.le_of_ble_eq_true rfl) dX1_setRisk_5 ⟨Nat.le_of_ble_eq_true rfl, Nat.le_of_ble_eq_true rfl⟩ (fun E q => by obtain ⟨rfl, q2⟩ := q; exact fw_out X htab hlk (Nat.le_of_ble_eq_true rfl) (Nat.le_of_ble_eq_true rfl) (pxa_IA (by simp [b_sr_k, q2])) rfl) (fun r0 u0 r_1 => ?_)
  obtain ⟨q_2, rfl⟩ := r_1
  obtain ⟨hx_v, hl_v⟩ := in_ix (h := 200) (N := 201) (by decide) (by decide) q_2
  refine fw_iload_n (pc := 8) X dX1_setRisk_8 rfl 2 rfl ?_
  refine fw_iconst (pc := 9) (v := 0) X dX1_setRisk_9 (by decide) ?_
  refine fw_bipush (pc := 10) (v := 10) X dX1_setRisk_10 (by decide) ?_
  refine fw_callS (pc := 12) (n := 3) X hE [.int x, .int 0, .int 10] (ct_X1_checkRange hl x 0 10) (by decide) gX1_setRisk_X1_checkRange rfl ⟨rfl, rfl⟩ dsc_X1_checkRange ⟨Nat.le_of_ble_eq_true rfl, Nat.le_of_ble_eq_true rfl⟩ rfl rfl (Nat.le_of_ble_eq_true rfl) dX1_setRisk_12 ⟨Nat.le_of_ble_eq_true rfl, Nat.le_of_ble_eq_true rfl⟩ (fun E q => by obtain ⟨rfl, q2⟩ := q; exact fw_out X htab hlk (Nat.le_of_ble_eq_true rfl) (Nat.le_of_ble_eq_true rfl) (pxa_IA (by simp [b_sr_k, q_2, q2])) rfl) (fun r0 u0 r_3 => ?_)
  obtain ⟨q_4, rfl⟩ := r_3
  obtain ⟨hx_x, hl_x⟩ := in_ix (h := 10) (N := 11) (by decide) (by decide) q_4
  refine fw_aload_n (pc := 15) X dX1_setRisk_15 rfl 0 rfl ?_
  refine fw_iload_n (pc := 16) X dX1_setRisk_16 rfl 1 rfl ?_
  refine fw_put (pc := 17) (ws' := BW K ba (upd bf 8 v) bg n ca cf cg) X iX1_setRisk_X1 tyX1 tyX1_ok nmX1 0 B_obj rfl 8 (by decide) kX1_setRisk_38 rfl rfl rfl (Nat.le_of_ble_eq_true rfl) dX1_setRisk_17 (B_f8 _) ?_
  refine fw_aload_n (pc := 20) X dX1_setRisk_20 rfl 0 rfl ?_
  refine fw_iload_n (pc := 21) X dX1_setRisk_21 rfl 2 rfl ?_
  refine fw_put (pc := 22) (ws' := BW K ba (upd (upd bf 8 v) 9 x) bg n ca cf cg) X iX1_setRisk_X1 tyX1 tyX1_ok nmX1 0 B_obj rfl 9 (by decide) kX1_setRisk_41 rfl rfl rfl (Nat.le_of_ble_eq_true rfl) dX1_setRisk_22 (B_f9 _) ?_
  refine fw_aload_n (pc := 25) X dX1_setRisk_25 rfl 0 rfl ?_
  refine fw_callV (pc := 26) (n := 0) (C := (RX1, TX1, 10)) (ci := 1) (q0 := 0) X hE [] (ct_X1_countToSearch hl ) (by decide) gX1_setRisk_X1_countToSearch rfl ⟨rfl, rfl⟩ ⟨rfl, dsc_X1_countToSearch⟩ ⟨Nat.le_of_ble_eq_true rfl, Nat.le_of_ble_eq_true rfl⟩ rfl B_obj rfl rfl (Nat.le_of_ble_eq_true rfl) dX1_setRisk_26 ⟨Nat.le_of_ble_eq_true rfl, Nat.le_of_ble_eq_true rfl⟩ (fun _ q => q.elim) (fun r0 u0 r_5 => ?_)
  subst r_5
  exact fw_iret (pc := 29) X hr hlk (Nat.le_of_ble_eq_true rfl) (Nat.le_of_ble_eq_true rfl) dX1_setRisk_29 () ⟨(by simp [b_sr_k, q_2, q_4]), (by first | rfl | simp [q_2, q_4])⟩ (by first | rfl | simp [q_2, q_4])
theorem kX1_setGuarantee_59 : Cond.constant RX1 59 1000000 ∈ wsX1_setGuarantee := by decide +kernel
theorem kX1_setGuarantee_19 : Cond.fieldLink RX1 19 (TX1 3).1 (TX1 3).2.1 (TX1 3).2.2.1 ∈ wsX1_setGuarantee := by decide +kernel
set_option maxRecDepth 20000 in
theorem iX1_setGuarantee_X1 : ∀ w ∈ wsX10, w ∈ wsX1_setGuarantee := by decide +kernel
theorem kX1_setGuarantee_16 : Cond.fieldLink RX1 16 (TX1 2).1 (TX1 2).2.1 (TX1 2).2.2.1 ∈ wsX1_setGuarantee := by decide +kernel
theorem kX1_setGuarantee_clIS : Cond.classLink RX1 60 fw_IS ∈ wsX1_setGuarantee := by decide +kernel
theorem kX1_setGuarantee_iniIS : Cond.initialized fw_IS ∈ wsX1_setGuarantee := by decide +kernel
set_option maxRecDepth 20000 in
theorem kX1_setGuarantee_atIS : ∀ w ∈ (vx_atS RX1 64 fw_IS fw_chn).filter goodWord, w ∈ wsX1_setGuarantee := by decide +kernel
theorem dsc_X1_setGuarantee : fw_dsc yX1_setGuarantee 2 := by decide +kernel
set_option maxHeartbeats 4000000 in
set_option maxRecDepth 100000 in
theorem ct_X1_setGuarantee {l : Launch} (hl : l.stackTraces = false) {D : va_G} {K : Nat → ClassId} {ba : Nat → Nat} {bf : Nat → Int32} {bg : Nat → Nat → Int32} {n : Nat} {ca : Nat → Nat → Nat} {cf : Nat → Nat → Int32} {cg : Nat → Nat → Nat → Int32} (v x : Int32) : fw_C (S := Unit) l yX1_setGuarantee wsX1_setGuarantee ({ frames := 8, cells := 3, slots := 18, locals := 132 }) 3 18 true [.ref (ba 6), .int v, .int x] D (tyS K) (BW K ba bf bg n ca cf cg) (fun r _ => b_sg_k bg v x = 0 ∧ r = some (.int (bg 2 (ix v)))) (fun _ => BW K ba bf (va_up bg 2 (upd (bg 2) (ix v) x)) n ca cf cg) (fun E => px2 E (b_sg_k bg v x)) := by
  refine fw_met (maxL := 4) (ret := (some .int)) (by decide) rfl (Nat.le_of_ble_eq_true rfl) ?_
  intro p e s m args below meth c A X hr hlk hnm htab hE
  refine fw_lv (lv' := [(0, .ref (ba 6)), (1, .int v), (2, .int x)]) [0, 1, 2] rfl ?_
  refine fw_iload_n (pc := 0) X dX1_setGuarantee_0 rfl 1 rfl ?_
  refine fw_callS (pc := 1) (n := 1) X hE [.int v] (ct_X1_checkTrader hl v) (by decide) gX1_setGuarantee_X1_checkTrader rfl ⟨rfl, rfl⟩ dsc_X1_checkTrader ⟨Nat.le_of_ble_eq_true rfl, Nat.le_of_ble_eq_true rfl⟩ rfl rfl (Nat.le_of_ble_eq_true rfl) dX1_setGuarantee_1 ⟨Nat.le_of_ble_eq_true rfl, Nat.le_of_ble_eq_true rfl⟩ (fun E q => by obtain ⟨rfl, q2⟩ := q; exact fw_out X htab hlk (Nat.le_of_ble_eq_true rfl) (Nat.le_of_ble_eq_true rfl) (px2_IA (by simp [b_sg_k, q2])) rfl) (fun r0 u0 r_1 => ?_)
  obtain ⟨q_2, rfl⟩ := r_1
  obtain ⟨hx_v, hl_v⟩ := in_ix (h := 3) (N := 4) (by decide) (by decide) q_2
  refine fw_iload_n (pc := 4) X dX1_setGuarantee_4 rfl 2 rfl ?_
  refine fw_iconst (pc := 5) (v := 0) X dX1_setGuarantee_5 (by decide) ?_
  refine fw_ldc (pc := 6) (v := 1000000) X kX1_setGuarantee_59 dX1_setGuarantee_6 ?_
  refine fw_callS (pc := 8) (n := 3) X hE [.int x, .int 0, .int 1000000] (ct_X1_checkRange hl x 0 1000000) (by decide) gX1_setGuarantee_X1_checkRange rfl ⟨rfl, rfl⟩ dsc_X1_checkRange ⟨Nat.le_of_ble_eq_true rfl, Nat.le_of_ble_eq_true rfl⟩ rfl rfl (Nat.le_of_ble_eq_true rfl) dX1_setGuarantee_8 ⟨Nat.le_of_ble_eq_true rfl, Nat.le_of_ble_eq_true rfl⟩ (fun E q => by obtain ⟨rfl, q2⟩ := q; exact fw_out X htab hlk (Nat.le_of_ble_eq_true rfl) (Nat.le_of_ble_eq_true rfl) (px2_IA (by simp [b_sg_k, q_2, q2])) rfl) (fun r0 u0 r_3 => ?_)
  obtain ⟨q_4, rfl⟩ := r_3
  obtain ⟨hx_x, hl_x⟩ := in_ix (h := 1000000) (N := 1000001) (by decide) (by decide) q_4
  refine fw_aload_n (pc := 11) X dX1_setGuarantee_11 rfl 0 rfl ?_
  refine fw_get (pc := 12) (v := .ref (ba 3)) X iX1_setGuarantee_X1 0 B_obj rfl 3 (by decide) kX1_setGuarantee_19 rfl dX1_setGuarantee_12 ?_
  refine fw_iload_n (pc := 15) X dX1_setGuarantee_15 rfl 1 rfl ?_
  refine fw_iald (pc := 16) (n := 4) (cA := K 0) (f := bg 3) X 4 0 (B_g3 (bg := bg)) rfl (ix v) hx_v (by omega) (by decide) dX1_setGuarantee_16 ?_
  refine fw_iload_n (pc := 17) X dX1_setGuarantee_17 rfl 2 rfl ?_
  refine fw_icmp_le (pc := 18) (tgt := 31) X dX1_setGuarantee_18 (by decide) (fun c_5 => ?_) (fun c_5 => ?_)
  · refine fw_aload_n (pc := 31) X dX1_setGuarantee_31 rfl 0 rfl ?_
    refine fw_get (pc := 32) (v := .ref (ba 2)) X iX1_setGuarantee_X1 0 B_obj rfl 2 (by decide) kX1_setGuarantee_16 rfl dX1_setGuarantee_32 ?_
    refine fw_iload_n (pc := 35) X dX1_setGuarantee_35 rfl 1 rfl ?_
    refine fw_iald (pc := 36) (n := 4) (cA := K 0) (f := bg 2) X 3 0 (B_g2 (bg := bg)) rfl (ix v) hx_v (by omega) (by decide) dX1_setGuarantee_36 ?_
    refine fw_istore_n (pc := 37) (lv' := [(3, .int (bg 2 (ix v))), (0, .ref (ba 6)), (1, .int v), (2, .int x)]) X dX1_setGuarantee_37 rfl (by decide) rfl ?_
    refine fw_aload_n (pc := 38) X dX1_setGuarantee_38 rfl 1 rfl ?_
    refine fw_get (pc := 39) (v := .ref (ba 2)) X iX1_setGuarantee_X1 0 B_obj rfl 2 (by decide) kX1_setGuarantee_16 rfl dX1_setGuarantee_39 ?_
    refine fw_iload_n (pc := 42) X dX1_setGuarantee_42 rfl 2 rfl ?_
    refine fw_iload_n (pc := 43) X dX1_setGuarantee_43 rfl 3 rfl ?_
    refine fw_iast (pc := 44) (n := 4) (cA := K 0) (f := bg 2) (ws' := BW K ba bf (va_up bg 2 (upd (bg 2) (ix v) x)) n ca cf cg) X 3 0 (B_g2 (bg := bg)) rfl (ix v) hx_v (by omega) (by decide) dX1_setGuarantee_44 (B_s2 _) ?_
    refine fw_iload_n (pc := 45) X dX1_setGuarantee_45 rfl 0 rfl ?_
    exact fw_iret (pc := 46) X hr hlk (Nat.le_of_ble_eq_true rfl) (Nat.le_of_ble_eq_true rfl) dX1_setGuarantee_46 () ⟨(by simp [b_sg_k, q_2, q_4, c_5]), (by first | rfl | simp [q_2, q_4, c_5])⟩ (by first | rfl | simp [q_2, q_4, c_5])
  · exact fw_throw (pc := 21) (text := "more than that is held") X hE hl fw_fit_IS fw_good_IS fw_bad_IS fw_c_IS (by decide +kernel) kX1_setGuarantee_clIS kX1_setGuarantee_iniIS kX1_setGuarantee_atIS dX1_setGuarantee_21 dX1_setGuarantee_24 dX1_setGuarantee_25 dX1_setGuarantee_27 dX1_setGuarantee_30 ⟨Nat.le_of_ble_eq_true rfl, Nat.le_of_ble_eq_true rfl, Nat.le_of_ble_eq_true rfl, Nat.le_of_ble_eq_true rfl⟩ htab hlk (px2_IS (by simp [b_sg_k, q_2, q_4, c_5])) (Nat.le_of_ble_eq_true rfl) (Nat.le_of_ble_eq_true rfl) rfl
theorem kX1_amend_79 : Cond.fieldLink RX1 79 (TX0 5).1 (TX0 5).2.1 (TX0 5).2.2.1 ∈ wsX1_amend := by decide +kernel
set_option maxRecDepth 20000 in
theorem iX1_amend_X0 : ∀ w ∈ wsX00, w ∈ wsX1_amend := by decide +kernel
theorem kX1_amend_84 : Cond.fieldLink RX1 84 (TX0 2).1 (TX0 2).2.1 (TX0 2).2.2.1 ∈ wsX1_amend := by decide +kernel
theorem kX1_amend_89 : Cond.fieldLink RX1 89 (TX0 6).1 (TX0 6).2.1 (TX0 6).2.2.1 ∈ wsX1_amend := by decide +kernel
theorem kX1_amend_clIS : Cond.classLink RX1 60 fw_IS ∈ wsX1_amend := by decide +kernel
theorem kX1_amend_iniIS : Cond.initialized fw_IS ∈ wsX1_amend := by decide +kernel
set_option maxRecDepth 20000 in
theorem kX1_amend_atIS : ∀ w ∈ (vx_atS RX1 64 fw_IS fw_chn).filter goodWord, w ∈ wsX1_amend := by decide +kernel
theorem dsc_X1_amend : fw_dsc yX1_amend 3 := by decide +kernel
set_option maxHeartbeats 4000000 in
set_option maxRecDepth 100000 in
theorem ct_X1_amend {l : Launch} (hl : l.stackTraces = false) {D : va_G} {K : Nat → ClassId} {ba : Nat → Nat} {bf : Nat → Int32} {bg : Nat → Nat → Int32} {n : Nat} {ca : Nat → Nat → Nat} {cf : Nat → Nat → Int32} {cg : Nat → Nat → Nat → Int32} (u v x : Int32) (hn15 : n ≤ 15) : fw_C (S := Unit) l yX1_amend wsX1_amend ({ frames := 8, cells := 4, slots := 24, locals := 132 }) 4 24 true [.ref (ba 6), .int u, .int v, .int x] D (tyS K) (BW K ba bf bg n ca cf cg) (fun r _ => b_amd_k n cf cg u v x = 0 ∧ r = some (.int (cf (ix u) 6 + 1))) (fun _ => BW K ba bf bg n ca (va_up cf (ix u) (upd (cf (ix u)) 6 (cf (ix u) 6 + 1))) (va_up cg (ix u) (va_up (cg (ix u)) 2 (upd (cg (ix u) 2) (ix v) x)))) (fun E => px3 E (b_amd_k n cf cg u v x)) := by
  refine fw_met (maxL := 5) (ret := (some .int)) (by decide) rfl (Nat.le_of_ble_eq_true rfl) ?_
  intro p e s m args below meth c A X hr hlk hnm htab hE
  refine fw_lv (lv' := [(0, .ref (ba 6)), (1, .int u), (2, .int v), (3, .int x)]) [0, 1, 2, 3] rfl ?_
  refine fw_aload_n (pc := 0) X dX1_amend_0 rfl 0 rfl ?_
  refine fw_iload_n (pc := 1) X dX1_amend_1 rfl 1 rfl ?_
  refine fw_callV (pc := 2) (n := 1) (C := (RX1, TX1, 10)) (ci := 1) (q0 := 0) X hE [.int u] (ct_X1_findConsignment hl u hn15) (by decide) gX1_amend_X1_findConsignment rfl ⟨rfl, rfl⟩ ⟨rfl, dsc_X1_findConsignment⟩ ⟨Nat.le_of_ble_eq_true rfl, Nat.le_of_ble_eq_true rfl⟩ rfl B_obj rfl rfl (Nat.le_of_ble_eq_true rfl) dX1_amend_2 ⟨Nat.le_of_ble_eq_true rfl, Nat.le_of_ble_eq_true rfl⟩ (fun E q => by obtain ⟨rfl, q2⟩ := q; exact fw_out X htab hlk (Nat.le_of_ble_eq_true rfl) (Nat.le_of_ble_eq_true rfl) (px3_IO (by simp [b_amd_k, q2])) rfl) (fun r0 u0 r_1 => ?_)
  obtain ⟨q_2, rfl⟩ := r_1
  obtain ⟨hx_u, hl_u⟩ := in_con hn15 q_2
  refine fw_astore (pc := 5) (lv' := [(4, .ref (ca (ix u) 0)), (0, .ref (ba 6)), (1, .int u), (2, .int v), (3, .int x)]) X dX1_amend_5 (by decide) rfl ?_
  refine fw_iload_n (pc := 7) X dX1_amend_7 rfl 3 rfl ?_
  refine fw_callS (pc := 8) (n := 1) X hE [.int v] (ct_X1_checkSort hl v) (by decide) gX1_amend_X1_checkSort rfl ⟨rfl, rfl⟩ dsc_X1_checkSort ⟨Nat.le_of_ble_eq_true rfl, Nat.le_of_ble_eq_true rfl⟩ rfl rfl (Nat.le_of_ble_eq_true rfl) dX1_amend_8 ⟨Nat.le_of_ble_eq_true rfl, Nat.le_of_ble_eq_true rfl⟩ (fun E q => by obtain ⟨rfl, q2⟩ := q; exact fw_out X htab hlk (Nat.le_of_ble_eq_true rfl) (Nat.le_of_ble_eq_true rfl) (px3_IA (by simp [b_amd_k, q_2, q2])) rfl) (fun r0 u0 r_3 => ?_)
  obtain ⟨q_4, rfl⟩ := r_3
  obtain ⟨hx_v, hl_v⟩ := in_ix (h := 5) (N := 6) (by decide) (by decide) q_4
  refine fw_iload_n (pc := 11) X dX1_amend_11 rfl 4 rfl ?_
  refine fw_iconst (pc := 12) (v := 0) X dX1_amend_12 (by decide) ?_
  refine fw_bipush (pc := 13) (v := 100) X dX1_amend_13 (by decide) ?_
  refine fw_callS (pc := 15) (n := 3) X hE [.int x, .int 0, .int 100] (ct_X1_checkRange hl x 0 100) (by decide) gX1_amend_X1_checkRange rfl ⟨rfl, rfl⟩ dsc_X1_checkRange ⟨Nat.le_of_ble_eq_true rfl, Nat.le_of_ble_eq_true rfl⟩ rfl rfl (Nat.le_of_ble_eq_true rfl) dX1_amend_15 ⟨Nat.le_of_ble_eq_true rfl, Nat.le_of_ble_eq_true rfl⟩ (fun E q => by obtain ⟨rfl, q2⟩ := q; exact fw_out X htab hlk (Nat.le_of_ble_eq_true rfl) (Nat.le_of_ble_eq_true rfl) (px3_IA (by simp [b_amd_k, q_2, q_4, q2])) rfl) (fun r0 u0 r_5 => ?_)
  obtain ⟨q_6, rfl⟩ := r_5
  obtain ⟨hx_x, hl_x⟩ := in_ix (h := 100) (N := 101) (by decide) (by decide) q_6
  refine fw_aload (pc := 18) X dX1_amend_18 0 rfl ?_
  refine fw_get (pc := 20) (v := .int (cf (ix u) 5)) X iX1_amend_X0 (4 * (ix u) + 0 + 7) (B_co (ix u) hl_u) rfl 5 (by decide) kX1_amend_79 rfl dX1_amend_20 ?_
  refine fw_if_eq (pc := 23) (tgt := 36) X dX1_amend_23 (by decide) (fun c_7 => ?_) (fun c_7 => ?_)
  · refine fw_aload (pc := 36) X dX1_amend_36 0 rfl ?_
    refine fw_get (pc := 38) (v := .ref (ca (ix u) 2)) X iX1_amend_X0 (4 * (ix u) + 0 + 7) (B_co (ix u) hl_u) rfl 2 (by decide) kX1_amend_84 rfl dX1_amend_38 ?_
    refine fw_iload_n (pc := 41) X dX1_amend_41 rfl 3 rfl ?_
    refine fw_iald (pc := 42) (n := 6) (cA := K 0) (f := cg (ix u) 2) X (4 * (ix u) + 1 + 7) 0 (B_c2 (cg := cg) (ix u) hl_u) rfl (ix v) hx_v (by omega) (by decide) dX1_amend_42 ?_
    refine fw_iload_n (pc := 43) X dX1_amend_43 rfl 4 rfl ?_
    refine fw_icmp_ne (pc := 44) (tgt := 57) X dX1_amend_44 (by decide) (fun c_8 => ?_) (fun c_8 => ?_)
    · refine fw_aload (pc := 57) X dX1_amend_57 0 rfl ?_
      refine fw_get (pc := 59) (v := .ref (ca (ix u) 2)) X iX1_amend_X0 (4 * (ix u) + 0 + 7) (B_co (ix u) hl_u) rfl 2 (by decide) kX1_amend_84 rfl dX1_amend_59 ?_
      refine fw_iload_n (pc := 62) X dX1_amend_62 rfl 3 rfl ?_
      refine fw_iload_n (pc := 63) X dX1_amend_63 rfl 4 rfl ?_
      refine fw_iast (pc := 64) (n := 6) (cA := K 0) (f := cg (ix u) 2) (ws' := BW K ba bf bg n ca cf (va_up cg (ix u) (va_up (cg (ix u)) 2 (upd (cg (ix u) 2) (ix v) x)))) X (4 * (ix u) + 1 + 7) 0 (B_c2 (cg := cg) (ix u) hl_u) rfl (ix v) hx_v (by omega) (by decide) dX1_amend_64 (B_cs2 (ix u) hl_u _) ?_
      refine fw_aload (pc := 65) X dX1_amend_65 0 rfl ?_
      refine fw_dup (pc := 67) X dX1_amend_67 rfl ?_
      refine fw_get (pc := 68) (v := .int (cf (ix u) 6)) X iX1_amend_X0 (4 * (ix u) + 0 + 7) (B_co (ix u) hl_u) rfl 6 (by decide) kX1_amend_89 rfl dX1_amend_68 ?_
      refine fw_iconst (pc := 71) (v := 1) X dX1_amend_71 (by decide) ?_
      refine fw_iadd (pc := 72) X dX1_amend_72 ?_
      refine fw_put (pc := 73) (ws' := BW K ba bf bg n ca (va_up cf (ix u) (upd (cf (ix u)) 6 ((cf (ix u) 6) + 1))) (va_up cg (ix u) (va_up (cg (ix u)) 2 (upd (cg (ix u) 2) (ix v) x)))) X iX1_amend_X0 tyX0 tyX0_ok nmX0 (4 * (ix u) + 0 + 7) (B_co (ix u) hl_u) rfl 6 (by decide) kX1_amend_89 rfl rfl rfl (Nat.le_of_ble_eq_true rfl) dX1_amend_73 (B_cf6 (ix u) hl_u _) ?_
      refine fw_aload (pc := 76) X dX1_amend_76 0 rfl ?_
      refine fw_get (pc := 78) (v := .int ((cf (ix u) 6) + 1)) X iX1_amend_X0 (4 * (ix u) + 0 + 7) (B_co (ix u) hl_u) rfl 6 (by decide) kX1_amend_89 (by simp [CF, va_up, upd]) dX1_amend_78 ?_
      exact fw_iret (pc := 81) X hr hlk (Nat.le_of_ble_eq_true rfl) (Nat.le_of_ble_eq_true rfl) dX1_amend_81 () ⟨(by simp [b_amd_k, q_2, q_4, q_6, c_7, c_8]), (by first | rfl | simp [q_2, q_4, q_6, c_7, c_8])⟩ (by first | rfl | simp [q_2, q_4, q_6, c_7, c_8])
    · exact fw_throw (pc := 47) (text := "the manifest says so already") X hE hl fw_fit_IS fw_good_IS fw_bad_IS fw_c_IS (by decide +kernel) kX1_amend_clIS kX1_amend_iniIS kX1_amend_atIS dX1_amend_47 dX1_amend_50 dX1_amend_51 dX1_amend_53 dX1_amend_56 ⟨Nat.le_of_ble_eq_true rfl, Nat.le_of_ble_eq_true rfl, Nat.le_of_ble_eq_true rfl, Nat.le_of_ble_eq_true rfl⟩ htab hlk (px3_IS (by simp [b_amd_k, q_2, q_4, q_6, c_7, c_8])) (Nat.le_of_ble_eq_true rfl) (Nat.le_of_ble_eq_true rfl) rfl
  · exact fw_throw (pc := 26) (text := "the consignment is not under way") X hE hl fw_fit_IS fw_good_IS fw_bad_IS fw_c_IS (by decide +kernel) kX1_amend_clIS kX1_amend_iniIS kX1_amend_atIS dX1_amend_26 dX1_amend_29 dX1_amend_30 dX1_amend_32 dX1_amend_35 ⟨Nat.le_of_ble_eq_true rfl, Nat.le_of_ble_eq_true rfl, Nat.le_of_ble_eq_true rfl, Nat.le_of_ble_eq_true rfl⟩ htab hlk (px3_IS (by simp [b_amd_k, q_2, q_4, q_6, c_7])) (Nat.le_of_ble_eq_true rfl) (Nat.le_of_ble_eq_true rfl) rfl
theorem kX1_arrive_79 : Cond.fieldLink RX1 79 (TX0 5).1 (TX0 5).2.1 (TX0 5).2.2.1 ∈ wsX1_arrive := by decide +kernel
set_option maxRecDepth 20000 in
theorem iX1_arrive_X0 : ∀ w ∈ wsX00, w ∈ wsX1_arrive := by decide +kernel
theorem kX1_arrive_35 : Cond.fieldLink RX1 35 (TX1 7).1 (TX1 7).2.1 (TX1 7).2.2.1 ∈ wsX1_arrive := by decide +kernel
set_option maxRecDepth 20000 in
theorem iX1_arrive_X1 : ∀ w ∈ wsX10, w ∈ wsX1_arrive := by decide +kernel
theorem kX1_arrive_97 : Cond.fieldLink RX1 97 (TX0 1).1 (TX0 1).2.1 (TX0 1).2.2.1 ∈ wsX1_arrive := by decide +kernel
theorem kX1_arrive_100 : Cond.fieldLink RX1 100 (TX0 10).1 (TX0 10).2.1 (TX0 10).2.2.1 ∈ wsX1_arrive := by decide +kernel
theorem kX1_arrive_41 : Cond.fieldLink RX1 41 (TX1 9).1 (TX1 9).2.1 (TX1 9).2.2.1 ∈ wsX1_arrive := by decide +kernel
theorem kX1_arrive_104 : Cond.fieldLink RX1 104 (TX0 11).1 (TX0 11).2.1 (TX0 11).2.2.1 ∈ wsX1_arrive := by decide +kernel
theorem kX1_arrive_clIS : Cond.classLink RX1 60 fw_IS ∈ wsX1_arrive := by decide +kernel
theorem kX1_arrive_iniIS : Cond.initialized fw_IS ∈ wsX1_arrive := by decide +kernel
set_option maxRecDepth 20000 in
theorem kX1_arrive_atIS : ∀ w ∈ (vx_atS RX1 64 fw_IS fw_chn).filter goodWord, w ∈ wsX1_arrive := by decide +kernel
theorem dsc_X1_arrive : fw_dsc yX1_arrive 2 := by decide +kernel
set_option maxHeartbeats 4000000 in
set_option maxRecDepth 100000 in
theorem ct_X1_arrive {l : Launch} (hl : l.stackTraces = false) {D : va_G} {K : Nat → ClassId} {ba : Nat → Nat} {bf : Nat → Int32} {bg : Nat → Nat → Int32} {n : Nat} {ca : Nat → Nat → Nat} {cf : Nat → Nat → Int32} {cg : Nat → Nat → Nat → Int32} (u x : Int32) (hn15 : n ≤ 15) : fw_C (S := Unit) l yX1_arrive wsX1_arrive ({ frames := 8, cells := 3, slots := 18, locals := 132 }) 3 18 true [.ref (ba 6), .int u, .int x] D (tyS K) (BW K ba bf bg n ca cf cg) (fun r _ => b_arr_k n cf cg u x = 0 ∧ r = some (.int (b2i (b_must (upd bf 7 (bf 7 + 1)) bg (b_arr_f bf cf (ix u) x) cg (ix u) = true)))) (fun _ => BW K ba (upd bf 7 (bf 7 + 1)) bg n ca (b_arr_f bf cf (ix u) x) cg) (fun E => px3 E (b_arr_k n cf cg u x)) := by
  refine fw_met (maxL := 4) (ret := (some .boolean)) (by decide) rfl (Nat.le_of_ble_eq_true rfl) ?_
  intro p e s m args below meth c A X hr hlk hnm htab hE
  refine fw_lv (lv' := [(0, .ref (ba 6)), (1, .int u), (2, .int x)]) [0, 1, 2] rfl ?_
  refine fw_aload_n (pc := 0) X dX1_arrive_0 rfl 0 rfl ?_
  refine fw_iload_n (pc := 1) X dX1_arrive_1 rfl 1 rfl ?_
  refine fw_callV (pc := 2) (n := 1) (C := (RX1, TX1, 10)) (ci := 1) (q0 := 0) X hE [.int u] (ct_X1_findConsignment hl u hn15) (by decide) gX1_arrive_X1_findConsignment rfl ⟨rfl, rfl⟩ ⟨rfl, dsc_X1_findConsignment⟩ ⟨Nat.le_of_ble_eq_true rfl, Nat.le_of_ble_eq_true rfl⟩ rfl B_obj rfl rfl (Nat.le_of_ble_eq_true rfl) dX1_arrive_2 ⟨Nat.le_of_ble_eq_true rfl, Nat.le_of_ble_eq_true rfl⟩ (fun E q => by obtain ⟨rfl, q2⟩ := q; exact fw_out X htab hlk (Nat.le_of_ble_eq_true rfl) (Nat.le_of_ble_eq_true rfl) (px3_IO (by simp [b_arr_k, q2])) rfl) (fun r0 u0 r_1 => ?_)
  obtain ⟨q_2, rfl⟩ := r_1
  obtain ⟨hx_u, hl_u⟩ := in_con hn15 q_2
  refine fw_astore_n (pc := 5) (lv' := [(3, .ref (ca (ix u) 0)), (0, .ref (ba 6)), (1, .int u), (2, .int x)]) X dX1_arrive_5 rfl (by decide) rfl ?_
  refine fw_iload_n (pc := 6) X dX1_arrive_6 rfl 3 rfl ?_
  refine fw_callS (pc := 7) (n := 1) X hE [.int x] (ct_X1_checkSeal hl x) (by decide) gX1_arrive_X1_checkSeal rfl ⟨rfl, rfl⟩ dsc_X1_checkSeal ⟨Nat.le_of_ble_eq_true rfl, Nat.le_of_ble_eq_true rfl⟩ rfl rfl (Nat.le_of_ble_eq_true rfl) dX1_arrive_7 ⟨Nat.le_of_ble_eq_true rfl, Nat.le_of_ble_eq_true rfl⟩ (fun E q => by obtain ⟨rfl, q2⟩ := q; exact fw_out X htab hlk (Nat.le_of_ble_eq_true rfl) (Nat.le_of_ble_eq_true rfl) (px3_IA (by simp [b_arr_k, q_2, q2])) rfl) (fun r0 u0 r_3 => ?_)
  obtain ⟨q_4, rfl⟩ := r_3
  obtain ⟨hx_x, hl_x⟩ := in_ix (h := 999) (N := 1000) (by decide) (by decide) q_4
  refine fw_aload_n (pc := 10) X dX1_arrive_10 rfl 0 rfl ?_
  refine fw_get (pc := 11) (v := .int (cf (ix u) 5)) X iX1_arrive_X0 (4 * (ix u) + 0 + 7) (B_co (ix u) hl_u) rfl 5 (by decide) kX1_arrive_79 rfl dX1_arrive_11 ?_
  refine fw_if_eq (pc := 14) (tgt := 27) X dX1_arrive_14 (by decide) (fun c_5 => ?_) (fun c_5 => ?_)
  · refine fw_aload_n (pc := 27) X dX1_arrive_27 rfl 0 rfl ?_
    refine fw_callV (pc := 28) (n := 0) (C := (RX0, TX0, 12)) (ci := 0) (q0 := (4 * (ix u) + 0 + 7)) X hE [] (ct_X0_totalDeclared hl (ix u) hl_u) (by decide) gX1_arrive_X0_totalDeclared rfl ⟨rfl, rfl⟩ ⟨rfl, dsc_X0_totalDeclared⟩ ⟨Nat.le_of_ble_eq_true rfl, Nat.le_of_ble_eq_true rfl⟩ rfl (B_co (ix u) hl_u) rfl rfl (Nat.le_of_ble_eq_true rfl) dX1_arrive_28 ⟨Nat.le_of_ble_eq_true rfl, Nat.le_of_ble_eq_true rfl⟩ (fun _ q => q.elim) (fun r0 u0 r_6 => ?_)
    subst r_6
    refine fw_if_ne (pc := 31) (tgt := 44) X dX1_arrive_31 (by decide) (fun c_7 => ?_) (fun c_7 => ?_)
    · refine fw_aload_n (pc := 44) X dX1_arrive_44 rfl 1 rfl ?_
      refine fw_dup (pc := 45) X dX1_arrive_45 rfl ?_
      refine fw_get (pc := 46) (v := .int (bf 7)) X iX1_arrive_X1 0 B_obj rfl 7 (by decide) kX1_arrive_35 rfl dX1_arrive_46 ?_
      refine fw_iconst (pc := 49) (v := 1) X dX1_arrive_49 (by decide) ?_
      refine fw_iadd (pc := 50) X dX1_arrive_50 ?_
      refine fw_put (pc := 51) (ws' := BW K ba (upd bf 7 ((bf 7) + 1)) bg n ca cf cg) X iX1_arrive_X1 tyX1 tyX1_ok nmX1 0 B_obj rfl 7 (by decide) kX1_arrive_35 rfl rfl rfl (Nat.le_of_ble_eq_true rfl) dX1_arrive_51 (B_f7 _) ?_
      refine fw_aload_n (pc := 54) X dX1_arrive_54 rfl 0 rfl ?_
      refine fw_iconst (pc := 55) (v := 1) X dX1_arrive_55 (by decide) ?_
      refine fw_put (pc := 56) (ws' := BW K ba (upd bf 7 ((bf 7) + 1)) bg n ca (va_up cf (ix u) (upd (cf (ix u)) 5 1)) cg) X iX1_arrive_X0 tyX0 tyX0_ok nmX0 (4 * (ix u) + 0 + 7) (B_co (ix u) hl_u) rfl 5 (by decide) kX1_arrive_79 rfl rfl rfl (Nat.le_of_ble_eq_true rfl) dX1_arrive_56 (B_cf5 (ix u) hl_u _) ?_
      refine fw_aload_n (pc := 59) X dX1_arrive_59 rfl 0 rfl ?_
      refine fw_iload_n (pc := 60) X dX1_arrive_60 rfl 3 rfl ?_
      refine fw_aload_n (pc := 61) X dX1_arrive_61 rfl 0 rfl ?_
      refine fw_get (pc := 62) (v := .int (cf (ix u) 1)) X iX1_arrive_X0 (4 * (ix u) + 0 + 7) (B_co (ix u) hl_u) rfl 1 (by decide) kX1_arrive_97 (by simp [CF, va_up, upd]) dX1_arrive_62 ?_
      refine fw_icmp_eq (pc := 65) (tgt := 72) X dX1_arrive_65 (by decide) (fun c_8 => ?_) (fun c_8 => ?_)
      · refine fw_iconst (pc := 72) (v := 0) X dX1_arrive_72 (by decide) ?_
        refine fw_put (pc := 73) (ws' := BW K ba (upd bf 7 ((bf 7) + 1)) bg n ca (va_up cf (ix u) (upd (upd (cf (ix u)) 5 1) 10 0)) cg) X iX1_arrive_X0 tyX0 tyX0_ok nmX0 (4 * (ix u) + 0 + 7) (B_co (ix u) hl_u) rfl 10 (by decide) kX1_arrive_100 rfl rfl rfl (Nat.le_of_ble_eq_true rfl) dX1_arrive_73 ((B_cf10 (ix u) hl_u _).trans (by rw [cf_nm])) ?_
        refine fw_aload_n (pc := 76) X dX1_arrive_76 rfl 0 rfl ?_
        refine fw_aload_n (pc := 77) X dX1_arrive_77 rfl 1 rfl ?_
        refine fw_get (pc := 78) (v := .int (bf 9)) X iX1_arrive_X1 0 B_obj rfl 9 (by decide) kX1_arrive_41 rfl dX1_arrive_78 ?_
        refine fw_if_eq (pc := 81) (tgt := 100) X dX1_arrive_81 (by decide) (fun c_9 => ?_) (fun c_9 => ?_)
        · refine fw_iconst (pc := 100) (v := 0) X dX1_arrive_100 (by decide) ?_
          refine fw_put (pc := 101) (ws' := BW K ba (upd bf 7 ((bf 7) + 1)) bg n ca (va_up cf (ix u) (upd (upd (upd (cf (ix u)) 5 1) 10 0) 11 0)) cg) X iX1_arrive_X0 tyX0 tyX0_ok nmX0 (4 * (ix u) + 0 + 7) (B_co (ix u) hl_u) rfl 11 (by decide) kX1_arrive_104 rfl rfl rfl (Nat.le_of_ble_eq_true rfl) dX1_arrive_101 ((B_cf11 (ix u) hl_u _).trans (by rw [cf_nm])) ?_
          refine fw_aload_n (pc := 104) X dX1_arrive_104 rfl 1 rfl ?_
          refine fw_aload_n (pc := 105) X dX1_arrive_105 rfl 0 rfl ?_
          refine fw_callV (pc := 106) (n := 1) (C := (RX1, TX1, 10)) (ci := 1) (q0 := 0) X hE [.ref (ca (ix u) 0)] (ct_X1_hasToBeSearched hl (ix u) hl_u) (by decide) gX1_arrive_X1_hasToBeSearched rfl ⟨rfl, rfl⟩ ⟨rfl, dsc_X1_hasToBeSearched⟩ ⟨Nat.le_of_ble_eq_true rfl, Nat.le_of_ble_eq_true rfl⟩ rfl B_obj rfl rfl (Nat.le_of_ble_eq_true rfl) dX1_arrive_106 ⟨Nat.le_of_ble_eq_true rfl, Nat.le_of_ble_eq_true rfl⟩ (fun _ q => q.elim) (fun r0 u0 r_10 => ?_)
          subst r_10
          exact fw_zret (pc := 109) X hr nr_b hlk (Nat.le_of_ble_eq_true rfl) (Nat.le_of_ble_eq_true rfl) dX1_arrive_109 () ⟨(by simp [b_arr_k, q_2, q_4, c_5, c_7, (eq_true c_8), c_9]), (by first | rfl | simp [b_arr_f, b_smp, q_2, q_4, c_5, c_7, (eq_true c_8), c_9])⟩ (by first | rfl | simp [b_arr_f, b_smp, q_2, q_4, c_5, c_7, (eq_true c_8), c_9])
        · refine fw_aload_n (pc := 84) X dX1_arrive_84 rfl 1 rfl ?_
          refine fw_get (pc := 85) (v := .int ((bf 7) + 1)) X iX1_arrive_X1 0 B_obj rfl 7 (by decide) kX1_arrive_35 rfl dX1_arrive_85 ?_
          refine fw_aload_n (pc := 88) X dX1_arrive_88 rfl 1 rfl ?_
          refine fw_get (pc := 89) (v := .int (bf 9)) X iX1_arrive_X1 0 B_obj rfl 9 (by decide) kX1_arrive_41 rfl dX1_arrive_89 ?_
          refine fw_irem (pc := 92) X dX1_arrive_92 c_9 ?_
          refine fw_if_ne (pc := 93) (tgt := 100) X dX1_arrive_93 (by decide) (fun c_11 => ?_) (fun c_11 => ?_)
          · refine fw_iconst (pc := 100) (v := 0) X dX1_arrive_100 (by decide) ?_
            refine fw_put (pc := 101) (ws' := BW K ba (upd bf 7 ((bf 7) + 1)) bg n ca (va_up cf (ix u) (upd (upd (upd (cf (ix u)) 5 1) 10 0) 11 0)) cg) X iX1_arrive_X0 tyX0 tyX0_ok nmX0 (4 * (ix u) + 0 + 7) (B_co (ix u) hl_u) rfl 11 (by decide) kX1_arrive_104 rfl rfl rfl (Nat.le_of_ble_eq_true rfl) dX1_arrive_101 ((B_cf11 (ix u) hl_u _).trans (by rw [cf_nm])) ?_
            refine fw_aload_n (pc := 104) X dX1_arrive_104 rfl 1 rfl ?_
            refine fw_aload_n (pc := 105) X dX1_arrive_105 rfl 0 rfl ?_
            refine fw_callV (pc := 106) (n := 1) (C := (RX1, TX1, 10)) (ci := 1) (q0 := 0) X hE [.ref (ca (ix u) 0)] (ct_X1_hasToBeSearched hl (ix u) hl_u) (by decide) gX1_arrive_X1_hasToBeSearched rfl ⟨rfl, rfl⟩ ⟨rfl, dsc_X1_hasToBeSearched⟩ ⟨Nat.le_of_ble_eq_true rfl, Nat.le_of_ble_eq_true rfl⟩ rfl B_obj rfl rfl (Nat.le_of_ble_eq_true rfl) dX1_arrive_106 ⟨Nat.le_of_ble_eq_true rfl, Nat.le_of_ble_eq_true rfl⟩ (fun _ q => q.elim) (fun r0 u0 r_12 => ?_)
            subst r_12
            exact fw_zret (pc := 109) X hr nr_b hlk (Nat.le_of_ble_eq_true rfl) (Nat.le_of_ble_eq_true rfl) dX1_arrive_109 () ⟨(by simp [b_arr_k, q_2, q_4, c_5, c_7, (eq_true c_8), c_9, c_11]), (by first | rfl | simp [b_arr_f, b_smp, q_2, q_4, c_5, c_7, (eq_true c_8), c_9, c_11])⟩ (by first | rfl | simp [b_arr_f, b_smp, q_2, q_4, c_5, c_7, (eq_true c_8), c_9, c_11])
          · refine fw_iconst (pc := 96) (v := 1) X dX1_arrive_96 (by decide) ?_
            refine fw_goto (pc := 97) (tgt := 101) X dX1_arrive_97 (by decide) ?_
            refine fw_put (pc := 101) (ws' := BW K ba (upd bf 7 ((bf 7) + 1)) bg n ca (va_up cf (ix u) (upd (upd (upd (cf (ix u)) 5 1) 10 0) 11 1)) cg) X iX1_arrive_X0 tyX0 tyX0_ok nmX0 (4 * (ix u) + 0 + 7) (B_co (ix u) hl_u) rfl 11 (by decide) kX1_arrive_104 rfl rfl rfl (Nat.le_of_ble_eq_true rfl) dX1_arrive_101 ((B_cf11 (ix u) hl_u _).trans (by rw [cf_nm])) ?_
            refine fw_aload_n (pc := 104) X dX1_arrive_104 rfl 1 rfl ?_
            refine fw_aload_n (pc := 105) X dX1_arrive_105 rfl 0 rfl ?_
            refine fw_callV (pc := 106) (n := 1) (C := (RX1, TX1, 10)) (ci := 1) (q0 := 0) X hE [.ref (ca (ix u) 0)] (ct_X1_hasToBeSearched hl (ix u) hl_u) (by decide) gX1_arrive_X1_hasToBeSearched rfl ⟨rfl, rfl⟩ ⟨rfl, dsc_X1_hasToBeSearched⟩ ⟨Nat.le_of_ble_eq_true rfl, Nat.le_of_ble_eq_true rfl⟩ rfl B_obj rfl rfl (Nat.le_of_ble_eq_true rfl) dX1_arrive_106 ⟨Nat.le_of_ble_eq_true rfl, Nat.le_of_ble_eq_true rfl⟩ (fun _ q => q.elim) (fun r0 u0 r_13 => ?_)
            subst r_13
            exact fw_zret (pc := 109) X hr nr_b hlk (Nat.le_of_ble_eq_true rfl) (Nat.le_of_ble_eq_true rfl) dX1_arrive_109 () ⟨(by simp [b_arr_k, q_2, q_4, c_5, c_7, (eq_true c_8), c_9, c_11]), (by first | rfl | simp [b_arr_f, b_smp, q_2, q_4, c_5, c_7, (eq_true c_8), c_9, c_11])⟩ (by first | rfl | simp [b_arr_f, b_smp, q_2, q_4, c_5, c_7, (eq_true c_8), c_9, c_11])
      · refine fw_iconst (pc := 68) (v := 1) X dX1_arrive_68 (by decide) ?_
        refine fw_goto (pc := 69) (tgt := 73) X dX1_arrive_69 (by decide) ?_
        refine fw_put (pc := 73) (ws' := BW K ba (upd bf 7 ((bf 7) + 1)) bg n ca (va_up cf (ix u) (upd (upd (cf (ix u)) 5 1) 10 1)) cg) X iX1_arrive_X0 tyX0 tyX0_ok nmX0 (4 * (ix u) + 0 + 7) (B_co (ix u) hl_u) rfl 10 (by decide) kX1_arrive_100 rfl rfl rfl (Nat.le_of_ble_eq_true rfl) dX1_arrive_73 ((B_cf10 (ix u) hl_u _).trans (by rw [cf_nm])) ?_
        refine fw_aload_n (pc := 76) X dX1_arrive_76 rfl 0 rfl ?_
        refine fw_aload_n (pc := 77) X dX1_arrive_77 rfl 1 rfl ?_
        refine fw_get (pc := 78) (v := .int (bf 9)) X iX1_arrive_X1 0 B_obj rfl 9 (by decide) kX1_arrive_41 rfl dX1_arrive_78 ?_
        refine fw_if_eq (pc := 81) (tgt := 100) X dX1_arrive_81 (by decide) (fun c_14 => ?_) (fun c_14 => ?_)
        · refine fw_iconst (pc := 100) (v := 0) X dX1_arrive_100 (by decide) ?_
          refine fw_put (pc := 101) (ws' := BW K ba (upd bf 7 ((bf 7) + 1)) bg n ca (va_up cf (ix u) (upd (upd (upd (cf (ix u)) 5 1) 10 1) 11 0)) cg) X iX1_arrive_X0 tyX0 tyX0_ok nmX0 (4 * (ix u) + 0 + 7) (B_co (ix u) hl_u) rfl 11 (by decide) kX1_arrive_104 rfl rfl rfl (Nat.le_of_ble_eq_true rfl) dX1_arrive_101 ((B_cf11 (ix u) hl_u _).trans (by rw [cf_nm])) ?_
          refine fw_aload_n (pc := 104) X dX1_arrive_104 rfl 1 rfl ?_
          refine fw_aload_n (pc := 105) X dX1_arrive_105 rfl 0 rfl ?_
          refine fw_callV (pc := 106) (n := 1) (C := (RX1, TX1, 10)) (ci := 1) (q0 := 0) X hE [.ref (ca (ix u) 0)] (ct_X1_hasToBeSearched hl (ix u) hl_u) (by decide) gX1_arrive_X1_hasToBeSearched rfl ⟨rfl, rfl⟩ ⟨rfl, dsc_X1_hasToBeSearched⟩ ⟨Nat.le_of_ble_eq_true rfl, Nat.le_of_ble_eq_true rfl⟩ rfl B_obj rfl rfl (Nat.le_of_ble_eq_true rfl) dX1_arrive_106 ⟨Nat.le_of_ble_eq_true rfl, Nat.le_of_ble_eq_true rfl⟩ (fun _ q => q.elim) (fun r0 u0 r_15 => ?_)
          subst r_15
          exact fw_zret (pc := 109) X hr nr_b hlk (Nat.le_of_ble_eq_true rfl) (Nat.le_of_ble_eq_true rfl) dX1_arrive_109 () ⟨(by simp [b_arr_k, q_2, q_4, c_5, c_7, c_8, c_14]), (by first | rfl | simp [b_arr_f, b_smp, q_2, q_4, c_5, c_7, c_8, c_14])⟩ (by first | rfl | simp [b_arr_f, b_smp, q_2, q_4, c_5, c_7, c_8, c_14])
        · refine fw_aload_n (pc := 84) X dX1_arrive_84 rfl 1 rfl ?_
          refine fw_get (pc := 85) (v := .int ((bf 7) + 1)) X iX1_arrive_X1 0 B_obj rfl 7 (by decide) kX1_arrive_35 rfl dX1_arrive_85 ?_
          refine fw_aload_n (pc := 88) X dX1_arrive_88 rfl 1 rfl ?_
          refine fw_get (pc := 89) (v := .int (bf 9)) X iX1_arrive_X1 0 B_obj rfl 9 (by decide) kX1_arrive_41 rfl dX1_arrive_89 ?_
          refine fw_irem (pc := 92) X dX1_arrive_92 c_14 ?_
          refine fw_if_ne (pc := 93) (tgt := 100) X dX1_arrive_93 (by decide) (fun c_16 => ?_) (fun c_16 => ?_)
          · refine fw_iconst (pc := 100) (v := 0) X dX1_arrive_100 (by decide) ?_
            refine fw_put (pc := 101) (ws' := BW K ba (upd bf 7 ((bf 7) + 1)) bg n ca (va_up cf (ix u) (upd (upd (upd (cf (ix u)) 5 1) 10 1) 11 0)) cg) X iX1_arrive_X0 tyX0 tyX0_ok nmX0 (4 * (ix u) + 0 + 7) (B_co (ix u) hl_u) rfl 11 (by decide) kX1_arrive_104 rfl rfl rfl (Nat.le_of_ble_eq_true rfl) dX1_arrive_101 ((B_cf11 (ix u) hl_u _).trans (by rw [cf_nm])) ?_
            refine fw_aload_n (pc := 104) X dX1_arrive_104 rfl 1 rfl ?_
            refine fw_aload_n (pc := 105) X dX1_arrive_105 rfl 0 rfl ?_
            refine fw_callV (pc := 106) (n := 1) (C := (RX1, TX1, 10)) (ci := 1) (q0 := 0) X hE [.ref (ca (ix u) 0)] (ct_X1_hasToBeSearched hl (ix u) hl_u) (by decide) gX1_arrive_X1_hasToBeSearched rfl ⟨rfl, rfl⟩ ⟨rfl, dsc_X1_hasToBeSearched⟩ ⟨Nat.le_of_ble_eq_true rfl, Nat.le_of_ble_eq_true rfl⟩ rfl B_obj rfl rfl (Nat.le_of_ble_eq_true rfl) dX1_arrive_106 ⟨Nat.le_of_ble_eq_true rfl, Nat.le_of_ble_eq_true rfl⟩ (fun _ q => q.elim) (fun r0 u0 r_17 => ?_)
            subst r_17
            exact fw_zret (pc := 109) X hr nr_b hlk (Nat.le_of_ble_eq_true rfl) (Nat.le_of_ble_eq_true rfl) dX1_arrive_109 () ⟨(by simp [b_arr_k, q_2, q_4, c_5, c_7, c_8, c_14, c_16]), (by first | rfl | simp [b_arr_f, b_smp, q_2, q_4, c_5, c_7, c_8, c_14, c_16])⟩ (by first | rfl | simp [b_arr_f, b_smp, q_2, q_4, c_5, c_7, c_8, c_14, c_16])
          · refine fw_iconst (pc := 96) (v := 1) X dX1_arrive_96 (by decide) ?_
            refine fw_goto (pc := 97) (tgt := 101) X dX1_arrive_97 (by decide) ?_
            refine fw_put (pc := 101) (ws' := BW K ba (upd bf 7 ((bf 7) + 1)) bg n ca (va_up cf (ix u) (upd (upd (upd (cf (ix u)) 5 1) 10 1) 11 1)) cg) X iX1_arrive_X0 tyX0 tyX0_ok nmX0 (4 * (ix u) + 0 + 7) (B_co (ix u) hl_u) rfl 11 (by decide) kX1_arrive_104 rfl rfl rfl (Nat.le_of_ble_eq_true rfl) dX1_arrive_101 ((B_cf11 (ix u) hl_u _).trans (by rw [cf_nm])) ?_
            refine fw_aload_n (pc := 104) X dX1_arrive_104 rfl 1 rfl ?_
            refine fw_aload_n (pc := 105) X dX1_arrive_105 rfl 0 rfl ?_
            refine fw_callV (pc := 106) (n := 1) (C := (RX1, TX1, 10)) (ci := 1) (q0 := 0) X hE [.ref (ca (ix u) 0)] (ct_X1_hasToBeSearched hl (ix u) hl_u) (by decide) gX1_arrive_X1_hasToBeSearched rfl ⟨rfl, rfl⟩ ⟨rfl, dsc_X1_hasToBeSearched⟩ ⟨Nat.le_of_ble_eq_true rfl, Nat.le_of_ble_eq_true rfl⟩ rfl B_obj rfl rfl (Nat.le_of_ble_eq_true rfl) dX1_arrive_106 ⟨Nat.le_of_ble_eq_true rfl, Nat.le_of_ble_eq_true rfl⟩ (fun _ q => q.elim) (fun r0 u0 r_18 => ?_)
            subst r_18
            exact fw_zret (pc := 109) X hr nr_b hlk (Nat.le_of_ble_eq_true rfl) (Nat.le_of_ble_eq_true rfl) dX1_arrive_109 () ⟨(by simp [b_arr_k, q_2, q_4, c_5, c_7, c_8, c_14, c_16]), (by first | rfl | simp [b_arr_f, b_smp, q_2, q_4, c_5, c_7, c_8, c_14, c_16])⟩ (by first | rfl | simp [b_arr_f, b_smp, q_2, q_4, c_5, c_7, c_8, c_14, c_16])
    · exact fw_throw (pc := 34) (text := "the manifest has nothing") X hE hl fw_fit_IS fw_good_IS fw_bad_IS fw_c_IS (by decide +kernel) kX1_arrive_clIS kX1_arrive_iniIS kX1_arrive_atIS dX1_arrive_34 dX1_arrive_37 dX1_arrive_38 dX1_arrive_40 dX1_arrive_43 ⟨Nat.le_of_ble_eq_true rfl, Nat.le_of_ble_eq_true rfl, Nat.le_of_ble_eq_true rfl, Nat.le_of_ble_eq_true rfl⟩ htab hlk (px3_IS (by simp [b_arr_k, q_2, q_4, c_5, c_7])) (Nat.le_of_ble_eq_true rfl) (Nat.le_of_ble_eq_true rfl) rfl
  · exact fw_throw (pc := 17) (text := "the consignment is not under way") X hE hl fw_fit_IS fw_good_IS fw_bad_IS fw_c_IS (by decide +kernel) kX1_arrive_clIS kX1_arrive_iniIS kX1_arrive_atIS dX1_arrive_17 dX1_arrive_20 dX1_arrive_21 dX1_arrive_23 dX1_arrive_26 ⟨Nat.le_of_ble_eq_true rfl, Nat.le_of_ble_eq_true rfl, Nat.le_of_ble_eq_true rfl, Nat.le_of_ble_eq_true rfl⟩ htab hlk (px3_IS (by simp [b_arr_k, q_2, q_4, c_5])) (Nat.le_of_ble_eq_true rfl) (Nat.le_of_ble_eq_true rfl) rfl
theorem kX1_risk_79 : Cond.fieldLink RX1 79 (TX0 5).1 (TX0 5).2.1 (TX0 5).2.2.1 ∈ wsX1_risk := by decide +kernel
set_option maxRecDepth 20000 in
theorem iX1_risk_X0 : ∀ w ∈ wsX00, w ∈ wsX1_risk := by decide +kernel
theorem kX1_risk_clIS : Cond.classLink RX1 60 fw_IS ∈ wsX1_risk := by decide +kernel
theorem kX1_risk_iniIS : Cond.initialized fw_IS ∈ wsX1_risk := by decide +kernel
set_option maxRecDepth 20000 in
theorem kX1_risk_atIS : ∀ w ∈ (vx_atS RX1 64 fw_IS fw_chn).filter goodWord, w ∈ wsX1_risk := by decide +kernel
theorem dsc_X1_risk : fw_dsc yX1_risk 1 := by decide +kernel
set_option maxHeartbeats 4000000 in
set_option maxRecDepth 100000 in
theorem ct_X1_risk {l : Launch} (hl : l.stackTraces = false) {D : va_G} {K : Nat → ClassId} {ba : Nat → Nat} {bf : Nat → Int32} {bg : Nat → Nat → Int32} {n : Nat} {ca : Nat → Nat → Nat} {cf : Nat → Nat → Int32} {cg : Nat → Nat → Nat → Int32} (u : Int32) (hn15 : n ≤ 15) : fw_C (S := Unit) l yX1_risk wsX1_risk ({ frames := 7, cells := 2, slots := 12, locals := 112 }) 2 12 true [.ref (ba 6), .int u] D (tyS K) (BW K ba bf bg n ca cf cg) (fun r _ => b_rsk_k n cf u = 0 ∧ r = some (.int (b_risk bg cf cg (ix u)))) (fun _ => BW K ba bf bg n ca cf cg) (fun E => pxr E (b_rsk_k n cf u)) := by
  refine fw_met (maxL := 3) (ret := (some .int)) (by decide) rfl (Nat.le_of_ble_eq_true rfl) ?_
  intro p e s m args below meth c A X hr hlk hnm htab hE
  refine fw_lv (lv' := [(0, .ref (ba 6)), (1, .int u)]) [0, 1] rfl ?_
  refine fw_aload_n (pc := 0) X dX1_risk_0 rfl 0 rfl ?_
  refine fw_iload_n (pc := 1) X dX1_risk_1 rfl 1 rfl ?_
  refine fw_callV (pc := 2) (n := 1) (C := (RX1, TX1, 10)) (ci := 1) (q0 := 0) X hE [.int u] (ct_X1_findConsignment hl u hn15) (by decide) gX1_risk_X1_findConsignment rfl ⟨rfl, rfl⟩ ⟨rfl, dsc_X1_findConsignment⟩ ⟨Nat.le_of_ble_eq_true rfl, Nat.le_of_ble_eq_true rfl⟩ rfl B_obj rfl rfl (Nat.le_of_ble_eq_true rfl) dX1_risk_2 ⟨Nat.le_of_ble_eq_true rfl, Nat.le_of_ble_eq_true rfl⟩ (fun E q => by obtain ⟨rfl, q2⟩ := q; exact fw_out X htab hlk (Nat.le_of_ble_eq_true rfl) (Nat.le_of_ble_eq_true rfl) (pxr_IO (by simp [b_rsk_k, q2])) rfl) (fun r0 u0 r_1 => ?_)
  obtain ⟨q_2, rfl⟩ := r_1
  obtain ⟨hx_u, hl_u⟩ := in_con hn15 q_2
  refine fw_astore_n (pc := 5) (lv' := [(2, .ref (ca (ix u) 0)), (0, .ref (ba 6)), (1, .int u)]) X dX1_risk_5 rfl (by decide) rfl ?_
  refine fw_aload_n (pc := 6) X dX1_risk_6 rfl 0 rfl ?_
  refine fw_get (pc := 7) (v := .int (cf (ix u) 5)) X iX1_risk_X0 (4 * (ix u) + 0 + 7) (B_co (ix u) hl_u) rfl 5 (by decide) kX1_risk_79 rfl dX1_risk_7 ?_
  refine fw_if_ne (pc := 10) (tgt := 23) X dX1_risk_10 (by decide) (fun c_3 => ?_) (fun c_3 => ?_)
  · refine fw_aload_n (pc := 23) X dX1_risk_23 rfl 1 rfl ?_
    refine fw_aload_n (pc := 24) X dX1_risk_24 rfl 0 rfl ?_
    refine fw_callV (pc := 25) (n := 1) (C := (RX1, TX1, 10)) (ci := 1) (q0 := 0) X hE [.ref (ca (ix u) 0)] (ct_X1_riskOf hl (ix u) hl_u) (by decide) gX1_risk_X1_riskOf rfl ⟨rfl, rfl⟩ ⟨rfl, dsc_X1_riskOf⟩ ⟨Nat.le_of_ble_eq_true rfl, Nat.le_of_ble_eq_true rfl⟩ rfl B_obj rfl rfl (Nat.le_of_ble_eq_true rfl) dX1_risk_25 ⟨Nat.le_of_ble_eq_true rfl, Nat.le_of_ble_eq_true rfl⟩ (fun _ q => q.elim) (fun r0 u0 r_4 => ?_)
    subst r_4
    exact fw_iret (pc := 28) X hr hlk (Nat.le_of_ble_eq_true rfl) (Nat.le_of_ble_eq_true rfl) dX1_risk_28 () ⟨(by simp [b_rsk_k, q_2, c_3]), (by first | rfl | simp [q_2, c_3])⟩ (by first | rfl | simp [q_2, c_3])
  · exact fw_throw (pc := 13) (text := "the consignment is under way") X hE hl fw_fit_IS fw_good_IS fw_bad_IS fw_c_IS (by decide +kernel) kX1_risk_clIS kX1_risk_iniIS kX1_risk_atIS dX1_risk_13 dX1_risk_16 dX1_risk_17 dX1_risk_19 dX1_risk_22 ⟨Nat.le_of_ble_eq_true rfl, Nat.le_of_ble_eq_true rfl, Nat.le_of_ble_eq_true rfl, Nat.le_of_ble_eq_true rfl⟩ htab hlk (pxr_IS (by simp [b_rsk_k, q_2, c_3])) (Nat.le_of_ble_eq_true rfl) (Nat.le_of_ble_eq_true rfl) rfl
theorem dsc_X1_mustSearch : fw_dsc yX1_mustSearch 1 := by decide +kernel
set_option maxHeartbeats 4000000 in
set_option maxRecDepth 100000 in
theorem ct_X1_mustSearch {l : Launch} (hl : l.stackTraces = false) {D : va_G} {K : Nat → ClassId} {ba : Nat → Nat} {bf : Nat → Int32} {bg : Nat → Nat → Int32} {n : Nat} {ca : Nat → Nat → Nat} {cf : Nat → Nat → Int32} {cg : Nat → Nat → Nat → Int32} (u : Int32) (hn15 : n ≤ 15) : fw_C (S := Unit) l yX1_mustSearch wsX1_mustSearch ({ frames := 7, cells := 1, slots := 6, locals := 112 }) 1 6 true [.ref (ba 6), .int u] D (tyS K) (BW K ba bf bg n ca cf cg) (fun r _ => b_c_k n u = 0 ∧ r = some (.int (b2i (b_must bf bg cf cg (ix u) = true)))) (fun _ => BW K ba bf bg n ca cf cg) (fun E => pxo E (b_c_k n u)) := by
  refine fw_met (maxL := 2) (ret := (some .boolean)) (by decide) rfl (Nat.le_of_ble_eq_true rfl) ?_
  intro p e s m args below meth c A X hr hlk hnm htab hE
  refine fw_lv (lv' := [(0, .ref (ba 6)), (1, .int u)]) [0, 1] rfl ?_
  refine fw_aload_n (pc := 0) X dX1_mustSearch_0 rfl 0 rfl ?_
  refine fw_aload_n (pc := 1) X dX1_mustSearch_1 rfl 0 rfl ?_
  refine fw_iload_n (pc := 2) X dX1_mustSearch_2 rfl 1 rfl ?_
  refine fw_callV (pc := 3) (n := 1) (C := (RX1, TX1, 10)) (ci := 1) (q0 := 0) X hE [.int u] (ct_X1_findConsignment hl u hn15) (by decide) gX1_mustSearch_X1_findConsignment rfl ⟨rfl, rfl⟩ ⟨rfl, dsc_X1_findConsignment⟩ ⟨Nat.le_of_ble_eq_true rfl, Nat.le_of_ble_eq_true rfl⟩ rfl B_obj rfl rfl (Nat.le_of_ble_eq_true rfl) dX1_mustSearch_3 ⟨Nat.le_of_ble_eq_true rfl, Nat.le_of_ble_eq_true rfl⟩ (fun E q => by obtain ⟨rfl, q2⟩ := q; exact fw_out X htab hlk (Nat.le_of_ble_eq_true rfl) (Nat.le_of_ble_eq_true rfl) (pxo_IO (by simp [b_c_k, q2])) rfl) (fun r0 u0 r_1 => ?_)
  obtain ⟨q_2, rfl⟩ := r_1
  obtain ⟨hx_u, hl_u⟩ := in_con hn15 q_2
  refine fw_callV (pc := 6) (n := 1) (C := (RX1, TX1, 10)) (ci := 1) (q0 := 0) X hE [.ref (ca (ix u) 0)] (ct_X1_hasToBeSearched hl (ix u) hl_u) (by decide) gX1_mustSearch_X1_hasToBeSearched rfl ⟨rfl, rfl⟩ ⟨rfl, dsc_X1_hasToBeSearched⟩ ⟨Nat.le_of_ble_eq_true rfl, Nat.le_of_ble_eq_true rfl⟩ rfl B_obj rfl rfl (Nat.le_of_ble_eq_true rfl) dX1_mustSearch_6 ⟨Nat.le_of_ble_eq_true rfl, Nat.le_of_ble_eq_true rfl⟩ (fun _ q => q.elim) (fun r0 u0 r_3 => ?_)
  subst r_3
  exact fw_zret (pc := 9) X hr nr_b hlk (Nat.le_of_ble_eq_true rfl) (Nat.le_of_ble_eq_true rfl) dX1_mustSearch_9 () ⟨(by simp [b_c_k, q_2]), (by first | rfl | simp [q_2])⟩ (by first | rfl | simp [q_2])
theorem kX1_state_79 : Cond.fieldLink RX1 79 (TX0 5).1 (TX0 5).2.1 (TX0 5).2.2.1 ∈ wsX1_state := by decide +kernel
set_option maxRecDepth 20000 in
theorem iX1_state_X0 : ∀ w ∈ wsX00, w ∈ wsX1_state := by decide +kernel
theorem dsc_X1_state : fw_dsc yX1_state 1 := by decide +kernel
set_option maxHeartbeats 4000000 in
set_option maxRecDepth 100000 in
theorem ct_X1_state {l : Launch} (hl : l.stackTraces = false) {D : va_G} {K : Nat → ClassId} {ba : Nat → Nat} {bf : Nat → Int32} {bg : Nat → Nat → Int32} {n : Nat} {ca : Nat → Nat → Nat} {cf : Nat → Nat → Int32} {cg : Nat → Nat → Nat → Int32} (u : Int32) (hn15 : n ≤ 15) : fw_C (S := Unit) l yX1_state wsX1_state ({ frames := 7, cells := 1, slots := 6, locals := 112 }) 1 6 true [.ref (ba 6), .int u] D (tyS K) (BW K ba bf bg n ca cf cg) (fun r _ => b_c_k n u = 0 ∧ r = some (.int (cf (ix u) 5))) (fun _ => BW K ba bf bg n ca cf cg) (fun E => pxo E (b_c_k n u)) := by
  refine fw_met (maxL := 2) (ret := (some .int)) (by decide) rfl (Nat.le_of_ble_eq_true rfl) ?_
  intro p e s m args below meth c A X hr hlk hnm htab hE
  refine fw_lv (lv' := [(0, .ref (ba 6)), (1, .int u)]) [0, 1] rfl ?_
  refine fw_aload_n (pc := 0) X dX1_state_0 rfl 0 rfl ?_
  refine fw_iload_n (pc := 1) X dX1_state_1 rfl 1 rfl ?_
  refine fw_callV (pc := 2) (n := 1) (C := (RX1, TX1, 10)) (ci := 1) (q0 := 0) X hE [.int u] (ct_X1_findConsignment hl u hn15) (by decide) gX1_state_X1_findConsignment rfl ⟨rfl, rfl⟩ ⟨rfl, dsc_X1_findConsignment⟩ ⟨Nat.le_of_ble_eq_true rfl, Nat.le_of_ble_eq_true rfl⟩ rfl B_obj rfl rfl (Nat.le_of_ble_eq_true rfl) dX1_state_2 ⟨Nat.le_of_ble_eq_true rfl, Nat.le_of_ble_eq_true rfl⟩ (fun E q => by obtain ⟨rfl, q2⟩ := q; exact fw_out X htab hlk (Nat.le_of_ble_eq_true rfl) (Nat.le_of_ble_eq_true rfl) (pxo_IO (by simp [b_c_k, q2])) rfl) (fun r0 u0 r_1 => ?_)
  obtain ⟨q_2, rfl⟩ := r_1
  obtain ⟨hx_u, hl_u⟩ := in_con hn15 q_2
  refine fw_get (pc := 5) (v := .int (cf (ix u) 5)) X iX1_state_X0 (4 * (ix u) + 0 + 7) (B_co (ix u) hl_u) rfl 5 (by decide) kX1_state_79 rfl dX1_state_5 ?_
  exact fw_iret (pc := 8) X hr hlk (Nat.le_of_ble_eq_true rfl) (Nat.le_of_ble_eq_true rfl) dX1_state_8 () ⟨(by simp [b_c_k, q_2]), (by first | rfl | simp [q_2])⟩ (by first | rfl | simp [q_2])
theorem kX1_manifest_84 : Cond.fieldLink RX1 84 (TX0 2).1 (TX0 2).2.1 (TX0 2).2.2.1 ∈ wsX1_manifest := by decide +kernel
set_option maxRecDepth 20000 in
theorem iX1_manifest_X0 : ∀ w ∈ wsX00, w ∈ wsX1_manifest := by decide +kernel
theorem dsc_X1_manifest : fw_dsc yX1_manifest 2 := by decide +kernel
set_option maxHeartbeats 4000000 in
set_option maxRecDepth 100000 in
theorem ct_X1_manifest {l : Launch} (hl : l.stackTraces = false) {D : va_G} {K : Nat → ClassId} {ba : Nat → Nat} {bf : Nat → Int32} {bg : Nat → Nat → Int32} {n : Nat} {ca : Nat → Nat → Nat} {cf : Nat → Nat → Int32} {cg : Nat → Nat → Nat → Int32} (u v : Int32) (hn15 : n ≤ 15) : fw_C (S := Unit) l yX1_manifest wsX1_manifest ({ frames := 8, cells := 2, slots := 12, locals := 132 }) 2 12 true [.ref (ba 6), .int u, .int v] D (tyS K) (BW K ba bf bg n ca cf cg) (fun r _ => b_man_k n u v = 0 ∧ r = some (.int (cg (ix u) 2 (ix v)))) (fun _ => BW K ba bf bg n ca cf cg) (fun E => pxm E (b_man_k n u v)) := by
  refine fw_met (maxL := 4) (ret := (some .int)) (by decide) rfl (Nat.le_of_ble_eq_true rfl) ?_
  intro p e s m args below meth c A X hr hlk hnm htab hE
  refine fw_lv (lv' := [(0, .ref (ba 6)), (1, .int u), (2, .int v)]) [0, 1, 2] rfl ?_
  refine fw_aload_n (pc := 0) X dX1_manifest_0 rfl 0 rfl ?_
  refine fw_iload_n (pc := 1) X dX1_manifest_1 rfl 1 rfl ?_
  refine fw_callV (pc := 2) (n := 1) (C := (RX1, TX1, 10)) (ci := 1) (q0 := 0) X hE [.int u] (ct_X1_findConsignment hl u hn15) (by decide) gX1_manifest_X1_findConsignment rfl ⟨rfl, rfl⟩ ⟨rfl, dsc_X1_findConsignment⟩ ⟨Nat.le_of_ble_eq_true rfl, Nat.le_of_ble_eq_true rfl⟩ rfl B_obj rfl rfl (Nat.le_of_ble_eq_true rfl) dX1_manifest_2 ⟨Nat.le_of_ble_eq_true rfl, Nat.le_of_ble_eq_true rfl⟩ (fun E q => by obtain ⟨rfl, q2⟩ := q; exact fw_out X htab hlk (Nat.le_of_ble_eq_true rfl) (Nat.le_of_ble_eq_true rfl) (pxm_IO (by simp [b_man_k, q2])) rfl) (fun r0 u0 r_1 => ?_)
  obtain ⟨q_2, rfl⟩ := r_1
  obtain ⟨hx_u, hl_u⟩ := in_con hn15 q_2
  refine fw_astore_n (pc := 5) (lv' := [(3, .ref (ca (ix u) 0)), (0, .ref (ba 6)), (1, .int u), (2, .int v)]) X dX1_manifest_5 rfl (by decide) rfl ?_
  refine fw_iload_n (pc := 6) X dX1_manifest_6 rfl 3 rfl ?_
  refine fw_callS (pc := 7) (n := 1) X hE [.int v] (ct_X1_checkSort hl v) (by decide) gX1_manifest_X1_checkSort rfl ⟨rfl, rfl⟩ dsc_X1_checkSort ⟨Nat.le_of_ble_eq_true rfl, Nat.le_of_ble_eq_true rfl⟩ rfl rfl (Nat.le_of_ble_eq_true rfl) dX1_manifest_7 ⟨Nat.le_of_ble_eq_true rfl, Nat.le_of_ble_eq_true rfl⟩ (fun E q => by obtain ⟨rfl, q2⟩ := q; exact fw_out X htab hlk (Nat.le_of_ble_eq_true rfl) (Nat.le_of_ble_eq_true rfl) (pxm_IA (by simp [b_man_k, q_2, q2])) rfl) (fun r0 u0 r_3 => ?_)
  obtain ⟨q_4, rfl⟩ := r_3
  obtain ⟨hx_v, hl_v⟩ := in_ix (h := 5) (N := 6) (by decide) (by decide) q_4
  refine fw_aload_n (pc := 10) X dX1_manifest_10 rfl 0 rfl ?_
  refine fw_get (pc := 11) (v := .ref (ca (ix u) 2)) X iX1_manifest_X0 (4 * (ix u) + 0 + 7) (B_co (ix u) hl_u) rfl 2 (by decide) kX1_manifest_84 rfl dX1_manifest_11 ?_
  refine fw_iload_n (pc := 14) X dX1_manifest_14 rfl 3 rfl ?_
  refine fw_iald (pc := 15) (n := 6) (cA := K 0) (f := cg (ix u) 2) X (4 * (ix u) + 1 + 7) 0 (B_c2 (cg := cg) (ix u) hl_u) rfl (ix v) hx_v (by omega) (by decide) dX1_manifest_15 ?_
  exact fw_iret (pc := 16) X hr hlk (Nat.le_of_ble_eq_true rfl) (Nat.le_of_ble_eq_true rfl) dX1_manifest_16 () ⟨(by simp [b_man_k, q_2, q_4]), (by first | rfl | simp [q_2, q_4])⟩ (by first | rfl | simp [q_2, q_4])
theorem kX1_held_19 : Cond.fieldLink RX1 19 (TX1 3).1 (TX1 3).2.1 (TX1 3).2.2.1 ∈ wsX1_held := by decide +kernel
set_option maxRecDepth 20000 in
theorem iX1_held_X1 : ∀ w ∈ wsX10, w ∈ wsX1_held := by decide +kernel
theorem dsc_X1_held : fw_dsc yX1_held 1 := by decide +kernel
set_option maxHeartbeats 4000000 in
set_option maxRecDepth 100000 in
theorem ct_X1_held {l : Launch} (hl : l.stackTraces = false) {D : va_G} {K : Nat → ClassId} {ba : Nat → Nat} {bf : Nat → Int32} {bg : Nat → Nat → Int32} {n : Nat} {ca : Nat → Nat → Nat} {cf : Nat → Nat → Int32} {cg : Nat → Nat → Nat → Int32} (v : Int32) : fw_C (S := Unit) l yX1_held wsX1_held ({ frames := 8, cells := 1, slots := 6, locals := 132 }) 1 6 true [.ref (ba 6), .int v] D (tyS K) (BW K ba bf bg n ca cf cg) (fun r _ => b_tr_k v = 0 ∧ r = some (.int (bg 3 (ix v)))) (fun _ => BW K ba bf bg n ca cf cg) (fun E => pxa E (b_tr_k v)) := by
  refine fw_met (maxL := 2) (ret := (some .int)) (by decide) rfl (Nat.le_of_ble_eq_true rfl) ?_
  intro p e s m args below meth c A X hr hlk hnm htab hE
  refine fw_lv (lv' := [(0, .ref (ba 6)), (1, .int v)]) [0, 1] rfl ?_
  refine fw_iload_n (pc := 0) X dX1_held_0 rfl 1 rfl ?_
  refine fw_callS (pc := 1) (n := 1) X hE [.int v] (ct_X1_checkTrader hl v) (by decide) gX1_held_X1_checkTrader rfl ⟨rfl, rfl⟩ dsc_X1_checkTrader ⟨Nat.le_of_ble_eq_true rfl, Nat.le_of_ble_eq_true rfl⟩ rfl rfl (Nat.le_of_ble_eq_true rfl) dX1_held_1 ⟨Nat.le_of_ble_eq_true rfl, Nat.le_of_ble_eq_true rfl⟩ (fun E q => by obtain ⟨rfl, q2⟩ := q; exact fw_out X htab hlk (Nat.le_of_ble_eq_true rfl) (Nat.le_of_ble_eq_true rfl) (pxa_IA (by simp [b_tr_k, q2])) rfl) (fun r0 u0 r_1 => ?_)
  obtain ⟨q_2, rfl⟩ := r_1
  obtain ⟨hx_v, hl_v⟩ := in_ix (h := 3) (N := 4) (by decide) (by decide) q_2
  refine fw_aload_n (pc := 4) X dX1_held_4 rfl 0 rfl ?_
  refine fw_get (pc := 5) (v := .ref (ba 3)) X iX1_held_X1 0 B_obj rfl 3 (by decide) kX1_held_19 rfl dX1_held_5 ?_
  refine fw_iload_n (pc := 8) X dX1_held_8 rfl 1 rfl ?_
  refine fw_iald (pc := 9) (n := 4) (cA := K 0) (f := bg 3) X 4 0 (B_g3 (bg := bg)) rfl (ix v) hx_v (by omega) (by decide) dX1_held_9 ?_
  exact fw_iret (pc := 10) X hr hlk (Nat.le_of_ble_eq_true rfl) (Nat.le_of_ble_eq_true rfl) dX1_held_10 () ⟨(by simp [b_tr_k, q_2]), (by first | rfl | simp [q_2])⟩ (by first | rfl | simp [q_2])
theorem kX1_paid_22 : Cond.fieldLink RX1 22 (TX1 4).1 (TX1 4).2.1 (TX1 4).2.2.1 ∈ wsX1_paid := by decide +kernel
set_option maxRecDepth 20000 in
theorem iX1_paid_X1 : ∀ w ∈ wsX10, w ∈ wsX1_paid := by decide +kernel
theorem dsc_X1_paid : fw_dsc yX1_paid 1 := by decide +kernel
set_option maxHeartbeats 4000000 in
set_option maxRecDepth 100000 in
theorem ct_X1_paid {l : Launch} (hl : l.stackTraces = false) {D : va_G} {K : Nat → ClassId} {ba : Nat → Nat} {bf : Nat → Int32} {bg : Nat → Nat → Int32} {n : Nat} {ca : Nat → Nat → Nat} {cf : Nat → Nat → Int32} {cg : Nat → Nat → Nat → Int32} (v : Int32) : fw_C (S := Unit) l yX1_paid wsX1_paid ({ frames := 8, cells := 1, slots := 6, locals := 132 }) 1 6 true [.ref (ba 6), .int v] D (tyS K) (BW K ba bf bg n ca cf cg) (fun r _ => b_tr_k v = 0 ∧ r = some (.int (bg 4 (ix v)))) (fun _ => BW K ba bf bg n ca cf cg) (fun E => pxa E (b_tr_k v)) := by
  refine fw_met (maxL := 2) (ret := (some .int)) (by decide) rfl (Nat.le_of_ble_eq_true rfl) ?_
  intro p e s m args below meth c A X hr hlk hnm htab hE
  refine fw_lv (lv' := [(0, .ref (ba 6)), (1, .int v)]) [0, 1] rfl ?_
  refine fw_iload_n (pc := 0) X dX1_paid_0 rfl 1 rfl ?_
  refine fw_callS (pc := 1) (n := 1) X hE [.int v] (ct_X1_checkTrader hl v) (by decide) gX1_paid_X1_checkTrader rfl ⟨rfl, rfl⟩ dsc_X1_checkTrader ⟨Nat.le_of_ble_eq_true rfl, Nat.le_of_ble_eq_true rfl⟩ rfl rfl (Nat.le_of_ble_eq_true rfl) dX1_paid_1 ⟨Nat.le_of_ble_eq_true rfl, Nat.le_of_ble_eq_true rfl⟩ (fun E q => by obtain ⟨rfl, q2⟩ := q; exact fw_out X htab hlk (Nat.le_of_ble_eq_true rfl) (Nat.le_of_ble_eq_true rfl) (pxa_IA (by simp [b_tr_k, q2])) rfl) (fun r0 u0 r_1 => ?_)
  obtain ⟨q_2, rfl⟩ := r_1
  obtain ⟨hx_v, hl_v⟩ := in_ix (h := 3) (N := 4) (by decide) (by decide) q_2
  refine fw_aload_n (pc := 4) X dX1_paid_4 rfl 0 rfl ?_
  refine fw_get (pc := 5) (v := .ref (ba 4)) X iX1_paid_X1 0 B_obj rfl 4 (by decide) kX1_paid_22 rfl dX1_paid_5 ?_
  refine fw_iload_n (pc := 8) X dX1_paid_8 rfl 1 rfl ?_
  refine fw_iald (pc := 9) (n := 4) (cA := K 0) (f := bg 4) X 5 0 (B_g4 (bg := bg)) rfl (ix v) hx_v (by omega) (by decide) dX1_paid_9 ?_
  exact fw_iret (pc := 10) X hr hlk (Nat.le_of_ble_eq_true rfl) (Nat.le_of_ble_eq_true rfl) dX1_paid_10 () ⟨(by simp [b_tr_k, q_2]), (by first | rfl | simp [q_2])⟩ (by first | rfl | simp [q_2])
theorem kX0_noteSearch_9 : Cond.fieldLink RX0 9 (TX0 2).1 (TX0 2).2.1 (TX0 2).2.2.1 ∈ wsX0_noteSearch := by decide +kernel
set_option maxRecDepth 20000 in
theorem iX0_noteSearch_X0 : ∀ w ∈ wsX00, w ∈ wsX0_noteSearch := by decide +kernel
theorem kX0_noteSearch_31 : Cond.fieldLink RX0 31 (TX0 8).1 (TX0 8).2.1 (TX0 8).2.2.1 ∈ wsX0_noteSearch := by decide +kernel
theorem kX0_noteSearch_28 : Cond.fieldLink RX0 28 (TX0 7).1 (TX0 7).2.1 (TX0 7).2.2.1 ∈ wsX0_noteSearch := by decide +kernel
theorem dsc_X0_noteSearch : fw_dsc yX0_noteSearch 2 := by decide +kernel
set_option maxHeartbeats 4000000 in
set_option maxRecDepth 100000 in
theorem ct_X0_noteSearch {l : Launch} (hl : l.stackTraces = false) {D : va_G} {K : Nat → ClassId} {ba : Nat → Nat} {bf : Nat → Int32} {bg : Nat → Nat → Int32} {n : Nat} {ca : Nat → Nat → Nat} {cf : Nat → Nat → Int32} {cg : Nat → Nat → Nat → Int32} (k : Nat) (hk : k < n) (v x : Int32) (i : Nat) (hv : v = nI i) (hi : i < 6) : fw_C (S := Unit) l yX0_noteSearch wsX0_noteSearch ({ frames := 0, cells := 0, slots := 0, locals := 0 }) 0 0 true [.ref (ca k 0), .int v, .int x] D (tyS K) (BW K ba bf bg n ca cf cg) (fun r _ => r = none) (fun _ => BW K ba bf bg n ca (b_ns_cf cf cg k i v x) (b_ns_cg cg k i x)) (fun _ => False) := by
  refine fw_met (maxL := 3) (ret := none) (by decide) rfl (Nat.le_of_ble_eq_true rfl) ?_
  intro p e s m args below meth c A X hr hlk hnm htab hE
  refine fw_lv (lv' := [(0, .ref (ca k 0)), (1, .int v), (2, .int x)]) [0, 1, 2] rfl ?_
  refine fw_aload_n (pc := 0) X dX0_noteSearch_0 rfl 0 rfl ?_
  refine fw_get (pc := 1) (v := .ref (ca k 2)) X iX0_noteSearch_X0 (4 * k + 0 + 7) (B_co k hk) rfl 2 (by decide) kX0_noteSearch_9 rfl dX0_noteSearch_1 ?_
  refine fw_iload_n (pc := 4) X dX0_noteSearch_4 rfl 1 rfl ?_
  refine fw_iald (pc := 5) (n := 6) (cA := K 0) (f := cg k 2) X (4 * k + 1 + 7) 0 (B_c2 (cg := cg) k hk) rfl i hv (by omega) (by decide) dX0_noteSearch_5 ?_
  refine fw_iload_n (pc := 6) X dX0_noteSearch_6 rfl 2 rfl ?_
  refine fw_icmp_eq (pc := 7) (tgt := 27) X dX0_noteSearch_7 (by decide) (fun c_1 => ?_) (fun c_1 => ?_)
  · refine fw_aload_n (pc := 27) X dX0_noteSearch_27 rfl 0 rfl ?_
    refine fw_dup (pc := 28) X dX0_noteSearch_28 rfl ?_
    refine fw_get (pc := 29) (v := .int (cf k 8)) X iX0_noteSearch_X0 (4 * k + 0 + 7) (B_co k hk) rfl 8 (by decide) kX0_noteSearch_31 rfl dX0_noteSearch_29 ?_
    refine fw_iconst (pc := 32) (v := 1) X dX0_noteSearch_32 (by decide) ?_
    refine fw_iload_n (pc := 33) X dX0_noteSearch_33 rfl 1 rfl ?_
    refine fw_ishl (pc := 34) X dX0_noteSearch_34 ?_
    refine fw_ior (pc := 35) X dX0_noteSearch_35 ?_
    refine fw_put (pc := 36) (ws' := BW K ba bf bg n ca (va_up cf k (upd (cf k) 8 ((cf k 8) ||| (1 <<< (v &&& 31))))) cg) X iX0_noteSearch_X0 tyX0 tyX0_ok nmX0 (4 * k + 0 + 7) (B_co k hk) rfl 8 (by decide) kX0_noteSearch_31 rfl rfl rfl (Nat.le_of_ble_eq_true rfl) dX0_noteSearch_36 (B_cf8 k hk _) ?_
    exact fw_vret (pc := 39) X hr hlk (Nat.le_of_ble_eq_true rfl) (Nat.le_of_ble_eq_true rfl) dX0_noteSearch_39 () rfl (by simp [b_ns_cf, b_ns_cg, c_1])
  · refine fw_aload_n (pc := 10) X dX0_noteSearch_10 rfl 0 rfl ?_
    refine fw_get (pc := 11) (v := .ref (ca k 2)) X iX0_noteSearch_X0 (4 * k + 0 + 7) (B_co k hk) rfl 2 (by decide) kX0_noteSearch_9 rfl dX0_noteSearch_11 ?_
    refine fw_iload_n (pc := 14) X dX0_noteSearch_14 rfl 1 rfl ?_
    refine fw_iload_n (pc := 15) X dX0_noteSearch_15 rfl 2 rfl ?_
    refine fw_iast (pc := 16) (n := 6) (cA := K 0) (f := cg k 2) (ws' := BW K ba bf bg n ca cf (va_up cg k (va_up (cg k) 2 (upd (cg k 2) i x)))) X (4 * k + 1 + 7) 0 (B_c2 (cg := cg) k hk) rfl i hv (by omega) (by decide) dX0_noteSearch_16 (B_cs2 k hk _) ?_
    refine fw_aload_n (pc := 17) X dX0_noteSearch_17 rfl 0 rfl ?_
    refine fw_dup (pc := 18) X dX0_noteSearch_18 rfl ?_
    refine fw_get (pc := 19) (v := .int (cf k 7)) X iX0_noteSearch_X0 (4 * k + 0 + 7) (B_co k hk) rfl 7 (by decide) kX0_noteSearch_28 rfl dX0_noteSearch_19 ?_
    refine fw_iconst (pc := 22) (v := 1) X dX0_noteSearch_22 (by decide) ?_
    refine fw_iadd (pc := 23) X dX0_noteSearch_23 ?_
    refine fw_put (pc := 24) (ws' := BW K ba bf bg n ca (va_up cf k (upd (cf k) 7 ((cf k 7) + 1))) (va_up cg k (va_up (cg k) 2 (upd (cg k 2) i x)))) X iX0_noteSearch_X0 tyX0 tyX0_ok nmX0 (4 * k + 0 + 7) (B_co k hk) rfl 7 (by decide) kX0_noteSearch_28 rfl rfl rfl (Nat.le_of_ble_eq_true rfl) dX0_noteSearch_24 (B_cf7 k hk _) ?_
    refine fw_aload_n (pc := 27) X dX0_noteSearch_27 rfl 0 rfl ?_
    refine fw_dup (pc := 28) X dX0_noteSearch_28 rfl ?_
    refine fw_get (pc := 29) (v := .int (cf k 8)) X iX0_noteSearch_X0 (4 * k + 0 + 7) (B_co k hk) rfl 8 (by decide) kX0_noteSearch_31 (by simp [CF, va_up, upd]) dX0_noteSearch_29 ?_
    refine fw_iconst (pc := 32) (v := 1) X dX0_noteSearch_32 (by decide) ?_
    refine fw_iload_n (pc := 33) X dX0_noteSearch_33 rfl 1 rfl ?_
    refine fw_ishl (pc := 34) X dX0_noteSearch_34 ?_
    refine fw_ior (pc := 35) X dX0_noteSearch_35 ?_
    refine fw_put (pc := 36) (ws' := BW K ba bf bg n ca (va_up cf k (upd (upd (cf k) 7 ((cf k 7) + 1)) 8 ((cf k 8) ||| (1 <<< (v &&& 31))))) (va_up cg k (va_up (cg k) 2 (upd (cg k 2) i x)))) X iX0_noteSearch_X0 tyX0 tyX0_ok nmX0 (4 * k + 0 + 7) (B_co k hk) rfl 8 (by decide) kX0_noteSearch_31 rfl rfl rfl (Nat.le_of_ble_eq_true rfl) dX0_noteSearch_36 ((B_cf8 k hk _).trans (by rw [cf_nm])) ?_
    exact fw_vret (pc := 39) X hr hlk (Nat.le_of_ble_eq_true rfl) (Nat.le_of_ble_eq_true rfl) dX0_noteSearch_39 () rfl (by simp [b_ns_cf, b_ns_cg, c_1])
theorem kX1_search_79 : Cond.fieldLink RX1 79 (TX0 5).1 (TX0 5).2.1 (TX0 5).2.2.1 ∈ wsX1_search := by decide +kernel
set_option maxRecDepth 20000 in
theorem iX1_search_X0 : ∀ w ∈ wsX00, w ∈ wsX1_search := by decide +kernel
theorem kX1_search_122 : Cond.fieldLink RX1 122 (TX0 7).1 (TX0 7).2.1 (TX0 7).2.2.1 ∈ wsX1_search := by decide +kernel
theorem kX1_search_clIS : Cond.classLink RX1 60 fw_IS ∈ wsX1_search := by decide +kernel
theorem kX1_search_iniIS : Cond.initialized fw_IS ∈ wsX1_search := by decide +kernel
set_option maxRecDepth 20000 in
theorem kX1_search_atIS : ∀ w ∈ (vx_atS RX1 64 fw_IS fw_chn).filter goodWord, w ∈ wsX1_search := by decide +kernel
theorem dsc_X1_search : fw_dsc yX1_search 3 := by decide +kernel
set_option maxHeartbeats 4000000 in
set_option maxRecDepth 100000 in
theorem ct_X1_search {l : Launch} (hl : l.stackTraces = false) {D : va_G} {K : Nat → ClassId} {ba : Nat → Nat} {bf : Nat → Int32} {bg : Nat → Nat → Int32} {n : Nat} {ca : Nat → Nat → Nat} {cf : Nat → Nat → Int32} {cg : Nat → Nat → Nat → Int32} (u v x : Int32) (hn15 : n ≤ 15) : fw_C (S := Unit) l yX1_search wsX1_search ({ frames := 8, cells := 4, slots := 24, locals := 132 }) 4 24 true [.ref (ba 6), .int u, .int v, .int x] D (tyS K) (BW K ba bf bg n ca cf cg) (fun r _ => b_sch_k n cf u v x = 0 ∧ r = some (.int (b_ns_cf cf cg (ix u) (ix v) v x (ix u) 7))) (fun _ => BW K ba bf bg n ca (b_ns_cf cf cg (ix u) (ix v) v x) (b_ns_cg cg (ix u) (ix v) x)) (fun E => px3 E (b_sch_k n cf u v x)) := by
  refine fw_met (maxL := 5) (ret := (some .int)) (by decide) rfl (Nat.le_of_ble_eq_true rfl) ?_
  intro p e s m args below meth c A X hr hlk hnm htab hE
  refine fw_lv (lv' := [(0, .ref (ba 6)), (1, .int u), (2, .int v), (3, .int x)]) [0, 1, 2, 3] rfl ?_
  refine fw_aload_n (pc := 0) X dX1_search_0 rfl 0 rfl ?_
  refine fw_iload_n (pc := 1) X dX1_search_1 rfl 1 rfl ?_
  refine fw_callV (pc := 2) (n := 1) (C := (RX1, TX1, 10)) (ci := 1) (q0 := 0) X hE [.int u] (ct_X1_findConsignment hl u hn15) (by decide) gX1_search_X1_findConsignment rfl ⟨rfl, rfl⟩ ⟨rfl, dsc_X1_findConsignment⟩ ⟨Nat.le_of_ble_eq_true rfl, Nat.le_of_ble_eq_true rfl⟩ rfl B_obj rfl rfl (Nat.le_of_ble_eq_true rfl) dX1_search_2 ⟨Nat.le_of_ble_eq_true rfl, Nat.le_of_ble_eq_true rfl⟩ (fun E q => by obtain ⟨rfl, q2⟩ := q; exact fw_out X htab hlk (Nat.le_of_ble_eq_true rfl) (Nat.le_of_ble_eq_true rfl) (px3_IO (by simp [b_sch_k, q2])) rfl) (fun r0 u0 r_1 => ?_)
  obtain ⟨q_2, rfl⟩ := r_1
  obtain ⟨hx_u, hl_u⟩ := in_con hn15 q_2
  refine fw_astore (pc := 5) (lv' := [(4, .ref (ca (ix u) 0)), (0, .ref (ba 6)), (1, .int u), (2, .int v), (3, .int x)]) X dX1_search_5 (by decide) rfl ?_
  refine fw_iload_n (pc := 7) X dX1_search_7 rfl 3 rfl ?_
  refine fw_callS (pc := 8) (n := 1) X hE [.int v] (ct_X1_checkSort hl v) (by decide) gX1_search_X1_checkSort rfl ⟨rfl, rfl⟩ dsc_X1_checkSort ⟨Nat.le_of_ble_eq_true rfl, Nat.le_of_ble_eq_true rfl⟩ rfl rfl (Nat.le_of_ble_eq_true rfl) dX1_search_8 ⟨Nat.le_of_ble_eq_true rfl, Nat.le_of_ble_eq_true rfl⟩ (fun E q => by obtain ⟨rfl, q2⟩ := q; exact fw_out X htab hlk (Nat.le_of_ble_eq_true rfl) (Nat.le_of_ble_eq_true rfl) (px3_IA (by simp [b_sch_k, q_2, q2])) rfl) (fun r0 u0 r_3 => ?_)
  obtain ⟨q_4, rfl⟩ := r_3
  obtain ⟨hx_v, hl_v⟩ := in_ix (h := 5) (N := 6) (by decide) (by decide) q_4
  refine fw_iload_n (pc := 11) X dX1_search_11 rfl 4 rfl ?_
  refine fw_iconst (pc := 12) (v := 0) X dX1_search_12 (by decide) ?_
  refine fw_bipush (pc := 13) (v := 100) X dX1_search_13 (by decide) ?_
  refine fw_callS (pc := 15) (n := 3) X hE [.int x, .int 0, .int 100] (ct_X1_checkRange hl x 0 100) (by decide) gX1_search_X1_checkRange rfl ⟨rfl, rfl⟩ dsc_X1_checkRange ⟨Nat.le_of_ble_eq_true rfl, Nat.le_of_ble_eq_true rfl⟩ rfl rfl (Nat.le_of_ble_eq_true rfl) dX1_search_15 ⟨Nat.le_of_ble_eq_true rfl, Nat.le_of_ble_eq_true rfl⟩ (fun E q => by obtain ⟨rfl, q2⟩ := q; exact fw_out X htab hlk (Nat.le_of_ble_eq_true rfl) (Nat.le_of_ble_eq_true rfl) (px3_IA (by simp [b_sch_k, q_2, q_4, q2])) rfl) (fun r0 u0 r_5 => ?_)
  obtain ⟨q_6, rfl⟩ := r_5
  obtain ⟨hx_x, hl_x⟩ := in_ix (h := 100) (N := 101) (by decide) (by decide) q_6
  refine fw_aload (pc := 18) X dX1_search_18 0 rfl ?_
  refine fw_get (pc := 20) (v := .int (cf (ix u) 5)) X iX1_search_X0 (4 * (ix u) + 0 + 7) (B_co (ix u) hl_u) rfl 5 (by decide) kX1_search_79 rfl dX1_search_20 ?_
  refine fw_iconst (pc := 23) (v := 1) X dX1_search_23 (by decide) ?_
  refine fw_icmp_eq (pc := 24) (tgt := 37) X dX1_search_24 (by decide) (fun c_7 => ?_) (fun c_7 => ?_)
  · refine fw_aload (pc := 37) X dX1_search_37 0 rfl ?_
    refine fw_iload_n (pc := 39) X dX1_search_39 rfl 3 rfl ?_
    refine fw_iload_n (pc := 40) X dX1_search_40 rfl 4 rfl ?_
    refine fw_callV (pc := 41) (n := 2) (C := (RX0, TX0, 12)) (ci := 0) (q0 := (4 * (ix u) + 0 + 7)) X hE [.int v, .int x] (ct_X0_noteSearch hl (ix u) hl_u v x (ix v) hx_v (by omega)) (by decide) gX1_search_X0_noteSearch rfl ⟨rfl, rfl⟩ ⟨rfl, dsc_X0_noteSearch⟩ ⟨Nat.le_of_ble_eq_true rfl, Nat.le_of_ble_eq_true rfl⟩ rfl (B_co (ix u) hl_u) rfl rfl (Nat.le_of_ble_eq_true rfl) dX1_search_41 ⟨Nat.le_of_ble_eq_true rfl, Nat.le_of_ble_eq_true rfl⟩ (fun _ q => q.elim) (fun r0 u0 r_8 => ?_)
    subst r_8
    refine fw_aload (pc := 44) X dX1_search_44 0 rfl ?_
    refine fw_get (pc := 46) (v := .int ((b_ns_cf cf cg (ix u) (ix v) v x) (ix u) 7)) X iX1_search_X0 (4 * (ix u) + 0 + 7) (B_co (ix u) hl_u) rfl 7 (by decide) kX1_search_122 rfl dX1_search_46 ?_
    exact fw_iret (pc := 49) X hr hlk (Nat.le_of_ble_eq_true rfl) (Nat.le_of_ble_eq_true rfl) dX1_search_49 () ⟨(by simp [b_sch_k, q_2, q_4, q_6, c_7]), (by first | rfl | simp [q_2, q_4, q_6, c_7])⟩ (by first | rfl | simp [q_2, q_4, q_6, c_7])
  · exact fw_throw (pc := 27) (text := "the consignment is not at the door") X hE hl fw_fit_IS fw_good_IS fw_bad_IS fw_c_IS (by decide +kernel) kX1_search_clIS kX1_search_iniIS kX1_search_atIS dX1_search_27 dX1_search_30 dX1_search_31 dX1_search_33 dX1_search_36 ⟨Nat.le_of_ble_eq_true rfl, Nat.le_of_ble_eq_true rfl, Nat.le_of_ble_eq_true rfl, Nat.le_of_ble_eq_true rfl⟩ htab hlk (px3_IS (by simp [b_sch_k, q_2, q_4, q_6, c_7])) (Nat.le_of_ble_eq_true rfl) (Nat.le_of_ble_eq_true rfl) rfl
theorem kX1_checkTaking_155 : Cond.fieldLink RX1 155 (TX0 4).1 (TX0 4).2.1 (TX0 4).2.2.1 ∈ wsX1_checkTaking := by decide +kernel
set_option maxRecDepth 20000 in
theorem iX1_checkTaking_X0 : ∀ w ∈ wsX00, w ∈ wsX1_checkTaking := by decide +kernel
theorem kX1_checkTaking_clIS : Cond.classLink RX1 60 fw_IS ∈ wsX1_checkTaking := by decide +kernel
theorem kX1_checkTaking_iniIS : Cond.initialized fw_IS ∈ wsX1_checkTaking := by decide +kernel
set_option maxRecDepth 20000 in
theorem kX1_checkTaking_atIS : ∀ w ∈ (vx_atS RX1 64 fw_IS fw_chn).filter goodWord, w ∈ wsX1_checkTaking := by decide +kernel
theorem dsc_X1_checkTaking : fw_dsc yX1_checkTaking 4 := by decide +kernel
set_option maxHeartbeats 4000000 in
set_option maxRecDepth 100000 in
theorem ct_X1_checkTaking {l : Launch} (hl : l.stackTraces = false) {D : va_G} {K : Nat → ClassId} {ba : Nat → Nat} {bf : Nat → Int32} {bg : Nat → Nat → Int32} {n : Nat} {ca : Nat → Nat → Nat} {cf : Nat → Nat → Int32} {cg : Nat → Nat → Nat → Int32} (k : Nat) (hk : k < n) (v x y : Int32) : fw_C (S := Unit) l yX1_checkTaking wsX1_checkTaking ({ frames := 8, cells := 4, slots := 24, locals := 132 }) 4 24 true [.ref (ca k 0), .int v, .int x, .int y] D (tyS K) (BW K ba bf bg n ca cf cg) (fun r _ => b_tak cg k v x y = 0 ∧ r = none) (fun _ => BW K ba bf bg n ca cf cg) (fun E => px3 E (b_tak cg k v x y)) := by
  refine fw_met (maxL := 4) (ret := none) (by decide) rfl (Nat.le_of_ble_eq_true rfl) ?_
  intro p e s m args below meth c A X hr hlk hnm htab hE
  refine fw_lv (lv' := [(0, .ref (ca k 0)), (1, .int v), (2, .int x), (3, .int y)]) [0, 1, 2, 3] rfl ?_
  refine fw_iload_n (pc := 0) X dX1_checkTaking_0 rfl 1 rfl ?_
  refine fw_callS (pc := 1) (n := 1) X hE [.int v] (ct_X1_checkSort hl v) (by decide) gX1_checkTaking_X1_checkSort rfl ⟨rfl, rfl⟩ dsc_X1_checkSort ⟨Nat.le_of_ble_eq_true rfl, Nat.le_of_ble_eq_true rfl⟩ rfl rfl (Nat.le_of_ble_eq_true rfl) dX1_checkTaking_1 ⟨Nat.le_of_ble_eq_true rfl, Nat.le_of_ble_eq_true rfl⟩ (fun E q => by obtain ⟨rfl, q2⟩ := q; exact fw_out X htab hlk (Nat.le_of_ble_eq_true rfl) (Nat.le_of_ble_eq_true rfl) (px3_IA (by simp [b_tak, m_gd, q2])) rfl) (fun r0 u0 r_1 => ?_)
  obtain ⟨q_2, rfl⟩ := r_1
  obtain ⟨hx_v, hl_v⟩ := in_ix (h := 5) (N := 6) (by decide) (by decide) q_2
  refine fw_iload_n (pc := 4) X dX1_checkTaking_4 rfl 2 rfl ?_
  refine fw_callS (pc := 5) (n := 1) X hE [.int x] (ct_X1_checkStore hl x) (by decide) gX1_checkTaking_X1_checkStore rfl ⟨rfl, rfl⟩ dsc_X1_checkStore ⟨Nat.le_of_ble_eq_true rfl, Nat.le_of_ble_eq_true rfl⟩ rfl rfl (Nat.le_of_ble_eq_true rfl) dX1_checkTaking_5 ⟨Nat.le_of_ble_eq_true rfl, Nat.le_of_ble_eq_true rfl⟩ (fun E q => by obtain ⟨rfl, q2⟩ := q; exact fw_out X htab hlk (Nat.le_of_ble_eq_true rfl) (Nat.le_of_ble_eq_true rfl) (px3_IA (by simp [b_tak, m_gd, q_2, q2])) rfl) (fun r0 u0 r_3 => ?_)
  obtain ⟨q_4, rfl⟩ := r_3
  obtain ⟨hx_x, hl_x⟩ := in_ix (h := 2) (N := 3) (by decide) (by decide) q_4
  refine fw_iload_n (pc := 8) X dX1_checkTaking_8 rfl 3 rfl ?_
  refine fw_iconst (pc := 9) (v := 1) X dX1_checkTaking_9 (by decide) ?_
  refine fw_bipush (pc := 10) (v := 100) X dX1_checkTaking_10 (by decide) ?_
  refine fw_callS (pc := 12) (n := 3) X hE [.int y, .int 1, .int 100] (ct_X1_checkRange hl y 1 100) (by decide) gX1_checkTaking_X1_checkRange rfl ⟨rfl, rfl⟩ dsc_X1_checkRange ⟨Nat.le_of_ble_eq_true rfl, Nat.le_of_ble_eq_true rfl⟩ rfl rfl (Nat.le_of_ble_eq_true rfl) dX1_checkTaking_12 ⟨Nat.le_of_ble_eq_true rfl, Nat.le_of_ble_eq_true rfl⟩ (fun E q => by obtain ⟨rfl, q2⟩ := q; exact fw_out X htab hlk (Nat.le_of_ble_eq_true rfl) (Nat.le_of_ble_eq_true rfl) (px3_IA (by simp [b_tak, m_gd, q_2, q_4, q2])) rfl) (fun r0 u0 r_5 => ?_)
  obtain ⟨q_6, rfl⟩ := r_5
  refine fw_aload_n (pc := 15) X dX1_checkTaking_15 rfl 0 rfl ?_
  refine fw_get (pc := 16) (v := .ref (ca k 4)) X iX1_checkTaking_X0 (4 * k + 0 + 7) (B_co k hk) rfl 4 (by decide) kX1_checkTaking_155 rfl dX1_checkTaking_16 ?_
  refine fw_iload_n (pc := 19) X dX1_checkTaking_19 rfl 1 rfl ?_
  refine fw_iload_n (pc := 20) X dX1_checkTaking_20 rfl 2 rfl ?_
  refine fw_callS (pc := 21) (n := 2) X hE [.int v, .int x] (ct_X1_placeOf hl v x) (by decide) gX1_checkTaking_X1_placeOf rfl ⟨rfl, rfl⟩ dsc_X1_placeOf ⟨Nat.le_of_ble_eq_true rfl, Nat.le_of_ble_eq_true rfl⟩ rfl rfl (Nat.le_of_ble_eq_true rfl) dX1_checkTaking_21 ⟨Nat.le_of_ble_eq_true rfl, Nat.le_of_ble_eq_true rfl⟩ (fun _ q => q.elim) (fun r0 u0 r_7 => ?_)
  subst r_7
  refine fw_iald (pc := 24) (n := 18) (cA := K 0) (f := cg k 4) X (4 * k + 3 + 7) 0 (B_c4 (cg := cg) k hk) rfl ((ix v) * 3 + (ix x)) (nf_add (nf_mul hx_v (show (3 : Int32) = nI 3 from rfl)) hx_x) (by omega) (by decide) dX1_checkTaking_24 ?_
  refine fw_iload_n (pc := 25) X dX1_checkTaking_25 rfl 3 rfl ?_
  refine fw_icmp_ge (pc := 26) (tgt := 39) X dX1_checkTaking_26 (by decide) (fun c_8 => ?_) (fun c_8 => ?_)
  · exact fw_vret (pc := 39) X hr hlk (Nat.le_of_ble_eq_true rfl) (Nat.le_of_ble_eq_true rfl) dX1_checkTaking_39 () ⟨(by simp [b_tak, m_gd, q_2, q_4, q_6, c_8]), (by first | rfl | simp [q_2, q_4, q_6, c_8])⟩ (by first | rfl | simp [q_2, q_4, q_6, c_8])
  · exact fw_throw (pc := 29) (text := "there is less of the sort in the store") X hE hl fw_fit_IS fw_good_IS fw_bad_IS fw_c_IS (by decide +kernel) kX1_checkTaking_clIS kX1_checkTaking_iniIS kX1_checkTaking_atIS dX1_checkTaking_29 dX1_checkTaking_32 dX1_checkTaking_33 dX1_checkTaking_35 dX1_checkTaking_38 ⟨Nat.le_of_ble_eq_true rfl, Nat.le_of_ble_eq_true rfl, Nat.le_of_ble_eq_true rfl, Nat.le_of_ble_eq_true rfl⟩ htab hlk (px3_IS (by simp [b_tak, m_gd, q_2, q_4, q_6, c_8])) (Nat.le_of_ble_eq_true rfl) (Nat.le_of_ble_eq_true rfl) rfl
theorem kX1_move_155 : Cond.fieldLink RX1 155 (TX0 4).1 (TX0 4).2.1 (TX0 4).2.2.1 ∈ wsX1_move := by decide +kernel
set_option maxRecDepth 20000 in
theorem iX1_move_X0 : ∀ w ∈ wsX00, w ∈ wsX1_move := by decide +kernel
theorem kX1_move_clIA : Cond.classLink RX1 142 fw_IA ∈ wsX1_move := by decide +kernel
theorem kX1_move_iniIA : Cond.initialized fw_IA ∈ wsX1_move := by decide +kernel
set_option maxRecDepth 20000 in
theorem kX1_move_atIA : ∀ w ∈ (vx_atS RX1 146 fw_IA fw_chn).filter goodWord, w ∈ wsX1_move := by decide +kernel
theorem dsc_X1_move : fw_dsc yX1_move 5 := by decide +kernel
set_option maxHeartbeats 4000000 in
set_option maxRecDepth 100000 in
theorem ct_X1_move {l : Launch} (hl : l.stackTraces = false) {D : va_G} {K : Nat → ClassId} {ba : Nat → Nat} {bf : Nat → Int32} {bg : Nat → Nat → Int32} {n : Nat} {ca : Nat → Nat → Nat} {cf : Nat → Nat → Int32} {cg : Nat → Nat → Nat → Int32} (u v x y z : Int32) (hn15 : n ≤ 15) : fw_C (S := Unit) l yX1_move wsX1_move ({ frames := 9, cells := 7, slots := 42, locals := 155 }) 7 42 true [.ref (ba 6), .int u, .int v, .int x, .int y, .int z] D (tyS K) (BW K ba bf bg n ca cf cg) (fun r _ => b_mov_k n cg u v x y z = 0 ∧ r = some (.int (b_mv_g cg (ix u) (ix v) (ix x) (ix y) z (ix v * 3 + ix y)))) (fun _ => BW K ba bf bg n ca cf (va_up cg (ix u) (va_up (cg (ix u)) 4 (b_mv_g cg (ix u) (ix v) (ix x) (ix y) z)))) (fun E => px3 E (b_mov_k n cg u v x y z)) := by
  refine fw_met (maxL := 8) (ret := (some .int)) (by decide) rfl (Nat.le_of_ble_eq_true rfl) ?_
  intro p e s m args below meth c A X hr hlk hnm htab hE
  refine fw_lv (lv' := [(0, .ref (ba 6)), (1, .int u), (2, .int v), (3, .int x), (4, .int y), (5, .int z)]) [0, 1, 2, 3, 4, 5] rfl ?_
  refine fw_aload_n (pc := 0) X dX1_move_0 rfl 0 rfl ?_
  refine fw_iload_n (pc := 1) X dX1_move_1 rfl 1 rfl ?_
  refine fw_callV (pc := 2) (n := 1) (C := (RX1, TX1, 10)) (ci := 1) (q0 := 0) X hE [.int u] (ct_X1_findConsignment hl u hn15) (by decide) gX1_move_X1_findConsignment rfl ⟨rfl, rfl⟩ ⟨rfl, dsc_X1_findConsignment⟩ ⟨Nat.le_of_ble_eq_true rfl, Nat.le_of_ble_eq_true rfl⟩ rfl B_obj rfl rfl (Nat.le_of_ble_eq_true rfl) dX1_move_2 ⟨Nat.le_of_ble_eq_true rfl, Nat.le_of_ble_eq_true rfl⟩ (fun E q => by obtain ⟨rfl, q2⟩ := q; exact fw_out X htab hlk (Nat.le_of_ble_eq_true rfl) (Nat.le_of_ble_eq_true rfl) (px3_IO (by simp [b_mov_k, q2])) rfl) (fun r0 u0 r_1 => ?_)
  obtain ⟨q_2, rfl⟩ := r_1
  obtain ⟨hx_u, hl_u⟩ := in_con hn15 q_2
  refine fw_astore (pc := 5) (lv' := [(6, .ref (ca (ix u) 0)), (0, .ref (ba 6)), (1, .int u), (2, .int v), (3, .int x), (4, .int y), (5, .int z)]) X dX1_move_5 (by decide) rfl ?_
  refine fw_iload (pc := 7) X dX1_move_7 5 rfl ?_
  refine fw_callS (pc := 9) (n := 1) X hE [.int y] (ct_X1_checkStore hl y) (by decide) gX1_move_X1_checkStore rfl ⟨rfl, rfl⟩ dsc_X1_checkStore ⟨Nat.le_of_ble_eq_true rfl, Nat.le_of_ble_eq_true rfl⟩ rfl rfl (Nat.le_of_ble_eq_true rfl) dX1_move_9 ⟨Nat.le_of_ble_eq_true rfl, Nat.le_of_ble_eq_true rfl⟩ (fun E q => by obtain ⟨rfl, q2⟩ := q; exact fw_out X htab hlk (Nat.le_of_ble_eq_true rfl) (Nat.le_of_ble_eq_true rfl) (px3_IA (by simp [b_mov_k, q_2, q2])) rfl) (fun r0 u0 r_3 => ?_)
  obtain ⟨q_4, rfl⟩ := r_3
  obtain ⟨hx_y, hl_y⟩ := in_ix (h := 2) (N := 3) (by decide) (by decide) q_4
  refine fw_iload_n (pc := 12) X dX1_move_12 rfl 4 rfl ?_
  refine fw_iload (pc := 13) X dX1_move_13 5 rfl ?_
  refine fw_icmp_ne (pc := 15) (tgt := 28) X dX1_move_15 (by decide) (fun c_5 => ?_) (fun c_5 => ?_)
  · refine fw_aload (pc := 28) X dX1_move_28 0 rfl ?_
    refine fw_iload_n (pc := 30) X dX1_move_30 rfl 3 rfl ?_
    refine fw_iload_n (pc := 31) X dX1_move_31 rfl 4 rfl ?_
    refine fw_iload (pc := 32) X dX1_move_32 6 rfl ?_
    refine fw_callS (pc := 34) (n := 4) X hE [.ref (ca (ix u) 0), .int v, .int x, .int z] (ct_X1_checkTaking hl (ix u) hl_u v x z) (by decide) gX1_move_X1_checkTaking rfl ⟨rfl, rfl⟩ dsc_X1_checkTaking ⟨Nat.le_of_ble_eq_true rfl, Nat.le_of_ble_eq_true rfl⟩ rfl rfl (Nat.le_of_ble_eq_true rfl) dX1_move_34 ⟨Nat.le_of_ble_eq_true rfl, Nat.le_of_ble_eq_true rfl⟩ (fun E q => by rcases q with ⟨rfl, q2⟩ | ⟨rfl, q2⟩ | ⟨rfl, q2⟩ <;> first | exact (b_tak_1 q2).elim | exact fw_out X htab hlk (Nat.le_of_ble_eq_true rfl) (Nat.le_of_ble_eq_true rfl) (px3_IA (by have q3 := b_tak_2 q2; simp [b_mov_k, q_2, q_4, c_5, q2, q3])) rfl | exact fw_out X htab hlk (Nat.le_of_ble_eq_true rfl) (Nat.le_of_ble_eq_true rfl) (px3_IS (by have q3 := b_tak_3 q2; simp [b_mov_k, q_2, q_4, c_5, q2, q3.1, q3.2])) rfl) (fun r0 u0 r_6 => ?_)
    obtain ⟨q_7, rfl⟩ := r_6
    obtain ⟨q_7g, q_7l⟩ := b_tak_0 q_7
    obtain ⟨q_7a, q_7b, q_7c⟩ := gd_true q_7g
    obtain ⟨hx_v, hl_v⟩ := in_ix (h := 5) (N := 6) (by decide) (by decide) q_7a
    obtain ⟨hx_x, hl_x⟩ := in_ix (h := 2) (N := 3) (by decide) (by decide) q_7b
    refine fw_iload_n (pc := 37) X dX1_move_37 rfl 3 rfl ?_
    refine fw_iload (pc := 38) X dX1_move_38 5 rfl ?_
    refine fw_callS (pc := 40) (n := 2) X hE [.int v, .int y] (ct_X1_placeOf hl v y) (by decide) gX1_move_X1_placeOf rfl ⟨rfl, rfl⟩ dsc_X1_placeOf ⟨Nat.le_of_ble_eq_true rfl, Nat.le_of_ble_eq_true rfl⟩ rfl rfl (Nat.le_of_ble_eq_true rfl) dX1_move_40 ⟨Nat.le_of_ble_eq_true rfl, Nat.le_of_ble_eq_true rfl⟩ (fun _ q => q.elim) (fun r0 u0 r_8 => ?_)
    subst r_8
    refine fw_istore (pc := 43) (lv' := [(7, .int (v * 3 + y)), (6, .ref (ca (ix u) 0)), (0, .ref (ba 6)), (1, .int u), (2, .int v), (3, .int x), (4, .int y), (5, .int z)]) X dX1_move_43 (by decide) rfl ?_
    refine fw_aload (pc := 45) X dX1_move_45 1 rfl ?_
    refine fw_get (pc := 47) (v := .ref (ca (ix u) 4)) X iX1_move_X0 (4 * (ix u) + 0 + 7) (B_co (ix u) hl_u) rfl 4 (by decide) kX1_move_155 rfl dX1_move_47 ?_
    refine fw_iload_n (pc := 50) X dX1_move_50 rfl 4 rfl ?_
    refine fw_iload_n (pc := 51) X dX1_move_51 rfl 5 rfl ?_
    refine fw_callS (pc := 52) (n := 2) X hE [.int v, .int x] (ct_X1_placeOf hl v x) (by decide) gX1_move_X1_placeOf rfl ⟨rfl, rfl⟩ dsc_X1_placeOf ⟨Nat.le_of_ble_eq_true rfl, Nat.le_of_ble_eq_true rfl⟩ rfl rfl (Nat.le_of_ble_eq_true rfl) dX1_move_52 ⟨Nat.le_of_ble_eq_true rfl, Nat.le_of_ble_eq_true rfl⟩ (fun _ q => q.elim) (fun r0 u0 r_9 => ?_)
    subst r_9
    refine fw_dup2 (pc := 55) X dX1_move_55 rfl rfl ?_
    refine fw_iald (pc := 56) (n := 18) (cA := K 0) (f := cg (ix u) 4) X (4 * (ix u) + 3 + 7) 0 (B_c4 (cg := cg) (ix u) hl_u) rfl ((ix v) * 3 + (ix x)) (nf_add (nf_mul hx_v (show (3 : Int32) = nI 3 from rfl)) hx_x) (by omega) (by decide) dX1_move_56 ?_
    refine fw_iload (pc := 57) X dX1_move_57 7 rfl ?_
    refine fw_isub (pc := 59) X dX1_move_59 ?_
    refine fw_iast (pc := 60) (n := 18) (cA := K 0) (f := cg (ix u) 4) (ws' := BW K ba bf bg n ca cf (va_up cg (ix u) (va_up (cg (ix u)) 4 (upd (cg (ix u) 4) ((ix v) * 3 + (ix x)) (((cg (ix u) 4) ((ix v) * 3 + (ix x))) - z))))) X (4 * (ix u) + 3 + 7) 0 (B_c4 (cg := cg) (ix u) hl_u) rfl ((ix v) * 3 + (ix x)) (nf_add (nf_mul hx_v (show (3 : Int32) = nI 3 from rfl)) hx_x) (by omega) (by decide) dX1_move_60 (B_cs4 (ix u) hl_u _) ?_
    refine fw_aload (pc := 61) X dX1_move_61 1 rfl ?_
    refine fw_get (pc := 63) (v := .ref (ca (ix u) 4)) X iX1_move_X0 (4 * (ix u) + 0 + 7) (B_co (ix u) hl_u) rfl 4 (by decide) kX1_move_155 rfl dX1_move_63 ?_
    refine fw_iload (pc := 66) X dX1_move_66 0 rfl ?_
    refine fw_dup2 (pc := 68) X dX1_move_68 rfl rfl ?_
    refine fw_iald (pc := 69) (n := 18) (cA := K 0) (f := upd (cg (ix u) 4) ((ix v) * 3 + (ix x)) (((cg (ix u) 4) ((ix v) * 3 + (ix x))) - z)) X (4 * (ix u) + 3 + 7) 0 ((B_c4 (cg := (va_up cg (ix u) (va_up (cg (ix u)) 4 (upd (cg (ix u) 4) ((ix v) * 3 + (ix x)) (((cg (ix u) 4) ((ix v) * 3 + (ix x))) - z))))) (ix u) hl_u).trans (by simp [va_up])) rfl ((ix v) * 3 + (ix y)) (nf_add (nf_mul hx_v (show (3 : Int32) = nI 3 from rfl)) hx_y) (by omega) (by decide) dX1_move_69 ?_
    refine fw_iload (pc := 70) X dX1_move_70 7 rfl ?_
    refine fw_iadd (pc := 72) X dX1_move_72 ?_
    refine fw_iast (pc := 73) (n := 18) (cA := K 0) (f := upd (cg (ix u) 4) ((ix v) * 3 + (ix x)) (((cg (ix u) 4) ((ix v) * 3 + (ix x))) - z)) (ws' := BW K ba bf bg n ca cf (va_up cg (ix u) (va_up (cg (ix u)) 4 (upd (upd (cg (ix u) 4) ((ix v) * 3 + (ix x)) (((cg (ix u) 4) ((ix v) * 3 + (ix x))) - z)) ((ix v) * 3 + (ix y)) (((upd (cg (ix u) 4) ((ix v) * 3 + (ix x)) (((cg (ix u) 4) ((ix v) * 3 + (ix x))) - z)) ((ix v) * 3 + (ix y))) + z))))) X (4 * (ix u) + 3 + 7) 0 ((B_c4 (cg := (va_up cg (ix u) (va_up (cg (ix u)) 4 (upd (cg (ix u) 4) ((ix v) * 3 + (ix x)) (((cg (ix u) 4) ((ix v) * 3 + (ix x))) - z))))) (ix u) hl_u).trans (by simp [va_up])) rfl ((ix v) * 3 + (ix y)) (nf_add (nf_mul hx_v (show (3 : Int32) = nI 3 from rfl)) hx_y) (by omega) (by decide) dX1_move_73 ((B_cs4 (ix u) hl_u _).trans (by rw [cg_nm]; rw [bx_uu])) ?_
    refine fw_aload (pc := 74) X dX1_move_74 1 rfl ?_
    refine fw_get (pc := 76) (v := .ref (ca (ix u) 4)) X iX1_move_X0 (4 * (ix u) + 0 + 7) (B_co (ix u) hl_u) rfl 4 (by decide) kX1_move_155 rfl dX1_move_76 ?_
    refine fw_iload (pc := 79) X dX1_move_79 0 rfl ?_
    refine fw_iald (pc := 81) (n := 18) (cA := K 0) (f := upd (upd (cg (ix u) 4) ((ix v) * 3 + (ix x)) (((cg (ix u) 4) ((ix v) * 3 + (ix x))) - z)) ((ix v) * 3 + (ix y)) (((upd (cg (ix u) 4) ((ix v) * 3 + (ix x)) (((cg (ix u) 4) ((ix v) * 3 + (ix x))) - z)) ((ix v) * 3 + (ix y))) + z)) X (4 * (ix u) + 3 + 7) 0 ((B_c4 (cg := (va_up cg (ix u) (va_up (cg (ix u)) 4 (upd (upd (cg (ix u) 4) ((ix v) * 3 + (ix x)) (((cg (ix u) 4) ((ix v) * 3 + (ix x))) - z)) ((ix v) * 3 + (ix y)) (((upd (cg (ix u) 4) ((ix v) * 3 + (ix x)) (((cg (ix u) 4) ((ix v) * 3 + (ix x))) - z)) ((ix v) * 3 + (ix y))) + z))))) (ix u) hl_u).trans (by simp [va_up])) rfl ((ix v) * 3 + (ix y)) (nf_add (nf_mul hx_v (show (3 : Int32) = nI 3 from rfl)) hx_y) (by omega) (by decide) dX1_move_81 ?_
    exact fw_iret (pc := 82) X hr hlk (Nat.le_of_ble_eq_true rfl) (Nat.le_of_ble_eq_true rfl) dX1_move_82 () ⟨(by simp [b_mov_k, q_2, q_4, c_5, q_7, q_7g, q_7l]), (by first | rfl | simp [q_2, q_4, c_5, q_7, q_7g, q_7l])⟩ (by first | rfl | simp [q_2, q_4, c_5, q_7, q_7g, q_7l])
  · exact fw_throw (pc := 18) (text := "both stores are the same") X hE hl fw_fit_IA fw_good_IA fw_bad_IA fw_c_IA (by decide +kernel) kX1_move_clIA kX1_move_iniIA kX1_move_atIA dX1_move_18 dX1_move_21 dX1_move_22 dX1_move_24 dX1_move_27 ⟨Nat.le_of_ble_eq_true rfl, Nat.le_of_ble_eq_true rfl, Nat.le_of_ble_eq_true rfl, Nat.le_of_ble_eq_true rfl⟩ htab hlk (px3_IA (by simp [b_mov_k, q_2, q_4, (eq_true c_5)])) (Nat.le_of_ble_eq_true rfl) (Nat.le_of_ble_eq_true rfl) rfl
theorem kX1_takeOut_175 : Cond.fieldLink RX1 175 (TX0 3).1 (TX0 3).2.1 (TX0 3).2.2.1 ∈ wsX1_takeOut := by decide +kernel
set_option maxRecDepth 20000 in
theorem iX1_takeOut_X0 : ∀ w ∈ wsX00, w ∈ wsX1_takeOut := by decide +kernel
theorem kX1_takeOut_19 : Cond.fieldLink RX1 19 (TX1 3).1 (TX1 3).2.1 (TX1 3).2.2.1 ∈ wsX1_takeOut := by decide +kernel
set_option maxRecDepth 20000 in
theorem iX1_takeOut_X1 : ∀ w ∈ wsX10, w ∈ wsX1_takeOut := by decide +kernel
theorem kX1_takeOut_133 : Cond.fieldLink RX1 133 (TX0 0).1 (TX0 0).2.1 (TX0 0).2.2.1 ∈ wsX1_takeOut := by decide +kernel
theorem kX1_takeOut_155 : Cond.fieldLink RX1 155 (TX0 4).1 (TX0 4).2.1 (TX0 4).2.2.1 ∈ wsX1_takeOut := by decide +kernel
theorem kX1_takeOut_178 : Cond.fieldLink RX1 178 (TX0 9).1 (TX0 9).2.1 (TX0 9).2.2.1 ∈ wsX1_takeOut := by decide +kernel
theorem kX1_takeOut_79 : Cond.fieldLink RX1 79 (TX0 5).1 (TX0 5).2.1 (TX0 5).2.2.1 ∈ wsX1_takeOut := by decide +kernel
theorem dsc_X1_takeOut : fw_dsc yX1_takeOut 4 := by decide +kernel
set_option maxHeartbeats 4000000 in
set_option maxRecDepth 100000 in
theorem ct_X1_takeOut {l : Launch} (hl : l.stackTraces = false) {D : va_G} {K : Nat → ClassId} {ba : Nat → Nat} {bf : Nat → Int32} {bg : Nat → Nat → Int32} {n : Nat} {ca : Nat → Nat → Nat} {cf : Nat → Nat → Int32} {cg : Nat → Nat → Nat → Int32} (k : Nat) (hk : k < n) (v x y : Int32) (i j : Nat) (hv : v = nI i) (hi : i < 6) (hx : x = nI j) (hj : j < 3) (hT : ∀ k, k < n → cf k 0 = nI (ix (cf k 0)) ∧ ix (cf k 0) < 4) : fw_C (S := Unit) l yX1_takeOut wsX1_takeOut ({ frames := 1, cells := 0, slots := 0, locals := 21 }) 0 0 true [.ref (ba 6), .ref (ca k 0), .int v, .int x, .int y] D (tyS K) (BW K ba bf bg n ca cf cg) (fun r _ => r = some (.int (y * cg k 3 i))) (fun _ => BW K ba bf (va_up bg 3 (upd (bg 3) (ix (cf k 0)) (bg 3 (ix (cf k 0)) - y * cg k 3 i))) n ca (b_to_cf cf k y) (va_up cg k (va_up (cg k) 4 (upd (cg k 4) (i * 3 + j) (cg k 4 (i * 3 + j) - y))))) (fun _ => False) := by
  refine fw_met (maxL := 6) (ret := (some .int)) (by decide) rfl (Nat.le_of_ble_eq_true rfl) ?_
  intro p e s m args below meth c A X hr hlk hnm htab hE
  refine fw_lv (lv' := [(0, .ref (ba 6)), (1, .ref (ca k 0)), (2, .int v), (3, .int x), (4, .int y)]) [0, 1, 2, 3, 4] rfl ?_
  obtain ⟨htx, htl⟩ := hT k hk
  refine fw_iload (pc := 0) X dX1_takeOut_0 4 rfl ?_
  refine fw_aload_n (pc := 2) X dX1_takeOut_2 rfl 1 rfl ?_
  refine fw_get (pc := 3) (v := .ref (ca k 3)) X iX1_takeOut_X0 (4 * k + 0 + 7) (B_co k hk) rfl 3 (by decide) kX1_takeOut_175 rfl dX1_takeOut_3 ?_
  refine fw_iload_n (pc := 6) X dX1_takeOut_6 rfl 2 rfl ?_
  refine fw_iald (pc := 7) (n := 6) (cA := K 0) (f := cg k 3) X (4 * k + 2 + 7) 0 (B_c3 (cg := cg) k hk) rfl i hv (by omega) (by decide) dX1_takeOut_7 ?_
  refine fw_imul (pc := 8) X dX1_takeOut_8 ?_
  refine fw_istore (pc := 9) (lv' := [(5, .int (y * (cg k 3 i))), (0, .ref (ba 6)), (1, .ref (ca k 0)), (2, .int v), (3, .int x), (4, .int y)]) X dX1_takeOut_9 (by decide) rfl ?_
  refine fw_aload_n (pc := 11) X dX1_takeOut_11 rfl 1 rfl ?_
  refine fw_get (pc := 12) (v := .ref (ba 3)) X iX1_takeOut_X1 0 B_obj rfl 3 (by decide) kX1_takeOut_19 rfl dX1_takeOut_12 ?_
  refine fw_aload_n (pc := 15) X dX1_takeOut_15 rfl 2 rfl ?_
  refine fw_get (pc := 16) (v := .int (cf k 0)) X iX1_takeOut_X0 (4 * k + 0 + 7) (B_co k hk) rfl 0 (by decide) kX1_takeOut_133 rfl dX1_takeOut_16 ?_
  refine fw_dup2 (pc := 19) X dX1_takeOut_19 rfl rfl ?_
  refine fw_iald (pc := 20) (n := 4) (cA := K 0) (f := bg 3) X 4 0 (B_g3 (bg := bg)) rfl (ix (cf k 0)) htx (by omega) (by decide) dX1_takeOut_20 ?_
  refine fw_iload (pc := 21) X dX1_takeOut_21 0 rfl ?_
  refine fw_isub (pc := 23) X dX1_takeOut_23 ?_
  refine fw_iast (pc := 24) (n := 4) (cA := K 0) (f := bg 3) (ws' := BW K ba bf (va_up bg 3 (upd (bg 3) (ix (cf k 0)) ((bg 3 (ix (cf k 0))) - (y * (cg k 3 i))))) n ca cf cg) X 4 0 (B_g3 (bg := bg)) rfl (ix (cf k 0)) htx (by omega) (by decide) dX1_takeOut_24 (B_s3 _) ?_
  refine fw_aload_n (pc := 25) X dX1_takeOut_25 rfl 2 rfl ?_
  refine fw_get (pc := 26) (v := .ref (ca k 4)) X iX1_takeOut_X0 (4 * k + 0 + 7) (B_co k hk) rfl 4 (by decide) kX1_takeOut_155 rfl dX1_takeOut_26 ?_
  refine fw_iload_n (pc := 29) X dX1_takeOut_29 rfl 3 rfl ?_
  refine fw_iload_n (pc := 30) X dX1_takeOut_30 rfl 4 rfl ?_
  refine fw_callS (pc := 31) (n := 2) X hE [.int v, .int x] (ct_X1_placeOf hl v x) (by decide) gX1_takeOut_X1_placeOf rfl ⟨rfl, rfl⟩ dsc_X1_placeOf ⟨Nat.le_of_ble_eq_true rfl, Nat.le_of_ble_eq_true rfl⟩ rfl rfl (Nat.le_of_ble_eq_true rfl) dX1_takeOut_31 ⟨Nat.le_of_ble_eq_true rfl, Nat.le_of_ble_eq_true rfl⟩ (fun _ q => q.elim) (fun r0 u0 r_1 => ?_)
  subst r_1
  refine fw_dup2 (pc := 34) X dX1_takeOut_34 rfl rfl ?_
  refine fw_iald (pc := 35) (n := 18) (cA := K 0) (f := cg k 4) X (4 * k + 3 + 7) 0 (B_c4 (cg := cg) k hk) rfl (i * 3 + j) (nf_add (nf_mul hv (show (3 : Int32) = nI 3 from rfl)) hx) (by omega) (by decide) dX1_takeOut_35 ?_
  refine fw_iload (pc := 36) X dX1_takeOut_36 5 rfl ?_
  refine fw_isub (pc := 38) X dX1_takeOut_38 ?_
  refine fw_iast (pc := 39) (n := 18) (cA := K 0) (f := cg k 4) (ws' := BW K ba bf (va_up bg 3 (upd (bg 3) (ix (cf k 0)) ((bg 3 (ix (cf k 0))) - (y * (cg k 3 i))))) n ca cf (va_up cg k (va_up (cg k) 4 (upd (cg k 4) (i * 3 + j) ((cg k 4 (i * 3 + j)) - y))))) X (4 * k + 3 + 7) 0 (B_c4 (cg := cg) k hk) rfl (i * 3 + j) (nf_add (nf_mul hv (show (3 : Int32) = nI 3 from rfl)) hx) (by omega) (by decide) dX1_takeOut_39 (B_cs4 k hk _) ?_
  refine fw_aload_n (pc := 40) X dX1_takeOut_40 rfl 2 rfl ?_
  refine fw_dup (pc := 41) X dX1_takeOut_41 rfl ?_
  refine fw_get (pc := 42) (v := .int (cf k 9)) X iX1_takeOut_X0 (4 * k + 0 + 7) (B_co k hk) rfl 9 (by decide) kX1_takeOut_178 rfl dX1_takeOut_42 ?_
  refine fw_iload (pc := 45) X dX1_takeOut_45 5 rfl ?_
  refine fw_isub (pc := 47) X dX1_takeOut_47 ?_
  refine fw_put (pc := 48) (ws' := BW K ba bf (va_up bg 3 (upd (bg 3) (ix (cf k 0)) ((bg 3 (ix (cf k 0))) - (y * (cg k 3 i))))) n ca (va_up cf k (upd (cf k) 9 ((cf k 9) - y))) (va_up cg k (va_up (cg k) 4 (upd (cg k 4) (i * 3 + j) ((cg k 4 (i * 3 + j)) - y))))) X iX1_takeOut_X0 tyX0 tyX0_ok nmX0 (4 * k + 0 + 7) (B_co k hk) rfl 9 (by decide) kX1_takeOut_178 rfl rfl rfl (Nat.le_of_ble_eq_true rfl) dX1_takeOut_48 (B_cf9 k hk _) ?_
  refine fw_aload_n (pc := 51) X dX1_takeOut_51 rfl 2 rfl ?_
  refine fw_get (pc := 52) (v := .int ((cf k 9) - y)) X iX1_takeOut_X0 (4 * k + 0 + 7) (B_co k hk) rfl 9 (by decide) kX1_takeOut_178 (by simp [CF, va_up, upd]) dX1_takeOut_52 ?_
  refine fw_if_ne (pc := 55) (tgt := 63) X dX1_takeOut_55 (by decide) (fun c_2 => ?_) (fun c_2 => ?_)
  · refine fw_iload (pc := 63) X dX1_takeOut_63 0 rfl ?_
    exact fw_iret (pc := 65) X hr hlk (Nat.le_of_ble_eq_true rfl) (Nat.le_of_ble_eq_true rfl) dX1_takeOut_65 () rfl (by simp [b_to_cf, c_2])
  · refine fw_aload_n (pc := 58) X dX1_takeOut_58 rfl 2 rfl ?_
    refine fw_iconst (pc := 59) (v := 3) X dX1_takeOut_59 (by decide) ?_
    refine fw_put (pc := 60) (ws' := BW K ba bf (va_up bg 3 (upd (bg 3) (ix (cf k 0)) ((bg 3 (ix (cf k 0))) - (y * (cg k 3 i))))) n ca (va_up cf k (upd (upd (cf k) 9 ((cf k 9) - y)) 5 3)) (va_up cg k (va_up (cg k) 4 (upd (cg k 4) (i * 3 + j) ((cg k 4 (i * 3 + j)) - y))))) X iX1_takeOut_X0 tyX0 tyX0_ok nmX0 (4 * k + 0 + 7) (B_co k hk) rfl 5 (by decide) kX1_takeOut_79 rfl rfl rfl (Nat.le_of_ble_eq_true rfl) dX1_takeOut_60 ((B_cf5 k hk _).trans (by rw [cf_nm])) ?_
    refine fw_iload (pc := 63) X dX1_takeOut_63 0 rfl ?_
    exact fw_iret (pc := 65) X hr hlk (Nat.le_of_ble_eq_true rfl) (Nat.le_of_ble_eq_true rfl) dX1_takeOut_65 () rfl (by simp [b_to_cf, c_2])
theorem kX1_free_22 : Cond.fieldLink RX1 22 (TX1 4).1 (TX1 4).2.1 (TX1 4).2.2.1 ∈ wsX1_free := by decide +kernel
set_option maxRecDepth 20000 in
theorem iX1_free_X1 : ∀ w ∈ wsX10, w ∈ wsX1_free := by decide +kernel
theorem kX1_free_133 : Cond.fieldLink RX1 133 (TX0 0).1 (TX0 0).2.1 (TX0 0).2.2.1 ∈ wsX1_free := by decide +kernel
set_option maxRecDepth 20000 in
theorem iX1_free_X0 : ∀ w ∈ wsX00, w ∈ wsX1_free := by decide +kernel
theorem dsc_X1_free : fw_dsc yX1_free 4 := by decide +kernel
set_option maxHeartbeats 4000000 in
set_option maxRecDepth 100000 in
theorem ct_X1_free {l : Launch} (hl : l.stackTraces = false) {D : va_G} {K : Nat → ClassId} {ba : Nat → Nat} {bf : Nat → Int32} {bg : Nat → Nat → Int32} {n : Nat} {ca : Nat → Nat → Nat} {cf : Nat → Nat → Int32} {cg : Nat → Nat → Nat → Int32} (u v x y : Int32) (hn15 : n ≤ 15) (hT : ∀ k, k < n → cf k 0 = nI (ix (cf k 0)) ∧ ix (cf k 0) < 4) : fw_C (S := Unit) l yX1_free wsX1_free ({ frames := 9, cells := 5, slots := 30, locals := 155 }) 5 30 true [.ref (ba 6), .int u, .int v, .int x, .int y] D (tyS K) (BW K ba bf bg n ca cf cg) (fun r _ => b_fre_k n cg u v x y = 0 ∧ r = some (.int (y * cg (ix u) 3 (ix v)))) (fun _ => BW K ba bf (va_up (va_up bg 3 (upd (bg 3) (ix (cf (ix u) 0)) (bg 3 (ix (cf (ix u) 0)) - y * cg (ix u) 3 (ix v)))) 4 (upd (bg 4) (ix (cf (ix u) 0)) (bg 4 (ix (cf (ix u) 0)) + y * cg (ix u) 3 (ix v)))) n ca (b_to_cf cf (ix u) y) (va_up cg (ix u) (va_up (cg (ix u)) 4 (upd (cg (ix u) 4) (ix v * 3 + ix x) (cg (ix u) 4 (ix v * 3 + ix x) - y))))) (fun E => px3 E (b_fre_k n cg u v x y)) := by
  refine fw_met (maxL := 7) (ret := (some .int)) (by decide) rfl (Nat.le_of_ble_eq_true rfl) ?_
  intro p e s m args below meth c A X hr hlk hnm htab hE
  refine fw_lv (lv' := [(0, .ref (ba 6)), (1, .int u), (2, .int v), (3, .int x), (4, .int y)]) [0, 1, 2, 3, 4] rfl ?_
  refine fw_aload_n (pc := 0) X dX1_free_0 rfl 0 rfl ?_
  refine fw_iload_n (pc := 1) X dX1_free_1 rfl 1 rfl ?_
  refine fw_callV (pc := 2) (n := 1) (C := (RX1, TX1, 10)) (ci := 1) (q0 := 0) X hE [.int u] (ct_X1_findConsignment hl u hn15) (by decide) gX1_free_X1_findConsignment rfl ⟨rfl, rfl⟩ ⟨rfl, dsc_X1_findConsignment⟩ ⟨Nat.le_of_ble_eq_true rfl, Nat.le_of_ble_eq_true rfl⟩ rfl B_obj rfl rfl (Nat.le_of_ble_eq_true rfl) dX1_free_2 ⟨Nat.le_of_ble_eq_true rfl, Nat.le_of_ble_eq_true rfl⟩ (fun E q => by obtain ⟨rfl, q2⟩ := q; exact fw_out X htab hlk (Nat.le_of_ble_eq_true rfl) (Nat.le_of_ble_eq_true rfl) (px3_IO (by simp [b_fre_k, q2])) rfl) (fun r0 u0 r_1 => ?_)
  obtain ⟨q_2, rfl⟩ := r_1
  obtain ⟨hx_u, hl_u⟩ := in_con hn15 q_2
  obtain ⟨htx, htl⟩ := hT (ix u) hl_u
  refine fw_astore (pc := 5) (lv' := [(5, .ref (ca (ix u) 0)), (0, .ref (ba 6)), (1, .int u), (2, .int v), (3, .int x), (4, .int y)]) X dX1_free_5 (by decide) rfl ?_
  refine fw_aload (pc := 7) X dX1_free_7 0 rfl ?_
  refine fw_iload_n (pc := 9) X dX1_free_9 rfl 3 rfl ?_
  refine fw_iload_n (pc := 10) X dX1_free_10 rfl 4 rfl ?_
  refine fw_iload (pc := 11) X dX1_free_11 5 rfl ?_
  refine fw_callS (pc := 13) (n := 4) X hE [.ref (ca (ix u) 0), .int v, .int x, .int y] (ct_X1_checkTaking hl (ix u) hl_u v x y) (by decide) gX1_free_X1_checkTaking rfl ⟨rfl, rfl⟩ dsc_X1_checkTaking ⟨Nat.le_of_ble_eq_true rfl, Nat.le_of_ble_eq_true rfl⟩ rfl rfl (Nat.le_of_ble_eq_true rfl) dX1_free_13 ⟨Nat.le_of_ble_eq_true rfl, Nat.le_of_ble_eq_true rfl⟩ (fun E q => by rcases q with ⟨rfl, q2⟩ | ⟨rfl, q2⟩ | ⟨rfl, q2⟩ <;> first | exact (b_tak_1 q2).elim | exact fw_out X htab hlk (Nat.le_of_ble_eq_true rfl) (Nat.le_of_ble_eq_true rfl) (px3_IA (by have q3 := b_tak_2 q2; simp [b_fre_k, q_2, q2, q3])) rfl | exact fw_out X htab hlk (Nat.le_of_ble_eq_true rfl) (Nat.le_of_ble_eq_true rfl) (px3_IS (by have q3 := b_tak_3 q2; simp [b_fre_k, q_2, q2, q3.1, q3.2])) rfl) (fun r0 u0 r_3 => ?_)
  obtain ⟨q_4, rfl⟩ := r_3
  obtain ⟨q_4g, q_4l⟩ := b_tak_0 q_4
  obtain ⟨q_4a, q_4b, q_4c⟩ := gd_true q_4g
  obtain ⟨hx_v, hl_v⟩ := in_ix (h := 5) (N := 6) (by decide) (by decide) q_4a
  obtain ⟨hx_x, hl_x⟩ := in_ix (h := 2) (N := 3) (by decide) (by decide) q_4b
  refine fw_aload_n (pc := 16) X dX1_free_16 rfl 1 rfl ?_
  refine fw_aload (pc := 17) X dX1_free_17 0 rfl ?_
  refine fw_iload_n (pc := 19) X dX1_free_19 rfl 3 rfl ?_
  refine fw_iload_n (pc := 20) X dX1_free_20 rfl 4 rfl ?_
  refine fw_iload (pc := 21) X dX1_free_21 5 rfl ?_
  refine fw_callV (pc := 23) (n := 4) (C := (RX1, TX1, 10)) (ci := 1) (q0 := 0) X hE [.ref (ca (ix u) 0), .int v, .int x, .int y] (ct_X1_takeOut hl (ix u) hl_u v x y (ix v) (ix x) hx_v (by omega) hx_x (by omega) (by exact hT)) (by decide) gX1_free_X1_takeOut rfl ⟨rfl, rfl⟩ ⟨rfl, dsc_X1_takeOut⟩ ⟨Nat.le_of_ble_eq_true rfl, Nat.le_of_ble_eq_true rfl⟩ rfl B_obj rfl rfl (Nat.le_of_ble_eq_true rfl) dX1_free_23 ⟨Nat.le_of_ble_eq_true rfl, Nat.le_of_ble_eq_true rfl⟩ (fun _ q => q.elim) (fun r0 u0 r_5 => ?_)
  subst r_5
  refine fw_istore (pc := 26) (lv' := [(6, .int (y * cg (ix u) 3 (ix v))), (5, .ref (ca (ix u) 0)), (0, .ref (ba 6)), (1, .int u), (2, .int v), (3, .int x), (4, .int y)]) X dX1_free_26 (by decide) rfl ?_
  refine fw_aload_n (pc := 28) X dX1_free_28 rfl 2 rfl ?_
  refine fw_get (pc := 29) (v := .ref (ba 4)) X iX1_free_X1 0 B_obj rfl 4 (by decide) kX1_free_22 rfl dX1_free_29 ?_
  refine fw_aload (pc := 32) X dX1_free_32 1 rfl ?_
  refine fw_get (pc := 34) (v := .int ((b_to_cf cf (ix u) y) (ix u) 0)) X iX1_free_X0 (4 * (ix u) + 0 + 7) (B_co (ix u) hl_u) rfl 0 (by decide) kX1_free_133 rfl dX1_free_34 ?_
  refine fw_dup2 (pc := 37) X dX1_free_37 rfl rfl ?_
  refine fw_iald (pc := 38) (n := 4) (cA := K 0) (f := bg 4) X 5 0 (B_g4 (bg := (va_up bg 3 (upd (bg 3) (ix (cf (ix u) 0)) (bg 3 (ix (cf (ix u) 0)) - y * cg (ix u) 3 (ix v)))))) rfl (ix (cf (ix u) 0)) (b_to_0.trans htx) (by omega) (by decide) dX1_free_38 ?_
  refine fw_iload (pc := 39) X dX1_free_39 0 rfl ?_
  refine fw_iadd (pc := 41) X dX1_free_41 ?_
  refine fw_iast (pc := 42) (n := 4) (cA := K 0) (f := bg 4) (ws' := BW K ba bf (va_up (va_up bg 3 (upd (bg 3) (ix (cf (ix u) 0)) (bg 3 (ix (cf (ix u) 0)) - y * cg (ix u) 3 (ix v)))) 4 (upd (bg 4) (ix (cf (ix u) 0)) ((bg 4 (ix (cf (ix u) 0))) + (y * cg (ix u) 3 (ix v))))) n ca (b_to_cf cf (ix u) y) (va_up cg (ix u) (va_up (cg (ix u)) 4 (upd (cg (ix u) 4) ((ix v) * 3 + (ix x)) (cg (ix u) 4 ((ix v) * 3 + (ix x)) - y))))) X 5 0 (B_g4 (bg := (va_up bg 3 (upd (bg 3) (ix (cf (ix u) 0)) (bg 3 (ix (cf (ix u) 0)) - y * cg (ix u) 3 (ix v)))))) rfl (ix (cf (ix u) 0)) (b_to_0.trans htx) (by omega) (by decide) dX1_free_42 (B_s4 _) ?_
  refine fw_iload (pc := 43) X dX1_free_43 0 rfl ?_
  exact fw_iret (pc := 45) X hr hlk (Nat.le_of_ble_eq_true rfl) (Nat.le_of_ble_eq_true rfl) dX1_free_45 () ⟨(by simp [b_fre_k, q_2, q_4, q_4g, q_4l]), (by first | rfl | simp [q_2, q_4, q_4g, q_4l])⟩ (by first | rfl | simp [q_2, q_4, q_4g, q_4l])
theorem dsc_X1_sendBack : fw_dsc yX1_sendBack 4 := by decide +kernel
set_option maxHeartbeats 4000000 in
set_option maxRecDepth 100000 in
theorem ct_X1_sendBack {l : Launch} (hl : l.stackTraces = false) {D : va_G} {K : Nat → ClassId} {ba : Nat → Nat} {bf : Nat → Int32} {bg : Nat → Nat → Int32} {n : Nat} {ca : Nat → Nat → Nat} {cf : Nat → Nat → Int32} {cg : Nat → Nat → Nat → Int32} (u v x y : Int32) (hn15 : n ≤ 15) (hT : ∀ k, k < n → cf k 0 = nI (ix (cf k 0)) ∧ ix (cf k 0) < 4) : fw_C (S := Unit) l yX1_sendBack wsX1_sendBack ({ frames := 9, cells := 5, slots := 30, locals := 155 }) 5 30 true [.ref (ba 6), .int u, .int v, .int x, .int y] D (tyS K) (BW K ba bf bg n ca cf cg) (fun r _ => b_fre_k n cg u v x y = 0 ∧ r = some (.int (y * cg (ix u) 3 (ix v)))) (fun _ => BW K ba bf (va_up bg 3 (upd (bg 3) (ix (cf (ix u) 0)) (bg 3 (ix (cf (ix u) 0)) - y * cg (ix u) 3 (ix v)))) n ca (b_to_cf cf (ix u) y) (va_up cg (ix u) (va_up (cg (ix u)) 4 (upd (cg (ix u) 4) (ix v * 3 + ix x) (cg (ix u) 4 (ix v * 3 + ix x) - y))))) (fun E => px3 E (b_fre_k n cg u v x y)) := by
  refine fw_met (maxL := 6) (ret := (some .int)) (by decide) rfl (Nat.le_of_ble_eq_true rfl) ?_
  intro p e s m args below meth c A X hr hlk hnm htab hE
  refine fw_lv (lv' := [(0, .ref (ba 6)), (1, .int u), (2, .int v), (3, .int x), (4, .int y)]) [0, 1, 2, 3, 4] rfl ?_
  refine fw_aload_n (pc := 0) X dX1_sendBack_0 rfl 0 rfl ?_
  refine fw_iload_n (pc := 1) X dX1_sendBack_1 rfl 1 rfl ?_
  refine fw_callV (pc := 2) (n := 1) (C := (RX1, TX1, 10)) (ci := 1) (q0 := 0) X hE [.int u] (ct_X1_findConsignment hl u hn15) (by decide) gX1_sendBack_X1_findConsignment rfl ⟨rfl, rfl⟩ ⟨rfl, dsc_X1_findConsignment⟩ ⟨Nat.le_of_ble_eq_true rfl, Nat.le_of_ble_eq_true rfl⟩ rfl B_obj rfl rfl (Nat.le_of_ble_eq_true rfl) dX1_sendBack_2 ⟨Nat.le_of_ble_eq_true rfl, Nat.le_of_ble_eq_true rfl⟩ (fun E q => by obtain ⟨rfl, q2⟩ := q; exact fw_out X htab hlk (Nat.le_of_ble_eq_true rfl) (Nat.le_of_ble_eq_true rfl) (px3_IO (by simp [b_fre_k, q2])) rfl) (fun r0 u0 r_1 => ?_)
  obtain ⟨q_2, rfl⟩ := r_1
  obtain ⟨hx_u, hl_u⟩ := in_con hn15 q_2
  obtain ⟨htx, htl⟩ := hT (ix u) hl_u
  refine fw_astore (pc := 5) (lv' := [(5, .ref (ca (ix u) 0)), (0, .ref (ba 6)), (1, .int u), (2, .int v), (3, .int x), (4, .int y)]) X dX1_sendBack_5 (by decide) rfl ?_
  refine fw_aload (pc := 7) X dX1_sendBack_7 0 rfl ?_
  refine fw_iload_n (pc := 9) X dX1_sendBack_9 rfl 3 rfl ?_
  refine fw_iload_n (pc := 10) X dX1_sendBack_10 rfl 4 rfl ?_
  refine fw_iload (pc := 11) X dX1_sendBack_11 5 rfl ?_
  refine fw_callS (pc := 13) (n := 4) X hE [.ref (ca (ix u) 0), .int v, .int x, .int y] (ct_X1_checkTaking hl (ix u) hl_u v x y) (by decide) gX1_sendBack_X1_checkTaking rfl ⟨rfl, rfl⟩ dsc_X1_checkTaking ⟨Nat.le_of_ble_eq_true rfl, Nat.le_of_ble_eq_true rfl⟩ rfl rfl (Nat.le_of_ble_eq_true rfl) dX1_sendBack_13 ⟨Nat.le_of_ble_eq_true rfl, Nat.le_of_ble_eq_true rfl⟩ (fun E q => by rcases q with ⟨rfl, q2⟩ | ⟨rfl, q2⟩ | ⟨rfl, q2⟩ <;> first | exact (b_tak_1 q2).elim | exact fw_out X htab hlk (Nat.le_of_ble_eq_true rfl) (Nat.le_of_ble_eq_true rfl) (px3_IA (by have q3 := b_tak_2 q2; simp [b_fre_k, q_2, q2, q3])) rfl | exact fw_out X htab hlk (Nat.le_of_ble_eq_true rfl) (Nat.le_of_ble_eq_true rfl) (px3_IS (by have q3 := b_tak_3 q2; simp [b_fre_k, q_2, q2, q3.1, q3.2])) rfl) (fun r0 u0 r_3 => ?_)
  obtain ⟨q_4, rfl⟩ := r_3
  obtain ⟨q_4g, q_4l⟩ := b_tak_0 q_4
  obtain ⟨q_4a, q_4b, q_4c⟩ := gd_true q_4g
  obtain ⟨hx_v, hl_v⟩ := in_ix (h := 5) (N := 6) (by decide) (by decide) q_4a
  obtain ⟨hx_x, hl_x⟩ := in_ix (h := 2) (N := 3) (by decide) (by decide) q_4b
  refine fw_aload_n (pc := 16) X dX1_sendBack_16 rfl 1 rfl ?_
  refine fw_aload (pc := 17) X dX1_sendBack_17 0 rfl ?_
  refine fw_iload_n (pc := 19) X dX1_sendBack_19 rfl 3 rfl ?_
  refine fw_iload_n (pc := 20) X dX1_sendBack_20 rfl 4 rfl ?_
  refine fw_iload (pc := 21) X dX1_sendBack_21 5 rfl ?_
  refine fw_callV (pc := 23) (n := 4) (C := (RX1, TX1, 10)) (ci := 1) (q0 := 0) X hE [.ref (ca (ix u) 0), .int v, .int x, .int y] (ct_X1_takeOut hl (ix u) hl_u v x y (ix v) (ix x) hx_v (by omega) hx_x (by omega) (by exact hT)) (by decide) gX1_sendBack_X1_takeOut rfl ⟨rfl, rfl⟩ ⟨rfl, dsc_X1_takeOut⟩ ⟨Nat.le_of_ble_eq_true rfl, Nat.le_of_ble_eq_true rfl⟩ rfl B_obj rfl rfl (Nat.le_of_ble_eq_true rfl) dX1_sendBack_23 ⟨Nat.le_of_ble_eq_true rfl, Nat.le_of_ble_eq_true rfl⟩ (fun _ q => q.elim) (fun r0 u0 r_5 => ?_)
  subst r_5
  exact fw_iret (pc := 26) X hr hlk (Nat.le_of_ble_eq_true rfl) (Nat.le_of_ble_eq_true rfl) dX1_sendBack_26 () ⟨(by simp [b_fre_k, q_2, q_4, q_4g, q_4l]), (by first | rfl | simp [q_2, q_4, q_4g, q_4l])⟩ (by first | rfl | simp [q_2, q_4, q_4g, q_4l])
theorem kX1_stored_27 : Cond.fieldLink RX1 27 (TX1 5).1 (TX1 5).2.1 (TX1 5).2.2.1 ∈ wsX1_stored := by decide +kernel
set_option maxRecDepth 20000 in
theorem iX1_stored_X1 : ∀ w ∈ wsX10, w ∈ wsX1_stored := by decide +kernel
theorem kX1_stored_155 : Cond.fieldLink RX1 155 (TX0 4).1 (TX0 4).2.1 (TX0 4).2.2.1 ∈ wsX1_stored := by decide +kernel
set_option maxRecDepth 20000 in
theorem iX1_stored_X0 : ∀ w ∈ wsX00, w ∈ wsX1_stored := by decide +kernel
set_option maxHeartbeats 4000000 in
set_option maxRecDepth 100000 in
theorem lp_X1_stored_24 {p : Program} {l : Launch} {e : Env} {s : State} {m : MethodId} {args : Array Value} {below : List Frame} {meth : Method} {c : Code} {D : va_G} {A : Nat → Prop} {Q : State → Prop} (hl : l.stackTraces = false) {K : Nat → ClassId} {ba : Nat → Nat} {bf : Nat → Int32} {bg : Nat → Nat → Int32} {n : Nat} {ca : Nat → Nat → Nat} {cf : Nat → Nat → Int32} {cg : Nat → Nat → Nat → Int32} (v x : Int32) (i1 j1 : Nat) (hv : v = nI i1) (hi1 : i1 < 6) (hx : x = nI j1) (hj1 : j1 < 3) (X : fw_X p s m args c D A 8 cX1_stored RX1 wsX1_stored (tyS K)) (hE : fw_E true A s) (kk : fw_W p l e ({ frames := 8, cells := 2, slots := 12, locals := 132 }) s m args below meth c D A 8 Q (BW K ba bf bg n ca cf cg) 2 12 [(0, .ref (ba 6)), (1, .int v), (2, .int x), (4, .ref (ba 5)), (5, .int 15), (3, .int (b_gs n cg i1 j1 15)), (6, .int (nI 15))] 63 []) : ∀ (d i : Nat), i + d = 15 → fw_W p l e ({ frames := 8, cells := 2, slots := 12, locals := 132 }) s m args below meth c D A 8 Q (BW K ba bf bg n ca cf cg) 2 12 [(0, .ref (ba 6)), (1, .int v), (2, .int x), (4, .ref (ba 5)), (5, .int 15), (3, .int (b_gs n cg i1 j1 i)), (6, .int (nI i))] 24 [] := by
  intro d
  induction d with
  | zero =>
    intro i hi
    obtain rfl : i = 15 := by omega
    refine fw_iload (pc := 24) X dX1_stored_24 6 rfl ?_
    refine fw_iload (pc := 26) X dX1_stored_26 4 rfl ?_
    refine fw_icmp_ge (pc := 28) (tgt := 63) X dX1_stored_28 (by decide) (fun _ => ?_) (fun q => absurd (by decide) q)
    exact kk
  | succ d ih =>
    intro i hi
    refine fw_iload (pc := 24) X dX1_stored_24 6 rfl ?_
    refine fw_iload (pc := 26) X dX1_stored_26 4 rfl ?_
    refine fw_icmp_ge (pc := 28) (tgt := 63) X dX1_stored_28 (by decide) (fun q => absurd q (nI_ge (a := i) (b := 15) (by omega) (by omega))) (fun _ => ?_)
    refine fw_aload (pc := 31) X dX1_stored_31 3 rfl ?_
    refine fw_iload (pc := 33) X dX1_stored_33 6 rfl ?_
    refine fw_aldq (pc := 35) (f := CR ca n) X 6 3 B_g5 rfl i rfl (by omega) (by decide) dX1_stored_35 ?_
    by_cases c_1 : i < n
    · refine fw_st (st' := .ref (ca i 0) :: _) (congrArg (fun z => va_rf z :: _) (if_pos c_1)) ?_
      refine fw_astore (pc := 36) (lv' := [(7, .ref (ca i 0)), (0, .ref (ba 6)), (1, .int v), (2, .int x), (4, .ref (ba 5)), (5, .int 15), (3, .int (b_gs n cg i1 j1 i)), (6, .int (nI i))]) X dX1_stored_36 (by decide) rfl ?_
      refine fw_aload (pc := 38) X dX1_stored_38 0 rfl ?_
      refine fw_ifnull (pc := 40) X dX1_stored_40 ?_
      refine fw_iload_n (pc := 43) X dX1_stored_43 rfl 6 rfl ?_
      refine fw_aload (pc := 44) X dX1_stored_44 0 rfl ?_
      refine fw_get (pc := 46) (v := .ref (ca i 4)) X iX1_stored_X0 (4 * i + 0 + 7) (B_co i c_1) rfl 4 (by decide) kX1_stored_155 rfl dX1_stored_46 ?_
      refine fw_iload_n (pc := 49) X dX1_stored_49 rfl 2 rfl ?_
      refine fw_iload_n (pc := 50) X dX1_stored_50 rfl 3 rfl ?_
      refine fw_callS (pc := 51) (n := 2) X hE [.int v, .int x] (ct_X1_placeOf hl v x) (by decide) gX1_stored_X1_placeOf rfl ⟨rfl, rfl⟩ dsc_X1_placeOf ⟨Nat.le_of_ble_eq_true rfl, Nat.le_of_ble_eq_true rfl⟩ rfl rfl (Nat.le_of_ble_eq_true rfl) dX1_stored_51 ⟨Nat.le_of_ble_eq_true rfl, Nat.le_of_ble_eq_true rfl⟩ (fun _ q => q.elim) (fun r0 u0 r_2 => ?_)
      subst r_2
      refine fw_iald (pc := 54) (n := 18) (cA := K 0) (f := cg i 4) X (4 * i + 3 + 7) 0 (B_c4 (cg := cg) i c_1) rfl (i1 * 3 + j1) (nf_add (nf_mul hv (show (3 : Int32) = nI 3 from rfl)) hx) (by omega) (by decide) dX1_stored_54 ?_
      refine fw_iadd (pc := 55) X dX1_stored_55 ?_
      refine fw_istore_n (pc := 56) (lv' := [(3, .int ((b_gs n cg i1 j1 i) + (cg i 4 (i1 * 3 + j1)))), (7, .ref (ca i 0)), (0, .ref (ba 6)), (1, .int v), (2, .int x), (4, .ref (ba 5)), (5, .int 15), (6, .int (nI i))]) X dX1_stored_56 rfl (by decide) rfl ?_
      refine fw_iinc (pc := 57) (v := nI (i + 1)) (lv' := [(6, .int (nI (i + 1))), (3, .int ((b_gs n cg i1 j1 i) + (cg i 4 (i1 * 3 + j1)))), (7, .ref (ca i 0)), (0, .ref (ba 6)), (1, .int v), (2, .int x), (4, .ref (ba 5)), (5, .int 15)]) (j := 7) X dX1_stored_57 rfl (nI_1 _) (by decide) rfl ?_
      refine fw_goto (pc := 60) (tgt := 24) X dX1_stored_60 (by decide) ?_
      refine fw_lv (lv' := [(0, .ref (ba 6)), (1, .int v), (2, .int x), (4, .ref (ba 5)), (5, .int 15), (3, .int ((b_gs n cg i1 j1 i) + (cg i 4 (i1 * 3 + j1)))), (6, .int (nI (i + 1)))]) [3, 4, 5, 6, 7, 1, 0] rfl ?_
      refine fw_lve (lv2 := [(0, .ref (ba 6)), (1, .int v), (2, .int x), (4, .ref (ba 5)), (5, .int 15), (3, .int (b_gs n cg i1 j1 ((i + 1)))), (6, .int (nI ((i + 1))))]) (by rw [show (b_gs n cg i1 j1 i) + (cg i 4 (i1 * 3 + j1)) = b_gs n cg i1 j1 ((i + 1)) from (by simp [b_gs, c_1])]) ?_
      exact ih (i + 1) (by omega)
    · refine fw_st (st' := .null :: _) (congrArg (fun z => va_rf z :: _) (if_neg c_1)) ?_
      refine fw_astoreN (pc := 36) (lv' := [(7, .null), (0, .ref (ba 6)), (1, .int v), (2, .int x), (4, .ref (ba 5)), (5, .int 15), (3, .int (b_gs n cg i1 j1 i)), (6, .int (nI i))]) X dX1_stored_36 (by decide) rfl ?_
      refine fw_aloadN (pc := 38) X dX1_stored_38 0 rfl ?_
      refine fw_ifnullN (pc := 40) (tgt := 57) X dX1_stored_40 (by decide) ?_
      refine fw_iinc (pc := 57) (v := nI (i + 1)) (lv' := [(6, .int (nI (i + 1))), (7, .null), (0, .ref (ba 6)), (1, .int v), (2, .int x), (4, .ref (ba 5)), (5, .int 15), (3, .int (b_gs n cg i1 j1 i))]) (j := 7) X dX1_stored_57 rfl (nI_1 _) (by decide) rfl ?_
      refine fw_goto (pc := 60) (tgt := 24) X dX1_stored_60 (by decide) ?_
      refine fw_lv (lv' := [(0, .ref (ba 6)), (1, .int v), (2, .int x), (4, .ref (ba 5)), (5, .int 15), (3, .int (b_gs n cg i1 j1 i)), (6, .int (nI (i + 1)))]) [2, 3, 4, 5, 6, 7, 0] rfl ?_
      refine fw_lve (lv2 := [(0, .ref (ba 6)), (1, .int v), (2, .int x), (4, .ref (ba 5)), (5, .int 15), (3, .int (b_gs n cg i1 j1 ((i + 1)))), (6, .int (nI ((i + 1))))]) (by rw [show b_gs n cg i1 j1 i = b_gs n cg i1 j1 ((i + 1)) from (by simp [b_gs, c_1])]) ?_
      exact ih (i + 1) (by omega)
theorem dsc_X1_stored : fw_dsc yX1_stored 2 := by decide +kernel
set_option maxHeartbeats 4000000 in
set_option maxRecDepth 100000 in
theorem ct_X1_stored {l : Launch} (hl : l.stackTraces = false) {D : va_G} {K : Nat → ClassId} {ba : Nat → Nat} {bf : Nat → Int32} {bg : Nat → Nat → Int32} {n : Nat} {ca : Nat → Nat → Nat} {cf : Nat → Nat → Int32} {cg : Nat → Nat → Nat → Int32} (v x : Int32) : fw_C (S := Unit) l yX1_stored wsX1_stored ({ frames := 8, cells := 2, slots := 12, locals := 132 }) 2 12 true [.ref (ba 6), .int v, .int x] D (tyS K) (BW K ba bf bg n ca cf cg) (fun r _ => b_sto_k v x = 0 ∧ r = some (.int (b_gs n cg (ix v) (ix x) 15))) (fun _ => BW K ba bf bg n ca cf cg) (fun E => pxa E (b_sto_k v x)) := by
  refine fw_met (maxL := 8) (ret := (some .int)) (by decide) rfl (Nat.le_of_ble_eq_true rfl) ?_
  intro p e s m args below meth c A X hr hlk hnm htab hE
  refine fw_lv (lv' := [(0, .ref (ba 6)), (1, .int v), (2, .int x)]) [0, 1, 2] rfl ?_
  refine fw_iload_n (pc := 0) X dX1_stored_0 rfl 1 rfl ?_
  refine fw_callS (pc := 1) (n := 1) X hE [.int v] (ct_X1_checkSort hl v) (by decide) gX1_stored_X1_checkSort rfl ⟨rfl, rfl⟩ dsc_X1_checkSort ⟨Nat.le_of_ble_eq_true rfl, Nat.le_of_ble_eq_true rfl⟩ rfl rfl (Nat.le_of_ble_eq_true rfl) dX1_stored_1 ⟨Nat.le_of_ble_eq_true rfl, Nat.le_of_ble_eq_true rfl⟩ (fun E q => by obtain ⟨rfl, q2⟩ := q; exact fw_out X htab hlk (Nat.le_of_ble_eq_true rfl) (Nat.le_of_ble_eq_true rfl) (pxa_IA (by simp [b_sto_k, q2])) rfl) (fun r0 u0 r_3 => ?_)
  obtain ⟨q_4, rfl⟩ := r_3
  obtain ⟨hx_v, hl_v⟩ := in_ix (h := 5) (N := 6) (by decide) (by decide) q_4
  refine fw_iload_n (pc := 4) X dX1_stored_4 rfl 2 rfl ?_
  refine fw_callS (pc := 5) (n := 1) X hE [.int x] (ct_X1_checkStore hl x) (by decide) gX1_stored_X1_checkStore rfl ⟨rfl, rfl⟩ dsc_X1_checkStore ⟨Nat.le_of_ble_eq_true rfl, Nat.le_of_ble_eq_true rfl⟩ rfl rfl (Nat.le_of_ble_eq_true rfl) dX1_stored_5 ⟨Nat.le_of_ble_eq_true rfl, Nat.le_of_ble_eq_true rfl⟩ (fun E q => by obtain ⟨rfl, q2⟩ := q; exact fw_out X htab hlk (Nat.le_of_ble_eq_true rfl) (Nat.le_of_ble_eq_true rfl) (pxa_IA (by simp [b_sto_k, q_4, q2])) rfl) (fun r0 u0 r_5 => ?_)
  obtain ⟨q_6, rfl⟩ := r_5
  obtain ⟨hx_x, hl_x⟩ := in_ix (h := 2) (N := 3) (by decide) (by decide) q_6
  refine fw_iconst (pc := 8) (v := 0) X dX1_stored_8 (by decide) ?_
  refine fw_istore_n (pc := 9) (lv' := [(3, .int 0), (0, .ref (ba 6)), (1, .int v), (2, .int x)]) X dX1_stored_9 rfl (by decide) rfl ?_
  refine fw_aload_n (pc := 10) X dX1_stored_10 rfl 1 rfl ?_
  refine fw_get (pc := 11) (v := .ref (ba 5)) X iX1_stored_X1 0 B_obj rfl 5 (by decide) kX1_stored_27 rfl dX1_stored_11 ?_
  refine fw_astore (pc := 14) (lv' := [(4, .ref (ba 5)), (3, .int 0), (0, .ref (ba 6)), (1, .int v), (2, .int x)]) X dX1_stored_14 (by decide) rfl ?_
  refine fw_aload (pc := 16) X dX1_stored_16 0 rfl ?_
  refine fw_alen (pc := 18) (v := 15) X 6 3 B_g5 rfl rfl dX1_stored_18 ?_
  refine fw_istore (pc := 19) (lv' := [(5, .int 15), (4, .ref (ba 5)), (3, .int 0), (0, .ref (ba 6)), (1, .int v), (2, .int x)]) X dX1_stored_19 (by decide) rfl ?_
  refine fw_iconst (pc := 21) (v := 0) X dX1_stored_21 (by decide) ?_
  refine fw_istore (pc := 22) (lv' := [(6, .int 0), (5, .int 15), (4, .ref (ba 5)), (3, .int 0), (0, .ref (ba 6)), (1, .int v), (2, .int x)]) X dX1_stored_22 (by decide) rfl ?_
  refine fw_lv (lv' := [(0, .ref (ba 6)), (1, .int v), (2, .int x), (4, .ref (ba 5)), (5, .int 15), (3, .int (b_gs n cg (ix v) (ix x) 0)), (6, .int (nI 0))]) [4, 5, 6, 2, 1, 3, 0] rfl ?_
  refine lp_X1_stored_24 hl v x (ix v) (ix x) hx_v hl_v hx_x hl_x X hE ?_ 15 0 (by omega)
  refine fw_lv (lv' := [(0, .ref (ba 6)), (1, .int v), (2, .int x), (4, .ref (ba 5)), (5, .int 15), (3, .int (b_gs n cg (ix v) (ix x) 15)), (6, .int (nI 15))]) [0, 1, 2, 3, 4, 5, 6] rfl ?_
  refine fw_iload_n (pc := 63) X dX1_stored_63 rfl 5 rfl ?_
  exact fw_iret (pc := 64) X hr hlk (Nat.le_of_ble_eq_true rfl) (Nat.le_of_ble_eq_true rfl) dX1_stored_64 () ⟨(by simp [b_sto_k, q_4, q_6]), (by first | rfl | simp [q_4, q_6])⟩ (by first | rfl | simp [q_4, q_6])
