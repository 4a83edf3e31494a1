theorem ann_lt {F : Nat → Int32} {n : Nat} (hn : F 19 = nI n) (hn15 : n ≤ 15) (h : ¬ F 19 = 15) : n < 15 := by
  rcases Nat.lt_or_ge n 15 with q | q
  · exact q
  · exact absurd (by rw [hn, show n = 15 by omega]; rfl) h
theorem kX2_setSort_7 : Cond.fieldLink RX2 7 (TX2 1).1 (TX2 1).2.1 (TX2 1).2.2.1 ∈ wsX2_setSort := by decide +kernel
set_option maxRecDepth 20000 in
theorem iX2_setSort_X2 : ∀ w ∈ wsX20, w ∈ wsX2_setSort := by decide +kernel
theorem kX2_setSort_13 : Cond.fieldLink RX2 13 (TX2 2).1 (TX2 2).2.1 (TX2 2).2.2.1 ∈ wsX2_setSort := by decide +kernel
theorem dsc_X2_setSort : fw_dsc yX2_setSort 3 := by decide +kernel
set_option maxHeartbeats 4000000 in
set_option maxRecDepth 100000 in
theorem ct_X2_setSort {l : Launch} {D : va_G} {K : Nat → ClassId} {a : Nat → Nat} {F : Nat → Int32} {G : Nat → Nat → Int32} (v x y : Int32) : fw_C (S := Unit) l yX2_setSort wsX2_setSort ({ frames := 2, cells := 0, slots := 0, locals := 42 }) 0 0 false [.ref (a 0), .int v, .int x, .int y] D (tyS K) (MW K a F G) (fun r _ => r = none) (fun _ => MW K a (upd F 0 (m_setSort_k v x y)) (m_setSort_G G v x y)) (fun _ => False) := by
  refine fw_met (maxL := 4) (ret := none) (by decide) rfl (Nat.le_of_ble_eq_true rfl) ?_
  intro p e s m args below meth c A X hr hlk hnm htab hE
  refine fw_lv (lv' := [(0, .ref (a 0)), (1, .int v), (2, .int x), (3, .int y)]) [0, 1, 2, 3] rfl ?_
  refine fw_aload_n (pc := 0) X dX2_setSort_0 rfl 0 rfl ?_
  refine fw_iload_n (pc := 1) X dX2_setSort_1 rfl 1 rfl ?_
  refine fw_callS (pc := 2) (n := 1) X hE [.int v] (ct_X2_isSort v) (by decide) gX2_setSort_X2_isSort rfl ⟨rfl, rfl⟩ dsc_X2_isSort ⟨Nat.le_of_ble_eq_true rfl, Nat.le_of_ble_eq_true rfl⟩ rfl rfl (Nat.le_of_ble_eq_true rfl) dX2_setSort_2 ⟨Nat.le_of_ble_eq_true rfl, Nat.le_of_ble_eq_true rfl⟩ (fun _ q => q.elim) (fun r0 u0 r_1 => ?_)
  subst r_1
  show fw_W _ _ _ _ _ _ _ _ _ _ _ _ _ _ _ _ _ _ _ (.int (b2i (m_in v 0 5 = true)) :: _)
  by_cases c_2 : m_in v 0 5 = true
  · obtain ⟨hx_v, hl_v⟩ := in_ix (h := 5) (N := 6) (by decide) (by decide) c_2
    refine fw_iv (y := 1) (if_pos c_2) ?_
    refine fw_if_eq (pc := 5) (tgt := 32) X dX2_setSort_5 (by decide) (fun q => absurd q (by decide)) (fun _ => ?_)
    refine fw_iload_n (pc := 8) X dX2_setSort_8 rfl 2 rfl ?_
    refine fw_iconst (pc := 9) (v := 0) X dX2_setSort_9 (by decide) ?_
    refine fw_bipush (pc := 10) (v := 50) X dX2_setSort_10 (by decide) ?_
    refine fw_callS (pc := 12) (n := 3) X hE [.int x, .int 0, .int 50] (ct_X2_isIn x 0 50) (by decide) gX2_setSort_X2_isIn rfl ⟨rfl, rfl⟩ dsc_X2_isIn ⟨Nat.le_of_ble_eq_true rfl, Nat.le_of_ble_eq_true rfl⟩ rfl rfl (Nat.le_of_ble_eq_true rfl) dX2_setSort_12 ⟨Nat.le_of_ble_eq_true rfl, Nat.le_of_ble_eq_true rfl⟩ (fun _ q => q.elim) (fun r0 u0 r_3 => ?_)
    subst r_3
    show fw_W _ _ _ _ _ _ _ _ _ _ _ _ _ _ _ _ _ _ _ (.int (b2i (m_in x 0 50 = true)) :: _)
    by_cases c_4 : m_in x 0 50 = true
    · obtain ⟨hx_x, hl_x⟩ := in_ix (h := 50) (N := 51) (by decide) (by decide) c_4
      refine fw_iv (y := 1) (if_pos c_4) ?_
      refine fw_if_eq (pc := 15) (tgt := 32) X dX2_setSort_15 (by decide) (fun q => absurd q (by decide)) (fun _ => ?_)
      refine fw_iload_n (pc := 18) X dX2_setSort_18 rfl 3 rfl ?_
      refine fw_iconst (pc := 19) (v := 0) X dX2_setSort_19 (by decide) ?_
      refine fw_bipush (pc := 20) (v := 20) X dX2_setSort_20 (by decide) ?_
      refine fw_callS (pc := 22) (n := 3) X hE [.int y, .int 0, .int 20] (ct_X2_isIn y 0 20) (by decide) gX2_setSort_X2_isIn rfl ⟨rfl, rfl⟩ dsc_X2_isIn ⟨Nat.le_of_ble_eq_true rfl, Nat.le_of_ble_eq_true rfl⟩ rfl rfl (Nat.le_of_ble_eq_true rfl) dX2_setSort_22 ⟨Nat.le_of_ble_eq_true rfl, Nat.le_of_ble_eq_true rfl⟩ (fun _ q => q.elim) (fun r0 u0 r_5 => ?_)
      subst r_5
      show fw_W _ _ _ _ _ _ _ _ _ _ _ _ _ _ _ _ _ _ _ (.int (b2i (m_in y 0 20 = true)) :: _)
      by_cases c_6 : m_in y 0 20 = true
      · obtain ⟨hx_y, hl_y⟩ := in_ix (h := 20) (N := 21) (by decide) (by decide) c_6
        refine fw_iv (y := 1) (if_pos c_6) ?_
        refine fw_if_eq (pc := 25) (tgt := 32) X dX2_setSort_25 (by decide) (fun q => absurd q (by decide)) (fun _ => ?_)
        refine fw_iconst (pc := 28) (v := 0) X dX2_setSort_28 (by decide) ?_
        refine fw_goto (pc := 29) (tgt := 33) X dX2_setSort_29 (by decide) ?_
        refine fw_callV (pc := 33) (n := 1) (C := (RX2, TX2, 21)) (ci := 2) (q0 := 0) X hE [.int 0] (ct_X2_isFine 0) (by decide) gX2_setSort_X2_isFine rfl ⟨rfl, rfl⟩ ⟨rfl, dsc_X2_isFine⟩ ⟨Nat.le_of_ble_eq_true rfl, Nat.le_of_ble_eq_true rfl⟩ rfl M_obj rfl rfl (Nat.le_of_ble_eq_true rfl) dX2_setSort_33 ⟨Nat.le_of_ble_eq_true rfl, Nat.le_of_ble_eq_true rfl⟩ (fun _ q => q.elim) (fun r0 u0 r_7 => ?_)
        subst r_7
        show fw_W _ _ _ _ _ _ _ _ _ _ _ _ _ _ _ _ _ _ _ (.int (b2i (0 = 0)) :: _)
        refine fw_iv (y := 1) (if_pos (by decide)) ?_
        refine fw_if_eq (pc := 36) (tgt := 53) X dX2_setSort_36 (by decide) (fun q => absurd q (by decide)) (fun _ => ?_)
        refine fw_aload_n (pc := 39) X dX2_setSort_39 rfl 0 rfl ?_
        refine fw_get (pc := 40) (v := .ref (a 1)) X iX2_setSort_X2 0 M_obj rfl 1 (by decide) kX2_setSort_7 rfl dX2_setSort_40 ?_
        refine fw_iload_n (pc := 43) X dX2_setSort_43 rfl 1 rfl ?_
        refine fw_iload_n (pc := 44) X dX2_setSort_44 rfl 2 rfl ?_
        refine fw_iast (pc := 45) (f := G 1) (ws' := MW K a (upd F 0 0) (va_up G 1 (upd (G 1) (ix v) x))) X 1 0 (M_g1 (G := G)) rfl (ix v) hx_v (by omega) (by decide) dX2_setSort_45 (M_s1 _) ?_
        refine fw_aload_n (pc := 46) X dX2_setSort_46 rfl 0 rfl ?_
        refine fw_get (pc := 47) (v := .ref (a 2)) X iX2_setSort_X2 0 M_obj rfl 2 (by decide) kX2_setSort_13 rfl dX2_setSort_47 ?_
        refine fw_iload_n (pc := 50) X dX2_setSort_50 rfl 1 rfl ?_
        refine fw_iload_n (pc := 51) X dX2_setSort_51 rfl 3 rfl ?_
        refine fw_iast (pc := 52) (f := G 2) (ws' := MW K a (upd F 0 0) (va_up (va_up G 1 (upd (G 1) (ix v) x)) 2 (upd (G 2) (ix v) y))) X 2 0 (M_g2 (G := (va_up G 1 (upd (G 1) (ix v) x)))) rfl (ix v) hx_v (by omega) (by decide) dX2_setSort_52 (M_s2 _) ?_
        exact fw_vret (pc := 53) X hr hlk (Nat.le_of_ble_eq_true rfl) (Nat.le_of_ble_eq_true rfl) dX2_setSort_53 () rfl (by simp [m_setSort_G, m_setSort_k, c_2, c_4, c_6]; try rfl)
      · refine fw_iv (y := 0) (if_neg c_6) ?_
        refine fw_if_eq (pc := 25) (tgt := 32) X dX2_setSort_25 (by decide) (fun _ => ?_) (fun q => absurd (by decide) q)
        refine fw_iconst (pc := 32) (v := 1) X dX2_setSort_32 (by decide) ?_
        refine fw_callV (pc := 33) (n := 1) (C := (RX2, TX2, 21)) (ci := 2) (q0 := 0) X hE [.int 1] (ct_X2_isFine 1) (by decide) gX2_setSort_X2_isFine rfl ⟨rfl, rfl⟩ ⟨rfl, dsc_X2_isFine⟩ ⟨Nat.le_of_ble_eq_true rfl, Nat.le_of_ble_eq_true rfl⟩ rfl M_obj rfl rfl (Nat.le_of_ble_eq_true rfl) dX2_setSort_33 ⟨Nat.le_of_ble_eq_true rfl, Nat.le_of_ble_eq_true rfl⟩ (fun _ q => q.elim) (fun r0 u0 r_8 => ?_)
        subst r_8
        show fw_W _ _ _ _ _ _ _ _ _ _ _ _ _ _ _ _ _ _ _ (.int (b2i (1 = 0)) :: _)
        refine fw_iv (y := 0) (if_neg (by decide)) ?_
        refine fw_if_eq (pc := 36) (tgt := 53) X dX2_setSort_36 (by decide) (fun _ => ?_) (fun q => absurd (by decide) q)
        exact fw_vret (pc := 53) X hr hlk (Nat.le_of_ble_eq_true rfl) (Nat.le_of_ble_eq_true rfl) dX2_setSort_53 () rfl (by simp [m_setSort_G, m_setSort_k, c_2, c_4, c_6]; try rfl)
    · refine fw_iv (y := 0) (if_neg c_4) ?_
      refine fw_if_eq (pc := 15) (tgt := 32) X dX2_setSort_15 (by decide) (fun _ => ?_) (fun q => absurd (by decide) q)
      refine fw_iconst (pc := 32) (v := 1) X dX2_setSort_32 (by decide) ?_
      refine fw_callV (pc := 33) (n := 1) (C := (RX2, TX2, 21)) (ci := 2) (q0 := 0) X hE [.int 1] (ct_X2_isFine 1) (by decide) gX2_setSort_X2_isFine rfl ⟨rfl, rfl⟩ ⟨rfl, dsc_X2_isFine⟩ ⟨Nat.le_of_ble_eq_true rfl, Nat.le_of_ble_eq_true rfl⟩ rfl M_obj rfl rfl (Nat.le_of_ble_eq_true rfl) dX2_setSort_33 ⟨Nat.le_of_ble_eq_true rfl, Nat.le_of_ble_eq_true rfl⟩ (fun _ q => q.elim) (fun r0 u0 r_9 => ?_)
      subst r_9
      show fw_W _ _ _ _ _ _ _ _ _ _ _ _ _ _ _ _ _ _ _ (.int (b2i (1 = 0)) :: _)
      refine fw_iv (y := 0) (if_neg (by decide)) ?_
      refine fw_if_eq (pc := 36) (tgt := 53) X dX2_setSort_36 (by decide) (fun _ => ?_) (fun q => absurd (by decide) q)
      exact fw_vret (pc := 53) X hr hlk (Nat.le_of_ble_eq_true rfl) (Nat.le_of_ble_eq_true rfl) dX2_setSort_53 () rfl (by simp [m_setSort_G, m_setSort_k, c_2, c_4]; try rfl)
  · refine fw_iv (y := 0) (if_neg c_2) ?_
    refine fw_if_eq (pc := 5) (tgt := 32) X dX2_setSort_5 (by decide) (fun _ => ?_) (fun q => absurd (by decide) q)
    refine fw_iconst (pc := 32) (v := 1) X dX2_setSort_32 (by decide) ?_
    refine fw_callV (pc := 33) (n := 1) (C := (RX2, TX2, 21)) (ci := 2) (q0 := 0) X hE [.int 1] (ct_X2_isFine 1) (by decide) gX2_setSort_X2_isFine rfl ⟨rfl, rfl⟩ ⟨rfl, dsc_X2_isFine⟩ ⟨Nat.le_of_ble_eq_true rfl, Nat.le_of_ble_eq_true rfl⟩ rfl M_obj rfl rfl (Nat.le_of_ble_eq_true rfl) dX2_setSort_33 ⟨Nat.le_of_ble_eq_true rfl, Nat.le_of_ble_eq_true rfl⟩ (fun _ q => q.elim) (fun r0 u0 r_10 => ?_)
    subst r_10
    show fw_W _ _ _ _ _ _ _ _ _ _ _ _ _ _ _ _ _ _ _ (.int (b2i (1 = 0)) :: _)
    refine fw_iv (y := 0) (if_neg (by decide)) ?_
    refine fw_if_eq (pc := 36) (tgt := 53) X dX2_setSort_36 (by decide) (fun _ => ?_) (fun q => absurd (by decide) q)
    exact fw_vret (pc := 53) X hr hlk (Nat.le_of_ble_eq_true rfl) (Nat.le_of_ble_eq_true rfl) dX2_setSort_53 () rfl (by simp [m_setSort_G, m_setSort_k, c_2]; try rfl)
theorem kX2_setRisk_16 : Cond.fieldLink RX2 16 (TX2 3).1 (TX2 3).2.1 (TX2 3).2.2.1 ∈ wsX2_setRisk := by decide +kernel
theorem kX2_setRisk_80 : Cond.fieldLink RX2 80 (TX2 4).1 (TX2 4).2.1 (TX2 4).2.2.1 ∈ wsX2_setRisk := by decide +kernel
theorem kX2_setRisk_70 : Cond.fieldLink RX2 70 (TX2 19).1 (TX2 19).2.1 (TX2 19).2.2.1 ∈ wsX2_setRisk := by decide +kernel
set_option maxRecDepth 20000 in
theorem iX2_setRisk_X2 : ∀ w ∈ wsX20, w ∈ wsX2_setRisk := by decide +kernel
set_option maxHeartbeats 4000000 in
set_option maxRecDepth 100000 in
theorem lp_X2_setRisk_50 {p : Program} {l : Launch} {e : Env}  {s : State} {m : MethodId} {args : Array Value} {below : List Frame} {meth : Method} {c : Code} {D : va_G} {A : Nat → Prop} {Q : State → Prop}  {K : Nat → ClassId} {a : Nat → Nat} {F : Nat → Int32} {G : Nat → Nat → Int32} (v x : Int32) {n : Nat} (hn : F 19 = nI n) (hn15 : n ≤ 15) (X : fw_X p s m args c D A 5 cX2_setRisk RX2 wsX2_setRisk (tyS K)) (hE : fw_E false A s) (kk : fw_W p l e ({ frames := 2, cells := 0, slots := 0, locals := 44 }) s m args below meth c D A 5 Q (MW K a F G) 0 0 [(0, .ref (a 0)), (1, .int v), (2, .int x), (3, .int (m_cn F G n)), (4, .int (nI n))] 82 []) : ∀ (d i : Nat), i + d = n → fw_W p l e ({ frames := 2, cells := 0, slots := 0, locals := 44 }) s m args below meth c D A 5 Q (MW K a F G) 0 0 [(0, .ref (a 0)), (1, .int v), (2, .int x), (3, .int (m_cn F G i)), (4, .int (nI i))] 50 [] := by
  intro d
  induction d with
  | zero =>
    intro i hi
    have hiN : i = n := by omega
    subst hiN
    refine fw_iload (pc := 50) X dX2_setRisk_50 4 rfl ?_
    refine fw_aload_n (pc := 52) X dX2_setRisk_52 rfl 0 rfl ?_
    refine fw_get (pc := 53) (v := .int (F 19)) X iX2_setRisk_X2 0 M_obj rfl 19 (by decide) kX2_setRisk_70 rfl dX2_setRisk_53 ?_
    refine fw_icmp_ge (pc := 56) (tgt := 82) X dX2_setRisk_56 (by decide) (fun _ => ?_) (fun q => absurd (by rw [hn]; exact Int32.le_refl _) q)
    exact kk
  | succ d ih =>
    intro i hi
    refine fw_iload (pc := 50) X dX2_setRisk_50 4 rfl ?_
    refine fw_aload_n (pc := 52) X dX2_setRisk_52 rfl 0 rfl ?_
    refine fw_get (pc := 53) (v := .int (F 19)) X iX2_setRisk_X2 0 M_obj rfl 19 (by decide) kX2_setRisk_70 rfl dX2_setRisk_53 ?_
    refine fw_icmp_ge (pc := 56) (tgt := 82) X dX2_setRisk_56 (by decide) (fun q => absurd q (by rw [hn]; exact nI_ge (by omega) (by omega))) (fun _ => ?_)
    refine fw_iload_n (pc := 59) X dX2_setRisk_59 rfl 3 rfl ?_
    refine fw_aload_n (pc := 60) X dX2_setRisk_60 rfl 0 rfl ?_
    refine fw_iload (pc := 61) X dX2_setRisk_61 4 rfl ?_
    refine fw_callV (pc := 63) (n := 1) (C := (RX2, TX2, 21)) (ci := 2) (q0 := 0) X hE [.int (nI i)] (ct_X2_mustNow (nI i) i rfl (by omega)) (by decide) gX2_setRisk_X2_mustNow rfl ⟨rfl, rfl⟩ ⟨rfl, dsc_X2_mustNow⟩ ⟨Nat.le_of_ble_eq_true rfl, Nat.le_of_ble_eq_true rfl⟩ rfl M_obj rfl rfl (Nat.le_of_ble_eq_true rfl) dX2_setRisk_63 ⟨Nat.le_of_ble_eq_true rfl, Nat.le_of_ble_eq_true rfl⟩ (fun _ q => q.elim) (fun r0 u0 r_1 => ?_)
    subst r_1
    show fw_W _ _ _ _ _ _ _ _ _ _ _ _ _ _ _ _ _ _ _ (.int (b2i (m_must F G i = true)) :: _)
    by_cases c_2 : m_must F G i = true
    · refine fw_iv (y := 1) (if_pos c_2) ?_
      refine fw_if_eq (pc := 66) (tgt := 73) X dX2_setRisk_66 (by decide) (fun q => absurd q (by decide)) (fun _ => ?_)
      refine fw_iconst (pc := 69) (v := 1) X dX2_setRisk_69 (by decide) ?_
      refine fw_goto (pc := 70) (tgt := 74) X dX2_setRisk_70 (by decide) ?_
      refine fw_iadd (pc := 74) X dX2_setRisk_74 ?_
      refine fw_iv (show (m_cn F G i) + 1 = m_cn F G ((i + 1)) from (by simp [m_cn, c_2])) ?_
      refine fw_istore_n (pc := 75) (lv' := [(3, .int (m_cn F G ((i + 1)))), (0, .ref (a 0)), (1, .int v), (2, .int x), (4, .int (nI i))]) X dX2_setRisk_75 rfl (by decide) rfl ?_
      refine fw_iinc (pc := 76) (v := nI (i + 1)) (lv' := [(4, .int (nI (i + 1))), (3, .int (m_cn F G ((i + 1)))), (0, .ref (a 0)), (1, .int v), (2, .int x)]) (j := 4) X dX2_setRisk_76 rfl (nI_1 _) (by decide) rfl ?_
      refine fw_goto (pc := 79) (tgt := 50) X dX2_setRisk_79 (by decide) ?_
      refine fw_lv (lv' := [(0, .ref (a 0)), (1, .int v), (2, .int x), (3, .int (m_cn F G ((i + 1)))), (4, .int (nI ((i + 1))))]) [2, 3, 4, 1, 0] rfl ?_
      exact ih (i + 1) (by omega)
    · refine fw_iv (y := 0) (if_neg c_2) ?_
      refine fw_if_eq (pc := 66) (tgt := 73) X dX2_setRisk_66 (by decide) (fun _ => ?_) (fun q => absurd (by decide) q)
      refine fw_iconst (pc := 73) (v := 0) X dX2_setRisk_73 (by decide) ?_
      refine fw_iadd (pc := 74) X dX2_setRisk_74 ?_
      refine fw_iv (show (m_cn F G i) + 0 = m_cn F G ((i + 1)) from (by simp [m_cn, c_2])) ?_
      refine fw_istore_n (pc := 75) (lv' := [(3, .int (m_cn F G ((i + 1)))), (0, .ref (a 0)), (1, .int v), (2, .int x), (4, .int (nI i))]) X dX2_setRisk_75 rfl (by decide) rfl ?_
      refine fw_iinc (pc := 76) (v := nI (i + 1)) (lv' := [(4, .int (nI (i + 1))), (3, .int (m_cn F G ((i + 1)))), (0, .ref (a 0)), (1, .int v), (2, .int x)]) (j := 4) X dX2_setRisk_76 rfl (nI_1 _) (by decide) rfl ?_
      refine fw_goto (pc := 79) (tgt := 50) X dX2_setRisk_79 (by decide) ?_
      refine fw_lv (lv' := [(0, .ref (a 0)), (1, .int v), (2, .int x), (3, .int (m_cn F G ((i + 1)))), (4, .int (nI ((i + 1))))]) [2, 3, 4, 1, 0] rfl ?_
      exact ih (i + 1) (by omega)
theorem dsc_X2_setRisk : fw_dsc yX2_setRisk 2 := by decide +kernel
set_option maxHeartbeats 4000000 in
set_option maxRecDepth 100000 in
theorem ct_X2_setRisk {l : Launch} {D : va_G} {K : Nat → ClassId} {a : Nat → Nat} {F : Nat → Int32} {G : Nat → Nat → Int32} (v x : Int32) {n : Nat} (hn : F 19 = nI n) (hn15 : n ≤ 15) : fw_C (S := Unit) l yX2_setRisk wsX2_setRisk ({ frames := 2, cells := 0, slots := 0, locals := 44 }) 0 0 false [.ref (a 0), .int v, .int x] D (tyS K) (MW K a F G) (fun r _ => r = some (.int (m_setRisk_v F G n v x))) (fun _ => MW K a (m_setRisk_F F v x) G) (fun _ => False) := by
  refine fw_met (maxL := 5) (ret := (some .int)) (by decide) rfl (Nat.le_of_ble_eq_true rfl) ?_
  intro p e s m args below meth c A X hr hlk hnm htab hE
  refine fw_lv (lv' := [(0, .ref (a 0)), (1, .int v), (2, .int x)]) [0, 1, 2] rfl ?_
  refine fw_aload_n (pc := 0) X dX2_setRisk_0 rfl 0 rfl ?_
  refine fw_iload_n (pc := 1) X dX2_setRisk_1 rfl 1 rfl ?_
  refine fw_iconst (pc := 2) (v := 0) X dX2_setRisk_2 (by decide) ?_
  refine fw_sipush (pc := 3) (v := 200) X dX2_setRisk_3 (by decide) ?_
  refine fw_callS (pc := 6) (n := 3) X hE [.int v, .int 0, .int 200] (ct_X2_isIn v 0 200) (by decide) gX2_setRisk_X2_isIn rfl ⟨rfl, rfl⟩ dsc_X2_isIn ⟨Nat.le_of_ble_eq_true rfl, Nat.le_of_ble_eq_true rfl⟩ rfl rfl (Nat.le_of_ble_eq_true rfl) dX2_setRisk_6 ⟨Nat.le_of_ble_eq_true rfl, Nat.le_of_ble_eq_true rfl⟩ (fun _ q => q.elim) (fun r0 u0 r_3 => ?_)
  subst r_3
  show fw_W _ _ _ _ _ _ _ _ _ _ _ _ _ _ _ _ _ _ _ (.int (b2i (m_in v 0 200 = true)) :: _)
  by_cases c_4 : m_in v 0 200 = true
  · obtain ⟨hx_v, hl_v⟩ := in_ix (h := 200) (N := 201) (by decide) (by decide) c_4
    refine fw_iv (y := 1) (if_pos c_4) ?_
    refine fw_if_eq (pc := 9) (tgt := 26) X dX2_setRisk_9 (by decide) (fun q => absurd q (by decide)) (fun _ => ?_)
    refine fw_iload_n (pc := 12) X dX2_setRisk_12 rfl 2 rfl ?_
    refine fw_iconst (pc := 13) (v := 0) X dX2_setRisk_13 (by decide) ?_
    refine fw_bipush (pc := 14) (v := 10) X dX2_setRisk_14 (by decide) ?_
    refine fw_callS (pc := 16) (n := 3) X hE [.int x, .int 0, .int 10] (ct_X2_isIn x 0 10) (by decide) gX2_setRisk_X2_isIn rfl ⟨rfl, rfl⟩ dsc_X2_isIn ⟨Nat.le_of_ble_eq_true rfl, Nat.le_of_ble_eq_true rfl⟩ rfl rfl (Nat.le_of_ble_eq_true rfl) dX2_setRisk_16 ⟨Nat.le_of_ble_eq_true rfl, Nat.le_of_ble_eq_true rfl⟩ (fun _ q => q.elim) (fun r0 u0 r_5 => ?_)
    subst r_5
    show fw_W _ _ _ _ _ _ _ _ _ _ _ _ _ _ _ _ _ _ _ (.int (b2i (m_in x 0 10 = true)) :: _)
    by_cases c_6 : m_in x 0 10 = true
    · obtain ⟨hx_x, hl_x⟩ := in_ix (h := 10) (N := 11) (by decide) (by decide) c_6
      refine fw_iv (y := 1) (if_pos c_6) ?_
      refine fw_if_eq (pc := 19) (tgt := 26) X dX2_setRisk_19 (by decide) (fun q => absurd q (by decide)) (fun _ => ?_)
      refine fw_iconst (pc := 22) (v := 0) X dX2_setRisk_22 (by decide) ?_
      refine fw_goto (pc := 23) (tgt := 27) X dX2_setRisk_23 (by decide) ?_
      refine fw_callV (pc := 27) (n := 1) (C := (RX2, TX2, 21)) (ci := 2) (q0 := 0) X hE [.int 0] (ct_X2_isFine 0) (by decide) gX2_setRisk_X2_isFine rfl ⟨rfl, rfl⟩ ⟨rfl, dsc_X2_isFine⟩ ⟨Nat.le_of_ble_eq_true rfl, Nat.le_of_ble_eq_true rfl⟩ rfl M_obj rfl rfl (Nat.le_of_ble_eq_true rfl) dX2_setRisk_27 ⟨Nat.le_of_ble_eq_true rfl, Nat.le_of_ble_eq_true rfl⟩ (fun _ q => q.elim) (fun r0 u0 r_7 => ?_)
      subst r_7
      show fw_W _ _ _ _ _ _ _ _ _ _ _ _ _ _ _ _ _ _ _ (.int (b2i (0 = 0)) :: _)
      refine fw_iv (y := 1) (if_pos (by decide)) ?_
      refine fw_if_ne (pc := 30) (tgt := 35) X dX2_setRisk_30 (by decide) (fun _ => ?_) (fun q => absurd q (by decide))
      refine fw_aload_n (pc := 35) X dX2_setRisk_35 rfl 0 rfl ?_
      refine fw_iload_n (pc := 36) X dX2_setRisk_36 rfl 1 rfl ?_
      refine fw_put (pc := 37) (ws' := MW K a (upd (upd F 0 0) 3 v) G) X iX2_setRisk_X2 tyX2 tyX2_ok nmX2 0 M_obj rfl 3 (by decide) kX2_setRisk_16 rfl rfl rfl (Nat.le_of_ble_eq_true rfl) dX2_setRisk_37 (M_f3 _) ?_
      refine fw_aload_n (pc := 40) X dX2_setRisk_40 rfl 0 rfl ?_
      refine fw_iload_n (pc := 41) X dX2_setRisk_41 rfl 2 rfl ?_
      refine fw_put (pc := 42) (ws' := MW K a (upd (upd (upd F 0 0) 3 v) 4 x) G) X iX2_setRisk_X2 tyX2 tyX2_ok nmX2 0 M_obj rfl 4 (by decide) kX2_setRisk_80 rfl rfl rfl (Nat.le_of_ble_eq_true rfl) dX2_setRisk_42 (M_f4 _) ?_
      refine fw_iconst (pc := 45) (v := 0) X dX2_setRisk_45 (by decide) ?_
      refine fw_istore_n (pc := 46) (lv' := [(3, .int 0), (0, .ref (a 0)), (1, .int v), (2, .int x)]) X dX2_setRisk_46 rfl (by decide) rfl ?_
      refine fw_iconst (pc := 47) (v := 0) X dX2_setRisk_47 (by decide) ?_
      refine fw_istore (pc := 48) (lv' := [(4, .int 0), (3, .int 0), (0, .ref (a 0)), (1, .int v), (2, .int x)]) X dX2_setRisk_48 (by decide) rfl ?_
      refine fw_lv (lv' := [(0, .ref (a 0)), (1, .int v), (2, .int x), (3, .int (m_cn (upd (upd (upd F 0 0) 3 v) 4 x) G 0)), (4, .int (nI 0))]) [2, 3, 4, 1, 0] rfl ?_
      refine lp_X2_setRisk_50 v x (by exact hn) hn15 X hE ?_ n 0 (by omega)
      refine fw_lv (lv' := [(0, .ref (a 0)), (1, .int v), (2, .int x), (3, .int (m_cn (upd (upd (upd F 0 0) 3 v) 4 x) G n)), (4, .int (nI n))]) [0, 1, 2, 3, 4] rfl ?_
      refine fw_iload_n (pc := 82) X dX2_setRisk_82 rfl 3 rfl ?_
      exact fw_iret (pc := 83) X hr hlk (Nat.le_of_ble_eq_true rfl) (Nat.le_of_ble_eq_true rfl) dX2_setRisk_83 () (by simp [m_setRisk_v, m_setRisk_F, m_setRisk_k, c_4, c_6]) (by simp [m_setRisk_v, m_setRisk_F, m_setRisk_k, c_4, c_6])
    · refine fw_iv (y := 0) (if_neg c_6) ?_
      refine fw_if_eq (pc := 19) (tgt := 26) X dX2_setRisk_19 (by decide) (fun _ => ?_) (fun q => absurd (by decide) q)
      refine fw_iconst (pc := 26) (v := 1) X dX2_setRisk_26 (by decide) ?_
      refine fw_callV (pc := 27) (n := 1) (C := (RX2, TX2, 21)) (ci := 2) (q0 := 0) X hE [.int 1] (ct_X2_isFine 1) (by decide) gX2_setRisk_X2_isFine rfl ⟨rfl, rfl⟩ ⟨rfl, dsc_X2_isFine⟩ ⟨Nat.le_of_ble_eq_true rfl, Nat.le_of_ble_eq_true rfl⟩ rfl M_obj rfl rfl (Nat.le_of_ble_eq_true rfl) dX2_setRisk_27 ⟨Nat.le_of_ble_eq_true rfl, Nat.le_of_ble_eq_true rfl⟩ (fun _ q => q.elim) (fun r0 u0 r_8 => ?_)
      subst r_8
      show fw_W _ _ _ _ _ _ _ _ _ _ _ _ _ _ _ _ _ _ _ (.int (b2i (1 = 0)) :: _)
      refine fw_iv (y := 0) (if_neg (by decide)) ?_
      refine fw_if_ne (pc := 30) (tgt := 35) X dX2_setRisk_30 (by decide) (fun q => absurd (by decide) q) (fun _ => ?_)
      refine fw_iconst (pc := 33) (v := 0) X dX2_setRisk_33 (by decide) ?_
      exact fw_iret (pc := 34) X hr hlk (Nat.le_of_ble_eq_true rfl) (Nat.le_of_ble_eq_true rfl) dX2_setRisk_34 () (by simp [m_setRisk_v, m_setRisk_F, m_setRisk_k, c_4, c_6]) (by simp [m_setRisk_v, m_setRisk_F, m_setRisk_k, c_4, c_6])
  · refine fw_iv (y := 0) (if_neg c_4) ?_
    refine fw_if_eq (pc := 9) (tgt := 26) X dX2_setRisk_9 (by decide) (fun _ => ?_) (fun q => absurd (by decide) q)
    refine fw_iconst (pc := 26) (v := 1) X dX2_setRisk_26 (by decide) ?_
    refine fw_callV (pc := 27) (n := 1) (C := (RX2, TX2, 21)) (ci := 2) (q0 := 0) X hE [.int 1] (ct_X2_isFine 1) (by decide) gX2_setRisk_X2_isFine rfl ⟨rfl, rfl⟩ ⟨rfl, dsc_X2_isFine⟩ ⟨Nat.le_of_ble_eq_true rfl, Nat.le_of_ble_eq_true rfl⟩ rfl M_obj rfl rfl (Nat.le_of_ble_eq_true rfl) dX2_setRisk_27 ⟨Nat.le_of_ble_eq_true rfl, Nat.le_of_ble_eq_true rfl⟩ (fun _ q => q.elim) (fun r0 u0 r_9 => ?_)
    subst r_9
    show fw_W _ _ _ _ _ _ _ _ _ _ _ _ _ _ _ _ _ _ _ (.int (b2i (1 = 0)) :: _)
    refine fw_iv (y := 0) (if_neg (by decide)) ?_
    refine fw_if_ne (pc := 30) (tgt := 35) X dX2_setRisk_30 (by decide) (fun q => absurd (by decide) q) (fun _ => ?_)
    refine fw_iconst (pc := 33) (v := 0) X dX2_setRisk_33 (by decide) ?_
    exact fw_iret (pc := 34) X hr hlk (Nat.le_of_ble_eq_true rfl) (Nat.le_of_ble_eq_true rfl) dX2_setRisk_34 () (by simp [m_setRisk_v, m_setRisk_F, m_setRisk_k, c_4]) (by simp [m_setRisk_v, m_setRisk_F, m_setRisk_k, c_4])
theorem kX2_setGuarantee_89 : Cond.constant RX2 89 1000000 ∈ wsX2_setGuarantee := by decide +kernel
theorem kX2_setGuarantee_23 : Cond.fieldLink RX2 23 (TX2 6).1 (TX2 6).2.1 (TX2 6).2.2.1 ∈ wsX2_setGuarantee := by decide +kernel
set_option maxRecDepth 20000 in
theorem iX2_setGuarantee_X2 : ∀ w ∈ wsX20, w ∈ wsX2_setGuarantee := by decide +kernel
theorem kX2_setGuarantee_20 : Cond.fieldLink RX2 20 (TX2 5).1 (TX2 5).2.1 (TX2 5).2.2.1 ∈ wsX2_setGuarantee := by decide +kernel
theorem dsc_X2_setGuarantee : fw_dsc yX2_setGuarantee 2 := by decide +kernel
set_option maxHeartbeats 4000000 in
set_option maxRecDepth 100000 in
theorem ct_X2_setGuarantee {l : Launch} {D : va_G} {K : Nat → ClassId} {a : Nat → Nat} {F : Nat → Int32} {G : Nat → Nat → Int32} (v x : Int32) : fw_C (S := Unit) l yX2_setGuarantee wsX2_setGuarantee ({ frames := 2, cells := 0, slots := 0, locals := 42 }) 0 0 false [.ref (a 0), .int v, .int x] D (tyS K) (MW K a F G) (fun r _ => r = some (.int (m_setG_v G v x))) (fun _ => MW K a (upd F 0 (m_setG_k G v x)) (m_setG_G G v x)) (fun _ => False) := by
  refine fw_met (maxL := 5) (ret := (some .int)) (by decide) rfl (Nat.le_of_ble_eq_true rfl) ?_
  intro p e s m args below meth c A X hr hlk hnm htab hE
  refine fw_lv (lv' := [(0, .ref (a 0)), (1, .int v), (2, .int x)]) [0, 1, 2] rfl ?_
  refine fw_iload_n (pc := 0) X dX2_setGuarantee_0 rfl 1 rfl ?_
  refine fw_callS (pc := 1) (n := 1) X hE [.int v] (ct_X2_isTrader v) (by decide) gX2_setGuarantee_X2_isTrader rfl ⟨rfl, rfl⟩ dsc_X2_isTrader ⟨Nat.le_of_ble_eq_true rfl, Nat.le_of_ble_eq_true rfl⟩ rfl rfl (Nat.le_of_ble_eq_true rfl) dX2_setGuarantee_1 ⟨Nat.le_of_ble_eq_true rfl, Nat.le_of_ble_eq_true rfl⟩ (fun _ q => q.elim) (fun r0 u0 r_1 => ?_)
  subst r_1
  show fw_W _ _ _ _ _ _ _ _ _ _ _ _ _ _ _ _ _ _ _ (.int (b2i (m_in v 0 3 = true)) :: _)
  by_cases c_2 : m_in v 0 3 = true
  · obtain ⟨hx_v, hl_v⟩ := in_ix (h := 3) (N := 4) (by decide) (by decide) c_2
    refine fw_iv (y := 1) (if_pos c_2) ?_
    refine fw_if_eq (pc := 4) (tgt := 21) X dX2_setGuarantee_4 (by decide) (fun q => absurd q (by decide)) (fun _ => ?_)
    refine fw_iload_n (pc := 7) X dX2_setGuarantee_7 rfl 2 rfl ?_
    refine fw_iconst (pc := 8) (v := 0) X dX2_setGuarantee_8 (by decide) ?_
    refine fw_ldc (pc := 9) (v := 1000000) X kX2_setGuarantee_89 dX2_setGuarantee_9 ?_
    refine fw_callS (pc := 11) (n := 3) X hE [.int x, .int 0, .int 1000000] (ct_X2_isIn x 0 1000000) (by decide) gX2_setGuarantee_X2_isIn rfl ⟨rfl, rfl⟩ dsc_X2_isIn ⟨Nat.le_of_ble_eq_true rfl, Nat.le_of_ble_eq_true rfl⟩ rfl rfl (Nat.le_of_ble_eq_true rfl) dX2_setGuarantee_11 ⟨Nat.le_of_ble_eq_true rfl, Nat.le_of_ble_eq_true rfl⟩ (fun _ q => q.elim) (fun r0 u0 r_3 => ?_)
    subst r_3
    show fw_W _ _ _ _ _ _ _ _ _ _ _ _ _ _ _ _ _ _ _ (.int (b2i (m_in x 0 1000000 = true)) :: _)
    by_cases c_4 : m_in x 0 1000000 = true
    · obtain ⟨hx_x, hl_x⟩ := in_ix (h := 1000000) (N := 1000001) (by decide) (by decide) c_4
      refine fw_iv (y := 1) (if_pos c_4) ?_
      refine fw_if_eq (pc := 14) (tgt := 21) X dX2_setGuarantee_14 (by decide) (fun q => absurd q (by decide)) (fun _ => ?_)
      refine fw_iconst (pc := 17) (v := 1) X dX2_setGuarantee_17 (by decide) ?_
      refine fw_goto (pc := 18) (tgt := 22) X dX2_setGuarantee_18 (by decide) ?_
      refine fw_istore_n (pc := 22) (lv' := [(3, .int 1), (0, .ref (a 0)), (1, .int v), (2, .int x)]) X dX2_setGuarantee_22 rfl (by decide) rfl ?_
      refine fw_aload_n (pc := 23) X dX2_setGuarantee_23 rfl 1 rfl ?_
      refine fw_iload_n (pc := 24) X dX2_setGuarantee_24 rfl 0 rfl ?_
      refine fw_if_ne (pc := 25) (tgt := 32) X dX2_setGuarantee_25 (by decide) (fun _ => ?_) (fun q => absurd q (by decide))
      refine fw_aload_n (pc := 32) X dX2_setGuarantee_32 rfl 1 rfl ?_
      refine fw_get (pc := 33) (v := .ref (a 6)) X iX2_setGuarantee_X2 0 M_obj rfl 6 (by decide) kX2_setGuarantee_23 rfl dX2_setGuarantee_33 ?_
      refine fw_iload_n (pc := 36) X dX2_setGuarantee_36 rfl 2 rfl ?_
      refine fw_iald (pc := 37) (f := G 6) X 4 0 (M_g6 (G := G)) rfl (ix v) hx_v (by omega) (by decide) dX2_setGuarantee_37 ?_
      refine fw_iload_n (pc := 38) X dX2_setGuarantee_38 rfl 3 rfl ?_
      refine fw_icmp_le (pc := 39) (tgt := 46) X dX2_setGuarantee_39 (by decide) (fun c_5 => ?_) (fun c_5 => ?_)
      · refine fw_iconst (pc := 46) (v := 0) X dX2_setGuarantee_46 (by decide) ?_
        refine fw_callV (pc := 47) (n := 1) (C := (RX2, TX2, 21)) (ci := 2) (q0 := 0) X hE [.int 0] (ct_X2_isFine 0) (by decide) gX2_setGuarantee_X2_isFine rfl ⟨rfl, rfl⟩ ⟨rfl, dsc_X2_isFine⟩ ⟨Nat.le_of_ble_eq_true rfl, Nat.le_of_ble_eq_true rfl⟩ rfl M_obj rfl rfl (Nat.le_of_ble_eq_true rfl) dX2_setGuarantee_47 ⟨Nat.le_of_ble_eq_true rfl, Nat.le_of_ble_eq_true rfl⟩ (fun _ q => q.elim) (fun r0 u0 r_6 => ?_)
        subst r_6
        show fw_W _ _ _ _ _ _ _ _ _ _ _ _ _ _ _ _ _ _ _ (.int (b2i (0 = 0)) :: _)
        refine fw_iv (y := 1) (if_pos (by decide)) ?_
        refine fw_if_ne (pc := 50) (tgt := 55) X dX2_setGuarantee_50 (by decide) (fun _ => ?_) (fun q => absurd q (by decide))
        refine fw_aload_n (pc := 55) X dX2_setGuarantee_55 rfl 1 rfl ?_
        refine fw_get (pc := 56) (v := .ref (a 5)) X iX2_setGuarantee_X2 0 M_obj rfl 5 (by decide) kX2_setGuarantee_20 rfl dX2_setGuarantee_56 ?_
        refine fw_iload_n (pc := 59) X dX2_setGuarantee_59 rfl 2 rfl ?_
        refine fw_iald (pc := 60) (f := G 5) X 3 0 (M_g5 (G := G)) rfl (ix v) hx_v (by omega) (by decide) dX2_setGuarantee_60 ?_
        refine fw_istore (pc := 61) (lv' := [(4, .int (G 5 (ix v))), (3, .int 1), (0, .ref (a 0)), (1, .int v), (2, .int x)]) X dX2_setGuarantee_61 (by decide) rfl ?_
        refine fw_aload_n (pc := 63) X dX2_setGuarantee_63 rfl 2 rfl ?_
        refine fw_get (pc := 64) (v := .ref (a 5)) X iX2_setGuarantee_X2 0 M_obj rfl 5 (by decide) kX2_setGuarantee_20 rfl dX2_setGuarantee_64 ?_
        refine fw_iload_n (pc := 67) X dX2_setGuarantee_67 rfl 3 rfl ?_
        refine fw_iload_n (pc := 68) X dX2_setGuarantee_68 rfl 4 rfl ?_
        refine fw_iast (pc := 69) (f := G 5) (ws' := MW K a (upd F 0 0) (va_up G 5 (upd (G 5) (ix v) x))) X 3 0 (M_g5 (G := G)) rfl (ix v) hx_v (by omega) (by decide) dX2_setGuarantee_69 (M_s5 _) ?_
        refine fw_iload (pc := 70) X dX2_setGuarantee_70 0 rfl ?_
        exact fw_iret (pc := 72) X hr hlk (Nat.le_of_ble_eq_true rfl) (Nat.le_of_ble_eq_true rfl) dX2_setGuarantee_72 () (by simp [m_setG_v, m_setG_G, m_setG_k, c_2, c_4, c_5]) (by simp [m_setG_v, m_setG_G, m_setG_k, c_2, c_4, c_5])
      · refine fw_iconst (pc := 42) (v := 2) X dX2_setGuarantee_42 (by decide) ?_
        refine fw_goto (pc := 43) (tgt := 47) X dX2_setGuarantee_43 (by decide) ?_
        refine fw_callV (pc := 47) (n := 1) (C := (RX2, TX2, 21)) (ci := 2) (q0 := 0) X hE [.int 2] (ct_X2_isFine 2) (by decide) gX2_setGuarantee_X2_isFine rfl ⟨rfl, rfl⟩ ⟨rfl, dsc_X2_isFine⟩ ⟨Nat.le_of_ble_eq_true rfl, Nat.le_of_ble_eq_true rfl⟩ rfl M_obj rfl rfl (Nat.le_of_ble_eq_true rfl) dX2_setGuarantee_47 ⟨Nat.le_of_ble_eq_true rfl, Nat.le_of_ble_eq_true rfl⟩ (fun _ q => q.elim) (fun r0 u0 r_7 => ?_)
        subst r_7
        show fw_W _ _ _ _ _ _ _ _ _ _ _ _ _ _ _ _ _ _ _ (.int (b2i (2 = 0)) :: _)
        refine fw_iv (y := 0) (if_neg (by decide)) ?_
        refine fw_if_ne (pc := 50) (tgt := 55) X dX2_setGuarantee_50 (by decide) (fun q => absurd (by decide) q) (fun _ => ?_)
        refine fw_iconst (pc := 53) (v := 0) X dX2_setGuarantee_53 (by decide) ?_
        exact fw_iret (pc := 54) X hr hlk (Nat.le_of_ble_eq_true rfl) (Nat.le_of_ble_eq_true rfl) dX2_setGuarantee_54 () (by simp [m_setG_v, m_setG_G, m_setG_k, c_2, c_4, c_5]) (by simp [m_setG_v, m_setG_G, m_setG_k, c_2, c_4, c_5])
    · refine fw_iv (y := 0) (if_neg c_4) ?_
      refine fw_if_eq (pc := 14) (tgt := 21) X dX2_setGuarantee_14 (by decide) (fun _ => ?_) (fun q => absurd (by decide) q)
      refine fw_iconst (pc := 21) (v := 0) X dX2_setGuarantee_21 (by decide) ?_
      refine fw_istore_n (pc := 22) (lv' := [(3, .int 0), (0, .ref (a 0)), (1, .int v), (2, .int x)]) X dX2_setGuarantee_22 rfl (by decide) rfl ?_
      refine fw_aload_n (pc := 23) X dX2_setGuarantee_23 rfl 1 rfl ?_
      refine fw_iload_n (pc := 24) X dX2_setGuarantee_24 rfl 0 rfl ?_
      refine fw_if_ne (pc := 25) (tgt := 32) X dX2_setGuarantee_25 (by decide) (fun q => absurd (by decide) q) (fun _ => ?_)
      refine fw_iconst (pc := 28) (v := 1) X dX2_setGuarantee_28 (by decide) ?_
      refine fw_goto (pc := 29) (tgt := 47) X dX2_setGuarantee_29 (by decide) ?_
      refine fw_callV (pc := 47) (n := 1) (C := (RX2, TX2, 21)) (ci := 2) (q0 := 0) X hE [.int 1] (ct_X2_isFine 1) (by decide) gX2_setGuarantee_X2_isFine rfl ⟨rfl, rfl⟩ ⟨rfl, dsc_X2_isFine⟩ ⟨Nat.le_of_ble_eq_true rfl, Nat.le_of_ble_eq_true rfl⟩ rfl M_obj rfl rfl (Nat.le_of_ble_eq_true rfl) dX2_setGuarantee_47 ⟨Nat.le_of_ble_eq_true rfl, Nat.le_of_ble_eq_true rfl⟩ (fun _ q => q.elim) (fun r0 u0 r_8 => ?_)
      subst r_8
      show fw_W _ _ _ _ _ _ _ _ _ _ _ _ _ _ _ _ _ _ _ (.int (b2i (1 = 0)) :: _)
      refine fw_iv (y := 0) (if_neg (by decide)) ?_
      refine fw_if_ne (pc := 50) (tgt := 55) X dX2_setGuarantee_50 (by decide) (fun q => absurd (by decide) q) (fun _ => ?_)
      refine fw_iconst (pc := 53) (v := 0) X dX2_setGuarantee_53 (by decide) ?_
      exact fw_iret (pc := 54) X hr hlk (Nat.le_of_ble_eq_true rfl) (Nat.le_of_ble_eq_true rfl) dX2_setGuarantee_54 () (by simp [m_setG_v, m_setG_G, m_setG_k, c_2, c_4]) (by simp [m_setG_v, m_setG_G, m_setG_k, c_2, c_4])
  · refine fw_iv (y := 0) (if_neg c_2) ?_
    refine fw_if_eq (pc := 4) (tgt := 21) X dX2_setGuarantee_4 (by decide) (fun _ => ?_) (fun q => absurd (by decide) q)
    refine fw_iconst (pc := 21) (v := 0) X dX2_setGuarantee_21 (by decide) ?_
    refine fw_istore_n (pc := 22) (lv' := [(3, .int 0), (0, .ref (a 0)), (1, .int v), (2, .int x)]) X dX2_setGuarantee_22 rfl (by decide) rfl ?_
    refine fw_aload_n (pc := 23) X dX2_setGuarantee_23 rfl 1 rfl ?_
    refine fw_iload_n (pc := 24) X dX2_setGuarantee_24 rfl 0 rfl ?_
    refine fw_if_ne (pc := 25) (tgt := 32) X dX2_setGuarantee_25 (by decide) (fun q => absurd (by decide) q) (fun _ => ?_)
    refine fw_iconst (pc := 28) (v := 1) X dX2_setGuarantee_28 (by decide) ?_
    refine fw_goto (pc := 29) (tgt := 47) X dX2_setGuarantee_29 (by decide) ?_
    refine fw_callV (pc := 47) (n := 1) (C := (RX2, TX2, 21)) (ci := 2) (q0 := 0) X hE [.int 1] (ct_X2_isFine 1) (by decide) gX2_setGuarantee_X2_isFine rfl ⟨rfl, rfl⟩ ⟨rfl, dsc_X2_isFine⟩ ⟨Nat.le_of_ble_eq_true rfl, Nat.le_of_ble_eq_true rfl⟩ rfl M_obj rfl rfl (Nat.le_of_ble_eq_true rfl) dX2_setGuarantee_47 ⟨Nat.le_of_ble_eq_true rfl, Nat.le_of_ble_eq_true rfl⟩ (fun _ q => q.elim) (fun r0 u0 r_9 => ?_)
    subst r_9
    show fw_W _ _ _ _ _ _ _ _ _ _ _ _ _ _ _ _ _ _ _ (.int (b2i (1 = 0)) :: _)
    refine fw_iv (y := 0) (if_neg (by decide)) ?_
    refine fw_if_ne (pc := 50) (tgt := 55) X dX2_setGuarantee_50 (by decide) (fun q => absurd (by decide) q) (fun _ => ?_)
    refine fw_iconst (pc := 53) (v := 0) X dX2_setGuarantee_53 (by decide) ?_
    exact fw_iret (pc := 54) X hr hlk (Nat.le_of_ble_eq_true rfl) (Nat.le_of_ble_eq_true rfl) dX2_setGuarantee_54 () (by simp [m_setG_v, m_setG_G, m_setG_k, c_2]) (by simp [m_setG_v, m_setG_G, m_setG_k, c_2])
theorem kX2_announce_70 : Cond.fieldLink RX2 70 (TX2 19).1 (TX2 19).2.1 (TX2 19).2.2.1 ∈ wsX2_announce := by decide +kernel
set_option maxRecDepth 20000 in
theorem iX2_announce_X2 : ∀ w ∈ wsX20, w ∈ wsX2_announce := by decide +kernel
theorem kX2_announce_29 : Cond.fieldLink RX2 29 (TX2 8).1 (TX2 8).2.1 (TX2 8).2.2.1 ∈ wsX2_announce := by decide +kernel
theorem kX2_announce_32 : Cond.fieldLink RX2 32 (TX2 9).1 (TX2 9).2.1 (TX2 9).2.2.1 ∈ wsX2_announce := by decide +kernel
theorem dsc_X2_announce : fw_dsc yX2_announce 2 := by decide +kernel
set_option maxHeartbeats 4000000 in
set_option maxRecDepth 100000 in
theorem ct_X2_announce {l : Launch} {D : va_G} {K : Nat → ClassId} {a : Nat → Nat} {F : Nat → Int32} {G : Nat → Nat → Int32} (v x : Int32) {n : Nat} (hn : F 19 = nI n) (hn15 : n ≤ 15) : fw_C (S := Unit) l yX2_announce wsX2_announce ({ frames := 2, cells := 0, slots := 0, locals := 42 }) 0 0 false [.ref (a 0), .int v, .int x] D (tyS K) (MW K a F G) (fun r _ => r = some (.int (m_ann_v F v x))) (fun _ => MW K a (m_ann_F F v x) (m_ann_G F G n v x)) (fun _ => False) := by
  refine fw_met (maxL := 4) (ret := (some .int)) (by decide) rfl (Nat.le_of_ble_eq_true rfl) ?_
  intro p e s m args below meth c A X hr hlk hnm htab hE
  refine fw_lv (lv' := [(0, .ref (a 0)), (1, .int v), (2, .int x)]) [0, 1, 2] rfl ?_
  refine fw_iload_n (pc := 0) X dX2_announce_0 rfl 1 rfl ?_
  refine fw_callS (pc := 1) (n := 1) X hE [.int v] (ct_X2_isTrader v) (by decide) gX2_announce_X2_isTrader rfl ⟨rfl, rfl⟩ dsc_X2_isTrader ⟨Nat.le_of_ble_eq_true rfl, Nat.le_of_ble_eq_true rfl⟩ rfl rfl (Nat.le_of_ble_eq_true rfl) dX2_announce_1 ⟨Nat.le_of_ble_eq_true rfl, Nat.le_of_ble_eq_true rfl⟩ (fun _ q => q.elim) (fun r0 u0 r_1 => ?_)
  subst r_1
  show fw_W _ _ _ _ _ _ _ _ _ _ _ _ _ _ _ _ _ _ _ (.int (b2i (m_in v 0 3 = true)) :: _)
  by_cases c_2 : m_in v 0 3 = true
  · obtain ⟨hx_v, hl_v⟩ := in_ix (h := 3) (N := 4) (by decide) (by decide) c_2
    refine fw_iv (y := 1) (if_pos c_2) ?_
    refine fw_if_eq (pc := 4) (tgt := 22) X dX2_announce_4 (by decide) (fun q => absurd q (by decide)) (fun _ => ?_)
    refine fw_iload_n (pc := 7) X dX2_announce_7 rfl 2 rfl ?_
    refine fw_iconst (pc := 8) (v := 0) X dX2_announce_8 (by decide) ?_
    refine fw_sipush (pc := 9) (v := 999) X dX2_announce_9 (by decide) ?_
    refine fw_callS (pc := 12) (n := 3) X hE [.int x, .int 0, .int 999] (ct_X2_isIn x 0 999) (by decide) gX2_announce_X2_isIn rfl ⟨rfl, rfl⟩ dsc_X2_isIn ⟨Nat.le_of_ble_eq_true rfl, Nat.le_of_ble_eq_true rfl⟩ rfl rfl (Nat.le_of_ble_eq_true rfl) dX2_announce_12 ⟨Nat.le_of_ble_eq_true rfl, Nat.le_of_ble_eq_true rfl⟩ (fun _ q => q.elim) (fun r0 u0 r_3 => ?_)
    subst r_3
    show fw_W _ _ _ _ _ _ _ _ _ _ _ _ _ _ _ _ _ _ _ (.int (b2i (m_in x 0 999 = true)) :: _)
    by_cases c_4 : m_in x 0 999 = true
    · obtain ⟨hx_x, hl_x⟩ := in_ix (h := 999) (N := 1000) (by decide) (by decide) c_4
      refine fw_iv (y := 1) (if_pos c_4) ?_
      refine fw_if_eq (pc := 15) (tgt := 22) X dX2_announce_15 (by decide) (fun q => absurd q (by decide)) (fun _ => ?_)
      refine fw_iconst (pc := 18) (v := 1) X dX2_announce_18 (by decide) ?_
      refine fw_goto (pc := 19) (tgt := 23) X dX2_announce_19 (by decide) ?_
      refine fw_istore_n (pc := 23) (lv' := [(3, .int 1), (0, .ref (a 0)), (1, .int v), (2, .int x)]) X dX2_announce_23 rfl (by decide) rfl ?_
      refine fw_aload_n (pc := 24) X dX2_announce_24 rfl 1 rfl ?_
      refine fw_iload_n (pc := 25) X dX2_announce_25 rfl 0 rfl ?_
      refine fw_if_ne (pc := 26) (tgt := 33) X dX2_announce_26 (by decide) (fun _ => ?_) (fun q => absurd q (by decide))
      refine fw_aload_n (pc := 33) X dX2_announce_33 rfl 1 rfl ?_
      refine fw_get (pc := 34) (v := .int (F 19)) X iX2_announce_X2 0 M_obj rfl 19 (by decide) kX2_announce_70 rfl dX2_announce_34 ?_
      refine fw_bipush (pc := 37) (v := 15) X dX2_announce_37 (by decide) ?_
      refine fw_icmp_ne (pc := 39) (tgt := 46) X dX2_announce_39 (by decide) (fun c_5 => ?_) (fun c_5 => ?_)
      · refine fw_iconst (pc := 46) (v := 0) X dX2_announce_46 (by decide) ?_
        refine fw_callV (pc := 47) (n := 1) (C := (RX2, TX2, 21)) (ci := 2) (q0 := 0) X hE [.int 0] (ct_X2_isFine 0) (by decide) gX2_announce_X2_isFine rfl ⟨rfl, rfl⟩ ⟨rfl, dsc_X2_isFine⟩ ⟨Nat.le_of_ble_eq_true rfl, Nat.le_of_ble_eq_true rfl⟩ rfl M_obj rfl rfl (Nat.le_of_ble_eq_true rfl) dX2_announce_47 ⟨Nat.le_of_ble_eq_true rfl, Nat.le_of_ble_eq_true rfl⟩ (fun _ q => q.elim) (fun r0 u0 r_6 => ?_)
        subst r_6
        show fw_W _ _ _ _ _ _ _ _ _ _ _ _ _ _ _ _ _ _ _ (.int (b2i (0 = 0)) :: _)
        refine fw_iv (y := 1) (if_pos (by decide)) ?_
        refine fw_if_ne (pc := 50) (tgt := 55) X dX2_announce_50 (by decide) (fun _ => ?_) (fun q => absurd q (by decide))
        refine fw_aload_n (pc := 55) X dX2_announce_55 rfl 1 rfl ?_
        refine fw_get (pc := 56) (v := .ref (a 8)) X iX2_announce_X2 0 M_obj rfl 8 (by decide) kX2_announce_29 rfl dX2_announce_56 ?_
        refine fw_aload_n (pc := 59) X dX2_announce_59 rfl 1 rfl ?_
        refine fw_get (pc := 60) (v := .int (F 19)) X iX2_announce_X2 0 M_obj rfl 19 (by decide) kX2_announce_70 rfl dX2_announce_60 ?_
        refine fw_iload_n (pc := 63) X dX2_announce_63 rfl 2 rfl ?_
        refine fw_iast (pc := 64) (f := G 8) (ws' := MW K a (upd F 0 0) (va_up G 8 (upd (G 8) n v))) X 6 0 (M_g8 (G := G)) rfl n hn (ann_lt hn hn15 c_5) (by decide) dX2_announce_64 (M_s8 _) ?_
        refine fw_aload_n (pc := 65) X dX2_announce_65 rfl 1 rfl ?_
        refine fw_get (pc := 66) (v := .ref (a 9)) X iX2_announce_X2 0 M_obj rfl 9 (by decide) kX2_announce_32 rfl dX2_announce_66 ?_
        refine fw_aload_n (pc := 69) X dX2_announce_69 rfl 1 rfl ?_
        refine fw_get (pc := 70) (v := .int (F 19)) X iX2_announce_X2 0 M_obj rfl 19 (by decide) kX2_announce_70 rfl dX2_announce_70 ?_
        refine fw_iload_n (pc := 73) X dX2_announce_73 rfl 3 rfl ?_
        refine fw_iast (pc := 74) (f := G 9) (ws' := MW K a (upd F 0 0) (va_up (va_up G 8 (upd (G 8) n v)) 9 (upd (G 9) n x))) X 7 0 (M_g9 (G := (va_up G 8 (upd (G 8) n v)))) rfl n hn (ann_lt hn hn15 c_5) (by decide) dX2_announce_74 (M_s9 _) ?_
        refine fw_aload_n (pc := 75) X dX2_announce_75 rfl 1 rfl ?_
        refine fw_dup (pc := 76) X dX2_announce_76 rfl ?_
        refine fw_get (pc := 77) (v := .int (F 19)) X iX2_announce_X2 0 M_obj rfl 19 (by decide) kX2_announce_70 rfl dX2_announce_77 ?_
        refine fw_iconst (pc := 80) (v := 1) X dX2_announce_80 (by decide) ?_
        refine fw_iadd (pc := 81) X dX2_announce_81 ?_
        refine fw_put (pc := 82) (ws' := MW K a (upd (upd F 0 0) 19 ((F 19) + 1)) (va_up (va_up G 8 (upd (G 8) n v)) 9 (upd (G 9) n x))) X iX2_announce_X2 tyX2 tyX2_ok nmX2 0 M_obj rfl 19 (by decide) kX2_announce_70 rfl rfl rfl (Nat.le_of_ble_eq_true rfl) dX2_announce_82 (M_f19 _) ?_
        refine fw_aload_n (pc := 85) X dX2_announce_85 rfl 1 rfl ?_
        refine fw_get (pc := 86) (v := .int ((F 19) + 1)) X iX2_announce_X2 0 M_obj rfl 19 (by decide) kX2_announce_70 rfl dX2_announce_86 ?_
        refine fw_iconst (pc := 89) (v := 1) X dX2_announce_89 (by decide) ?_
        refine fw_isub (pc := 90) X dX2_announce_90 ?_
        exact fw_iret (pc := 91) X hr hlk (Nat.le_of_ble_eq_true rfl) (Nat.le_of_ble_eq_true rfl) dX2_announce_91 () (by simp [m_ann_v, m_ann_F, m_ann_G, m_ann_k, c_2, c_4, c_5]) (by simp [m_ann_v, m_ann_F, m_ann_G, m_ann_k, c_2, c_4, c_5])
      · refine fw_iconst (pc := 42) (v := 2) X dX2_announce_42 (by decide) ?_
        refine fw_goto (pc := 43) (tgt := 47) X dX2_announce_43 (by decide) ?_
        refine fw_callV (pc := 47) (n := 1) (C := (RX2, TX2, 21)) (ci := 2) (q0 := 0) X hE [.int 2] (ct_X2_isFine 2) (by decide) gX2_announce_X2_isFine rfl ⟨rfl, rfl⟩ ⟨rfl, dsc_X2_isFine⟩ ⟨Nat.le_of_ble_eq_true rfl, Nat.le_of_ble_eq_true rfl⟩ rfl M_obj rfl rfl (Nat.le_of_ble_eq_true rfl) dX2_announce_47 ⟨Nat.le_of_ble_eq_true rfl, Nat.le_of_ble_eq_true rfl⟩ (fun _ q => q.elim) (fun r0 u0 r_7 => ?_)
        subst r_7
        show fw_W _ _ _ _ _ _ _ _ _ _ _ _ _ _ _ _ _ _ _ (.int (b2i (2 = 0)) :: _)
        refine fw_iv (y := 0) (if_neg (by decide)) ?_
        refine fw_if_ne (pc := 50) (tgt := 55) X dX2_announce_50 (by decide) (fun q => absurd (by decide) q) (fun _ => ?_)
        refine fw_iconst (pc := 53) (v := 0) X dX2_announce_53 (by decide) ?_
        exact fw_iret (pc := 54) X hr hlk (Nat.le_of_ble_eq_true rfl) (Nat.le_of_ble_eq_true rfl) dX2_announce_54 () (by simp [m_ann_v, m_ann_F, m_ann_G, m_ann_k, c_2, c_4, c_5]) (by simp [m_ann_v, m_ann_F, m_ann_G, m_ann_k, c_2, c_4, c_5])
    · refine fw_iv (y := 0) (if_neg c_4) ?_
      refine fw_if_eq (pc := 15) (tgt := 22) X dX2_announce_15 (by decide) (fun _ => ?_) (fun q => absurd (by decide) q)
      refine fw_iconst (pc := 22) (v := 0) X dX2_announce_22 (by decide) ?_
      refine fw_istore_n (pc := 23) (lv' := [(3, .int 0), (0, .ref (a 0)), (1, .int v), (2, .int x)]) X dX2_announce_23 rfl (by decide) rfl ?_
      refine fw_aload_n (pc := 24) X dX2_announce_24 rfl 1 rfl ?_
      refine fw_iload_n (pc := 25) X dX2_announce_25 rfl 0 rfl ?_
      refine fw_if_ne (pc := 26) (tgt := 33) X dX2_announce_26 (by decide) (fun q => absurd (by decide) q) (fun _ => ?_)
      refine fw_iconst (pc := 29) (v := 1) X dX2_announce_29 (by decide) ?_
      refine fw_goto (pc := 30) (tgt := 47) X dX2_announce_30 (by decide) ?_
      refine fw_callV (pc := 47) (n := 1) (C := (RX2, TX2, 21)) (ci := 2) (q0 := 0) X hE [.int 1] (ct_X2_isFine 1) (by decide) gX2_announce_X2_isFine rfl ⟨rfl, rfl⟩ ⟨rfl, dsc_X2_isFine⟩ ⟨Nat.le_of_ble_eq_true rfl, Nat.le_of_ble_eq_true rfl⟩ rfl M_obj rfl rfl (Nat.le_of_ble_eq_true rfl) dX2_announce_47 ⟨Nat.le_of_ble_eq_true rfl, Nat.le_of_ble_eq_true rfl⟩ (fun _ q => q.elim) (fun r0 u0 r_8 => ?_)
      subst r_8
      show fw_W _ _ _ _ _ _ _ _ _ _ _ _ _ _ _ _ _ _ _ (.int (b2i (1 = 0)) :: _)
      refine fw_iv (y := 0) (if_neg (by decide)) ?_
      refine fw_if_ne (pc := 50) (tgt := 55) X dX2_announce_50 (by decide) (fun q => absurd (by decide) q) (fun _ => ?_)
      refine fw_iconst (pc := 53) (v := 0) X dX2_announce_53 (by decide) ?_
      exact fw_iret (pc := 54) X hr hlk (Nat.le_of_ble_eq_true rfl) (Nat.le_of_ble_eq_true rfl) dX2_announce_54 () (by simp [m_ann_v, m_ann_F, m_ann_G, m_ann_k, c_2, c_4]) (by simp [m_ann_v, m_ann_F, m_ann_G, m_ann_k, c_2, c_4])
  · refine fw_iv (y := 0) (if_neg c_2) ?_
    refine fw_if_eq (pc := 4) (tgt := 22) X dX2_announce_4 (by decide) (fun _ => ?_) (fun q => absurd (by decide) q)
    refine fw_iconst (pc := 22) (v := 0) X dX2_announce_22 (by decide) ?_
    refine fw_istore_n (pc := 23) (lv' := [(3, .int 0), (0, .ref (a 0)), (1, .int v), (2, .int x)]) X dX2_announce_23 rfl (by decide) rfl ?_
    refine fw_aload_n (pc := 24) X dX2_announce_24 rfl 1 rfl ?_
    refine fw_iload_n (pc := 25) X dX2_announce_25 rfl 0 rfl ?_
    refine fw_if_ne (pc := 26) (tgt := 33) X dX2_announce_26 (by decide) (fun q => absurd (by decide) q) (fun _ => ?_)
    refine fw_iconst (pc := 29) (v := 1) X dX2_announce_29 (by decide) ?_
    refine fw_goto (pc := 30) (tgt := 47) X dX2_announce_30 (by decide) ?_
    refine fw_callV (pc := 47) (n := 1) (C := (RX2, TX2, 21)) (ci := 2) (q0 := 0) X hE [.int 1] (ct_X2_isFine 1) (by decide) gX2_announce_X2_isFine rfl ⟨rfl, rfl⟩ ⟨rfl, dsc_X2_isFine⟩ ⟨Nat.le_of_ble_eq_true rfl, Nat.le_of_ble_eq_true rfl⟩ rfl M_obj rfl rfl (Nat.le_of_ble_eq_true rfl) dX2_announce_47 ⟨Nat.le_of_ble_eq_true rfl, Nat.le_of_ble_eq_true rfl⟩ (fun _ q => q.elim) (fun r0 u0 r_9 => ?_)
    subst r_9
    show fw_W _ _ _ _ _ _ _ _ _ _ _ _ _ _ _ _ _ _ _ (.int (b2i (1 = 0)) :: _)
    refine fw_iv (y := 0) (if_neg (by decide)) ?_
    refine fw_if_ne (pc := 50) (tgt := 55) X dX2_announce_50 (by decide) (fun q => absurd (by decide) q) (fun _ => ?_)
    refine fw_iconst (pc := 53) (v := 0) X dX2_announce_53 (by decide) ?_
    exact fw_iret (pc := 54) X hr hlk (Nat.le_of_ble_eq_true rfl) (Nat.le_of_ble_eq_true rfl) dX2_announce_54 () (by simp [m_ann_v, m_ann_F, m_ann_G, m_ann_k, c_2]) (by simp [m_ann_v, m_ann_F, m_ann_G, m_ann_k, c_2])
theorem kX2_amend_35 : Cond.fieldLink RX2 35 (TX2 10).1 (TX2 10).2.1 (TX2 10).2.2.1 ∈ wsX2_amend := by decide +kernel
set_option maxRecDepth 20000 in
theorem iX2_amend_X2 : ∀ w ∈ wsX20, w ∈ wsX2_amend := by decide +kernel
theorem kX2_amend_54 : Cond.fieldLink RX2 54 (TX2 16).1 (TX2 16).2.1 (TX2 16).2.2.1 ∈ wsX2_amend := by decide +kernel
theorem kX2_amend_38 : Cond.fieldLink RX2 38 (TX2 11).1 (TX2 11).2.1 (TX2 11).2.2.1 ∈ wsX2_amend := by decide +kernel
theorem dsc_X2_amend : fw_dsc yX2_amend 3 := by decide +kernel
set_option maxHeartbeats 4000000 in
set_option maxRecDepth 100000 in
theorem ct_X2_amend {l : Launch} {D : va_G} {K : Nat → ClassId} {a : Nat → Nat} {F : Nat → Int32} {G : Nat → Nat → Int32} (u v x : Int32) {n : Nat} (hn : F 19 = nI n) (hn15 : n ≤ 15) : fw_C (S := Unit) l yX2_amend wsX2_amend ({ frames := 2, cells := 0, slots := 0, locals := 43 }) 0 0 false [.ref (a 0), .int u, .int v, .int x] D (tyS K) (MW K a F G) (fun r _ => r = some (.int (m_amd_v F G u v x))) (fun _ => MW K a (upd F 0 (m_amd_k F G u v x)) (m_amd_G F G u v x)) (fun _ => False) := by
  refine fw_met (maxL := 7) (ret := (some .int)) (by decide) rfl (Nat.le_of_ble_eq_true rfl) ?_
  intro p e s m args below meth c A X hr hlk hnm htab hE
  refine fw_lv (lv' := [(0, .ref (a 0)), (1, .int u), (2, .int v), (3, .int x)]) [0, 1, 2, 3] rfl ?_
  refine fw_aload_n (pc := 0) X dX2_amend_0 rfl 0 rfl ?_
  refine fw_iload_n (pc := 1) X dX2_amend_1 rfl 1 rfl ?_
  refine fw_callV (pc := 2) (n := 1) (C := (RX2, TX2, 21)) (ci := 2) (q0 := 0) X hE [.int u] (ct_X2_isConsignment u) (by decide) gX2_amend_X2_isConsignment rfl ⟨rfl, rfl⟩ ⟨rfl, dsc_X2_isConsignment⟩ ⟨Nat.le_of_ble_eq_true rfl, Nat.le_of_ble_eq_true rfl⟩ rfl M_obj rfl rfl (Nat.le_of_ble_eq_true rfl) dX2_amend_2 ⟨Nat.le_of_ble_eq_true rfl, Nat.le_of_ble_eq_true rfl⟩ (fun _ q => q.elim) (fun r0 u0 r_1 => ?_)
  subst r_1
  show fw_W _ _ _ _ _ _ _ _ _ _ _ _ _ _ _ _ _ _ _ (.int (b2i (m_in u 0 (F 19 - 1) = true)) :: _)
  by_cases c_2 : m_in u 0 (F 19 - 1) = true
  · obtain ⟨hx_u, hl_u⟩ := in_con hn15 (by rw [← hn]; exact c_2)
    refine fw_iv (y := 1) (if_pos c_2) ?_
    refine fw_istore (pc := 5) (lv' := [(4, .int 1), (0, .ref (a 0)), (1, .int u), (2, .int v), (3, .int x)]) X dX2_amend_5 (by decide) rfl ?_
    refine fw_iload_n (pc := 7) X dX2_amend_7 rfl 3 rfl ?_
    refine fw_callS (pc := 8) (n := 1) X hE [.int v] (ct_X2_isSort v) (by decide) gX2_amend_X2_isSort rfl ⟨rfl, rfl⟩ dsc_X2_isSort ⟨Nat.le_of_ble_eq_true rfl, Nat.le_of_ble_eq_true rfl⟩ rfl rfl (Nat.le_of_ble_eq_true rfl) dX2_amend_8 ⟨Nat.le_of_ble_eq_true rfl, Nat.le_of_ble_eq_true rfl⟩ (fun _ q => q.elim) (fun r0 u0 r_3 => ?_)
    subst r_3
    show fw_W _ _ _ _ _ _ _ _ _ _ _ _ _ _ _ _ _ _ _ (.int (b2i (m_in v 0 5 = true)) :: _)
    by_cases c_4 : m_in v 0 5 = true
    · obtain ⟨hx_v, hl_v⟩ := in_ix (h := 5) (N := 6) (by decide) (by decide) c_4
      refine fw_iv (y := 1) (if_pos c_4) ?_
      refine fw_if_eq (pc := 11) (tgt := 28) X dX2_amend_11 (by decide) (fun q => absurd q (by decide)) (fun _ => ?_)
      refine fw_iload_n (pc := 14) X dX2_amend_14 rfl 4 rfl ?_
      refine fw_iconst (pc := 15) (v := 0) X dX2_amend_15 (by decide) ?_
      refine fw_bipush (pc := 16) (v := 100) X dX2_amend_16 (by decide) ?_
      refine fw_callS (pc := 18) (n := 3) X hE [.int x, .int 0, .int 100] (ct_X2_isIn x 0 100) (by decide) gX2_amend_X2_isIn rfl ⟨rfl, rfl⟩ dsc_X2_isIn ⟨Nat.le_of_ble_eq_true rfl, Nat.le_of_ble_eq_true rfl⟩ rfl rfl (Nat.le_of_ble_eq_true rfl) dX2_amend_18 ⟨Nat.le_of_ble_eq_true rfl, Nat.le_of_ble_eq_true rfl⟩ (fun _ q => q.elim) (fun r0 u0 r_5 => ?_)
      subst r_5
      show fw_W _ _ _ _ _ _ _ _ _ _ _ _ _ _ _ _ _ _ _ (.int (b2i (m_in x 0 100 = true)) :: _)
      by_cases c_6 : m_in x 0 100 = true
      · obtain ⟨hx_x, hl_x⟩ := in_ix (h := 100) (N := 101) (by decide) (by decide) c_6
        refine fw_iv (y := 1) (if_pos c_6) ?_
        refine fw_if_eq (pc := 21) (tgt := 28) X dX2_amend_21 (by decide) (fun q => absurd q (by decide)) (fun _ => ?_)
        refine fw_iconst (pc := 24) (v := 1) X dX2_amend_24 (by decide) ?_
        refine fw_goto (pc := 25) (tgt := 29) X dX2_amend_25 (by decide) ?_
        refine fw_istore (pc := 29) (lv' := [(5, .int 1), (4, .int 1), (0, .ref (a 0)), (1, .int u), (2, .int v), (3, .int x)]) X dX2_amend_29 (by decide) rfl ?_
        refine fw_iload (pc := 31) X dX2_amend_31 1 rfl ?_
        refine fw_if_eq (pc := 33) (tgt := 69) X dX2_amend_33 (by decide) (fun q => absurd q (by decide)) (fun _ => ?_)
        refine fw_iload (pc := 36) X dX2_amend_36 0 rfl ?_
        refine fw_if_eq (pc := 38) (tgt := 69) X dX2_amend_38 (by decide) (fun q => absurd q (by decide)) (fun _ => ?_)
        refine fw_aload_n (pc := 41) X dX2_amend_41 rfl 2 rfl ?_
        refine fw_get (pc := 42) (v := .ref (a 10)) X iX2_amend_X2 0 M_obj rfl 10 (by decide) kX2_amend_35 rfl dX2_amend_42 ?_
        refine fw_iload_n (pc := 45) X dX2_amend_45 rfl 3 rfl ?_
        refine fw_iald (pc := 46) (f := G 10) X 8 0 (M_g10 (G := G)) rfl (ix u) hx_u (by omega) (by decide) dX2_amend_46 ?_
        refine fw_if_ne (pc := 47) (tgt := 69) X dX2_amend_47 (by decide) (fun c_7 => ?_) (fun c_7 => ?_)
        · refine fw_iconst (pc := 69) (v := 0) X dX2_amend_69 (by decide) ?_
          refine fw_istore (pc := 70) (lv' := [(6, .int 0), (5, .int 1), (4, .int 1), (0, .ref (a 0)), (1, .int u), (2, .int v), (3, .int x)]) X dX2_amend_70 (by decide) rfl ?_
          refine fw_aload_n (pc := 72) X dX2_amend_72 rfl 3 rfl ?_
          refine fw_iload (pc := 73) X dX2_amend_73 2 rfl ?_
          refine fw_if_ne (pc := 75) (tgt := 82) X dX2_amend_75 (by decide) (fun _ => ?_) (fun q => absurd q (by decide))
          refine fw_iload (pc := 82) X dX2_amend_82 1 rfl ?_
          refine fw_if_ne (pc := 84) (tgt := 91) X dX2_amend_84 (by decide) (fun _ => ?_) (fun q => absurd q (by decide))
          refine fw_iload (pc := 91) X dX2_amend_91 0 rfl ?_
          refine fw_if_ne (pc := 93) (tgt := 100) X dX2_amend_93 (by decide) (fun q => absurd (by decide) q) (fun _ => ?_)
          refine fw_iconst (pc := 96) (v := 3) X dX2_amend_96 (by decide) ?_
          refine fw_goto (pc := 97) (tgt := 101) X dX2_amend_97 (by decide) ?_
          refine fw_callV (pc := 101) (n := 1) (C := (RX2, TX2, 21)) (ci := 2) (q0 := 0) X hE [.int 3] (ct_X2_isFine 3) (by decide) gX2_amend_X2_isFine rfl ⟨rfl, rfl⟩ ⟨rfl, dsc_X2_isFine⟩ ⟨Nat.le_of_ble_eq_true rfl, Nat.le_of_ble_eq_true rfl⟩ rfl M_obj rfl rfl (Nat.le_of_ble_eq_true rfl) dX2_amend_101 ⟨Nat.le_of_ble_eq_true rfl, Nat.le_of_ble_eq_true rfl⟩ (fun _ q => q.elim) (fun r0 u0 r_8 => ?_)
          subst r_8
          show fw_W _ _ _ _ _ _ _ _ _ _ _ _ _ _ _ _ _ _ _ (.int (b2i (3 = 0)) :: _)
          refine fw_iv (y := 0) (if_neg (by decide)) ?_
          refine fw_if_ne (pc := 104) (tgt := 109) X dX2_amend_104 (by decide) (fun q => absurd (by decide) q) (fun _ => ?_)
          refine fw_iconst (pc := 107) (v := 0) X dX2_amend_107 (by decide) ?_
          exact fw_iret (pc := 108) X hr hlk (Nat.le_of_ble_eq_true rfl) (Nat.le_of_ble_eq_true rfl) dX2_amend_108 () (by simp [m_amd_v, m_amd_G, m_amd_k, upd, c_2, c_4, c_6, c_7]) (by simp [m_amd_v, m_amd_G, m_amd_k, upd, c_2, c_4, c_6, c_7])
        · refine fw_aload_n (pc := 50) X dX2_amend_50 rfl 2 rfl ?_
          refine fw_get (pc := 51) (v := .ref (a 16)) X iX2_amend_X2 0 M_obj rfl 16 (by decide) kX2_amend_54 rfl dX2_amend_51 ?_
          refine fw_bipush (pc := 54) (v := 6) X dX2_amend_54 (by decide) ?_
          refine fw_iload_n (pc := 56) X dX2_amend_56 rfl 3 rfl ?_
          refine fw_imul (pc := 57) X dX2_amend_57 ?_
          refine fw_iload_n (pc := 58) X dX2_amend_58 rfl 4 rfl ?_
          refine fw_iadd (pc := 59) X dX2_amend_59 ?_
          refine fw_iald (pc := 60) (f := G 16) X 14 0 (M_g16 (G := G)) rfl ((6 * (ix u)) + (ix v)) (nf_add (nf_mul (show (6 : Int32) = nI 6 from rfl) hx_u) hx_v) (by omega) (by decide) dX2_amend_60 ?_
          refine fw_iload_n (pc := 61) X dX2_amend_61 rfl 5 rfl ?_
          refine fw_icmp_eq (pc := 62) (tgt := 69) X dX2_amend_62 (by decide) (fun c_9 => ?_) (fun c_9 => ?_)
          · refine fw_iconst (pc := 69) (v := 0) X dX2_amend_69 (by decide) ?_
            refine fw_istore (pc := 70) (lv' := [(6, .int 0), (5, .int 1), (4, .int 1), (0, .ref (a 0)), (1, .int u), (2, .int v), (3, .int x)]) X dX2_amend_70 (by decide) rfl ?_
            refine fw_aload_n (pc := 72) X dX2_amend_72 rfl 3 rfl ?_
            refine fw_iload (pc := 73) X dX2_amend_73 2 rfl ?_
            refine fw_if_ne (pc := 75) (tgt := 82) X dX2_amend_75 (by decide) (fun _ => ?_) (fun q => absurd q (by decide))
            refine fw_iload (pc := 82) X dX2_amend_82 1 rfl ?_
            refine fw_if_ne (pc := 84) (tgt := 91) X dX2_amend_84 (by decide) (fun _ => ?_) (fun q => absurd q (by decide))
            refine fw_iload (pc := 91) X dX2_amend_91 0 rfl ?_
            refine fw_if_ne (pc := 93) (tgt := 100) X dX2_amend_93 (by decide) (fun q => absurd (by decide) q) (fun _ => ?_)
            refine fw_iconst (pc := 96) (v := 3) X dX2_amend_96 (by decide) ?_
            refine fw_goto (pc := 97) (tgt := 101) X dX2_amend_97 (by decide) ?_
            refine fw_callV (pc := 101) (n := 1) (C := (RX2, TX2, 21)) (ci := 2) (q0 := 0) X hE [.int 3] (ct_X2_isFine 3) (by decide) gX2_amend_X2_isFine rfl ⟨rfl, rfl⟩ ⟨rfl, dsc_X2_isFine⟩ ⟨Nat.le_of_ble_eq_true rfl, Nat.le_of_ble_eq_true rfl⟩ rfl M_obj rfl rfl (Nat.le_of_ble_eq_true rfl) dX2_amend_101 ⟨Nat.le_of_ble_eq_true rfl, Nat.le_of_ble_eq_true rfl⟩ (fun _ q => q.elim) (fun r0 u0 r_10 => ?_)
            subst r_10
            show fw_W _ _ _ _ _ _ _ _ _ _ _ _ _ _ _ _ _ _ _ (.int (b2i (3 = 0)) :: _)
            refine fw_iv (y := 0) (if_neg (by decide)) ?_
            refine fw_if_ne (pc := 104) (tgt := 109) X dX2_amend_104 (by decide) (fun q => absurd (by decide) q) (fun _ => ?_)
            refine fw_iconst (pc := 107) (v := 0) X dX2_amend_107 (by decide) ?_
            exact fw_iret (pc := 108) X hr hlk (Nat.le_of_ble_eq_true rfl) (Nat.le_of_ble_eq_true rfl) dX2_amend_108 () (by simp [m_amd_v, m_amd_G, m_amd_k, upd, c_2, c_4, c_6, c_7, c_9]) (by simp [m_amd_v, m_amd_G, m_amd_k, upd, c_2, c_4, c_6, c_7, c_9])
          · refine fw_iconst (pc := 65) (v := 1) X dX2_amend_65 (by decide) ?_
            refine fw_goto (pc := 66) (tgt := 70) X dX2_amend_66 (by decide) ?_
            refine fw_istore (pc := 70) (lv' := [(6, .int 1), (5, .int 1), (4, .int 1), (0, .ref (a 0)), (1, .int u), (2, .int v), (3, .int x)]) X dX2_amend_70 (by decide) rfl ?_
            refine fw_aload_n (pc := 72) X dX2_amend_72 rfl 3 rfl ?_
            refine fw_iload (pc := 73) X dX2_amend_73 2 rfl ?_
            refine fw_if_ne (pc := 75) (tgt := 82) X dX2_amend_75 (by decide) (fun _ => ?_) (fun q => absurd q (by decide))
            refine fw_iload (pc := 82) X dX2_amend_82 1 rfl ?_
            refine fw_if_ne (pc := 84) (tgt := 91) X dX2_amend_84 (by decide) (fun _ => ?_) (fun q => absurd q (by decide))
            refine fw_iload (pc := 91) X dX2_amend_91 0 rfl ?_
            refine fw_if_ne (pc := 93) (tgt := 100) X dX2_amend_93 (by decide) (fun _ => ?_) (fun q => absurd q (by decide))
            refine fw_iconst (pc := 100) (v := 0) X dX2_amend_100 (by decide) ?_
            refine fw_callV (pc := 101) (n := 1) (C := (RX2, TX2, 21)) (ci := 2) (q0 := 0) X hE [.int 0] (ct_X2_isFine 0) (by decide) gX2_amend_X2_isFine rfl ⟨rfl, rfl⟩ ⟨rfl, dsc_X2_isFine⟩ ⟨Nat.le_of_ble_eq_true rfl, Nat.le_of_ble_eq_true rfl⟩ rfl M_obj rfl rfl (Nat.le_of_ble_eq_true rfl) dX2_amend_101 ⟨Nat.le_of_ble_eq_true rfl, Nat.le_of_ble_eq_true rfl⟩ (fun _ q => q.elim) (fun r0 u0 r_11 => ?_)
            subst r_11
            show fw_W _ _ _ _ _ _ _ _ _ _ _ _ _ _ _ _ _ _ _ (.int (b2i (0 = 0)) :: _)
            refine fw_iv (y := 1) (if_pos (by decide)) ?_
            refine fw_if_ne (pc := 104) (tgt := 109) X dX2_amend_104 (by decide) (fun _ => ?_) (fun q => absurd q (by decide))
            refine fw_aload_n (pc := 109) X dX2_amend_109 rfl 3 rfl ?_
            refine fw_get (pc := 110) (v := .ref (a 16)) X iX2_amend_X2 0 M_obj rfl 16 (by decide) kX2_amend_54 rfl dX2_amend_110 ?_
            refine fw_bipush (pc := 113) (v := 6) X dX2_amend_113 (by decide) ?_
            refine fw_iload_n (pc := 115) X dX2_amend_115 rfl 4 rfl ?_
            refine fw_imul (pc := 116) X dX2_amend_116 ?_
            refine fw_iload_n (pc := 117) X dX2_amend_117 rfl 5 rfl ?_
            refine fw_iadd (pc := 118) X dX2_amend_118 ?_
            refine fw_iload_n (pc := 119) X dX2_amend_119 rfl 6 rfl ?_
            refine fw_iast (pc := 120) (f := G 16) (ws' := MW K a (upd F 0 0) (va_up G 16 (upd (G 16) ((6 * (ix u)) + (ix v)) x))) X 14 0 (M_g16 (G := G)) rfl ((6 * (ix u)) + (ix v)) (nf_add (nf_mul (show (6 : Int32) = nI 6 from rfl) hx_u) hx_v) (by omega) (by decide) dX2_amend_120 (M_s16 _) ?_
            refine fw_aload_n (pc := 121) X dX2_amend_121 rfl 3 rfl ?_
            refine fw_get (pc := 122) (v := .ref (a 11)) X iX2_amend_X2 0 M_obj rfl 11 (by decide) kX2_amend_38 rfl dX2_amend_122 ?_
            refine fw_iload_n (pc := 125) X dX2_amend_125 rfl 4 rfl ?_
            refine fw_dup2 (pc := 126) X dX2_amend_126 rfl rfl ?_
            refine fw_iald (pc := 127) (f := G 11) X 9 0 (M_g11 (G := (va_up G 16 (upd (G 16) ((6 * (ix u)) + (ix v)) x)))) rfl (ix u) hx_u (by omega) (by decide) dX2_amend_127 ?_
            refine fw_iconst (pc := 128) (v := 1) X dX2_amend_128 (by decide) ?_
            refine fw_iadd (pc := 129) X dX2_amend_129 ?_
            refine fw_iast (pc := 130) (f := G 11) (ws' := MW K a (upd F 0 0) (va_up (va_up G 16 (upd (G 16) ((6 * (ix u)) + (ix v)) x)) 11 (upd (G 11) (ix u) ((G 11 (ix u)) + 1)))) X 9 0 (M_g11 (G := (va_up G 16 (upd (G 16) ((6 * (ix u)) + (ix v)) x)))) rfl (ix u) hx_u (by omega) (by decide) dX2_amend_130 (M_s11 _) ?_
            refine fw_aload_n (pc := 131) X dX2_amend_131 rfl 3 rfl ?_
            refine fw_get (pc := 132) (v := .ref (a 11)) X iX2_amend_X2 0 M_obj rfl 11 (by decide) kX2_amend_38 rfl dX2_amend_132 ?_
            refine fw_iload_n (pc := 135) X dX2_amend_135 rfl 4 rfl ?_
            refine fw_iald (pc := 136) (f := upd (G 11) (ix u) ((G 11 (ix u)) + 1)) X 9 0 (M_g11 (G := (va_up (va_up G 16 (upd (G 16) ((6 * (ix u)) + (ix v)) x)) 11 (upd (G 11) (ix u) ((G 11 (ix u)) + 1))))) rfl (ix u) hx_u (by omega) (by decide) dX2_amend_136 ?_
            exact fw_iret (pc := 137) X hr hlk (Nat.le_of_ble_eq_true rfl) (Nat.le_of_ble_eq_true rfl) dX2_amend_137 () (by simp [m_amd_v, m_amd_G, m_amd_k, upd, c_2, c_4, c_6, c_7, c_9]) (by simp [m_amd_v, m_amd_G, m_amd_k, upd, c_2, c_4, c_6, c_7, c_9])
      · refine fw_iv (y := 0) (if_neg c_6) ?_
        refine fw_if_eq (pc := 21) (tgt := 28) X dX2_amend_21 (by decide) (fun _ => ?_) (fun q => absurd (by decide) q)
        refine fw_iconst (pc := 28) (v := 0) X dX2_amend_28 (by decide) ?_
        refine fw_istore (pc := 29) (lv' := [(5, .int 0), (4, .int 1), (0, .ref (a 0)), (1, .int u), (2, .int v), (3, .int x)]) X dX2_amend_29 (by decide) rfl ?_
        refine fw_iload (pc := 31) X dX2_amend_31 1 rfl ?_
        refine fw_if_eq (pc := 33) (tgt := 69) X dX2_amend_33 (by decide) (fun q => absurd q (by decide)) (fun _ => ?_)
        refine fw_iload (pc := 36) X dX2_amend_36 0 rfl ?_
        refine fw_if_eq (pc := 38) (tgt := 69) X dX2_amend_38 (by decide) (fun _ => ?_) (fun q => absurd (by decide) q)
        refine fw_iconst (pc := 69) (v := 0) X dX2_amend_69 (by decide) ?_
        refine fw_istore (pc := 70) (lv' := [(6, .int 0), (5, .int 0), (4, .int 1), (0, .ref (a 0)), (1, .int u), (2, .int v), (3, .int x)]) X dX2_amend_70 (by decide) rfl ?_
        refine fw_aload_n (pc := 72) X dX2_amend_72 rfl 3 rfl ?_
        refine fw_iload (pc := 73) X dX2_amend_73 2 rfl ?_
        refine fw_if_ne (pc := 75) (tgt := 82) X dX2_amend_75 (by decide) (fun _ => ?_) (fun q => absurd q (by decide))
        refine fw_iload (pc := 82) X dX2_amend_82 1 rfl ?_
        refine fw_if_ne (pc := 84) (tgt := 91) X dX2_amend_84 (by decide) (fun q => absurd (by decide) q) (fun _ => ?_)
        refine fw_iconst (pc := 87) (v := 2) X dX2_amend_87 (by decide) ?_
        refine fw_goto (pc := 88) (tgt := 101) X dX2_amend_88 (by decide) ?_
        refine fw_callV (pc := 101) (n := 1) (C := (RX2, TX2, 21)) (ci := 2) (q0 := 0) X hE [.int 2] (ct_X2_isFine 2) (by decide) gX2_amend_X2_isFine rfl ⟨rfl, rfl⟩ ⟨rfl, dsc_X2_isFine⟩ ⟨Nat.le_of_ble_eq_true rfl, Nat.le_of_ble_eq_true rfl⟩ rfl M_obj rfl rfl (Nat.le_of_ble_eq_true rfl) dX2_amend_101 ⟨Nat.le_of_ble_eq_true rfl, Nat.le_of_ble_eq_true rfl⟩ (fun _ q => q.elim) (fun r0 u0 r_12 => ?_)
        subst r_12
        show fw_W _ _ _ _ _ _ _ _ _ _ _ _ _ _ _ _ _ _ _ (.int (b2i (2 = 0)) :: _)
        refine fw_iv (y := 0) (if_neg (by decide)) ?_
        refine fw_if_ne (pc := 104) (tgt := 109) X dX2_amend_104 (by decide) (fun q => absurd (by decide) q) (fun _ => ?_)
        refine fw_iconst (pc := 107) (v := 0) X dX2_amend_107 (by decide) ?_
        exact fw_iret (pc := 108) X hr hlk (Nat.le_of_ble_eq_true rfl) (Nat.le_of_ble_eq_true rfl) dX2_amend_108 () (by simp [m_amd_v, m_amd_G, m_amd_k, upd, c_2, c_4, c_6]) (by simp [m_amd_v, m_amd_G, m_amd_k, upd, c_2, c_4, c_6])
    · refine fw_iv (y := 0) (if_neg c_4) ?_
      refine fw_if_eq (pc := 11) (tgt := 28) X dX2_amend_11 (by decide) (fun _ => ?_) (fun q => absurd (by decide) q)
      refine fw_iconst (pc := 28) (v := 0) X dX2_amend_28 (by decide) ?_
      refine fw_istore (pc := 29) (lv' := [(5, .int 0), (4, .int 1), (0, .ref (a 0)), (1, .int u), (2, .int v), (3, .int x)]) X dX2_amend_29 (by decide) rfl ?_
      refine fw_iload (pc := 31) X dX2_amend_31 1 rfl ?_
      refine fw_if_eq (pc := 33) (tgt := 69) X dX2_amend_33 (by decide) (fun q => absurd q (by decide)) (fun _ => ?_)
      refine fw_iload (pc := 36) X dX2_amend_36 0 rfl ?_
      refine fw_if_eq (pc := 38) (tgt := 69) X dX2_amend_38 (by decide) (fun _ => ?_) (fun q => absurd (by decide) q)
      refine fw_iconst (pc := 69) (v := 0) X dX2_amend_69 (by decide) ?_
      refine fw_istore (pc := 70) (lv' := [(6, .int 0), (5, .int 0), (4, .int 1), (0, .ref (a 0)), (1, .int u), (2, .int v), (3, .int x)]) X dX2_amend_70 (by decide) rfl ?_
      refine fw_aload_n (pc := 72) X dX2_amend_72 rfl 3 rfl ?_
      refine fw_iload (pc := 73) X dX2_amend_73 2 rfl ?_
      refine fw_if_ne (pc := 75) (tgt := 82) X dX2_amend_75 (by decide) (fun _ => ?_) (fun q => absurd q (by decide))
      refine fw_iload (pc := 82) X dX2_amend_82 1 rfl ?_
      refine fw_if_ne (pc := 84) (tgt := 91) X dX2_amend_84 (by decide) (fun q => absurd (by decide) q) (fun _ => ?_)
      refine fw_iconst (pc := 87) (v := 2) X dX2_amend_87 (by decide) ?_
      refine fw_goto (pc := 88) (tgt := 101) X dX2_amend_88 (by decide) ?_
      refine fw_callV (pc := 101) (n := 1) (C := (RX2, TX2, 21)) (ci := 2) (q0 := 0) X hE [.int 2] (ct_X2_isFine 2) (by decide) gX2_amend_X2_isFine rfl ⟨rfl, rfl⟩ ⟨rfl, dsc_X2_isFine⟩ ⟨Nat.le_of_ble_eq_true rfl, Nat.le_of_ble_eq_true rfl⟩ rfl M_obj rfl rfl (Nat.le_of_ble_eq_true rfl) dX2_amend_101 ⟨Nat.le_of_ble_eq_true rfl, Nat.le_of_ble_eq_true rfl⟩ (fun _ q => q.elim) (fun r0 u0 r_13 => ?_)
      subst r_13
      show fw_W _ _ _ _ _ _ _ _ _ _ _ _ _ _ _ _ _ _ _ (.int (b2i (2 = 0)) :: _)
      refine fw_iv (y := 0) (if_neg (by decide)) ?_
      refine fw_if_ne (pc := 104) (tgt := 109) X dX2_amend_104 (by decide) (fun q => absurd (by decide) q) (fun _ => ?_)
      refine fw_iconst (pc := 107) (v := 0) X dX2_amend_107 (by decide) ?_
      exact fw_iret (pc := 108) X hr hlk (Nat.le_of_ble_eq_true rfl) (Nat.le_of_ble_eq_true rfl) dX2_amend_108 () (by simp [m_amd_v, m_amd_G, m_amd_k, upd, c_2, c_4]) (by simp [m_amd_v, m_amd_G, m_amd_k, upd, c_2, c_4])
  · refine fw_iv (y := 0) (if_neg c_2) ?_
    refine fw_istore (pc := 5) (lv' := [(4, .int 0), (0, .ref (a 0)), (1, .int u), (2, .int v), (3, .int x)]) X dX2_amend_5 (by decide) rfl ?_
    refine fw_iload_n (pc := 7) X dX2_amend_7 rfl 3 rfl ?_
    refine fw_callS (pc := 8) (n := 1) X hE [.int v] (ct_X2_isSort v) (by decide) gX2_amend_X2_isSort rfl ⟨rfl, rfl⟩ dsc_X2_isSort ⟨Nat.le_of_ble_eq_true rfl, Nat.le_of_ble_eq_true rfl⟩ rfl rfl (Nat.le_of_ble_eq_true rfl) dX2_amend_8 ⟨Nat.le_of_ble_eq_true rfl, Nat.le_of_ble_eq_true rfl⟩ (fun _ q => q.elim) (fun r0 u0 r_14 => ?_)
    subst r_14
    show fw_W _ _ _ _ _ _ _ _ _ _ _ _ _ _ _ _ _ _ _ (.int (b2i (m_in v 0 5 = true)) :: _)
    by_cases c_15 : m_in v 0 5 = true
    · obtain ⟨hx_v, hl_v⟩ := in_ix (h := 5) (N := 6) (by decide) (by decide) c_15
      refine fw_iv (y := 1) (if_pos c_15) ?_
      refine fw_if_eq (pc := 11) (tgt := 28) X dX2_amend_11 (by decide) (fun q => absurd q (by decide)) (fun _ => ?_)
      refine fw_iload_n (pc := 14) X dX2_amend_14 rfl 4 rfl ?_
      refine fw_iconst (pc := 15) (v := 0) X dX2_amend_15 (by decide) ?_
      refine fw_bipush (pc := 16) (v := 100) X dX2_amend_16 (by decide) ?_
      refine fw_callS (pc := 18) (n := 3) X hE [.int x, .int 0, .int 100] (ct_X2_isIn x 0 100) (by decide) gX2_amend_X2_isIn rfl ⟨rfl, rfl⟩ dsc_X2_isIn ⟨Nat.le_of_ble_eq_true rfl, Nat.le_of_ble_eq_true rfl⟩ rfl rfl (Nat.le_of_ble_eq_true rfl) dX2_amend_18 ⟨Nat.le_of_ble_eq_true rfl, Nat.le_of_ble_eq_true rfl⟩ (fun _ q => q.elim) (fun r0 u0 r_16 => ?_)
      subst r_16
      show fw_W _ _ _ _ _ _ _ _ _ _ _ _ _ _ _ _ _ _ _ (.int (b2i (m_in x 0 100 = true)) :: _)
      by_cases c_17 : m_in x 0 100 = true
      · obtain ⟨hx_x, hl_x⟩ := in_ix (h := 100) (N := 101) (by decide) (by decide) c_17
        refine fw_iv (y := 1) (if_pos c_17) ?_
        refine fw_if_eq (pc := 21) (tgt := 28) X dX2_amend_21 (by decide) (fun q => absurd q (by decide)) (fun _ => ?_)
        refine fw_iconst (pc := 24) (v := 1) X dX2_amend_24 (by decide) ?_
        refine fw_goto (pc := 25) (tgt := 29) X dX2_amend_25 (by decide) ?_
        refine fw_istore (pc := 29) (lv' := [(5, .int 1), (4, .int 0), (0, .ref (a 0)), (1, .int u), (2, .int v), (3, .int x)]) X dX2_amend_29 (by decide) rfl ?_
        refine fw_iload (pc := 31) X dX2_amend_31 1 rfl ?_
        refine fw_if_eq (pc := 33) (tgt := 69) X dX2_amend_33 (by decide) (fun _ => ?_) (fun q => absurd (by decide) q)
        refine fw_iconst (pc := 69) (v := 0) X dX2_amend_69 (by decide) ?_
        refine fw_istore (pc := 70) (lv' := [(6, .int 0), (5, .int 1), (4, .int 0), (0, .ref (a 0)), (1, .int u), (2, .int v), (3, .int x)]) X dX2_amend_70 (by decide) rfl ?_
        refine fw_aload_n (pc := 72) X dX2_amend_72 rfl 3 rfl ?_
        refine fw_iload (pc := 73) X dX2_amend_73 2 rfl ?_
        refine fw_if_ne (pc := 75) (tgt := 82) X dX2_amend_75 (by decide) (fun q => absurd (by decide) q) (fun _ => ?_)
        refine fw_iconst (pc := 78) (v := 1) X dX2_amend_78 (by decide) ?_
        refine fw_goto (pc := 79) (tgt := 101) X dX2_amend_79 (by decide) ?_
        refine fw_callV (pc := 101) (n := 1) (C := (RX2, TX2, 21)) (ci := 2) (q0 := 0) X hE [.int 1] (ct_X2_isFine 1) (by decide) gX2_amend_X2_isFine rfl ⟨rfl, rfl⟩ ⟨rfl, dsc_X2_isFine⟩ ⟨Nat.le_of_ble_eq_true rfl, Nat.le_of_ble_eq_true rfl⟩ rfl M_obj rfl rfl (Nat.le_of_ble_eq_true rfl) dX2_amend_101 ⟨Nat.le_of_ble_eq_true rfl, Nat.le_of_ble_eq_true rfl⟩ (fun _ q => q.elim) (fun r0 u0 r_18 => ?_)
        subst r_18
        show fw_W _ _ _ _ _ _ _ _ _ _ _ _ _ _ _ _ _ _ _ (.int (b2i (1 = 0)) :: _)
        refine fw_iv (y := 0) (if_neg (by decide)) ?_
        refine fw_if_ne (pc := 104) (tgt := 109) X dX2_amend_104 (by decide) (fun q => absurd (by decide) q) (fun _ => ?_)
        refine fw_iconst (pc := 107) (v := 0) X dX2_amend_107 (by decide) ?_
        exact fw_iret (pc := 108) X hr hlk (Nat.le_of_ble_eq_true rfl) (Nat.le_of_ble_eq_true rfl) dX2_amend_108 () (by simp [m_amd_v, m_amd_G, m_amd_k, upd, c_2, c_15, c_17]) (by simp [m_amd_v, m_amd_G, m_amd_k, upd, c_2, c_15, c_17])
      · refine fw_iv (y := 0) (if_neg c_17) ?_
        refine fw_if_eq (pc := 21) (tgt := 28) X dX2_amend_21 (by decide) (fun _ => ?_) (fun q => absurd (by decide) q)
        refine fw_iconst (pc := 28) (v := 0) X dX2_amend_28 (by decide) ?_
        refine fw_istore (pc := 29) (lv' := [(5, .int 0), (4, .int 0), (0, .ref (a 0)), (1, .int u), (2, .int v), (3, .int x)]) X dX2_amend_29 (by decide) rfl ?_
        refine fw_iload (pc := 31) X dX2_amend_31 1 rfl ?_
        refine fw_if_eq (pc := 33) (tgt := 69) X dX2_amend_33 (by decide) (fun _ => ?_) (fun q => absurd (by decide) q)
        refine fw_iconst (pc := 69) (v := 0) X dX2_amend_69 (by decide) ?_
        refine fw_istore (pc := 70) (lv' := [(6, .int 0), (5, .int 0), (4, .int 0), (0, .ref (a 0)), (1, .int u), (2, .int v), (3, .int x)]) X dX2_amend_70 (by decide) rfl ?_
        refine fw_aload_n (pc := 72) X dX2_amend_72 rfl 3 rfl ?_
        refine fw_iload (pc := 73) X dX2_amend_73 2 rfl ?_
        refine fw_if_ne (pc := 75) (tgt := 82) X dX2_amend_75 (by decide) (fun q => absurd (by decide) q) (fun _ => ?_)
        refine fw_iconst (pc := 78) (v := 1) X dX2_amend_78 (by decide) ?_
        refine fw_goto (pc := 79) (tgt := 101) X dX2_amend_79 (by decide) ?_
        refine fw_callV (pc := 101) (n := 1) (C := (RX2, TX2, 21)) (ci := 2) (q0 := 0) X hE [.int 1] (ct_X2_isFine 1) (by decide) gX2_amend_X2_isFine rfl ⟨rfl, rfl⟩ ⟨rfl, dsc_X2_isFine⟩ ⟨Nat.le_of_ble_eq_true rfl, Nat.le_of_ble_eq_true rfl⟩ rfl M_obj rfl rfl (Nat.le_of_ble_eq_true rfl) dX2_amend_101 ⟨Nat.le_of_ble_eq_true rfl, Nat.le_of_ble_eq_true rfl⟩ (fun _ q => q.elim) (fun r0 u0 r_19 => ?_)
        subst r_19
        show fw_W _ _ _ _ _ _ _ _ _ _ _ _ _ _ _ _ _ _ _ (.int (b2i (1 = 0)) :: _)
        refine fw_iv (y := 0) (if_neg (by decide)) ?_
        refine fw_if_ne (pc := 104) (tgt := 109) X dX2_amend_104 (by decide) (fun q => absurd (by decide) q) (fun _ => ?_)
        refine fw_iconst (pc := 107) (v := 0) X dX2_amend_107 (by decide) ?_
        exact fw_iret (pc := 108) X hr hlk (Nat.le_of_ble_eq_true rfl) (Nat.le_of_ble_eq_true rfl) dX2_amend_108 () (by simp [m_amd_v, m_amd_G, m_amd_k, upd, c_2, c_15, c_17]) (by simp [m_amd_v, m_amd_G, m_amd_k, upd, c_2, c_15, c_17])
    · refine fw_iv (y := 0) (if_neg c_15) ?_
      refine fw_if_eq (pc := 11) (tgt := 28) X dX2_amend_11 (by decide) (fun _ => ?_) (fun q => absurd (by decide) q)
      refine fw_iconst (pc := 28) (v := 0) X dX2_amend_28 (by decide) ?_
      refine fw_istore (pc := 29) (lv' := [(5, .int 0), (4, .int 0), (0, .ref (a 0)), (1, .int u), (2, .int v), (3, .int x)]) X dX2_amend_29 (by decide) rfl ?_
      refine fw_iload (pc := 31) X dX2_amend_31 1 rfl ?_
      refine fw_if_eq (pc := 33) (tgt := 69) X dX2_amend_33 (by decide) (fun _ => ?_) (fun q => absurd (by decide) q)
      refine fw_iconst (pc := 69) (v := 0) X dX2_amend_69 (by decide) ?_
      refine fw_istore (pc := 70) (lv' := [(6, .int 0), (5, .int 0), (4, .int 0), (0, .ref (a 0)), (1, .int u), (2, .int v), (3, .int x)]) X dX2_amend_70 (by decide) rfl ?_
      refine fw_aload_n (pc := 72) X dX2_amend_72 rfl 3 rfl ?_
      refine fw_iload (pc := 73) X dX2_amend_73 2 rfl ?_
      refine fw_if_ne (pc := 75) (tgt := 82) X dX2_amend_75 (by decide) (fun q => absurd (by decide) q) (fun _ => ?_)
      refine fw_iconst (pc := 78) (v := 1) X dX2_amend_78 (by decide) ?_
      refine fw_goto (pc := 79) (tgt := 101) X dX2_amend_79 (by decide) ?_
      refine fw_callV (pc := 101) (n := 1) (C := (RX2, TX2, 21)) (ci := 2) (q0 := 0) X hE [.int 1] (ct_X2_isFine 1) (by decide) gX2_amend_X2_isFine rfl ⟨rfl, rfl⟩ ⟨rfl, dsc_X2_isFine⟩ ⟨Nat.le_of_ble_eq_true rfl, Nat.le_of_ble_eq_true rfl⟩ rfl M_obj rfl rfl (Nat.le_of_ble_eq_true rfl) dX2_amend_101 ⟨Nat.le_of_ble_eq_true rfl, Nat.le_of_ble_eq_true rfl⟩ (fun _ q => q.elim) (fun r0 u0 r_20 => ?_)
      subst r_20
      show fw_W _ _ _ _ _ _ _ _ _ _ _ _ _ _ _ _ _ _ _ (.int (b2i (1 = 0)) :: _)
      refine fw_iv (y := 0) (if_neg (by decide)) ?_
      refine fw_if_ne (pc := 104) (tgt := 109) X dX2_amend_104 (by decide) (fun q => absurd (by decide) q) (fun _ => ?_)
      refine fw_iconst (pc := 107) (v := 0) X dX2_amend_107 (by decide) ?_
      exact fw_iret (pc := 108) X hr hlk (Nat.le_of_ble_eq_true rfl) (Nat.le_of_ble_eq_true rfl) dX2_amend_108 () (by simp [m_amd_v, m_amd_G, m_amd_k, upd, c_2, c_15]) (by simp [m_amd_v, m_amd_G, m_amd_k, upd, c_2, c_15])
theorem kX2_arrive_35 : Cond.fieldLink RX2 35 (TX2 10).1 (TX2 10).2.1 (TX2 10).2.2.1 ∈ wsX2_arrive := by decide +kernel
set_option maxRecDepth 20000 in
theorem iX2_arrive_X2 : ∀ w ∈ wsX20, w ∈ wsX2_arrive := by decide +kernel
theorem kX2_arrive_96 : Cond.fieldLink RX2 96 (TX2 20).1 (TX2 20).2.1 (TX2 20).2.2.1 ∈ wsX2_arrive := by decide +kernel
theorem kX2_arrive_47 : Cond.fieldLink RX2 47 (TX2 14).1 (TX2 14).2.1 (TX2 14).2.2.1 ∈ wsX2_arrive := by decide +kernel
theorem kX2_arrive_80 : Cond.fieldLink RX2 80 (TX2 4).1 (TX2 4).2.1 (TX2 4).2.2.1 ∈ wsX2_arrive := by decide +kernel
theorem kX2_arrive_51 : Cond.fieldLink RX2 51 (TX2 15).1 (TX2 15).2.1 (TX2 15).2.2.1 ∈ wsX2_arrive := by decide +kernel
theorem kX2_arrive_32 : Cond.fieldLink RX2 32 (TX2 9).1 (TX2 9).2.1 (TX2 9).2.2.1 ∈ wsX2_arrive := by decide +kernel
theorem dsc_X2_arrive : fw_dsc yX2_arrive 2 := by decide +kernel
set_option maxHeartbeats 4000000 in
set_option maxRecDepth 100000 in
theorem ct_X2_arrive {l : Launch} {D : va_G} {K : Nat → ClassId} {a : Nat → Nat} {F : Nat → Int32} {G : Nat → Nat → Int32} (u x : Int32) {n : Nat} (hn : F 19 = nI n) (hn15 : n ≤ 15) : fw_C (S := Unit) l yX2_arrive wsX2_arrive ({ frames := 2, cells := 0, slots := 0, locals := 44 }) 0 0 false [.ref (a 0), .int u, .int x] D (tyS K) (MW K a F G) (fun r _ => r = some (.int (m_arr_v F G u x))) (fun _ => MW K a (m_arr_F F G u x) (m_arr_G F G u x)) (fun _ => False) := by
  refine fw_met (maxL := 5) (ret := (some .boolean)) (by decide) rfl (Nat.le_of_ble_eq_true rfl) ?_
  intro p e s m args below meth c A X hr hlk hnm htab hE
  refine fw_lv (lv' := [(0, .ref (a 0)), (1, .int u), (2, .int x)]) [0, 1, 2] rfl ?_
  refine fw_aload_n (pc := 0) X dX2_arrive_0 rfl 0 rfl ?_
  refine fw_iload_n (pc := 1) X dX2_arrive_1 rfl 1 rfl ?_
  refine fw_callV (pc := 2) (n := 1) (C := (RX2, TX2, 21)) (ci := 2) (q0 := 0) X hE [.int u] (ct_X2_isConsignment u) (by decide) gX2_arrive_X2_isConsignment rfl ⟨rfl, rfl⟩ ⟨rfl, dsc_X2_isConsignment⟩ ⟨Nat.le_of_ble_eq_true rfl, Nat.le_of_ble_eq_true rfl⟩ rfl M_obj rfl rfl (Nat.le_of_ble_eq_true rfl) dX2_arrive_2 ⟨Nat.le_of_ble_eq_true rfl, Nat.le_of_ble_eq_true rfl⟩ (fun _ q => q.elim) (fun r0 u0 r_1 => ?_)
  subst r_1
  show fw_W _ _ _ _ _ _ _ _ _ _ _ _ _ _ _ _ _ _ _ (.int (b2i (m_in u 0 (F 19 - 1) = true)) :: _)
  by_cases c_2 : m_in u 0 (F 19 - 1) = true
  · obtain ⟨hx_u, hl_u⟩ := in_con hn15 (by rw [← hn]; exact c_2)
    refine fw_iv (y := 1) (if_pos c_2) ?_
    refine fw_istore_n (pc := 5) (lv' := [(3, .int 1), (0, .ref (a 0)), (1, .int u), (2, .int x)]) X dX2_arrive_5 rfl (by decide) rfl ?_
    refine fw_iload_n (pc := 6) X dX2_arrive_6 rfl 0 rfl ?_
    refine fw_if_eq (pc := 7) (tgt := 31) X dX2_arrive_7 (by decide) (fun q => absurd q (by decide)) (fun _ => ?_)
    refine fw_aload_n (pc := 10) X dX2_arrive_10 rfl 1 rfl ?_
    refine fw_get (pc := 11) (v := .ref (a 10)) X iX2_arrive_X2 0 M_obj rfl 10 (by decide) kX2_arrive_35 rfl dX2_arrive_11 ?_
    refine fw_iload_n (pc := 14) X dX2_arrive_14 rfl 2 rfl ?_
    refine fw_iald (pc := 15) (f := G 10) X 8 0 (M_g10 (G := G)) rfl (ix u) hx_u (by omega) (by decide) dX2_arrive_15 ?_
    refine fw_if_ne (pc := 16) (tgt := 31) X dX2_arrive_16 (by decide) (fun c_3 => ?_) (fun c_3 => ?_)
    · refine fw_iconst (pc := 31) (v := 0) X dX2_arrive_31 (by decide) ?_
      refine fw_istore (pc := 32) (lv' := [(4, .int 0), (3, .int 1), (0, .ref (a 0)), (1, .int u), (2, .int x)]) X dX2_arrive_32 (by decide) rfl ?_
      refine fw_aload_n (pc := 34) X dX2_arrive_34 rfl 2 rfl ?_
      refine fw_iload_n (pc := 35) X dX2_arrive_35 rfl 1 rfl ?_
      refine fw_if_ne (pc := 36) (tgt := 43) X dX2_arrive_36 (by decide) (fun _ => ?_) (fun q => absurd q (by decide))
      refine fw_iload_n (pc := 43) X dX2_arrive_43 rfl 4 rfl ?_
      refine fw_iconst (pc := 44) (v := 0) X dX2_arrive_44 (by decide) ?_
      refine fw_sipush (pc := 45) (v := 999) X dX2_arrive_45 (by decide) ?_
      refine fw_callS (pc := 48) (n := 3) X hE [.int x, .int 0, .int 999] (ct_X2_isIn x 0 999) (by decide) gX2_arrive_X2_isIn rfl ⟨rfl, rfl⟩ dsc_X2_isIn ⟨Nat.le_of_ble_eq_true rfl, Nat.le_of_ble_eq_true rfl⟩ rfl rfl (Nat.le_of_ble_eq_true rfl) dX2_arrive_48 ⟨Nat.le_of_ble_eq_true rfl, Nat.le_of_ble_eq_true rfl⟩ (fun _ q => q.elim) (fun r0 u0 r_4 => ?_)
      subst r_4
      show fw_W _ _ _ _ _ _ _ _ _ _ _ _ _ _ _ _ _ _ _ (.int (b2i (m_in x 0 999 = true)) :: _)
      by_cases c_5 : m_in x 0 999 = true
      · obtain ⟨hx_x, hl_x⟩ := in_ix (h := 999) (N := 1000) (by decide) (by decide) c_5
        refine fw_iv (y := 1) (if_pos c_5) ?_
        refine fw_if_ne (pc := 51) (tgt := 58) X dX2_arrive_51 (by decide) (fun _ => ?_) (fun q => absurd q (by decide))
        refine fw_iload (pc := 58) X dX2_arrive_58 0 rfl ?_
        refine fw_if_ne (pc := 60) (tgt := 67) X dX2_arrive_60 (by decide) (fun q => absurd (by decide) q) (fun _ => ?_)
        refine fw_iconst (pc := 63) (v := 3) X dX2_arrive_63 (by decide) ?_
        refine fw_goto (pc := 64) (tgt := 68) X dX2_arrive_64 (by decide) ?_
        refine fw_callV (pc := 68) (n := 1) (C := (RX2, TX2, 21)) (ci := 2) (q0 := 0) X hE [.int 3] (ct_X2_isFine 3) (by decide) gX2_arrive_X2_isFine rfl ⟨rfl, rfl⟩ ⟨rfl, dsc_X2_isFine⟩ ⟨Nat.le_of_ble_eq_true rfl, Nat.le_of_ble_eq_true rfl⟩ rfl M_obj rfl rfl (Nat.le_of_ble_eq_true rfl) dX2_arrive_68 ⟨Nat.le_of_ble_eq_true rfl, Nat.le_of_ble_eq_true rfl⟩ (fun _ q => q.elim) (fun r0 u0 r_6 => ?_)
        subst r_6
        show fw_W _ _ _ _ _ _ _ _ _ _ _ _ _ _ _ _ _ _ _ (.int (b2i (3 = 0)) :: _)
        refine fw_iv (y := 0) (if_neg (by decide)) ?_
        refine fw_if_ne (pc := 71) (tgt := 76) X dX2_arrive_71 (by decide) (fun q => absurd (by decide) q) (fun _ => ?_)
        refine fw_iconst (pc := 74) (v := 0) X dX2_arrive_74 (by decide) ?_
        exact fw_zret (pc := 75) X hr nr_0 hlk (Nat.le_of_ble_eq_true rfl) (Nat.le_of_ble_eq_true rfl) dX2_arrive_75 () (by simp [m_arr_v, m_arr_F, m_arr_G, m_arr_k, m_smp, c_2, c_3, c_5]) (by simp [m_arr_v, m_arr_F, m_arr_G, m_arr_k, m_smp, c_2, c_3, c_5])
      · refine fw_iv (y := 0) (if_neg c_5) ?_
        refine fw_if_ne (pc := 51) (tgt := 58) X dX2_arrive_51 (by decide) (fun q => absurd (by decide) q) (fun _ => ?_)
        refine fw_iconst (pc := 54) (v := 2) X dX2_arrive_54 (by decide) ?_
        refine fw_goto (pc := 55) (tgt := 68) X dX2_arrive_55 (by decide) ?_
        refine fw_callV (pc := 68) (n := 1) (C := (RX2, TX2, 21)) (ci := 2) (q0 := 0) X hE [.int 2] (ct_X2_isFine 2) (by decide) gX2_arrive_X2_isFine rfl ⟨rfl, rfl⟩ ⟨rfl, dsc_X2_isFine⟩ ⟨Nat.le_of_ble_eq_true rfl, Nat.le_of_ble_eq_true rfl⟩ rfl M_obj rfl rfl (Nat.le_of_ble_eq_true rfl) dX2_arrive_68 ⟨Nat.le_of_ble_eq_true rfl, Nat.le_of_ble_eq_true rfl⟩ (fun _ q => q.elim) (fun r0 u0 r_7 => ?_)
        subst r_7
        show fw_W _ _ _ _ _ _ _ _ _ _ _ _ _ _ _ _ _ _ _ (.int (b2i (2 = 0)) :: _)
        refine fw_iv (y := 0) (if_neg (by decide)) ?_
        refine fw_if_ne (pc := 71) (tgt := 76) X dX2_arrive_71 (by decide) (fun q => absurd (by decide) q) (fun _ => ?_)
        refine fw_iconst (pc := 74) (v := 0) X dX2_arrive_74 (by decide) ?_
        exact fw_zret (pc := 75) X hr nr_0 hlk (Nat.le_of_ble_eq_true rfl) (Nat.le_of_ble_eq_true rfl) dX2_arrive_75 () (by simp [m_arr_v, m_arr_F, m_arr_G, m_arr_k, m_smp, c_2, c_3, c_5]) (by simp [m_arr_v, m_arr_F, m_arr_G, m_arr_k, m_smp, c_2, c_3, c_5])
    · refine fw_aload_n (pc := 19) X dX2_arrive_19 rfl 1 rfl ?_
      refine fw_iload_n (pc := 20) X dX2_arrive_20 rfl 2 rfl ?_
      refine fw_callV (pc := 21) (n := 1) (C := (RX2, TX2, 21)) (ci := 2) (q0 := 0) X hE [.int u] (ct_X2_isEmpty u (ix u) hx_u (by omega)) (by decide) gX2_arrive_X2_isEmpty rfl ⟨rfl, rfl⟩ ⟨rfl, dsc_X2_isEmpty⟩ ⟨Nat.le_of_ble_eq_true rfl, Nat.le_of_ble_eq_true rfl⟩ rfl M_obj rfl rfl (Nat.le_of_ble_eq_true rfl) dX2_arrive_21 ⟨Nat.le_of_ble_eq_true rfl, Nat.le_of_ble_eq_true rfl⟩ (fun _ q => q.elim) (fun r0 u0 r_8 => ?_)
      subst r_8
      show fw_W _ _ _ _ _ _ _ _ _ _ _ _ _ _ _ _ _ _ _ (.int (b2i (m_em G (ix u) 6 = 0)) :: _)
      by_cases c_9 : m_em G (ix u) 6 = 0
      · refine fw_iv (y := 1) (if_pos c_9) ?_
        refine fw_if_ne (pc := 24) (tgt := 31) X dX2_arrive_24 (by decide) (fun _ => ?_) (fun q => absurd q (by decide))
        refine fw_iconst (pc := 31) (v := 0) X dX2_arrive_31 (by decide) ?_
        refine fw_istore (pc := 32) (lv' := [(4, .int 0), (3, .int 1), (0, .ref (a 0)), (1, .int u), (2, .int x)]) X dX2_arrive_32 (by decide) rfl ?_
        refine fw_aload_n (pc := 34) X dX2_arrive_34 rfl 2 rfl ?_
        refine fw_iload_n (pc := 35) X dX2_arrive_35 rfl 1 rfl ?_
        refine fw_if_ne (pc := 36) (tgt := 43) X dX2_arrive_36 (by decide) (fun _ => ?_) (fun q => absurd q (by decide))
        refine fw_iload_n (pc := 43) X dX2_arrive_43 rfl 4 rfl ?_
        refine fw_iconst (pc := 44) (v := 0) X dX2_arrive_44 (by decide) ?_
        refine fw_sipush (pc := 45) (v := 999) X dX2_arrive_45 (by decide) ?_
        refine fw_callS (pc := 48) (n := 3) X hE [.int x, .int 0, .int 999] (ct_X2_isIn x 0 999) (by decide) gX2_arrive_X2_isIn rfl ⟨rfl, rfl⟩ dsc_X2_isIn ⟨Nat.le_of_ble_eq_true rfl, Nat.le_of_ble_eq_true rfl⟩ rfl rfl (Nat.le_of_ble_eq_true rfl) dX2_arrive_48 ⟨Nat.le_of_ble_eq_true rfl, Nat.le_of_ble_eq_true rfl⟩ (fun _ q => q.elim) (fun r0 u0 r_10 => ?_)
        subst r_10
        show fw_W _ _ _ _ _ _ _ _ _ _ _ _ _ _ _ _ _ _ _ (.int (b2i (m_in x 0 999 = true)) :: _)
        by_cases c_11 : m_in x 0 999 = true
        · obtain ⟨hx_x, hl_x⟩ := in_ix (h := 999) (N := 1000) (by decide) (by decide) c_11
          refine fw_iv (y := 1) (if_pos c_11) ?_
          refine fw_if_ne (pc := 51) (tgt := 58) X dX2_arrive_51 (by decide) (fun _ => ?_) (fun q => absurd q (by decide))
          refine fw_iload (pc := 58) X dX2_arrive_58 0 rfl ?_
          refine fw_if_ne (pc := 60) (tgt := 67) X dX2_arrive_60 (by decide) (fun q => absurd (by decide) q) (fun _ => ?_)
          refine fw_iconst (pc := 63) (v := 3) X dX2_arrive_63 (by decide) ?_
          refine fw_goto (pc := 64) (tgt := 68) X dX2_arrive_64 (by decide) ?_
          refine fw_callV (pc := 68) (n := 1) (C := (RX2, TX2, 21)) (ci := 2) (q0 := 0) X hE [.int 3] (ct_X2_isFine 3) (by decide) gX2_arrive_X2_isFine rfl ⟨rfl, rfl⟩ ⟨rfl, dsc_X2_isFine⟩ ⟨Nat.le_of_ble_eq_true rfl, Nat.le_of_ble_eq_true rfl⟩ rfl M_obj rfl rfl (Nat.le_of_ble_eq_true rfl) dX2_arrive_68 ⟨Nat.le_of_ble_eq_true rfl, Nat.le_of_ble_eq_true rfl⟩ (fun _ q => q.elim) (fun r0 u0 r_12 => ?_)
          subst r_12
          show fw_W _ _ _ _ _ _ _ _ _ _ _ _ _ _ _ _ _ _ _ (.int (b2i (3 = 0)) :: _)
          refine fw_iv (y := 0) (if_neg (by decide)) ?_
          refine fw_if_ne (pc := 71) (tgt := 76) X dX2_arrive_71 (by decide) (fun q => absurd (by decide) q) (fun _ => ?_)
          refine fw_iconst (pc := 74) (v := 0) X dX2_arrive_74 (by decide) ?_
          exact fw_zret (pc := 75) X hr nr_0 hlk (Nat.le_of_ble_eq_true rfl) (Nat.le_of_ble_eq_true rfl) dX2_arrive_75 () (by simp [m_arr_v, m_arr_F, m_arr_G, m_arr_k, m_smp, c_2, c_3, c_9, c_11]) (by simp [m_arr_v, m_arr_F, m_arr_G, m_arr_k, m_smp, c_2, c_3, c_9, c_11])
        · refine fw_iv (y := 0) (if_neg c_11) ?_
          refine fw_if_ne (pc := 51) (tgt := 58) X dX2_arrive_51 (by decide) (fun q => absurd (by decide) q) (fun _ => ?_)
          refine fw_iconst (pc := 54) (v := 2) X dX2_arrive_54 (by decide) ?_
          refine fw_goto (pc := 55) (tgt := 68) X dX2_arrive_55 (by decide) ?_
          refine fw_callV (pc := 68) (n := 1) (C := (RX2, TX2, 21)) (ci := 2) (q0 := 0) X hE [.int 2] (ct_X2_isFine 2) (by decide) gX2_arrive_X2_isFine rfl ⟨rfl, rfl⟩ ⟨rfl, dsc_X2_isFine⟩ ⟨Nat.le_of_ble_eq_true rfl, Nat.le_of_ble_eq_true rfl⟩ rfl M_obj rfl rfl (Nat.le_of_ble_eq_true rfl) dX2_arrive_68 ⟨Nat.le_of_ble_eq_true rfl, Nat.le_of_ble_eq_true rfl⟩ (fun _ q => q.elim) (fun r0 u0 r_13 => ?_)
          subst r_13
          show fw_W _ _ _ _ _ _ _ _ _ _ _ _ _ _ _ _ _ _ _ (.int (b2i (2 = 0)) :: _)
          refine fw_iv (y := 0) (if_neg (by decide)) ?_
          refine fw_if_ne (pc := 71) (tgt := 76) X dX2_arrive_71 (by decide) (fun q => absurd (by decide) q) (fun _ => ?_)
          refine fw_iconst (pc := 74) (v := 0) X dX2_arrive_74 (by decide) ?_
          exact fw_zret (pc := 75) X hr nr_0 hlk (Nat.le_of_ble_eq_true rfl) (Nat.le_of_ble_eq_true rfl) dX2_arrive_75 () (by simp [m_arr_v, m_arr_F, m_arr_G, m_arr_k, m_smp, c_2, c_3, c_9, c_11]) (by simp [m_arr_v, m_arr_F, m_arr_G, m_arr_k, m_smp, c_2, c_3, c_9, c_11])
      · refine fw_iv (y := 0) (if_neg c_9) ?_
        refine fw_if_ne (pc := 24) (tgt := 31) X dX2_arrive_24 (by decide) (fun q => absurd (by decide) q) (fun _ => ?_)
        refine fw_iconst (pc := 27) (v := 1) X dX2_arrive_27 (by decide) ?_
        refine fw_goto (pc := 28) (tgt := 32) X dX2_arrive_28 (by decide) ?_
        refine fw_istore (pc := 32) (lv' := [(4, .int 1), (3, .int 1), (0, .ref (a 0)), (1, .int u), (2, .int x)]) X dX2_arrive_32 (by decide) rfl ?_
        refine fw_aload_n (pc := 34) X dX2_arrive_34 rfl 2 rfl ?_
        refine fw_iload_n (pc := 35) X dX2_arrive_35 rfl 1 rfl ?_
        refine fw_if_ne (pc := 36) (tgt := 43) X dX2_arrive_36 (by decide) (fun _ => ?_) (fun q => absurd q (by decide))
        refine fw_iload_n (pc := 43) X dX2_arrive_43 rfl 4 rfl ?_
        refine fw_iconst (pc := 44) (v := 0) X dX2_arrive_44 (by decide) ?_
        refine fw_sipush (pc := 45) (v := 999) X dX2_arrive_45 (by decide) ?_
        refine fw_callS (pc := 48) (n := 3) X hE [.int x, .int 0, .int 999] (ct_X2_isIn x 0 999) (by decide) gX2_arrive_X2_isIn rfl ⟨rfl, rfl⟩ dsc_X2_isIn ⟨Nat.le_of_ble_eq_true rfl, Nat.le_of_ble_eq_true rfl⟩ rfl rfl (Nat.le_of_ble_eq_true rfl) dX2_arrive_48 ⟨Nat.le_of_ble_eq_true rfl, Nat.le_of_ble_eq_true rfl⟩ (fun _ q => q.elim) (fun r0 u0 r_14 => ?_)
        subst r_14
        show fw_W _ _ _ _ _ _ _ _ _ _ _ _ _ _ _ _ _ _ _ (.int (b2i (m_in x 0 999 = true)) :: _)
        by_cases c_15 : m_in x 0 999 = true
        · obtain ⟨hx_x, hl_x⟩ := in_ix (h := 999) (N := 1000) (by decide) (by decide) c_15
          refine fw_iv (y := 1) (if_pos c_15) ?_
          refine fw_if_ne (pc := 51) (tgt := 58) X dX2_arrive_51 (by decide) (fun _ => ?_) (fun q => absurd q (by decide))
          refine fw_iload (pc := 58) X dX2_arrive_58 0 rfl ?_
          refine fw_if_ne (pc := 60) (tgt := 67) X dX2_arrive_60 (by decide) (fun _ => ?_) (fun q => absurd q (by decide))
          refine fw_iconst (pc := 67) (v := 0) X dX2_arrive_67 (by decide) ?_
          refine fw_callV (pc := 68) (n := 1) (C := (RX2, TX2, 21)) (ci := 2) (q0 := 0) X hE [.int 0] (ct_X2_isFine 0) (by decide) gX2_arrive_X2_isFine rfl ⟨rfl, rfl⟩ ⟨rfl, dsc_X2_isFine⟩ ⟨Nat.le_of_ble_eq_true rfl, Nat.le_of_ble_eq_true rfl⟩ rfl M_obj rfl rfl (Nat.le_of_ble_eq_true rfl) dX2_arrive_68 ⟨Nat.le_of_ble_eq_true rfl, Nat.le_of_ble_eq_true rfl⟩ (fun _ q => q.elim) (fun r0 u0 r_16 => ?_)
          subst r_16
          show fw_W _ _ _ _ _ _ _ _ _ _ _ _ _ _ _ _ _ _ _ (.int (b2i (0 = 0)) :: _)
          refine fw_iv (y := 1) (if_pos (by decide)) ?_
          refine fw_if_ne (pc := 71) (tgt := 76) X dX2_arrive_71 (by decide) (fun _ => ?_) (fun q => absurd q (by decide))
          refine fw_aload_n (pc := 76) X dX2_arrive_76 rfl 2 rfl ?_
          refine fw_dup (pc := 77) X dX2_arrive_77 rfl ?_
          refine fw_get (pc := 78) (v := .int (F 20)) X iX2_arrive_X2 0 M_obj rfl 20 (by decide) kX2_arrive_96 rfl dX2_arrive_78 ?_
          refine fw_iconst (pc := 81) (v := 1) X dX2_arrive_81 (by decide) ?_
          refine fw_iadd (pc := 82) X dX2_arrive_82 ?_
          refine fw_put (pc := 83) (ws' := MW K a (upd (upd F 0 0) 20 ((F 20) + 1)) G) X iX2_arrive_X2 tyX2 tyX2_ok nmX2 0 M_obj rfl 20 (by decide) kX2_arrive_96 rfl rfl rfl (Nat.le_of_ble_eq_true rfl) dX2_arrive_83 (M_f20 _) ?_
          refine fw_aload_n (pc := 86) X dX2_arrive_86 rfl 2 rfl ?_
          refine fw_get (pc := 87) (v := .ref (a 14)) X iX2_arrive_X2 0 M_obj rfl 14 (by decide) kX2_arrive_47 rfl dX2_arrive_87 ?_
          refine fw_iload_n (pc := 90) X dX2_arrive_90 rfl 3 rfl ?_
          refine fw_aload_n (pc := 91) X dX2_arrive_91 rfl 2 rfl ?_
          refine fw_get (pc := 92) (v := .int (F 4)) X iX2_arrive_X2 0 M_obj rfl 4 (by decide) kX2_arrive_80 rfl dX2_arrive_92 ?_
          refine fw_if_le (pc := 95) (tgt := 114) X dX2_arrive_95 (by decide) (fun c_17 => ?_) (fun c_17 => ?_)
          · refine fw_iconst (pc := 114) (v := 0) X dX2_arrive_114 (by decide) ?_
            refine fw_zast (pc := 115) (f := G 14) (ws' := MW K a (upd (upd F 0 0) 20 ((F 20) + 1)) (va_up G 14 (upd (G 14) (ix u) 0))) X 12 1 (M_g14 (G := G)) rfl (ix u) hx_u (by omega) (by decide) (by decide) dX2_arrive_115 (M_s14 _) ?_
            refine fw_aload_n (pc := 116) X dX2_arrive_116 rfl 2 rfl ?_
            refine fw_get (pc := 117) (v := .ref (a 10)) X iX2_arrive_X2 0 M_obj rfl 10 (by decide) kX2_arrive_35 rfl dX2_arrive_117 ?_
            refine fw_iload_n (pc := 120) X dX2_arrive_120 rfl 3 rfl ?_
            refine fw_iconst (pc := 121) (v := 1) X dX2_arrive_121 (by decide) ?_
            refine fw_iast (pc := 122) (f := G 10) (ws' := MW K a (upd (upd F 0 0) 20 ((F 20) + 1)) (va_up (va_up G 14 (upd (G 14) (ix u) 0)) 10 (upd (G 10) (ix u) 1))) X 8 0 (M_g10 (G := (va_up G 14 (upd (G 14) (ix u) 0)))) rfl (ix u) hx_u (by omega) (by decide) dX2_arrive_122 (M_s10 _) ?_
            refine fw_aload_n (pc := 123) X dX2_arrive_123 rfl 2 rfl ?_
            refine fw_get (pc := 124) (v := .ref (a 15)) X iX2_arrive_X2 0 M_obj rfl 15 (by decide) kX2_arrive_51 rfl dX2_arrive_124 ?_
            refine fw_iload_n (pc := 127) X dX2_arrive_127 rfl 3 rfl ?_
            refine fw_aload_n (pc := 128) X dX2_arrive_128 rfl 2 rfl ?_
            refine fw_get (pc := 129) (v := .ref (a 9)) X iX2_arrive_X2 0 M_obj rfl 9 (by decide) kX2_arrive_32 rfl dX2_arrive_129 ?_
            refine fw_iload_n (pc := 132) X dX2_arrive_132 rfl 3 rfl ?_
            refine fw_iald (pc := 133) (f := G 9) X 7 0 (M_g9 (G := (va_up (va_up G 14 (upd (G 14) (ix u) 0)) 10 (upd (G 10) (ix u) 1)))) rfl (ix u) hx_u (by omega) (by decide) dX2_arrive_133 ?_
            refine fw_iload_n (pc := 134) X dX2_arrive_134 rfl 4 rfl ?_
            refine fw_icmp_eq (pc := 135) (tgt := 142) X dX2_arrive_135 (by decide) (fun c_18 => ?_) (fun c_18 => ?_)
            · refine fw_iconst (pc := 142) (v := 0) X dX2_arrive_142 (by decide) ?_
              refine fw_zast (pc := 143) (f := G 15) (ws' := MW K a (upd (upd F 0 0) 20 ((F 20) + 1)) (va_up (va_up (va_up G 14 (upd (G 14) (ix u) 0)) 10 (upd (G 10) (ix u) 1)) 15 (upd (G 15) (ix u) 0))) X 13 1 (M_g15 (G := (va_up (va_up G 14 (upd (G 14) (ix u) 0)) 10 (upd (G 10) (ix u) 1)))) rfl (ix u) hx_u (by omega) (by decide) (by decide) dX2_arrive_143 (M_s15 _) ?_
              refine fw_aload_n (pc := 144) X dX2_arrive_144 rfl 2 rfl ?_
              refine fw_iload_n (pc := 145) X dX2_arrive_145 rfl 3 rfl ?_
              refine fw_callV (pc := 146) (n := 1) (C := (RX2, TX2, 21)) (ci := 2) (q0 := 0) X hE [.int u] (ct_X2_mustNow u (ix u) hx_u (by omega)) (by decide) gX2_arrive_X2_mustNow rfl ⟨rfl, rfl⟩ ⟨rfl, dsc_X2_mustNow⟩ ⟨Nat.le_of_ble_eq_true rfl, Nat.le_of_ble_eq_true rfl⟩ rfl M_obj rfl rfl (Nat.le_of_ble_eq_true rfl) dX2_arrive_146 ⟨Nat.le_of_ble_eq_true rfl, Nat.le_of_ble_eq_true rfl⟩ (fun _ q => q.elim) (fun r0 u0 r_19 => ?_)
              subst r_19
              exact fw_zret (pc := 149) X hr nr_b hlk (Nat.le_of_ble_eq_true rfl) (Nat.le_of_ble_eq_true rfl) dX2_arrive_149 () (by simp [m_arr_v, m_arr_F, m_arr_G, m_arr_k, m_smp, c_2, c_3, c_9, c_15, c_17, c_18]) (by simp [m_arr_v, m_arr_F, m_arr_G, m_arr_k, m_smp, c_2, c_3, c_9, c_15, c_17, c_18])
            · refine fw_iconst (pc := 138) (v := 1) X dX2_arrive_138 (by decide) ?_
              refine fw_goto (pc := 139) (tgt := 143) X dX2_arrive_139 (by decide) ?_
              refine fw_zast (pc := 143) (f := G 15) (ws' := MW K a (upd (upd F 0 0) 20 ((F 20) + 1)) (va_up (va_up (va_up G 14 (upd (G 14) (ix u) 0)) 10 (upd (G 10) (ix u) 1)) 15 (upd (G 15) (ix u) 1))) X 13 1 (M_g15 (G := (va_up (va_up G 14 (upd (G 14) (ix u) 0)) 10 (upd (G 10) (ix u) 1)))) rfl (ix u) hx_u (by omega) (by decide) (by decide) dX2_arrive_143 (M_s15 _) ?_
              refine fw_aload_n (pc := 144) X dX2_arrive_144 rfl 2 rfl ?_
              refine fw_iload_n (pc := 145) X dX2_arrive_145 rfl 3 rfl ?_
              refine fw_callV (pc := 146) (n := 1) (C := (RX2, TX2, 21)) (ci := 2) (q0 := 0) X hE [.int u] (ct_X2_mustNow u (ix u) hx_u (by omega)) (by decide) gX2_arrive_X2_mustNow rfl ⟨rfl, rfl⟩ ⟨rfl, dsc_X2_mustNow⟩ ⟨Nat.le_of_ble_eq_true rfl, Nat.le_of_ble_eq_true rfl⟩ rfl M_obj rfl rfl (Nat.le_of_ble_eq_true rfl) dX2_arrive_146 ⟨Nat.le_of_ble_eq_true rfl, Nat.le_of_ble_eq_true rfl⟩ (fun _ q => q.elim) (fun r0 u0 r_20 => ?_)
              subst r_20
              exact fw_zret (pc := 149) X hr nr_b hlk (Nat.le_of_ble_eq_true rfl) (Nat.le_of_ble_eq_true rfl) dX2_arrive_149 () (by simp [m_arr_v, m_arr_F, m_arr_G, m_arr_k, m_smp, c_2, c_3, c_9, c_15, c_17, c_18]) (by simp [m_arr_v, m_arr_F, m_arr_G, m_arr_k, m_smp, c_2, c_3, c_9, c_15, c_17, c_18])
          · refine fw_aload_n (pc := 98) X dX2_arrive_98 rfl 2 rfl ?_
            refine fw_get (pc := 99) (v := .int ((F 20) + 1)) X iX2_arrive_X2 0 M_obj rfl 20 (by decide) kX2_arrive_96 rfl dX2_arrive_99 ?_
            refine fw_aload_n (pc := 102) X dX2_arrive_102 rfl 2 rfl ?_
            refine fw_get (pc := 103) (v := .int (F 4)) X iX2_arrive_X2 0 M_obj rfl 4 (by decide) kX2_arrive_80 rfl dX2_arrive_103 ?_
            refine fw_irem (pc := 106) X dX2_arrive_106 (nz_le c_17) ?_
            refine fw_if_ne (pc := 107) (tgt := 114) X dX2_arrive_107 (by decide) (fun c_21 => ?_) (fun c_21 => ?_)
            · refine fw_iconst (pc := 114) (v := 0) X dX2_arrive_114 (by decide) ?_
              refine fw_zast (pc := 115) (f := G 14) (ws' := MW K a (upd (upd F 0 0) 20 ((F 20) + 1)) (va_up G 14 (upd (G 14) (ix u) 0))) X 12 1 (M_g14 (G := G)) rfl (ix u) hx_u (by omega) (by decide) (by decide) dX2_arrive_115 (M_s14 _) ?_
              refine fw_aload_n (pc := 116) X dX2_arrive_116 rfl 2 rfl ?_
              refine fw_get (pc := 117) (v := .ref (a 10)) X iX2_arrive_X2 0 M_obj rfl 10 (by decide) kX2_arrive_35 rfl dX2_arrive_117 ?_
              refine fw_iload_n (pc := 120) X dX2_arrive_120 rfl 3 rfl ?_
              refine fw_iconst (pc := 121) (v := 1) X dX2_arrive_121 (by decide) ?_
              refine fw_iast (pc := 122) (f := G 10) (ws' := MW K a (upd (upd F 0 0) 20 ((F 20) + 1)) (va_up (va_up G 14 (upd (G 14) (ix u) 0)) 10 (upd (G 10) (ix u) 1))) X 8 0 (M_g10 (G := (va_up G 14 (upd (G 14) (ix u) 0)))) rfl (ix u) hx_u (by omega) (by decide) dX2_arrive_122 (M_s10 _) ?_
              refine fw_aload_n (pc := 123) X dX2_arrive_123 rfl 2 rfl ?_
              refine fw_get (pc := 124) (v := .ref (a 15)) X iX2_arrive_X2 0 M_obj rfl 15 (by decide) kX2_arrive_51 rfl dX2_arrive_124 ?_
              refine fw_iload_n (pc := 127) X dX2_arrive_127 rfl 3 rfl ?_
              refine fw_aload_n (pc := 128) X dX2_arrive_128 rfl 2 rfl ?_
              refine fw_get (pc := 129) (v := .ref (a 9)) X iX2_arrive_X2 0 M_obj rfl 9 (by decide) kX2_arrive_32 rfl dX2_arrive_129 ?_
              refine fw_iload_n (pc := 132) X dX2_arrive_132 rfl 3 rfl ?_
              refine fw_iald (pc := 133) (f := G 9) X 7 0 (M_g9 (G := (va_up (va_up G 14 (upd (G 14) (ix u) 0)) 10 (upd (G 10) (ix u) 1)))) rfl (ix u) hx_u (by omega) (by decide) dX2_arrive_133 ?_
              refine fw_iload_n (pc := 134) X dX2_arrive_134 rfl 4 rfl ?_
              refine fw_icmp_eq (pc := 135) (tgt := 142) X dX2_arrive_135 (by decide) (fun c_22 => ?_) (fun c_22 => ?_)
              · refine fw_iconst (pc := 142) (v := 0) X dX2_arrive_142 (by decide) ?_
                refine fw_zast (pc := 143) (f := G 15) (ws' := MW K a (upd (upd F 0 0) 20 ((F 20) + 1)) (va_up (va_up (va_up G 14 (upd (G 14) (ix u) 0)) 10 (upd (G 10) (ix u) 1)) 15 (upd (G 15) (ix u) 0))) X 13 1 (M_g15 (G := (va_up (va_up G 14 (upd (G 14) (ix u) 0)) 10 (upd (G 10) (ix u) 1)))) rfl (ix u) hx_u (by omega) (by decide) (by decide) dX2_arrive_143 (M_s15 _) ?_
                refine fw_aload_n (pc := 144) X dX2_arrive_144 rfl 2 rfl ?_
                refine fw_iload_n (pc := 145) X dX2_arrive_145 rfl 3 rfl ?_
                refine fw_callV (pc := 146) (n := 1) (C := (RX2, TX2, 21)) (ci := 2) (q0 := 0) X hE [.int u] (ct_X2_mustNow u (ix u) hx_u (by omega)) (by decide) gX2_arrive_X2_mustNow rfl ⟨rfl, rfl⟩ ⟨rfl, dsc_X2_mustNow⟩ ⟨Nat.le_of_ble_eq_true rfl, Nat.le_of_ble_eq_true rfl⟩ rfl M_obj rfl rfl (Nat.le_of_ble_eq_true rfl) dX2_arrive_146 ⟨Nat.le_of_ble_eq_true rfl, Nat.le_of_ble_eq_true rfl⟩ (fun _ q => q.elim) (fun r0 u0 r_23 => ?_)
                subst r_23
                exact fw_zret (pc := 149) X hr nr_b hlk (Nat.le_of_ble_eq_true rfl) (Nat.le_of_ble_eq_true rfl) dX2_arrive_149 () (by simp [m_arr_v, m_arr_F, m_arr_G, m_arr_k, m_smp, c_2, c_3, c_9, c_15, c_17, c_21, c_22]) (by simp [m_arr_v, m_arr_F, m_arr_G, m_arr_k, m_smp, c_2, c_3, c_9, c_15, c_17, c_21, c_22])
              · refine fw_iconst (pc := 138) (v := 1) X dX2_arrive_138 (by decide) ?_
                refine fw_goto (pc := 139) (tgt := 143) X dX2_arrive_139 (by decide) ?_
                refine fw_zast (pc := 143) (f := G 15) (ws' := MW K a (upd (upd F 0 0) 20 ((F 20) + 1)) (va_up (va_up (va_up G 14 (upd (G 14) (ix u) 0)) 10 (upd (G 10) (ix u) 1)) 15 (upd (G 15) (ix u) 1))) X 13 1 (M_g15 (G := (va_up (va_up G 14 (upd (G 14) (ix u) 0)) 10 (upd (G 10) (ix u) 1)))) rfl (ix u) hx_u (by omega) (by decide) (by decide) dX2_arrive_143 (M_s15 _) ?_
                refine fw_aload_n (pc := 144) X dX2_arrive_144 rfl 2 rfl ?_
                refine fw_iload_n (pc := 145) X dX2_arrive_145 rfl 3 rfl ?_
                refine fw_callV (pc := 146) (n := 1) (C := (RX2, TX2, 21)) (ci := 2) (q0 := 0) X hE [.int u] (ct_X2_mustNow u (ix u) hx_u (by omega)) (by decide) gX2_arrive_X2_mustNow rfl ⟨rfl, rfl⟩ ⟨rfl, dsc_X2_mustNow⟩ ⟨Nat.le_of_ble_eq_true rfl, Nat.le_of_ble_eq_true rfl⟩ rfl M_obj rfl rfl (Nat.le_of_ble_eq_true rfl) dX2_arrive_146 ⟨Nat.le_of_ble_eq_true rfl, Nat.le_of_ble_eq_true rfl⟩ (fun _ q => q.elim) (fun r0 u0 r_24 => ?_)
                subst r_24
                exact fw_zret (pc := 149) X hr nr_b hlk (Nat.le_of_ble_eq_true rfl) (Nat.le_of_ble_eq_true rfl) dX2_arrive_149 () (by simp [m_arr_v, m_arr_F, m_arr_G, m_arr_k, m_smp, c_2, c_3, c_9, c_15, c_17, c_21, c_22]) (by simp [m_arr_v, m_arr_F, m_arr_G, m_arr_k, m_smp, c_2, c_3, c_9, c_15, c_17, c_21, c_22])
            · refine fw_iconst (pc := 110) (v := 1) X dX2_arrive_110 (by decide) ?_
              refine fw_goto (pc := 111) (tgt := 115) X dX2_arrive_111 (by decide) ?_
              refine fw_zast (pc := 115) (f := G 14) (ws' := MW K a (upd (upd F 0 0) 20 ((F 20) + 1)) (va_up G 14 (upd (G 14) (ix u) 1))) X 12 1 (M_g14 (G := G)) rfl (ix u) hx_u (by omega) (by decide) (by decide) dX2_arrive_115 (M_s14 _) ?_
              refine fw_aload_n (pc := 116) X dX2_arrive_116 rfl 2 rfl ?_
              refine fw_get (pc := 117) (v := .ref (a 10)) X iX2_arrive_X2 0 M_obj rfl 10 (by decide) kX2_arrive_35 rfl dX2_arrive_117 ?_
              refine fw_iload_n (pc := 120) X dX2_arrive_120 rfl 3 rfl ?_
              refine fw_iconst (pc := 121) (v := 1) X dX2_arrive_121 (by decide) ?_
              refine fw_iast (pc := 122) (f := G 10) (ws' := MW K a (upd (upd F 0 0) 20 ((F 20) + 1)) (va_up (va_up G 14 (upd (G 14) (ix u) 1)) 10 (upd (G 10) (ix u) 1))) X 8 0 (M_g10 (G := (va_up G 14 (upd (G 14) (ix u) 1)))) rfl (ix u) hx_u (by omega) (by decide) dX2_arrive_122 (M_s10 _) ?_
              refine fw_aload_n (pc := 123) X dX2_arrive_123 rfl 2 rfl ?_
              refine fw_get (pc := 124) (v := .ref (a 15)) X iX2_arrive_X2 0 M_obj rfl 15 (by decide) kX2_arrive_51 rfl dX2_arrive_124 ?_
              refine fw_iload_n (pc := 127) X dX2_arrive_127 rfl 3 rfl ?_
              refine fw_aload_n (pc := 128) X dX2_arrive_128 rfl 2 rfl ?_
              refine fw_get (pc := 129) (v := .ref (a 9)) X iX2_arrive_X2 0 M_obj rfl 9 (by decide) kX2_arrive_32 rfl dX2_arrive_129 ?_
              refine fw_iload_n (pc := 132) X dX2_arrive_132 rfl 3 rfl ?_
              refine fw_iald (pc := 133) (f := G 9) X 7 0 (M_g9 (G := (va_up (va_up G 14 (upd (G 14) (ix u) 1)) 10 (upd (G 10) (ix u) 1)))) rfl (ix u) hx_u (by omega) (by decide) dX2_arrive_133 ?_
              refine fw_iload_n (pc := 134) X dX2_arrive_134 rfl 4 rfl ?_
              refine fw_icmp_eq (pc := 135) (tgt := 142) X dX2_arrive_135 (by decide) (fun c_25 => ?_) (fun c_25 => ?_)
              · refine fw_iconst (pc := 142) (v := 0) X dX2_arrive_142 (by decide) ?_
                refine fw_zast (pc := 143) (f := G 15) (ws' := MW K a (upd (upd F 0 0) 20 ((F 20) + 1)) (va_up (va_up (va_up G 14 (upd (G 14) (ix u) 1)) 10 (upd (G 10) (ix u) 1)) 15 (upd (G 15) (ix u) 0))) X 13 1 (M_g15 (G := (va_up (va_up G 14 (upd (G 14) (ix u) 1)) 10 (upd (G 10) (ix u) 1)))) rfl (ix u) hx_u (by omega) (by decide) (by decide) dX2_arrive_143 (M_s15 _) ?_
                refine fw_aload_n (pc := 144) X dX2_arrive_144 rfl 2 rfl ?_
                refine fw_iload_n (pc := 145) X dX2_arrive_145 rfl 3 rfl ?_
                refine fw_callV (pc := 146) (n := 1) (C := (RX2, TX2, 21)) (ci := 2) (q0 := 0) X hE [.int u] (ct_X2_mustNow u (ix u) hx_u (by omega)) (by decide) gX2_arrive_X2_mustNow rfl ⟨rfl, rfl⟩ ⟨rfl, dsc_X2_mustNow⟩ ⟨Nat.le_of_ble_eq_true rfl, Nat.le_of_ble_eq_true rfl⟩ rfl M_obj rfl rfl (Nat.le_of_ble_eq_true rfl) dX2_arrive_146 ⟨Nat.le_of_ble_eq_true rfl, Nat.le_of_ble_eq_true rfl⟩ (fun _ q => q.elim) (fun r0 u0 r_26 => ?_)
                subst r_26
                exact fw_zret (pc := 149) X hr nr_b hlk (Nat.le_of_ble_eq_true rfl) (Nat.le_of_ble_eq_true rfl) dX2_arrive_149 () (by simp [m_arr_v, m_arr_F, m_arr_G, m_arr_k, m_smp, c_2, c_3, c_9, c_15, c_17, c_21, c_25]) (by simp [m_arr_v, m_arr_F, m_arr_G, m_arr_k, m_smp, c_2, c_3, c_9, c_15, c_17, c_21, c_25])
              · refine fw_iconst (pc := 138) (v := 1) X dX2_arrive_138 (by decide) ?_
                refine fw_goto (pc := 139) (tgt := 143) X dX2_arrive_139 (by decide) ?_
                refine fw_zast (pc := 143) (f := G 15) (ws' := MW K a (upd (upd F 0 0) 20 ((F 20) + 1)) (va_up (va_up (va_up G 14 (upd (G 14) (ix u) 1)) 10 (upd (G 10) (ix u) 1)) 15 (upd (G 15) (ix u) 1))) X 13 1 (M_g15 (G := (va_up (va_up G 14 (upd (G 14) (ix u) 1)) 10 (upd (G 10) (ix u) 1)))) rfl (ix u) hx_u (by omega) (by decide) (by decide) dX2_arrive_143 (M_s15 _) ?_
                refine fw_aload_n (pc := 144) X dX2_arrive_144 rfl 2 rfl ?_
                refine fw_iload_n (pc := 145) X dX2_arrive_145 rfl 3 rfl ?_
                refine fw_callV (pc := 146) (n := 1) (C := (RX2, TX2, 21)) (ci := 2) (q0 := 0) X hE [.int u] (ct_X2_mustNow u (ix u) hx_u (by omega)) (by decide) gX2_arrive_X2_mustNow rfl ⟨rfl, rfl⟩ ⟨rfl, dsc_X2_mustNow⟩ ⟨Nat.le_of_ble_eq_true rfl, Nat.le_of_ble_eq_true rfl⟩ rfl M_obj rfl rfl (Nat.le_of_ble_eq_true rfl) dX2_arrive_146 ⟨Nat.le_of_ble_eq_true rfl, Nat.le_of_ble_eq_true rfl⟩ (fun _ q => q.elim) (fun r0 u0 r_27 => ?_)
                subst r_27
                exact fw_zret (pc := 149) X hr nr_b hlk (Nat.le_of_ble_eq_true rfl) (Nat.le_of_ble_eq_true rfl) dX2_arrive_149 () (by simp [m_arr_v, m_arr_F, m_arr_G, m_arr_k, m_smp, c_2, c_3, c_9, c_15, c_17, c_21, c_25]) (by simp [m_arr_v, m_arr_F, m_arr_G, m_arr_k, m_smp, c_2, c_3, c_9, c_15, c_17, c_21, c_25])
        · refine fw_iv (y := 0) (if_neg c_15) ?_
          refine fw_if_ne (pc := 51) (tgt := 58) X dX2_arrive_51 (by decide) (fun q => absurd (by decide) q) (fun _ => ?_)
          refine fw_iconst (pc := 54) (v := 2) X dX2_arrive_54 (by decide) ?_
          refine fw_goto (pc := 55) (tgt := 68) X dX2_arrive_55 (by decide) ?_
          refine fw_callV (pc := 68) (n := 1) (C := (RX2, TX2, 21)) (ci := 2) (q0 := 0) X hE [.int 2] (ct_X2_isFine 2) (by decide) gX2_arrive_X2_isFine rfl ⟨rfl, rfl⟩ ⟨rfl, dsc_X2_isFine⟩ ⟨Nat.le_of_ble_eq_true rfl, Nat.le_of_ble_eq_true rfl⟩ rfl M_obj rfl rfl (Nat.le_of_ble_eq_true rfl) dX2_arrive_68 ⟨Nat.le_of_ble_eq_true rfl, Nat.le_of_ble_eq_true rfl⟩ (fun _ q => q.elim) (fun r0 u0 r_28 => ?_)
          subst r_28
          show fw_W _ _ _ _ _ _ _ _ _ _ _ _ _ _ _ _ _ _ _ (.int (b2i (2 = 0)) :: _)
          refine fw_iv (y := 0) (if_neg (by decide)) ?_
          refine fw_if_ne (pc := 71) (tgt := 76) X dX2_arrive_71 (by decide) (fun q => absurd (by decide) q) (fun _ => ?_)
          refine fw_iconst (pc := 74) (v := 0) X dX2_arrive_74 (by decide) ?_
          exact fw_zret (pc := 75) X hr nr_0 hlk (Nat.le_of_ble_eq_true rfl) (Nat.le_of_ble_eq_true rfl) dX2_arrive_75 () (by simp [m_arr_v, m_arr_F, m_arr_G, m_arr_k, m_smp, c_2, c_3, c_9, c_15]) (by simp [m_arr_v, m_arr_F, m_arr_G, m_arr_k, m_smp, c_2, c_3, c_9, c_15])
  · refine fw_iv (y := 0) (if_neg c_2) ?_
    refine fw_istore_n (pc := 5) (lv' := [(3, .int 0), (0, .ref (a 0)), (1, .int u), (2, .int x)]) X dX2_arrive_5 rfl (by decide) rfl ?_
    refine fw_iload_n (pc := 6) X dX2_arrive_6 rfl 0 rfl ?_
    refine fw_if_eq (pc := 7) (tgt := 31) X dX2_arrive_7 (by decide) (fun _ => ?_) (fun q => absurd (by decide) q)
    refine fw_iconst (pc := 31) (v := 0) X dX2_arrive_31 (by decide) ?_
    refine fw_istore (pc := 32) (lv' := [(4, .int 0), (3, .int 0), (0, .ref (a 0)), (1, .int u), (2, .int x)]) X dX2_arrive_32 (by decide) rfl ?_
    refine fw_aload_n (pc := 34) X dX2_arrive_34 rfl 2 rfl ?_
    refine fw_iload_n (pc := 35) X dX2_arrive_35 rfl 1 rfl ?_
    refine fw_if_ne (pc := 36) (tgt := 43) X dX2_arrive_36 (by decide) (fun q => absurd (by decide) q) (fun _ => ?_)
    refine fw_iconst (pc := 39) (v := 1) X dX2_arrive_39 (by decide) ?_
    refine fw_goto (pc := 40) (tgt := 68) X dX2_arrive_40 (by decide) ?_
    refine fw_callV (pc := 68) (n := 1) (C := (RX2, TX2, 21)) (ci := 2) (q0 := 0) X hE [.int 1] (ct_X2_isFine 1) (by decide) gX2_arrive_X2_isFine rfl ⟨rfl, rfl⟩ ⟨rfl, dsc_X2_isFine⟩ ⟨Nat.le_of_ble_eq_true rfl, Nat.le_of_ble_eq_true rfl⟩ rfl M_obj rfl rfl (Nat.le_of_ble_eq_true rfl) dX2_arrive_68 ⟨Nat.le_of_ble_eq_true rfl, Nat.le_of_ble_eq_true rfl⟩ (fun _ q => q.elim) (fun r0 u0 r_29 => ?_)
    subst r_29
    show fw_W _ _ _ _ _ _ _ _ _ _ _ _ _ _ _ _ _ _ _ (.int (b2i (1 = 0)) :: _)
    refine fw_iv (y := 0) (if_neg (by decide)) ?_
    refine fw_if_ne (pc := 71) (tgt := 76) X dX2_arrive_71 (by decide) (fun q => absurd (by decide) q) (fun _ => ?_)
    refine fw_iconst (pc := 74) (v := 0) X dX2_arrive_74 (by decide) ?_
    exact fw_zret (pc := 75) X hr nr_0 hlk (Nat.le_of_ble_eq_true rfl) (Nat.le_of_ble_eq_true rfl) dX2_arrive_75 () (by simp [m_arr_v, m_arr_F, m_arr_G, m_arr_k, m_smp, c_2]) (by simp [m_arr_v, m_arr_F, m_arr_G, m_arr_k, m_smp, c_2])
theorem kX2_risk_35 : Cond.fieldLink RX2 35 (TX2 10).1 (TX2 10).2.1 (TX2 10).2.2.1 ∈ wsX2_risk := by decide +kernel
set_option maxRecDepth 20000 in
theorem iX2_risk_X2 : ∀ w ∈ wsX20, w ∈ wsX2_risk := by decide +kernel
theorem dsc_X2_risk : fw_dsc yX2_risk 1 := by decide +kernel
set_option maxHeartbeats 4000000 in
set_option maxRecDepth 100000 in
theorem ct_X2_risk {l : Launch} {D : va_G} {K : Nat → ClassId} {a : Nat → Nat} {F : Nat → Int32} {G : Nat → Nat → Int32} (u : Int32) {n : Nat} (hn : F 19 = nI n) (hn15 : n ≤ 15) : fw_C (S := Unit) l yX2_risk wsX2_risk ({ frames := 2, cells := 0, slots := 0, locals := 43 }) 0 0 false [.ref (a 0), .int u] D (tyS K) (MW K a F G) (fun r _ => r = some (.int (m_rsk_v F G u))) (fun _ => MW K a (upd F 0 (m_rsk_k F G u)) G) (fun _ => False) := by
  refine fw_met (maxL := 3) (ret := (some .int)) (by decide) rfl (Nat.le_of_ble_eq_true rfl) ?_
  intro p e s m args below meth c A X hr hlk hnm htab hE
  refine fw_lv (lv' := [(0, .ref (a 0)), (1, .int u)]) [0, 1] rfl ?_
  refine fw_aload_n (pc := 0) X dX2_risk_0 rfl 0 rfl ?_
  refine fw_iload_n (pc := 1) X dX2_risk_1 rfl 1 rfl ?_
  refine fw_callV (pc := 2) (n := 1) (C := (RX2, TX2, 21)) (ci := 2) (q0 := 0) X hE [.int u] (ct_X2_isConsignment u) (by decide) gX2_risk_X2_isConsignment rfl ⟨rfl, rfl⟩ ⟨rfl, dsc_X2_isConsignment⟩ ⟨Nat.le_of_ble_eq_true rfl, Nat.le_of_ble_eq_true rfl⟩ rfl M_obj rfl rfl (Nat.le_of_ble_eq_true rfl) dX2_risk_2 ⟨Nat.le_of_ble_eq_true rfl, Nat.le_of_ble_eq_true rfl⟩ (fun _ q => q.elim) (fun r0 u0 r_1 => ?_)
  subst r_1
  show fw_W _ _ _ _ _ _ _ _ _ _ _ _ _ _ _ _ _ _ _ (.int (b2i (m_in u 0 (F 19 - 1) = true)) :: _)
  by_cases c_2 : m_in u 0 (F 19 - 1) = true
  · obtain ⟨hx_u, hl_u⟩ := in_con hn15 (by rw [← hn]; exact c_2)
    refine fw_iv (y := 1) (if_pos c_2) ?_
    refine fw_istore_n (pc := 5) (lv' := [(2, .int 1), (0, .ref (a 0)), (1, .int u)]) X dX2_risk_5 rfl (by decide) rfl ?_
    refine fw_aload_n (pc := 6) X dX2_risk_6 rfl 1 rfl ?_
    refine fw_iload_n (pc := 7) X dX2_risk_7 rfl 0 rfl ?_
    refine fw_if_ne (pc := 8) (tgt := 15) X dX2_risk_8 (by decide) (fun _ => ?_) (fun q => absurd q (by decide))
    refine fw_aload_n (pc := 15) X dX2_risk_15 rfl 1 rfl ?_
    refine fw_get (pc := 16) (v := .ref (a 10)) X iX2_risk_X2 0 M_obj rfl 10 (by decide) kX2_risk_35 rfl dX2_risk_16 ?_
    refine fw_iload_n (pc := 19) X dX2_risk_19 rfl 2 rfl ?_
    refine fw_iald (pc := 20) (f := G 10) X 8 0 (M_g10 (G := G)) rfl (ix u) hx_u (by omega) (by decide) dX2_risk_20 ?_
    refine fw_if_ne (pc := 21) (tgt := 28) X dX2_risk_21 (by decide) (fun c_3 => ?_) (fun c_3 => ?_)
    · refine fw_iconst (pc := 28) (v := 0) X dX2_risk_28 (by decide) ?_
      refine fw_callV (pc := 29) (n := 1) (C := (RX2, TX2, 21)) (ci := 2) (q0 := 0) X hE [.int 0] (ct_X2_isFine 0) (by decide) gX2_risk_X2_isFine rfl ⟨rfl, rfl⟩ ⟨rfl, dsc_X2_isFine⟩ ⟨Nat.le_of_ble_eq_true rfl, Nat.le_of_ble_eq_true rfl⟩ rfl M_obj rfl rfl (Nat.le_of_ble_eq_true rfl) dX2_risk_29 ⟨Nat.le_of_ble_eq_true rfl, Nat.le_of_ble_eq_true rfl⟩ (fun _ q => q.elim) (fun r0 u0 r_4 => ?_)
      subst r_4
      show fw_W _ _ _ _ _ _ _ _ _ _ _ _ _ _ _ _ _ _ _ (.int (b2i (0 = 0)) :: _)
      refine fw_iv (y := 1) (if_pos (by decide)) ?_
      refine fw_if_eq (pc := 32) (tgt := 43) X dX2_risk_32 (by decide) (fun q => absurd q (by decide)) (fun _ => ?_)
      refine fw_aload_n (pc := 35) X dX2_risk_35 rfl 1 rfl ?_
      refine fw_iload_n (pc := 36) X dX2_risk_36 rfl 2 rfl ?_
      refine fw_callV (pc := 37) (n := 1) (C := (RX2, TX2, 21)) (ci := 2) (q0 := 0) X hE [.int u] (ct_X2_riskNow u (ix u) hx_u (by omega)) (by decide) gX2_risk_X2_riskNow rfl ⟨rfl, rfl⟩ ⟨rfl, dsc_X2_riskNow⟩ ⟨Nat.le_of_ble_eq_true rfl, Nat.le_of_ble_eq_true rfl⟩ rfl M_obj rfl rfl (Nat.le_of_ble_eq_true rfl) dX2_risk_37 ⟨Nat.le_of_ble_eq_true rfl, Nat.le_of_ble_eq_true rfl⟩ (fun _ q => q.elim) (fun r0 u0 r_5 => ?_)
      subst r_5
      refine fw_goto (pc := 40) (tgt := 44) X dX2_risk_40 (by decide) ?_
      exact fw_iret (pc := 44) X hr hlk (Nat.le_of_ble_eq_true rfl) (Nat.le_of_ble_eq_true rfl) dX2_risk_44 () (by simp [m_rsk_v, m_rsk_k, c_2, c_3]) (by simp [m_rsk_v, m_rsk_k, c_2, c_3])
    · refine fw_iconst (pc := 24) (v := 2) X dX2_risk_24 (by decide) ?_
      refine fw_goto (pc := 25) (tgt := 29) X dX2_risk_25 (by decide) ?_
      refine fw_callV (pc := 29) (n := 1) (C := (RX2, TX2, 21)) (ci := 2) (q0 := 0) X hE [.int 2] (ct_X2_isFine 2) (by decide) gX2_risk_X2_isFine rfl ⟨rfl, rfl⟩ ⟨rfl, dsc_X2_isFine⟩ ⟨Nat.le_of_ble_eq_true rfl, Nat.le_of_ble_eq_true rfl⟩ rfl M_obj rfl rfl (Nat.le_of_ble_eq_true rfl) dX2_risk_29 ⟨Nat.le_of_ble_eq_true rfl, Nat.le_of_ble_eq_true rfl⟩ (fun _ q => q.elim) (fun r0 u0 r_6 => ?_)
      subst r_6
      show fw_W _ _ _ _ _ _ _ _ _ _ _ _ _ _ _ _ _ _ _ (.int (b2i (2 = 0)) :: _)
      refine fw_iv (y := 0) (if_neg (by decide)) ?_
      refine fw_if_eq (pc := 32) (tgt := 43) X dX2_risk_32 (by decide) (fun _ => ?_) (fun q => absurd (by decide) q)
      refine fw_iconst (pc := 43) (v := 0) X dX2_risk_43 (by decide) ?_
      exact fw_iret (pc := 44) X hr hlk (Nat.le_of_ble_eq_true rfl) (Nat.le_of_ble_eq_true rfl) dX2_risk_44 () (by simp [m_rsk_v, m_rsk_k, c_2, c_3]) (by simp [m_rsk_v, m_rsk_k, c_2, c_3])
  · refine fw_iv (y := 0) (if_neg c_2) ?_
    refine fw_istore_n (pc := 5) (lv' := [(2, .int 0), (0, .ref (a 0)), (1, .int u)]) X dX2_risk_5 rfl (by decide) rfl ?_
    refine fw_aload_n (pc := 6) X dX2_risk_6 rfl 1 rfl ?_
    refine fw_iload_n (pc := 7) X dX2_risk_7 rfl 0 rfl ?_
    refine fw_if_ne (pc := 8) (tgt := 15) X dX2_risk_8 (by decide) (fun q => absurd (by decide) q) (fun _ => ?_)
    refine fw_iconst (pc := 11) (v := 1) X dX2_risk_11 (by decide) ?_
    refine fw_goto (pc := 12) (tgt := 29) X dX2_risk_12 (by decide) ?_
    refine fw_callV (pc := 29) (n := 1) (C := (RX2, TX2, 21)) (ci := 2) (q0 := 0) X hE [.int 1] (ct_X2_isFine 1) (by decide) gX2_risk_X2_isFine rfl ⟨rfl, rfl⟩ ⟨rfl, dsc_X2_isFine⟩ ⟨Nat.le_of_ble_eq_true rfl, Nat.le_of_ble_eq_true rfl⟩ rfl M_obj rfl rfl (Nat.le_of_ble_eq_true rfl) dX2_risk_29 ⟨Nat.le_of_ble_eq_true rfl, Nat.le_of_ble_eq_true rfl⟩ (fun _ q => q.elim) (fun r0 u0 r_7 => ?_)
    subst r_7
    show fw_W _ _ _ _ _ _ _ _ _ _ _ _ _ _ _ _ _ _ _ (.int (b2i (1 = 0)) :: _)
    refine fw_iv (y := 0) (if_neg (by decide)) ?_
    refine fw_if_eq (pc := 32) (tgt := 43) X dX2_risk_32 (by decide) (fun _ => ?_) (fun q => absurd (by decide) q)
    refine fw_iconst (pc := 43) (v := 0) X dX2_risk_43 (by decide) ?_
    exact fw_iret (pc := 44) X hr hlk (Nat.le_of_ble_eq_true rfl) (Nat.le_of_ble_eq_true rfl) dX2_risk_44 () (by simp [m_rsk_v, m_rsk_k, c_2]) (by simp [m_rsk_v, m_rsk_k, c_2])
theorem dsc_X2_mustSearch : fw_dsc yX2_mustSearch 1 := by decide +kernel
set_option maxHeartbeats 4000000 in
set_option maxRecDepth 100000 in
theorem ct_X2_mustSearch {l : Launch} {D : va_G} {K : Nat → ClassId} {a : Nat → Nat} {F : Nat → Int32} {G : Nat → Nat → Int32} (u : Int32) {n : Nat} (hn : F 19 = nI n) (hn15 : n ≤ 15) : fw_C (S := Unit) l yX2_mustSearch wsX2_mustSearch ({ frames := 2, cells := 0, slots := 0, locals := 44 }) 0 0 false [.ref (a 0), .int u] D (tyS K) (MW K a F G) (fun r _ => r = some (.int (m_mus_v F G u))) (fun _ => MW K a (upd F 0 (m_c_k F u)) G) (fun _ => False) := by
  refine fw_met (maxL := 2) (ret := (some .boolean)) (by decide) rfl (Nat.le_of_ble_eq_true rfl) ?_
  intro p e s m args below meth c A X hr hlk hnm htab hE
  refine fw_lv (lv' := [(0, .ref (a 0)), (1, .int u)]) [0, 1] rfl ?_
  refine fw_aload_n (pc := 0) X dX2_mustSearch_0 rfl 0 rfl ?_
  refine fw_aload_n (pc := 1) X dX2_mustSearch_1 rfl 0 rfl ?_
  refine fw_iload_n (pc := 2) X dX2_mustSearch_2 rfl 1 rfl ?_
  refine fw_callV (pc := 3) (n := 1) (C := (RX2, TX2, 21)) (ci := 2) (q0 := 0) X hE [.int u] (ct_X2_isConsignment u) (by decide) gX2_mustSearch_X2_isConsignment rfl ⟨rfl, rfl⟩ ⟨rfl, dsc_X2_isConsignment⟩ ⟨Nat.le_of_ble_eq_true rfl, Nat.le_of_ble_eq_true rfl⟩ rfl M_obj rfl rfl (Nat.le_of_ble_eq_true rfl) dX2_mustSearch_3 ⟨Nat.le_of_ble_eq_true rfl, Nat.le_of_ble_eq_true rfl⟩ (fun _ q => q.elim) (fun r0 u0 r_1 => ?_)
  subst r_1
  show fw_W _ _ _ _ _ _ _ _ _ _ _ _ _ _ _ _ _ _ _ (.int (b2i (m_in u 0 (F 19 - 1) = true)) :: _)
  by_cases c_2 : m_in u 0 (F 19 - 1) = true
  · obtain ⟨hx_u, hl_u⟩ := in_con hn15 (by rw [← hn]; exact c_2)
    refine fw_iv (y := 1) (if_pos c_2) ?_
    refine fw_if_eq (pc := 6) (tgt := 13) X dX2_mustSearch_6 (by decide) (fun q => absurd q (by decide)) (fun _ => ?_)
    refine fw_iconst (pc := 9) (v := 0) X dX2_mustSearch_9 (by decide) ?_
    refine fw_goto (pc := 10) (tgt := 14) X dX2_mustSearch_10 (by decide) ?_
    refine fw_callV (pc := 14) (n := 1) (C := (RX2, TX2, 21)) (ci := 2) (q0 := 0) X hE [.int 0] (ct_X2_isFine 0) (by decide) gX2_mustSearch_X2_isFine rfl ⟨rfl, rfl⟩ ⟨rfl, dsc_X2_isFine⟩ ⟨Nat.le_of_ble_eq_true rfl, Nat.le_of_ble_eq_true rfl⟩ rfl M_obj rfl rfl (Nat.le_of_ble_eq_true rfl) dX2_mustSearch_14 ⟨Nat.le_of_ble_eq_true rfl, Nat.le_of_ble_eq_true rfl⟩ (fun _ q => q.elim) (fun r0 u0 r_3 => ?_)
    subst r_3
    show fw_W _ _ _ _ _ _ _ _ _ _ _ _ _ _ _ _ _ _ _ (.int (b2i (0 = 0)) :: _)
    refine fw_iv (y := 1) (if_pos (by decide)) ?_
    refine fw_if_eq (pc := 17) (tgt := 32) X dX2_mustSearch_17 (by decide) (fun q => absurd q (by decide)) (fun _ => ?_)
    refine fw_aload_n (pc := 20) X dX2_mustSearch_20 rfl 0 rfl ?_
    refine fw_iload_n (pc := 21) X dX2_mustSearch_21 rfl 1 rfl ?_
    refine fw_callV (pc := 22) (n := 1) (C := (RX2, TX2, 21)) (ci := 2) (q0 := 0) X hE [.int u] (ct_X2_mustNow u (ix u) hx_u (by omega)) (by decide) gX2_mustSearch_X2_mustNow rfl ⟨rfl, rfl⟩ ⟨rfl, dsc_X2_mustNow⟩ ⟨Nat.le_of_ble_eq_true rfl, Nat.le_of_ble_eq_true rfl⟩ rfl M_obj rfl rfl (Nat.le_of_ble_eq_true rfl) dX2_mustSearch_22 ⟨Nat.le_of_ble_eq_true rfl, Nat.le_of_ble_eq_true rfl⟩ (fun _ q => q.elim) (fun r0 u0 r_4 => ?_)
    subst r_4
    show fw_W _ _ _ _ _ _ _ _ _ _ _ _ _ _ _ _ _ _ _ (.int (b2i (m_must (upd F 0 0) G (ix u) = true)) :: _)
    by_cases c_5 : m_must (upd F 0 0) G (ix u) = true
    · refine fw_iv (y := 1) (if_pos c_5) ?_
      refine fw_if_eq (pc := 25) (tgt := 32) X dX2_mustSearch_25 (by decide) (fun q => absurd q (by decide)) (fun _ => ?_)
      refine fw_iconst (pc := 28) (v := 1) X dX2_mustSearch_28 (by decide) ?_
      refine fw_goto (pc := 29) (tgt := 33) X dX2_mustSearch_29 (by decide) ?_
      exact fw_zret (pc := 33) X hr nr_1 hlk (Nat.le_of_ble_eq_true rfl) (Nat.le_of_ble_eq_true rfl) dX2_mustSearch_33 () (by simp [m_mus_v, m_c_k, c_2, c_5]) (by simp [m_mus_v, m_c_k, c_2, c_5])
    · refine fw_iv (y := 0) (if_neg c_5) ?_
      refine fw_if_eq (pc := 25) (tgt := 32) X dX2_mustSearch_25 (by decide) (fun _ => ?_) (fun q => absurd (by decide) q)
      refine fw_iconst (pc := 32) (v := 0) X dX2_mustSearch_32 (by decide) ?_
      exact fw_zret (pc := 33) X hr nr_0 hlk (Nat.le_of_ble_eq_true rfl) (Nat.le_of_ble_eq_true rfl) dX2_mustSearch_33 () (by simp [m_mus_v, m_c_k, c_2, c_5]) (by simp [m_mus_v, m_c_k, c_2, c_5])
  · refine fw_iv (y := 0) (if_neg c_2) ?_
    refine fw_if_eq (pc := 6) (tgt := 13) X dX2_mustSearch_6 (by decide) (fun _ => ?_) (fun q => absurd (by decide) q)
    refine fw_iconst (pc := 13) (v := 1) X dX2_mustSearch_13 (by decide) ?_
    refine fw_callV (pc := 14) (n := 1) (C := (RX2, TX2, 21)) (ci := 2) (q0 := 0) X hE [.int 1] (ct_X2_isFine 1) (by decide) gX2_mustSearch_X2_isFine rfl ⟨rfl, rfl⟩ ⟨rfl, dsc_X2_isFine⟩ ⟨Nat.le_of_ble_eq_true rfl, Nat.le_of_ble_eq_true rfl⟩ rfl M_obj rfl rfl (Nat.le_of_ble_eq_true rfl) dX2_mustSearch_14 ⟨Nat.le_of_ble_eq_true rfl, Nat.le_of_ble_eq_true rfl⟩ (fun _ q => q.elim) (fun r0 u0 r_6 => ?_)
    subst r_6
    show fw_W _ _ _ _ _ _ _ _ _ _ _ _ _ _ _ _ _ _ _ (.int (b2i (1 = 0)) :: _)
    refine fw_iv (y := 0) (if_neg (by decide)) ?_
    refine fw_if_eq (pc := 17) (tgt := 32) X dX2_mustSearch_17 (by decide) (fun _ => ?_) (fun q => absurd (by decide) q)
    refine fw_iconst (pc := 32) (v := 0) X dX2_mustSearch_32 (by decide) ?_
    exact fw_zret (pc := 33) X hr nr_0 hlk (Nat.le_of_ble_eq_true rfl) (Nat.le_of_ble_eq_true rfl) dX2_mustSearch_33 () (by simp [m_mus_v, m_c_k, c_2]) (by simp [m_mus_v, m_c_k, c_2])
theorem kX2_search_35 : Cond.fieldLink RX2 35 (TX2 10).1 (TX2 10).2.1 (TX2 10).2.2.1 ∈ wsX2_search := by decide +kernel
set_option maxRecDepth 20000 in
theorem iX2_search_X2 : ∀ w ∈ wsX20, w ∈ wsX2_search := by decide +kernel
theorem kX2_search_44 : Cond.fieldLink RX2 44 (TX2 13).1 (TX2 13).2.1 (TX2 13).2.2.1 ∈ wsX2_search := by decide +kernel
theorem kX2_search_41 : Cond.fieldLink RX2 41 (TX2 12).1 (TX2 12).2.1 (TX2 12).2.2.1 ∈ wsX2_search := by decide +kernel
theorem kX2_search_54 : Cond.fieldLink RX2 54 (TX2 16).1 (TX2 16).2.1 (TX2 16).2.2.1 ∈ wsX2_search := by decide +kernel
theorem dsc_X2_search : fw_dsc yX2_search 3 := by decide +kernel
set_option maxHeartbeats 4000000 in
set_option maxRecDepth 100000 in
theorem ct_X2_search {l : Launch} {D : va_G} {K : Nat → ClassId} {a : Nat → Nat} {F : Nat → Int32} {G : Nat → Nat → Int32} (u v x : Int32) {n : Nat} (hn : F 19 = nI n) (hn15 : n ≤ 15) : fw_C (S := Unit) l yX2_search wsX2_search ({ frames := 2, cells := 0, slots := 0, locals := 43 }) 0 0 false [.ref (a 0), .int u, .int v, .int x] D (tyS K) (MW K a F G) (fun r _ => r = some (.int (m_sch_v F G u v x))) (fun _ => MW K a (upd F 0 (m_sch_k F G u v x)) (m_sch_G F G u v x)) (fun _ => False) := by
  refine fw_met (maxL := 6) (ret := (some .int)) (by decide) rfl (Nat.le_of_ble_eq_true rfl) ?_
  intro p e s m args below meth c A X hr hlk hnm htab hE
  refine fw_lv (lv' := [(0, .ref (a 0)), (1, .int u), (2, .int v), (3, .int x)]) [0, 1, 2, 3] rfl ?_
  refine fw_aload_n (pc := 0) X dX2_search_0 rfl 0 rfl ?_
  refine fw_iload_n (pc := 1) X dX2_search_1 rfl 1 rfl ?_
  refine fw_callV (pc := 2) (n := 1) (C := (RX2, TX2, 21)) (ci := 2) (q0 := 0) X hE [.int u] (ct_X2_isConsignment u) (by decide) gX2_search_X2_isConsignment rfl ⟨rfl, rfl⟩ ⟨rfl, dsc_X2_isConsignment⟩ ⟨Nat.le_of_ble_eq_true rfl, Nat.le_of_ble_eq_true rfl⟩ rfl M_obj rfl rfl (Nat.le_of_ble_eq_true rfl) dX2_search_2 ⟨Nat.le_of_ble_eq_true rfl, Nat.le_of_ble_eq_true rfl⟩ (fun _ q => q.elim) (fun r0 u0 r_1 => ?_)
  subst r_1
  show fw_W _ _ _ _ _ _ _ _ _ _ _ _ _ _ _ _ _ _ _ (.int (b2i (m_in u 0 (F 19 - 1) = true)) :: _)
  by_cases c_2 : m_in u 0 (F 19 - 1) = true
  · obtain ⟨hx_u, hl_u⟩ := in_con hn15 (by rw [← hn]; exact c_2)
    refine fw_iv (y := 1) (if_pos c_2) ?_
    refine fw_istore (pc := 5) (lv' := [(4, .int 1), (0, .ref (a 0)), (1, .int u), (2, .int v), (3, .int x)]) X dX2_search_5 (by decide) rfl ?_
    refine fw_iload_n (pc := 7) X dX2_search_7 rfl 3 rfl ?_
    refine fw_callS (pc := 8) (n := 1) X hE [.int v] (ct_X2_isSort v) (by decide) gX2_search_X2_isSort rfl ⟨rfl, rfl⟩ dsc_X2_isSort ⟨Nat.le_of_ble_eq_true rfl, Nat.le_of_ble_eq_true rfl⟩ rfl rfl (Nat.le_of_ble_eq_true rfl) dX2_search_8 ⟨Nat.le_of_ble_eq_true rfl, Nat.le_of_ble_eq_true rfl⟩ (fun _ q => q.elim) (fun r0 u0 r_3 => ?_)
    subst r_3
    show fw_W _ _ _ _ _ _ _ _ _ _ _ _ _ _ _ _ _ _ _ (.int (b2i (m_in v 0 5 = true)) :: _)
    by_cases c_4 : m_in v 0 5 = true
    · obtain ⟨hx_v, hl_v⟩ := in_ix (h := 5) (N := 6) (by decide) (by decide) c_4
      refine fw_iv (y := 1) (if_pos c_4) ?_
      refine fw_if_eq (pc := 11) (tgt := 28) X dX2_search_11 (by decide) (fun q => absurd q (by decide)) (fun _ => ?_)
      refine fw_iload_n (pc := 14) X dX2_search_14 rfl 4 rfl ?_
      refine fw_iconst (pc := 15) (v := 0) X dX2_search_15 (by decide) ?_
      refine fw_bipush (pc := 16) (v := 100) X dX2_search_16 (by decide) ?_
      refine fw_callS (pc := 18) (n := 3) X hE [.int x, .int 0, .int 100] (ct_X2_isIn x 0 100) (by decide) gX2_search_X2_isIn rfl ⟨rfl, rfl⟩ dsc_X2_isIn ⟨Nat.le_of_ble_eq_true rfl, Nat.le_of_ble_eq_true rfl⟩ rfl rfl (Nat.le_of_ble_eq_true rfl) dX2_search_18 ⟨Nat.le_of_ble_eq_true rfl, Nat.le_of_ble_eq_true rfl⟩ (fun _ q => q.elim) (fun r0 u0 r_5 => ?_)
      subst r_5
      show fw_W _ _ _ _ _ _ _ _ _ _ _ _ _ _ _ _ _ _ _ (.int (b2i (m_in x 0 100 = true)) :: _)
      by_cases c_6 : m_in x 0 100 = true
      · obtain ⟨hx_x, hl_x⟩ := in_ix (h := 100) (N := 101) (by decide) (by decide) c_6
        refine fw_iv (y := 1) (if_pos c_6) ?_
        refine fw_if_eq (pc := 21) (tgt := 28) X dX2_search_21 (by decide) (fun q => absurd q (by decide)) (fun _ => ?_)
        refine fw_iconst (pc := 24) (v := 1) X dX2_search_24 (by decide) ?_
        refine fw_goto (pc := 25) (tgt := 29) X dX2_search_25 (by decide) ?_
        refine fw_istore (pc := 29) (lv' := [(5, .int 1), (4, .int 1), (0, .ref (a 0)), (1, .int u), (2, .int v), (3, .int x)]) X dX2_search_29 (by decide) rfl ?_
        refine fw_aload_n (pc := 31) X dX2_search_31 rfl 2 rfl ?_
        refine fw_iload (pc := 32) X dX2_search_32 1 rfl ?_
        refine fw_if_ne (pc := 34) (tgt := 41) X dX2_search_34 (by decide) (fun _ => ?_) (fun q => absurd q (by decide))
        refine fw_iload (pc := 41) X dX2_search_41 0 rfl ?_
        refine fw_if_ne (pc := 43) (tgt := 50) X dX2_search_43 (by decide) (fun _ => ?_) (fun q => absurd q (by decide))
        refine fw_aload_n (pc := 50) X dX2_search_50 rfl 2 rfl ?_
        refine fw_get (pc := 51) (v := .ref (a 10)) X iX2_search_X2 0 M_obj rfl 10 (by decide) kX2_search_35 rfl dX2_search_51 ?_
        refine fw_iload_n (pc := 54) X dX2_search_54 rfl 3 rfl ?_
        refine fw_iald (pc := 55) (f := G 10) X 8 0 (M_g10 (G := G)) rfl (ix u) hx_u (by omega) (by decide) dX2_search_55 ?_
        refine fw_iconst (pc := 56) (v := 1) X dX2_search_56 (by decide) ?_
        refine fw_icmp_eq (pc := 57) (tgt := 64) X dX2_search_57 (by decide) (fun c_7 => ?_) (fun c_7 => ?_)
        · refine fw_iconst (pc := 64) (v := 0) X dX2_search_64 (by decide) ?_
          refine fw_callV (pc := 65) (n := 1) (C := (RX2, TX2, 21)) (ci := 2) (q0 := 0) X hE [.int 0] (ct_X2_isFine 0) (by decide) gX2_search_X2_isFine rfl ⟨rfl, rfl⟩ ⟨rfl, dsc_X2_isFine⟩ ⟨Nat.le_of_ble_eq_true rfl, Nat.le_of_ble_eq_true rfl⟩ rfl M_obj rfl rfl (Nat.le_of_ble_eq_true rfl) dX2_search_65 ⟨Nat.le_of_ble_eq_true rfl, Nat.le_of_ble_eq_true rfl⟩ (fun _ q => q.elim) (fun r0 u0 r_8 => ?_)
          subst r_8
          show fw_W _ _ _ _ _ _ _ _ _ _ _ _ _ _ _ _ _ _ _ (.int (b2i (0 = 0)) :: _)
          refine fw_iv (y := 1) (if_pos (by decide)) ?_
          refine fw_if_ne (pc := 68) (tgt := 73) X dX2_search_68 (by decide) (fun _ => ?_) (fun q => absurd q (by decide))
          refine fw_aload_n (pc := 73) X dX2_search_73 rfl 2 rfl ?_
          refine fw_get (pc := 74) (v := .ref (a 13)) X iX2_search_X2 0 M_obj rfl 13 (by decide) kX2_search_44 rfl dX2_search_74 ?_
          refine fw_iload_n (pc := 77) X dX2_search_77 rfl 3 rfl ?_
          refine fw_dup2 (pc := 78) X dX2_search_78 rfl rfl ?_
          refine fw_iald (pc := 79) (f := G 13) X 11 0 (M_g13 (G := G)) rfl (ix u) hx_u (by omega) (by decide) dX2_search_79 ?_
          refine fw_iconst (pc := 80) (v := 1) X dX2_search_80 (by decide) ?_
          refine fw_iload_n (pc := 81) X dX2_search_81 rfl 4 rfl ?_
          refine fw_ishl (pc := 82) X dX2_search_82 ?_
          refine fw_ior (pc := 83) X dX2_search_83 ?_
          refine fw_iast (pc := 84) (f := G 13) (ws' := MW K a (upd F 0 0) (va_up G 13 (upd (G 13) (ix u) ((G 13 (ix u)) ||| (1 <<< (v &&& 31)))))) X 11 0 (M_g13 (G := G)) rfl (ix u) hx_u (by omega) (by decide) dX2_search_84 (M_s13 _) ?_
          refine fw_aload_n (pc := 85) X dX2_search_85 rfl 2 rfl ?_
          refine fw_get (pc := 86) (v := .ref (a 12)) X iX2_search_X2 0 M_obj rfl 12 (by decide) kX2_search_41 rfl dX2_search_86 ?_
          refine fw_iload_n (pc := 89) X dX2_search_89 rfl 3 rfl ?_
          refine fw_dup2 (pc := 90) X dX2_search_90 rfl rfl ?_
          refine fw_iald (pc := 91) (f := G 12) X 10 0 (M_g12 (G := (va_up G 13 (upd (G 13) (ix u) ((G 13 (ix u)) ||| (1 <<< (v &&& 31))))))) rfl (ix u) hx_u (by omega) (by decide) dX2_search_91 ?_
          refine fw_aload_n (pc := 92) X dX2_search_92 rfl 2 rfl ?_
          refine fw_get (pc := 93) (v := .ref (a 16)) X iX2_search_X2 0 M_obj rfl 16 (by decide) kX2_search_54 rfl dX2_search_93 ?_
          refine fw_bipush (pc := 96) (v := 6) X dX2_search_96 (by decide) ?_
          refine fw_iload_n (pc := 98) X dX2_search_98 rfl 3 rfl ?_
          refine fw_imul (pc := 99) X dX2_search_99 ?_
          refine fw_iload_n (pc := 100) X dX2_search_100 rfl 4 rfl ?_
          refine fw_iadd (pc := 101) X dX2_search_101 ?_
          refine fw_iald (pc := 102) (f := G 16) X 14 0 (M_g16 (G := (va_up G 13 (upd (G 13) (ix u) ((G 13 (ix u)) ||| (1 <<< (v &&& 31))))))) rfl ((6 * (ix u)) + (ix v)) (nf_add (nf_mul (show (6 : Int32) = nI 6 from rfl) hx_u) hx_v) (by omega) (by decide) dX2_search_102 ?_
          refine fw_iload_n (pc := 103) X dX2_search_103 rfl 5 rfl ?_
          refine fw_icmp_eq (pc := 104) (tgt := 111) X dX2_search_104 (by decide) (fun c_9 => ?_) (fun c_9 => ?_)
          · refine fw_iconst (pc := 111) (v := 0) X dX2_search_111 (by decide) ?_
            refine fw_iadd (pc := 112) X dX2_search_112 ?_
            refine fw_iast (pc := 113) (f := G 12) (ws' := MW K a (upd F 0 0) (va_up (va_up G 13 (upd (G 13) (ix u) ((G 13 (ix u)) ||| (1 <<< (v &&& 31))))) 12 (upd (G 12) (ix u) ((G 12 (ix u)) + 0)))) X 10 0 (M_g12 (G := (va_up G 13 (upd (G 13) (ix u) ((G 13 (ix u)) ||| (1 <<< (v &&& 31))))))) rfl (ix u) hx_u (by omega) (by decide) dX2_search_113 (M_s12 _) ?_
            refine fw_aload_n (pc := 114) X dX2_search_114 rfl 2 rfl ?_
            refine fw_get (pc := 115) (v := .ref (a 16)) X iX2_search_X2 0 M_obj rfl 16 (by decide) kX2_search_54 rfl dX2_search_115 ?_
            refine fw_bipush (pc := 118) (v := 6) X dX2_search_118 (by decide) ?_
            refine fw_iload_n (pc := 120) X dX2_search_120 rfl 3 rfl ?_
            refine fw_imul (pc := 121) X dX2_search_121 ?_
            refine fw_iload_n (pc := 122) X dX2_search_122 rfl 4 rfl ?_
            refine fw_iadd (pc := 123) X dX2_search_123 ?_
            refine fw_iload_n (pc := 124) X dX2_search_124 rfl 5 rfl ?_
            refine fw_iast (pc := 125) (f := G 16) (ws' := MW K a (upd F 0 0) (va_up (va_up (va_up G 13 (upd (G 13) (ix u) ((G 13 (ix u)) ||| (1 <<< (v &&& 31))))) 12 (upd (G 12) (ix u) ((G 12 (ix u)) + 0))) 16 (upd (G 16) ((6 * (ix u)) + (ix v)) x))) X 14 0 (M_g16 (G := (va_up (va_up G 13 (upd (G 13) (ix u) ((G 13 (ix u)) ||| (1 <<< (v &&& 31))))) 12 (upd (G 12) (ix u) ((G 12 (ix u)) + 0))))) rfl ((6 * (ix u)) + (ix v)) (nf_add (nf_mul (show (6 : Int32) = nI 6 from rfl) hx_u) hx_v) (by omega) (by decide) dX2_search_125 (M_s16 _) ?_
            refine fw_aload_n (pc := 126) X dX2_search_126 rfl 2 rfl ?_
            refine fw_get (pc := 127) (v := .ref (a 12)) X iX2_search_X2 0 M_obj rfl 12 (by decide) kX2_search_41 rfl dX2_search_127 ?_
            refine fw_iload_n (pc := 130) X dX2_search_130 rfl 3 rfl ?_
            refine fw_iald (pc := 131) (f := upd (G 12) (ix u) ((G 12 (ix u)) + 0)) X 10 0 (M_g12 (G := (va_up (va_up (va_up G 13 (upd (G 13) (ix u) ((G 13 (ix u)) ||| (1 <<< (v &&& 31))))) 12 (upd (G 12) (ix u) ((G 12 (ix u)) + 0))) 16 (upd (G 16) ((6 * (ix u)) + (ix v)) x)))) rfl (ix u) hx_u (by omega) (by decide) dX2_search_131 ?_
            exact fw_iret (pc := 132) X hr hlk (Nat.le_of_ble_eq_true rfl) (Nat.le_of_ble_eq_true rfl) dX2_search_132 () (by simp [m_sch_v, m_sch_G, m_sch_k, m_sch_p, upd, c_2, c_4, c_6, c_7, c_9]) (by simp [m_sch_v, m_sch_G, m_sch_k, m_sch_p, upd, c_2, c_4, c_6, c_7, c_9])
          · refine fw_iconst (pc := 107) (v := 1) X dX2_search_107 (by decide) ?_
            refine fw_goto (pc := 108) (tgt := 112) X dX2_search_108 (by decide) ?_
            refine fw_iadd (pc := 112) X dX2_search_112 ?_
            refine fw_iast (pc := 113) (f := G 12) (ws' := MW K a (upd F 0 0) (va_up (va_up G 13 (upd (G 13) (ix u) ((G 13 (ix u)) ||| (1 <<< (v &&& 31))))) 12 (upd (G 12) (ix u) ((G 12 (ix u)) + 1)))) X 10 0 (M_g12 (G := (va_up G 13 (upd (G 13) (ix u) ((G 13 (ix u)) ||| (1 <<< (v &&& 31))))))) rfl (ix u) hx_u (by omega) (by decide) dX2_search_113 (M_s12 _) ?_
            refine fw_aload_n (pc := 114) X dX2_search_114 rfl 2 rfl ?_
            refine fw_get (pc := 115) (v := .ref (a 16)) X iX2_search_X2 0 M_obj rfl 16 (by decide) kX2_search_54 rfl dX2_search_115 ?_
            refine fw_bipush (pc := 118) (v := 6) X dX2_search_118 (by decide) ?_
            refine fw_iload_n (pc := 120) X dX2_search_120 rfl 3 rfl ?_
            refine fw_imul (pc := 121) X dX2_search_121 ?_
            refine fw_iload_n (pc := 122) X dX2_search_122 rfl 4 rfl ?_
            refine fw_iadd (pc := 123) X dX2_search_123 ?_
            refine fw_iload_n (pc := 124) X dX2_search_124 rfl 5 rfl ?_
            refine fw_iast (pc := 125) (f := G 16) (ws' := MW K a (upd F 0 0) (va_up (va_up (va_up G 13 (upd (G 13) (ix u) ((G 13 (ix u)) ||| (1 <<< (v &&& 31))))) 12 (upd (G 12) (ix u) ((G 12 (ix u)) + 1))) 16 (upd (G 16) ((6 * (ix u)) + (ix v)) x))) X 14 0 (M_g16 (G := (va_up (va_up G 13 (upd (G 13) (ix u) ((G 13 (ix u)) ||| (1 <<< (v &&& 31))))) 12 (upd (G 12) (ix u) ((G 12 (ix u)) + 1))))) rfl ((6 * (ix u)) + (ix v)) (nf_add (nf_mul (show (6 : Int32) = nI 6 from rfl) hx_u) hx_v) (by omega) (by decide) dX2_search_125 (M_s16 _) ?_
            refine fw_aload_n (pc := 126) X dX2_search_126 rfl 2 rfl ?_
            refine fw_get (pc := 127) (v := .ref (a 12)) X iX2_search_X2 0 M_obj rfl 12 (by decide) kX2_search_41 rfl dX2_search_127 ?_
            refine fw_iload_n (pc := 130) X dX2_search_130 rfl 3 rfl ?_
            refine fw_iald (pc := 131) (f := upd (G 12) (ix u) ((G 12 (ix u)) + 1)) X 10 0 (M_g12 (G := (va_up (va_up (va_up G 13 (upd (G 13) (ix u) ((G 13 (ix u)) ||| (1 <<< (v &&& 31))))) 12 (upd (G 12) (ix u) ((G 12 (ix u)) + 1))) 16 (upd (G 16) ((6 * (ix u)) + (ix v)) x)))) rfl (ix u) hx_u (by omega) (by decide) dX2_search_131 ?_
            exact fw_iret (pc := 132) X hr hlk (Nat.le_of_ble_eq_true rfl) (Nat.le_of_ble_eq_true rfl) dX2_search_132 () (by simp [m_sch_v, m_sch_G, m_sch_k, m_sch_p, upd, c_2, c_4, c_6, c_7, c_9]) (by simp [m_sch_v, m_sch_G, m_sch_k, m_sch_p, upd, c_2, c_4, c_6, c_7, c_9])
        · refine fw_iconst (pc := 60) (v := 3) X dX2_search_60 (by decide) ?_
          refine fw_goto (pc := 61) (tgt := 65) X dX2_search_61 (by decide) ?_
          refine fw_callV (pc := 65) (n := 1) (C := (RX2, TX2, 21)) (ci := 2) (q0 := 0) X hE [.int 3] (ct_X2_isFine 3) (by decide) gX2_search_X2_isFine rfl ⟨rfl, rfl⟩ ⟨rfl, dsc_X2_isFine⟩ ⟨Nat.le_of_ble_eq_true rfl, Nat.le_of_ble_eq_true rfl⟩ rfl M_obj rfl rfl (Nat.le_of_ble_eq_true rfl) dX2_search_65 ⟨Nat.le_of_ble_eq_true rfl, Nat.le_of_ble_eq_true rfl⟩ (fun _ q => q.elim) (fun r0 u0 r_10 => ?_)
          subst r_10
          show fw_W _ _ _ _ _ _ _ _ _ _ _ _ _ _ _ _ _ _ _ (.int (b2i (3 = 0)) :: _)
          refine fw_iv (y := 0) (if_neg (by decide)) ?_
          refine fw_if_ne (pc := 68) (tgt := 73) X dX2_search_68 (by decide) (fun q => absurd (by decide) q) (fun _ => ?_)
          refine fw_iconst (pc := 71) (v := 0) X dX2_search_71 (by decide) ?_
          exact fw_iret (pc := 72) X hr hlk (Nat.le_of_ble_eq_true rfl) (Nat.le_of_ble_eq_true rfl) dX2_search_72 () (by simp [m_sch_v, m_sch_G, m_sch_k, m_sch_p, upd, c_2, c_4, c_6, c_7]) (by simp [m_sch_v, m_sch_G, m_sch_k, m_sch_p, upd, c_2, c_4, c_6, c_7])
      · refine fw_iv (y := 0) (if_neg c_6) ?_
        refine fw_if_eq (pc := 21) (tgt := 28) X dX2_search_21 (by decide) (fun _ => ?_) (fun q => absurd (by decide) q)
        refine fw_iconst (pc := 28) (v := 0) X dX2_search_28 (by decide) ?_
        refine fw_istore (pc := 29) (lv' := [(5, .int 0), (4, .int 1), (0, .ref (a 0)), (1, .int u), (2, .int v), (3, .int x)]) X dX2_search_29 (by decide) rfl ?_
        refine fw_aload_n (pc := 31) X dX2_search_31 rfl 2 rfl ?_
        refine fw_iload (pc := 32) X dX2_search_32 1 rfl ?_
        refine fw_if_ne (pc := 34) (tgt := 41) X dX2_search_34 (by decide) (fun _ => ?_) (fun q => absurd q (by decide))
        refine fw_iload (pc := 41) X dX2_search_41 0 rfl ?_
        refine fw_if_ne (pc := 43) (tgt := 50) X dX2_search_43 (by decide) (fun q => absurd (by decide) q) (fun _ => ?_)
        refine fw_iconst (pc := 46) (v := 2) X dX2_search_46 (by decide) ?_
        refine fw_goto (pc := 47) (tgt := 65) X dX2_search_47 (by decide) ?_
        refine fw_callV (pc := 65) (n := 1) (C := (RX2, TX2, 21)) (ci := 2) (q0 := 0) X hE [.int 2] (ct_X2_isFine 2) (by decide) gX2_search_X2_isFine rfl ⟨rfl, rfl⟩ ⟨rfl, dsc_X2_isFine⟩ ⟨Nat.le_of_ble_eq_true rfl, Nat.le_of_ble_eq_true rfl⟩ rfl M_obj rfl rfl (Nat.le_of_ble_eq_true rfl) dX2_search_65 ⟨Nat.le_of_ble_eq_true rfl, Nat.le_of_ble_eq_true rfl⟩ (fun _ q => q.elim) (fun r0 u0 r_11 => ?_)
        subst r_11
        show fw_W _ _ _ _ _ _ _ _ _ _ _ _ _ _ _ _ _ _ _ (.int (b2i (2 = 0)) :: _)
        refine fw_iv (y := 0) (if_neg (by decide)) ?_
        refine fw_if_ne (pc := 68) (tgt := 73) X dX2_search_68 (by decide) (fun q => absurd (by decide) q) (fun _ => ?_)
        refine fw_iconst (pc := 71) (v := 0) X dX2_search_71 (by decide) ?_
        exact fw_iret (pc := 72) X hr hlk (Nat.le_of_ble_eq_true rfl) (Nat.le_of_ble_eq_true rfl) dX2_search_72 () (by simp [m_sch_v, m_sch_G, m_sch_k, m_sch_p, upd, c_2, c_4, c_6]) (by simp [m_sch_v, m_sch_G, m_sch_k, m_sch_p, upd, c_2, c_4, c_6])
    · refine fw_iv (y := 0) (if_neg c_4) ?_
      refine fw_if_eq (pc := 11) (tgt := 28) X dX2_search_11 (by decide) (fun _ => ?_) (fun q => absurd (by decide) q)
      refine fw_iconst (pc := 28) (v := 0) X dX2_search_28 (by decide) ?_
      refine fw_istore (pc := 29) (lv' := [(5, .int 0), (4, .int 1), (0, .ref (a 0)), (1, .int u), (2, .int v), (3, .int x)]) X dX2_search_29 (by decide) rfl ?_
      refine fw_aload_n (pc := 31) X dX2_search_31 rfl 2 rfl ?_
      refine fw_iload (pc := 32) X dX2_search_32 1 rfl ?_
      refine fw_if_ne (pc := 34) (tgt := 41) X dX2_search_34 (by decide) (fun _ => ?_) (fun q => absurd q (by decide))
      refine fw_iload (pc := 41) X dX2_search_41 0 rfl ?_
      refine fw_if_ne (pc := 43) (tgt := 50) X dX2_search_43 (by decide) (fun q => absurd (by decide) q) (fun _ => ?_)
      refine fw_iconst (pc := 46) (v := 2) X dX2_search_46 (by decide) ?_
      refine fw_goto (pc := 47) (tgt := 65) X dX2_search_47 (by decide) ?_
      refine fw_callV (pc := 65) (n := 1) (C := (RX2, TX2, 21)) (ci := 2) (q0 := 0) X hE [.int 2] (ct_X2_isFine 2) (by decide) gX2_search_X2_isFine rfl ⟨rfl, rfl⟩ ⟨rfl, dsc_X2_isFine⟩ ⟨Nat.le_of_ble_eq_true rfl, Nat.le_of_ble_eq_true rfl⟩ rfl M_obj rfl rfl (Nat.le_of_ble_eq_true rfl) dX2_search_65 ⟨Nat.le_of_ble_eq_true rfl, Nat.le_of_ble_eq_true rfl⟩ (fun _ q => q.elim) (fun r0 u0 r_12 => ?_)
      subst r_12
      show fw_W _ _ _ _ _ _ _ _ _ _ _ _ _ _ _ _ _ _ _ (.int (b2i (2 = 0)) :: _)
      refine fw_iv (y := 0) (if_neg (by decide)) ?_
      refine fw_if_ne (pc := 68) (tgt := 73) X dX2_search_68 (by decide) (fun q => absurd (by decide) q) (fun _ => ?_)
      refine fw_iconst (pc := 71) (v := 0) X dX2_search_71 (by decide) ?_
      exact fw_iret (pc := 72) X hr hlk (Nat.le_of_ble_eq_true rfl) (Nat.le_of_ble_eq_true rfl) dX2_search_72 () (by simp [m_sch_v, m_sch_G, m_sch_k, m_sch_p, upd, c_2, c_4]) (by simp [m_sch_v, m_sch_G, m_sch_k, m_sch_p, upd, c_2, c_4])
  · refine fw_iv (y := 0) (if_neg c_2) ?_
    refine fw_istore (pc := 5) (lv' := [(4, .int 0), (0, .ref (a 0)), (1, .int u), (2, .int v), (3, .int x)]) X dX2_search_5 (by decide) rfl ?_
    refine fw_iload_n (pc := 7) X dX2_search_7 rfl 3 rfl ?_
    refine fw_callS (pc := 8) (n := 1) X hE [.int v] (ct_X2_isSort v) (by decide) gX2_search_X2_isSort rfl ⟨rfl, rfl⟩ dsc_X2_isSort ⟨Nat.le_of_ble_eq_true rfl, Nat.le_of_ble_eq_true rfl⟩ rfl rfl (Nat.le_of_ble_eq_true rfl) dX2_search_8 ⟨Nat.le_of_ble_eq_true rfl, Nat.le_of_ble_eq_true rfl⟩ (fun _ q => q.elim) (fun r0 u0 r_13 => ?_)
    subst r_13
    show fw_W _ _ _ _ _ _ _ _ _ _ _ _ _ _ _ _ _ _ _ (.int (b2i (m_in v 0 5 = true)) :: _)
    by_cases c_14 : m_in v 0 5 = true
    · obtain ⟨hx_v, hl_v⟩ := in_ix (h := 5) (N := 6) (by decide) (by decide) c_14
      refine fw_iv (y := 1) (if_pos c_14) ?_
      refine fw_if_eq (pc := 11) (tgt := 28) X dX2_search_11 (by decide) (fun q => absurd q (by decide)) (fun _ => ?_)
      refine fw_iload_n (pc := 14) X dX2_search_14 rfl 4 rfl ?_
      refine fw_iconst (pc := 15) (v := 0) X dX2_search_15 (by decide) ?_
      refine fw_bipush (pc := 16) (v := 100) X dX2_search_16 (by decide) ?_
      refine fw_callS (pc := 18) (n := 3) X hE [.int x, .int 0, .int 100] (ct_X2_isIn x 0 100) (by decide) gX2_search_X2_isIn rfl ⟨rfl, rfl⟩ dsc_X2_isIn ⟨Nat.le_of_ble_eq_true rfl, Nat.le_of_ble_eq_true rfl⟩ rfl rfl (Nat.le_of_ble_eq_true rfl) dX2_search_18 ⟨Nat.le_of_ble_eq_true rfl, Nat.le_of_ble_eq_true rfl⟩ (fun _ q => q.elim) (fun r0 u0 r_15 => ?_)
      subst r_15
      show fw_W _ _ _ _ _ _ _ _ _ _ _ _ _ _ _ _ _ _ _ (.int (b2i (m_in x 0 100 = true)) :: _)
      by_cases c_16 : m_in x 0 100 = true
      · obtain ⟨hx_x, hl_x⟩ := in_ix (h := 100) (N := 101) (by decide) (by decide) c_16
        refine fw_iv (y := 1) (if_pos c_16) ?_
        refine fw_if_eq (pc := 21) (tgt := 28) X dX2_search_21 (by decide) (fun q => absurd q (by decide)) (fun _ => ?_)
        refine fw_iconst (pc := 24) (v := 1) X dX2_search_24 (by decide) ?_
        refine fw_goto (pc := 25) (tgt := 29) X dX2_search_25 (by decide) ?_
        refine fw_istore (pc := 29) (lv' := [(5, .int 1), (4, .int 0), (0, .ref (a 0)), (1, .int u), (2, .int v), (3, .int x)]) X dX2_search_29 (by decide) rfl ?_
        refine fw_aload_n (pc := 31) X dX2_search_31 rfl 2 rfl ?_
        refine fw_iload (pc := 32) X dX2_search_32 1 rfl ?_
        refine fw_if_ne (pc := 34) (tgt := 41) X dX2_search_34 (by decide) (fun q => absurd (by decide) q) (fun _ => ?_)
        refine fw_iconst (pc := 37) (v := 1) X dX2_search_37 (by decide) ?_
        refine fw_goto (pc := 38) (tgt := 65) X dX2_search_38 (by decide) ?_
        refine fw_callV (pc := 65) (n := 1) (C := (RX2, TX2, 21)) (ci := 2) (q0 := 0) X hE [.int 1] (ct_X2_isFine 1) (by decide) gX2_search_X2_isFine rfl ⟨rfl, rfl⟩ ⟨rfl, dsc_X2_isFine⟩ ⟨Nat.le_of_ble_eq_true rfl, Nat.le_of_ble_eq_true rfl⟩ rfl M_obj rfl rfl (Nat.le_of_ble_eq_true rfl) dX2_search_65 ⟨Nat.le_of_ble_eq_true rfl, Nat.le_of_ble_eq_true rfl⟩ (fun _ q => q.elim) (fun r0 u0 r_17 => ?_)
        subst r_17
        show fw_W _ _ _ _ _ _ _ _ _ _ _ _ _ _ _ _ _ _ _ (.int (b2i (1 = 0)) :: _)
        refine fw_iv (y := 0) (if_neg (by decide)) ?_
        refine fw_if_ne (pc := 68) (tgt := 73) X dX2_search_68 (by decide) (fun q => absurd (by decide) q) (fun _ => ?_)
        refine fw_iconst (pc := 71) (v := 0) X dX2_search_71 (by decide) ?_
        exact fw_iret (pc := 72) X hr hlk (Nat.le_of_ble_eq_true rfl) (Nat.le_of_ble_eq_true rfl) dX2_search_72 () (by simp [m_sch_v, m_sch_G, m_sch_k, m_sch_p, upd, c_2, c_14, c_16]) (by simp [m_sch_v, m_sch_G, m_sch_k, m_sch_p, upd, c_2, c_14, c_16])
      · refine fw_iv (y := 0) (if_neg c_16) ?_
        refine fw_if_eq (pc := 21) (tgt := 28) X dX2_search_21 (by decide) (fun _ => ?_) (fun q => absurd (by decide) q)
        refine fw_iconst (pc := 28) (v := 0) X dX2_search_28 (by decide) ?_
        refine fw_istore (pc := 29) (lv' := [(5, .int 0), (4, .int 0), (0, .ref (a 0)), (1, .int u), (2, .int v), (3, .int x)]) X dX2_search_29 (by decide) rfl ?_
        refine fw_aload_n (pc := 31) X dX2_search_31 rfl 2 rfl ?_
        refine fw_iload (pc := 32) X dX2_search_32 1 rfl ?_
        refine fw_if_ne (pc := 34) (tgt := 41) X dX2_search_34 (by decide) (fun q => absurd (by decide) q) (fun _ => ?_)
        refine fw_iconst (pc := 37) (v := 1) X dX2_search_37 (by decide) ?_
        refine fw_goto (pc := 38) (tgt := 65) X dX2_search_38 (by decide) ?_
        refine fw_callV (pc := 65) (n := 1) (C := (RX2, TX2, 21)) (ci := 2) (q0 := 0) X hE [.int 1] (ct_X2_isFine 1) (by decide) gX2_search_X2_isFine rfl ⟨rfl, rfl⟩ ⟨rfl, dsc_X2_isFine⟩ ⟨Nat.le_of_ble_eq_true rfl, Nat.le_of_ble_eq_true rfl⟩ rfl M_obj rfl rfl (Nat.le_of_ble_eq_true rfl) dX2_search_65 ⟨Nat.le_of_ble_eq_true rfl, Nat.le_of_ble_eq_true rfl⟩ (fun _ q => q.elim) (fun r0 u0 r_18 => ?_)
        subst r_18
        show fw_W _ _ _ _ _ _ _ _ _ _ _ _ _ _ _ _ _ _ _ (.int (b2i (1 = 0)) :: _)
        refine fw_iv (y := 0) (if_neg (by decide)) ?_
        refine fw_if_ne (pc := 68) (tgt := 73) X dX2_search_68 (by decide) (fun q => absurd (by decide) q) (fun _ => ?_)
        refine fw_iconst (pc := 71) (v := 0) X dX2_search_71 (by decide) ?_
        exact fw_iret (pc := 72) X hr hlk (Nat.le_of_ble_eq_true rfl) (Nat.le_of_ble_eq_true rfl) dX2_search_72 () (by simp [m_sch_v, m_sch_G, m_sch_k, m_sch_p, upd, c_2, c_14, c_16]) (by simp [m_sch_v, m_sch_G, m_sch_k, m_sch_p, upd, c_2, c_14, c_16])
    · refine fw_iv (y := 0) (if_neg c_14) ?_
      refine fw_if_eq (pc := 11) (tgt := 28) X dX2_search_11 (by decide) (fun _ => ?_) (fun q => absurd (by decide) q)
      refine fw_iconst (pc := 28) (v := 0) X dX2_search_28 (by decide) ?_
      refine fw_istore (pc := 29) (lv' := [(5, .int 0), (4, .int 0), (0, .ref (a 0)), (1, .int u), (2, .int v), (3, .int x)]) X dX2_search_29 (by decide) rfl ?_
      refine fw_aload_n (pc := 31) X dX2_search_31 rfl 2 rfl ?_
      refine fw_iload (pc := 32) X dX2_search_32 1 rfl ?_
      refine fw_if_ne (pc := 34) (tgt := 41) X dX2_search_34 (by decide) (fun q => absurd (by decide) q) (fun _ => ?_)
      refine fw_iconst (pc := 37) (v := 1) X dX2_search_37 (by decide) ?_
      refine fw_goto (pc := 38) (tgt := 65) X dX2_search_38 (by decide) ?_
      refine fw_callV (pc := 65) (n := 1) (C := (RX2, TX2, 21)) (ci := 2) (q0 := 0) X hE [.int 1] (ct_X2_isFine 1) (by decide) gX2_search_X2_isFine rfl ⟨rfl, rfl⟩ ⟨rfl, dsc_X2_isFine⟩ ⟨Nat.le_of_ble_eq_true rfl, Nat.le_of_ble_eq_true rfl⟩ rfl M_obj rfl rfl (Nat.le_of_ble_eq_true rfl) dX2_search_65 ⟨Nat.le_of_ble_eq_true rfl, Nat.le_of_ble_eq_true rfl⟩ (fun _ q => q.elim) (fun r0 u0 r_19 => ?_)
      subst r_19
      show fw_W _ _ _ _ _ _ _ _ _ _ _ _ _ _ _ _ _ _ _ (.int (b2i (1 = 0)) :: _)
      refine fw_iv (y := 0) (if_neg (by decide)) ?_
      refine fw_if_ne (pc := 68) (tgt := 73) X dX2_search_68 (by decide) (fun q => absurd (by decide) q) (fun _ => ?_)
      refine fw_iconst (pc := 71) (v := 0) X dX2_search_71 (by decide) ?_
      exact fw_iret (pc := 72) X hr hlk (Nat.le_of_ble_eq_true rfl) (Nat.le_of_ble_eq_true rfl) dX2_search_72 () (by simp [m_sch_v, m_sch_G, m_sch_k, m_sch_p, upd, c_2, c_14]) (by simp [m_sch_v, m_sch_G, m_sch_k, m_sch_p, upd, c_2, c_14])
theorem kX2_state_35 : Cond.fieldLink RX2 35 (TX2 10).1 (TX2 10).2.1 (TX2 10).2.2.1 ∈ wsX2_state := by decide +kernel
set_option maxRecDepth 20000 in
theorem iX2_state_X2 : ∀ w ∈ wsX20, w ∈ wsX2_state := by decide +kernel
theorem dsc_X2_state : fw_dsc yX2_state 1 := by decide +kernel
set_option maxHeartbeats 4000000 in
set_option maxRecDepth 100000 in
theorem ct_X2_state {l : Launch} {D : va_G} {K : Nat → ClassId} {a : Nat → Nat} {F : Nat → Int32} {G : Nat → Nat → Int32} (u : Int32) {n : Nat} (hn : F 19 = nI n) (hn15 : n ≤ 15) : fw_C (S := Unit) l yX2_state wsX2_state ({ frames := 2, cells := 0, slots := 0, locals := 43 }) 0 0 false [.ref (a 0), .int u] D (tyS K) (MW K a F G) (fun r _ => r = some (.int (m_sta_v F G u))) (fun _ => MW K a (upd F 0 (m_c_k F u)) G) (fun _ => False) := by
  refine fw_met (maxL := 2) (ret := (some .int)) (by decide) rfl (Nat.le_of_ble_eq_true rfl) ?_
  intro p e s m args below meth c A X hr hlk hnm htab hE
  refine fw_lv (lv' := [(0, .ref (a 0)), (1, .int u)]) [0, 1] rfl ?_
  refine fw_aload_n (pc := 0) X dX2_state_0 rfl 0 rfl ?_
  refine fw_aload_n (pc := 1) X dX2_state_1 rfl 0 rfl ?_
  refine fw_iload_n (pc := 2) X dX2_state_2 rfl 1 rfl ?_
  refine fw_callV (pc := 3) (n := 1) (C := (RX2, TX2, 21)) (ci := 2) (q0 := 0) X hE [.int u] (ct_X2_isConsignment u) (by decide) gX2_state_X2_isConsignment rfl ⟨rfl, rfl⟩ ⟨rfl, dsc_X2_isConsignment⟩ ⟨Nat.le_of_ble_eq_true rfl, Nat.le_of_ble_eq_true rfl⟩ rfl M_obj rfl rfl (Nat.le_of_ble_eq_true rfl) dX2_state_3 ⟨Nat.le_of_ble_eq_true rfl, Nat.le_of_ble_eq_true rfl⟩ (fun _ q => q.elim) (fun r0 u0 r_1 => ?_)
  subst r_1
  show fw_W _ _ _ _ _ _ _ _ _ _ _ _ _ _ _ _ _ _ _ (.int (b2i (m_in u 0 (F 19 - 1) = true)) :: _)
  by_cases c_2 : m_in u 0 (F 19 - 1) = true
  · obtain ⟨hx_u, hl_u⟩ := in_con hn15 (by rw [← hn]; exact c_2)
    refine fw_iv (y := 1) (if_pos c_2) ?_
    refine fw_if_eq (pc := 6) (tgt := 13) X dX2_state_6 (by decide) (fun q => absurd q (by decide)) (fun _ => ?_)
    refine fw_iconst (pc := 9) (v := 0) X dX2_state_9 (by decide) ?_
    refine fw_goto (pc := 10) (tgt := 14) X dX2_state_10 (by decide) ?_
    refine fw_callV (pc := 14) (n := 1) (C := (RX2, TX2, 21)) (ci := 2) (q0 := 0) X hE [.int 0] (ct_X2_isFine 0) (by decide) gX2_state_X2_isFine rfl ⟨rfl, rfl⟩ ⟨rfl, dsc_X2_isFine⟩ ⟨Nat.le_of_ble_eq_true rfl, Nat.le_of_ble_eq_true rfl⟩ rfl M_obj rfl rfl (Nat.le_of_ble_eq_true rfl) dX2_state_14 ⟨Nat.le_of_ble_eq_true rfl, Nat.le_of_ble_eq_true rfl⟩ (fun _ q => q.elim) (fun r0 u0 r_3 => ?_)
    subst r_3
    show fw_W _ _ _ _ _ _ _ _ _ _ _ _ _ _ _ _ _ _ _ (.int (b2i (0 = 0)) :: _)
    refine fw_iv (y := 1) (if_pos (by decide)) ?_
    refine fw_if_eq (pc := 17) (tgt := 29) X dX2_state_17 (by decide) (fun q => absurd q (by decide)) (fun _ => ?_)
    refine fw_aload_n (pc := 20) X dX2_state_20 rfl 0 rfl ?_
    refine fw_get (pc := 21) (v := .ref (a 10)) X iX2_state_X2 0 M_obj rfl 10 (by decide) kX2_state_35 rfl dX2_state_21 ?_
    refine fw_iload_n (pc := 24) X dX2_state_24 rfl 1 rfl ?_
    refine fw_iald (pc := 25) (f := G 10) X 8 0 (M_g10 (G := G)) rfl (ix u) hx_u (by omega) (by decide) dX2_state_25 ?_
    refine fw_goto (pc := 26) (tgt := 30) X dX2_state_26 (by decide) ?_
    exact fw_iret (pc := 30) X hr hlk (Nat.le_of_ble_eq_true rfl) (Nat.le_of_ble_eq_true rfl) dX2_state_30 () (by simp [m_sta_v, m_c_k, c_2]) (by simp [m_sta_v, m_c_k, c_2])
  · refine fw_iv (y := 0) (if_neg c_2) ?_
    refine fw_if_eq (pc := 6) (tgt := 13) X dX2_state_6 (by decide) (fun _ => ?_) (fun q => absurd (by decide) q)
    refine fw_iconst (pc := 13) (v := 1) X dX2_state_13 (by decide) ?_
    refine fw_callV (pc := 14) (n := 1) (C := (RX2, TX2, 21)) (ci := 2) (q0 := 0) X hE [.int 1] (ct_X2_isFine 1) (by decide) gX2_state_X2_isFine rfl ⟨rfl, rfl⟩ ⟨rfl, dsc_X2_isFine⟩ ⟨Nat.le_of_ble_eq_true rfl, Nat.le_of_ble_eq_true rfl⟩ rfl M_obj rfl rfl (Nat.le_of_ble_eq_true rfl) dX2_state_14 ⟨Nat.le_of_ble_eq_true rfl, Nat.le_of_ble_eq_true rfl⟩ (fun _ q => q.elim) (fun r0 u0 r_4 => ?_)
    subst r_4
    show fw_W _ _ _ _ _ _ _ _ _ _ _ _ _ _ _ _ _ _ _ (.int (b2i (1 = 0)) :: _)
    refine fw_iv (y := 0) (if_neg (by decide)) ?_
    refine fw_if_eq (pc := 17) (tgt := 29) X dX2_state_17 (by decide) (fun _ => ?_) (fun q => absurd (by decide) q)
    refine fw_iconst (pc := 29) (v := 0) X dX2_state_29 (by decide) ?_
    exact fw_iret (pc := 30) X hr hlk (Nat.le_of_ble_eq_true rfl) (Nat.le_of_ble_eq_true rfl) dX2_state_30 () (by simp [m_sta_v, m_c_k, c_2]) (by simp [m_sta_v, m_c_k, c_2])
theorem kX2_manifest_54 : Cond.fieldLink RX2 54 (TX2 16).1 (TX2 16).2.1 (TX2 16).2.2.1 ∈ wsX2_manifest := by decide +kernel
set_option maxRecDepth 20000 in
theorem iX2_manifest_X2 : ∀ w ∈ wsX20, w ∈ wsX2_manifest := by decide +kernel
theorem dsc_X2_manifest : fw_dsc yX2_manifest 2 := by decide +kernel
set_option maxHeartbeats 4000000 in
set_option maxRecDepth 100000 in
theorem ct_X2_manifest {l : Launch} {D : va_G} {K : Nat → ClassId} {a : Nat → Nat} {F : Nat → Int32} {G : Nat → Nat → Int32} (u v : Int32) {n : Nat} (hn : F 19 = nI n) (hn15 : n ≤ 15) : fw_C (S := Unit) l yX2_manifest wsX2_manifest ({ frames := 2, cells := 0, slots := 0, locals := 43 }) 0 0 false [.ref (a 0), .int u, .int v] D (tyS K) (MW K a F G) (fun r _ => r = some (.int (m_man_v F G u v))) (fun _ => MW K a (upd F 0 (m_man_k F u v)) G) (fun _ => False) := by
  refine fw_met (maxL := 4) (ret := (some .int)) (by decide) rfl (Nat.le_of_ble_eq_true rfl) ?_
  intro p e s m args below meth c A X hr hlk hnm htab hE
  refine fw_lv (lv' := [(0, .ref (a 0)), (1, .int u), (2, .int v)]) [0, 1, 2] rfl ?_
  refine fw_aload_n (pc := 0) X dX2_manifest_0 rfl 0 rfl ?_
  refine fw_iload_n (pc := 1) X dX2_manifest_1 rfl 1 rfl ?_
  refine fw_callV (pc := 2) (n := 1) (C := (RX2, TX2, 21)) (ci := 2) (q0 := 0) X hE [.int u] (ct_X2_isConsignment u) (by decide) gX2_manifest_X2_isConsignment rfl ⟨rfl, rfl⟩ ⟨rfl, dsc_X2_isConsignment⟩ ⟨Nat.le_of_ble_eq_true rfl, Nat.le_of_ble_eq_true rfl⟩ rfl M_obj rfl rfl (Nat.le_of_ble_eq_true rfl) dX2_manifest_2 ⟨Nat.le_of_ble_eq_true rfl, Nat.le_of_ble_eq_true rfl⟩ (fun _ q => q.elim) (fun r0 u0 r_1 => ?_)
  subst r_1
  show fw_W _ _ _ _ _ _ _ _ _ _ _ _ _ _ _ _ _ _ _ (.int (b2i (m_in u 0 (F 19 - 1) = true)) :: _)
  by_cases c_2 : m_in u 0 (F 19 - 1) = true
  · obtain ⟨hx_u, hl_u⟩ := in_con hn15 (by rw [← hn]; exact c_2)
    refine fw_iv (y := 1) (if_pos c_2) ?_
    refine fw_istore_n (pc := 5) (lv' := [(3, .int 1), (0, .ref (a 0)), (1, .int u), (2, .int v)]) X dX2_manifest_5 rfl (by decide) rfl ?_
    refine fw_aload_n (pc := 6) X dX2_manifest_6 rfl 1 rfl ?_
    refine fw_iload_n (pc := 7) X dX2_manifest_7 rfl 0 rfl ?_
    refine fw_if_ne (pc := 8) (tgt := 15) X dX2_manifest_8 (by decide) (fun _ => ?_) (fun q => absurd q (by decide))
    refine fw_iload_n (pc := 15) X dX2_manifest_15 rfl 3 rfl ?_
    refine fw_callS (pc := 16) (n := 1) X hE [.int v] (ct_X2_isSort v) (by decide) gX2_manifest_X2_isSort rfl ⟨rfl, rfl⟩ dsc_X2_isSort ⟨Nat.le_of_ble_eq_true rfl, Nat.le_of_ble_eq_true rfl⟩ rfl rfl (Nat.le_of_ble_eq_true rfl) dX2_manifest_16 ⟨Nat.le_of_ble_eq_true rfl, Nat.le_of_ble_eq_true rfl⟩ (fun _ q => q.elim) (fun r0 u0 r_3 => ?_)
    subst r_3
    show fw_W _ _ _ _ _ _ _ _ _ _ _ _ _ _ _ _ _ _ _ (.int (b2i (m_in v 0 5 = true)) :: _)
    by_cases c_4 : m_in v 0 5 = true
    · obtain ⟨hx_v, hl_v⟩ := in_ix (h := 5) (N := 6) (by decide) (by decide) c_4
      refine fw_iv (y := 1) (if_pos c_4) ?_
      refine fw_if_ne (pc := 19) (tgt := 26) X dX2_manifest_19 (by decide) (fun _ => ?_) (fun q => absurd q (by decide))
      refine fw_iconst (pc := 26) (v := 0) X dX2_manifest_26 (by decide) ?_
      refine fw_callV (pc := 27) (n := 1) (C := (RX2, TX2, 21)) (ci := 2) (q0 := 0) X hE [.int 0] (ct_X2_isFine 0) (by decide) gX2_manifest_X2_isFine rfl ⟨rfl, rfl⟩ ⟨rfl, dsc_X2_isFine⟩ ⟨Nat.le_of_ble_eq_true rfl, Nat.le_of_ble_eq_true rfl⟩ rfl M_obj rfl rfl (Nat.le_of_ble_eq_true rfl) dX2_manifest_27 ⟨Nat.le_of_ble_eq_true rfl, Nat.le_of_ble_eq_true rfl⟩ (fun _ q => q.elim) (fun r0 u0 r_5 => ?_)
      subst r_5
      show fw_W _ _ _ _ _ _ _ _ _ _ _ _ _ _ _ _ _ _ _ (.int (b2i (0 = 0)) :: _)
      refine fw_iv (y := 1) (if_pos (by decide)) ?_
      refine fw_if_eq (pc := 30) (tgt := 47) X dX2_manifest_30 (by decide) (fun q => absurd q (by decide)) (fun _ => ?_)
      refine fw_aload_n (pc := 33) X dX2_manifest_33 rfl 1 rfl ?_
      refine fw_get (pc := 34) (v := .ref (a 16)) X iX2_manifest_X2 0 M_obj rfl 16 (by decide) kX2_manifest_54 rfl dX2_manifest_34 ?_
      refine fw_bipush (pc := 37) (v := 6) X dX2_manifest_37 (by decide) ?_
      refine fw_iload_n (pc := 39) X dX2_manifest_39 rfl 2 rfl ?_
      refine fw_imul (pc := 40) X dX2_manifest_40 ?_
      refine fw_iload_n (pc := 41) X dX2_manifest_41 rfl 3 rfl ?_
      refine fw_iadd (pc := 42) X dX2_manifest_42 ?_
      refine fw_iald (pc := 43) (f := G 16) X 14 0 (M_g16 (G := G)) rfl ((6 * (ix u)) + (ix v)) (nf_add (nf_mul (show (6 : Int32) = nI 6 from rfl) hx_u) hx_v) (by omega) (by decide) dX2_manifest_43 ?_
      refine fw_goto (pc := 44) (tgt := 48) X dX2_manifest_44 (by decide) ?_
      exact fw_iret (pc := 48) X hr hlk (Nat.le_of_ble_eq_true rfl) (Nat.le_of_ble_eq_true rfl) dX2_manifest_48 () (by simp [m_man_v, m_man_k, c_2, c_4]) (by simp [m_man_v, m_man_k, c_2, c_4])
    · refine fw_iv (y := 0) (if_neg c_4) ?_
      refine fw_if_ne (pc := 19) (tgt := 26) X dX2_manifest_19 (by decide) (fun q => absurd (by decide) q) (fun _ => ?_)
      refine fw_iconst (pc := 22) (v := 2) X dX2_manifest_22 (by decide) ?_
      refine fw_goto (pc := 23) (tgt := 27) X dX2_manifest_23 (by decide) ?_
      refine fw_callV (pc := 27) (n := 1) (C := (RX2, TX2, 21)) (ci := 2) (q0 := 0) X hE [.int 2] (ct_X2_isFine 2) (by decide) gX2_manifest_X2_isFine rfl ⟨rfl, rfl⟩ ⟨rfl, dsc_X2_isFine⟩ ⟨Nat.le_of_ble_eq_true rfl, Nat.le_of_ble_eq_true rfl⟩ rfl M_obj rfl rfl (Nat.le_of_ble_eq_true rfl) dX2_manifest_27 ⟨Nat.le_of_ble_eq_true rfl, Nat.le_of_ble_eq_true rfl⟩ (fun _ q => q.elim) (fun r0 u0 r_6 => ?_)
      subst r_6
      show fw_W _ _ _ _ _ _ _ _ _ _ _ _ _ _ _ _ _ _ _ (.int (b2i (2 = 0)) :: _)
      refine fw_iv (y := 0) (if_neg (by decide)) ?_
      refine fw_if_eq (pc := 30) (tgt := 47) X dX2_manifest_30 (by decide) (fun _ => ?_) (fun q => absurd (by decide) q)
      refine fw_iconst (pc := 47) (v := 0) X dX2_manifest_47 (by decide) ?_
      exact fw_iret (pc := 48) X hr hlk (Nat.le_of_ble_eq_true rfl) (Nat.le_of_ble_eq_true rfl) dX2_manifest_48 () (by simp [m_man_v, m_man_k, c_2, c_4]) (by simp [m_man_v, m_man_k, c_2, c_4])
  · refine fw_iv (y := 0) (if_neg c_2) ?_
    refine fw_istore_n (pc := 5) (lv' := [(3, .int 0), (0, .ref (a 0)), (1, .int u), (2, .int v)]) X dX2_manifest_5 rfl (by decide) rfl ?_
    refine fw_aload_n (pc := 6) X dX2_manifest_6 rfl 1 rfl ?_
    refine fw_iload_n (pc := 7) X dX2_manifest_7 rfl 0 rfl ?_
    refine fw_if_ne (pc := 8) (tgt := 15) X dX2_manifest_8 (by decide) (fun q => absurd (by decide) q) (fun _ => ?_)
    refine fw_iconst (pc := 11) (v := 1) X dX2_manifest_11 (by decide) ?_
    refine fw_goto (pc := 12) (tgt := 27) X dX2_manifest_12 (by decide) ?_
    refine fw_callV (pc := 27) (n := 1) (C := (RX2, TX2, 21)) (ci := 2) (q0 := 0) X hE [.int 1] (ct_X2_isFine 1) (by decide) gX2_manifest_X2_isFine rfl ⟨rfl, rfl⟩ ⟨rfl, dsc_X2_isFine⟩ ⟨Nat.le_of_ble_eq_true rfl, Nat.le_of_ble_eq_true rfl⟩ rfl M_obj rfl rfl (Nat.le_of_ble_eq_true rfl) dX2_manifest_27 ⟨Nat.le_of_ble_eq_true rfl, Nat.le_of_ble_eq_true rfl⟩ (fun _ q => q.elim) (fun r0 u0 r_7 => ?_)
    subst r_7
    show fw_W _ _ _ _ _ _ _ _ _ _ _ _ _ _ _ _ _ _ _ (.int (b2i (1 = 0)) :: _)
    refine fw_iv (y := 0) (if_neg (by decide)) ?_
    refine fw_if_eq (pc := 30) (tgt := 47) X dX2_manifest_30 (by decide) (fun _ => ?_) (fun q => absurd (by decide) q)
    refine fw_iconst (pc := 47) (v := 0) X dX2_manifest_47 (by decide) ?_
    exact fw_iret (pc := 48) X hr hlk (Nat.le_of_ble_eq_true rfl) (Nat.le_of_ble_eq_true rfl) dX2_manifest_48 () (by simp [m_man_v, m_man_k, c_2]) (by simp [m_man_v, m_man_k, c_2])
theorem kX2_held_23 : Cond.fieldLink RX2 23 (TX2 6).1 (TX2 6).2.1 (TX2 6).2.2.1 ∈ wsX2_held := by decide +kernel
set_option maxRecDepth 20000 in
theorem iX2_held_X2 : ∀ w ∈ wsX20, w ∈ wsX2_held := by decide +kernel
theorem dsc_X2_held : fw_dsc yX2_held 1 := by decide +kernel
set_option maxHeartbeats 4000000 in
set_option maxRecDepth 100000 in
theorem ct_X2_held {l : Launch} {D : va_G} {K : Nat → ClassId} {a : Nat → Nat} {F : Nat → Int32} {G : Nat → Nat → Int32} (v : Int32) : fw_C (S := Unit) l yX2_held wsX2_held ({ frames := 2, cells := 0, slots := 0, locals := 42 }) 0 0 false [.ref (a 0), .int v] D (tyS K) (MW K a F G) (fun r _ => r = some (.int (m_tr_v G 6 v))) (fun _ => MW K a (upd F 0 (m_tr_k v)) G) (fun _ => False) := by
  refine fw_met (maxL := 2) (ret := (some .int)) (by decide) rfl (Nat.le_of_ble_eq_true rfl) ?_
  intro p e s m args below meth c A X hr hlk hnm htab hE
  refine fw_lv (lv' := [(0, .ref (a 0)), (1, .int v)]) [0, 1] rfl ?_
  refine fw_aload_n (pc := 0) X dX2_held_0 rfl 0 rfl ?_
  refine fw_iload_n (pc := 1) X dX2_held_1 rfl 1 rfl ?_
  refine fw_callS (pc := 2) (n := 1) X hE [.int v] (ct_X2_isTrader v) (by decide) gX2_held_X2_isTrader rfl ⟨rfl, rfl⟩ dsc_X2_isTrader ⟨Nat.le_of_ble_eq_true rfl, Nat.le_of_ble_eq_true rfl⟩ rfl rfl (Nat.le_of_ble_eq_true rfl) dX2_held_2 ⟨Nat.le_of_ble_eq_true rfl, Nat.le_of_ble_eq_true rfl⟩ (fun _ q => q.elim) (fun r0 u0 r_1 => ?_)
  subst r_1
  show fw_W _ _ _ _ _ _ _ _ _ _ _ _ _ _ _ _ _ _ _ (.int (b2i (m_in v 0 3 = true)) :: _)
  by_cases c_2 : m_in v 0 3 = true
  · obtain ⟨hx_v, hl_v⟩ := in_ix (h := 3) (N := 4) (by decide) (by decide) c_2
    refine fw_iv (y := 1) (if_pos c_2) ?_
    refine fw_if_eq (pc := 5) (tgt := 12) X dX2_held_5 (by decide) (fun q => absurd q (by decide)) (fun _ => ?_)
    refine fw_iconst (pc := 8) (v := 0) X dX2_held_8 (by decide) ?_
    refine fw_goto (pc := 9) (tgt := 13) X dX2_held_9 (by decide) ?_
    refine fw_callV (pc := 13) (n := 1) (C := (RX2, TX2, 21)) (ci := 2) (q0 := 0) X hE [.int 0] (ct_X2_isFine 0) (by decide) gX2_held_X2_isFine rfl ⟨rfl, rfl⟩ ⟨rfl, dsc_X2_isFine⟩ ⟨Nat.le_of_ble_eq_true rfl, Nat.le_of_ble_eq_true rfl⟩ rfl M_obj rfl rfl (Nat.le_of_ble_eq_true rfl) dX2_held_13 ⟨Nat.le_of_ble_eq_true rfl, Nat.le_of_ble_eq_true rfl⟩ (fun _ q => q.elim) (fun r0 u0 r_3 => ?_)
    subst r_3
    show fw_W _ _ _ _ _ _ _ _ _ _ _ _ _ _ _ _ _ _ _ (.int (b2i (0 = 0)) :: _)
    refine fw_iv (y := 1) (if_pos (by decide)) ?_
    refine fw_if_eq (pc := 16) (tgt := 28) X dX2_held_16 (by decide) (fun q => absurd q (by decide)) (fun _ => ?_)
    refine fw_aload_n (pc := 19) X dX2_held_19 rfl 0 rfl ?_
    refine fw_get (pc := 20) (v := .ref (a 6)) X iX2_held_X2 0 M_obj rfl 6 (by decide) kX2_held_23 rfl dX2_held_20 ?_
    refine fw_iload_n (pc := 23) X dX2_held_23 rfl 1 rfl ?_
    refine fw_iald (pc := 24) (f := G 6) X 4 0 (M_g6 (G := G)) rfl (ix v) hx_v (by omega) (by decide) dX2_held_24 ?_
    refine fw_goto (pc := 25) (tgt := 29) X dX2_held_25 (by decide) ?_
    exact fw_iret (pc := 29) X hr hlk (Nat.le_of_ble_eq_true rfl) (Nat.le_of_ble_eq_true rfl) dX2_held_29 () (by simp [m_tr_v, m_tr_k, c_2]) (by simp [m_tr_v, m_tr_k, c_2])
  · refine fw_iv (y := 0) (if_neg c_2) ?_
    refine fw_if_eq (pc := 5) (tgt := 12) X dX2_held_5 (by decide) (fun _ => ?_) (fun q => absurd (by decide) q)
    refine fw_iconst (pc := 12) (v := 1) X dX2_held_12 (by decide) ?_
    refine fw_callV (pc := 13) (n := 1) (C := (RX2, TX2, 21)) (ci := 2) (q0 := 0) X hE [.int 1] (ct_X2_isFine 1) (by decide) gX2_held_X2_isFine rfl ⟨rfl, rfl⟩ ⟨rfl, dsc_X2_isFine⟩ ⟨Nat.le_of_ble_eq_true rfl, Nat.le_of_ble_eq_true rfl⟩ rfl M_obj rfl rfl (Nat.le_of_ble_eq_true rfl) dX2_held_13 ⟨Nat.le_of_ble_eq_true rfl, Nat.le_of_ble_eq_true rfl⟩ (fun _ q => q.elim) (fun r0 u0 r_4 => ?_)
    subst r_4
    show fw_W _ _ _ _ _ _ _ _ _ _ _ _ _ _ _ _ _ _ _ (.int (b2i (1 = 0)) :: _)
    refine fw_iv (y := 0) (if_neg (by decide)) ?_
    refine fw_if_eq (pc := 16) (tgt := 28) X dX2_held_16 (by decide) (fun _ => ?_) (fun q => absurd (by decide) q)
    refine fw_iconst (pc := 28) (v := 0) X dX2_held_28 (by decide) ?_
    exact fw_iret (pc := 29) X hr hlk (Nat.le_of_ble_eq_true rfl) (Nat.le_of_ble_eq_true rfl) dX2_held_29 () (by simp [m_tr_v, m_tr_k, c_2]) (by simp [m_tr_v, m_tr_k, c_2])
theorem kX2_paid_26 : Cond.fieldLink RX2 26 (TX2 7).1 (TX2 7).2.1 (TX2 7).2.2.1 ∈ wsX2_paid := by decide +kernel
set_option maxRecDepth 20000 in
theorem iX2_paid_X2 : ∀ w ∈ wsX20, w ∈ wsX2_paid := by decide +kernel
theorem dsc_X2_paid : fw_dsc yX2_paid 1 := by decide +kernel
set_option maxHeartbeats 4000000 in
set_option maxRecDepth 100000 in
theorem ct_X2_paid {l : Launch} {D : va_G} {K : Nat → ClassId} {a : Nat → Nat} {F : Nat → Int32} {G : Nat → Nat → Int32} (v : Int32) : fw_C (S := Unit) l yX2_paid wsX2_paid ({ frames := 2, cells := 0, slots := 0, locals := 42 }) 0 0 false [.ref (a 0), .int v] D (tyS K) (MW K a F G) (fun r _ => r = some (.int (m_tr_v G 7 v))) (fun _ => MW K a (upd F 0 (m_tr_k v)) G) (fun _ => False) := by
  refine fw_met (maxL := 2) (ret := (some .int)) (by decide) rfl (Nat.le_of_ble_eq_true rfl) ?_
  intro p e s m args below meth c A X hr hlk hnm htab hE
  refine fw_lv (lv' := [(0, .ref (a 0)), (1, .int v)]) [0, 1] rfl ?_
  refine fw_aload_n (pc := 0) X dX2_paid_0 rfl 0 rfl ?_
  refine fw_iload_n (pc := 1) X dX2_paid_1 rfl 1 rfl ?_
  refine fw_callS (pc := 2) (n := 1) X hE [.int v] (ct_X2_isTrader v) (by decide) gX2_paid_X2_isTrader rfl ⟨rfl, rfl⟩ dsc_X2_isTrader ⟨Nat.le_of_ble_eq_true rfl, Nat.le_of_ble_eq_true rfl⟩ rfl rfl (Nat.le_of_ble_eq_true rfl) dX2_paid_2 ⟨Nat.le_of_ble_eq_true rfl, Nat.le_of_ble_eq_true rfl⟩ (fun _ q => q.elim) (fun r0 u0 r_1 => ?_)
  subst r_1
  show fw_W _ _ _ _ _ _ _ _ _ _ _ _ _ _ _ _ _ _ _ (.int (b2i (m_in v 0 3 = true)) :: _)
  by_cases c_2 : m_in v 0 3 = true
  · obtain ⟨hx_v, hl_v⟩ := in_ix (h := 3) (N := 4) (by decide) (by decide) c_2
    refine fw_iv (y := 1) (if_pos c_2) ?_
    refine fw_if_eq (pc := 5) (tgt := 12) X dX2_paid_5 (by decide) (fun q => absurd q (by decide)) (fun _ => ?_)
    refine fw_iconst (pc := 8) (v := 0) X dX2_paid_8 (by decide) ?_
    refine fw_goto (pc := 9) (tgt := 13) X dX2_paid_9 (by decide) ?_
    refine fw_callV (pc := 13) (n := 1) (C := (RX2, TX2, 21)) (ci := 2) (q0 := 0) X hE [.int 0] (ct_X2_isFine 0) (by decide) gX2_paid_X2_isFine rfl ⟨rfl, rfl⟩ ⟨rfl, dsc_X2_isFine⟩ ⟨Nat.le_of_ble_eq_true rfl, Nat.le_of_ble_eq_true rfl⟩ rfl M_obj rfl rfl (Nat.le_of_ble_eq_true rfl) dX2_paid_13 ⟨Nat.le_of_ble_eq_true rfl, Nat.le_of_ble_eq_true rfl⟩ (fun _ q => q.elim) (fun r0 u0 r_3 => ?_)
    subst r_3
    show fw_W _ _ _ _ _ _ _ _ _ _ _ _ _ _ _ _ _ _ _ (.int (b2i (0 = 0)) :: _)
    refine fw_iv (y := 1) (if_pos (by decide)) ?_
    refine fw_if_eq (pc := 16) (tgt := 28) X dX2_paid_16 (by decide) (fun q => absurd q (by decide)) (fun _ => ?_)
    refine fw_aload_n (pc := 19) X dX2_paid_19 rfl 0 rfl ?_
    refine fw_get (pc := 20) (v := .ref (a 7)) X iX2_paid_X2 0 M_obj rfl 7 (by decide) kX2_paid_26 rfl dX2_paid_20 ?_
    refine fw_iload_n (pc := 23) X dX2_paid_23 rfl 1 rfl ?_
    refine fw_iald (pc := 24) (f := G 7) X 5 0 (M_g7 (G := G)) rfl (ix v) hx_v (by omega) (by decide) dX2_paid_24 ?_
    refine fw_goto (pc := 25) (tgt := 29) X dX2_paid_25 (by decide) ?_
    exact fw_iret (pc := 29) X hr hlk (Nat.le_of_ble_eq_true rfl) (Nat.le_of_ble_eq_true rfl) dX2_paid_29 () (by simp [m_tr_v, m_tr_k, c_2]) (by simp [m_tr_v, m_tr_k, c_2])
  · refine fw_iv (y := 0) (if_neg c_2) ?_
    refine fw_if_eq (pc := 5) (tgt := 12) X dX2_paid_5 (by decide) (fun _ => ?_) (fun q => absurd (by decide) q)
    refine fw_iconst (pc := 12) (v := 1) X dX2_paid_12 (by decide) ?_
    refine fw_callV (pc := 13) (n := 1) (C := (RX2, TX2, 21)) (ci := 2) (q0 := 0) X hE [.int 1] (ct_X2_isFine 1) (by decide) gX2_paid_X2_isFine rfl ⟨rfl, rfl⟩ ⟨rfl, dsc_X2_isFine⟩ ⟨Nat.le_of_ble_eq_true rfl, Nat.le_of_ble_eq_true rfl⟩ rfl M_obj rfl rfl (Nat.le_of_ble_eq_true rfl) dX2_paid_13 ⟨Nat.le_of_ble_eq_true rfl, Nat.le_of_ble_eq_true rfl⟩ (fun _ q => q.elim) (fun r0 u0 r_4 => ?_)
    subst r_4
    show fw_W _ _ _ _ _ _ _ _ _ _ _ _ _ _ _ _ _ _ _ (.int (b2i (1 = 0)) :: _)
    refine fw_iv (y := 0) (if_neg (by decide)) ?_
    refine fw_if_eq (pc := 16) (tgt := 28) X dX2_paid_16 (by decide) (fun _ => ?_) (fun q => absurd (by decide) q)
    refine fw_iconst (pc := 28) (v := 0) X dX2_paid_28 (by decide) ?_
    exact fw_iret (pc := 29) X hr hlk (Nat.le_of_ble_eq_true rfl) (Nat.le_of_ble_eq_true rfl) dX2_paid_29 () (by simp [m_tr_v, m_tr_k, c_2]) (by simp [m_tr_v, m_tr_k, c_2])
