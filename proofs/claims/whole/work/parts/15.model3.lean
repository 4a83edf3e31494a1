theorem kX2_whyNot_60 : Cond.fieldLink RX2 60 (TX2 18).1 (TX2 18).2.1 (TX2 18).2.2.1 ∈ wsX2_whyNot := by decide +kernel
set_option maxRecDepth 20000 in
theorem iX2_whyNot_X2 : ∀ w ∈ wsX20, w ∈ wsX2_whyNot := by decide +kernel
theorem dsc_X2_whyNot : fw_dsc yX2_whyNot 4 := by decide +kernel
set_option maxHeartbeats 4000000 in
set_option maxRecDepth 100000 in
theorem ct_X2_whyNot {l : Launch} {D : va_G} {K : Nat → ClassId} {a : Nat → Nat} {F : Nat → Int32} {G : Nat → Nat → Int32} (u v x y : Int32) {n : Nat} (hn : F 19 = nI n) (hn15 : n ≤ 15) : fw_C (S := Unit) l yX2_whyNot wsX2_whyNot ({ frames := 3, cells := 0, slots := 0, locals := 64 }) 0 0 false [.ref (a 0), .int u, .int v, .int x, .int y] D (tyS K) (MW K a F G) (fun r _ => r = some (.int (m_why F G u v x y))) (fun _ => MW K a F G) (fun _ => False) := by
  refine fw_met (maxL := 5) (ret := (some .int)) (by decide) rfl (Nat.le_of_ble_eq_true rfl) ?_
  intro p e s m args below meth c A X hr hlk hnm htab hE
  refine fw_lv (lv' := [(0, .ref (a 0)), (1, .int u), (2, .int v), (3, .int x), (4, .int y)]) [0, 1, 2, 3, 4] rfl ?_
  refine fw_aload_n (pc := 0) X dX2_whyNot_0 rfl 0 rfl ?_
  refine fw_iload_n (pc := 1) X dX2_whyNot_1 rfl 1 rfl ?_
  refine fw_callV (pc := 2) (n := 1) (C := (RX2, TX2, 21)) (ci := 2) (q0 := 0) X hE [.int u] (ct_X2_isConsignment u) (by decide) gX2_whyNot_X2_isConsignment rfl ⟨rfl, rfl⟩ ⟨rfl, dsc_X2_isConsignment⟩ ⟨Nat.le_of_ble_eq_true rfl, Nat.le_of_ble_eq_true rfl⟩ rfl M_obj rfl rfl (Nat.le_of_ble_eq_true rfl) dX2_whyNot_2 ⟨Nat.le_of_ble_eq_true rfl, Nat.le_of_ble_eq_true rfl⟩ (fun _ q => q.elim) (fun r0 u0 r_1 => ?_)
  subst r_1
  show fw_W _ _ _ _ _ _ _ _ _ _ _ _ _ _ _ _ _ _ _ (.int (b2i (m_in u 0 (F 19 - 1) = true)) :: _)
  by_cases c_2 : m_in u 0 (F 19 - 1) = true
  · obtain ⟨hx_u, hl_u⟩ := in_con hn15 (by rw [← hn]; exact c_2)
    refine fw_iv (y := 1) (if_pos c_2) ?_
    refine fw_if_ne (pc := 5) (tgt := 10) X dX2_whyNot_5 (by decide) (fun _ => ?_) (fun q => absurd q (by decide))
    refine fw_iload_n (pc := 10) X dX2_whyNot_10 rfl 2 rfl ?_
    refine fw_iload_n (pc := 11) X dX2_whyNot_11 rfl 3 rfl ?_
    refine fw_iload (pc := 12) X dX2_whyNot_12 4 rfl ?_
    refine fw_callS (pc := 14) (n := 3) X hE [.int v, .int x, .int y] (ct_X2_isGoods v x y) (by decide) gX2_whyNot_X2_isGoods rfl ⟨rfl, rfl⟩ dsc_X2_isGoods ⟨Nat.le_of_ble_eq_true rfl, Nat.le_of_ble_eq_true rfl⟩ rfl rfl (Nat.le_of_ble_eq_true rfl) dX2_whyNot_14 ⟨Nat.le_of_ble_eq_true rfl, Nat.le_of_ble_eq_true rfl⟩ (fun _ q => q.elim) (fun r0 u0 r_3 => ?_)
    subst r_3
    show fw_W _ _ _ _ _ _ _ _ _ _ _ _ _ _ _ _ _ _ _ (.int (b2i (m_gd v x y = true)) :: _)
    by_cases c_4 : m_gd v x y = true
    · obtain ⟨g_5a, g_5b, g_5c⟩ := gd_true c_4
      obtain ⟨hx_v, hl_v⟩ := in_ix (h := 5) (N := 6) (by decide) (by decide) g_5a
      obtain ⟨hx_x, hl_x⟩ := in_ix (h := 2) (N := 3) (by decide) (by decide) g_5b
      refine fw_iv (y := 1) (if_pos c_4) ?_
      refine fw_if_ne (pc := 17) (tgt := 24) X dX2_whyNot_17 (by decide) (fun _ => ?_) (fun q => absurd q (by decide))
      refine fw_aload_n (pc := 24) X dX2_whyNot_24 rfl 0 rfl ?_
      refine fw_get (pc := 25) (v := .ref (a 18)) X iX2_whyNot_X2 0 M_obj rfl 18 (by decide) kX2_whyNot_60 rfl dX2_whyNot_25 ?_
      refine fw_iload_n (pc := 28) X dX2_whyNot_28 rfl 1 rfl ?_
      refine fw_iload_n (pc := 29) X dX2_whyNot_29 rfl 2 rfl ?_
      refine fw_iload_n (pc := 30) X dX2_whyNot_30 rfl 3 rfl ?_
      refine fw_callS (pc := 31) (n := 3) X hE [.int u, .int v, .int x] (ct_X2_at u v x) (by decide) gX2_whyNot_X2_at rfl ⟨rfl, rfl⟩ dsc_X2_at ⟨Nat.le_of_ble_eq_true rfl, Nat.le_of_ble_eq_true rfl⟩ rfl rfl (Nat.le_of_ble_eq_true rfl) dX2_whyNot_31 ⟨Nat.le_of_ble_eq_true rfl, Nat.le_of_ble_eq_true rfl⟩ (fun _ q => q.elim) (fun r0 u0 r_6 => ?_)
      subst r_6
      refine fw_iald (pc := 34) (f := G 18) X 16 0 (M_g18 (G := G)) rfl (3 * (6 * (ix u) + (ix v)) + (ix x)) (nf_add (nf_mul (show (3 : Int32) = nI 3 from rfl) (nf_add (nf_mul (show (6 : Int32) = nI 6 from rfl) hx_u) hx_v)) hx_x) (by omega) (by decide) dX2_whyNot_34 ?_
      refine fw_iload (pc := 35) X dX2_whyNot_35 4 rfl ?_
      refine fw_icmp_ge (pc := 37) (tgt := 44) X dX2_whyNot_37 (by decide) (fun c_7 => ?_) (fun c_7 => ?_)
      · refine fw_iconst (pc := 44) (v := 0) X dX2_whyNot_44 (by decide) ?_
        exact fw_iret (pc := 45) X hr hlk (Nat.le_of_ble_eq_true rfl) (Nat.le_of_ble_eq_true rfl) dX2_whyNot_45 () (by simp [m_why, c_2, c_4, c_7]) (by simp [m_why, c_2, c_4, c_7])
      · refine fw_iconst (pc := 40) (v := 3) X dX2_whyNot_40 (by decide) ?_
        refine fw_goto (pc := 41) (tgt := 45) X dX2_whyNot_41 (by decide) ?_
        exact fw_iret (pc := 45) X hr hlk (Nat.le_of_ble_eq_true rfl) (Nat.le_of_ble_eq_true rfl) dX2_whyNot_45 () (by simp [m_why, c_2, c_4, c_7]) (by simp [m_why, c_2, c_4, c_7])
    · refine fw_iv (y := 0) (if_neg c_4) ?_
      refine fw_if_ne (pc := 17) (tgt := 24) X dX2_whyNot_17 (by decide) (fun q => absurd (by decide) q) (fun _ => ?_)
      refine fw_iconst (pc := 20) (v := 2) X dX2_whyNot_20 (by decide) ?_
      refine fw_goto (pc := 21) (tgt := 45) X dX2_whyNot_21 (by decide) ?_
      exact fw_iret (pc := 45) X hr hlk (Nat.le_of_ble_eq_true rfl) (Nat.le_of_ble_eq_true rfl) dX2_whyNot_45 () (by simp [m_why, c_2, c_4]) (by simp [m_why, c_2, c_4])
  · refine fw_iv (y := 0) (if_neg c_2) ?_
    refine fw_if_ne (pc := 5) (tgt := 10) X dX2_whyNot_5 (by decide) (fun q => absurd (by decide) q) (fun _ => ?_)
    refine fw_iconst (pc := 8) (v := 1) X dX2_whyNot_8 (by decide) ?_
    exact fw_iret (pc := 9) X hr hlk (Nat.le_of_ble_eq_true rfl) (Nat.le_of_ble_eq_true rfl) dX2_whyNot_9 () (by simp [m_why, c_2]) (by simp [m_why, c_2])
theorem kX2_leaves_57 : Cond.fieldLink RX2 57 (TX2 17).1 (TX2 17).2.1 (TX2 17).2.2.1 ∈ wsX2_leaves := by decide +kernel
theorem kX2_leaves_23 : Cond.fieldLink RX2 23 (TX2 6).1 (TX2 6).2.1 (TX2 6).2.2.1 ∈ wsX2_leaves := by decide +kernel
theorem kX2_leaves_29 : Cond.fieldLink RX2 29 (TX2 8).1 (TX2 8).2.1 (TX2 8).2.2.1 ∈ wsX2_leaves := by decide +kernel
theorem kX2_leaves_35 : Cond.fieldLink RX2 35 (TX2 10).1 (TX2 10).2.1 (TX2 10).2.2.1 ∈ wsX2_leaves := by decide +kernel
theorem kX2_leaves_60 : Cond.fieldLink RX2 60 (TX2 18).1 (TX2 18).2.1 (TX2 18).2.2.1 ∈ wsX2_leaves := by decide +kernel
set_option maxRecDepth 20000 in
theorem iX2_leaves_X2 : ∀ w ∈ wsX20, w ∈ wsX2_leaves := by decide +kernel
set_option maxHeartbeats 4000000 in
set_option maxRecDepth 100000 in
theorem lp_X2_leaves_59 {p : Program} {l : Launch} {e : Env}  {s : State} {m : MethodId} {args : Array Value} {below : List Frame} {meth : Method} {c : Code} {D : va_G} {A : Nat → Prop} {Q : State → Prop}  {K : Nat → ClassId} {a : Nat → Nat} {F : Nat → Int32} {G : Nat → Nat → Int32} (u v x y z : Int32) (k : Nat) (hu : u = nI k) (hk : k < 15) (X : fw_X p s m args c D A 8 cX2_leaves RX2 wsX2_leaves (tyS K)) (hE : fw_E false A s) (kk : fw_W p l e ({ frames := 1, cells := 0, slots := 0, locals := 22 }) s m args below meth c D A 8 Q (MW K a F G) 0 0 [(0, .ref (a 0)), (1, .int u), (2, .int v), (3, .int x), (4, .int y), (5, .int z), (6, .int (m_lf (G 18) (3 * (6 * k + 0) + 0) 18)), (7, .int (nI ((3 * (6 * k + 0) + 0) + 18)))] 90 []) : ∀ (d i : Nat), i + d = 18 → fw_W p l e ({ frames := 1, cells := 0, slots := 0, locals := 22 }) s m args below meth c D A 8 Q (MW K a F G) 0 0 [(0, .ref (a 0)), (1, .int u), (2, .int v), (3, .int x), (4, .int y), (5, .int z), (6, .int (m_lf (G 18) (3 * (6 * k + 0) + 0) i)), (7, .int (nI ((3 * (6 * k + 0) + 0) + i)))] 59 [] := by
  intro d
  induction d with
  | zero =>
    intro i hi
    obtain rfl : i = 18 := by omega
    refine fw_iload (pc := 59) X dX2_leaves_59 7 rfl ?_
    refine fw_iload_n (pc := 61) X dX2_leaves_61 rfl 1 rfl ?_
    refine fw_iconst (pc := 62) (v := 1) X dX2_leaves_62 (by decide) ?_
    refine fw_iadd (pc := 63) X dX2_leaves_63 ?_
    refine fw_iconst (pc := 64) (v := 0) X dX2_leaves_64 (by decide) ?_
    refine fw_iconst (pc := 65) (v := 0) X dX2_leaves_65 (by decide) ?_
    refine fw_callS (pc := 66) (n := 3) X hE [.int (u + 1), .int 0, .int 0] (ct_X2_at (u + 1) 0 0) (by decide) gX2_leaves_X2_at rfl ⟨rfl, rfl⟩ dsc_X2_at ⟨Nat.le_of_ble_eq_true rfl, Nat.le_of_ble_eq_true rfl⟩ rfl rfl (Nat.le_of_ble_eq_true rfl) dX2_leaves_66 ⟨Nat.le_of_ble_eq_true rfl, Nat.le_of_ble_eq_true rfl⟩ (fun _ q => q.elim) (fun r0 u0 r_1 => ?_)
    subst r_1
    refine fw_icmp_ge (pc := 69) (tgt := 90) X dX2_leaves_69 (by decide) (fun _ => ?_) (fun q => absurd (by rw [(nf_add (nf_mul (show (3 : Int32) = nI 3 from rfl) (nf_add (nf_mul (show (6 : Int32) = nI 6 from rfl) (nf_add hu (show (1 : Int32) = nI 1 from rfl))) (show (0 : Int32) = nI 0 from rfl))) (show (0 : Int32) = nI 0 from rfl))]; exact nI_le (by omega) (by omega)) q)
    exact kk
  | succ d ih =>
    intro i hi
    refine fw_iload (pc := 59) X dX2_leaves_59 7 rfl ?_
    refine fw_iload_n (pc := 61) X dX2_leaves_61 rfl 1 rfl ?_
    refine fw_iconst (pc := 62) (v := 1) X dX2_leaves_62 (by decide) ?_
    refine fw_iadd (pc := 63) X dX2_leaves_63 ?_
    refine fw_iconst (pc := 64) (v := 0) X dX2_leaves_64 (by decide) ?_
    refine fw_iconst (pc := 65) (v := 0) X dX2_leaves_65 (by decide) ?_
    refine fw_callS (pc := 66) (n := 3) X hE [.int (u + 1), .int 0, .int 0] (ct_X2_at (u + 1) 0 0) (by decide) gX2_leaves_X2_at rfl ⟨rfl, rfl⟩ dsc_X2_at ⟨Nat.le_of_ble_eq_true rfl, Nat.le_of_ble_eq_true rfl⟩ rfl rfl (Nat.le_of_ble_eq_true rfl) dX2_leaves_66 ⟨Nat.le_of_ble_eq_true rfl, Nat.le_of_ble_eq_true rfl⟩ (fun _ q => q.elim) (fun r0 u0 r_2 => ?_)
    subst r_2
    refine fw_icmp_ge (pc := 69) (tgt := 90) X dX2_leaves_69 (by decide) (fun q => absurd q (by rw [(nf_add (nf_mul (show (3 : Int32) = nI 3 from rfl) (nf_add (nf_mul (show (6 : Int32) = nI 6 from rfl) (nf_add hu (show (1 : Int32) = nI 1 from rfl))) (show (0 : Int32) = nI 0 from rfl))) (show (0 : Int32) = nI 0 from rfl))]; exact nI_ge (by omega) (by omega))) (fun _ => ?_)
    refine fw_iload (pc := 72) X dX2_leaves_72 6 rfl ?_
    refine fw_aload_n (pc := 74) X dX2_leaves_74 rfl 0 rfl ?_
    refine fw_get (pc := 75) (v := .ref (a 18)) X iX2_leaves_X2 0 M_obj rfl 18 (by decide) kX2_leaves_60 rfl dX2_leaves_75 ?_
    refine fw_iload (pc := 78) X dX2_leaves_78 7 rfl ?_
    refine fw_iald (pc := 80) (f := G 18) X 16 0 (M_g18 (G := G)) rfl ((3 * (6 * k + 0) + 0) + i) rfl (by omega) (by decide) dX2_leaves_80 ?_
    refine fw_iadd (pc := 81) X dX2_leaves_81 ?_
    refine fw_iv (show (m_lf (G 18) (3 * (6 * k + 0) + 0) i) + (G 18 ((3 * (6 * k + 0) + 0) + i)) = m_lf (G 18) (3 * (6 * k + 0) + 0) ((i + 1)) from rfl) ?_
    refine fw_istore (pc := 82) (lv' := [(6, .int (m_lf (G 18) (3 * (6 * k + 0) + 0) ((i + 1)))), (0, .ref (a 0)), (1, .int u), (2, .int v), (3, .int x), (4, .int y), (5, .int z), (7, .int (nI ((3 * (6 * k + 0) + 0) + i)))]) X dX2_leaves_82 (by decide) rfl ?_
    refine fw_iinc (pc := 84) (v := nI ((3 * (6 * k + 0) + 0) + i + 1)) (lv' := [(7, .int (nI ((3 * (6 * k + 0) + 0) + i + 1))), (6, .int (m_lf (G 18) (3 * (6 * k + 0) + 0) ((i + 1)))), (0, .ref (a 0)), (1, .int u), (2, .int v), (3, .int x), (4, .int y), (5, .int z)]) (j := 7) X dX2_leaves_84 rfl (nI_1 _) (by decide) rfl ?_
    refine fw_goto (pc := 87) (tgt := 59) X dX2_leaves_87 (by decide) ?_
    refine fw_lv (lv' := [(0, .ref (a 0)), (1, .int u), (2, .int v), (3, .int x), (4, .int y), (5, .int z), (6, .int (m_lf (G 18) (3 * (6 * k + 0) + 0) ((i + 1)))), (7, .int (nI ((3 * (6 * k + 0) + 0) + ((i + 1)))))]) [2, 3, 4, 5, 6, 7, 1, 0] rfl ?_
    exact ih (i + 1) (by omega)
theorem dsc_X2_leaves : fw_dsc yX2_leaves 4 := by decide +kernel
set_option maxHeartbeats 4000000 in
set_option maxRecDepth 100000 in
theorem ct_X2_leaves {l : Launch} {D : va_G} {K : Nat → ClassId} {a : Nat → Nat} {F : Nat → Int32} {G : Nat → Nat → Int32} (u v x y : Int32) (k i j : Nat) (hu : u = nI k) (hk : k < 15) (hv : v = nI i) (hi : i < 6) (hx : x = nI j) (hj : j < 3) (hT : ∀ k, k < 15 → G 8 k = nI (ix (G 8 k)) ∧ ix (G 8 k) < 4) : fw_C (S := Unit) l yX2_leaves wsX2_leaves ({ frames := 1, cells := 0, slots := 0, locals := 22 }) 0 0 false [.ref (a 0), .int u, .int v, .int x, .int y] D (tyS K) (MW K a F G) (fun r _ => r = some (.int (y * G 17 (6 * k + i)))) (fun _ => MW K a F (m_lv_G G k i j y)) (fun _ => False) := by
  refine fw_met (maxL := 8) (ret := (some .int)) (by decide) rfl (Nat.le_of_ble_eq_true rfl) ?_
  intro p e s m args below meth c A X hr hlk hnm htab hE
  refine fw_lv (lv' := [(0, .ref (a 0)), (1, .int u), (2, .int v), (3, .int x), (4, .int y)]) [0, 1, 2, 3, 4] rfl ?_
  obtain ⟨htx, htl⟩ := hT k hk
  refine fw_aload_n (pc := 0) X dX2_leaves_0 rfl 0 rfl ?_
  refine fw_get (pc := 1) (v := .ref (a 18)) X iX2_leaves_X2 0 M_obj rfl 18 (by decide) kX2_leaves_60 rfl dX2_leaves_1 ?_
  refine fw_iload_n (pc := 4) X dX2_leaves_4 rfl 1 rfl ?_
  refine fw_iload_n (pc := 5) X dX2_leaves_5 rfl 2 rfl ?_
  refine fw_iload_n (pc := 6) X dX2_leaves_6 rfl 3 rfl ?_
  refine fw_callS (pc := 7) (n := 3) X hE [.int u, .int v, .int x] (ct_X2_at u v x) (by decide) gX2_leaves_X2_at rfl ⟨rfl, rfl⟩ dsc_X2_at ⟨Nat.le_of_ble_eq_true rfl, Nat.le_of_ble_eq_true rfl⟩ rfl rfl (Nat.le_of_ble_eq_true rfl) dX2_leaves_7 ⟨Nat.le_of_ble_eq_true rfl, Nat.le_of_ble_eq_true rfl⟩ (fun _ q => q.elim) (fun r0 u0 r_3 => ?_)
  subst r_3
  refine fw_dup2 (pc := 10) X dX2_leaves_10 rfl rfl ?_
  refine fw_iald (pc := 11) (f := G 18) X 16 0 (M_g18 (G := G)) rfl (3 * (6 * k + i) + j) (nf_add (nf_mul (show (3 : Int32) = nI 3 from rfl) (nf_add (nf_mul (show (6 : Int32) = nI 6 from rfl) hu) hv)) hx) (by omega) (by decide) dX2_leaves_11 ?_
  refine fw_iload (pc := 12) X dX2_leaves_12 4 rfl ?_
  refine fw_isub (pc := 14) X dX2_leaves_14 ?_
  refine fw_iast (pc := 15) (f := G 18) (ws' := MW K a F (va_up G 18 (upd (G 18) (3 * (6 * k + i) + j) ((G 18 (3 * (6 * k + i) + j)) - y)))) X 16 0 (M_g18 (G := G)) rfl (3 * (6 * k + i) + j) (nf_add (nf_mul (show (3 : Int32) = nI 3 from rfl) (nf_add (nf_mul (show (6 : Int32) = nI 6 from rfl) hu) hv)) hx) (by omega) (by decide) dX2_leaves_15 (M_s18 _) ?_
  refine fw_iload (pc := 16) X dX2_leaves_16 4 rfl ?_
  refine fw_aload_n (pc := 18) X dX2_leaves_18 rfl 0 rfl ?_
  refine fw_get (pc := 19) (v := .ref (a 17)) X iX2_leaves_X2 0 M_obj rfl 17 (by decide) kX2_leaves_57 rfl dX2_leaves_19 ?_
  refine fw_bipush (pc := 22) (v := 6) X dX2_leaves_22 (by decide) ?_
  refine fw_iload_n (pc := 24) X dX2_leaves_24 rfl 1 rfl ?_
  refine fw_imul (pc := 25) X dX2_leaves_25 ?_
  refine fw_iload_n (pc := 26) X dX2_leaves_26 rfl 2 rfl ?_
  refine fw_iadd (pc := 27) X dX2_leaves_27 ?_
  refine fw_iald (pc := 28) (f := G 17) X 15 0 (M_g17 (G := (va_up G 18 (upd (G 18) (3 * (6 * k + i) + j) ((G 18 (3 * (6 * k + i) + j)) - y))))) rfl ((6 * k) + i) (nf_add (nf_mul (show (6 : Int32) = nI 6 from rfl) hu) hv) (by omega) (by decide) dX2_leaves_28 ?_
  refine fw_imul (pc := 29) X dX2_leaves_29 ?_
  refine fw_istore (pc := 30) (lv' := [(5, .int (y * (G 17 ((6 * k) + i)))), (0, .ref (a 0)), (1, .int u), (2, .int v), (3, .int x), (4, .int y)]) X dX2_leaves_30 (by decide) rfl ?_
  refine fw_aload_n (pc := 32) X dX2_leaves_32 rfl 1 rfl ?_
  refine fw_get (pc := 33) (v := .ref (a 6)) X iX2_leaves_X2 0 M_obj rfl 6 (by decide) kX2_leaves_23 rfl dX2_leaves_33 ?_
  refine fw_aload_n (pc := 36) X dX2_leaves_36 rfl 1 rfl ?_
  refine fw_get (pc := 37) (v := .ref (a 8)) X iX2_leaves_X2 0 M_obj rfl 8 (by decide) kX2_leaves_29 rfl dX2_leaves_37 ?_
  refine fw_iload_n (pc := 40) X dX2_leaves_40 rfl 2 rfl ?_
  refine fw_iald (pc := 41) (f := G 8) X 6 0 (M_g8 (G := (va_up G 18 (upd (G 18) (3 * (6 * k + i) + j) ((G 18 (3 * (6 * k + i) + j)) - y))))) rfl k hu (by omega) (by decide) dX2_leaves_41 ?_
  refine fw_dup2 (pc := 42) X dX2_leaves_42 rfl rfl ?_
  refine fw_iald (pc := 43) (f := G 6) X 4 0 (M_g6 (G := (va_up G 18 (upd (G 18) (3 * (6 * k + i) + j) ((G 18 (3 * (6 * k + i) + j)) - y))))) rfl (ix (G 8 k)) htx (by omega) (by decide) dX2_leaves_43 ?_
  refine fw_iload (pc := 44) X dX2_leaves_44 0 rfl ?_
  refine fw_isub (pc := 46) X dX2_leaves_46 ?_
  refine fw_iast (pc := 47) (f := G 6) (ws' := MW K a F (va_up (va_up G 18 (upd (G 18) (3 * (6 * k + i) + j) ((G 18 (3 * (6 * k + i) + j)) - y))) 6 (upd (G 6) (ix (G 8 k)) ((G 6 (ix (G 8 k))) - (y * (G 17 ((6 * k) + i))))))) X 4 0 (M_g6 (G := (va_up G 18 (upd (G 18) (3 * (6 * k + i) + j) ((G 18 (3 * (6 * k + i) + j)) - y))))) rfl (ix (G 8 k)) htx (by omega) (by decide) dX2_leaves_47 (M_s6 _) ?_
  refine fw_iconst (pc := 48) (v := 0) X dX2_leaves_48 (by decide) ?_
  refine fw_istore (pc := 49) (lv' := [(6, .int 0), (5, .int (y * (G 17 ((6 * k) + i)))), (0, .ref (a 0)), (1, .int u), (2, .int v), (3, .int x), (4, .int y)]) X dX2_leaves_49 (by decide) rfl ?_
  refine fw_iload_n (pc := 51) X dX2_leaves_51 rfl 3 rfl ?_
  refine fw_iconst (pc := 52) (v := 0) X dX2_leaves_52 (by decide) ?_
  refine fw_iconst (pc := 53) (v := 0) X dX2_leaves_53 (by decide) ?_
  refine fw_callS (pc := 54) (n := 3) X hE [.int u, .int 0, .int 0] (ct_X2_at u 0 0) (by decide) gX2_leaves_X2_at rfl ⟨rfl, rfl⟩ dsc_X2_at ⟨Nat.le_of_ble_eq_true rfl, Nat.le_of_ble_eq_true rfl⟩ rfl rfl (Nat.le_of_ble_eq_true rfl) dX2_leaves_54 ⟨Nat.le_of_ble_eq_true rfl, Nat.le_of_ble_eq_true rfl⟩ (fun _ q => q.elim) (fun r0 u0 r_4 => ?_)
  subst r_4
  refine fw_istore (pc := 57) (lv' := [(7, .int (3 * (6 * u + 0) + 0)), (6, .int 0), (5, .int (y * (G 17 ((6 * k) + i)))), (0, .ref (a 0)), (1, .int u), (2, .int v), (3, .int x), (4, .int y)]) X dX2_leaves_57 (by decide) rfl ?_
  refine fw_lv (lv' := [(0, .ref (a 0)), (1, .int u), (2, .int v), (3, .int x), (4, .int y), (5, .int (y * (G 17 ((6 * k) + i)))), (6, .int (m_lf (upd (G 18) (3 * (6 * k + i) + j) ((G 18 (3 * (6 * k + i) + j)) - y)) (3 * (6 * k + 0) + 0) 0)), (7, .int (3 * (6 * u + 0) + 0))]) [3, 4, 5, 6, 7, 2, 1, 0] rfl ?_
  refine fw_lve (lv2 := [(0, .ref (a 0)), (1, .int u), (2, .int v), (3, .int x), (4, .int y), (5, .int (y * (G 17 ((6 * k) + i)))), (6, .int (m_lf (upd (G 18) (3 * (6 * k + i) + j) ((G 18 (3 * (6 * k + i) + j)) - y)) (3 * (6 * k + 0) + 0) 0)), (7, .int (nI ((3 * (6 * k + 0) + 0) + 0)))]) (by rw [show 3 * (6 * u + 0) + 0 = nI ((3 * (6 * k + 0) + 0) + 0) from ((nf_add (nf_mul (show (3 : Int32) = nI 3 from rfl) (nf_add (nf_mul (show (6 : Int32) = nI 6 from rfl) hu) (show (0 : Int32) = nI 0 from rfl))) (show (0 : Int32) = nI 0 from rfl))).trans (congrArg nI (by omega))]) ?_
  refine lp_X2_leaves_59 u v x y (y * G 17 (6 * k + i)) k hu hk X hE ?_ 18 0 (by omega)
  refine fw_lv (lv' := [(0, .ref (a 0)), (1, .int u), (2, .int v), (3, .int x), (4, .int y), (5, .int (y * (G 17 ((6 * k) + i)))), (6, .int (m_lf (upd (G 18) (3 * (6 * k + i) + j) ((G 18 (3 * (6 * k + i) + j)) - y)) (3 * (6 * k + 0) + 0) 18)), (7, .int (nI ((3 * (6 * k + 0) + 0) + 18)))]) [0, 1, 2, 3, 4, 5, 6, 7] rfl ?_
  refine fw_aload_n (pc := 90) X dX2_leaves_90 rfl 0 rfl ?_
  refine fw_get (pc := 91) (v := .ref (a 10)) X iX2_leaves_X2 0 M_obj rfl 10 (by decide) kX2_leaves_35 rfl dX2_leaves_91 ?_
  refine fw_iload_n (pc := 94) X dX2_leaves_94 rfl 1 rfl ?_
  refine fw_iload (pc := 95) X dX2_leaves_95 6 rfl ?_
  refine fw_if_ne (pc := 97) (tgt := 104) X dX2_leaves_97 (by decide) (fun c_5 => ?_) (fun c_5 => ?_)
  · refine fw_iconst (pc := 104) (v := 2) X dX2_leaves_104 (by decide) ?_
    refine fw_iast (pc := 105) (f := G 10) (ws' := MW K a F (va_up (va_up (va_up G 18 (upd (G 18) (3 * (6 * k + i) + j) ((G 18 (3 * (6 * k + i) + j)) - y))) 6 (upd (G 6) (ix (G 8 k)) ((G 6 (ix (G 8 k))) - (y * (G 17 ((6 * k) + i)))))) 10 (upd (G 10) k 2))) X 8 0 (M_g10 (G := (va_up (va_up G 18 (upd (G 18) (3 * (6 * k + i) + j) ((G 18 (3 * (6 * k + i) + j)) - y))) 6 (upd (G 6) (ix (G 8 k)) ((G 6 (ix (G 8 k))) - (y * (G 17 ((6 * k) + i)))))))) rfl k hu (by omega) (by decide) dX2_leaves_105 (M_s10 _) ?_
    refine fw_iload (pc := 106) X dX2_leaves_106 5 rfl ?_
    exact fw_iret (pc := 108) X hr hlk (Nat.le_of_ble_eq_true rfl) (Nat.le_of_ble_eq_true rfl) dX2_leaves_108 () rfl (by rw [m_lv_G, if_neg c_5])
  · refine fw_iconst (pc := 100) (v := 3) X dX2_leaves_100 (by decide) ?_
    refine fw_goto (pc := 101) (tgt := 105) X dX2_leaves_101 (by decide) ?_
    refine fw_iast (pc := 105) (f := G 10) (ws' := MW K a F (va_up (va_up (va_up G 18 (upd (G 18) (3 * (6 * k + i) + j) ((G 18 (3 * (6 * k + i) + j)) - y))) 6 (upd (G 6) (ix (G 8 k)) ((G 6 (ix (G 8 k))) - (y * (G 17 ((6 * k) + i)))))) 10 (upd (G 10) k 3))) X 8 0 (M_g10 (G := (va_up (va_up G 18 (upd (G 18) (3 * (6 * k + i) + j) ((G 18 (3 * (6 * k + i) + j)) - y))) 6 (upd (G 6) (ix (G 8 k)) ((G 6 (ix (G 8 k))) - (y * (G 17 ((6 * k) + i)))))))) rfl k hu (by omega) (by decide) dX2_leaves_105 (M_s10 _) ?_
    refine fw_iload (pc := 106) X dX2_leaves_106 5 rfl ?_
    exact fw_iret (pc := 108) X hr hlk (Nat.le_of_ble_eq_true rfl) (Nat.le_of_ble_eq_true rfl) dX2_leaves_108 () rfl (by rw [m_lv_G, if_pos c_5])
theorem kX2_free_26 : Cond.fieldLink RX2 26 (TX2 7).1 (TX2 7).2.1 (TX2 7).2.2.1 ∈ wsX2_free := by decide +kernel
set_option maxRecDepth 20000 in
theorem iX2_free_X2 : ∀ w ∈ wsX20, w ∈ wsX2_free := by decide +kernel
theorem kX2_free_29 : Cond.fieldLink RX2 29 (TX2 8).1 (TX2 8).2.1 (TX2 8).2.2.1 ∈ wsX2_free := by decide +kernel
theorem dsc_X2_free : fw_dsc yX2_free 4 := by decide +kernel
set_option maxHeartbeats 4000000 in
set_option maxRecDepth 100000 in
theorem ct_X2_free {l : Launch} {D : va_G} {K : Nat → ClassId} {a : Nat → Nat} {F : Nat → Int32} {G : Nat → Nat → Int32} (u v x y : Int32) {n : Nat} (hn : F 19 = nI n) (hn15 : n ≤ 15) (hT : ∀ k, k < 15 → G 8 k = nI (ix (G 8 k)) ∧ ix (G 8 k) < 4) : fw_C (S := Unit) l yX2_free wsX2_free ({ frames := 4, cells := 0, slots := 0, locals := 88 }) 0 0 false [.ref (a 0), .int u, .int v, .int x, .int y] D (tyS K) (MW K a F G) (fun r _ => r = some (.int (m_fr_v F G u v x y))) (fun _ => MW K a (upd F 0 (m_why F G u v x y)) (m_fr_G F G u v x y)) (fun _ => False) := by
  refine fw_met (maxL := 6) (ret := (some .int)) (by decide) rfl (Nat.le_of_ble_eq_true rfl) ?_
  intro p e s m args below meth c A X hr hlk hnm htab hE
  refine fw_lv (lv' := [(0, .ref (a 0)), (1, .int u), (2, .int v), (3, .int x), (4, .int y)]) [0, 1, 2, 3, 4] rfl ?_
  refine fw_aload_n (pc := 0) X dX2_free_0 rfl 0 rfl ?_
  refine fw_aload_n (pc := 1) X dX2_free_1 rfl 0 rfl ?_
  refine fw_iload_n (pc := 2) X dX2_free_2 rfl 1 rfl ?_
  refine fw_iload_n (pc := 3) X dX2_free_3 rfl 2 rfl ?_
  refine fw_iload_n (pc := 4) X dX2_free_4 rfl 3 rfl ?_
  refine fw_iload (pc := 5) X dX2_free_5 4 rfl ?_
  refine fw_callV (pc := 7) (n := 4) (C := (RX2, TX2, 21)) (ci := 2) (q0 := 0) X hE [.int u, .int v, .int x, .int y] (ct_X2_whyNot u v x y (by exact hn) hn15) (by decide) gX2_free_X2_whyNot rfl ⟨rfl, rfl⟩ ⟨rfl, dsc_X2_whyNot⟩ ⟨Nat.le_of_ble_eq_true rfl, Nat.le_of_ble_eq_true rfl⟩ rfl M_obj rfl rfl (Nat.le_of_ble_eq_true rfl) dX2_free_7 ⟨Nat.le_of_ble_eq_true rfl, Nat.le_of_ble_eq_true rfl⟩ (fun _ q => q.elim) (fun r0 u0 r_1 => ?_)
  subst r_1
  refine fw_callV (pc := 10) (n := 1) (C := (RX2, TX2, 21)) (ci := 2) (q0 := 0) X hE [.int (m_why F G u v x y)] (ct_X2_isFine (m_why F G u v x y)) (by decide) gX2_free_X2_isFine rfl ⟨rfl, rfl⟩ ⟨rfl, dsc_X2_isFine⟩ ⟨Nat.le_of_ble_eq_true rfl, Nat.le_of_ble_eq_true rfl⟩ rfl M_obj rfl rfl (Nat.le_of_ble_eq_true rfl) dX2_free_10 ⟨Nat.le_of_ble_eq_true rfl, Nat.le_of_ble_eq_true rfl⟩ (fun _ q => q.elim) (fun r0 u0 r_2 => ?_)
  subst r_2
  show fw_W _ _ _ _ _ _ _ _ _ _ _ _ _ _ _ _ _ _ _ (.int (b2i ((m_why F G u v x y) = 0)) :: _)
  by_cases c_3 : (m_why F G u v x y) = 0
  · obtain ⟨y_4a, y_4b, y_4c⟩ := why_0 c_3
    obtain ⟨hx_u, hl_u⟩ := in_con hn15 (by rw [← hn]; exact y_4a)
    obtain ⟨ht_5x, ht_5l⟩ := hT (ix u) (by omega)
    obtain ⟨g_6a, g_6b, g_6c⟩ := gd_true y_4b
    obtain ⟨hx_v, hl_v⟩ := in_ix (h := 5) (N := 6) (by decide) (by decide) g_6a
    obtain ⟨hx_x, hl_x⟩ := in_ix (h := 2) (N := 3) (by decide) (by decide) g_6b
    refine fw_iv (y := 1) (if_pos c_3) ?_
    refine fw_if_ne (pc := 13) (tgt := 18) X dX2_free_13 (by decide) (fun _ => ?_) (fun q => absurd q (by decide))
    refine fw_aload_n (pc := 18) X dX2_free_18 rfl 0 rfl ?_
    refine fw_iload_n (pc := 19) X dX2_free_19 rfl 1 rfl ?_
    refine fw_iload_n (pc := 20) X dX2_free_20 rfl 2 rfl ?_
    refine fw_iload_n (pc := 21) X dX2_free_21 rfl 3 rfl ?_
    refine fw_iload (pc := 22) X dX2_free_22 4 rfl ?_
    refine fw_callV (pc := 24) (n := 4) (C := (RX2, TX2, 21)) (ci := 2) (q0 := 0) X hE [.int u, .int v, .int x, .int y] (ct_X2_leaves u v x y (ix u) (ix v) (ix x) hx_u (by omega) hx_v (by omega) hx_x (by omega) (by exact hT)) (by decide) gX2_free_X2_leaves rfl ⟨rfl, rfl⟩ ⟨rfl, dsc_X2_leaves⟩ ⟨Nat.le_of_ble_eq_true rfl, Nat.le_of_ble_eq_true rfl⟩ rfl M_obj rfl rfl (Nat.le_of_ble_eq_true rfl) dX2_free_24 ⟨Nat.le_of_ble_eq_true rfl, Nat.le_of_ble_eq_true rfl⟩ (fun _ q => q.elim) (fun r0 u0 r_7 => ?_)
    subst r_7
    refine fw_istore (pc := 27) (lv' := [(5, .int (y * G 17 (6 * (ix u) + (ix v)))), (0, .ref (a 0)), (1, .int u), (2, .int v), (3, .int x), (4, .int y)]) X dX2_free_27 (by decide) rfl ?_
    refine fw_aload_n (pc := 29) X dX2_free_29 rfl 1 rfl ?_
    refine fw_get (pc := 30) (v := .ref (a 7)) X iX2_free_X2 0 M_obj rfl 7 (by decide) kX2_free_26 rfl dX2_free_30 ?_
    refine fw_aload_n (pc := 33) X dX2_free_33 rfl 1 rfl ?_
    refine fw_get (pc := 34) (v := .ref (a 8)) X iX2_free_X2 0 M_obj rfl 8 (by decide) kX2_free_29 rfl dX2_free_34 ?_
    refine fw_iload_n (pc := 37) X dX2_free_37 rfl 2 rfl ?_
    refine fw_iald (pc := 38) (f := G 8) X 6 0 (M_g8 (G := (va_up (va_up (va_up G 18 (upd (G 18) (3 * (6 * (ix u) + (ix v)) + (ix x)) (G 18 (3 * (6 * (ix u) + (ix v)) + (ix x)) - y))) 6 (upd (G 6) (ix (G 8 (ix u))) (G 6 (ix (G 8 (ix u))) - y * G 17 (6 * (ix u) + (ix v))))) 10 (upd (G 10) (ix u) (if m_lf (upd (G 18) (3 * (6 * (ix u) + (ix v)) + (ix x)) (G 18 (3 * (6 * (ix u) + (ix v)) + (ix x)) - y)) (3 * (6 * (ix u) + 0) + 0) 18 = 0 then 3 else 2))))) rfl (ix u) hx_u (by omega) (by decide) dX2_free_38 ?_
    refine fw_dup2 (pc := 39) X dX2_free_39 rfl rfl ?_
    refine fw_iald (pc := 40) (f := G 7) X 5 0 (M_g7 (G := (va_up (va_up (va_up G 18 (upd (G 18) (3 * (6 * (ix u) + (ix v)) + (ix x)) (G 18 (3 * (6 * (ix u) + (ix v)) + (ix x)) - y))) 6 (upd (G 6) (ix (G 8 (ix u))) (G 6 (ix (G 8 (ix u))) - y * G 17 (6 * (ix u) + (ix v))))) 10 (upd (G 10) (ix u) (if m_lf (upd (G 18) (3 * (6 * (ix u) + (ix v)) + (ix x)) (G 18 (3 * (6 * (ix u) + (ix v)) + (ix x)) - y)) (3 * (6 * (ix u) + 0) + 0) 18 = 0 then 3 else 2))))) rfl (ix (G 8 (ix u))) ht_5x (by omega) (by decide) dX2_free_40 ?_
    refine fw_iload (pc := 41) X dX2_free_41 0 rfl ?_
    refine fw_iadd (pc := 43) X dX2_free_43 ?_
    refine fw_iast (pc := 44) (f := G 7) (ws' := MW K a (upd F 0 (m_why F G u v x y)) (va_up (va_up (va_up (va_up G 18 (upd (G 18) (3 * (6 * (ix u) + (ix v)) + (ix x)) (G 18 (3 * (6 * (ix u) + (ix v)) + (ix x)) - y))) 6 (upd (G 6) (ix (G 8 (ix u))) (G 6 (ix (G 8 (ix u))) - y * G 17 (6 * (ix u) + (ix v))))) 10 (upd (G 10) (ix u) (if m_lf (upd (G 18) (3 * (6 * (ix u) + (ix v)) + (ix x)) (G 18 (3 * (6 * (ix u) + (ix v)) + (ix x)) - y)) (3 * (6 * (ix u) + 0) + 0) 18 = 0 then 3 else 2))) 7 (upd (G 7) (ix (G 8 (ix u))) ((G 7 (ix (G 8 (ix u)))) + (y * G 17 (6 * (ix u) + (ix v))))))) X 5 0 (M_g7 (G := (va_up (va_up (va_up G 18 (upd (G 18) (3 * (6 * (ix u) + (ix v)) + (ix x)) (G 18 (3 * (6 * (ix u) + (ix v)) + (ix x)) - y))) 6 (upd (G 6) (ix (G 8 (ix u))) (G 6 (ix (G 8 (ix u))) - y * G 17 (6 * (ix u) + (ix v))))) 10 (upd (G 10) (ix u) (if m_lf (upd (G 18) (3 * (6 * (ix u) + (ix v)) + (ix x)) (G 18 (3 * (6 * (ix u) + (ix v)) + (ix x)) - y)) (3 * (6 * (ix u) + 0) + 0) 18 = 0 then 3 else 2))))) rfl (ix (G 8 (ix u))) ht_5x (by omega) (by decide) dX2_free_44 (M_s7 _) ?_
    refine fw_iload (pc := 45) X dX2_free_45 0 rfl ?_
    exact fw_iret (pc := 47) X hr hlk (Nat.le_of_ble_eq_true rfl) (Nat.le_of_ble_eq_true rfl) dX2_free_47 () (by simp [m_fr_v, m_fr_G, m_lv_G, c_3]) (by simp [m_fr_v, m_fr_G, m_lv_G, c_3])
  · refine fw_iv (y := 0) (if_neg c_3) ?_
    refine fw_if_ne (pc := 13) (tgt := 18) X dX2_free_13 (by decide) (fun q => absurd (by decide) q) (fun _ => ?_)
    refine fw_iconst (pc := 16) (v := 0) X dX2_free_16 (by decide) ?_
    exact fw_iret (pc := 17) X hr hlk (Nat.le_of_ble_eq_true rfl) (Nat.le_of_ble_eq_true rfl) dX2_free_17 () (by simp [m_fr_v, m_fr_G, m_lv_G, c_3]) (by simp [m_fr_v, m_fr_G, m_lv_G, c_3])
theorem dsc_X2_sendBack : fw_dsc yX2_sendBack 4 := by decide +kernel
set_option maxHeartbeats 4000000 in
set_option maxRecDepth 100000 in
theorem ct_X2_sendBack {l : Launch} {D : va_G} {K : Nat → ClassId} {a : Nat → Nat} {F : Nat → Int32} {G : Nat → Nat → Int32} (u v x y : Int32) {n : Nat} (hn : F 19 = nI n) (hn15 : n ≤ 15) (hT : ∀ k, k < 15 → G 8 k = nI (ix (G 8 k)) ∧ ix (G 8 k) < 4) : fw_C (S := Unit) l yX2_sendBack wsX2_sendBack ({ frames := 4, cells := 0, slots := 0, locals := 88 }) 0 0 false [.ref (a 0), .int u, .int v, .int x, .int y] D (tyS K) (MW K a F G) (fun r _ => r = some (.int (m_fr_v F G u v x y))) (fun _ => MW K a (upd F 0 (m_why F G u v x y)) (m_sb_G F G u v x y)) (fun _ => False) := by
  refine fw_met (maxL := 5) (ret := (some .int)) (by decide) rfl (Nat.le_of_ble_eq_true rfl) ?_
  intro p e s m args below meth c A X hr hlk hnm htab hE
  refine fw_lv (lv' := [(0, .ref (a 0)), (1, .int u), (2, .int v), (3, .int x), (4, .int y)]) [0, 1, 2, 3, 4] rfl ?_
  refine fw_aload_n (pc := 0) X dX2_sendBack_0 rfl 0 rfl ?_
  refine fw_aload_n (pc := 1) X dX2_sendBack_1 rfl 0 rfl ?_
  refine fw_iload_n (pc := 2) X dX2_sendBack_2 rfl 1 rfl ?_
  refine fw_iload_n (pc := 3) X dX2_sendBack_3 rfl 2 rfl ?_
  refine fw_iload_n (pc := 4) X dX2_sendBack_4 rfl 3 rfl ?_
  refine fw_iload (pc := 5) X dX2_sendBack_5 4 rfl ?_
  refine fw_callV (pc := 7) (n := 4) (C := (RX2, TX2, 21)) (ci := 2) (q0 := 0) X hE [.int u, .int v, .int x, .int y] (ct_X2_whyNot u v x y (by exact hn) hn15) (by decide) gX2_sendBack_X2_whyNot rfl ⟨rfl, rfl⟩ ⟨rfl, dsc_X2_whyNot⟩ ⟨Nat.le_of_ble_eq_true rfl, Nat.le_of_ble_eq_true rfl⟩ rfl M_obj rfl rfl (Nat.le_of_ble_eq_true rfl) dX2_sendBack_7 ⟨Nat.le_of_ble_eq_true rfl, Nat.le_of_ble_eq_true rfl⟩ (fun _ q => q.elim) (fun r0 u0 r_1 => ?_)
  subst r_1
  refine fw_callV (pc := 10) (n := 1) (C := (RX2, TX2, 21)) (ci := 2) (q0 := 0) X hE [.int (m_why F G u v x y)] (ct_X2_isFine (m_why F G u v x y)) (by decide) gX2_sendBack_X2_isFine rfl ⟨rfl, rfl⟩ ⟨rfl, dsc_X2_isFine⟩ ⟨Nat.le_of_ble_eq_true rfl, Nat.le_of_ble_eq_true rfl⟩ rfl M_obj rfl rfl (Nat.le_of_ble_eq_true rfl) dX2_sendBack_10 ⟨Nat.le_of_ble_eq_true rfl, Nat.le_of_ble_eq_true rfl⟩ (fun _ q => q.elim) (fun r0 u0 r_2 => ?_)
  subst r_2
  show fw_W _ _ _ _ _ _ _ _ _ _ _ _ _ _ _ _ _ _ _ (.int (b2i ((m_why F G u v x y) = 0)) :: _)
  by_cases c_3 : (m_why F G u v x y) = 0
  · obtain ⟨y_4a, y_4b, y_4c⟩ := why_0 c_3
    obtain ⟨hx_u, hl_u⟩ := in_con hn15 (by rw [← hn]; exact y_4a)
    obtain ⟨ht_5x, ht_5l⟩ := hT (ix u) (by omega)
    obtain ⟨g_6a, g_6b, g_6c⟩ := gd_true y_4b
    obtain ⟨hx_v, hl_v⟩ := in_ix (h := 5) (N := 6) (by decide) (by decide) g_6a
    obtain ⟨hx_x, hl_x⟩ := in_ix (h := 2) (N := 3) (by decide) (by decide) g_6b
    refine fw_iv (y := 1) (if_pos c_3) ?_
    refine fw_if_eq (pc := 13) (tgt := 28) X dX2_sendBack_13 (by decide) (fun q => absurd q (by decide)) (fun _ => ?_)
    refine fw_aload_n (pc := 16) X dX2_sendBack_16 rfl 0 rfl ?_
    refine fw_iload_n (pc := 17) X dX2_sendBack_17 rfl 1 rfl ?_
    refine fw_iload_n (pc := 18) X dX2_sendBack_18 rfl 2 rfl ?_
    refine fw_iload_n (pc := 19) X dX2_sendBack_19 rfl 3 rfl ?_
    refine fw_iload (pc := 20) X dX2_sendBack_20 4 rfl ?_
    refine fw_callV (pc := 22) (n := 4) (C := (RX2, TX2, 21)) (ci := 2) (q0 := 0) X hE [.int u, .int v, .int x, .int y] (ct_X2_leaves u v x y (ix u) (ix v) (ix x) hx_u (by omega) hx_v (by omega) hx_x (by omega) (by exact hT)) (by decide) gX2_sendBack_X2_leaves rfl ⟨rfl, rfl⟩ ⟨rfl, dsc_X2_leaves⟩ ⟨Nat.le_of_ble_eq_true rfl, Nat.le_of_ble_eq_true rfl⟩ rfl M_obj rfl rfl (Nat.le_of_ble_eq_true rfl) dX2_sendBack_22 ⟨Nat.le_of_ble_eq_true rfl, Nat.le_of_ble_eq_true rfl⟩ (fun _ q => q.elim) (fun r0 u0 r_7 => ?_)
    subst r_7
    refine fw_goto (pc := 25) (tgt := 29) X dX2_sendBack_25 (by decide) ?_
    exact fw_iret (pc := 29) X hr hlk (Nat.le_of_ble_eq_true rfl) (Nat.le_of_ble_eq_true rfl) dX2_sendBack_29 () (by simp [m_fr_v, m_sb_G, m_lv_G, c_3]) (by simp [m_fr_v, m_sb_G, m_lv_G, c_3])
  · refine fw_iv (y := 0) (if_neg c_3) ?_
    refine fw_if_eq (pc := 13) (tgt := 28) X dX2_sendBack_13 (by decide) (fun _ => ?_) (fun q => absurd (by decide) q)
    refine fw_iconst (pc := 28) (v := 0) X dX2_sendBack_28 (by decide) ?_
    exact fw_iret (pc := 29) X hr hlk (Nat.le_of_ble_eq_true rfl) (Nat.le_of_ble_eq_true rfl) dX2_sendBack_29 () (by simp [m_fr_v, m_sb_G, m_lv_G, c_3]) (by simp [m_fr_v, m_sb_G, m_lv_G, c_3])
theorem kX2_stored_70 : Cond.fieldLink RX2 70 (TX2 19).1 (TX2 19).2.1 (TX2 19).2.2.1 ∈ wsX2_stored := by decide +kernel
set_option maxRecDepth 20000 in
theorem iX2_stored_X2 : ∀ w ∈ wsX20, w ∈ wsX2_stored := by decide +kernel
theorem kX2_stored_60 : Cond.fieldLink RX2 60 (TX2 18).1 (TX2 18).2.1 (TX2 18).2.2.1 ∈ wsX2_stored := by decide +kernel
set_option maxHeartbeats 4000000 in
set_option maxRecDepth 100000 in
theorem lp_X2_stored_33 {p : Program} {l : Launch} {e : Env}  {s : State} {m : MethodId} {args : Array Value} {below : List Frame} {meth : Method} {c : Code} {D : va_G} {A : Nat → Prop} {Q : State → Prop}  {K : Nat → ClassId} {a : Nat → Nat} {F : Nat → Int32} {G : Nat → Nat → Int32} (v x : Int32) {n : Nat} (i0 j0 : Nat) (hv : v = nI i0) (hi0 : i0 < 6) (hx : x = nI j0) (hj0 : j0 < 3) (hn : F 19 = nI n) (hn15 : n ≤ 15) (X : fw_X p s m args c D A 5 cX2_stored RX2 wsX2_stored (tyS K)) (hE : fw_E false A s) (kk : fw_W p l e ({ frames := 2, cells := 0, slots := 0, locals := 42 }) s m args below meth c D A 5 Q (MW K a F G) 0 0 [(0, .ref (a 0)), (1, .int v), (2, .int x), (3, .int (m_sr G i0 j0 n)), (4, .int (nI n))] 63 []) : ∀ (d i : Nat), i + d = n → fw_W p l e ({ frames := 2, cells := 0, slots := 0, locals := 42 }) s m args below meth c D A 5 Q (MW K a F G) 0 0 [(0, .ref (a 0)), (1, .int v), (2, .int x), (3, .int (m_sr G i0 j0 i)), (4, .int (nI i))] 33 [] := by
  intro d
  induction d with
  | zero =>
    intro i hi
    have hiN : i = n := by omega
    subst hiN
    refine fw_iload (pc := 33) X dX2_stored_33 4 rfl ?_
    refine fw_aload_n (pc := 35) X dX2_stored_35 rfl 0 rfl ?_
    refine fw_get (pc := 36) (v := .int (F 19)) X iX2_stored_X2 0 M_obj rfl 19 (by decide) kX2_stored_70 rfl dX2_stored_36 ?_
    refine fw_icmp_ge (pc := 39) (tgt := 63) X dX2_stored_39 (by decide) (fun _ => ?_) (fun q => absurd (by rw [hn]; exact Int32.le_refl _) q)
    exact kk
  | succ d ih =>
    intro i hi
    refine fw_iload (pc := 33) X dX2_stored_33 4 rfl ?_
    refine fw_aload_n (pc := 35) X dX2_stored_35 rfl 0 rfl ?_
    refine fw_get (pc := 36) (v := .int (F 19)) X iX2_stored_X2 0 M_obj rfl 19 (by decide) kX2_stored_70 rfl dX2_stored_36 ?_
    refine fw_icmp_ge (pc := 39) (tgt := 63) X dX2_stored_39 (by decide) (fun q => absurd q (by rw [hn]; exact nI_ge (by omega) (by omega))) (fun _ => ?_)
    refine fw_iload_n (pc := 42) X dX2_stored_42 rfl 3 rfl ?_
    refine fw_aload_n (pc := 43) X dX2_stored_43 rfl 0 rfl ?_
    refine fw_get (pc := 44) (v := .ref (a 18)) X iX2_stored_X2 0 M_obj rfl 18 (by decide) kX2_stored_60 rfl dX2_stored_44 ?_
    refine fw_iload (pc := 47) X dX2_stored_47 4 rfl ?_
    refine fw_iload_n (pc := 49) X dX2_stored_49 rfl 1 rfl ?_
    refine fw_iload_n (pc := 50) X dX2_stored_50 rfl 2 rfl ?_
    refine fw_callS (pc := 51) (n := 3) X hE [.int (nI i), .int v, .int x] (ct_X2_at (nI i) v x) (by decide) gX2_stored_X2_at rfl ⟨rfl, rfl⟩ dsc_X2_at ⟨Nat.le_of_ble_eq_true rfl, Nat.le_of_ble_eq_true rfl⟩ rfl rfl (Nat.le_of_ble_eq_true rfl) dX2_stored_51 ⟨Nat.le_of_ble_eq_true rfl, Nat.le_of_ble_eq_true rfl⟩ (fun _ q => q.elim) (fun r0 u0 r_1 => ?_)
    subst r_1
    refine fw_iald (pc := 54) (f := G 18) X 16 0 (M_g18 (G := G)) rfl (3 * (6 * i + i0) + j0) (nf_add (nf_mul (show (3 : Int32) = nI 3 from rfl) (nf_add (nf_mul (show (6 : Int32) = nI 6 from rfl) rfl) hv)) hx) (by omega) (by decide) dX2_stored_54 ?_
    refine fw_iadd (pc := 55) X dX2_stored_55 ?_
    refine fw_iv (show (m_sr G i0 j0 i) + (G 18 (3 * (6 * i + i0) + j0)) = m_sr G i0 j0 ((i + 1)) from rfl) ?_
    refine fw_istore_n (pc := 56) (lv' := [(3, .int (m_sr G i0 j0 ((i + 1)))), (0, .ref (a 0)), (1, .int v), (2, .int x), (4, .int (nI i))]) X dX2_stored_56 rfl (by decide) rfl ?_
    refine fw_iinc (pc := 57) (v := nI (i + 1)) (lv' := [(4, .int (nI (i + 1))), (3, .int (m_sr G i0 j0 ((i + 1)))), (0, .ref (a 0)), (1, .int v), (2, .int x)]) (j := 4) X dX2_stored_57 rfl (nI_1 _) (by decide) rfl ?_
    refine fw_goto (pc := 60) (tgt := 33) X dX2_stored_60 (by decide) ?_
    refine fw_lv (lv' := [(0, .ref (a 0)), (1, .int v), (2, .int x), (3, .int (m_sr G i0 j0 ((i + 1)))), (4, .int (nI ((i + 1))))]) [2, 3, 4, 1, 0] rfl ?_
    exact ih (i + 1) (by omega)
theorem dsc_X2_stored : fw_dsc yX2_stored 2 := by decide +kernel
set_option maxHeartbeats 4000000 in
set_option maxRecDepth 100000 in
theorem ct_X2_stored {l : Launch} {D : va_G} {K : Nat → ClassId} {a : Nat → Nat} {F : Nat → Int32} {G : Nat → Nat → Int32} (v x : Int32) {n : Nat} (hn : F 19 = nI n) (hn15 : n ≤ 15) : fw_C (S := Unit) l yX2_stored wsX2_stored ({ frames := 2, cells := 0, slots := 0, locals := 42 }) 0 0 false [.ref (a 0), .int v, .int x] D (tyS K) (MW K a F G) (fun r _ => r = some (.int (m_sto_v G n v x))) (fun _ => MW K a (upd F 0 (m_sto_k v x)) G) (fun _ => False) := by
  refine fw_met (maxL := 5) (ret := (some .int)) (by decide) rfl (Nat.le_of_ble_eq_true rfl) ?_
  intro p e s m args below meth c A X hr hlk hnm htab hE
  refine fw_lv (lv' := [(0, .ref (a 0)), (1, .int v), (2, .int x)]) [0, 1, 2] rfl ?_
  refine fw_aload_n (pc := 0) X dX2_stored_0 rfl 0 rfl ?_
  refine fw_iload_n (pc := 1) X dX2_stored_1 rfl 1 rfl ?_
  refine fw_callS (pc := 2) (n := 1) X hE [.int v] (ct_X2_isSort v) (by decide) gX2_stored_X2_isSort rfl ⟨rfl, rfl⟩ dsc_X2_isSort ⟨Nat.le_of_ble_eq_true rfl, Nat.le_of_ble_eq_true rfl⟩ rfl rfl (Nat.le_of_ble_eq_true rfl) dX2_stored_2 ⟨Nat.le_of_ble_eq_true rfl, Nat.le_of_ble_eq_true rfl⟩ (fun _ q => q.elim) (fun r0 u0 r_2 => ?_)
  subst r_2
  show fw_W _ _ _ _ _ _ _ _ _ _ _ _ _ _ _ _ _ _ _ (.int (b2i (m_in v 0 5 = true)) :: _)
  by_cases c_3 : m_in v 0 5 = true
  · obtain ⟨hx_v, hl_v⟩ := in_ix (h := 5) (N := 6) (by decide) (by decide) c_3
    refine fw_iv (y := 1) (if_pos c_3) ?_
    refine fw_if_eq (pc := 5) (tgt := 19) X dX2_stored_5 (by decide) (fun q => absurd q (by decide)) (fun _ => ?_)
    refine fw_iload_n (pc := 8) X dX2_stored_8 rfl 2 rfl ?_
    refine fw_callS (pc := 9) (n := 1) X hE [.int x] (ct_X2_isStore x) (by decide) gX2_stored_X2_isStore rfl ⟨rfl, rfl⟩ dsc_X2_isStore ⟨Nat.le_of_ble_eq_true rfl, Nat.le_of_ble_eq_true rfl⟩ rfl rfl (Nat.le_of_ble_eq_true rfl) dX2_stored_9 ⟨Nat.le_of_ble_eq_true rfl, Nat.le_of_ble_eq_true rfl⟩ (fun _ q => q.elim) (fun r0 u0 r_4 => ?_)
    subst r_4
    show fw_W _ _ _ _ _ _ _ _ _ _ _ _ _ _ _ _ _ _ _ (.int (b2i (m_in x 0 2 = true)) :: _)
    by_cases c_5 : m_in x 0 2 = true
    · obtain ⟨hx_x, hl_x⟩ := in_ix (h := 2) (N := 3) (by decide) (by decide) c_5
      refine fw_iv (y := 1) (if_pos c_5) ?_
      refine fw_if_eq (pc := 12) (tgt := 19) X dX2_stored_12 (by decide) (fun q => absurd q (by decide)) (fun _ => ?_)
      refine fw_iconst (pc := 15) (v := 0) X dX2_stored_15 (by decide) ?_
      refine fw_goto (pc := 16) (tgt := 20) X dX2_stored_16 (by decide) ?_
      refine fw_callV (pc := 20) (n := 1) (C := (RX2, TX2, 21)) (ci := 2) (q0 := 0) X hE [.int 0] (ct_X2_isFine 0) (by decide) gX2_stored_X2_isFine rfl ⟨rfl, rfl⟩ ⟨rfl, dsc_X2_isFine⟩ ⟨Nat.le_of_ble_eq_true rfl, Nat.le_of_ble_eq_true rfl⟩ rfl M_obj rfl rfl (Nat.le_of_ble_eq_true rfl) dX2_stored_20 ⟨Nat.le_of_ble_eq_true rfl, Nat.le_of_ble_eq_true rfl⟩ (fun _ q => q.elim) (fun r0 u0 r_6 => ?_)
      subst r_6
      show fw_W _ _ _ _ _ _ _ _ _ _ _ _ _ _ _ _ _ _ _ (.int (b2i (0 = 0)) :: _)
      refine fw_iv (y := 1) (if_pos (by decide)) ?_
      refine fw_if_ne (pc := 23) (tgt := 28) X dX2_stored_23 (by decide) (fun _ => ?_) (fun q => absurd q (by decide))
      refine fw_iconst (pc := 28) (v := 0) X dX2_stored_28 (by decide) ?_
      refine fw_istore_n (pc := 29) (lv' := [(3, .int 0), (0, .ref (a 0)), (1, .int v), (2, .int x)]) X dX2_stored_29 rfl (by decide) rfl ?_
      refine fw_iconst (pc := 30) (v := 0) X dX2_stored_30 (by decide) ?_
      refine fw_istore (pc := 31) (lv' := [(4, .int 0), (3, .int 0), (0, .ref (a 0)), (1, .int v), (2, .int x)]) X dX2_stored_31 (by decide) rfl ?_
      refine fw_lv (lv' := [(0, .ref (a 0)), (1, .int v), (2, .int x), (3, .int (m_sr G (ix v) (ix x) 0)), (4, .int (nI 0))]) [2, 3, 4, 1, 0] rfl ?_
      refine lp_X2_stored_33 v x (ix v) (ix x) hx_v hl_v hx_x hl_x (by exact hn) hn15 X hE ?_ n 0 (by omega)
      refine fw_lv (lv' := [(0, .ref (a 0)), (1, .int v), (2, .int x), (3, .int (m_sr G (ix v) (ix x) n)), (4, .int (nI n))]) [0, 1, 2, 3, 4] rfl ?_
      refine fw_iload_n (pc := 63) X dX2_stored_63 rfl 3 rfl ?_
      exact fw_iret (pc := 64) X hr hlk (Nat.le_of_ble_eq_true rfl) (Nat.le_of_ble_eq_true rfl) dX2_stored_64 () (by simp [m_sto_v, m_sto_k, c_3, c_5]) (by simp [m_sto_v, m_sto_k, c_3, c_5])
    · refine fw_iv (y := 0) (if_neg c_5) ?_
      refine fw_if_eq (pc := 12) (tgt := 19) X dX2_stored_12 (by decide) (fun _ => ?_) (fun q => absurd (by decide) q)
      refine fw_iconst (pc := 19) (v := 1) X dX2_stored_19 (by decide) ?_
      refine fw_callV (pc := 20) (n := 1) (C := (RX2, TX2, 21)) (ci := 2) (q0 := 0) X hE [.int 1] (ct_X2_isFine 1) (by decide) gX2_stored_X2_isFine rfl ⟨rfl, rfl⟩ ⟨rfl, dsc_X2_isFine⟩ ⟨Nat.le_of_ble_eq_true rfl, Nat.le_of_ble_eq_true rfl⟩ rfl M_obj rfl rfl (Nat.le_of_ble_eq_true rfl) dX2_stored_20 ⟨Nat.le_of_ble_eq_true rfl, Nat.le_of_ble_eq_true rfl⟩ (fun _ q => q.elim) (fun r0 u0 r_7 => ?_)
      subst r_7
      show fw_W _ _ _ _ _ _ _ _ _ _ _ _ _ _ _ _ _ _ _ (.int (b2i (1 = 0)) :: _)
      refine fw_iv (y := 0) (if_neg (by decide)) ?_
      refine fw_if_ne (pc := 23) (tgt := 28) X dX2_stored_23 (by decide) (fun q => absurd (by decide) q) (fun _ => ?_)
      refine fw_iconst (pc := 26) (v := 0) X dX2_stored_26 (by decide) ?_
      exact fw_iret (pc := 27) X hr hlk (Nat.le_of_ble_eq_true rfl) (Nat.le_of_ble_eq_true rfl) dX2_stored_27 () (by simp [m_sto_v, m_sto_k, c_3, c_5]) (by simp [m_sto_v, m_sto_k, c_3, c_5])
  · refine fw_iv (y := 0) (if_neg c_3) ?_
    refine fw_if_eq (pc := 5) (tgt := 19) X dX2_stored_5 (by decide) (fun _ => ?_) (fun q => absurd (by decide) q)
    refine fw_iconst (pc := 19) (v := 1) X dX2_stored_19 (by decide) ?_
    refine fw_callV (pc := 20) (n := 1) (C := (RX2, TX2, 21)) (ci := 2) (q0 := 0) X hE [.int 1] (ct_X2_isFine 1) (by decide) gX2_stored_X2_isFine rfl ⟨rfl, rfl⟩ ⟨rfl, dsc_X2_isFine⟩ ⟨Nat.le_of_ble_eq_true rfl, Nat.le_of_ble_eq_true rfl⟩ rfl M_obj rfl rfl (Nat.le_of_ble_eq_true rfl) dX2_stored_20 ⟨Nat.le_of_ble_eq_true rfl, Nat.le_of_ble_eq_true rfl⟩ (fun _ q => q.elim) (fun r0 u0 r_8 => ?_)
    subst r_8
    show fw_W _ _ _ _ _ _ _ _ _ _ _ _ _ _ _ _ _ _ _ (.int (b2i (1 = 0)) :: _)
    refine fw_iv (y := 0) (if_neg (by decide)) ?_
    refine fw_if_ne (pc := 23) (tgt := 28) X dX2_stored_23 (by decide) (fun q => absurd (by decide) q) (fun _ => ?_)
    refine fw_iconst (pc := 26) (v := 0) X dX2_stored_26 (by decide) ?_
    exact fw_iret (pc := 27) X hr hlk (Nat.le_of_ble_eq_true rfl) (Nat.le_of_ble_eq_true rfl) dX2_stored_27 () (by simp [m_sto_v, m_sto_k, c_3]) (by simp [m_sto_v, m_sto_k, c_3])
