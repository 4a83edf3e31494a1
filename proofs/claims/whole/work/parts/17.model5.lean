theorem kX2_move_60 : Cond.fieldLink RX2 60 (TX2 18).1 (TX2 18).2.1 (TX2 18).2.2.1 ∈ wsX2_move := by decide +kernel
set_option maxRecDepth 20000 in
theorem iX2_move_X2 : ∀ w ∈ wsX20, w ∈ wsX2_move := by decide +kernel
theorem dsc_X2_move : fw_dsc yX2_move 5 := by decide +kernel
set_option maxHeartbeats 4000000 in
set_option maxRecDepth 100000 in
theorem ct_X2_move {l : Launch} {D : va_G} {K : Nat → ClassId} {a : Nat → Nat} {F : Nat → Int32} {G : Nat → Nat → Int32} (u v x y z : Int32) {n : Nat} (hn : F 19 = nI n) (hn15 : n ≤ 15) : fw_C (S := Unit) l yX2_move wsX2_move ({ frames := 3, cells := 0, slots := 0, locals := 64 }) 0 0 false [.ref (a 0), .int u, .int v, .int x, .int y, .int z] D (tyS K) (MW K a F G) (fun r _ => r = some (.int (m_mov_v F G u v x y z))) (fun _ => MW K a (upd F 0 (m_mov_k F G u v x y z)) (m_mov_G F G u v x y z)) (fun _ => False) := by
  refine fw_met (maxL := 8) (ret := (some .int)) (by decide) rfl (Nat.le_of_ble_eq_true rfl) ?_
  intro p e s m args below meth c A X hr hlk hnm htab hE
  refine fw_lv (lv' := [(0, .ref (a 0)), (1, .int u), (2, .int v), (3, .int x), (4, .int y), (5, .int z)]) [0, 1, 2, 3, 4, 5] rfl ?_
  refine fw_aload_n (pc := 0) X dX2_move_0 rfl 0 rfl ?_
  refine fw_iload_n (pc := 1) X dX2_move_1 rfl 1 rfl ?_
  refine fw_callV (pc := 2) (n := 1) (C := (RX2, TX2, 21)) (ci := 2) (q0 := 0) X hE [.int u] (ct_X2_isConsignment u) (by decide) gX2_move_X2_isConsignment rfl ⟨rfl, rfl⟩ ⟨rfl, dsc_X2_isConsignment⟩ ⟨Nat.le_of_ble_eq_true rfl, Nat.le_of_ble_eq_true rfl⟩ rfl M_obj rfl rfl (Nat.le_of_ble_eq_true rfl) dX2_move_2 ⟨Nat.le_of_ble_eq_true rfl, Nat.le_of_ble_eq_true rfl⟩ (fun _ q => q.elim) (fun r0 u0 r_1 => ?_)
  subst r_1
  show fw_W _ _ _ _ _ _ _ _ _ _ _ _ _ _ _ _ _ _ _ (.int (b2i (m_in u 0 (F 19 - 1) = true)) :: _)
  by_cases c_2 : m_in u 0 (F 19 - 1) = true
  · obtain ⟨hx_u, hl_u⟩ := in_con hn15 (by rw [← hn]; exact c_2)
    refine fw_iv (y := 1) (if_pos c_2) ?_
    refine fw_istore (pc := 5) (lv' := [(6, .int 1), (0, .ref (a 0)), (1, .int u), (2, .int v), (3, .int x), (4, .int y), (5, .int z)]) X dX2_move_5 (by decide) rfl ?_
    refine fw_iload_n (pc := 7) X dX2_move_7 rfl 3 rfl ?_
    refine fw_iload_n (pc := 8) X dX2_move_8 rfl 4 rfl ?_
    refine fw_iload (pc := 9) X dX2_move_9 6 rfl ?_
    refine fw_callS (pc := 11) (n := 3) X hE [.int v, .int x, .int z] (ct_X2_isGoods v x z) (by decide) gX2_move_X2_isGoods rfl ⟨rfl, rfl⟩ dsc_X2_isGoods ⟨Nat.le_of_ble_eq_true rfl, Nat.le_of_ble_eq_true rfl⟩ rfl rfl (Nat.le_of_ble_eq_true rfl) dX2_move_11 ⟨Nat.le_of_ble_eq_true rfl, Nat.le_of_ble_eq_true rfl⟩ (fun _ q => q.elim) (fun r0 u0 r_3 => ?_)
    subst r_3
    show fw_W _ _ _ _ _ _ _ _ _ _ _ _ _ _ _ _ _ _ _ (.int (b2i (m_gd v x z = true)) :: _)
    by_cases c_4 : m_gd v x z = true
    · obtain ⟨g_5a, g_5b, g_5c⟩ := gd_true c_4
      obtain ⟨hx_v, hl_v⟩ := in_ix (h := 5) (N := 6) (by decide) (by decide) g_5a
      obtain ⟨hx_x, hl_x⟩ := in_ix (h := 2) (N := 3) (by decide) (by decide) g_5b
      refine fw_iv (y := 1) (if_pos c_4) ?_
      refine fw_if_eq (pc := 14) (tgt := 35) X dX2_move_14 (by decide) (fun q => absurd q (by decide)) (fun _ => ?_)
      refine fw_iload (pc := 17) X dX2_move_17 5 rfl ?_
      refine fw_callS (pc := 19) (n := 1) X hE [.int y] (ct_X2_isStore y) (by decide) gX2_move_X2_isStore rfl ⟨rfl, rfl⟩ dsc_X2_isStore ⟨Nat.le_of_ble_eq_true rfl, Nat.le_of_ble_eq_true rfl⟩ rfl rfl (Nat.le_of_ble_eq_true rfl) dX2_move_19 ⟨Nat.le_of_ble_eq_true rfl, Nat.le_of_ble_eq_true rfl⟩ (fun _ q => q.elim) (fun r0 u0 r_6 => ?_)
      subst r_6
      show fw_W _ _ _ _ _ _ _ _ _ _ _ _ _ _ _ _ _ _ _ (.int (b2i (m_in y 0 2 = true)) :: _)
      by_cases c_7 : m_in y 0 2 = true
      · obtain ⟨hx_y, hl_y⟩ := in_ix (h := 2) (N := 3) (by decide) (by decide) c_7
        refine fw_iv (y := 1) (if_pos c_7) ?_
        refine fw_if_eq (pc := 22) (tgt := 35) X dX2_move_22 (by decide) (fun q => absurd q (by decide)) (fun _ => ?_)
        refine fw_iload_n (pc := 25) X dX2_move_25 rfl 4 rfl ?_
        refine fw_iload (pc := 26) X dX2_move_26 5 rfl ?_
        refine fw_icmp_eq (pc := 28) (tgt := 35) X dX2_move_28 (by decide) (fun c_8 => ?_) (fun c_8 => ?_)
        · refine fw_iconst (pc := 35) (v := 0) X dX2_move_35 (by decide) ?_
          refine fw_istore (pc := 36) (lv' := [(7, .int 0), (6, .int 1), (0, .ref (a 0)), (1, .int u), (2, .int v), (3, .int x), (4, .int y), (5, .int z)]) X dX2_move_36 (by decide) rfl ?_
          refine fw_aload_n (pc := 38) X dX2_move_38 rfl 2 rfl ?_
          refine fw_iload (pc := 39) X dX2_move_39 1 rfl ?_
          refine fw_if_ne (pc := 41) (tgt := 48) X dX2_move_41 (by decide) (fun _ => ?_) (fun q => absurd q (by decide))
          refine fw_iload (pc := 48) X dX2_move_48 0 rfl ?_
          refine fw_if_ne (pc := 50) (tgt := 57) X dX2_move_50 (by decide) (fun q => absurd (by decide) q) (fun _ => ?_)
          refine fw_iconst (pc := 53) (v := 2) X dX2_move_53 (by decide) ?_
          refine fw_goto (pc := 54) (tgt := 78) X dX2_move_54 (by decide) ?_
          refine fw_callV (pc := 78) (n := 1) (C := (RX2, TX2, 21)) (ci := 2) (q0 := 0) X hE [.int 2] (ct_X2_isFine 2) (by decide) gX2_move_X2_isFine rfl ⟨rfl, rfl⟩ ⟨rfl, dsc_X2_isFine⟩ ⟨Nat.le_of_ble_eq_true rfl, Nat.le_of_ble_eq_true rfl⟩ rfl M_obj rfl rfl (Nat.le_of_ble_eq_true rfl) dX2_move_78 ⟨Nat.le_of_ble_eq_true rfl, Nat.le_of_ble_eq_true rfl⟩ (fun _ q => q.elim) (fun r0 u0 r_9 => ?_)
          subst r_9
          show fw_W _ _ _ _ _ _ _ _ _ _ _ _ _ _ _ _ _ _ _ (.int (b2i (2 = 0)) :: _)
          refine fw_iv (y := 0) (if_neg (by decide)) ?_
          refine fw_if_ne (pc := 81) (tgt := 86) X dX2_move_81 (by decide) (fun q => absurd (by decide) q) (fun _ => ?_)
          refine fw_iconst (pc := 84) (v := 0) X dX2_move_84 (by decide) ?_
          exact fw_iret (pc := 85) X hr hlk (Nat.le_of_ble_eq_true rfl) (Nat.le_of_ble_eq_true rfl) dX2_move_85 () (by simp [m_mov_v, m_mov_G, m_mov_k, m_mov_2, m_mov_1, c_2, c_4, c_7, c_8]) (by simp [m_mov_v, m_mov_G, m_mov_k, m_mov_2, m_mov_1, c_2, c_4, c_7, c_8])
        · refine fw_iconst (pc := 31) (v := 1) X dX2_move_31 (by decide) ?_
          refine fw_goto (pc := 32) (tgt := 36) X dX2_move_32 (by decide) ?_
          refine fw_istore (pc := 36) (lv' := [(7, .int 1), (6, .int 1), (0, .ref (a 0)), (1, .int u), (2, .int v), (3, .int x), (4, .int y), (5, .int z)]) X dX2_move_36 (by decide) rfl ?_
          refine fw_aload_n (pc := 38) X dX2_move_38 rfl 2 rfl ?_
          refine fw_iload (pc := 39) X dX2_move_39 1 rfl ?_
          refine fw_if_ne (pc := 41) (tgt := 48) X dX2_move_41 (by decide) (fun _ => ?_) (fun q => absurd q (by decide))
          refine fw_iload (pc := 48) X dX2_move_48 0 rfl ?_
          refine fw_if_ne (pc := 50) (tgt := 57) X dX2_move_50 (by decide) (fun _ => ?_) (fun q => absurd q (by decide))
          refine fw_aload_n (pc := 57) X dX2_move_57 rfl 2 rfl ?_
          refine fw_get (pc := 58) (v := .ref (a 18)) X iX2_move_X2 0 M_obj rfl 18 (by decide) kX2_move_60 rfl dX2_move_58 ?_
          refine fw_iload_n (pc := 61) X dX2_move_61 rfl 3 rfl ?_
          refine fw_iload_n (pc := 62) X dX2_move_62 rfl 4 rfl ?_
          refine fw_iload_n (pc := 63) X dX2_move_63 rfl 5 rfl ?_
          refine fw_callS (pc := 64) (n := 3) X hE [.int u, .int v, .int x] (ct_X2_at u v x) (by decide) gX2_move_X2_at rfl ⟨rfl, rfl⟩ dsc_X2_at ⟨Nat.le_of_ble_eq_true rfl, Nat.le_of_ble_eq_true rfl⟩ rfl rfl (Nat.le_of_ble_eq_true rfl) dX2_move_64 ⟨Nat.le_of_ble_eq_true rfl, Nat.le_of_ble_eq_true rfl⟩ (fun _ q => q.elim) (fun r0 u0 r_10 => ?_)
          subst r_10
          refine fw_iald (pc := 67) (f := G 18) X 16 0 (M_g18 (G := G)) rfl (3 * (6 * (ix u) + (ix v)) + (ix x)) (nf_add (nf_mul (show (3 : Int32) = nI 3 from rfl) (nf_add (nf_mul (show (6 : Int32) = nI 6 from rfl) hx_u) hx_v)) hx_x) (by omega) (by decide) dX2_move_67 ?_
          refine fw_iload (pc := 68) X dX2_move_68 7 rfl ?_
          refine fw_icmp_ge (pc := 70) (tgt := 77) X dX2_move_70 (by decide) (fun c_11 => ?_) (fun c_11 => ?_)
          · refine fw_iconst (pc := 77) (v := 0) X dX2_move_77 (by decide) ?_
            refine fw_callV (pc := 78) (n := 1) (C := (RX2, TX2, 21)) (ci := 2) (q0 := 0) X hE [.int 0] (ct_X2_isFine 0) (by decide) gX2_move_X2_isFine rfl ⟨rfl, rfl⟩ ⟨rfl, dsc_X2_isFine⟩ ⟨Nat.le_of_ble_eq_true rfl, Nat.le_of_ble_eq_true rfl⟩ rfl M_obj rfl rfl (Nat.le_of_ble_eq_true rfl) dX2_move_78 ⟨Nat.le_of_ble_eq_true rfl, Nat.le_of_ble_eq_true rfl⟩ (fun _ q => q.elim) (fun r0 u0 r_12 => ?_)
            subst r_12
            show fw_W _ _ _ _ _ _ _ _ _ _ _ _ _ _ _ _ _ _ _ (.int (b2i (0 = 0)) :: _)
            refine fw_iv (y := 1) (if_pos (by decide)) ?_
            refine fw_if_ne (pc := 81) (tgt := 86) X dX2_move_81 (by decide) (fun _ => ?_) (fun q => absurd q (by decide))
            refine fw_aload_n (pc := 86) X dX2_move_86 rfl 2 rfl ?_
            refine fw_get (pc := 87) (v := .ref (a 18)) X iX2_move_X2 0 M_obj rfl 18 (by decide) kX2_move_60 rfl dX2_move_87 ?_
            refine fw_iload_n (pc := 90) X dX2_move_90 rfl 3 rfl ?_
            refine fw_iload_n (pc := 91) X dX2_move_91 rfl 4 rfl ?_
            refine fw_iload_n (pc := 92) X dX2_move_92 rfl 5 rfl ?_
            refine fw_callS (pc := 93) (n := 3) X hE [.int u, .int v, .int x] (ct_X2_at u v x) (by decide) gX2_move_X2_at rfl ⟨rfl, rfl⟩ dsc_X2_at ⟨Nat.le_of_ble_eq_true rfl, Nat.le_of_ble_eq_true rfl⟩ rfl rfl (Nat.le_of_ble_eq_true rfl) dX2_move_93 ⟨Nat.le_of_ble_eq_true rfl, Nat.le_of_ble_eq_true rfl⟩ (fun _ q => q.elim) (fun r0 u0 r_13 => ?_)
            subst r_13
            refine fw_dup2 (pc := 96) X dX2_move_96 rfl rfl ?_
            refine fw_iald (pc := 97) (f := G 18) X 16 0 (M_g18 (G := G)) rfl (3 * (6 * (ix u) + (ix v)) + (ix x)) (nf_add (nf_mul (show (3 : Int32) = nI 3 from rfl) (nf_add (nf_mul (show (6 : Int32) = nI 6 from rfl) hx_u) hx_v)) hx_x) (by omega) (by decide) dX2_move_97 ?_
            refine fw_iload (pc := 98) X dX2_move_98 7 rfl ?_
            refine fw_isub (pc := 100) X dX2_move_100 ?_
            refine fw_iast (pc := 101) (f := G 18) (ws' := MW K a (upd F 0 0) (va_up G 18 (upd (G 18) (3 * (6 * (ix u) + (ix v)) + (ix x)) ((G 18 (3 * (6 * (ix u) + (ix v)) + (ix x))) - z)))) X 16 0 (M_g18 (G := G)) rfl (3 * (6 * (ix u) + (ix v)) + (ix x)) (nf_add (nf_mul (show (3 : Int32) = nI 3 from rfl) (nf_add (nf_mul (show (6 : Int32) = nI 6 from rfl) hx_u) hx_v)) hx_x) (by omega) (by decide) dX2_move_101 (M_s18 _) ?_
            refine fw_aload_n (pc := 102) X dX2_move_102 rfl 2 rfl ?_
            refine fw_get (pc := 103) (v := .ref (a 18)) X iX2_move_X2 0 M_obj rfl 18 (by decide) kX2_move_60 rfl dX2_move_103 ?_
            refine fw_iload_n (pc := 106) X dX2_move_106 rfl 3 rfl ?_
            refine fw_iload_n (pc := 107) X dX2_move_107 rfl 4 rfl ?_
            refine fw_iload (pc := 108) X dX2_move_108 6 rfl ?_
            refine fw_callS (pc := 110) (n := 3) X hE [.int u, .int v, .int y] (ct_X2_at u v y) (by decide) gX2_move_X2_at rfl ⟨rfl, rfl⟩ dsc_X2_at ⟨Nat.le_of_ble_eq_true rfl, Nat.le_of_ble_eq_true rfl⟩ rfl rfl (Nat.le_of_ble_eq_true rfl) dX2_move_110 ⟨Nat.le_of_ble_eq_true rfl, Nat.le_of_ble_eq_true rfl⟩ (fun _ q => q.elim) (fun r0 u0 r_14 => ?_)
            subst r_14
            refine fw_dup2 (pc := 113) X dX2_move_113 rfl rfl ?_
            refine fw_iald (pc := 114) (f := upd (G 18) (3 * (6 * (ix u) + (ix v)) + (ix x)) ((G 18 (3 * (6 * (ix u) + (ix v)) + (ix x))) - z)) X 16 0 (M_g18 (G := (va_up G 18 (upd (G 18) (3 * (6 * (ix u) + (ix v)) + (ix x)) ((G 18 (3 * (6 * (ix u) + (ix v)) + (ix x))) - z))))) rfl (3 * (6 * (ix u) + (ix v)) + (ix y)) (nf_add (nf_mul (show (3 : Int32) = nI 3 from rfl) (nf_add (nf_mul (show (6 : Int32) = nI 6 from rfl) hx_u) hx_v)) hx_y) (by omega) (by decide) dX2_move_114 ?_
            refine fw_iload (pc := 115) X dX2_move_115 7 rfl ?_
            refine fw_iadd (pc := 117) X dX2_move_117 ?_
            refine fw_iast (pc := 118) (f := upd (G 18) (3 * (6 * (ix u) + (ix v)) + (ix x)) ((G 18 (3 * (6 * (ix u) + (ix v)) + (ix x))) - z)) (ws' := MW K a (upd F 0 0) (va_up G 18 (upd (upd (G 18) (3 * (6 * (ix u) + (ix v)) + (ix x)) ((G 18 (3 * (6 * (ix u) + (ix v)) + (ix x))) - z)) (3 * (6 * (ix u) + (ix v)) + (ix y)) (((upd (G 18) (3 * (6 * (ix u) + (ix v)) + (ix x)) ((G 18 (3 * (6 * (ix u) + (ix v)) + (ix x))) - z)) (3 * (6 * (ix u) + (ix v)) + (ix y))) + z)))) X 16 0 (M_g18 (G := (va_up G 18 (upd (G 18) (3 * (6 * (ix u) + (ix v)) + (ix x)) ((G 18 (3 * (6 * (ix u) + (ix v)) + (ix x))) - z))))) rfl (3 * (6 * (ix u) + (ix v)) + (ix y)) (nf_add (nf_mul (show (3 : Int32) = nI 3 from rfl) (nf_add (nf_mul (show (6 : Int32) = nI 6 from rfl) hx_u) hx_v)) hx_y) (by omega) (by decide) dX2_move_118 ((M_s18 _).trans (by rw [bx_uu])) ?_
            refine fw_aload_n (pc := 119) X dX2_move_119 rfl 2 rfl ?_
            refine fw_get (pc := 120) (v := .ref (a 18)) X iX2_move_X2 0 M_obj rfl 18 (by decide) kX2_move_60 rfl dX2_move_120 ?_
            refine fw_iload_n (pc := 123) X dX2_move_123 rfl 3 rfl ?_
            refine fw_iload_n (pc := 124) X dX2_move_124 rfl 4 rfl ?_
            refine fw_iload (pc := 125) X dX2_move_125 6 rfl ?_
            refine fw_callS (pc := 127) (n := 3) X hE [.int u, .int v, .int y] (ct_X2_at u v y) (by decide) gX2_move_X2_at rfl ⟨rfl, rfl⟩ dsc_X2_at ⟨Nat.le_of_ble_eq_true rfl, Nat.le_of_ble_eq_true rfl⟩ rfl rfl (Nat.le_of_ble_eq_true rfl) dX2_move_127 ⟨Nat.le_of_ble_eq_true rfl, Nat.le_of_ble_eq_true rfl⟩ (fun _ q => q.elim) (fun r0 u0 r_15 => ?_)
            subst r_15
            refine fw_iald (pc := 130) (f := upd (upd (G 18) (3 * (6 * (ix u) + (ix v)) + (ix x)) ((G 18 (3 * (6 * (ix u) + (ix v)) + (ix x))) - z)) (3 * (6 * (ix u) + (ix v)) + (ix y)) (((upd (G 18) (3 * (6 * (ix u) + (ix v)) + (ix x)) ((G 18 (3 * (6 * (ix u) + (ix v)) + (ix x))) - z)) (3 * (6 * (ix u) + (ix v)) + (ix y))) + z)) X 16 0 (M_g18 (G := (va_up G 18 (upd (upd (G 18) (3 * (6 * (ix u) + (ix v)) + (ix x)) ((G 18 (3 * (6 * (ix u) + (ix v)) + (ix x))) - z)) (3 * (6 * (ix u) + (ix v)) + (ix y)) (((upd (G 18) (3 * (6 * (ix u) + (ix v)) + (ix x)) ((G 18 (3 * (6 * (ix u) + (ix v)) + (ix x))) - z)) (3 * (6 * (ix u) + (ix v)) + (ix y))) + z))))) rfl (3 * (6 * (ix u) + (ix v)) + (ix y)) (nf_add (nf_mul (show (3 : Int32) = nI 3 from rfl) (nf_add (nf_mul (show (6 : Int32) = nI 6 from rfl) hx_u) hx_v)) hx_y) (by omega) (by decide) dX2_move_130 ?_
            exact fw_iret (pc := 131) X hr hlk (Nat.le_of_ble_eq_true rfl) (Nat.le_of_ble_eq_true rfl) dX2_move_131 () (by simp [m_mov_v, m_mov_G, m_mov_k, m_mov_2, m_mov_1, c_2, c_4, c_7, c_8, c_11]) (by simp [m_mov_v, m_mov_G, m_mov_k, m_mov_2, m_mov_1, c_2, c_4, c_7, c_8, c_11])
          · refine fw_iconst (pc := 73) (v := 3) X dX2_move_73 (by decide) ?_
            refine fw_goto (pc := 74) (tgt := 78) X dX2_move_74 (by decide) ?_
            refine fw_callV (pc := 78) (n := 1) (C := (RX2, TX2, 21)) (ci := 2) (q0 := 0) X hE [.int 3] (ct_X2_isFine 3) (by decide) gX2_move_X2_isFine rfl ⟨rfl, rfl⟩ ⟨rfl, dsc_X2_isFine⟩ ⟨Nat.le_of_ble_eq_true rfl, Nat.le_of_ble_eq_true rfl⟩ rfl M_obj rfl rfl (Nat.le_of_ble_eq_true rfl) dX2_move_78 ⟨Nat.le_of_ble_eq_true rfl, Nat.le_of_ble_eq_true rfl⟩ (fun _ q => q.elim) (fun r0 u0 r_16 => ?_)
            subst r_16
            show fw_W _ _ _ _ _ _ _ _ _ _ _ _ _ _ _ _ _ _ _ (.int (b2i (3 = 0)) :: _)
            refine fw_iv (y := 0) (if_neg (by decide)) ?_
            refine fw_if_ne (pc := 81) (tgt := 86) X dX2_move_81 (by decide) (fun q => absurd (by decide) q) (fun _ => ?_)
            refine fw_iconst (pc := 84) (v := 0) X dX2_move_84 (by decide) ?_
            exact fw_iret (pc := 85) X hr hlk (Nat.le_of_ble_eq_true rfl) (Nat.le_of_ble_eq_true rfl) dX2_move_85 () (by simp [m_mov_v, m_mov_G, m_mov_k, m_mov_2, m_mov_1, c_2, c_4, c_7, c_8, c_11]) (by simp [m_mov_v, m_mov_G, m_mov_k, m_mov_2, m_mov_1, c_2, c_4, c_7, c_8, c_11])
      · refine fw_iv (y := 0) (if_neg c_7) ?_
        refine fw_if_eq (pc := 22) (tgt := 35) X dX2_move_22 (by decide) (fun _ => ?_) (fun q => absurd (by decide) q)
        refine fw_iconst (pc := 35) (v := 0) X dX2_move_35 (by decide) ?_
        refine fw_istore (pc := 36) (lv' := [(7, .int 0), (6, .int 1), (0, .ref (a 0)), (1, .int u), (2, .int v), (3, .int x), (4, .int y), (5, .int z)]) X dX2_move_36 (by decide) rfl ?_
        refine fw_aload_n (pc := 38) X dX2_move_38 rfl 2 rfl ?_
        refine fw_iload (pc := 39) X dX2_move_39 1 rfl ?_
        refine fw_if_ne (pc := 41) (tgt := 48) X dX2_move_41 (by decide) (fun _ => ?_) (fun q => absurd q (by decide))
        refine fw_iload (pc := 48) X dX2_move_48 0 rfl ?_
        refine fw_if_ne (pc := 50) (tgt := 57) X dX2_move_50 (by decide) (fun q => absurd (by decide) q) (fun _ => ?_)
        refine fw_iconst (pc := 53) (v := 2) X dX2_move_53 (by decide) ?_
        refine fw_goto (pc := 54) (tgt := 78) X dX2_move_54 (by decide) ?_
        refine fw_callV (pc := 78) (n := 1) (C := (RX2, TX2, 21)) (ci := 2) (q0 := 0) X hE [.int 2] (ct_X2_isFine 2) (by decide) gX2_move_X2_isFine rfl ⟨rfl, rfl⟩ ⟨rfl, dsc_X2_isFine⟩ ⟨Nat.le_of_ble_eq_true rfl, Nat.le_of_ble_eq_true rfl⟩ rfl M_obj rfl rfl (Nat.le_of_ble_eq_true rfl) dX2_move_78 ⟨Nat.le_of_ble_eq_true rfl, Nat.le_of_ble_eq_true rfl⟩ (fun _ q => q.elim) (fun r0 u0 r_17 => ?_)
        subst r_17
        show fw_W _ _ _ _ _ _ _ _ _ _ _ _ _ _ _ _ _ _ _ (.int (b2i (2 = 0)) :: _)
        refine fw_iv (y := 0) (if_neg (by decide)) ?_
        refine fw_if_ne (pc := 81) (tgt := 86) X dX2_move_81 (by decide) (fun q => absurd (by decide) q) (fun _ => ?_)
        refine fw_iconst (pc := 84) (v := 0) X dX2_move_84 (by decide) ?_
        exact fw_iret (pc := 85) X hr hlk (Nat.le_of_ble_eq_true rfl) (Nat.le_of_ble_eq_true rfl) dX2_move_85 () (by simp [m_mov_v, m_mov_G, m_mov_k, m_mov_2, m_mov_1, c_2, c_4, c_7]) (by simp [m_mov_v, m_mov_G, m_mov_k, m_mov_2, m_mov_1, c_2, c_4, c_7])
    · refine fw_iv (y := 0) (if_neg c_4) ?_
      refine fw_if_eq (pc := 14) (tgt := 35) X dX2_move_14 (by decide) (fun _ => ?_) (fun q => absurd (by decide) q)
      refine fw_iconst (pc := 35) (v := 0) X dX2_move_35 (by decide) ?_
      refine fw_istore (pc := 36) (lv' := [(7, .int 0), (6, .int 1), (0, .ref (a 0)), (1, .int u), (2, .int v), (3, .int x), (4, .int y), (5, .int z)]) X dX2_move_36 (by decide) rfl ?_
      refine fw_aload_n (pc := 38) X dX2_move_38 rfl 2 rfl ?_
      refine fw_iload (pc := 39) X dX2_move_39 1 rfl ?_
      refine fw_if_ne (pc := 41) (tgt := 48) X dX2_move_41 (by decide) (fun _ => ?_) (fun q => absurd q (by decide))
      refine fw_iload (pc := 48) X dX2_move_48 0 rfl ?_
      refine fw_if_ne (pc := 50) (tgt := 57) X dX2_move_50 (by decide) (fun q => absurd (by decide) q) (fun _ => ?_)
      refine fw_iconst (pc := 53) (v := 2) X dX2_move_53 (by decide) ?_
      refine fw_goto (pc := 54) (tgt := 78) X dX2_move_54 (by decide) ?_
      refine fw_callV (pc := 78) (n := 1) (C := (RX2, TX2, 21)) (ci := 2) (q0 := 0) X hE [.int 2] (ct_X2_isFine 2) (by decide) gX2_move_X2_isFine rfl ⟨rfl, rfl⟩ ⟨rfl, dsc_X2_isFine⟩ ⟨Nat.le_of_ble_eq_true rfl, Nat.le_of_ble_eq_true rfl⟩ rfl M_obj rfl rfl (Nat.le_of_ble_eq_true rfl) dX2_move_78 ⟨Nat.le_of_ble_eq_true rfl, Nat.le_of_ble_eq_true rfl⟩ (fun _ q => q.elim) (fun r0 u0 r_18 => ?_)
      subst r_18
      show fw_W _ _ _ _ _ _ _ _ _ _ _ _ _ _ _ _ _ _ _ (.int (b2i (2 = 0)) :: _)
      refine fw_iv (y := 0) (if_neg (by decide)) ?_
      refine fw_if_ne (pc := 81) (tgt := 86) X dX2_move_81 (by decide) (fun q => absurd (by decide) q) (fun _ => ?_)
      refine fw_iconst (pc := 84) (v := 0) X dX2_move_84 (by decide) ?_
      exact fw_iret (pc := 85) X hr hlk (Nat.le_of_ble_eq_true rfl) (Nat.le_of_ble_eq_true rfl) dX2_move_85 () (by simp [m_mov_v, m_mov_G, m_mov_k, m_mov_2, m_mov_1, c_2, c_4]) (by simp [m_mov_v, m_mov_G, m_mov_k, m_mov_2, m_mov_1, c_2, c_4])
  · refine fw_iv (y := 0) (if_neg c_2) ?_
    refine fw_istore (pc := 5) (lv' := [(6, .int 0), (0, .ref (a 0)), (1, .int u), (2, .int v), (3, .int x), (4, .int y), (5, .int z)]) X dX2_move_5 (by decide) rfl ?_
    refine fw_iload_n (pc := 7) X dX2_move_7 rfl 3 rfl ?_
    refine fw_iload_n (pc := 8) X dX2_move_8 rfl 4 rfl ?_
    refine fw_iload (pc := 9) X dX2_move_9 6 rfl ?_
    refine fw_callS (pc := 11) (n := 3) X hE [.int v, .int x, .int z] (ct_X2_isGoods v x z) (by decide) gX2_move_X2_isGoods rfl ⟨rfl, rfl⟩ dsc_X2_isGoods ⟨Nat.le_of_ble_eq_true rfl, Nat.le_of_ble_eq_true rfl⟩ rfl rfl (Nat.le_of_ble_eq_true rfl) dX2_move_11 ⟨Nat.le_of_ble_eq_true rfl, Nat.le_of_ble_eq_true rfl⟩ (fun _ q => q.elim) (fun r0 u0 r_19 => ?_)
    subst r_19
    show fw_W _ _ _ _ _ _ _ _ _ _ _ _ _ _ _ _ _ _ _ (.int (b2i (m_gd v x z = true)) :: _)
    by_cases c_20 : m_gd v x z = true
    · obtain ⟨g_21a, g_21b, g_21c⟩ := gd_true c_20
      obtain ⟨hx_v, hl_v⟩ := in_ix (h := 5) (N := 6) (by decide) (by decide) g_21a
      obtain ⟨hx_x, hl_x⟩ := in_ix (h := 2) (N := 3) (by decide) (by decide) g_21b
      refine fw_iv (y := 1) (if_pos c_20) ?_
      refine fw_if_eq (pc := 14) (tgt := 35) X dX2_move_14 (by decide) (fun q => absurd q (by decide)) (fun _ => ?_)
      refine fw_iload (pc := 17) X dX2_move_17 5 rfl ?_
      refine fw_callS (pc := 19) (n := 1) X hE [.int y] (ct_X2_isStore y) (by decide) gX2_move_X2_isStore rfl ⟨rfl, rfl⟩ dsc_X2_isStore ⟨Nat.le_of_ble_eq_true rfl, Nat.le_of_ble_eq_true rfl⟩ rfl rfl (Nat.le_of_ble_eq_true rfl) dX2_move_19 ⟨Nat.le_of_ble_eq_true rfl, Nat.le_of_ble_eq_true rfl⟩ (fun _ q => q.elim) (fun r0 u0 r_22 => ?_)
      subst r_22
      show fw_W _ _ _ _ _ _ _ _ _ _ _ _ _ _ _ _ _ _ _ (.int (b2i (m_in y 0 2 = true)) :: _)
      by_cases c_23 : m_in y 0 2 = true
      · obtain ⟨hx_y, hl_y⟩ := in_ix (h := 2) (N := 3) (by decide) (by decide) c_23
        refine fw_iv (y := 1) (if_pos c_23) ?_
        refine fw_if_eq (pc := 22) (tgt := 35) X dX2_move_22 (by decide) (fun q => absurd q (by decide)) (fun _ => ?_)
        refine fw_iload_n (pc := 25) X dX2_move_25 rfl 4 rfl ?_
        refine fw_iload (pc := 26) X dX2_move_26 5 rfl ?_
        refine fw_icmp_eq (pc := 28) (tgt := 35) X dX2_move_28 (by decide) (fun c_24 => ?_) (fun c_24 => ?_)
        · refine fw_iconst (pc := 35) (v := 0) X dX2_move_35 (by decide) ?_
          refine fw_istore (pc := 36) (lv' := [(7, .int 0), (6, .int 0), (0, .ref (a 0)), (1, .int u), (2, .int v), (3, .int x), (4, .int y), (5, .int z)]) X dX2_move_36 (by decide) rfl ?_
          refine fw_aload_n (pc := 38) X dX2_move_38 rfl 2 rfl ?_
          refine fw_iload (pc := 39) X dX2_move_39 1 rfl ?_
          refine fw_if_ne (pc := 41) (tgt := 48) X dX2_move_41 (by decide) (fun q => absurd (by decide) q) (fun _ => ?_)
          refine fw_iconst (pc := 44) (v := 1) X dX2_move_44 (by decide) ?_
          refine fw_goto (pc := 45) (tgt := 78) X dX2_move_45 (by decide) ?_
          refine fw_callV (pc := 78) (n := 1) (C := (RX2, TX2, 21)) (ci := 2) (q0 := 0) X hE [.int 1] (ct_X2_isFine 1) (by decide) gX2_move_X2_isFine rfl ⟨rfl, rfl⟩ ⟨rfl, dsc_X2_isFine⟩ ⟨Nat.le_of_ble_eq_true rfl, Nat.le_of_ble_eq_true rfl⟩ rfl M_obj rfl rfl (Nat.le_of_ble_eq_true rfl) dX2_move_78 ⟨Nat.le_of_ble_eq_true rfl, Nat.le_of_ble_eq_true rfl⟩ (fun _ q => q.elim) (fun r0 u0 r_25 => ?_)
          subst r_25
          show fw_W _ _ _ _ _ _ _ _ _ _ _ _ _ _ _ _ _ _ _ (.int (b2i (1 = 0)) :: _)
          refine fw_iv (y := 0) (if_neg (by decide)) ?_
          refine fw_if_ne (pc := 81) (tgt := 86) X dX2_move_81 (by decide) (fun q => absurd (by decide) q) (fun _ => ?_)
          refine fw_iconst (pc := 84) (v := 0) X dX2_move_84 (by decide) ?_
          exact fw_iret (pc := 85) X hr hlk (Nat.le_of_ble_eq_true rfl) (Nat.le_of_ble_eq_true rfl) dX2_move_85 () (by simp [m_mov_v, m_mov_G, m_mov_k, m_mov_2, m_mov_1, c_2, c_20, c_23, c_24]) (by simp [m_mov_v, m_mov_G, m_mov_k, m_mov_2, m_mov_1, c_2, c_20, c_23, c_24])
        · refine fw_iconst (pc := 31) (v := 1) X dX2_move_31 (by decide) ?_
          refine fw_goto (pc := 32) (tgt := 36) X dX2_move_32 (by decide) ?_
          refine fw_istore (pc := 36) (lv' := [(7, .int 1), (6, .int 0), (0, .ref (a 0)), (1, .int u), (2, .int v), (3, .int x), (4, .int y), (5, .int z)]) X dX2_move_36 (by decide) rfl ?_
          refine fw_aload_n (pc := 38) X dX2_move_38 rfl 2 rfl ?_
          refine fw_iload (pc := 39) X dX2_move_39 1 rfl ?_
          refine fw_if_ne (pc := 41) (tgt := 48) X dX2_move_41 (by decide) (fun q => absurd (by decide) q) (fun _ => ?_)
          refine fw_iconst (pc := 44) (v := 1) X dX2_move_44 (by decide) ?_
          refine fw_goto (pc := 45) (tgt := 78) X dX2_move_45 (by decide) ?_
          refine fw_callV (pc := 78) (n := 1) (C := (RX2, TX2, 21)) (ci := 2) (q0 := 0) X hE [.int 1] (ct_X2_isFine 1) (by decide) gX2_move_X2_isFine rfl ⟨rfl, rfl⟩ ⟨rfl, dsc_X2_isFine⟩ ⟨Nat.le_of_ble_eq_true rfl, Nat.le_of_ble_eq_true rfl⟩ rfl M_obj rfl rfl (Nat.le_of_ble_eq_true rfl) dX2_move_78 ⟨Nat.le_of_ble_eq_true rfl, Nat.le_of_ble_eq_true rfl⟩ (fun _ q => q.elim) (fun r0 u0 r_26 => ?_)
          subst r_26
          show fw_W _ _ _ _ _ _ _ _ _ _ _ _ _ _ _ _ _ _ _ (.int (b2i (1 = 0)) :: _)
          refine fw_iv (y := 0) (if_neg (by decide)) ?_
          refine fw_if_ne (pc := 81) (tgt := 86) X dX2_move_81 (by decide) (fun q => absurd (by decide) q) (fun _ => ?_)
          refine fw_iconst (pc := 84) (v := 0) X dX2_move_84 (by decide) ?_
          exact fw_iret (pc := 85) X hr hlk (Nat.le_of_ble_eq_true rfl) (Nat.le_of_ble_eq_true rfl) dX2_move_85 () (by simp [m_mov_v, m_mov_G, m_mov_k, m_mov_2, m_mov_1, c_2, c_20, c_23, c_24]) (by simp [m_mov_v, m_mov_G, m_mov_k, m_mov_2, m_mov_1, c_2, c_20, c_23, c_24])
      · refine fw_iv (y := 0) (if_neg c_23) ?_
        refine fw_if_eq (pc := 22) (tgt := 35) X dX2_move_22 (by decide) (fun _ => ?_) (fun q => absurd (by decide) q)
        refine fw_iconst (pc := 35) (v := 0) X dX2_move_35 (by decide) ?_
        refine fw_istore (pc := 36) (lv' := [(7, .int 0), (6, .int 0), (0, .ref (a 0)), (1, .int u), (2, .int v), (3, .int x), (4, .int y), (5, .int z)]) X dX2_move_36 (by decide) rfl ?_
        refine fw_aload_n (pc := 38) X dX2_move_38 rfl 2 rfl ?_
        refine fw_iload (pc := 39) X dX2_move_39 1 rfl ?_
        refine fw_if_ne (pc := 41) (tgt := 48) X dX2_move_41 (by decide) (fun q => absurd (by decide) q) (fun _ => ?_)
        refine fw_iconst (pc := 44) (v := 1) X dX2_move_44 (by decide) ?_
        refine fw_goto (pc := 45) (tgt := 78) X dX2_move_45 (by decide) ?_
        refine fw_callV (pc := 78) (n := 1) (C := (RX2, TX2, 21)) (ci := 2) (q0 := 0) X hE [.int 1] (ct_X2_isFine 1) (by decide) gX2_move_X2_isFine rfl ⟨rfl, rfl⟩ ⟨rfl, dsc_X2_isFine⟩ ⟨Nat.le_of_ble_eq_true rfl, Nat.le_of_ble_eq_true rfl⟩ rfl M_obj rfl rfl (Nat.le_of_ble_eq_true rfl) dX2_move_78 ⟨Nat.le_of_ble_eq_true rfl, Nat.le_of_ble_eq_true rfl⟩ (fun _ q => q.elim) (fun r0 u0 r_27 => ?_)
        subst r_27
        show fw_W _ _ _ _ _ _ _ _ _ _ _ _ _ _ _ _ _ _ _ (.int (b2i (1 = 0)) :: _)
        refine fw_iv (y := 0) (if_neg (by decide)) ?_
        refine fw_if_ne (pc := 81) (tgt := 86) X dX2_move_81 (by decide) (fun q => absurd (by decide) q) (fun _ => ?_)
        refine fw_iconst (pc := 84) (v := 0) X dX2_move_84 (by decide) ?_
        exact fw_iret (pc := 85) X hr hlk (Nat.le_of_ble_eq_true rfl) (Nat.le_of_ble_eq_true rfl) dX2_move_85 () (by simp [m_mov_v, m_mov_G, m_mov_k, m_mov_2, m_mov_1, c_2, c_20, c_23]) (by simp [m_mov_v, m_mov_G, m_mov_k, m_mov_2, m_mov_1, c_2, c_20, c_23])
    · refine fw_iv (y := 0) (if_neg c_20) ?_
      refine fw_if_eq (pc := 14) (tgt := 35) X dX2_move_14 (by decide) (fun _ => ?_) (fun q => absurd (by decide) q)
      refine fw_iconst (pc := 35) (v := 0) X dX2_move_35 (by decide) ?_
      refine fw_istore (pc := 36) (lv' := [(7, .int 0), (6, .int 0), (0, .ref (a 0)), (1, .int u), (2, .int v), (3, .int x), (4, .int y), (5, .int z)]) X dX2_move_36 (by decide) rfl ?_
      refine fw_aload_n (pc := 38) X dX2_move_38 rfl 2 rfl ?_
      refine fw_iload (pc := 39) X dX2_move_39 1 rfl ?_
      refine fw_if_ne (pc := 41) (tgt := 48) X dX2_move_41 (by decide) (fun q => absurd (by decide) q) (fun _ => ?_)
      refine fw_iconst (pc := 44) (v := 1) X dX2_move_44 (by decide) ?_
      refine fw_goto (pc := 45) (tgt := 78) X dX2_move_45 (by decide) ?_
      refine fw_callV (pc := 78) (n := 1) (C := (RX2, TX2, 21)) (ci := 2) (q0 := 0) X hE [.int 1] (ct_X2_isFine 1) (by decide) gX2_move_X2_isFine rfl ⟨rfl, rfl⟩ ⟨rfl, dsc_X2_isFine⟩ ⟨Nat.le_of_ble_eq_true rfl, Nat.le_of_ble_eq_true rfl⟩ rfl M_obj rfl rfl (Nat.le_of_ble_eq_true rfl) dX2_move_78 ⟨Nat.le_of_ble_eq_true rfl, Nat.le_of_ble_eq_true rfl⟩ (fun _ q => q.elim) (fun r0 u0 r_28 => ?_)
      subst r_28
      show fw_W _ _ _ _ _ _ _ _ _ _ _ _ _ _ _ _ _ _ _ (.int (b2i (1 = 0)) :: _)
      refine fw_iv (y := 0) (if_neg (by decide)) ?_
      refine fw_if_ne (pc := 81) (tgt := 86) X dX2_move_81 (by decide) (fun q => absurd (by decide) q) (fun _ => ?_)
      refine fw_iconst (pc := 84) (v := 0) X dX2_move_84 (by decide) ?_
      exact fw_iret (pc := 85) X hr hlk (Nat.le_of_ble_eq_true rfl) (Nat.le_of_ble_eq_true rfl) dX2_move_85 () (by simp [m_mov_v, m_mov_G, m_mov_k, m_mov_2, m_mov_1, c_2, c_20]) (by simp [m_mov_v, m_mov_G, m_mov_k, m_mov_2, m_mov_1, c_2, c_20])
