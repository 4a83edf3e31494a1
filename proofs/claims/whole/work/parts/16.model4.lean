theorem kX2_bond_29 : Cond.fieldLink RX2 29 (TX2 8).1 (TX2 8).2.1 (TX2 8).2.2.1 ∈ wsX2_bond := by decide +kernel
theorem kX2_bond_35 : Cond.fieldLink RX2 35 (TX2 10).1 (TX2 10).2.1 (TX2 10).2.2.1 ∈ wsX2_bond := by decide +kernel
theorem kX2_bond_23 : Cond.fieldLink RX2 23 (TX2 6).1 (TX2 6).2.1 (TX2 6).2.2.1 ∈ wsX2_bond := by decide +kernel
theorem kX2_bond_20 : Cond.fieldLink RX2 20 (TX2 5).1 (TX2 5).2.1 (TX2 5).2.2.1 ∈ wsX2_bond := by decide +kernel
theorem kX2_bond_57 : Cond.fieldLink RX2 57 (TX2 17).1 (TX2 17).2.1 (TX2 17).2.2.1 ∈ wsX2_bond := by decide +kernel
set_option maxRecDepth 20000 in
theorem iX2_bond_X2 : ∀ w ∈ wsX20, w ∈ wsX2_bond := by decide +kernel
theorem kX2_bond_7 : Cond.fieldLink RX2 7 (TX2 1).1 (TX2 1).2.1 (TX2 1).2.2.1 ∈ wsX2_bond := by decide +kernel
theorem kX2_bond_60 : Cond.fieldLink RX2 60 (TX2 18).1 (TX2 18).2.1 (TX2 18).2.2.1 ∈ wsX2_bond := by decide +kernel
theorem kX2_bond_54 : Cond.fieldLink RX2 54 (TX2 16).1 (TX2 16).2.1 (TX2 16).2.2.1 ∈ wsX2_bond := by decide +kernel
set_option maxHeartbeats 4000000 in
set_option maxRecDepth 100000 in
theorem lp_X2_bond_134 {p : Program} {l : Launch} {e : Env}  {s : State} {m : MethodId} {args : Array Value} {below : List Frame} {meth : Method} {c : Code} {D : va_G} {A : Nat → Prop} {Q : State → Prop}  {K : Nat → ClassId} {a : Nat → Nat} {F : Nat → Int32} {G : Nat → Nat → Int32} (u x t : Int32) (k j : Nat) (hu : u = nI k) (hk : k < 15) (hx : x = nI j) (hj : j < 3) (X : fw_X p s m args c D A 7 cX2_bond RX2 wsX2_bond (tyS K)) (hE : fw_E false A s) (kk : fw_W p l e ({ frames := 2, cells := 0, slots := 0, locals := 44 }) s m args below meth c D A 7 Q (MW K a F (va_up (va_up G 17 (m_tk G k 6)) 18 (m_st G k j 6))) 0 0 [(0, .ref (a 0)), (1, .int u), (2, .int x), (3, .int 1), (4, .int t), (5, .int 1), (6, .int (nI 6))] 190 []) : ∀ (d i : Nat), i + d = 6 → fw_W p l e ({ frames := 2, cells := 0, slots := 0, locals := 44 }) s m args below meth c D A 7 Q (MW K a F (va_up (va_up G 17 (m_tk G k i)) 18 (m_st G k j i))) 0 0 [(0, .ref (a 0)), (1, .int u), (2, .int x), (3, .int 1), (4, .int t), (5, .int 1), (6, .int (nI i))] 134 [] := by
  intro d
  induction d with
  | zero =>
    intro i hi
    obtain rfl : i = 6 := by omega
    refine fw_iload (pc := 134) X dX2_bond_134 6 rfl ?_
    refine fw_bipush (pc := 136) (v := 6) X dX2_bond_136 (by decide) ?_
    refine fw_icmp_ge (pc := 138) (tgt := 190) X dX2_bond_138 (by decide) (fun _ => ?_) (fun q => absurd (by decide) q)
    exact kk
  | succ d ih =>
    intro i hi
    refine fw_iload (pc := 134) X dX2_bond_134 6 rfl ?_
    refine fw_bipush (pc := 136) (v := 6) X dX2_bond_136 (by decide) ?_
    refine fw_icmp_ge (pc := 138) (tgt := 190) X dX2_bond_138 (by decide) (fun q => absurd q (nI_ge (a := i) (b := 6) (by omega) (by omega))) (fun _ => ?_)
    refine fw_aload_n (pc := 141) X dX2_bond_141 rfl 0 rfl ?_
    refine fw_get (pc := 142) (v := .ref (a 17)) X iX2_bond_X2 0 M_obj rfl 17 (by decide) kX2_bond_57 rfl dX2_bond_142 ?_
    refine fw_bipush (pc := 145) (v := 6) X dX2_bond_145 (by decide) ?_
    refine fw_iload_n (pc := 147) X dX2_bond_147 rfl 1 rfl ?_
    refine fw_imul (pc := 148) X dX2_bond_148 ?_
    refine fw_iload (pc := 149) X dX2_bond_149 6 rfl ?_
    refine fw_iadd (pc := 151) X dX2_bond_151 ?_
    refine fw_aload_n (pc := 152) X dX2_bond_152 rfl 0 rfl ?_
    refine fw_get (pc := 153) (v := .ref (a 1)) X iX2_bond_X2 0 M_obj rfl 1 (by decide) kX2_bond_7 rfl dX2_bond_153 ?_
    refine fw_iload (pc := 156) X dX2_bond_156 6 rfl ?_
    refine fw_iald (pc := 158) (f := G 1) X 1 0 (M_g1 (G := (va_up (va_up G 17 (m_tk G k i)) 18 (m_st G k j i)))) rfl i rfl (by omega) (by decide) dX2_bond_158 ?_
    refine fw_iast (pc := 159) (f := m_tk G k i) (ws' := MW K a F (va_up (va_up G 18 (m_st G k j i)) 17 (upd (m_tk G k i) ((6 * k) + i) (G 1 i)))) X 15 0 (M_g17 (G := (va_up (va_up G 17 (m_tk G k i)) 18 (m_st G k j i)))) rfl ((6 * k) + i) (nf_add (nf_mul (show (6 : Int32) = nI 6 from rfl) hu) rfl) (by omega) (by decide) dX2_bond_159 rfl ?_
    refine fw_aload_n (pc := 160) X dX2_bond_160 rfl 0 rfl ?_
    refine fw_get (pc := 161) (v := .ref (a 18)) X iX2_bond_X2 0 M_obj rfl 18 (by decide) kX2_bond_60 rfl dX2_bond_161 ?_
    refine fw_iload_n (pc := 164) X dX2_bond_164 rfl 1 rfl ?_
    refine fw_iload (pc := 165) X dX2_bond_165 6 rfl ?_
    refine fw_iload_n (pc := 167) X dX2_bond_167 rfl 2 rfl ?_
    refine fw_callS (pc := 168) (n := 3) X hE [.int u, .int (nI i), .int x] (ct_X2_at u (nI i) x) (by decide) gX2_bond_X2_at rfl ⟨rfl, rfl⟩ dsc_X2_at ⟨Nat.le_of_ble_eq_true rfl, Nat.le_of_ble_eq_true rfl⟩ rfl rfl (Nat.le_of_ble_eq_true rfl) dX2_bond_168 ⟨Nat.le_of_ble_eq_true rfl, Nat.le_of_ble_eq_true rfl⟩ (fun _ q => q.elim) (fun r0 u0 r_1 => ?_)
    subst r_1
    refine fw_aload_n (pc := 171) X dX2_bond_171 rfl 0 rfl ?_
    refine fw_get (pc := 172) (v := .ref (a 16)) X iX2_bond_X2 0 M_obj rfl 16 (by decide) kX2_bond_54 rfl dX2_bond_172 ?_
    refine fw_bipush (pc := 175) (v := 6) X dX2_bond_175 (by decide) ?_
    refine fw_iload_n (pc := 177) X dX2_bond_177 rfl 1 rfl ?_
    refine fw_imul (pc := 178) X dX2_bond_178 ?_
    refine fw_iload (pc := 179) X dX2_bond_179 6 rfl ?_
    refine fw_iadd (pc := 181) X dX2_bond_181 ?_
    refine fw_iald (pc := 182) (f := G 16) X 14 0 (M_g16 (G := (va_up (va_up G 18 (m_st G k j i)) 17 (upd (m_tk G k i) ((6 * k) + i) (G 1 i))))) rfl ((6 * k) + i) (nf_add (nf_mul (show (6 : Int32) = nI 6 from rfl) hu) rfl) (by omega) (by decide) dX2_bond_182 ?_
    refine fw_iast (pc := 183) (f := m_st G k j i) (ws' := MW K a F (va_up (va_up G 17 (upd (m_tk G k i) ((6 * k) + i) (G 1 i))) 18 (upd (m_st G k j i) (3 * (6 * k + i) + j) (G 16 ((6 * k) + i))))) X 16 0 (M_g18 (G := (va_up (va_up G 18 (m_st G k j i)) 17 (upd (m_tk G k i) ((6 * k) + i) (G 1 i))))) rfl (3 * (6 * k + i) + j) (nf_add (nf_mul (show (3 : Int32) = nI 3 from rfl) (nf_add (nf_mul (show (6 : Int32) = nI 6 from rfl) hu) rfl)) hx) (by omega) (by decide) dX2_bond_183 rfl ?_
    refine fw_iinc (pc := 184) (v := nI (i + 1)) (lv' := [(6, .int (nI (i + 1))), (0, .ref (a 0)), (1, .int u), (2, .int x), (3, .int 1), (4, .int t), (5, .int 1)]) (j := 6) X dX2_bond_184 rfl (nI_1 _) (by decide) rfl ?_
    refine fw_goto (pc := 187) (tgt := 134) X dX2_bond_187 (by decide) ?_
    refine fw_lv (lv' := [(0, .ref (a 0)), (1, .int u), (2, .int x), (3, .int 1), (4, .int t), (5, .int 1), (6, .int (nI ((i + 1))))]) [1, 2, 3, 4, 5, 6, 0] rfl ?_
    exact ih (i + 1) (by omega)
theorem dsc_X2_bond : fw_dsc yX2_bond 2 := by decide +kernel
set_option maxHeartbeats 4000000 in
set_option maxRecDepth 100000 in
theorem ct_X2_bond {l : Launch} {D : va_G} {K : Nat → ClassId} {a : Nat → Nat} {F : Nat → Int32} {G : Nat → Nat → Int32} (u x : Int32) {n : Nat} (hn : F 19 = nI n) (hn15 : n ≤ 15) (hT : ∀ k, k < 15 → G 8 k = nI (ix (G 8 k)) ∧ ix (G 8 k) < 4) : fw_C (S := Unit) l yX2_bond wsX2_bond ({ frames := 2, cells := 0, slots := 0, locals := 44 }) 0 0 false [.ref (a 0), .int u, .int x] D (tyS K) (MW K a F G) (fun r _ => r = some (.int (m_bnd_v F G u x))) (fun _ => MW K a (upd F 0 (m_bnd_k F G u x)) (m_bnd_G F G u x)) (fun _ => False) := by
  refine fw_met (maxL := 7) (ret := (some .int)) (by decide) rfl (Nat.le_of_ble_eq_true rfl) ?_
  intro p e s m args below meth c A X hr hlk hnm htab hE
  refine fw_lv (lv' := [(0, .ref (a 0)), (1, .int u), (2, .int x)]) [0, 1, 2] rfl ?_
  refine fw_aload_n (pc := 0) X dX2_bond_0 rfl 0 rfl ?_
  refine fw_iload_n (pc := 1) X dX2_bond_1 rfl 1 rfl ?_
  refine fw_callV (pc := 2) (n := 1) (C := (RX2, TX2, 21)) (ci := 2) (q0 := 0) X hE [.int u] (ct_X2_isConsignment u) (by decide) gX2_bond_X2_isConsignment rfl ⟨rfl, rfl⟩ ⟨rfl, dsc_X2_isConsignment⟩ ⟨Nat.le_of_ble_eq_true rfl, Nat.le_of_ble_eq_true rfl⟩ rfl M_obj rfl rfl (Nat.le_of_ble_eq_true rfl) dX2_bond_2 ⟨Nat.le_of_ble_eq_true rfl, Nat.le_of_ble_eq_true rfl⟩ (fun _ q => q.elim) (fun r0 u0 r_2 => ?_)
  subst r_2
  show fw_W _ _ _ _ _ _ _ _ _ _ _ _ _ _ _ _ _ _ _ (.int (b2i (m_in u 0 (F 19 - 1) = true)) :: _)
  by_cases c_3 : m_in u 0 (F 19 - 1) = true
  · obtain ⟨hx_u, hl_u⟩ := in_con hn15 (by rw [← hn]; exact c_3)
    obtain ⟨ht_4x, ht_4l⟩ := hT (ix u) (by omega)
    refine fw_iv (y := 1) (if_pos c_3) ?_
    refine fw_istore_n (pc := 5) (lv' := [(3, .int 1), (0, .ref (a 0)), (1, .int u), (2, .int x)]) X dX2_bond_5 rfl (by decide) rfl ?_
    refine fw_iload_n (pc := 6) X dX2_bond_6 rfl 0 rfl ?_
    refine fw_if_eq (pc := 7) (tgt := 19) X dX2_bond_7 (by decide) (fun q => absurd q (by decide)) (fun _ => ?_)
    refine fw_aload_n (pc := 10) X dX2_bond_10 rfl 1 rfl ?_
    refine fw_get (pc := 11) (v := .ref (a 8)) X iX2_bond_X2 0 M_obj rfl 8 (by decide) kX2_bond_29 rfl dX2_bond_11 ?_
    refine fw_iload_n (pc := 14) X dX2_bond_14 rfl 2 rfl ?_
    refine fw_iald (pc := 15) (f := G 8) X 6 0 (M_g8 (G := G)) rfl (ix u) hx_u (by omega) (by decide) dX2_bond_15 ?_
    refine fw_goto (pc := 16) (tgt := 20) X dX2_bond_16 (by decide) ?_
    refine fw_istore (pc := 20) (lv' := [(4, .int (G 8 (ix u))), (3, .int 1), (0, .ref (a 0)), (1, .int u), (2, .int x)]) X dX2_bond_20 (by decide) rfl ?_
    refine fw_iload_n (pc := 22) X dX2_bond_22 rfl 1 rfl ?_
    refine fw_if_eq (pc := 23) (tgt := 71) X dX2_bond_23 (by decide) (fun q => absurd q (by decide)) (fun _ => ?_)
    refine fw_aload_n (pc := 26) X dX2_bond_26 rfl 2 rfl ?_
    refine fw_get (pc := 27) (v := .ref (a 10)) X iX2_bond_X2 0 M_obj rfl 10 (by decide) kX2_bond_35 rfl dX2_bond_27 ?_
    refine fw_iload_n (pc := 30) X dX2_bond_30 rfl 3 rfl ?_
    refine fw_iald (pc := 31) (f := G 10) X 8 0 (M_g10 (G := G)) rfl (ix u) hx_u (by omega) (by decide) dX2_bond_31 ?_
    refine fw_iconst (pc := 32) (v := 1) X dX2_bond_32 (by decide) ?_
    refine fw_icmp_ne (pc := 33) (tgt := 71) X dX2_bond_33 (by decide) (fun c_5 => ?_) (fun c_5 => ?_)
    · refine fw_iconst (pc := 71) (v := 0) X dX2_bond_71 (by decide) ?_
      refine fw_istore (pc := 72) (lv' := [(5, .int 0), (4, .int (G 8 (ix u))), (3, .int 1), (0, .ref (a 0)), (1, .int u), (2, .int x)]) X dX2_bond_72 (by decide) rfl ?_
      refine fw_aload_n (pc := 74) X dX2_bond_74 rfl 3 rfl ?_
      refine fw_iload_n (pc := 75) X dX2_bond_75 rfl 2 rfl ?_
      refine fw_if_ne (pc := 76) (tgt := 83) X dX2_bond_76 (by decide) (fun _ => ?_) (fun q => absurd q (by decide))
      refine fw_iload_n (pc := 83) X dX2_bond_83 rfl 5 rfl ?_
      refine fw_callS (pc := 84) (n := 1) X hE [.int x] (ct_X2_isStore x) (by decide) gX2_bond_X2_isStore rfl ⟨rfl, rfl⟩ dsc_X2_isStore ⟨Nat.le_of_ble_eq_true rfl, Nat.le_of_ble_eq_true rfl⟩ rfl rfl (Nat.le_of_ble_eq_true rfl) dX2_bond_84 ⟨Nat.le_of_ble_eq_true rfl, Nat.le_of_ble_eq_true rfl⟩ (fun _ q => q.elim) (fun r0 u0 r_6 => ?_)
      subst r_6
      show fw_W _ _ _ _ _ _ _ _ _ _ _ _ _ _ _ _ _ _ _ (.int (b2i (m_in x 0 2 = true)) :: _)
      by_cases c_7 : m_in x 0 2 = true
      · obtain ⟨hx_x, hl_x⟩ := in_ix (h := 2) (N := 3) (by decide) (by decide) c_7
        refine fw_iv (y := 1) (if_pos c_7) ?_
        refine fw_if_ne (pc := 87) (tgt := 94) X dX2_bond_87 (by decide) (fun _ => ?_) (fun q => absurd q (by decide))
        refine fw_iload (pc := 94) X dX2_bond_94 0 rfl ?_
        refine fw_if_ne (pc := 96) (tgt := 103) X dX2_bond_96 (by decide) (fun q => absurd (by decide) q) (fun _ => ?_)
        refine fw_iconst (pc := 99) (v := 3) X dX2_bond_99 (by decide) ?_
        refine fw_goto (pc := 100) (tgt := 104) X dX2_bond_100 (by decide) ?_
        refine fw_callV (pc := 104) (n := 1) (C := (RX2, TX2, 21)) (ci := 2) (q0 := 0) X hE [.int 3] (ct_X2_isFine 3) (by decide) gX2_bond_X2_isFine rfl ⟨rfl, rfl⟩ ⟨rfl, dsc_X2_isFine⟩ ⟨Nat.le_of_ble_eq_true rfl, Nat.le_of_ble_eq_true rfl⟩ rfl M_obj rfl rfl (Nat.le_of_ble_eq_true rfl) dX2_bond_104 ⟨Nat.le_of_ble_eq_true rfl, Nat.le_of_ble_eq_true rfl⟩ (fun _ q => q.elim) (fun r0 u0 r_8 => ?_)
        subst r_8
        show fw_W _ _ _ _ _ _ _ _ _ _ _ _ _ _ _ _ _ _ _ (.int (b2i (3 = 0)) :: _)
        refine fw_iv (y := 0) (if_neg (by decide)) ?_
        refine fw_if_ne (pc := 107) (tgt := 112) X dX2_bond_107 (by decide) (fun q => absurd (by decide) q) (fun _ => ?_)
        refine fw_iconst (pc := 110) (v := 0) X dX2_bond_110 (by decide) ?_
        exact fw_iret (pc := 111) X hr hlk (Nat.le_of_ble_eq_true rfl) (Nat.le_of_ble_eq_true rfl) dX2_bond_111 () (by simp [m_bnd_v, m_bnd_G, m_bnd_k, m_bnd_1, m_bnd_2, m_bnd_3, c_3, c_5, c_7]) (by simp [m_bnd_v, m_bnd_G, m_bnd_k, m_bnd_1, m_bnd_2, m_bnd_3, c_3, c_5, c_7])
      · refine fw_iv (y := 0) (if_neg c_7) ?_
        refine fw_if_ne (pc := 87) (tgt := 94) X dX2_bond_87 (by decide) (fun q => absurd (by decide) q) (fun _ => ?_)
        refine fw_iconst (pc := 90) (v := 2) X dX2_bond_90 (by decide) ?_
        refine fw_goto (pc := 91) (tgt := 104) X dX2_bond_91 (by decide) ?_
        refine fw_callV (pc := 104) (n := 1) (C := (RX2, TX2, 21)) (ci := 2) (q0 := 0) X hE [.int 2] (ct_X2_isFine 2) (by decide) gX2_bond_X2_isFine rfl ⟨rfl, rfl⟩ ⟨rfl, dsc_X2_isFine⟩ ⟨Nat.le_of_ble_eq_true rfl, Nat.le_of_ble_eq_true rfl⟩ rfl M_obj rfl rfl (Nat.le_of_ble_eq_true rfl) dX2_bond_104 ⟨Nat.le_of_ble_eq_true rfl, Nat.le_of_ble_eq_true rfl⟩ (fun _ q => q.elim) (fun r0 u0 r_9 => ?_)
        subst r_9
        show fw_W _ _ _ _ _ _ _ _ _ _ _ _ _ _ _ _ _ _ _ (.int (b2i (2 = 0)) :: _)
        refine fw_iv (y := 0) (if_neg (by decide)) ?_
        refine fw_if_ne (pc := 107) (tgt := 112) X dX2_bond_107 (by decide) (fun q => absurd (by decide) q) (fun _ => ?_)
        refine fw_iconst (pc := 110) (v := 0) X dX2_bond_110 (by decide) ?_
        exact fw_iret (pc := 111) X hr hlk (Nat.le_of_ble_eq_true rfl) (Nat.le_of_ble_eq_true rfl) dX2_bond_111 () (by simp [m_bnd_v, m_bnd_G, m_bnd_k, m_bnd_1, m_bnd_2, m_bnd_3, c_3, c_5, c_7]) (by simp [m_bnd_v, m_bnd_G, m_bnd_k, m_bnd_1, m_bnd_2, m_bnd_3, c_3, c_5, c_7])
    · refine fw_aload_n (pc := 36) X dX2_bond_36 rfl 2 rfl ?_
      refine fw_iload_n (pc := 37) X dX2_bond_37 rfl 3 rfl ?_
      refine fw_callV (pc := 38) (n := 1) (C := (RX2, TX2, 21)) (ci := 2) (q0 := 0) X hE [.int u] (ct_X2_mustNow u (ix u) hx_u (by omega)) (by decide) gX2_bond_X2_mustNow rfl ⟨rfl, rfl⟩ ⟨rfl, dsc_X2_mustNow⟩ ⟨Nat.le_of_ble_eq_true rfl, Nat.le_of_ble_eq_true rfl⟩ rfl M_obj rfl rfl (Nat.le_of_ble_eq_true rfl) dX2_bond_38 ⟨Nat.le_of_ble_eq_true rfl, Nat.le_of_ble_eq_true rfl⟩ (fun _ q => q.elim) (fun r0 u0 r_10 => ?_)
      subst r_10
      show fw_W _ _ _ _ _ _ _ _ _ _ _ _ _ _ _ _ _ _ _ (.int (b2i (m_must F G (ix u) = true)) :: _)
      by_cases c_11 : m_must F G (ix u) = true
      · refine fw_iv (y := 1) (if_pos c_11) ?_
        refine fw_if_ne (pc := 41) (tgt := 71) X dX2_bond_41 (by decide) (fun _ => ?_) (fun q => absurd q (by decide))
        refine fw_iconst (pc := 71) (v := 0) X dX2_bond_71 (by decide) ?_
        refine fw_istore (pc := 72) (lv' := [(5, .int 0), (4, .int (G 8 (ix u))), (3, .int 1), (0, .ref (a 0)), (1, .int u), (2, .int x)]) X dX2_bond_72 (by decide) rfl ?_
        refine fw_aload_n (pc := 74) X dX2_bond_74 rfl 3 rfl ?_
        refine fw_iload_n (pc := 75) X dX2_bond_75 rfl 2 rfl ?_
        refine fw_if_ne (pc := 76) (tgt := 83) X dX2_bond_76 (by decide) (fun _ => ?_) (fun q => absurd q (by decide))
        refine fw_iload_n (pc := 83) X dX2_bond_83 rfl 5 rfl ?_
        refine fw_callS (pc := 84) (n := 1) X hE [.int x] (ct_X2_isStore x) (by decide) gX2_bond_X2_isStore rfl ⟨rfl, rfl⟩ dsc_X2_isStore ⟨Nat.le_of_ble_eq_true rfl, Nat.le_of_ble_eq_true rfl⟩ rfl rfl (Nat.le_of_ble_eq_true rfl) dX2_bond_84 ⟨Nat.le_of_ble_eq_true rfl, Nat.le_of_ble_eq_true rfl⟩ (fun _ q => q.elim) (fun r0 u0 r_12 => ?_)
        subst r_12
        show fw_W _ _ _ _ _ _ _ _ _ _ _ _ _ _ _ _ _ _ _ (.int (b2i (m_in x 0 2 = true)) :: _)
        by_cases c_13 : m_in x 0 2 = true
        · obtain ⟨hx_x, hl_x⟩ := in_ix (h := 2) (N := 3) (by decide) (by decide) c_13
          refine fw_iv (y := 1) (if_pos c_13) ?_
          refine fw_if_ne (pc := 87) (tgt := 94) X dX2_bond_87 (by decide) (fun _ => ?_) (fun q => absurd q (by decide))
          refine fw_iload (pc := 94) X dX2_bond_94 0 rfl ?_
          refine fw_if_ne (pc := 96) (tgt := 103) X dX2_bond_96 (by decide) (fun q => absurd (by decide) q) (fun _ => ?_)
          refine fw_iconst (pc := 99) (v := 3) X dX2_bond_99 (by decide) ?_
          refine fw_goto (pc := 100) (tgt := 104) X dX2_bond_100 (by decide) ?_
          refine fw_callV (pc := 104) (n := 1) (C := (RX2, TX2, 21)) (ci := 2) (q0 := 0) X hE [.int 3] (ct_X2_isFine 3) (by decide) gX2_bond_X2_isFine rfl ⟨rfl, rfl⟩ ⟨rfl, dsc_X2_isFine⟩ ⟨Nat.le_of_ble_eq_true rfl, Nat.le_of_ble_eq_true rfl⟩ rfl M_obj rfl rfl (Nat.le_of_ble_eq_true rfl) dX2_bond_104 ⟨Nat.le_of_ble_eq_true rfl, Nat.le_of_ble_eq_true rfl⟩ (fun _ q => q.elim) (fun r0 u0 r_14 => ?_)
          subst r_14
          show fw_W _ _ _ _ _ _ _ _ _ _ _ _ _ _ _ _ _ _ _ (.int (b2i (3 = 0)) :: _)
          refine fw_iv (y := 0) (if_neg (by decide)) ?_
          refine fw_if_ne (pc := 107) (tgt := 112) X dX2_bond_107 (by decide) (fun q => absurd (by decide) q) (fun _ => ?_)
          refine fw_iconst (pc := 110) (v := 0) X dX2_bond_110 (by decide) ?_
          exact fw_iret (pc := 111) X hr hlk (Nat.le_of_ble_eq_true rfl) (Nat.le_of_ble_eq_true rfl) dX2_bond_111 () (by simp [m_bnd_v, m_bnd_G, m_bnd_k, m_bnd_1, m_bnd_2, m_bnd_3, c_3, c_5, c_11, c_13]) (by simp [m_bnd_v, m_bnd_G, m_bnd_k, m_bnd_1, m_bnd_2, m_bnd_3, c_3, c_5, c_11, c_13])
        · refine fw_iv (y := 0) (if_neg c_13) ?_
          refine fw_if_ne (pc := 87) (tgt := 94) X dX2_bond_87 (by decide) (fun q => absurd (by decide) q) (fun _ => ?_)
          refine fw_iconst (pc := 90) (v := 2) X dX2_bond_90 (by decide) ?_
          refine fw_goto (pc := 91) (tgt := 104) X dX2_bond_91 (by decide) ?_
          refine fw_callV (pc := 104) (n := 1) (C := (RX2, TX2, 21)) (ci := 2) (q0 := 0) X hE [.int 2] (ct_X2_isFine 2) (by decide) gX2_bond_X2_isFine rfl ⟨rfl, rfl⟩ ⟨rfl, dsc_X2_isFine⟩ ⟨Nat.le_of_ble_eq_true rfl, Nat.le_of_ble_eq_true rfl⟩ rfl M_obj rfl rfl (Nat.le_of_ble_eq_true rfl) dX2_bond_104 ⟨Nat.le_of_ble_eq_true rfl, Nat.le_of_ble_eq_true rfl⟩ (fun _ q => q.elim) (fun r0 u0 r_15 => ?_)
          subst r_15
          show fw_W _ _ _ _ _ _ _ _ _ _ _ _ _ _ _ _ _ _ _ (.int (b2i (2 = 0)) :: _)
          refine fw_iv (y := 0) (if_neg (by decide)) ?_
          refine fw_if_ne (pc := 107) (tgt := 112) X dX2_bond_107 (by decide) (fun q => absurd (by decide) q) (fun _ => ?_)
          refine fw_iconst (pc := 110) (v := 0) X dX2_bond_110 (by decide) ?_
          exact fw_iret (pc := 111) X hr hlk (Nat.le_of_ble_eq_true rfl) (Nat.le_of_ble_eq_true rfl) dX2_bond_111 () (by simp [m_bnd_v, m_bnd_G, m_bnd_k, m_bnd_1, m_bnd_2, m_bnd_3, c_3, c_5, c_11, c_13]) (by simp [m_bnd_v, m_bnd_G, m_bnd_k, m_bnd_1, m_bnd_2, m_bnd_3, c_3, c_5, c_11, c_13])
      · refine fw_iv (y := 0) (if_neg c_11) ?_
        refine fw_if_ne (pc := 41) (tgt := 71) X dX2_bond_41 (by decide) (fun q => absurd (by decide) q) (fun _ => ?_)
        refine fw_aload_n (pc := 44) X dX2_bond_44 rfl 2 rfl ?_
        refine fw_get (pc := 45) (v := .ref (a 6)) X iX2_bond_X2 0 M_obj rfl 6 (by decide) kX2_bond_23 rfl dX2_bond_45 ?_
        refine fw_iload (pc := 48) X dX2_bond_48 0 rfl ?_
        refine fw_iald (pc := 50) (f := G 6) X 4 0 (M_g6 (G := G)) rfl (ix (G 8 (ix u))) ht_4x (by omega) (by decide) dX2_bond_50 ?_
        refine fw_aload_n (pc := 51) X dX2_bond_51 rfl 2 rfl ?_
        refine fw_iload_n (pc := 52) X dX2_bond_52 rfl 3 rfl ?_
        refine fw_callV (pc := 53) (n := 1) (C := (RX2, TX2, 21)) (ci := 2) (q0 := 0) X hE [.int u] (ct_X2_owes u (ix u) hx_u (by omega)) (by decide) gX2_bond_X2_owes rfl ⟨rfl, rfl⟩ ⟨rfl, dsc_X2_owes⟩ ⟨Nat.le_of_ble_eq_true rfl, Nat.le_of_ble_eq_true rfl⟩ rfl M_obj rfl rfl (Nat.le_of_ble_eq_true rfl) dX2_bond_53 ⟨Nat.le_of_ble_eq_true rfl, Nat.le_of_ble_eq_true rfl⟩ (fun _ q => q.elim) (fun r0 u0 r_16 => ?_)
        subst r_16
        refine fw_iadd (pc := 56) X dX2_bond_56 ?_
        refine fw_aload_n (pc := 57) X dX2_bond_57 rfl 2 rfl ?_
        refine fw_get (pc := 58) (v := .ref (a 5)) X iX2_bond_X2 0 M_obj rfl 5 (by decide) kX2_bond_20 rfl dX2_bond_58 ?_
        refine fw_iload (pc := 61) X dX2_bond_61 0 rfl ?_
        refine fw_iald (pc := 63) (f := G 5) X 3 0 (M_g5 (G := G)) rfl (ix (G 8 (ix u))) ht_4x (by omega) (by decide) dX2_bond_63 ?_
        refine fw_icmp_gt (pc := 64) (tgt := 71) X dX2_bond_64 (by decide) (fun c_17 => ?_) (fun c_17 => ?_)
        · refine fw_iconst (pc := 71) (v := 0) X dX2_bond_71 (by decide) ?_
          refine fw_istore (pc := 72) (lv' := [(5, .int 0), (4, .int (G 8 (ix u))), (3, .int 1), (0, .ref (a 0)), (1, .int u), (2, .int x)]) X dX2_bond_72 (by decide) rfl ?_
          refine fw_aload_n (pc := 74) X dX2_bond_74 rfl 3 rfl ?_
          refine fw_iload_n (pc := 75) X dX2_bond_75 rfl 2 rfl ?_
          refine fw_if_ne (pc := 76) (tgt := 83) X dX2_bond_76 (by decide) (fun _ => ?_) (fun q => absurd q (by decide))
          refine fw_iload_n (pc := 83) X dX2_bond_83 rfl 5 rfl ?_
          refine fw_callS (pc := 84) (n := 1) X hE [.int x] (ct_X2_isStore x) (by decide) gX2_bond_X2_isStore rfl ⟨rfl, rfl⟩ dsc_X2_isStore ⟨Nat.le_of_ble_eq_true rfl, Nat.le_of_ble_eq_true rfl⟩ rfl rfl (Nat.le_of_ble_eq_true rfl) dX2_bond_84 ⟨Nat.le_of_ble_eq_true rfl, Nat.le_of_ble_eq_true rfl⟩ (fun _ q => q.elim) (fun r0 u0 r_18 => ?_)
          subst r_18
          show fw_W _ _ _ _ _ _ _ _ _ _ _ _ _ _ _ _ _ _ _ (.int (b2i (m_in x 0 2 = true)) :: _)
          by_cases c_19 : m_in x 0 2 = true
          · obtain ⟨hx_x, hl_x⟩ := in_ix (h := 2) (N := 3) (by decide) (by decide) c_19
            refine fw_iv (y := 1) (if_pos c_19) ?_
            refine fw_if_ne (pc := 87) (tgt := 94) X dX2_bond_87 (by decide) (fun _ => ?_) (fun q => absurd q (by decide))
            refine fw_iload (pc := 94) X dX2_bond_94 0 rfl ?_
            refine fw_if_ne (pc := 96) (tgt := 103) X dX2_bond_96 (by decide) (fun q => absurd (by decide) q) (fun _ => ?_)
            refine fw_iconst (pc := 99) (v := 3) X dX2_bond_99 (by decide) ?_
            refine fw_goto (pc := 100) (tgt := 104) X dX2_bond_100 (by decide) ?_
            refine fw_callV (pc := 104) (n := 1) (C := (RX2, TX2, 21)) (ci := 2) (q0 := 0) X hE [.int 3] (ct_X2_isFine 3) (by decide) gX2_bond_X2_isFine rfl ⟨rfl, rfl⟩ ⟨rfl, dsc_X2_isFine⟩ ⟨Nat.le_of_ble_eq_true rfl, Nat.le_of_ble_eq_true rfl⟩ rfl M_obj rfl rfl (Nat.le_of_ble_eq_true rfl) dX2_bond_104 ⟨Nat.le_of_ble_eq_true rfl, Nat.le_of_ble_eq_true rfl⟩ (fun _ q => q.elim) (fun r0 u0 r_20 => ?_)
            subst r_20
            show fw_W _ _ _ _ _ _ _ _ _ _ _ _ _ _ _ _ _ _ _ (.int (b2i (3 = 0)) :: _)
            refine fw_iv (y := 0) (if_neg (by decide)) ?_
            refine fw_if_ne (pc := 107) (tgt := 112) X dX2_bond_107 (by decide) (fun q => absurd (by decide) q) (fun _ => ?_)
            refine fw_iconst (pc := 110) (v := 0) X dX2_bond_110 (by decide) ?_
            exact fw_iret (pc := 111) X hr hlk (Nat.le_of_ble_eq_true rfl) (Nat.le_of_ble_eq_true rfl) dX2_bond_111 () (by simp [m_bnd_v, m_bnd_G, m_bnd_k, m_bnd_1, m_bnd_2, m_bnd_3, c_3, c_5, c_11, c_17, c_19]) (by simp [m_bnd_v, m_bnd_G, m_bnd_k, m_bnd_1, m_bnd_2, m_bnd_3, c_3, c_5, c_11, c_17, c_19])
          · refine fw_iv (y := 0) (if_neg c_19) ?_
            refine fw_if_ne (pc := 87) (tgt := 94) X dX2_bond_87 (by decide) (fun q => absurd (by decide) q) (fun _ => ?_)
            refine fw_iconst (pc := 90) (v := 2) X dX2_bond_90 (by decide) ?_
            refine fw_goto (pc := 91) (tgt := 104) X dX2_bond_91 (by decide) ?_
            refine fw_callV (pc := 104) (n := 1) (C := (RX2, TX2, 21)) (ci := 2) (q0 := 0) X hE [.int 2] (ct_X2_isFine 2) (by decide) gX2_bond_X2_isFine rfl ⟨rfl, rfl⟩ ⟨rfl, dsc_X2_isFine⟩ ⟨Nat.le_of_ble_eq_true rfl, Nat.le_of_ble_eq_true rfl⟩ rfl M_obj rfl rfl (Nat.le_of_ble_eq_true rfl) dX2_bond_104 ⟨Nat.le_of_ble_eq_true rfl, Nat.le_of_ble_eq_true rfl⟩ (fun _ q => q.elim) (fun r0 u0 r_21 => ?_)
            subst r_21
            show fw_W _ _ _ _ _ _ _ _ _ _ _ _ _ _ _ _ _ _ _ (.int (b2i (2 = 0)) :: _)
            refine fw_iv (y := 0) (if_neg (by decide)) ?_
            refine fw_if_ne (pc := 107) (tgt := 112) X dX2_bond_107 (by decide) (fun q => absurd (by decide) q) (fun _ => ?_)
            refine fw_iconst (pc := 110) (v := 0) X dX2_bond_110 (by decide) ?_
            exact fw_iret (pc := 111) X hr hlk (Nat.le_of_ble_eq_true rfl) (Nat.le_of_ble_eq_true rfl) dX2_bond_111 () (by simp [m_bnd_v, m_bnd_G, m_bnd_k, m_bnd_1, m_bnd_2, m_bnd_3, c_3, c_5, c_11, c_17, c_19]) (by simp [m_bnd_v, m_bnd_G, m_bnd_k, m_bnd_1, m_bnd_2, m_bnd_3, c_3, c_5, c_11, c_17, c_19])
        · refine fw_iconst (pc := 67) (v := 1) X dX2_bond_67 (by decide) ?_
          refine fw_goto (pc := 68) (tgt := 72) X dX2_bond_68 (by decide) ?_
          refine fw_istore (pc := 72) (lv' := [(5, .int 1), (4, .int (G 8 (ix u))), (3, .int 1), (0, .ref (a 0)), (1, .int u), (2, .int x)]) X dX2_bond_72 (by decide) rfl ?_
          refine fw_aload_n (pc := 74) X dX2_bond_74 rfl 3 rfl ?_
          refine fw_iload_n (pc := 75) X dX2_bond_75 rfl 2 rfl ?_
          refine fw_if_ne (pc := 76) (tgt := 83) X dX2_bond_76 (by decide) (fun _ => ?_) (fun q => absurd q (by decide))
          refine fw_iload_n (pc := 83) X dX2_bond_83 rfl 5 rfl ?_
          refine fw_callS (pc := 84) (n := 1) X hE [.int x] (ct_X2_isStore x) (by decide) gX2_bond_X2_isStore rfl ⟨rfl, rfl⟩ dsc_X2_isStore ⟨Nat.le_of_ble_eq_true rfl, Nat.le_of_ble_eq_true rfl⟩ rfl rfl (Nat.le_of_ble_eq_true rfl) dX2_bond_84 ⟨Nat.le_of_ble_eq_true rfl, Nat.le_of_ble_eq_true rfl⟩ (fun _ q => q.elim) (fun r0 u0 r_22 => ?_)
          subst r_22
          show fw_W _ _ _ _ _ _ _ _ _ _ _ _ _ _ _ _ _ _ _ (.int (b2i (m_in x 0 2 = true)) :: _)
          by_cases c_23 : m_in x 0 2 = true
          · obtain ⟨hx_x, hl_x⟩ := in_ix (h := 2) (N := 3) (by decide) (by decide) c_23
            refine fw_iv (y := 1) (if_pos c_23) ?_
            refine fw_if_ne (pc := 87) (tgt := 94) X dX2_bond_87 (by decide) (fun _ => ?_) (fun q => absurd q (by decide))
            refine fw_iload (pc := 94) X dX2_bond_94 0 rfl ?_
            refine fw_if_ne (pc := 96) (tgt := 103) X dX2_bond_96 (by decide) (fun _ => ?_) (fun q => absurd q (by decide))
            refine fw_iconst (pc := 103) (v := 0) X dX2_bond_103 (by decide) ?_
            refine fw_callV (pc := 104) (n := 1) (C := (RX2, TX2, 21)) (ci := 2) (q0 := 0) X hE [.int 0] (ct_X2_isFine 0) (by decide) gX2_bond_X2_isFine rfl ⟨rfl, rfl⟩ ⟨rfl, dsc_X2_isFine⟩ ⟨Nat.le_of_ble_eq_true rfl, Nat.le_of_ble_eq_true rfl⟩ rfl M_obj rfl rfl (Nat.le_of_ble_eq_true rfl) dX2_bond_104 ⟨Nat.le_of_ble_eq_true rfl, Nat.le_of_ble_eq_true rfl⟩ (fun _ q => q.elim) (fun r0 u0 r_24 => ?_)
            subst r_24
            show fw_W _ _ _ _ _ _ _ _ _ _ _ _ _ _ _ _ _ _ _ (.int (b2i (0 = 0)) :: _)
            refine fw_iv (y := 1) (if_pos (by decide)) ?_
            refine fw_if_ne (pc := 107) (tgt := 112) X dX2_bond_107 (by decide) (fun _ => ?_) (fun q => absurd q (by decide))
            refine fw_aload_n (pc := 112) X dX2_bond_112 rfl 3 rfl ?_
            refine fw_get (pc := 113) (v := .ref (a 10)) X iX2_bond_X2 0 M_obj rfl 10 (by decide) kX2_bond_35 rfl dX2_bond_113 ?_
            refine fw_iload_n (pc := 116) X dX2_bond_116 rfl 4 rfl ?_
            refine fw_aload_n (pc := 117) X dX2_bond_117 rfl 3 rfl ?_
            refine fw_iload_n (pc := 118) X dX2_bond_118 rfl 4 rfl ?_
            refine fw_callV (pc := 119) (n := 1) (C := (RX2, TX2, 21)) (ci := 2) (q0 := 0) X hE [.int u] (ct_X2_isEmpty u (ix u) hx_u (by omega)) (by decide) gX2_bond_X2_isEmpty rfl ⟨rfl, rfl⟩ ⟨rfl, dsc_X2_isEmpty⟩ ⟨Nat.le_of_ble_eq_true rfl, Nat.le_of_ble_eq_true rfl⟩ rfl M_obj rfl rfl (Nat.le_of_ble_eq_true rfl) dX2_bond_119 ⟨Nat.le_of_ble_eq_true rfl, Nat.le_of_ble_eq_true rfl⟩ (fun _ q => q.elim) (fun r0 u0 r_25 => ?_)
            subst r_25
            show fw_W _ _ _ _ _ _ _ _ _ _ _ _ _ _ _ _ _ _ _ (.int (b2i (m_em G (ix u) 6 = 0)) :: _)
            by_cases c_26 : m_em G (ix u) 6 = 0
            · refine fw_iv (y := 1) (if_pos c_26) ?_
              refine fw_if_eq (pc := 122) (tgt := 129) X dX2_bond_122 (by decide) (fun q => absurd q (by decide)) (fun _ => ?_)
              refine fw_iconst (pc := 125) (v := 3) X dX2_bond_125 (by decide) ?_
              refine fw_goto (pc := 126) (tgt := 130) X dX2_bond_126 (by decide) ?_
              refine fw_iast (pc := 130) (f := G 10) (ws' := MW K a (upd F 0 0) (va_up G 10 (upd (G 10) (ix u) 3))) X 8 0 (M_g10 (G := G)) rfl (ix u) hx_u (by omega) (by decide) dX2_bond_130 (M_s10 _) ?_
              refine fw_iconst (pc := 131) (v := 0) X dX2_bond_131 (by decide) ?_
              refine fw_istore (pc := 132) (lv' := [(6, .int 0), (5, .int 1), (4, .int (G 8 (ix u))), (3, .int 1), (0, .ref (a 0)), (1, .int u), (2, .int x)]) X dX2_bond_132 (by decide) rfl ?_
              refine fw_lv (lv' := [(0, .ref (a 0)), (1, .int u), (2, .int x), (3, .int 1), (4, .int (G 8 (ix u))), (5, .int 1), (6, .int (nI 0))]) [4, 5, 6, 3, 2, 1, 0] rfl ?_
              refine fw_ws (ws' := MW K a (upd F 0 0) (va_up (va_up (va_up G 10 (upd (G 10) (ix u) 3)) 17 (m_tk (va_up G 10 (upd (G 10) (ix u) 3)) (ix u) 0)) 18 (m_st (va_up G 10 (upd (G 10) (ix u) 3)) (ix u) (ix x) 0))) rfl ?_
              refine lp_X2_bond_134 u x (G 8 (ix u)) (ix u) (ix x) hx_u (by omega) hx_x (by omega) X hE ?_ 6 0 (by omega)
              refine fw_aload_n (pc := 190) X dX2_bond_190 rfl 0 rfl ?_
              refine fw_get (pc := 191) (v := .ref (a 6)) X iX2_bond_X2 0 M_obj rfl 6 (by decide) kX2_bond_23 rfl dX2_bond_191 ?_
              refine fw_iload (pc := 194) X dX2_bond_194 4 rfl ?_
              refine fw_dup2 (pc := 196) X dX2_bond_196 rfl rfl ?_
              refine fw_iald (pc := 197) (f := G 6) X 4 0 (M_g6 (G := (va_up (va_up (va_up G 10 (upd (G 10) (ix u) 3)) 17 (m_tk (va_up G 10 (upd (G 10) (ix u) 3)) (ix u) 6)) 18 (m_st (va_up G 10 (upd (G 10) (ix u) 3)) (ix u) (ix x) 6)))) rfl (ix (G 8 (ix u))) ht_4x (by omega) (by decide) dX2_bond_197 ?_
              refine fw_aload_n (pc := 198) X dX2_bond_198 rfl 0 rfl ?_
              refine fw_iload_n (pc := 199) X dX2_bond_199 rfl 1 rfl ?_
              refine fw_callV (pc := 200) (n := 1) (C := (RX2, TX2, 21)) (ci := 2) (q0 := 0) X hE [.int u] (ct_X2_owes u (ix u) hx_u (by omega)) (by decide) gX2_bond_X2_owes rfl ⟨rfl, rfl⟩ ⟨rfl, dsc_X2_owes⟩ ⟨Nat.le_of_ble_eq_true rfl, Nat.le_of_ble_eq_true rfl⟩ rfl M_obj rfl rfl (Nat.le_of_ble_eq_true rfl) dX2_bond_200 ⟨Nat.le_of_ble_eq_true rfl, Nat.le_of_ble_eq_true rfl⟩ (fun _ q => q.elim) (fun r0 u0 r_27 => ?_)
              subst r_27
              refine fw_iadd (pc := 203) X dX2_bond_203 ?_
              refine fw_iast (pc := 204) (f := G 6) (ws' := MW K a (upd F 0 0) (va_up (va_up (va_up (va_up G 10 (upd (G 10) (ix u) 3)) 17 (m_tk (va_up G 10 (upd (G 10) (ix u) 3)) (ix u) 6)) 18 (m_st (va_up G 10 (upd (G 10) (ix u) 3)) (ix u) (ix x) 6)) 6 (upd (G 6) (ix (G 8 (ix u))) ((G 6 (ix (G 8 (ix u)))) + (m_ow (va_up (va_up (va_up G 10 (upd (G 10) (ix u) 3)) 17 (m_tk (va_up G 10 (upd (G 10) (ix u) 3)) (ix u) 6)) 18 (m_st (va_up G 10 (upd (G 10) (ix u) 3)) (ix u) (ix x) 6)) (ix u) 6))))) X 4 0 (M_g6 (G := (va_up (va_up (va_up G 10 (upd (G 10) (ix u) 3)) 17 (m_tk (va_up G 10 (upd (G 10) (ix u) 3)) (ix u) 6)) 18 (m_st (va_up G 10 (upd (G 10) (ix u) 3)) (ix u) (ix x) 6)))) rfl (ix (G 8 (ix u))) ht_4x (by omega) (by decide) dX2_bond_204 (M_s6 _) ?_
              refine fw_aload_n (pc := 205) X dX2_bond_205 rfl 0 rfl ?_
              refine fw_iload_n (pc := 206) X dX2_bond_206 rfl 1 rfl ?_
              refine fw_callV (pc := 207) (n := 1) (C := (RX2, TX2, 21)) (ci := 2) (q0 := 0) X hE [.int u] (ct_X2_owes u (ix u) hx_u (by omega)) (by decide) gX2_bond_X2_owes rfl ⟨rfl, rfl⟩ ⟨rfl, dsc_X2_owes⟩ ⟨Nat.le_of_ble_eq_true rfl, Nat.le_of_ble_eq_true rfl⟩ rfl M_obj rfl rfl (Nat.le_of_ble_eq_true rfl) dX2_bond_207 ⟨Nat.le_of_ble_eq_true rfl, Nat.le_of_ble_eq_true rfl⟩ (fun _ q => q.elim) (fun r0 u0 r_28 => ?_)
              subst r_28
              exact fw_iret (pc := 210) X hr hlk (Nat.le_of_ble_eq_true rfl) (Nat.le_of_ble_eq_true rfl) dX2_bond_210 () (by simp [m_bnd_v, m_bnd_G, m_bnd_k, m_bnd_1, m_bnd_2, m_bnd_3, c_3, c_5, c_11, c_17, c_23, c_26]) (by simp [m_bnd_v, m_bnd_G, m_bnd_k, m_bnd_1, m_bnd_2, m_bnd_3, c_3, c_5, c_11, c_17, c_23, c_26])
            · refine fw_iv (y := 0) (if_neg c_26) ?_
              refine fw_if_eq (pc := 122) (tgt := 129) X dX2_bond_122 (by decide) (fun _ => ?_) (fun q => absurd (by decide) q)
              refine fw_iconst (pc := 129) (v := 2) X dX2_bond_129 (by decide) ?_
              refine fw_iast (pc := 130) (f := G 10) (ws' := MW K a (upd F 0 0) (va_up G 10 (upd (G 10) (ix u) 2))) X 8 0 (M_g10 (G := G)) rfl (ix u) hx_u (by omega) (by decide) dX2_bond_130 (M_s10 _) ?_
              refine fw_iconst (pc := 131) (v := 0) X dX2_bond_131 (by decide) ?_
              refine fw_istore (pc := 132) (lv' := [(6, .int 0), (5, .int 1), (4, .int (G 8 (ix u))), (3, .int 1), (0, .ref (a 0)), (1, .int u), (2, .int x)]) X dX2_bond_132 (by decide) rfl ?_
              refine fw_lv (lv' := [(0, .ref (a 0)), (1, .int u), (2, .int x), (3, .int 1), (4, .int (G 8 (ix u))), (5, .int 1), (6, .int (nI 0))]) [4, 5, 6, 3, 2, 1, 0] rfl ?_
              refine fw_ws (ws' := MW K a (upd F 0 0) (va_up (va_up (va_up G 10 (upd (G 10) (ix u) 2)) 17 (m_tk (va_up G 10 (upd (G 10) (ix u) 2)) (ix u) 0)) 18 (m_st (va_up G 10 (upd (G 10) (ix u) 2)) (ix u) (ix x) 0))) rfl ?_
              refine lp_X2_bond_134 u x (G 8 (ix u)) (ix u) (ix x) hx_u (by omega) hx_x (by omega) X hE ?_ 6 0 (by omega)
              refine fw_aload_n (pc := 190) X dX2_bond_190 rfl 0 rfl ?_
              refine fw_get (pc := 191) (v := .ref (a 6)) X iX2_bond_X2 0 M_obj rfl 6 (by decide) kX2_bond_23 rfl dX2_bond_191 ?_
              refine fw_iload (pc := 194) X dX2_bond_194 4 rfl ?_
              refine fw_dup2 (pc := 196) X dX2_bond_196 rfl rfl ?_
              refine fw_iald (pc := 197) (f := G 6) X 4 0 (M_g6 (G := (va_up (va_up (va_up G 10 (upd (G 10) (ix u) 2)) 17 (m_tk (va_up G 10 (upd (G 10) (ix u) 2)) (ix u) 6)) 18 (m_st (va_up G 10 (upd (G 10) (ix u) 2)) (ix u) (ix x) 6)))) rfl (ix (G 8 (ix u))) ht_4x (by omega) (by decide) dX2_bond_197 ?_
              refine fw_aload_n (pc := 198) X dX2_bond_198 rfl 0 rfl ?_
              refine fw_iload_n (pc := 199) X dX2_bond_199 rfl 1 rfl ?_
              refine fw_callV (pc := 200) (n := 1) (C := (RX2, TX2, 21)) (ci := 2) (q0 := 0) X hE [.int u] (ct_X2_owes u (ix u) hx_u (by omega)) (by decide) gX2_bond_X2_owes rfl ⟨rfl, rfl⟩ ⟨rfl, dsc_X2_owes⟩ ⟨Nat.le_of_ble_eq_true rfl, Nat.le_of_ble_eq_true rfl⟩ rfl M_obj rfl rfl (Nat.le_of_ble_eq_true rfl) dX2_bond_200 ⟨Nat.le_of_ble_eq_true rfl, Nat.le_of_ble_eq_true rfl⟩ (fun _ q => q.elim) (fun r0 u0 r_29 => ?_)
              subst r_29
              refine fw_iadd (pc := 203) X dX2_bond_203 ?_
              refine fw_iast (pc := 204) (f := G 6) (ws' := MW K a (upd F 0 0) (va_up (va_up (va_up (va_up G 10 (upd (G 10) (ix u) 2)) 17 (m_tk (va_up G 10 (upd (G 10) (ix u) 2)) (ix u) 6)) 18 (m_st (va_up G 10 (upd (G 10) (ix u) 2)) (ix u) (ix x) 6)) 6 (upd (G 6) (ix (G 8 (ix u))) ((G 6 (ix (G 8 (ix u)))) + (m_ow (va_up (va_up (va_up G 10 (upd (G 10) (ix u) 2)) 17 (m_tk (va_up G 10 (upd (G 10) (ix u) 2)) (ix u) 6)) 18 (m_st (va_up G 10 (upd (G 10) (ix u) 2)) (ix u) (ix x) 6)) (ix u) 6))))) X 4 0 (M_g6 (G := (va_up (va_up (va_up G 10 (upd (G 10) (ix u) 2)) 17 (m_tk (va_up G 10 (upd (G 10) (ix u) 2)) (ix u) 6)) 18 (m_st (va_up G 10 (upd (G 10) (ix u) 2)) (ix u) (ix x) 6)))) rfl (ix (G 8 (ix u))) ht_4x (by omega) (by decide) dX2_bond_204 (M_s6 _) ?_
              refine fw_aload_n (pc := 205) X dX2_bond_205 rfl 0 rfl ?_
              refine fw_iload_n (pc := 206) X dX2_bond_206 rfl 1 rfl ?_
              refine fw_callV (pc := 207) (n := 1) (C := (RX2, TX2, 21)) (ci := 2) (q0 := 0) X hE [.int u] (ct_X2_owes u (ix u) hx_u (by omega)) (by decide) gX2_bond_X2_owes rfl ⟨rfl, rfl⟩ ⟨rfl, dsc_X2_owes⟩ ⟨Nat.le_of_ble_eq_true rfl, Nat.le_of_ble_eq_true rfl⟩ rfl M_obj rfl rfl (Nat.le_of_ble_eq_true rfl) dX2_bond_207 ⟨Nat.le_of_ble_eq_true rfl, Nat.le_of_ble_eq_true rfl⟩ (fun _ q => q.elim) (fun r0 u0 r_30 => ?_)
              subst r_30
              exact fw_iret (pc := 210) X hr hlk (Nat.le_of_ble_eq_true rfl) (Nat.le_of_ble_eq_true rfl) dX2_bond_210 () (by simp [m_bnd_v, m_bnd_G, m_bnd_k, m_bnd_1, m_bnd_2, m_bnd_3, c_3, c_5, c_11, c_17, c_23, c_26]) (by simp [m_bnd_v, m_bnd_G, m_bnd_k, m_bnd_1, m_bnd_2, m_bnd_3, c_3, c_5, c_11, c_17, c_23, c_26])
          · refine fw_iv (y := 0) (if_neg c_23) ?_
            refine fw_if_ne (pc := 87) (tgt := 94) X dX2_bond_87 (by decide) (fun q => absurd (by decide) q) (fun _ => ?_)
            refine fw_iconst (pc := 90) (v := 2) X dX2_bond_90 (by decide) ?_
            refine fw_goto (pc := 91) (tgt := 104) X dX2_bond_91 (by decide) ?_
            refine fw_callV (pc := 104) (n := 1) (C := (RX2, TX2, 21)) (ci := 2) (q0 := 0) X hE [.int 2] (ct_X2_isFine 2) (by decide) gX2_bond_X2_isFine rfl ⟨rfl, rfl⟩ ⟨rfl, dsc_X2_isFine⟩ ⟨Nat.le_of_ble_eq_true rfl, Nat.le_of_ble_eq_true rfl⟩ rfl M_obj rfl rfl (Nat.le_of_ble_eq_true rfl) dX2_bond_104 ⟨Nat.le_of_ble_eq_true rfl, Nat.le_of_ble_eq_true rfl⟩ (fun _ q => q.elim) (fun r0 u0 r_31 => ?_)
            subst r_31
            show fw_W _ _ _ _ _ _ _ _ _ _ _ _ _ _ _ _ _ _ _ (.int (b2i (2 = 0)) :: _)
            refine fw_iv (y := 0) (if_neg (by decide)) ?_
            refine fw_if_ne (pc := 107) (tgt := 112) X dX2_bond_107 (by decide) (fun q => absurd (by decide) q) (fun _ => ?_)
            refine fw_iconst (pc := 110) (v := 0) X dX2_bond_110 (by decide) ?_
            exact fw_iret (pc := 111) X hr hlk (Nat.le_of_ble_eq_true rfl) (Nat.le_of_ble_eq_true rfl) dX2_bond_111 () (by simp [m_bnd_v, m_bnd_G, m_bnd_k, m_bnd_1, m_bnd_2, m_bnd_3, c_3, c_5, c_11, c_17, c_23]) (by simp [m_bnd_v, m_bnd_G, m_bnd_k, m_bnd_1, m_bnd_2, m_bnd_3, c_3, c_5, c_11, c_17, c_23])
  · refine fw_iv (y := 0) (if_neg c_3) ?_
    refine fw_istore_n (pc := 5) (lv' := [(3, .int 0), (0, .ref (a 0)), (1, .int u), (2, .int x)]) X dX2_bond_5 rfl (by decide) rfl ?_
    refine fw_iload_n (pc := 6) X dX2_bond_6 rfl 0 rfl ?_
    refine fw_if_eq (pc := 7) (tgt := 19) X dX2_bond_7 (by decide) (fun _ => ?_) (fun q => absurd (by decide) q)
    refine fw_iconst (pc := 19) (v := 0) X dX2_bond_19 (by decide) ?_
    refine fw_istore (pc := 20) (lv' := [(4, .int 0), (3, .int 0), (0, .ref (a 0)), (1, .int u), (2, .int x)]) X dX2_bond_20 (by decide) rfl ?_
    refine fw_iload_n (pc := 22) X dX2_bond_22 rfl 1 rfl ?_
    refine fw_if_eq (pc := 23) (tgt := 71) X dX2_bond_23 (by decide) (fun _ => ?_) (fun q => absurd (by decide) q)
    refine fw_iconst (pc := 71) (v := 0) X dX2_bond_71 (by decide) ?_
    refine fw_istore (pc := 72) (lv' := [(5, .int 0), (4, .int 0), (3, .int 0), (0, .ref (a 0)), (1, .int u), (2, .int x)]) X dX2_bond_72 (by decide) rfl ?_
    refine fw_aload_n (pc := 74) X dX2_bond_74 rfl 3 rfl ?_
    refine fw_iload_n (pc := 75) X dX2_bond_75 rfl 2 rfl ?_
    refine fw_if_ne (pc := 76) (tgt := 83) X dX2_bond_76 (by decide) (fun q => absurd (by decide) q) (fun _ => ?_)
    refine fw_iconst (pc := 79) (v := 1) X dX2_bond_79 (by decide) ?_
    refine fw_goto (pc := 80) (tgt := 104) X dX2_bond_80 (by decide) ?_
    refine fw_callV (pc := 104) (n := 1) (C := (RX2, TX2, 21)) (ci := 2) (q0 := 0) X hE [.int 1] (ct_X2_isFine 1) (by decide) gX2_bond_X2_isFine rfl ⟨rfl, rfl⟩ ⟨rfl, dsc_X2_isFine⟩ ⟨Nat.le_of_ble_eq_true rfl, Nat.le_of_ble_eq_true rfl⟩ rfl M_obj rfl rfl (Nat.le_of_ble_eq_true rfl) dX2_bond_104 ⟨Nat.le_of_ble_eq_true rfl, Nat.le_of_ble_eq_true rfl⟩ (fun _ q => q.elim) (fun r0 u0 r_32 => ?_)
    subst r_32
    show fw_W _ _ _ _ _ _ _ _ _ _ _ _ _ _ _ _ _ _ _ (.int (b2i (1 = 0)) :: _)
    refine fw_iv (y := 0) (if_neg (by decide)) ?_
    refine fw_if_ne (pc := 107) (tgt := 112) X dX2_bond_107 (by decide) (fun q => absurd (by decide) q) (fun _ => ?_)
    refine fw_iconst (pc := 110) (v := 0) X dX2_bond_110 (by decide) ?_
    exact fw_iret (pc := 111) X hr hlk (Nat.le_of_ble_eq_true rfl) (Nat.le_of_ble_eq_true rfl) dX2_bond_111 () (by simp [m_bnd_v, m_bnd_G, m_bnd_k, m_bnd_1, m_bnd_2, m_bnd_3, c_3]) (by simp [m_bnd_v, m_bnd_G, m_bnd_k, m_bnd_1, m_bnd_2, m_bnd_3, c_3])
