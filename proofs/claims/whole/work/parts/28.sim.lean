theorem sim_setSort {T n : Nat} {bf : Nat → Int32} {bg : Nat → Nat → Int32} {cf : Nat → Nat → Int32} {cg : Nat → Nat → Nat → Int32} {F : Nat → Int32} {G : Nat → Nat → Int32} (h : Rel T bf bg n cf cg F G) (hT : T ≤ 600) (v x y : Int32) : ((upd F 0 (m_setSort_k v x y))) 0 = b_ss_k v x y ∧ (b_ss_k v x y = 0 → Rel (T + 1) bf (va_up (va_up bg 0 (upd (bg 0) (ix v) x)) 1 (upd (bg 1) (ix v) y)) n cf cg (upd F 0 (m_setSort_k v x y)) (m_setSort_G G v x y)) ∧ (¬ b_ss_k v x y = 0 → Rel (T + 1) bf bg n cf cg (upd F 0 (m_setSort_k v x y)) (m_setSort_G G v x y)) := by
  have e : m_setSort_k v x y = b_ss_k v x y := rfl
  refine ⟨rfl, fun hk => ?_, fun hk => ?_⟩
  · obtain ⟨r1, r2, r3, r4, r5, r6, r7, r8, r9⟩ := id h
    rw [show m_setSort_G G v x y = va_up (va_up G 1 (upd (G 1) (ix v) x)) 2 (upd (G 2) (ix v) y) from if_pos hk]
    refine ⟨r1, r2, r3, r4, fun i hi => ?_, r6, fun k hk2 => RelC_eq (r7 k hk2) rfl rfl (fun j a b => ?_) (fun _ _ => ⟨rfl, rfl⟩) (fun _ _ => rfl), fun k a b => RelZ_eq (r8 k a b) (fun j a b _ => ?_) (fun _ _ => ⟨rfl, rfl⟩) (fun _ _ => rfl), r9⟩
    · show upd (bg 0) (ix v) x i = upd (G 1) (ix v) x i ∧ upd (bg 1) (ix v) y i = upd (G 2) (ix v) y i
      unfold upd
      rw [(r5 i hi).1, (r5 i hi).2]
      exact ⟨rfl, rfl⟩
    · rw [va_up_ne _ _ (by omega), va_up_ne _ _ (by omega)]
    · rw [va_up_ne _ _ (by omega), va_up_ne _ _ (by omega)]
  · rw [show m_setSort_G G v x y = G from if_neg hk]
    exact Rel_F0 h _
theorem sim_setRisk {T n : Nat} {bf : Nat → Int32} {bg : Nat → Nat → Int32} {cf : Nat → Nat → Int32} {cg : Nat → Nat → Nat → Int32} {F : Nat → Int32} {G : Nat → Nat → Int32} (h : Rel T bf bg n cf cg F G) (hT : T ≤ 600) (v x : Int32) : ((m_setRisk_F F v x)) 0 = b_sr_k v x ∧ (b_sr_k v x = 0 → m_setRisk_v F G n v x = b_cn (upd (upd bf 8 v) 9 x) bg n cf cg 15 ∧ Rel (T + 1) (upd (upd bf 8 v) 9 x) bg n cf cg (m_setRisk_F F v x) G) ∧ (¬ b_sr_k v x = 0 → Rel (T + 1) bf bg n cf cg (m_setRisk_F F v x) G) := by
  have e : m_setRisk_k v x = b_sr_k v x := rfl
  obtain ⟨r1, r2, r3, r4, r5, r6, r7, r8, r9⟩ := id h
  by_cases hk : b_sr_k v x = 0
  · rw [show m_setRisk_F F v x = upd (upd (upd F 0 0) 3 v) 4 x from if_pos hk]
    have hR : Rel (T + 1) (upd (upd bf 8 v) 9 x) bg n cf cg (upd (upd (upd F 0 0) 3 v) 4 x) G := by
      refine ⟨r1, r2, r3, ⟨r4.1, rfl, rfl⟩, r5, r6, fun k hk2 => RelC_eq (r7 k hk2) rfl rfl (fun _ _ _ => rfl) (fun _ _ => ⟨rfl, rfl⟩) (fun _ _ => rfl), r8, ?_⟩
      have hc : m_in v 0 200 = true ∧ m_in x 0 10 = true := by
        apply Decidable.byContradiction
        intro q
        rw [b_sr_k, if_neg q] at hk
        exact absurd hk (by decide)
      obtain ⟨g1, g2⟩ := in_ix (N := 11) (by decide) (by decide) hc.2
      exact ⟨ix x, by omega, g1⟩
    refine ⟨hk.symm, fun _ => ⟨?_, hR⟩, fun q => absurd hk q⟩
    rw [rl_cn hR (by omega), show min 15 n = n by omega]
    exact if_pos hk
  · rw [show m_setRisk_F F v x = upd F 0 1 from if_neg hk]
    refine ⟨?_, fun q => absurd q hk, fun _ => Rel_F0 h _⟩
    show (1 : Int32) = b_sr_k v x
    unfold b_sr_k at hk ⊢
    by_cases q : m_in v 0 200 = true ∧ m_in x 0 10 = true
    · exact absurd (if_pos q) hk
    · rw [if_neg q]
theorem sim_setGuarantee {T n : Nat} {bf : Nat → Int32} {bg : Nat → Nat → Int32} {cf : Nat → Nat → Int32} {cg : Nat → Nat → Nat → Int32} {F : Nat → Int32} {G : Nat → Nat → Int32} (h : Rel T bf bg n cf cg F G) (hT : T ≤ 600) (v x : Int32) : ((upd F 0 (m_setG_k G v x))) 0 = b_sg_k bg v x ∧ (b_sg_k bg v x = 0 → m_setG_v G v x = bg 2 (ix v) ∧ Rel (T + 1) bf (va_up bg 2 (upd (bg 2) (ix v) x)) n cf cg (upd F 0 (m_setG_k G v x)) (m_setG_G G v x)) ∧ (¬ b_sg_k bg v x = 0 → Rel (T + 1) bf bg n cf cg (upd F 0 (m_setG_k G v x)) (m_setG_G G v x)) := by
  obtain ⟨r1, r2, r3, r4, r5, r6, r7, r8, r9⟩ := id h
  have e : m_setG_k G v x = b_sg_k bg v x := by
    unfold m_setG_k b_sg_k
    by_cases q : m_in v 0 3 = true ∧ m_in x 0 1000000 = true
    · rw [if_pos q, if_pos q, (r6 (ix v) (in_ix (N := 4) (by decide) (by decide) q.1).2).2.1]
    · rw [if_neg q, if_neg q]
  refine ⟨e, fun hk => ?_, fun hk => ?_⟩
  · have hc : m_in v 0 3 = true := by
      apply Decidable.byContradiction
      intro q
      rw [b_sg_k, if_neg (fun z => q z.1)] at hk
      exact absurd hk (by decide)
    have hi := (in_ix (N := 4) (by decide) (by decide) hc).2
    rw [show m_setG_G G v x = va_up G 5 (upd (G 5) (ix v) x) from if_pos (e.trans hk)]
    refine ⟨(if_pos (e.trans hk)).trans (r6 _ hi).1.symm, r1, r2, r3, r4, r5, fun t ht => ?_, fun k hk2 => RelC_eq (r7 k hk2) rfl rfl (fun j a b => ?_) (fun _ _ => ⟨rfl, rfl⟩) (fun _ _ => rfl), fun k a b => RelZ_eq (r8 k a b) (fun j a b _ => ?_) (fun _ _ => ⟨rfl, rfl⟩) (fun _ _ => rfl), r9⟩
    · refine ⟨?_, (r6 t ht).2⟩
      show upd (bg 2) (ix v) x t = upd (G 5) (ix v) x t
      unfold upd
      rw [(r6 t ht).1]
    · rw [va_up_ne _ _ (by omega)]
    · rw [va_up_ne _ _ (by omega)]
  · rw [show m_setG_G G v x = G from if_neg (fun q => hk (e.symm.trans q))]
    exact Rel_F0 h _
theorem sim_announce {T n : Nat} {bf : Nat → Int32} {bg : Nat → Nat → Int32} {cf : Nat → Nat → Int32} {cg : Nat → Nat → Nat → Int32} {F : Nat → Int32} {G : Nat → Nat → Int32} (h : Rel T bf bg n cf cg F G) (hT : T ≤ 600) (v x : Int32) : ((m_ann_F F v x)) 0 = b_ann_k bf v x ∧ (b_ann_k bf v x = 0 → m_ann_v F v x = bf 6 ∧ Rel (T + 1) (upd bf 6 (bf 6 + 1)) bg (n + 1) (va_up cf n (c0F v x)) (va_up cg n c0G) (m_ann_F F v x) (m_ann_G F G n v x)) ∧ (¬ b_ann_k bf v x = 0 → Rel (T + 1) bf bg n cf cg (m_ann_F F v x) (m_ann_G F G n v x)) := by
  obtain ⟨r1, r2, r3, r4, r5, r6, r7, r8, r9⟩ := id h
  have e : m_ann_k F v x = b_ann_k bf v x := by
    unfold m_ann_k b_ann_k
    by_cases q : m_in v 0 3 = true ∧ m_in x 0 999 = true
    · rw [if_pos q, if_pos q, r2, r3, show (15 : Int32) = nI 15 from rfl]
      by_cases z : n = 15
      · rw [if_pos (by rw [z]), if_neg (by rw [z]; decide)]
      · rw [if_neg (by rw [nI_eq (by omega) (by omega)]; exact z), if_pos (by rw [nI_ltI (by omega) (by omega)]; omega)]
    · rw [if_neg q, if_neg q]
  by_cases hk : b_ann_k bf v x = 0
  · rw [show m_ann_F F v x = upd (upd F 0 0) 19 (F 19 + 1) from if_pos (e.trans hk), show m_ann_G F G n v x = va_up (va_up G 8 (upd (G 8) n v)) 9 (upd (G 9) n x) from if_pos (e.trans hk)]
    refine ⟨hk.symm, fun _ => ⟨?_, ?_⟩, fun q => absurd hk q⟩
    · refine (if_pos (e.trans hk)).trans ?_
      rw [r3, r2, nI_1, nI_pred]
    · have hc : m_in v 0 3 = true ∧ m_in x 0 999 = true := by
        apply Decidable.byContradiction
        intro q
        rw [b_ann_k, if_neg q] at hk
        exact absurd hk (by decide)
      have hn : n < 15 := by
        unfold b_ann_k at hk
        rw [if_pos hc] at hk
        apply Decidable.byContradiction
        intro q
        rw [if_neg (by rw [r2, show (15 : Int32) = nI 15 from rfl, nI_ltI (by omega) (by omega)]; exact q)] at hk
        exact absurd hk (by decide)
      obtain ⟨g1, g2⟩ := in_ix (N := 4) (by decide) (by decide) hc.1
      refine ⟨hn, ?_, ?_, r4, r5, r6, fun k hk2 => ?_, fun k a b => ?_, r9⟩
      · show bf 6 + 1 = nI (n + 1)
        rw [r2, nI_1]
      · show F 19 + 1 = nI (n + 1)
        rw [r3, nI_1]
      · by_cases z : k = n
        · subst z
          obtain ⟨⟨a1, a2, a3, a4, a5, a6, a7⟩, b1, b2⟩ := r8 k (Nat.le_refl _) hn
          refine RelC_mk ?_ ?_ ?_ ?_ ?_ ?_ (fun _ => 0) ?_ ?_ ?_ ?_
          · rw [va_up_self]
            show v = upd (G 8) k v k ∧ x = upd (G 9) k x k ∧ (0 : Int32) = G 10 k ∧ (0 : Int32) = G 11 k ∧ (0 : Int32) = G 12 k ∧ (0 : Int32) = G 13 k ∧ (0 : Int32) = G 14 k ∧ (0 : Int32) = G 15 k
            rw [pk_us, pk_us, a2, a3, a4, a5, a6, a7]
            exact ⟨rfl, rfl, rfl, rfl, rfl, rfl, rfl, rfl⟩
          · intro i hi
            rw [va_up_self]
            exact ⟨(b1 i hi).1.symm, (b1 i hi).2.symm⟩
          · intro q hq
            rw [va_up_self]
            exact (b2 q hq).symm
          · rw [va_up_self]
            exact ⟨ix v, g2, g1⟩
          · rw [va_up_self, va_up_self]
            exact ⟨0, by omega, rfl, fun q => absurd rfl q, fun _ _ _ => rfl⟩
          · rw [va_up_self]
            exact fun i hi => ⟨0, by omega, rfl⟩
          · rw [va_up_self]
            exact fun q hq => rfl
          · decide
          · rw [va_up_self]
            rfl
          · exact fun _ _ _ => rfl
        · refine RelC_eq (r7 k (by omega)) (va_up_ne _ _ z) (va_up_ne _ _ z) (fun j a b => ?_) (fun _ _ => ⟨rfl, rfl⟩) (fun _ _ => rfl)
          simp only [va_up, upd]
          by_cases y9 : j = 9
          · subst y9
            exact pk_un z
          · rw [if_neg y9]
            by_cases y8 : j = 8
            · subst y8
              exact pk_un z
            · rw [if_neg y8]
      · refine RelZ_eq (r8 k (by omega) b) (fun j a b y9 => ?_) (fun _ _ => ⟨rfl, rfl⟩) (fun _ _ => rfl)
        simp only [va_up, upd]
        rw [if_neg y9]
        by_cases y8 : j = 8
        · subst y8
          exact pk_un (by omega)
        · rw [if_neg y8]
  · rw [show m_ann_F F v x = upd F 0 (m_ann_k F v x) from if_neg (fun q => hk (e.symm.trans q)), show m_ann_G F G n v x = G from if_neg (fun q => hk (e.symm.trans q))]
    exact ⟨e, fun q => absurd q hk, fun _ => Rel_F0 h _⟩
theorem sim_amend {T n : Nat} {bf : Nat → Int32} {bg : Nat → Nat → Int32} {cf : Nat → Nat → Int32} {cg : Nat → Nat → Nat → Int32} {F : Nat → Int32} {G : Nat → Nat → Int32} (h : Rel T bf bg n cf cg F G) (hT : T ≤ 600) (u v x : Int32) : ((upd F 0 (m_amd_k F G u v x))) 0 = b_amd_k n cf cg u v x ∧ (b_amd_k n cf cg u v x = 0 → m_amd_v F G u v x = cf (ix u) 6 + 1 ∧ Rel (T + 1) bf bg n (va_up cf (ix u) (upd (cf (ix u)) 6 (cf (ix u) 6 + 1))) (va_up cg (ix u) (va_up (cg (ix u)) 2 (upd (cg (ix u) 2) (ix v) x))) (upd F 0 (m_amd_k F G u v x)) (m_amd_G F G u v x)) ∧ (¬ b_amd_k n cf cg u v x = 0 → Rel (T + 1) bf bg n cf cg (upd F 0 (m_amd_k F G u v x)) (m_amd_G F G u v x)) := by
  obtain ⟨r1, r2, r3, r4, r5, r6, r7, r8, r9⟩ := id h
  have e : m_amd_k F G u v x = b_amd_k n cf cg u v x := by
    unfold m_amd_k b_amd_k
    rw [r3]
    by_cases q : m_in u 0 (nI n - 1) = true
    · rw [if_pos q, if_pos q]
      by_cases q2 : m_in v 0 5 = true ∧ m_in x 0 100 = true
      · have C := r7 _ (in_con r1 q).2
        rw [if_pos q2, if_pos q2, C.1.2.2.1, (C.2.1 _ (in_ix (N := 6) (by decide) (by decide) q2.1).2).1]
      · rw [if_neg q2, if_neg q2]
    · rw [if_neg q, if_neg q]
  refine ⟨e, fun hk => ?_, fun hk => ?_⟩
  · obtain ⟨hc, hk1⟩ := rl_if0 hk (by decide)
    obtain ⟨⟨hv, hx⟩, hk2⟩ := rl_if0 hk1 (by decide)
    obtain ⟨⟨hst, -⟩, -⟩ := rl_if0 hk2 (by decide)
    have hu := (in_con r1 hc).2
    have hi := (in_ix (N := 6) (by decide) (by decide) hv).2
    obtain ⟨x1, x2⟩ := in_ix (N := 101) (by decide) (by decide) hx
    have C := r7 _ hu
    obtain ⟨g, h6, h7, h8, h9⟩ := RelC_g C
    obtain ⟨⟨a1, a2, a3, a4, a5, a6, a7, a8⟩, c1, c2, c3, ⟨w, b1, b2, b3, b4⟩, c5, -⟩ := id C
    rw [show m_amd_G F G u v x = va_up (va_up G 16 (upd (G 16) (6 * ix u + ix v) x)) 11 (upd (G 11) (ix u) (G 11 (ix u) + 1)) from if_pos (e.trans hk)]
    refine ⟨(if_pos (e.trans hk)).trans (by rw [a4]), Rel_one h (k0 := ix u) hu ⟨rfl, rfl, rfl⟩ r4 r5 r6 (fun k z => va_up_ne _ _ z) (fun k z => va_up_ne _ _ z) (fun k z j a b => ?_) (fun k z i hi2 => ?_) (fun _ _ _ _ => rfl) ?_⟩
    · by_cases y : j = 11
      · subst y
        exact pk_un z
      · rw [va_up_ne _ _ y, va_up_ne _ _ (by omega)]
    · show upd (G 16) (6 * ix u + ix v) x (6 * k + i) = G 16 (6 * k + i) ∧ G 17 (6 * k + i) = G 17 (6 * k + i)
      exact ⟨pk_un (by omega), rfl⟩
    · refine RelC_mk ?_ ?_ ?_ ?_ ?_ ?_ g ?_ h7 ?_ ?_
      · rw [va_up_self]
        refine ⟨a1, a2, a3, ?_, a5, a6, a7, a8⟩
        show cf (ix u) 6 + 1 = upd (G 11) (ix u) (G 11 (ix u) + 1) (ix u)
        rw [pk_us, a4]
      · intro i hi2
        rw [va_up_self]
        show upd (cg (ix u) 2) (ix v) x i = upd (G 16) (6 * ix u + ix v) x (6 * ix u + i) ∧ cg (ix u) 3 i = G 17 (6 * ix u + i)
        refine ⟨?_, (c1 i hi2).2⟩
        by_cases y : i = ix v
        · rw [y, pk_us, pk_us]
        · rw [pk_un y, pk_un (by omega), (c1 i hi2).1]
      · rw [va_up_self]
        exact c2
      · rw [va_up_self]
        exact c3
      · rw [va_up_self, va_up_self]
        exact ⟨w + 1, by omega, (show cf (ix u) 6 + 1 = nI (w + 1) by rw [b2, nI_1]), fun _ => by omega, fun q => absurd q (by omega)⟩
      · rw [va_up_self]
        intro i hi2
        show ∃ d, d ≤ 100 ∧ upd (cg (ix u) 2) (ix v) x i = nI d
        by_cases y : i = ix v
        · rw [y, pk_us]
          exact ⟨ix x, by omega, x1⟩
        · rw [pk_un y]
          exact c5 i hi2
      · rw [va_up_self]
        exact h6
      · rw [va_up_self]
        exact h8
      · rw [va_up_self]
        exact h9
  · rw [show m_amd_G F G u v x = G from if_neg (fun q => hk (e.symm.trans q))]
    exact Rel_F0 h _
theorem sim_arrive {T n : Nat} {bf : Nat → Int32} {bg : Nat → Nat → Int32} {cf : Nat → Nat → Int32} {cg : Nat → Nat → Nat → Int32} {F : Nat → Int32} {G : Nat → Nat → Int32} (h : Rel T bf bg n cf cg F G) (hT : T ≤ 600) (u x : Int32) : ((m_arr_F F G u x)) 0 = b_arr_k n cf cg u x ∧ (b_arr_k n cf cg u x = 0 → m_arr_v F G u x = b2i (b_must (upd bf 7 (bf 7 + 1)) bg (b_arr_f bf cf (ix u) x) cg (ix u) = true) ∧ Rel (T + 1) (upd bf 7 (bf 7 + 1)) bg n (b_arr_f bf cf (ix u) x) cg (m_arr_F F G u x) (m_arr_G F G u x)) ∧ (¬ b_arr_k n cf cg u x = 0 → Rel (T + 1) bf bg n cf cg (m_arr_F F G u x) (m_arr_G F G u x)) := by
  obtain ⟨r1, r2, r3, r4, r5, r6, r7, r8, r9⟩ := id h
  have e : m_arr_k F G u x = b_arr_k n cf cg u x := by
    unfold m_arr_k b_arr_k
    rw [r3]
    by_cases q : m_in u 0 (nI n - 1) = true
    · have C := r7 _ (in_con r1 q).2
      rw [if_pos q, if_pos q, C.1.2.2.1, rl_td C 6 (by omega)]
    · rw [if_neg q, if_neg q]
  by_cases hk : b_arr_k n cf cg u x = 0
  · obtain ⟨hc, hk1⟩ := rl_if0 hk (by decide)
    obtain ⟨hx, hk2⟩ := rl_if0 hk1 (by decide)
    obtain ⟨⟨hst, htd⟩, -⟩ := rl_if0 hk2 (by decide)
    have hu := (in_con r1 hc).2
    have C := r7 _ hu
    obtain ⟨g, h6, h7, h8, h9⟩ := RelC_g C
    obtain ⟨⟨a1, a2, a3, a4, a5, a6, a7, a8⟩, c1, c2, c3, ⟨w, b1, b2, b3, b4⟩, c5, -⟩ := id C
    have hw : 1 ≤ w := by
      rcases Nat.eq_zero_or_pos w with q | q
      · exact absurd (rl_td0 (b4 q) 6 (by omega)) htd
      · exact q
    have eF : m_arr_F F G u x = upd (upd F 0 0) 20 (F 20 + 1) := if_pos (e.trans hk)
    have eG : m_arr_G F G u x = va_up (va_up (va_up G 14 (upd (G 14) (ix u) (m_smp (F 20 + 1) (F 4)))) 10 (upd (G 10) (ix u) 1)) 15 (upd (G 15) (ix u) (if G 9 (ix u) = x then 0 else 1)) := if_pos (e.trans hk)
    have hC : RelC (T + 1) (b_arr_f bf cf (ix u) x) cg (m_arr_G F G u x) (ix u) := by
      rw [eG]
      unfold b_arr_f
      refine RelC_mk ?_ ?_ ?_ ?_ ?_ ?_ g ?_ h7 ?_ ?_
      · rw [va_up_self]
        refine ⟨a1, a2, ?_, a4, a5, a6, ?_, ?_⟩
        · show (1 : Int32) = upd (G 10) (ix u) 1 (ix u)
          rw [pk_us]
        · show b_smp (bf 7 + 1) (bf 9) = upd (G 14) (ix u) (m_smp (F 20 + 1) (F 4)) (ix u)
          obtain ⟨z, z1, z2⟩ := r9
          rw [pk_us, r4.1, r4.2.2, z2, rl_smp z1]
        · show (if x = cf (ix u) 1 then (0 : Int32) else 1) = upd (G 15) (ix u) (if G 9 (ix u) = x then 0 else 1) (ix u)
          rw [pk_us, a2]
          by_cases y : G 9 (ix u) = x
          · rw [if_pos y, if_pos y.symm]
          · rw [if_neg y, if_neg (fun q => y q.symm)]
      · exact c1
      · exact c2
      · rw [va_up_self]
        exact c3
      · rw [va_up_self]
        exact ⟨w, by omega, b2, fun _ => hw, b4⟩
      · exact c5
      · exact h6
      · rw [va_up_self]
        exact h8
      · exact fun _ => h9 (by rw [hst]; decide)
    rw [eF]
    refine ⟨hk.symm, fun _ => ⟨(if_pos (e.trans hk)).trans ?_, Rel_one h (k0 := ix u) hu ⟨rfl, rfl, rfl⟩ ⟨?_, r4.2⟩ ?_ ?_ (fun k z => va_up_ne _ _ z) (fun k z => rfl) (fun k z j a b => ?_) ?_ ?_ hC⟩, fun q => absurd hk q⟩
    · rw [eF]
      rw [rl_must (bf := upd bf 7 (bf 7 + 1)) (bg := bg) (F := upd (upd F 0 0) 20 (F 20 + 1)) hC (by omega) (fun i hi => by rw [eG]; exact (r5 i hi).2) r4.2.1]
    · show bf 7 + 1 = F 20 + 1
      rw [r4.1]
    · rw [eG]
      exact r5
    · rw [eG]
      exact r6
    · rw [eG]
      by_cases y : j = 15
      · subst y
        exact pk_un z
      · rw [va_up_ne _ _ y]
        by_cases y : j = 10
        · subst y
          exact pk_un z
        · rw [va_up_ne _ _ y]
          by_cases y : j = 14
          · subst y
            exact pk_un z
          · rw [va_up_ne _ _ y]
    · rw [eG]
      exact fun _ _ _ _ => ⟨rfl, rfl⟩
    · rw [eG]
      exact fun _ _ _ _ => rfl
  · rw [show m_arr_F F G u x = upd F 0 (m_arr_k F G u x) from if_neg (fun q => hk (e.symm.trans q)), show m_arr_G F G u x = G from if_neg (fun q => hk (e.symm.trans q))]
    exact ⟨e, fun q => absurd q hk, fun _ => Rel_F0 h _⟩
theorem sim_risk {T n : Nat} {bf : Nat → Int32} {bg : Nat → Nat → Int32} {cf : Nat → Nat → Int32} {cg : Nat → Nat → Nat → Int32} {F : Nat → Int32} {G : Nat → Nat → Int32} (h : Rel T bf bg n cf cg F G) (hT : T ≤ 600) (u : Int32) : ((upd F 0 (m_rsk_k F G u))) 0 = b_rsk_k n cf u ∧ (b_rsk_k n cf u = 0 → m_rsk_v F G u = b_risk bg cf cg (ix u) ∧ Rel (T + 1) bf bg n cf cg (upd F 0 (m_rsk_k F G u)) G) ∧ (¬ b_rsk_k n cf u = 0 → Rel (T + 1) bf bg n cf cg (upd F 0 (m_rsk_k F G u)) G) := by
  obtain ⟨r1, r2, r3, r4, r5, r6, r7, r8, r9⟩ := id h
  have e : m_rsk_k F G u = b_rsk_k n cf u := by
    unfold m_rsk_k b_rsk_k
    rw [r3]
    by_cases q : m_in u 0 (nI n - 1) = true
    · rw [if_pos q, if_pos q, (r7 _ (in_con r1 q).2).1.2.2.1]
    · rw [if_neg q, if_neg q]
  refine ⟨e, fun hk => ⟨(if_pos (e.trans hk)).trans ?_, Rel_F0 h _⟩, fun _ => Rel_F0 h _⟩
  have hc : m_in u 0 (nI n - 1) = true := by
    apply Decidable.byContradiction
    intro q
    rw [b_rsk_k, if_neg q] at hk
    exact absurd hk (by decide)
  have hst : ¬ cf (ix u) 5 = 0 := fun q => by
    rw [b_rsk_k, if_pos hc, if_pos q] at hk
    exact absurd hk (by decide)
  exact rl_risk (r7 _ (in_con r1 hc).2) (by omega) (fun i hi => (r5 i hi).2) hst
theorem sim_mustSearch {T n : Nat} {bf : Nat → Int32} {bg : Nat → Nat → Int32} {cf : Nat → Nat → Int32} {cg : Nat → Nat → Nat → Int32} {F : Nat → Int32} {G : Nat → Nat → Int32} (h : Rel T bf bg n cf cg F G) (hT : T ≤ 600) (u : Int32) : ((upd F 0 (m_c_k F u))) 0 = b_c_k n u ∧ (b_c_k n u = 0 → m_mus_v F G u = b2i (b_must bf bg cf cg (ix u) = true) ∧ Rel (T + 1) bf bg n cf cg (upd F 0 (m_c_k F u)) G) ∧ (¬ b_c_k n u = 0 → Rel (T + 1) bf bg n cf cg (upd F 0 (m_c_k F u)) G) := by
  obtain ⟨r1, r2, r3, r4, r5, r6, r7, r8, r9⟩ := id h
  have e : m_c_k F u = b_c_k n u := by
    unfold m_c_k b_c_k
    rw [r3]
  refine ⟨e, fun hk => ⟨(if_pos (e.trans hk)).trans ?_, Rel_F0 h _⟩, fun _ => Rel_F0 h _⟩
  have hc : m_in u 0 (nI n - 1) = true := by
    apply Decidable.byContradiction
    intro q
    rw [b_c_k, if_neg q] at hk
    exact absurd hk (by decide)
  rw [rl_must (F := upd F 0 0) (bf := bf) (bg := bg) (cf := cf) (cg := cg) (r7 _ (in_con r1 hc).2) (by omega) (fun i hi => (r5 i hi).2) r4.2.1]
theorem sim_search {T n : Nat} {bf : Nat → Int32} {bg : Nat → Nat → Int32} {cf : Nat → Nat → Int32} {cg : Nat → Nat → Nat → Int32} {F : Nat → Int32} {G : Nat → Nat → Int32} (h : Rel T bf bg n cf cg F G) (hT : T ≤ 600) (u v x : Int32) : ((upd F 0 (m_sch_k F G u v x))) 0 = b_sch_k n cf u v x ∧ (b_sch_k n cf u v x = 0 → m_sch_v F G u v x = b_ns_cf cf cg (ix u) (ix v) v x (ix u) 7 ∧ Rel (T + 1) bf bg n (b_ns_cf cf cg (ix u) (ix v) v x) (b_ns_cg cg (ix u) (ix v) x) (upd F 0 (m_sch_k F G u v x)) (m_sch_G F G u v x)) ∧ (¬ b_sch_k n cf u v x = 0 → Rel (T + 1) bf bg n cf cg (upd F 0 (m_sch_k F G u v x)) (m_sch_G F G u v x)) := by
  obtain ⟨r1, r2, r3, r4, r5, r6, r7, r8, r9⟩ := id h
  have e : m_sch_k F G u v x = b_sch_k n cf u v x := by
    unfold m_sch_k b_sch_k
    rw [r3]
    by_cases q : m_in u 0 (nI n - 1) = true
    · rw [if_pos q, if_pos q, (r7 _ (in_con r1 q).2).1.2.2.1]
    · rw [if_neg q, if_neg q]
  refine ⟨e, fun hk => ?_, fun hk => ?_⟩
  · obtain ⟨hc, hk1⟩ := rl_if0 hk (by decide)
    obtain ⟨⟨hv, hx⟩, hk2⟩ := rl_if0 hk1 (by decide)
    obtain ⟨hst, -⟩ := rl_if0 hk2 (by decide)
    have hu := (in_con r1 hc).2
    have hi := (in_ix (N := 6) (by decide) (by decide) hv).2
    obtain ⟨x1, x2⟩ := in_ix (N := 101) (by decide) (by decide) hx
    have C := r7 _ hu
    obtain ⟨g, h6, h7, h8, h9⟩ := RelC_g C
    obtain ⟨⟨a1, a2, a3, a4, a5, a6, a7, a8⟩, c1, c2, c3, ⟨w, b1, b2, b3, b4⟩, c5, -⟩ := id C
    have hw : 1 ≤ w := b3 (by rw [hst]; decide)
    have e16 : G 16 (6 * ix u + ix v) = cg (ix u) 2 (ix v) := (c1 _ hi).1.symm
    rw [show m_sch_G F G u v x = va_up (va_up (va_up G 13 (upd (G 13) (ix u) (G 13 (ix u) ||| 1 <<< (v &&& 31)))) 12 (upd (G 12) (ix u) (m_sch_p G u v x))) 16 (upd (G 16) (6 * ix u + ix v) x) from if_pos (e.trans hk), show m_sch_v F G u v x = m_sch_p G u v x from if_pos (e.trans hk)]
    have hp : m_sch_p G u v x = b_ns_cf cf cg (ix u) (ix v) v x (ix u) 7 := by
      unfold m_sch_p b_ns_cf
      rw [e16]
      by_cases y : cg (ix u) 2 (ix v) = x
      · rw [if_pos y, if_pos y, va_up_self, Int32.add_zero]
        exact a5.symm
      · rw [if_neg y, if_neg y, va_up_self, ← a5]
        rfl
    have h13 : b_ns_cf cf cg (ix u) (ix v) v x (ix u) 8 = cf (ix u) 8 ||| 1 <<< (v &&& 31) := by
      unfold b_ns_cf
      by_cases y : cg (ix u) 2 (ix v) = x
      · rw [if_pos y, va_up_self]
        rfl
      · rw [if_neg y, va_up_self]
        rfl
    have hne : ∀ k, k ≠ ix u → b_ns_cf cf cg (ix u) (ix v) v x k = cf k := fun k z => by
      unfold b_ns_cf
      by_cases y : cg (ix u) 2 (ix v) = x
      · rw [if_pos y, va_up_ne _ _ z]
      · rw [if_neg y, va_up_ne _ _ z]
    have hse : ∀ j, j ≠ 7 → j ≠ 8 → b_ns_cf cf cg (ix u) (ix v) v x (ix u) j = cf (ix u) j := fun j y7 y8 => by
      unfold b_ns_cf
      by_cases y : cg (ix u) 2 (ix v) = x
      · rw [if_pos y, va_up_self, pk_un y8]
      · rw [if_neg y, va_up_self, pk_un y8, pk_un y7]
    have gne : ∀ k, k ≠ ix u → b_ns_cg cg (ix u) (ix v) x k = cg k := fun k z => by
      unfold b_ns_cg
      by_cases y : cg (ix u) 2 (ix v) = x
      · rw [if_pos y]
      · rw [if_neg y, va_up_ne _ _ z]
    have gse : ∀ j, j ≠ 2 → b_ns_cg cg (ix u) (ix v) x (ix u) j = cg (ix u) j := fun j y2 => by
      unfold b_ns_cg
      by_cases y : cg (ix u) 2 (ix v) = x
      · rw [if_pos y]
      · rw [if_neg y, va_up_self, va_up_ne _ _ y2]
    have g2 : ∀ i, b_ns_cg cg (ix u) (ix v) x (ix u) 2 i = upd (cg (ix u) 2) (ix v) x i := fun i => by
      unfold b_ns_cg
      by_cases y : cg (ix u) 2 (ix v) = x
      · rw [if_pos y]
        by_cases z : i = ix v
        · rw [z, pk_us, y]
        · rw [pk_un z]
      · rw [if_neg y, va_up_self, va_up_self]
    refine ⟨hp, Rel_one h (k0 := ix u) hu ⟨rfl, rfl, rfl⟩ r4 r5 r6 hne gne (fun k z j a b => ?_) (fun k z i hi2 => ?_) (fun _ _ _ _ => rfl) ?_⟩
    · rw [va_up_ne _ _ (by omega)]
      by_cases y : j = 12
      · subst y
        exact pk_un z
      · rw [va_up_ne _ _ y]
        by_cases y : j = 13
        · subst y
          exact pk_un z
        · rw [va_up_ne _ _ y]
    · show upd (G 16) (6 * ix u + ix v) x (6 * k + i) = G 16 (6 * k + i) ∧ G 17 (6 * k + i) = G 17 (6 * k + i)
      exact ⟨pk_un (by omega), rfl⟩
    · refine RelC_mk ?_ ?_ ?_ ?_ ?_ ?_ g ?_ h7 ?_ ?_
      · rw [hse 0 (by decide) (by decide), hse 1 (by decide) (by decide), hse 5 (by decide) (by decide), hse 6 (by decide) (by decide), hse 11 (by decide) (by decide), hse 10 (by decide) (by decide), h13, ← hp]
        refine ⟨a1, a2, a3, a4, ?_, ?_, a7, a8⟩
        · show m_sch_p G u v x = upd (G 12) (ix u) (m_sch_p G u v x) (ix u)
          rw [pk_us]
        · show cf (ix u) 8 ||| 1 <<< (v &&& 31) = upd (G 13) (ix u) (G 13 (ix u) ||| 1 <<< (v &&& 31)) (ix u)
          rw [pk_us, a6]
      · intro i hi2
        rw [g2, gse 3 (by decide)]
        show upd (cg (ix u) 2) (ix v) x i = upd (G 16) (6 * ix u + ix v) x (6 * ix u + i) ∧ cg (ix u) 3 i = G 17 (6 * ix u + i)
        refine ⟨?_, (c1 i hi2).2⟩
        by_cases y : i = ix v
        · rw [y, pk_us, pk_us]
        · rw [pk_un y, pk_un (by omega), (c1 i hi2).1]
      · rw [gse 4 (by decide)]
        exact c2
      · rw [hse 0 (by decide) (by decide)]
        exact c3
      · rw [hse 5 (by decide) (by decide), hse 6 (by decide) (by decide)]
        exact ⟨w, by omega, b2, fun _ => hw, fun q => absurd q (by omega)⟩
      · intro i hi2
        rw [g2]
        by_cases y : i = ix v
        · rw [y, pk_us]
          exact ⟨ix x, by omega, x1⟩
        · rw [pk_un y]
          exact c5 i hi2
      · rw [gse 4 (by decide)]
        exact h6
      · rw [hse 9 (by decide) (by decide)]
        exact h8
      · rw [hse 5 (by decide) (by decide)]
        exact h9
  · rw [show m_sch_G F G u v x = G from if_neg (fun q => hk (e.symm.trans q))]
    exact Rel_F0 h _
theorem sim_bond {T n : Nat} {bf : Nat → Int32} {bg : Nat → Nat → Int32} {cf : Nat → Nat → Int32} {cg : Nat → Nat → Nat → Int32} {F : Nat → Int32} {G : Nat → Nat → Int32} (h : Rel T bf bg n cf cg F G) (hT : T ≤ 600) (u x : Int32) : ((upd F 0 (m_bnd_k F G u x))) 0 = b_bnd_k bf bg n cf cg u x ∧ (b_bnd_k bf bg n cf cg u x = 0 → m_bnd_v F G u x = b_dn bg cg (ix u) 6 ∧ Rel (T + 1) bf (va_up bg 3 (upd (bg 3) (ix (cf (ix u) 0)) (bg 3 (ix (cf (ix u) 0)) + b_dn bg cg (ix u) 6))) n (b_en_cf cf (b_td (b_en_cg (va_up bg 3 (upd (bg 3) (ix (cf (ix u) 0)) (bg 3 (ix (cf (ix u) 0)) + b_dn bg cg (ix u) 6))) cg (ix u) (ix x)) (ix u) 6) (ix u)) (b_en_cg (va_up bg 3 (upd (bg 3) (ix (cf (ix u) 0)) (bg 3 (ix (cf (ix u) 0)) + b_dn bg cg (ix u) 6))) cg (ix u) (ix x)) (upd F 0 (m_bnd_k F G u x)) (m_bnd_G F G u x)) ∧ (¬ b_bnd_k bf bg n cf cg u x = 0 → Rel (T + 1) bf bg n cf cg (upd F 0 (m_bnd_k F G u x)) (m_bnd_G F G u x)) := by
  obtain ⟨r1, r2, r3, r4, r5, r6, r7, r8, r9⟩ := id h
  have e : m_bnd_k F G u x = b_bnd_k bf bg n cf cg u x := by
    unfold m_bnd_k b_bnd_k
    rw [r3]
    by_cases q : m_in u 0 (nI n - 1) = true
    · have C := r7 _ (in_con r1 q).2
      obtain ⟨t, t1, t2⟩ := C.2.2.2.1
      have hx8 : ix (cf (ix u) 0) < 4 := by rw [t2, nI_ix (by omega)]; exact t1
      rw [if_pos q, if_pos q, ← C.1.2.2.1, rl_must (F := F) C (by omega) (fun i hi => (r5 i hi).2) r4.2.1, rl_dn C (fun i hi => (r5 i hi).1) 6 (by omega), ← C.1.1, (r6 _ hx8).1, (r6 _ hx8).2.1]
      by_cases q2 : m_in x 0 2 = true
      · rw [if_pos q2, if_pos q2]
        exact rl_ifc (and_congr Iff.rfl (and_congr Iff.rfl Int32.not_lt))
      · rw [if_neg q2, if_neg q2]
    · rw [if_neg q, if_neg q]
  refine ⟨e, fun hk => ?_, fun hk => ?_⟩
  · obtain ⟨hc, hk1⟩ := rl_if0 hk (by decide)
    obtain ⟨hx, hk2⟩ := rl_if0 hk1 (by decide)
    obtain ⟨⟨hst, -, -⟩, -⟩ := rl_if0 hk2 (by decide)
    have hu := (in_con r1 hc).2
    have hr := (in_ix (N := 3) (by decide) (by decide) hx).2
    have C := r7 _ hu
    obtain ⟨g, h6, h7, h8, h9⟩ := RelC_g C
    obtain ⟨⟨a1, a2, a3, a4, a5, a6, a7, a8⟩, c1, c2, c3, ⟨w, b1, b2, b3, b4⟩, c5, -⟩ := id C
    have hw : 1 ≤ w := b3 (by rw [hst]; decide)
    have ow : m_ow (m_bnd_2 (m_bnd_1 G u) u x) (ix u) 6 = b_dn bg cg (ix u) 6 := (rl_ow rfl rfl 6).trans (rl_dn C (fun i hi => (r5 i hi).1) 6 (by omega))
    have eG : m_bnd_G F G u x = m_bnd_3 G (m_bnd_2 (m_bnd_1 G u) u x) u := if_pos (e.trans hk)
    have eG6 : m_bnd_3 G (m_bnd_2 (m_bnd_1 G u) u x) u 6 = upd (G 6) (ix (G 8 (ix u))) (G 6 (ix (G 8 (ix u))) + b_dn bg cg (ix u) 6) := by
      rw [← ow]
      rfl
    have e10 : m_bnd_3 G (m_bnd_2 (m_bnd_1 G u) u x) u 10 = upd (G 10) (ix u) (if m_em G (ix u) 6 = 0 then 3 else 2) := rfl
    have e17 : m_bnd_3 G (m_bnd_2 (m_bnd_1 G u) u x) u 17 = m_tk (m_bnd_1 G u) (ix u) 6 := rfl
    have e18 : m_bnd_3 G (m_bnd_2 (m_bnd_1 G u) u x) u 18 = m_st (m_bnd_1 G u) (ix u) (ix x) 6 := rfl
    have d0 : ∀ i, i < 6 → cg (ix u) 2 i = nI (ix (cg (ix u) 2 i)) ∧ ix (cg (ix u) 2 i) ≤ 100 := fun i hi => by
      obtain ⟨d, d1, d2⟩ := c5 i hi
      rw [d2, nI_ix (by omega)]
      exact ⟨rfl, d1⟩
    have td : b_td cg (ix u) 6 = nI (rl_S (fun i => ix (cg (ix u) 2 i)) 6) := rl_tdS (fun i hi => (d0 i hi).1) 6 (by omega)
    have hS : rl_S (fun i => ix (cg (ix u) 2 i)) 6 ≤ 600 := by
      have f0 := (d0 0 (by omega)).2
      have f1 := (d0 1 (by omega)).2
      have f2 := (d0 2 (by omega)).2
      have f3 := (d0 3 (by omega)).2
      have f4 := (d0 4 (by omega)).2
      have f5 := (d0 5 (by omega)).2
      simp only [rl_S]
      omega
    have S3 : rl_S (fun q => if q % 3 = ix x then ix (cg (ix u) 2 (q / 3)) else 0) 18 = rl_S (fun i => ix (cg (ix u) 2 i)) 6 := rl_S3 (d := fun i => ix (cg (ix u) 2 i)) hr
    have tde : b_td (b_en_cg (va_up bg 3 (upd (bg 3) (ix (cf (ix u) 0)) (bg 3 (ix (cf (ix u) 0)) + b_dn bg cg (ix u) 6))) cg (ix u) (ix x)) (ix u) 6 = b_td cg (ix u) 6 := rl_tde (by unfold b_en_cg; rw [va_up_self]; rfl) 6
    rw [tde, show m_bnd_v F G u x = m_ow (m_bnd_G F G u x) (ix u) 6 from if_pos (e.trans hk), eG]
    have hem : m_em G (ix u) 6 = b_td cg (ix u) 6 := rl_td C 6 (by omega)
    have hne : ∀ k, k ≠ ix u → b_en_cf cf (b_td cg (ix u) 6) (ix u) k = cf k := fun k z => by
      unfold b_en_cf
      by_cases y : b_td cg (ix u) 6 = 0
      · rw [if_pos y, va_up_ne _ _ z]
      · rw [if_neg y, va_up_ne _ _ z]
    have hse : ∀ j, j ≠ 5 → j ≠ 9 → b_en_cf cf (b_td cg (ix u) 6) (ix u) (ix u) j = cf (ix u) j := fun j y5 y9 => by
      unfold b_en_cf
      by_cases y : b_td cg (ix u) 6 = 0
      · rw [if_pos y, va_up_self, pk_un y5, pk_un y9]
      · rw [if_neg y, va_up_self, pk_un y5, pk_un y9]
    have h59 : b_en_cf cf (b_td cg (ix u) 6) (ix u) (ix u) 9 = b_td cg (ix u) 6 ∧ b_en_cf cf (b_td cg (ix u) 6) (ix u) (ix u) 5 = (if b_td cg (ix u) 6 = 0 then 3 else 2) := by
      unfold b_en_cf
      by_cases y : b_td cg (ix u) 6 = 0
      · rw [if_pos y, if_pos y, va_up_self]
        exact ⟨rfl, rfl⟩
      · rw [if_neg y, if_neg y, va_up_self]
        exact ⟨rfl, rfl⟩
    refine ⟨(rl_ow rfl rfl 6).trans (rl_dn C (fun i hi => (r5 i hi).1) 6 (by omega)), Rel_one h (k0 := ix u) hu ⟨rfl, rfl, rfl⟩ r4 r5 (fun t ht => ?_) hne (fun k z => va_up_ne _ _ z) (fun k z j a b => ?_) (fun k z i hi2 => ?_) (fun k z q hq => ?_) ?_⟩
    · refine ⟨(r6 t ht).1, ?_, (r6 t ht).2.2⟩
      rw [eG6, va_up_self, a1]
      unfold upd
      rw [(r6 t ht).2.1]
      by_cases y : t = ix (G 8 (ix u))
      · rw [if_pos y, if_pos y, ← y, (r6 t ht).2.1]
      · rw [if_neg y, if_neg y]
    · by_cases y : j = 10
      · subst y
        rw [e10]
        exact pk_un z
      · unfold m_bnd_3 m_bnd_2 m_bnd_1
        rw [va_up_ne _ _ (by omega), va_up_ne _ _ (by omega), va_up_ne _ _ (by omega), va_up_ne _ _ y]
    · rw [e17, rl_tk_out (by omega)]
      exact ⟨rfl, rfl⟩
    · rw [e18, rl_st_out (fun i hi2 => by omega)]
      rfl
    · refine RelC_mk ?_ ?_ ?_ ?_ ?_ ?_ (fun q => if q % 3 = ix x then ix (cg (ix u) 2 (q / 3)) else 0) ?_ ?_ ?_ ?_
      · rw [hse 0 (by decide) (by decide), hse 1 (by decide) (by decide), hse 6 (by decide) (by decide), hse 7 (by decide) (by decide), hse 8 (by decide) (by decide), hse 11 (by decide) (by decide), hse 10 (by decide) (by decide), h59.2]
        refine ⟨a1, a2, ?_, a4, a5, a6, a7, a8⟩
        rw [e10, pk_us, hem]
      · intro i hi2
        unfold b_en_cg
        rw [va_up_self]
        refine ⟨(c1 i hi2).1, ?_⟩
        show b_ed (va_up bg 3 (upd (bg 3) (ix (cf (ix u) 0)) (bg 3 (ix (cf (ix u) 0)) + b_dn bg cg (ix u) 6))) cg (ix u) 6 i = _
        rw [e17, rl_tk_in hi2, rl_ed_in hi2]
        exact (r5 i hi2).1
      · intro q hq
        unfold b_en_cg
        rw [va_up_self]
        show b_es cg (ix u) (ix x) 6 q = _
        rw [e18]
        by_cases y : q % 3 = ix x
        · rw [show q = q / 3 * 3 + ix x by omega, rl_es_in (by omega) hr, show 18 * ix u + (q / 3 * 3 + ix x) = 3 * (6 * ix u + q / 3) + ix x by omega, rl_st_in (by omega) hr]
          exact (c1 _ (by omega)).1
        · rw [rl_es_out (fun i hi2 => by omega), rl_st_out (fun i hi2 => by omega)]
          exact c2 q hq
      · rw [hse 0 (by decide) (by decide)]
        exact c3
      · rw [hse 6 (by decide) (by decide)]
        exact ⟨w, by omega, b2, fun _ => hw, fun q => absurd q (by omega)⟩
      · unfold b_en_cg
        rw [va_up_self]
        exact c5
      · intro q hq
        unfold b_en_cg
        rw [va_up_self]
        show b_es cg (ix u) (ix x) 6 q = nI (if q % 3 = ix x then ix (cg (ix u) 2 (q / 3)) else 0)
        by_cases y : q % 3 = ix x
        · rw [if_pos y]
          have hq2 := (d0 (q / 3) (by omega)).1
          rw [← hq2, show q = q / 3 * 3 + ix x by omega, rl_es_in (by omega) hr, show (q / 3 * 3 + ix x) / 3 = q / 3 by omega]
        · rw [if_neg y, rl_es_out (fun i hi2 => by omega), h6 q hq, h9 (by rw [hst]; decide) q hq]
      · rw [S3]
        exact hS
      · rw [S3, h59.1, td]
      · intro y q hq
        rw [h59.2] at y
        have y0 : b_td cg (ix u) 6 = 0 := by
          apply Decidable.byContradiction
          intro z
          exact y (if_neg z)
        rw [td] at y0
        refine rl_S_z (g := fun q => if q % 3 = ix x then ix (cg (ix u) 2 (q / 3)) else 0) (n := 18) ?_ q hq
        rw [S3]
        apply Decidable.byContradiction
        intro z
        exact nI_ne0 (by omega) (by omega) y0
  · rw [show m_bnd_G F G u x = G from if_neg (fun q => hk (e.symm.trans q))]
    exact Rel_F0 h _
theorem sim_move {T n : Nat} {bf : Nat → Int32} {bg : Nat → Nat → Int32} {cf : Nat → Nat → Int32} {cg : Nat → Nat → Nat → Int32} {F : Nat → Int32} {G : Nat → Nat → Int32} (h : Rel T bf bg n cf cg F G) (hT : T ≤ 600) (u v x y z : Int32) : ((upd F 0 (m_mov_k F G u v x y z))) 0 = b_mov_k n cg u v x y z ∧ (b_mov_k n cg u v x y z = 0 → m_mov_v F G u v x y z = b_mv_g cg (ix u) (ix v) (ix x) (ix y) z (ix v * 3 + ix y) ∧ Rel (T + 1) bf bg n cf (va_up cg (ix u) (va_up (cg (ix u)) 4 (b_mv_g cg (ix u) (ix v) (ix x) (ix y) z))) (upd F 0 (m_mov_k F G u v x y z)) (m_mov_G F G u v x y z)) ∧ (¬ b_mov_k n cg u v x y z = 0 → Rel (T + 1) bf bg n cf cg (upd F 0 (m_mov_k F G u v x y z)) (m_mov_G F G u v x y z)) := by
  obtain ⟨r1, r2, r3, r4, r5, r6, r7, r8, r9⟩ := id h
  have e : m_mov_k F G u v x y z = b_mov_k n cg u v x y z := by
    unfold m_mov_k b_mov_k
    rw [r3]
    by_cases q : m_in u 0 (nI n - 1) = true
    · rw [if_pos q, if_pos q]
      by_cases q2 : m_gd v x z = true ∧ m_in y 0 2 = true ∧ ¬ x = y
      · obtain ⟨z1, z2, -⟩ := rl_gd q2.1
        rw [if_pos q2, if_pos q2, (r7 _ (in_con r1 q).2).2.2.1 (ix v * 3 + ix x) (by omega), show 18 * ix u + (ix v * 3 + ix x) = 3 * (6 * ix u + ix v) + ix x by omega]
      · rw [if_neg q2, if_neg q2]
    · rw [if_neg q, if_neg q]
  refine ⟨e, fun hk => ?_, fun hk => ?_⟩
  · obtain ⟨hc, hk1⟩ := rl_if0 hk (by decide)
    obtain ⟨⟨hg, hy, hxy⟩, hk2⟩ := rl_if0 hk1 (by decide)
    obtain ⟨hle, -⟩ := rl_if0 hk2 (by decide)
    obtain ⟨hi, hj, hxe, jz, z1, z2, z3⟩ := rl_gd hg
    have hu := (in_con r1 hc).2
    obtain ⟨y1, y2⟩ := in_ix (N := 3) (by decide) (by decide) hy
    have hne : ix x ≠ ix y := fun q => hxy (by rw [hxe, y1, q])
    have C := r7 _ hu
    obtain ⟨g, h6, h7, h8, h9⟩ := RelC_g C
    obtain ⟨⟨a1, a2, a3, a4, a5, a6, a7, a8⟩, c1, c2, c3, ⟨w, b1, b2, b3, b4⟩, c5, -⟩ := id C
    have q1 : ix v * 3 + ix x < 18 := by omega
    have q2 : ix v * 3 + ix y < 18 := by omega
    have gle := rl_S_le (g := g) q1
    have hjz : jz ≤ g (ix v * 3 + ix x) := by
      rw [h6 _ q1, z3, nI_leI (by omega) (by omega)] at hle
      exact hle
    have e18 : ∀ q, q < 18 → b_mv_g cg (ix u) (ix v) (ix x) (ix y) z q = m_mov_2 G u v x y z (18 * ix u + q) := by
      have p1 : 3 * (6 * ix u + ix v) + ix x = 18 * ix u + (ix v * 3 + ix x) := by omega
      have p2 : 3 * (6 * ix u + ix v) + ix y = 18 * ix u + (ix v * 3 + ix y) := by omega
      unfold b_mv_g m_mov_2 m_mov_1
      rw [p1, p2, ← c2 _ q1]
      have s1 := rl_u18 (v := cg (ix u) 4 (ix v * 3 + ix x) - z) q1 c2
      rw [← s1 _ q2]
      exact rl_u18 q2 s1
    have hg1 : ∀ q, q < 18 → upd (cg (ix u) 4) (ix v * 3 + ix x) (cg (ix u) 4 (ix v * 3 + ix x) - z) q = nI (if q = ix v * 3 + ix x then g (ix v * 3 + ix x) - jz else g q) := rl_uI (by rw [h6 _ q1, z3, pk_sub hjz]) h6
    have hg2 : ∀ q, q < 18 → b_mv_g cg (ix u) (ix v) (ix x) (ix y) z q = nI (if q = ix v * 3 + ix y then g (ix v * 3 + ix y) + jz else (if q = ix v * 3 + ix x then g (ix v * 3 + ix x) - jz else g q)) := rl_uI (by rw [hg1 _ q2, if_neg (by omega), z3, nI_add]) hg1
    have S1 := rl_S_up (g := g) (v := g (ix v * 3 + ix x) - jz) q1
    have S2 := rl_S_up (g := fun q => if q = ix v * 3 + ix x then g (ix v * 3 + ix x) - jz else g q) (v := g (ix v * 3 + ix y) + jz) q2
    rw [show (if ix v * 3 + ix y = ix v * 3 + ix x then g (ix v * 3 + ix x) - jz else g (ix v * 3 + ix y)) = g (ix v * 3 + ix y) from if_neg (by omega)] at S2
    have hst : cf (ix u) 5 = 2 := by
      apply Decidable.byContradiction
      intro q
      have := h9 q _ q1
      omega
    rw [show m_mov_G F G u v x y z = va_up G 18 (m_mov_2 G u v x y z) from if_pos (e.trans hk)]
    refine ⟨(if_pos (e.trans hk)).trans (by rw [e18 _ q2, show 18 * ix u + (ix v * 3 + ix y) = 3 * (6 * ix u + ix v) + ix y by omega]), Rel_one h (k0 := ix u) hu ⟨rfl, rfl, rfl⟩ r4 r5 r6 (fun k z => rfl) (fun k z => va_up_ne _ _ z) (fun k z j a b => by rw [va_up_ne _ _ (by omega)]) (fun k z i hi2 => ⟨rfl, rfl⟩) (fun k zk q hq => ?_) ?_⟩
    · show m_mov_2 G u v x y z (18 * k + q) = G 18 (18 * k + q)
      unfold m_mov_2 m_mov_1
      rw [pk_un (by omega), pk_un (by omega)]
    · refine RelC_mk ⟨a1, a2, a3, a4, a5, a6, a7, a8⟩ ?_ ?_ c3 ?_ ?_ (fun q => if q = ix v * 3 + ix y then g (ix v * 3 + ix y) + jz else (if q = ix v * 3 + ix x then g (ix v * 3 + ix x) - jz else g q)) ?_ ?_ ?_ ?_
      · rw [va_up_self]
        exact c1
      · rw [va_up_self]
        exact e18
      · rw [va_up_self]
        exact ⟨w, by omega, b2, b3, b4⟩
      · rw [va_up_self]
        exact c5
      · rw [va_up_self]
        exact hg2
      · omega
      · rw [h8]
        exact congrArg nI (by omega)
      · exact fun q => absurd hst q
  · rw [show m_mov_G F G u v x y z = G from if_neg (fun q => hk (e.symm.trans q))]
    exact Rel_F0 h _
theorem sim_free {T n : Nat} {bf : Nat → Int32} {bg : Nat → Nat → Int32} {cf : Nat → Nat → Int32} {cg : Nat → Nat → Nat → Int32} {F : Nat → Int32} {G : Nat → Nat → Int32} (h : Rel T bf bg n cf cg F G) (hT : T ≤ 600) (u v x y : Int32) : ((upd F 0 (m_why F G u v x y))) 0 = b_fre_k n cg u v x y ∧ (b_fre_k n cg u v x y = 0 → m_fr_v F G u v x y = y * cg (ix u) 3 (ix v) ∧ Rel (T + 1) bf (va_up (va_up bg 3 (upd (bg 3) (ix (cf (ix u) 0)) (bg 3 (ix (cf (ix u) 0)) - y * cg (ix u) 3 (ix v)))) 4 (upd (bg 4) (ix (cf (ix u) 0)) (bg 4 (ix (cf (ix u) 0)) + y * cg (ix u) 3 (ix v)))) n (b_to_cf cf (ix u) y) (va_up cg (ix u) (va_up (cg (ix u)) 4 (upd (cg (ix u) 4) (ix v * 3 + ix x) (cg (ix u) 4 (ix v * 3 + ix x) - y)))) (upd F 0 (m_why F G u v x y)) (m_fr_G F G u v x y)) ∧ (¬ b_fre_k n cg u v x y = 0 → Rel (T + 1) bf bg n cf cg (upd F 0 (m_why F G u v x y)) (m_fr_G F G u v x y)) := by
  obtain ⟨r1, r2, r3, r4, r5, r6, r7, r8, r9⟩ := id h
  have e : m_why F G u v x y = b_fre_k n cg u v x y := by
    unfold m_why b_fre_k b_tak
    rw [r3]
    by_cases q : m_in u 0 (nI n - 1) = true
    · rw [if_pos q, if_pos q]
      by_cases q2 : m_gd v x y = true
      · obtain ⟨z1, z2, -⟩ := rl_gd q2
        rw [if_pos q2, if_pos q2, (r7 _ (in_con r1 q).2).2.2.1 (ix v * 3 + ix x) (by omega), show 18 * ix u + (ix v * 3 + ix x) = 3 * (6 * ix u + ix v) + ix x by omega]
      · rw [if_neg q2, if_neg q2]
    · rw [if_neg q, if_neg q]
  refine ⟨e, fun hk => ?_, fun hk => ?_⟩
  · obtain ⟨hc, hk1⟩ := rl_if0 hk (by decide)
    obtain ⟨hg, hk2⟩ := rl_if0 (show (if m_gd v x y = true then (if y ≤ cg (ix u) 4 (ix v * 3 + ix x) then (0 : Int32) else 3) else 2) = 0 from hk1) (by decide)
    obtain ⟨hle, -⟩ := rl_if0 hk2 (by decide)
    obtain ⟨hi, hj, -, jz, z1, z2, z3⟩ := rl_gd hg
    have hu := (in_con r1 hc).2
    have C := r7 _ hu
    have a1 := C.1.1
    obtain ⟨t, t1, t2⟩ := C.2.2.2.1
    have hx8 : ix (G 8 (ix u)) < 4 := by rw [← a1, t2, nI_ix (by omega)]; exact t1
    have e17 : cg (ix u) 3 (ix v) = G 17 (6 * ix u + ix v) := (C.2.1 _ hi).2
    rw [show m_fr_G F G u v x y = va_up (m_lv_G G (ix u) (ix v) (ix x) y) 7 (upd (G 7) (ix (G 8 (ix u))) (G 7 (ix (G 8 (ix u))) + y * G 17 (6 * ix u + ix v))) from if_pos (e.trans hk)]
    refine ⟨(if_pos (e.trans hk)).trans (by rw [e17]), Rel_one h (k0 := ix u) hu ⟨rfl, rfl, rfl⟩ r4 r5 (fun t ht => ?_) (fun k z => ?_) (fun k z => va_up_ne _ _ z) (fun k z j a b => ?_) (fun k z i hi2 => ⟨rfl, rfl⟩) (fun k zk q hq => ?_) ?_⟩
    · rw [a1]
      refine ⟨(r6 t ht).1, ?_, ?_⟩
      · show upd (bg 3) (ix (G 8 (ix u))) (bg 3 (ix (G 8 (ix u))) - y * cg (ix u) 3 (ix v)) t = upd (G 6) (ix (G 8 (ix u))) (G 6 (ix (G 8 (ix u))) - y * G 17 (6 * ix u + ix v)) t
        unfold upd
        rw [(r6 t ht).2.1, (r6 _ hx8).2.1, e17]
      · show upd (bg 4) (ix (G 8 (ix u))) (bg 4 (ix (G 8 (ix u))) + y * cg (ix u) 3 (ix v)) t = upd (G 7) (ix (G 8 (ix u))) (G 7 (ix (G 8 (ix u))) + y * G 17 (6 * ix u + ix v)) t
        unfold upd
        rw [(r6 t ht).2.2, (r6 _ hx8).2.2, e17]
    · unfold b_to_cf
      by_cases q : cf (ix u) 9 - y = 0
      · rw [if_pos q, va_up_ne _ _ z]
      · rw [if_neg q, va_up_ne _ _ z]
    · rw [va_up_ne _ _ (by omega)]
      unfold m_lv_G
      by_cases q : j = 10
      · subst q
        exact pk_un z
      · rw [va_up_ne _ _ q, va_up_ne _ _ (by omega), va_up_ne _ _ (by omega)]
    · show upd (G 18) (3 * (6 * ix u + ix v) + ix x) _ (18 * k + q) = G 18 (18 * k + q)
      rw [pk_un (by omega)]
    · exact rl_lv C hi hj z1 z2 z3 hle (fun j a b c => by unfold m_lv_G; rw [va_up_ne _ _ (by omega), va_up_ne _ _ c, va_up_ne _ _ (by omega), va_up_ne _ _ (by omega)]) rfl rfl rfl rfl
  · rw [show m_fr_G F G u v x y = G from if_neg (fun q => hk (e.symm.trans q))]
    exact Rel_F0 h _
theorem sim_sendBack {T n : Nat} {bf : Nat → Int32} {bg : Nat → Nat → Int32} {cf : Nat → Nat → Int32} {cg : Nat → Nat → Nat → Int32} {F : Nat → Int32} {G : Nat → Nat → Int32} (h : Rel T bf bg n cf cg F G) (hT : T ≤ 600) (u v x y : Int32) : ((upd F 0 (m_why F G u v x y))) 0 = b_fre_k n cg u v x y ∧ (b_fre_k n cg u v x y = 0 → m_fr_v F G u v x y = y * cg (ix u) 3 (ix v) ∧ Rel (T + 1) bf (va_up bg 3 (upd (bg 3) (ix (cf (ix u) 0)) (bg 3 (ix (cf (ix u) 0)) - y * cg (ix u) 3 (ix v)))) n (b_to_cf cf (ix u) y) (va_up cg (ix u) (va_up (cg (ix u)) 4 (upd (cg (ix u) 4) (ix v * 3 + ix x) (cg (ix u) 4 (ix v * 3 + ix x) - y)))) (upd F 0 (m_why F G u v x y)) (m_sb_G F G u v x y)) ∧ (¬ b_fre_k n cg u v x y = 0 → Rel (T + 1) bf bg n cf cg (upd F 0 (m_why F G u v x y)) (m_sb_G F G u v x y)) := by
  obtain ⟨r1, r2, r3, r4, r5, r6, r7, r8, r9⟩ := id h
  have e : m_why F G u v x y = b_fre_k n cg u v x y := by
    unfold m_why b_fre_k b_tak
    rw [r3]
    by_cases q : m_in u 0 (nI n - 1) = true
    · rw [if_pos q, if_pos q]
      by_cases q2 : m_gd v x y = true
      · obtain ⟨z1, z2, -⟩ := rl_gd q2
        rw [if_pos q2, if_pos q2, (r7 _ (in_con r1 q).2).2.2.1 (ix v * 3 + ix x) (by omega), show 18 * ix u + (ix v * 3 + ix x) = 3 * (6 * ix u + ix v) + ix x by omega]
      · rw [if_neg q2, if_neg q2]
    · rw [if_neg q, if_neg q]
  refine ⟨e, fun hk => ?_, fun hk => ?_⟩
  · obtain ⟨hc, hk1⟩ := rl_if0 hk (by decide)
    obtain ⟨hg, hk2⟩ := rl_if0 (show (if m_gd v x y = true then (if y ≤ cg (ix u) 4 (ix v * 3 + ix x) then (0 : Int32) else 3) else 2) = 0 from hk1) (by decide)
    obtain ⟨hle, -⟩ := rl_if0 hk2 (by decide)
    obtain ⟨hi, hj, -, jz, z1, z2, z3⟩ := rl_gd hg
    have hu := (in_con r1 hc).2
    have C := r7 _ hu
    have a1 := C.1.1
    obtain ⟨t, t1, t2⟩ := C.2.2.2.1
    have hx8 : ix (G 8 (ix u)) < 4 := by rw [← a1, t2, nI_ix (by omega)]; exact t1
    have e17 : cg (ix u) 3 (ix v) = G 17 (6 * ix u + ix v) := (C.2.1 _ hi).2
    rw [show m_sb_G F G u v x y = m_lv_G G (ix u) (ix v) (ix x) y from if_pos (e.trans hk)]
    refine ⟨(if_pos (e.trans hk)).trans (by rw [e17]), Rel_one h (k0 := ix u) hu ⟨rfl, rfl, rfl⟩ r4 r5 (fun t ht => ?_) (fun k z => ?_) (fun k z => va_up_ne _ _ z) (fun k z j a b => ?_) (fun k z i hi2 => ⟨rfl, rfl⟩) (fun k zk q hq => ?_) ?_⟩
    · rw [a1]
      refine ⟨(r6 t ht).1, ?_, ?_⟩
      · show upd (bg 3) (ix (G 8 (ix u))) (bg 3 (ix (G 8 (ix u))) - y * cg (ix u) 3 (ix v)) t = upd (G 6) (ix (G 8 (ix u))) (G 6 (ix (G 8 (ix u))) - y * G 17 (6 * ix u + ix v)) t
        unfold upd
        rw [(r6 t ht).2.1, (r6 _ hx8).2.1, e17]
      · show bg 4 t = G 7 t
        exact (r6 t ht).2.2
    · unfold b_to_cf
      by_cases q : cf (ix u) 9 - y = 0
      · rw [if_pos q, va_up_ne _ _ z]
      · rw [if_neg q, va_up_ne _ _ z]
    · unfold m_lv_G
      by_cases q : j = 10
      · subst q
        exact pk_un z
      · rw [va_up_ne _ _ q, va_up_ne _ _ (by omega), va_up_ne _ _ (by omega)]
    · show upd (G 18) (3 * (6 * ix u + ix v) + ix x) _ (18 * k + q) = G 18 (18 * k + q)
      rw [pk_un (by omega)]
    · exact rl_lv C hi hj z1 z2 z3 hle (fun j a b c => by unfold m_lv_G; rw [va_up_ne _ _ c, va_up_ne _ _ (by omega), va_up_ne _ _ (by omega)]) rfl rfl rfl rfl
  · rw [show m_sb_G F G u v x y = G from if_neg (fun q => hk (e.symm.trans q))]
    exact Rel_F0 h _
theorem sim_state {T n : Nat} {bf : Nat → Int32} {bg : Nat → Nat → Int32} {cf : Nat → Nat → Int32} {cg : Nat → Nat → Nat → Int32} {F : Nat → Int32} {G : Nat → Nat → Int32} (h : Rel T bf bg n cf cg F G) (hT : T ≤ 600) (u : Int32) : ((upd F 0 (m_c_k F u))) 0 = b_c_k n u ∧ (b_c_k n u = 0 → m_sta_v F G u = cf (ix u) 5 ∧ Rel (T + 1) bf bg n cf cg (upd F 0 (m_c_k F u)) G) ∧ (¬ b_c_k n u = 0 → Rel (T + 1) bf bg n cf cg (upd F 0 (m_c_k F u)) G) := by
  obtain ⟨r1, r2, r3, r4, r5, r6, r7, r8, r9⟩ := id h
  have e : m_c_k F u = b_c_k n u := by
    unfold m_c_k b_c_k
    rw [r3]
  refine ⟨e, fun hk => ⟨(if_pos (e.trans hk)).trans ?_, Rel_F0 h _⟩, fun _ => Rel_F0 h _⟩
  have hc : m_in u 0 (nI n - 1) = true := by
    apply Decidable.byContradiction
    intro q
    rw [b_c_k, if_neg q] at hk
    exact absurd hk (by decide)
  exact (r7 _ (in_con r1 hc).2).1.2.2.1.symm
theorem sim_manifest {T n : Nat} {bf : Nat → Int32} {bg : Nat → Nat → Int32} {cf : Nat → Nat → Int32} {cg : Nat → Nat → Nat → Int32} {F : Nat → Int32} {G : Nat → Nat → Int32} (h : Rel T bf bg n cf cg F G) (hT : T ≤ 600) (u v : Int32) : ((upd F 0 (m_man_k F u v))) 0 = b_man_k n u v ∧ (b_man_k n u v = 0 → m_man_v F G u v = cg (ix u) 2 (ix v) ∧ Rel (T + 1) bf bg n cf cg (upd F 0 (m_man_k F u v)) G) ∧ (¬ b_man_k n u v = 0 → Rel (T + 1) bf bg n cf cg (upd F 0 (m_man_k F u v)) G) := by
  obtain ⟨r1, r2, r3, r4, r5, r6, r7, r8, r9⟩ := id h
  have e : m_man_k F u v = b_man_k n u v := by
    unfold m_man_k b_man_k
    rw [r3]
  refine ⟨e, fun hk => ⟨(if_pos (e.trans hk)).trans ?_, Rel_F0 h _⟩, fun _ => Rel_F0 h _⟩
  have hc : m_in u 0 (nI n - 1) = true := by
    apply Decidable.byContradiction
    intro q
    rw [b_man_k, if_neg q] at hk
    exact absurd hk (by decide)
  have hv : m_in v 0 5 = true := by
    apply Decidable.byContradiction
    intro q
    rw [b_man_k, if_pos hc, if_neg q] at hk
    exact absurd hk (by decide)
  exact ((r7 _ (in_con r1 hc).2).2.1 _ (in_ix (N := 6) (by decide) (by decide) hv).2).1.symm
theorem sim_stored {T n : Nat} {bf : Nat → Int32} {bg : Nat → Nat → Int32} {cf : Nat → Nat → Int32} {cg : Nat → Nat → Nat → Int32} {F : Nat → Int32} {G : Nat → Nat → Int32} (h : Rel T bf bg n cf cg F G) (hT : T ≤ 600) (v x : Int32) : ((upd F 0 (m_sto_k v x))) 0 = b_sto_k v x ∧ (b_sto_k v x = 0 → m_sto_v G n v x = b_gs n cg (ix v) (ix x) 15 ∧ Rel (T + 1) bf bg n cf cg (upd F 0 (m_sto_k v x)) G) ∧ (¬ b_sto_k v x = 0 → Rel (T + 1) bf bg n cf cg (upd F 0 (m_sto_k v x)) G) := by
  refine ⟨rfl, fun hk => ⟨(if_pos hk).trans ?_, Rel_F0 h _⟩, fun _ => Rel_F0 h _⟩
  have hc : m_in v 0 5 = true ∧ m_in x 0 2 = true := by
    apply Decidable.byContradiction
    intro q
    rw [b_sto_k, if_neg q] at hk
    exact absurd hk (by decide)
  have hn : n ≤ 15 := h.1
  rw [rl_gs h (in_ix (N := 6) (by decide) (by decide) hc.1).2 (in_ix (N := 3) (by decide) (by decide) hc.2).2 15, show min 15 n = n by omega]
theorem sim_held {T n : Nat} {bf : Nat → Int32} {bg : Nat → Nat → Int32} {cf : Nat → Nat → Int32} {cg : Nat → Nat → Nat → Int32} {F : Nat → Int32} {G : Nat → Nat → Int32} (h : Rel T bf bg n cf cg F G) (hT : T ≤ 600) (v : Int32) : ((upd F 0 (m_tr_k v))) 0 = b_tr_k v ∧ (b_tr_k v = 0 → m_tr_v G 6 v = bg 3 (ix v) ∧ Rel (T + 1) bf bg n cf cg (upd F 0 (m_tr_k v)) G) ∧ (¬ b_tr_k v = 0 → Rel (T + 1) bf bg n cf cg (upd F 0 (m_tr_k v)) G) := by
  refine ⟨rfl, fun hk => ⟨(if_pos hk).trans ?_, Rel_F0 h _⟩, fun _ => Rel_F0 h _⟩
  have hc : m_in v 0 3 = true := by
    apply Decidable.byContradiction
    intro q
    rw [b_tr_k, if_neg q] at hk
    exact absurd hk (by decide)
  exact (h.2.2.2.2.2.1 _ (in_ix (N := 4) (by decide) (by decide) hc).2).2.1.symm
theorem sim_paid {T n : Nat} {bf : Nat → Int32} {bg : Nat → Nat → Int32} {cf : Nat → Nat → Int32} {cg : Nat → Nat → Nat → Int32} {F : Nat → Int32} {G : Nat → Nat → Int32} (h : Rel T bf bg n cf cg F G) (hT : T ≤ 600) (v : Int32) : ((upd F 0 (m_tr_k v))) 0 = b_tr_k v ∧ (b_tr_k v = 0 → m_tr_v G 7 v = bg 4 (ix v) ∧ Rel (T + 1) bf bg n cf cg (upd F 0 (m_tr_k v)) G) ∧ (¬ b_tr_k v = 0 → Rel (T + 1) bf bg n cf cg (upd F 0 (m_tr_k v)) G) := by
  refine ⟨rfl, fun hk => ⟨(if_pos hk).trans ?_, Rel_F0 h _⟩, fun _ => Rel_F0 h _⟩
  have hc : m_in v 0 3 = true := by
    apply Decidable.byContradiction
    intro q
    rw [b_tr_k, if_neg q] at hk
    exact absurd hk (by decide)
  exact (h.2.2.2.2.2.1 _ (in_ix (N := 4) (by decide) (by decide) hc).2).2.2.symm
