theorem RelC_up {T : Nat} {cf : Nat → Nat → Int32} {cg : Nat → Nat → Nat → Int32} {G : Nat → Nat → Int32} {k : Nat} (h : RelC T cf cg G k) : RelC (T + 1) cf cg G k := by
  obtain ⟨h1, h2, h3, h4, ⟨v, g1, g2, g3, g4⟩, h5, h6⟩ := h
  exact ⟨h1, h2, h3, h4, ⟨v, by omega, g2, g3, g4⟩, h5, h6⟩
theorem Rel_up {T n : Nat} {bf : Nat → Int32} {bg : Nat → Nat → Int32} {cf : Nat → Nat → Int32} {cg : Nat → Nat → Nat → Int32} {F : Nat → Int32} {G : Nat → Nat → Int32} (h : Rel T bf bg n cf cg F G) : Rel (T + 1) bf bg n cf cg F G := by
  obtain ⟨h1, h2, h3, h4, h5, h6, h7, h8⟩ := h
  exact ⟨h1, h2, h3, h4, h5, h6, fun k hk => RelC_up (h7 k hk), h8⟩
set_option maxRecDepth 100000 in
theorem lw_case {p : Program} {l : Launch} {e : Env} {s : State} {m : MethodId} {args : Array Value} {below : List Frame} {meth : Method} {c : Code} {D : va_G} {A : Nat → Prop} {Q : State → Prop} {K : Nat → ClassId} {ba : Nat → Nat} {oa : Nat} {a : Nat → Nat} {b L : Nat} {xs : Nat → Int32} (X : fw_X p s m args c D A 7 cL_law RL wsL_law (tyS K)) (hE : fw_E true A s) (hl : l.stackTraces = false) (hX : va_X b L xs s s.heap) (hbl : b < s.heap.size) (hbA : ¬ A b) (hL : L ≤ 3072) {cells slots T n : Nat} {bf : Nat → Int32} {bg : Nat → Nat → Int32} {ca : Nat → Nat → Nat} {cf : Nat → Nat → Int32} {cg : Nat → Nat → Nat → Int32} {F : Nat → Int32} {G : Nat → Nat → Int32} {o : Nat → Int64} (h : Rel T bf bg n cf cg F G) (hT : T ≤ 600) (i : Nat) (hi : i + 6 ≤ L) (hc : cells ≤ 500000) (hs : slots ≤ 7000000) (kk : ∀ (bf2 : Nat → Int32) (bg2 : Nat → Nat → Int32) (n2 : Nat) (ca2 : Nat → Nat → Nat) (cf2 : Nat → Nat → Int32) (cg2 : Nat → Nat → Nat → Int32) (F2 : Nat → Int32) (G2 : Nat → Nat → Int32) (o2 : Nat → Int64), Rel (T + 1) bf2 bg2 n2 cf2 cg2 F2 G2 → fw_W p l e room_1 s m args below meth c D A 7 Q (LWW K ba oa a bf2 bg2 n2 ca2 cf2 cg2 F2 G2 o2) (cells + 20) (slots + 200) [(0, .ref b), (1, .ref (ba 6)), (2, .ref (a 0)), (3, .ref oa), (4, .int (nI i))] 1406 []) (j : Nat) (hj : j < 32) : fw_W p l e room_1 s m args below meth c D A 7 Q (LWW K ba oa a bf bg n ca cf cg F G o) (cells) (slots) [(0, .ref b), (1, .ref (ba 6)), (2, .ref (a 0)), (3, .ref oa), (4, .int (nI i))] 40 [.int (nI j)] := by
  have ej : (nI j).toInt = (j : Int) := nI_toInt (by omega)
  rcases Nat.lt_or_ge j 18 with q | q
  · have d : j = 0 ∨ j = 1 ∨ j = 2 ∨ j = 3 ∨ j = 4 ∨ j = 5 ∨ j = 6 ∨ j = 7 ∨ j = 8 ∨ j = 9 ∨ j = 10 ∨ j = 11 ∨ j = 12 ∨ j = 13 ∨ j = 14 ∨ j = 15 ∨ j = 16 ∨ j = 17 := by omega
    rcases d with rfl | rfl | rfl | rfl | rfl | rfl | rfl | rfl | rfl | rfl | rfl | rfl | rfl | rfl | rfl | rfl | rfl | rfl
    · exact fw_tbIn (pc := 40) (tgt := 128) X dL_law_40 (by rw [ej]; decide) (by rw [ej]; decide) (off := 88) (by rw [ej]; rfl) (by decide) (lc_setSort X hE hl hX hbl hbA h hT i hi hL hc hs _ _ _ rfl rfl rfl kk)
    · exact fw_tbIn (pc := 40) (tgt := 188) X dL_law_40 (by rw [ej]; decide) (by rw [ej]; decide) (off := 148) (by rw [ej]; rfl) (by decide) (lc_setRisk X hE hl hX hbl hbA h hT i hi hL hc hs _ _ rfl rfl kk)
    · exact fw_tbIn (pc := 40) (tgt := 256) X dL_law_40 (by rw [ej]; decide) (by rw [ej]; decide) (off := 216) (by rw [ej]; rfl) (by decide) (lc_setGuarantee X hE hl hX hbl hbA h hT i hi hL hc hs _ _ rfl rfl kk)
    · exact fw_tbIn (pc := 40) (tgt := 324) X dL_law_40 (by rw [ej]; decide) (by rw [ej]; decide) (off := 284) (by rw [ej]; rfl) (by decide) (lc_announce X hE hl hX hbl hbA h hT i hi hL hc hs _ _ rfl rfl kk)
    · exact fw_tbIn (pc := 40) (tgt := 392) X dL_law_40 (by rw [ej]; decide) (by rw [ej]; decide) (off := 352) (by rw [ej]; rfl) (by decide) (lc_amend X hE hl hX hbl hbA h hT i hi hL hc hs _ _ _ rfl rfl rfl kk)
    · exact fw_tbIn (pc := 40) (tgt := 472) X dL_law_40 (by rw [ej]; decide) (by rw [ej]; decide) (off := 432) (by rw [ej]; rfl) (by decide) (lc_arrive X hE hl hX hbl hbA h hT i hi hL hc hs _ _ rfl rfl kk)
    · exact fw_tbIn (pc := 40) (tgt := 547) X dL_law_40 (by rw [ej]; decide) (by rw [ej]; decide) (off := 507) (by rw [ej]; rfl) (by decide) (lc_risk X hE hl hX hbl hbA h hT i hi hL hc hs _ rfl kk)
    · exact fw_tbIn (pc := 40) (tgt := 603) X dL_law_40 (by rw [ej]; decide) (by rw [ej]; decide) (off := 563) (by rw [ej]; rfl) (by decide) (lc_mustSearch X hE hl hX hbl hbA h hT i hi hL hc hs _ rfl kk)
    · exact fw_tbIn (pc := 40) (tgt := 666) X dL_law_40 (by rw [ej]; decide) (by rw [ej]; decide) (off := 626) (by rw [ej]; rfl) (by decide) (lc_search X hE hl hX hbl hbA h hT i hi hL hc hs _ _ _ rfl rfl rfl kk)
    · exact fw_tbIn (pc := 40) (tgt := 746) X dL_law_40 (by rw [ej]; decide) (by rw [ej]; decide) (off := 706) (by rw [ej]; rfl) (by decide) (lc_bond X hE hl hX hbl hbA h hT i hi hL hc hs _ _ rfl rfl kk)
    · exact fw_tbIn (pc := 40) (tgt := 814) X dL_law_40 (by rw [ej]; decide) (by rw [ej]; decide) (off := 774) (by rw [ej]; rfl) (by decide) (lc_move X hE hl hX hbl hbA h hT i hi hL hc hs _ _ _ _ _ rfl rfl rfl rfl rfl kk)
    · exact fw_tbIn (pc := 40) (tgt := 918) X dL_law_40 (by rw [ej]; decide) (by rw [ej]; decide) (off := 878) (by rw [ej]; rfl) (by decide) (lc_free X hE hl hX hbl hbA h hT i hi hL hc hs _ _ _ _ rfl rfl rfl rfl kk)
    · exact fw_tbIn (pc := 40) (tgt := 1010) X dL_law_40 (by rw [ej]; decide) (by rw [ej]; decide) (off := 970) (by rw [ej]; rfl) (by decide) (lc_sendBack X hE hl hX hbl hbA h hT i hi hL hc hs _ _ _ _ rfl rfl rfl rfl kk)
    · exact fw_tbIn (pc := 40) (tgt := 1102) X dL_law_40 (by rw [ej]; decide) (by rw [ej]; decide) (off := 1062) (by rw [ej]; rfl) (by decide) (lc_state X hE hl hX hbl hbA h hT i hi hL hc hs _ rfl kk)
    · exact fw_tbIn (pc := 40) (tgt := 1158) X dL_law_40 (by rw [ej]; decide) (by rw [ej]; decide) (off := 1118) (by rw [ej]; rfl) (by decide) (lc_manifest X hE hl hX hbl hbA h hT i hi hL hc hs _ _ rfl rfl kk)
    · exact fw_tbIn (pc := 40) (tgt := 1226) X dL_law_40 (by rw [ej]; decide) (by rw [ej]; decide) (off := 1186) (by rw [ej]; rfl) (by decide) (lc_stored X hE hl hX hbl hbA h hT i hi hL hc hs _ _ rfl rfl kk)
    · exact fw_tbIn (pc := 40) (tgt := 1294) X dL_law_40 (by rw [ej]; decide) (by rw [ej]; decide) (off := 1254) (by rw [ej]; rfl) (by decide) (lc_held X hE hl hX hbl hbA h hT i hi hL hc hs _ rfl kk)
    · exact fw_tbIn (pc := 40) (tgt := 1350) X dL_law_40 (by rw [ej]; decide) (by rw [ej]; decide) (off := 1310) (by rw [ej]; rfl) (by decide) (lc_paid X hE hl hX hbl hbA h hT i hi hL hc hs _ rfl kk)
  · refine fw_tbOut (pc := 40) (tgt := 1406) X dL_law_40 (Or.inr (by rw [ej]; omega)) (by decide) ?_
    refine fw_wd (k := cells + 20) (n := slots + 200) (by omega) (by omega) ?_
    exact kk _ _ _ _ _ _ _ _ _ (Rel_up h)
/-- the loop over the script -/
theorem lw_loop {p : Program} {l : Launch} {e : Env} {s : State} {m : MethodId} {args : Array Value} {below : List Frame} {meth : Method} {c : Code} {D : va_G} {A : Nat → Prop} {Q : State → Prop} {K : Nat → ClassId} {ba : Nat → Nat} {oa : Nat} {a : Nat → Nat} {b L : Nat} {xs : Nat → Int32} (X : fw_X p s m args c D A 7 cL_law RL wsL_law (tyS K)) (hE : fw_E true A s) (hl : l.stackTraces = false) (hX : va_X b L xs s s.heap) (hbl : b < s.heap.size) (hbA : ¬ A b) (hL : L ≤ 3072) (hend : ∀ {cells slots n : Nat} {bf : Nat → Int32} {bg : Nat → Nat → Int32} {ca : Nat → Nat → Nat} {cf : Nat → Nat → Int32} {cg : Nat → Nat → Nat → Int32} {F : Nat → Int32} {G : Nat → Nat → Int32} {o : Nat → Int64} (x : Int32), cells ≤ 500000 → slots ≤ 7000000 → fw_W p l e room_1 s m args below meth c D A 7 Q (LWW K ba oa a bf bg n ca cf cg F G o) cells slots [(0, .ref b), (1, .ref (ba 6)), (2, .ref (a 0)), (3, .ref oa), (4, .int x)] 1412 []) : ∀ (k t : Nat) {cells slots n : Nat} {bf : Nat → Int32} {bg : Nat → Nat → Int32} {ca : Nat → Nat → Nat} {cf : Nat → Nat → Int32} {cg : Nat → Nat → Nat → Int32} {F : Nat → Int32} {G : Nat → Nat → Int32} {o : Nat → Int64}, L < 6 * t + k → 6 * t ≤ L → Rel t bf bg n cf cg F G → cells ≤ 1000 + 20 * t → slots ≤ 10000 + 200 * t → fw_W p l e room_1 s m args below meth c D A 7 Q (LWW K ba oa a bf bg n ca cf cg F G o) (cells) (slots) [(0, .ref b), (1, .ref (ba 6)), (2, .ref (a 0)), (3, .ref oa), (4, .int (nI (6 * t)))] 23 [] := by
  intro k
  induction k with
  | zero =>
    intro t cells slots n bf bg ca cf cg F G o h1 h2
    omega
  | succ k ih =>
    intro t cells slots n bf bg ca cf cg F G o h1 h2 h hc hs
    refine fw_iload (pc := 23) X dL_law_23 4 rfl ?_
    refine fw_aload_n (pc := 25) X dL_law_25 rfl 0 rfl ?_
    refine fw_slen (pc := 26) X hX hbl hbA dL_law_26 ?_
    refine fw_bipush (pc := 27) (v := nI 6) X dL_law_27 (by decide) ?_
    refine fw_isub (pc := 29) X dL_law_29 ?_
    refine fw_icmp_gt (pc := 30) (tgt := 1412) X dL_law_30 (by decide) (fun _ => hend _ (by omega) (by omega)) (fun q => ?_)
    have hi : 6 * t + 6 ≤ L := by
      rw [Int32.lt_iff_toInt_lt, pk_sub_toInt (by omega) (by omega), nI_toInt (by omega)] at q
      omega
    refine fw_aload_n (pc := 33) X dL_law_33 rfl 0 rfl ?_
    refine fw_iload (pc := 34) X dL_law_34 4 rfl ?_
    refine fw_sld (pc := 36) X hX hbl hbA (6 * t) rfl (by omega) (by omega) rfl dL_law_36 ?_
    refine fw_bipush (pc := 37) (v := 31) X dL_law_37 (by decide) ?_
    refine fw_iand (pc := 39) X dL_law_39 ?_
    obtain ⟨j, hj, ej⟩ := pk_andE (xs (6 * t)) (m := 31) 5 (by decide)
    refine fw_iv ej ?_
    refine lw_case X hE hl hX hbl hbA hL h (by omega) (6 * t) hi (by omega) (by omega) ?_ j hj
    intro bf2 bg2 n2 ca2 cf2 cg2 F2 G2 o2 h2r
    refine fw_iinc (pc := 1406) (v := nI (6 * (t + 1))) (lv' := [(4, .int (nI (6 * (t + 1)))), (0, .ref b), (1, .ref (ba 6)), (2, .ref (a 0)), (3, .ref oa)]) X dL_law_1406 (j := 4) rfl (by rw [show Int32.ofInt 6 = nI 6 from by decide, nI_add]; rfl) (by decide) rfl ?_
    refine fw_goto (pc := 1409) (tgt := 23) X dL_law_1409 (by decide) ?_
    refine fw_lv (lv' := [(0, .ref b), (1, .ref (ba 6)), (2, .ref (a 0)), (3, .ref oa), (4, .int (nI (6 * (t + 1))))]) [1, 2, 3, 4, 0] rfl ?_
    exact ih (t + 1) (by omega) (by omega) h2r (by omega) (by omega)
