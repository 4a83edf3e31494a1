theorem X1_dflt : ∀ j, j < 10 → defaultValue (tyX1 j) = vp_V [.null, .null, .null, .null, .null, .null, .int 0, .int 0, .int 0, .int 0] j := fun j hj => by
  have h : j = 0 ∨ j = 1 ∨ j = 2 ∨ j = 3 ∨ j = 4 ∨ j = 5 ∨ j = 6 ∨ j = 7 ∨ j = 8 ∨ j = 9 := by omega
  rcases h with rfl | rfl | rfl | rfl | rfl | rfl | rfl | rfl | rfl | rfl <;> rfl
theorem X2_dflt : ∀ j, j < 21 → defaultValue (tyX2 j) = vp_V [.int 0, .null, .null, .int 0, .int 0, .null, .null, .null, .null, .null, .null, .null, .null, .null, .null, .null, .null, .null, .null, .int 0, .int 0] j := fun j hj => by
  have h : j = 0 ∨ j = 1 ∨ j = 2 ∨ j = 3 ∨ j = 4 ∨ j = 5 ∨ j = 6 ∨ j = 7 ∨ j = 8 ∨ j = 9 ∨ j = 10 ∨ j = 11 ∨ j = 12 ∨ j = 13 ∨ j = 14 ∨ j = 15 ∨ j = 16 ∨ j = 17 ∨ j = 18 ∨ j = 19 ∨ j = 20 := by omega
  rcases h with rfl | rfl | rfl | rfl | rfl | rfl | rfl | rfl | rfl | rfl | rfl | rfl | rfl | rfl | rfl | rfl | rfl | rfl | rfl | rfl | rfl <;> rfl
theorem lw_mem {w : Cond} {k : Nat} (h : wsL_law0_r1[k]? = some w) : w ∈ wsL_law := List.mem_append_left _ (List.mem_append_left _ (List.mem_append_left _ (List.mem_append_left _ (List.mem_append_left _ (List.mem_append_left _ (List.mem_append_left _ (List.mem_append_left _ (List.mem_of_getElem? h))))))))
theorem kl_0 : Cond.classLink RL 8 RX1 ∈ wsL_law := by decide +kernel
theorem kl_1 : Cond.instantiable RX1 10 ∈ wsL_law := by decide +kernel
theorem kl_2 : Cond.initialized RX1 ∈ wsL_law := by decide +kernel
theorem kl_3 : Cond.classLink RL 78 RX2 ∈ wsL_law := by decide +kernel
theorem kl_4 : Cond.instantiable RX2 21 ∈ wsL_law := by decide +kernel
theorem kl_5 : Cond.initialized RX2 ∈ wsL_law := by decide +kernel
theorem kl_6 : Cond.arrayClass .long ∈ wsL_law := by decide +kernel
theorem kl_7 : Cond.methodLink RL 77 yX1_init ∈ wsL_law := by decide +kernel
theorem kl_8 : Cond.instanceMethod yX1_init ∈ wsL_law := by decide +kernel
theorem kl_9 : Cond.methodLink RL 80 yX2_init ∈ wsL_law := by decide +kernel
theorem kl_10 : Cond.instanceMethod yX2_init ∈ wsL_law := by decide +kernel
theorem kt_0 : Cond.laysStatic Bundle.tN "UNASSIGNED_STACK" Bundle.steD ∈ lw_tbl := by decide +kernel
theorem kt_1 : Cond.laysStatic Bundle.tN "SUPPRESSED_SENTINEL" Bundle.listD ∈ lw_tbl := by decide +kernel
theorem kt_2 : Cond.initialized Bundle.tN ∈ lw_tbl := by decide +kernel
theorem kt_3 : ∀ q ∈ fw_S, Cond.stringRef RX1 q.1 q.2 ∈ lw_tbl := by decide +kernel
theorem kt_4 : ∀ C ∈ [fw_IA, fw_IS, fw_IO], Cond.castable C C ∈ lw_tbl := by decide +kernel
theorem kt_5 : ∀ C ∈ fw_anc, Cond.declares (Bundle.initS C) ∈ lw_tbl := by decide +kernel
theorem kt_6 : Cond.methodLinkNest RX0 50 yX1_placeOf RX1 ∈ lw_tbl := by decide +kernel
theorem kt_7 : Cond.arrayOver (.object RX0) ∈ lw_tbl := by decide +kernel
theorem kt_8 : Cond.arrayClass .int ∈ lw_tbl := by decide +kernel
theorem kt_9 : Cond.arrayClass .boolean ∈ lw_tbl := by decide +kernel
theorem kt_10 : Cond.arrayClass .long ∈ lw_tbl := by decide +kernel
theorem kt_11 : Cond.instantiable RX0 12 ∈ lw_tbl := by decide +kernel
theorem kt_12 : Cond.instantiable RX1 10 ∈ lw_tbl := by decide +kernel
theorem kt_13 : Cond.instantiable RX2 21 ∈ lw_tbl := by decide +kernel
theorem kn_0 : Cond.isRef (.static Bundle.tN "UNASSIGNED_STACK" Bundle.steD) ∈ flatC (Jvm.Cond.and given_1 narrow_1) := by decide +kernel
theorem kn_1 : Cond.isRef (.static Bundle.tN "SUPPRESSED_SENTINEL" Bundle.listD) ∈ flatC (Jvm.Cond.and given_1 narrow_1) := by decide +kernel
theorem kn_2 : ∀ q ∈ fw_S, Cond.exactly (.string RX1 q.1) "java/lang/String" ∈ flatC (Jvm.Cond.and given_1 narrow_1) := by decide +kernel
theorem kn_3 : Cond.not (.castable fw_IA fw_IO) ∈ flatC (Jvm.Cond.and given_1 narrow_1) := by decide +kernel
theorem kn_4 : Cond.not (.castable fw_IS fw_IO) ∈ flatC (Jvm.Cond.and given_1 narrow_1) := by decide +kernel
theorem kn_5 : Cond.not (.castable fw_IS fw_IA) ∈ flatC (Jvm.Cond.and given_1 narrow_1) := by decide +kernel
/-- the machine's own that a throw needs, at the law's start -/
theorem lw_env {s : State} {b : Nat} (hts : ∀ w ∈ lw_tbl, w.before #[Value.ref b] s = true) (hgv : (Jvm.Cond.and given_1 narrow_1).before #[Value.ref b] s = true) : fw_E true (fun q : Nat => s.heap.size ≤ q) s := fun _ => by
  have hs := flat_of_before _ hgv
  refine ⟨vx_Zqof (hts _ kt_0) (hts _ kt_2) (hs _ kn_0) (fun a h => Nat.not_le.mpr h), vx_Zqof (hts _ kt_1) (hts _ kt_2) (hs _ kn_1) (fun a h => Nat.not_le.mpr h), fun q hq => ?_, fun C hC => ?_, fun C hC => va_Nw.of rfl (hts _ (kt_5 C hC)), va_Nw.of rfl (hts _ kt_6), va_AO.of (hts _ kt_7), va_Nc.of (hs _ kn_3), va_Nc.of (hs _ kn_4), va_Nc.of (hs _ kn_5)⟩
  · obtain ⟨a, c, cell, k, q1, -⟩ := Cond.exactly_spec (args := #[Value.ref b]) (first := s) (o := none) (s := s) (idx := []) (hs _ (kn_2 q hq))
    exact ⟨a, vk_R.of (A := #[Value.ref b]) (hts _ (kt_3 q hq)) q1⟩
  · exact va_Nw.of rfl (hts _ (kt_4 C hC))
/-- the array classes, at the law's start -/
theorem lw_tys {s : State} {b : Nat} (hts : ∀ w ∈ lw_tbl, w.before #[Value.ref b] s = true) : ∃ K : Nat → ClassId, ∀ (k : Nat) (q : ClassId × FieldType), (tyS K)[k]? = some q → ArrOfT s q.1 q.2 ∧ va_RA s q.1 q.2 := by
  obtain ⟨c0, k0, p0, a0, b0, d0⟩ := Cond.arrayClass_spec (args := #[Value.ref b]) (first := s) (o := none) (s := s) (idx := []) (hts _ kt_8)
  obtain ⟨c1, k1, p1, a1, b1, d1⟩ := Cond.arrayClass_spec (args := #[Value.ref b]) (first := s) (o := none) (s := s) (idx := []) (hts _ kt_9)
  obtain ⟨c2, k2, p2, a2, b2, d2⟩ := Cond.arrayClass_spec (args := #[Value.ref b]) (first := s) (o := none) (s := s) (idx := []) (hts _ kt_10)
  obtain ⟨p3, c3, k3, e3, -, b3, d3, a3⟩ := Cond.arrayOver_spec (args := #[Value.ref b]) (first := s) (o := none) (s := s) (idx := []) (hts _ kt_7)
  refine ⟨fun k => if k = 0 then c0 else if k = 1 then c1 else if k = 2 then c2 else c3, ?_⟩
  intro k q hq
  match k, hq with
  | 0, hq =>
    cases hq
    exact ⟨fun n z => ⟨(fun k h => by cases h), k0, b0, p0, d0⟩, a0⟩
  | 1, hq =>
    cases hq
    exact ⟨fun n z => ⟨(fun k h => by cases h), k1, b1, p1, d1⟩, a1⟩
  | 2, hq =>
    cases hq
    exact ⟨fun n z => ⟨(fun k h => by cases h), k2, b2, p2, d2⟩, a2⟩
  | 3, hq =>
    cases hq
    exact ⟨fun n z => ⟨(fun k h => by cases h), k3, b3, p3, d3⟩, k3, p3, b3, d3, e3, a3⟩
  | k + 4, hq => simp [tyS] at hq
/-- the classes, at the law's start -/
theorem lw_known {s : State} {b : Nat} (hts : ∀ w ∈ lw_tbl, w.before #[Value.ref b] s = true) : ∃ D : va_G, ∀ (k : Nat) (q : vw_C), vwCl[k]? = some q → u_Kn s q.1 q.2.1 q.2.2 (D.1 k) (D.2 k) := by
  obtain ⟨c0, iS0, hKn0⟩ := u_known (C := RX0) (T := TX0) (N := 12) (n := 12) hts inX0 (hts _ kt_11)
  obtain ⟨c1, iS1, hKn1⟩ := u_known (C := RX1) (T := TX1) (N := 10) (n := 10) hts inX1 (hts _ kt_12)
  obtain ⟨c2, iS2, hKn2⟩ := u_known (C := RX2) (T := TX2) (N := 21) (n := 21) hts inX2 (hts _ kt_13)
  refine ⟨(fun k => if k = 0 then c0 else if k = 1 then c1 else c2, fun k => if k = 0 then iS0 else if k = 1 then iS1 else iS2), ?_⟩
  intro k q hq
  match k, hq with
  | 0, hq =>
    cases hq
    exact hKn0
  | 1, hq =>
    cases hq
    exact hKn1
  | 2, hq =>
    cases hq
    exact hKn2
  | k + 3, hq => simp [vwCl] at hq
theorem Rel_0 : Rel 0 f0B g0B 0 (fun _ _ => 0) (fun _ _ _ => 0) F0M G0M := by
  refine ⟨by omega, rfl, rfl, ⟨rfl, rfl, rfl⟩, fun i hi => ⟨rfl, rfl⟩, fun t ht => ⟨rfl, rfl, rfl⟩, fun k hk => absurd hk (by omega), fun k h1 h2 => ⟨⟨rfl, rfl, rfl, rfl, rfl, rfl, rfl⟩, fun i hi => ⟨rfl, rfl⟩, fun q hq => rfl⟩, 0, by omega, rfl⟩
