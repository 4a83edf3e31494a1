def rl_S (g : Nat → Nat) : Nat → Nat
  | 0 => 0
  | n + 1 => rl_S g n + g n
theorem rl_S18 (g : Nat → Nat) : (List.range 18).foldl (fun z q => z + g q) 0 = rl_S g 18 := by
  simp [List.range, List.range.loop, rl_S]
theorem rl_S_le {g : Nat → Nat} {a : Nat} : ∀ {n : Nat}, a < n → g a ≤ rl_S g n := by
  intro n
  induction n with
  | zero => intro h; omega
  | succ n ih =>
    intro h
    show g a ≤ rl_S g n + g n
    rcases Nat.lt_or_ge a n with q | q
    · have := ih q
      omega
    · have : a = n := by omega
      subst this
      omega
theorem rl_S_out {g : Nat → Nat} {a v : Nat} : ∀ {n : Nat}, n ≤ a → rl_S (fun q => if q = a then v else g q) n = rl_S g n := by
  intro n
  induction n with
  | zero => intro _; rfl
  | succ n ih =>
    intro h
    show rl_S (fun q => if q = a then v else g q) n + (if n = a then v else g n) = rl_S g n + g n
    rw [ih (by omega), if_neg (by omega)]
theorem rl_S_up {g : Nat → Nat} {a v : Nat} : ∀ {n : Nat}, a < n → rl_S (fun q => if q = a then v else g q) n + g a = rl_S g n + v := by
  intro n
  induction n with
  | zero => intro h; omega
  | succ n ih =>
    intro h
    show rl_S (fun q => if q = a then v else g q) n + (if n = a then v else g n) + g a = rl_S g n + g n + v
    rcases Nat.lt_or_ge a n with q | q
    · have := ih q
      rw [if_neg (by omega)]
      omega
    · have : a = n := by omega
      subst this
      rw [rl_S_out (Nat.le_refl _), if_pos rfl]
      omega
theorem rl_S_0 {g : Nat → Nat} : ∀ {n : Nat}, (∀ q, q < n → g q = 0) → rl_S g n = 0 := by
  intro n
  induction n with
  | zero => intro _; rfl
  | succ n ih =>
    intro h
    show rl_S g n + g n = 0
    rw [ih (fun q hq => h q (by omega)), h n (by omega)]
theorem rl_S_z {g : Nat → Nat} {n : Nat} (h : rl_S g n = 0) : ∀ q, q < n → g q = 0 := fun q hq => by
  have := rl_S_le (g := g) hq
  omega
theorem rl_lf {f : Nat → Int32} {b : Nat} {g : Nat → Nat} : ∀ {n : Nat}, (∀ q, q < n → f (b + q) = nI (g q)) → m_lf f b n = nI (rl_S g n) := by
  intro n
  induction n with
  | zero => intro _; rfl
  | succ n ih =>
    intro h
    show m_lf f b n + f (b + n) = nI (rl_S g n + g n)
    rw [ih (fun q hq => h q (by omega)), h n (by omega), nI_add]
section RL
variable {T n : Nat} {bf bf' : Nat → Int32} {bg bg' : Nat → Nat → Int32} {cf cf' : Nat → Nat → Int32} {cg cg' : Nat → Nat → Nat → Int32} {F F' : Nat → Int32} {G G' : Nat → Nat → Int32} {k : Nat}
theorem RelC_g (h : RelC T cf cg G k) : ∃ g : Nat → Nat, (∀ q, q < 18 → cg k 4 q = nI (g q)) ∧ rl_S g 18 ≤ 600 ∧ cf k 9 = nI (rl_S g 18) ∧ (¬ cf k 5 = 2 → ∀ q, q < 18 → g q = 0) := by
  obtain ⟨g, h1, h2, h3, h4⟩ := h.2.2.2.2.2.2
  rw [rl_S18] at h2 h3
  exact ⟨g, h1, h2, h3, h4⟩
theorem RelC_mk (h0 : cf k 0 = G 8 k ∧ cf k 1 = G 9 k ∧ cf k 5 = G 10 k ∧ cf k 6 = G 11 k ∧ cf k 7 = G 12 k ∧ cf k 8 = G 13 k ∧ cf k 11 = G 14 k ∧ cf k 10 = G 15 k) (h1 : ∀ i, i < 6 → cg k 2 i = G 16 (6 * k + i) ∧ cg k 3 i = G 17 (6 * k + i)) (h2 : ∀ q, q < 18 → cg k 4 q = G 18 (18 * k + q))
    (h3 : ∃ t, t < 4 ∧ cf k 0 = nI t) (h4 : ∃ v, v ≤ T ∧ cf k 6 = nI v ∧ (¬ cf k 5 = 0 → 1 ≤ v) ∧ (v = 0 → ∀ i, i < 6 → cg k 2 i = 0)) (h5 : ∀ i, i < 6 → ∃ d, d ≤ 100 ∧ cg k 2 i = nI d)
    (g : Nat → Nat) (h6 : ∀ q, q < 18 → cg k 4 q = nI (g q)) (h7 : rl_S g 18 ≤ 600) (h8 : cf k 9 = nI (rl_S g 18)) (h9 : ¬ cf k 5 = 2 → ∀ q, q < 18 → g q = 0) : RelC T cf cg G k :=
  ⟨h0, h1, h2, h3, h4, h5, g, h6, by rw [rl_S18]; exact h7, by rw [rl_S18]; exact h8, h9⟩
theorem RelC_eq (h : RelC T cf cg G k) (e1 : cf' k = cf k) (e2 : cg' k = cg k) (e3 : ∀ j, 8 ≤ j → j ≤ 15 → G' j k = G j k) (e4 : ∀ i, i < 6 → G' 16 (6 * k + i) = G 16 (6 * k + i) ∧ G' 17 (6 * k + i) = G 17 (6 * k + i)) (e5 : ∀ q, q < 18 → G' 18 (18 * k + q) = G 18 (18 * k + q)) : RelC (T + 1) cf' cg' G' k := by
  obtain ⟨g, h6, h7, h8, h9⟩ := RelC_g h
  obtain ⟨⟨a1, a2, a3, a4, a5, a6, a7, a8⟩, h1, h2, h3, ⟨v, b1, b2, b3, b4⟩, h5, -⟩ := h
  refine RelC_mk ?_ ?_ ?_ ?_ ?_ ?_ g ?_ ?_ ?_ ?_
  · rw [e1, e3 8 (by omega) (by omega), e3 9 (by omega) (by omega), e3 10 (by omega) (by omega), e3 11 (by omega) (by omega), e3 12 (by omega) (by omega), e3 13 (by omega) (by omega), e3 14 (by omega) (by omega), e3 15 (by omega) (by omega)]
    exact ⟨a1, a2, a3, a4, a5, a6, a7, a8⟩
  · intro i hi
    rw [e2, (e4 i hi).1, (e4 i hi).2]
    exact h1 i hi
  · intro q hq
    rw [e2, e5 q hq]
    exact h2 q hq
  · rw [e1]; exact h3
  · rw [e1, e2]; exact ⟨v, by omega, b2, b3, b4⟩
  · rw [e2]; exact h5
  · rw [e2]; exact h6
  · exact h7
  · rw [e1]; exact h8
  · rw [e1]; exact h9
theorem RelZ_eq (h : RelZ G k) (e3 : ∀ j, 8 ≤ j → j ≤ 15 → j ≠ 9 → G' j k = G j k) (e4 : ∀ i, i < 6 → G' 16 (6 * k + i) = G 16 (6 * k + i) ∧ G' 17 (6 * k + i) = G 17 (6 * k + i)) (e5 : ∀ q, q < 18 → G' 18 (18 * k + q) = G 18 (18 * k + q)) : RelZ G' k := by
  obtain ⟨h1, h2, h3⟩ := h
  refine ⟨?_, fun i hi => ?_, fun q hq => ?_⟩
  · rw [e3 8 (by omega) (by omega) (by omega), e3 10 (by omega) (by omega) (by omega), e3 11 (by omega) (by omega) (by omega), e3 12 (by omega) (by omega) (by omega), e3 13 (by omega) (by omega) (by omega), e3 14 (by omega) (by omega) (by omega), e3 15 (by omega) (by omega) (by omega)]
    exact h1
  · rw [(e4 i hi).1, (e4 i hi).2]; exact h2 i hi
  · rw [e5 q hq]; exact h3 q hq
/-- the model's own mark of the last call is no part of the state -/
theorem Rel_F0 (h : Rel T bf bg n cf cg F G) (x : Int32) : Rel (T + 1) bf bg n cf cg (upd F 0 x) G := by
  obtain ⟨h1, h2, h3, h4, h5, h6, h7, h8, h9⟩ := h
  exact ⟨h1, h2, h3, h4, h5, h6, fun q hq => RelC_eq (h7 q hq) rfl rfl (fun _ _ _ => rfl) (fun _ _ => ⟨rfl, rfl⟩) (fun _ _ => rfl), h8, h9⟩
/-- one consignment has changed -/
theorem Rel_one (h : Rel T bf bg n cf cg F G) {k0 : Nat} (hk : k0 < n) (e0 : bf' 6 = bf 6 ∧ F' 19 = F 19 ∧ F' 4 = F 4) (e1 : bf' 7 = F' 20 ∧ bf' 8 = F' 3 ∧ bf' 9 = F' 4) (e2 : ∀ i, i < 6 → bg' 0 i = G' 1 i ∧ bg' 1 i = G' 2 i) (e3 : ∀ t, t < 4 → bg' 2 t = G' 5 t ∧ bg' 3 t = G' 6 t ∧ bg' 4 t = G' 7 t)
    (f1 : ∀ k, k ≠ k0 → cf' k = cf k) (f2 : ∀ k, k ≠ k0 → cg' k = cg k) (f3 : ∀ k, k ≠ k0 → ∀ j, 8 ≤ j → j ≤ 15 → G' j k = G j k) (f4 : ∀ k, k ≠ k0 → ∀ i, i < 6 → G' 16 (6 * k + i) = G 16 (6 * k + i) ∧ G' 17 (6 * k + i) = G 17 (6 * k + i)) (f5 : ∀ k, k ≠ k0 → ∀ q, q < 18 → G' 18 (18 * k + q) = G 18 (18 * k + q))
    (hC : RelC (T + 1) cf' cg' G' k0) : Rel (T + 1) bf' bg' n cf' cg' F' G' := by
  obtain ⟨h1, h2, h3, h4, h5, h6, h7, h8, h9⟩ := h
  refine ⟨h1, e0.1.trans h2, e0.2.1.trans h3, e1, e2, e3, fun k hk2 => ?_, fun k g1 g2 => ?_, by rw [e0.2.2]; exact h9⟩
  · by_cases q : k = k0
    · subst q; exact hC
    · exact RelC_eq (h7 k hk2) (f1 k q) (f2 k q) (f3 k q) (f4 k q) (f5 k q)
  · exact RelZ_eq (h8 k g1 g2) (fun j a b _ => f3 k (by omega) j a b) (f4 k (by omega)) (f5 k (by omega))
/-- the model's digest of one consignment is the class's -/
theorem rl_td (h : RelC T cf cg G k) : ∀ j, j ≤ 6 → m_em G k j = b_td cg k j := by
  intro j
  induction j with
  | zero => intro _; rfl
  | succ j ih =>
    intro hj
    show m_em G k j + G 16 (6 * k + j) = b_td cg k j + cg k 2 j
    rw [ih (by omega), (h.2.1 j (by omega)).1]
theorem rl_dn (h : RelC T cf cg G k) (hs : ∀ i, i < 6 → bg 0 i = G 1 i) : ∀ j, j ≤ 6 → m_ow G k j = b_dn bg cg k j := by
  intro j
  induction j with
  | zero => intro _; rfl
  | succ j ih =>
    intro hj
    show m_ow G k j + G 16 (6 * k + j) * G 1 j = b_dn bg cg k j + cg k 2 j * bg 0 j
    rw [ih (by omega), (h.2.1 j (by omega)).1, hs j (by omega)]
theorem rl_rw (h : RelC T cf cg G k) (hs : ∀ i, i < 6 → bg 1 i = G 2 i) : ∀ j, j ≤ 6 → m_rs G k j = b_rw bg cg k j + (2 * (G 11 k - 1) + (if G 15 k = 0 then 0 else 30)) := by
  intro j
  induction j with
  | zero =>
    intro _
    show 2 * (G 11 k - 1) + (if G 15 k = 0 then 0 else 30) = 0 + _
    rw [Int32.zero_add]
  | succ j ih =>
    intro hj
    show m_rs G k j + (if G 16 (6 * k + j) ≤ 0 then 0 else G 2 j) = (if cg k 2 j ≤ 0 then b_rw bg cg k j else b_rw bg cg k j + bg 1 j) + _
    rw [ih (by omega), (h.2.1 j (by omega)).1, hs j (by omega)]
    by_cases q : G 16 (6 * k + j) ≤ 0
    · rw [if_pos q, if_pos q, Int32.add_zero]
    · rw [if_neg q, if_neg q, Int32.add_assoc, Int32.add_comm (2 * (G 11 k - 1) + _) (G 2 j), ← Int32.add_assoc]
theorem rl_risk (h : RelC T cf cg G k) (hT : T ≤ 10000) (hs : ∀ i, i < 6 → bg 1 i = G 2 i) (hst : ¬ cf k 5 = 0) : m_rs G k 6 = b_risk bg cf cg k := by
  obtain ⟨v, b1, b2, b3, -⟩ := h.2.2.2.2.1
  have h1 : 1 ≤ v := b3 hst
  have e6 : cf k 6 = G 11 k := h.1.2.2.2.1
  have e10 : cf k 10 = G 15 k := h.1.2.2.2.2.2.2.2
  have e : b_rk bg cf cg k = b_rw bg cg k 6 + 2 * (G 11 k - 1) := by
    unfold b_rk
    rw [e6]
    by_cases q : G 11 k ≤ 1
    · rw [if_pos q]
      rw [← e6, b2, show (1 : Int32) = nI 1 from rfl, nI_leI (by omega) (by omega)] at q
      have hv : v = 1 := by omega
      rw [← e6, b2, hv, show 2 * (nI 1 - 1) = (0 : Int32) from rfl, Int32.add_zero]
    · rw [if_neg q]
  rw [rl_rw h hs 6 (by omega)]
  unfold b_risk
  rw [e, e10]
  by_cases q : G 15 k = 0
  · rw [if_pos q, if_pos q, Int32.add_zero]
  · rw [if_neg q, if_neg q, Int32.add_assoc]
theorem rl_must (h : RelC T cf cg G k) (hT : T ≤ 10000) (hs : ∀ i, i < 6 → bg 1 i = G 2 i) (h8 : bf 8 = F 3) : m_must F G k = b_must bf bg cf cg k := by
  unfold m_must b_must
  rw [← h.1.2.2.1, ← h.1.2.2.2.2.2.1, ← h.1.2.2.2.2.2.2.1, h8]
  by_cases q : cf k 5 = 1
  · rw [rl_risk h hT hs (by rw [q]; decide)]
  · rw [decide_eq_false q, Bool.false_and, Bool.false_and]
theorem rl_cn (h : Rel T bf bg n cf cg F G) (hT : T ≤ 10000) : ∀ j, b_cn bf bg n cf cg j = m_cn F G (min j n) := by
  intro j
  induction j with
  | zero => rw [Nat.zero_min]; rfl
  | succ j ih =>
    show (if j < n then (if b_must bf bg cf cg j = true then b_cn bf bg n cf cg j + 1 else b_cn bf bg n cf cg j) else b_cn bf bg n cf cg j) = _
    by_cases q : j < n
    · rw [if_pos q, show min (j + 1) n = min j n + 1 by omega, ih, show min j n = j by omega]
      show _ = m_cn F G j + b2i (m_must F G j = true)
      rw [rl_must (h.2.2.2.2.2.2.1 j q) hT (fun i hi => (h.2.2.2.2.1 i hi).2) h.2.2.2.1.2.1]
      by_cases z : b_must bf bg cf cg j = true
      · rw [if_pos z, b2i, if_pos z]
      · rw [if_neg z, b2i, if_neg z, Int32.add_zero]
    · rw [if_neg q, show min (j + 1) n = min j n by omega, ih]
theorem rl_gs (h : Rel T bf bg n cf cg F G) {v x : Nat} (hv : v < 6) (hx : x < 3) : ∀ j, b_gs n cg v x j = m_sr G v x (min j n) := by
  intro j
  induction j with
  | zero => rw [Nat.zero_min]; rfl
  | succ j ih =>
    show (if j < n then b_gs n cg v x j + cg j 4 (v * 3 + x) else b_gs n cg v x j) = _
    by_cases q : j < n
    · rw [if_pos q, show min (j + 1) n = min j n + 1 by omega, ih, show min j n = j by omega]
      show _ = m_sr G v x j + G 18 (3 * (6 * j + v) + x)
      rw [(h.2.2.2.2.2.2.1 j q).2.2.1 (v * 3 + x) (by omega), show 18 * j + (v * 3 + x) = 3 * (6 * j + v) + x by omega]
    · rw [if_neg q, show min (j + 1) n = min j n by omega, ih]
end RL
theorem rl_ifc {P Q : Prop} [Decidable P] [Decidable Q] (h : P ↔ Q) {a b : Int32} : (if P then a else b) = (if Q then a else b) := by
  by_cases q : P
  · rw [if_pos q, if_pos (h.mp q)]
  · rw [if_neg q, if_neg (fun z => q (h.mpr z))]
theorem rl_if0 {P : Prop} [Decidable P] {a b : Int32} (h : (if P then a else b) = 0) (hb : ¬ b = 0) : P ∧ a = 0 := by
  by_cases q : P
  · rw [if_pos q] at h
    exact ⟨q, h⟩
  · rw [if_neg q] at h
    exact absurd h hb
theorem rl_td0 {cg : Nat → Nat → Nat → Int32} {k : Nat} (h : ∀ i, i < 6 → cg k 2 i = 0) : ∀ j, j ≤ 6 → b_td cg k j = 0 := by
  intro j
  induction j with
  | zero => intro _; rfl
  | succ j ih =>
    intro hj
    show b_td cg k j + cg k 2 j = 0
    rw [ih (by omega), h j (by omega), Int32.add_zero]
theorem rl_smp {z : Nat} (h : z ≤ 10) {x : Int32} : b_smp x (nI z) = m_smp x (nI z) := by
  unfold b_smp m_smp
  rcases Nat.eq_zero_or_pos z with q | q
  · subst q
    rw [if_pos (by decide), if_pos (by decide)]
  · rw [if_neg (nI_ne0 q (by omega)), if_neg (nI_nle q (by omega))]
theorem rl_ow {G G' : Nat → Nat → Int32} {k : Nat} (h1 : G' 16 = G 16) (h2 : G' 1 = G 1) : ∀ j, m_ow G' k j = m_ow G k j := by
  intro j
  induction j with
  | zero => rfl
  | succ j ih =>
    show m_ow G' k j + G' 16 (6 * k + j) * G' 1 j = m_ow G k j + G 16 (6 * k + j) * G 1 j
    rw [ih, h1, h2]
theorem rl_tde {cg cg' : Nat → Nat → Nat → Int32} {k : Nat} (h : cg' k 2 = cg k 2) : ∀ j, b_td cg' k j = b_td cg k j := by
  intro j
  induction j with
  | zero => rfl
  | succ j ih =>
    show b_td cg' k j + cg' k 2 j = b_td cg k j + cg k 2 j
    rw [ih, h]
theorem rl_tdS {cg : Nat → Nat → Nat → Int32} {k : Nat} {d : Nat → Nat} (h : ∀ i, i < 6 → cg k 2 i = nI (d i)) : ∀ j, j ≤ 6 → b_td cg k j = nI (rl_S d j) := by
  intro j
  induction j with
  | zero => intro _; rfl
  | succ j ih =>
    intro hj
    show b_td cg k j + cg k 2 j = nI (rl_S d j + d j)
    rw [ih (by omega), h j (by omega), nI_add]
theorem rl_S3 {r : Nat} {d : Nat → Nat} (hr : r < 3) : rl_S (fun q => if q % 3 = r then d (q / 3) else 0) 18 = rl_S d 6 := by
  have h : r = 0 ∨ r = 1 ∨ r = 2 := by omega
  rcases h with rfl | rfl | rfl <;> simp [rl_S]
theorem rl_tk_in {G : Nat → Nat → Int32} {k i j : Nat} : i < j → m_tk G k j (6 * k + i) = G 1 i := by
  induction j with
  | zero => intro h; omega
  | succ j ih =>
    intro h
    show upd (m_tk G k j) (6 * k + j) (G 1 j) (6 * k + i) = G 1 i
    by_cases q : i = j
    · rw [q, pk_us]
    · rw [pk_un (by omega)]
      exact ih (by omega)
theorem rl_tk_out {G : Nat → Nat → Int32} {k q j : Nat} : q < 6 * k ∨ 6 * k + j ≤ q → m_tk G k j q = G 17 q := by
  induction j with
  | zero => intro _; rfl
  | succ j ih =>
    intro h
    show upd (m_tk G k j) (6 * k + j) (G 1 j) q = G 17 q
    rw [pk_un (by omega)]
    exact ih (by omega)
theorem rl_ed_in {bg : Nat → Nat → Int32} {cg : Nat → Nat → Nat → Int32} {k i j : Nat} : i < j → b_ed bg cg k j i = bg 0 i := by
  induction j with
  | zero => intro h; omega
  | succ j ih =>
    intro h
    show upd (b_ed bg cg k j) j (bg 0 j) i = bg 0 i
    by_cases q : i = j
    · rw [q, pk_us]
    · rw [pk_un (by omega)]
      exact ih (by omega)
theorem rl_st_in {G : Nat → Nat → Int32} {k r i j : Nat} : i < j → r < 3 → m_st G k r j (3 * (6 * k + i) + r) = G 16 (6 * k + i) := by
  induction j with
  | zero => intro h; omega
  | succ j ih =>
    intro h hr
    show upd (m_st G k r j) (3 * (6 * k + j) + r) (G 16 (6 * k + j)) (3 * (6 * k + i) + r) = G 16 (6 * k + i)
    by_cases q : i = j
    · rw [q, pk_us]
    · rw [pk_un (by omega)]
      exact ih (by omega) hr
theorem rl_st_out {G : Nat → Nat → Int32} {k r q j : Nat} : (∀ i, i < j → q ≠ 3 * (6 * k + i) + r) → m_st G k r j q = G 18 q := by
  induction j with
  | zero => intro _; rfl
  | succ j ih =>
    intro h
    show upd (m_st G k r j) (3 * (6 * k + j) + r) (G 16 (6 * k + j)) q = G 18 q
    rw [pk_un (h j (by omega))]
    exact ih (fun i hi => h i (by omega))
theorem rl_es_in {cg : Nat → Nat → Nat → Int32} {k r i j : Nat} : i < j → r < 3 → b_es cg k r j (i * 3 + r) = cg k 2 i := by
  induction j with
  | zero => intro h; omega
  | succ j ih =>
    intro h hr
    show upd (b_es cg k r j) (j * 3 + r) (cg k 2 j) (i * 3 + r) = cg k 2 i
    by_cases q : i = j
    · rw [q, pk_us]
    · rw [pk_un (by omega)]
      exact ih (by omega) hr
theorem rl_es_out {cg : Nat → Nat → Nat → Int32} {k r q j : Nat} : (∀ i, i < j → q ≠ i * 3 + r) → b_es cg k r j q = cg k 4 q := by
  induction j with
  | zero => intro _; rfl
  | succ j ih =>
    intro h
    show upd (b_es cg k r j) (j * 3 + r) (cg k 2 j) q = cg k 4 q
    rw [pk_un (h j (by omega))]
    exact ih (fun i hi => h i (by omega))
/-- goods: a sort, a store, an amount from 1 to 100 -/
theorem rl_gd {v x z : Int32} (h : m_gd v x z = true) : ix v < 6 ∧ ix x < 3 ∧ x = nI (ix x) ∧ ∃ j : Nat, 1 ≤ j ∧ j ≤ 100 ∧ z = nI j := by
  unfold m_gd at h
  rw [Bool.and_eq_true, Bool.and_eq_true] at h
  obtain ⟨⟨h1, h2⟩, h3⟩ := h
  have g2 := in_ix (N := 3) (by decide) (by decide) h2
  refine ⟨(in_ix (N := 6) (by decide) (by decide) h1).2, g2.2, g2.1, ?_⟩
  obtain ⟨k1, k2⟩ := m_in_iff.mp h3
  obtain ⟨j, hj, rfl⟩ := nI_of (x := z) (fun q => k1 (Int32.lt_trans q (by decide)))
  rw [show (1 : Int32) = nI 1 from rfl, nI_ltI hj (by omega)] at k1
  rw [show (100 : Int32) = nI 100 from rfl, nI_ltI (by omega) hj] at k2
  exact ⟨j, by omega, by omega, rfl⟩
theorem rl_u18 {f H : Nat → Int32} {k a : Nat} {v : Int32} (ha : a < 18) (h : ∀ q, q < 18 → f q = H (18 * k + q)) : ∀ q, q < 18 → upd f a v q = upd H (18 * k + a) v (18 * k + q) := fun q hq => by
  by_cases y : q = a
  · rw [y, pk_us, pk_us]
  · rw [pk_un y, pk_un (by omega), h q hq]
theorem rl_uI {f : Nat → Int32} {g : Nat → Nat} {a b : Nat} {v : Int32} (hv : v = nI b) (h : ∀ q, q < 18 → f q = nI (g q)) : ∀ q, q < 18 → upd f a v q = nI (if q = a then b else g q) := fun q hq => by
  by_cases y : q = a
  · rw [y, pk_us, if_pos rfl, hv]
  · rw [pk_un y, if_neg y, h q hq]
/-- goods that leave -/
theorem rl_lv {T : Nat} {cf : Nat → Nat → Int32} {cg : Nat → Nat → Nat → Int32} {G G' : Nat → Nat → Int32} {k i j jz : Nat} {y : Int32} (C : RelC T cf cg G k) (hi : i < 6) (hj : j < 3) (z1 : 1 ≤ jz) (z2 : jz ≤ 100) (z3 : y = nI jz) (hle : y ≤ cg k 4 (i * 3 + j))
    (o8 : ∀ j, 8 ≤ j → j ≤ 15 → j ≠ 10 → G' j = G j) (o10 : G' 10 = upd (G 10) k (if m_lf (upd (G 18) (3 * (6 * k + i) + j) (G 18 (3 * (6 * k + i) + j) - y)) (3 * (6 * k + 0) + 0) 18 = 0 then 3 else 2)) (o16 : G' 16 = G 16) (o17 : G' 17 = G 17) (o18 : G' 18 = upd (G 18) (3 * (6 * k + i) + j) (G 18 (3 * (6 * k + i) + j) - y)) :
    RelC (T + 1) (b_to_cf cf k y) (va_up cg k (va_up (cg k) 4 (upd (cg k 4) (i * 3 + j) (cg k 4 (i * 3 + j) - y)))) G' k := by
  obtain ⟨g, h6, h7, h8, h9⟩ := RelC_g C
  obtain ⟨⟨a1, a2, a3, a4, a5, a6, a7, a8⟩, c1, c2, c3, ⟨w, b1, b2, b3, b4⟩, c5, -⟩ := id C
  have q1 : i * 3 + j < 18 := by omega
  have gle := rl_S_le (g := g) q1
  have hjz : jz ≤ g (i * 3 + j) := by
    rw [h6 _ q1, z3, nI_leI (by omega) (by omega)] at hle
    exact hle
  have hst : cf k 5 = 2 := by
    apply Decidable.byContradiction
    intro q
    have := h9 q _ q1
    omega
  have p1 : 3 * (6 * k + i) + j = 18 * k + (i * 3 + j) := by omega
  rw [p1, ← c2 _ q1] at o10 o18
  have hg1 : ∀ q, q < 18 → upd (cg k 4) (i * 3 + j) (cg k 4 (i * 3 + j) - y) q = nI (if q = i * 3 + j then g (i * 3 + j) - jz else g q) := rl_uI (by rw [h6 _ q1, z3, pk_sub hjz]) h6
  have e18 := rl_u18 (v := cg k 4 (i * 3 + j) - y) q1 c2
  have S1 := rl_S_up (g := g) (v := g (i * 3 + j) - jz) q1
  have lf : m_lf (upd (G 18) (18 * k + (i * 3 + j)) (cg k 4 (i * 3 + j) - y)) (3 * (6 * k + 0) + 0) 18 = nI (rl_S (fun q => if q = i * 3 + j then g (i * 3 + j) - jz else g q) 18) := by
    rw [show 3 * (6 * k + 0) + 0 = 18 * k by omega]
    exact rl_lf (fun q hq => (e18 q hq).symm.trans (hg1 q hq))
  have e9 : cf k 9 - y = nI (rl_S (fun q => if q = i * 3 + j then g (i * 3 + j) - jz else g q) 18) := by
    rw [h8, z3, pk_sub (by omega)]
    exact congrArg nI (by omega)
  rw [lf, ← e9] at o10
  have hse : ∀ q, q ≠ 5 → q ≠ 9 → b_to_cf cf k y k q = cf k q := fun q y5 y9 => by
    unfold b_to_cf
    by_cases z : cf k 9 - y = 0
    · rw [if_pos z, va_up_self, pk_un y5, pk_un y9]
    · rw [if_neg z, va_up_self, pk_un y9]
  have h59 : b_to_cf cf k y k 9 = cf k 9 - y ∧ b_to_cf cf k y k 5 = (if cf k 9 - y = 0 then 3 else 2) := by
    unfold b_to_cf
    by_cases z : cf k 9 - y = 0
    · rw [if_pos z, if_pos z, va_up_self]
      exact ⟨rfl, rfl⟩
    · rw [if_neg z, if_neg z, va_up_self]
      exact ⟨rfl, hst⟩
  have hw : 1 ≤ w := b3 (by rw [hst]; decide)
  refine RelC_mk ?_ ?_ ?_ ?_ ?_ ?_ (fun q => if q = i * 3 + j then g (i * 3 + j) - jz else g q) ?_ ?_ ?_ ?_
  · rw [hse 0 (by decide) (by decide), hse 1 (by decide) (by decide), hse 6 (by decide) (by decide), hse 7 (by decide) (by decide), hse 8 (by decide) (by decide), hse 11 (by decide) (by decide), hse 10 (by decide) (by decide), h59.2, o8 8 (by decide) (by decide) (by decide), o8 9 (by decide) (by decide) (by decide), o8 11 (by decide) (by decide) (by decide), o8 12 (by decide) (by decide) (by decide), o8 13 (by decide) (by decide) (by decide), o8 14 (by decide) (by decide) (by decide), o8 15 (by decide) (by decide) (by decide), o10, pk_us]
    exact ⟨a1, a2, rfl, a4, a5, a6, a7, a8⟩
  · rw [va_up_self, o16, o17]
    exact c1
  · rw [va_up_self, o18]
    exact e18
  · rw [hse 0 (by decide) (by decide)]
    exact c3
  · rw [hse 6 (by decide) (by decide), va_up_self]
    exact ⟨w, by omega, b2, fun _ => hw, b4⟩
  · rw [va_up_self]
    exact c5
  · rw [va_up_self]
    exact hg1
  · omega
  · rw [h59.1, e9]
  · intro z q hq
    rw [h59.2] at z
    refine rl_S_z (g := fun q => if q = i * 3 + j then g (i * 3 + j) - jz else g q) (n := 18) ?_ q hq
    apply Decidable.byContradiction
    intro y0
    refine z (if_neg (fun y1 => ?_))
    rw [e9] at y1
    exact nI_ne0 (by omega) (by omega) y1
