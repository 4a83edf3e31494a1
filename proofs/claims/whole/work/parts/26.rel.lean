def RelC (T : Nat) (cf : Nat → Nat → Int32) (cg : Nat → Nat → Nat → Int32) (G : Nat → Nat → Int32) (k : Nat) : Prop :=
  (cf k 0 = G 8 k ∧ cf k 1 = G 9 k ∧ cf k 5 = G 10 k ∧ cf k 6 = G 11 k ∧ cf k 7 = G 12 k ∧ cf k 8 = G 13 k ∧ cf k 11 = G 14 k ∧ cf k 10 = G 15 k) ∧
  (∀ i, i < 6 → cg k 2 i = G 16 (6 * k + i) ∧ cg k 3 i = G 17 (6 * k + i)) ∧ (∀ q, q < 18 → cg k 4 q = G 18 (18 * k + q)) ∧
  (∃ t, t < 4 ∧ cf k 0 = nI t) ∧ (∃ v, v ≤ T ∧ cf k 6 = nI v ∧ (¬ cf k 5 = 0 → 1 ≤ v) ∧ (v = 0 → ∀ i, i < 6 → cg k 2 i = 0)) ∧
  (∀ i, i < 6 → ∃ d, d ≤ 100 ∧ cg k 2 i = nI d) ∧
  (∃ g : Nat → Nat, (∀ q, q < 18 → cg k 4 q = nI (g q)) ∧ (List.range 18).foldl (fun z q => z + g q) 0 ≤ 600 ∧ cf k 9 = nI ((List.range 18).foldl (fun z q => z + g q) 0) ∧ (¬ cf k 5 = 2 → ∀ q, q < 18 → g q = 0))
def RelZ (G : Nat → Nat → Int32) (k : Nat) : Prop :=
  (G 8 k = 0 ∧ G 10 k = 0 ∧ G 11 k = 0 ∧ G 12 k = 0 ∧ G 13 k = 0 ∧ G 14 k = 0 ∧ G 15 k = 0) ∧ (∀ i, i < 6 → G 16 (6 * k + i) = 0 ∧ G 17 (6 * k + i) = 0) ∧ (∀ q, q < 18 → G 18 (18 * k + q) = 0)
/-- the class's state and the model's are one, after at most T calls -/
def Rel (T : Nat) (bf : Nat → Int32) (bg : Nat → Nat → Int32) (n : Nat) (cf : Nat → Nat → Int32) (cg : Nat → Nat → Nat → Int32) (F : Nat → Int32) (G : Nat → Nat → Int32) : Prop :=
  n ≤ 15 ∧ bf 6 = nI n ∧ F 19 = nI n ∧ (bf 7 = F 20 ∧ bf 8 = F 3 ∧ bf 9 = F 4) ∧ (∀ i, i < 6 → bg 0 i = G 1 i ∧ bg 1 i = G 2 i) ∧ (∀ t, t < 4 → bg 2 t = G 5 t ∧ bg 3 t = G 6 t ∧ bg 4 t = G 7 t) ∧
  (∀ k, k < n → RelC T cf cg G k) ∧ (∀ k, n ≤ k → k < 15 → RelZ G k) ∧ ∃ z, z ≤ 10 ∧ F 4 = nI z
theorem nI_ix {t : Nat} (h : t < 2 ^ 31) : ix (nI t) = t := nI_clamp h
theorem Rel_hT {T n : Nat} {bf : Nat → Int32} {bg : Nat → Nat → Int32} {cf : Nat → Nat → Int32} {cg : Nat → Nat → Nat → Int32} {F : Nat → Int32} {G : Nat → Nat → Int32} (h : Rel T bf bg n cf cg F G) : ∀ k, k < n → cf k 0 = nI (ix (cf k 0)) ∧ ix (cf k 0) < 4 := fun k hk => by
  obtain ⟨t, h1, h2⟩ := (h.2.2.2.2.2.2.1 k hk).2.2.2.1
  rw [h2, nI_ix (by omega)]
  exact ⟨rfl, h1⟩
theorem Rel_mT {T n : Nat} {bf : Nat → Int32} {bg : Nat → Nat → Int32} {cf : Nat → Nat → Int32} {cg : Nat → Nat → Nat → Int32} {F : Nat → Int32} {G : Nat → Nat → Int32} (h : Rel T bf bg n cf cg F G) : ∀ k, k < 15 → G 8 k = nI (ix (G 8 k)) ∧ ix (G 8 k) < 4 := fun k hk => by
  rcases Nat.lt_or_ge k n with q | q
  · have h1 := Rel_hT h k q
    rw [← (h.2.2.2.2.2.2.1 k q).1.1]
    exact h1
  · rw [(h.2.2.2.2.2.2.2.1 k q hk).1.1]
    exact ⟨rfl, by decide⟩
