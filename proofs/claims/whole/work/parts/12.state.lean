abbrev tyS (K : Nat → ClassId) : List (ClassId × FieldType) := [(K 0, .int), (K 1, .boolean), (K 2, .long), (K 3, .object RX0)]
def MF (a : Nat → Nat) (F : Nat → Int32) : List Value := [.int (F 0), .ref (a 1), .ref (a 2), .int (F 3), .int (F 4), .ref (a 5), .ref (a 6), .ref (a 7), .ref (a 8), .ref (a 9), .ref (a 10), .ref (a 11), .ref (a 12), .ref (a 13), .ref (a 14), .ref (a 15), .ref (a 16), .ref (a 17), .ref (a 18), .int (F 19), .int (F 20)]
/-- the model: its address a 0, its int fields F by slot, its arrays a k, G k by slot -/
def MW (K : Nat → ClassId) (a : Nat → Nat) (F : Nat → Int32) (G : Nat → Nat → Int32) : va_W := (a 0, .inr (2, MF a F)) :: (a 1, .inl (K 0, 6, .inl (G 1))) :: (a 2, .inl (K 0, 6, .inl (G 2))) :: (a 5, .inl (K 0, 4, .inl (G 5))) :: (a 6, .inl (K 0, 4, .inl (G 6))) :: (a 7, .inl (K 0, 4, .inl (G 7))) :: (a 8, .inl (K 0, 15, .inl (G 8))) :: (a 9, .inl (K 0, 15, .inl (G 9))) :: (a 10, .inl (K 0, 15, .inl (G 10))) :: (a 11, .inl (K 0, 15, .inl (G 11))) :: (a 12, .inl (K 0, 15, .inl (G 12))) :: (a 13, .inl (K 0, 15, .inl (G 13))) :: (a 14, .inl (K 1, 15, .inl (G 14))) :: (a 15, .inl (K 1, 15, .inl (G 15))) :: (a 16, .inl (K 0, 90, .inl (G 16))) :: (a 17, .inl (K 0, 90, .inl (G 17))) :: (a 18, .inl (K 0, 270, .inl (G 18))) :: []
theorem M_obj {K : Nat → ClassId} {a : Nat → Nat} {F : Nat → Int32} {G : Nat → Nat → Int32} : (MW K a F G)[0]? = some (a 0, .inr (2, MF a F)) := rfl
theorem M_g1 {K : Nat → ClassId} {a : Nat → Nat} {F : Nat → Int32} {G : Nat → Nat → Int32} : (MW K a F G)[1]? = some (a 1, .inl (K 0, 6, .inl (G 1))) := rfl
theorem M_s1 {K : Nat → ClassId} {a : Nat → Nat} {F : Nat → Int32} {G : Nat → Nat → Int32} (f : Nat → Int32) : (MW K a F G).set 1 (a 1, .inl (K 0, 6, .inl f)) = MW K a F (va_up G 1 f) := rfl
theorem M_g2 {K : Nat → ClassId} {a : Nat → Nat} {F : Nat → Int32} {G : Nat → Nat → Int32} : (MW K a F G)[2]? = some (a 2, .inl (K 0, 6, .inl (G 2))) := rfl
theorem M_s2 {K : Nat → ClassId} {a : Nat → Nat} {F : Nat → Int32} {G : Nat → Nat → Int32} (f : Nat → Int32) : (MW K a F G).set 2 (a 2, .inl (K 0, 6, .inl f)) = MW K a F (va_up G 2 f) := rfl
theorem M_g5 {K : Nat → ClassId} {a : Nat → Nat} {F : Nat → Int32} {G : Nat → Nat → Int32} : (MW K a F G)[3]? = some (a 5, .inl (K 0, 4, .inl (G 5))) := rfl
theorem M_s5 {K : Nat → ClassId} {a : Nat → Nat} {F : Nat → Int32} {G : Nat → Nat → Int32} (f : Nat → Int32) : (MW K a F G).set 3 (a 5, .inl (K 0, 4, .inl f)) = MW K a F (va_up G 5 f) := rfl
theorem M_g6 {K : Nat → ClassId} {a : Nat → Nat} {F : Nat → Int32} {G : Nat → Nat → Int32} : (MW K a F G)[4]? = some (a 6, .inl (K 0, 4, .inl (G 6))) := rfl
theorem M_s6 {K : Nat → ClassId} {a : Nat → Nat} {F : Nat → Int32} {G : Nat → Nat → Int32} (f : Nat → Int32) : (MW K a F G).set 4 (a 6, .inl (K 0, 4, .inl f)) = MW K a F (va_up G 6 f) := rfl
theorem M_g7 {K : Nat → ClassId} {a : Nat → Nat} {F : Nat → Int32} {G : Nat → Nat → Int32} : (MW K a F G)[5]? = some (a 7, .inl (K 0, 4, .inl (G 7))) := rfl
theorem M_s7 {K : Nat → ClassId} {a : Nat → Nat} {F : Nat → Int32} {G : Nat → Nat → Int32} (f : Nat → Int32) : (MW K a F G).set 5 (a 7, .inl (K 0, 4, .inl f)) = MW K a F (va_up G 7 f) := rfl
theorem M_g8 {K : Nat → ClassId} {a : Nat → Nat} {F : Nat → Int32} {G : Nat → Nat → Int32} : (MW K a F G)[6]? = some (a 8, .inl (K 0, 15, .inl (G 8))) := rfl
theorem M_s8 {K : Nat → ClassId} {a : Nat → Nat} {F : Nat → Int32} {G : Nat → Nat → Int32} (f : Nat → Int32) : (MW K a F G).set 6 (a 8, .inl (K 0, 15, .inl f)) = MW K a F (va_up G 8 f) := rfl
theorem M_g9 {K : Nat → ClassId} {a : Nat → Nat} {F : Nat → Int32} {G : Nat → Nat → Int32} : (MW K a F G)[7]? = some (a 9, .inl (K 0, 15, .inl (G 9))) := rfl
theorem M_s9 {K : Nat → ClassId} {a : Nat → Nat} {F : Nat → Int32} {G : Nat → Nat → Int32} (f : Nat → Int32) : (MW K a F G).set 7 (a 9, .inl (K 0, 15, .inl f)) = MW K a F (va_up G 9 f) := rfl
theorem M_g10 {K : Nat → ClassId} {a : Nat → Nat} {F : Nat → Int32} {G : Nat → Nat → Int32} : (MW K a F G)[8]? = some (a 10, .inl (K 0, 15, .inl (G 10))) := rfl
theorem M_s10 {K : Nat → ClassId} {a : Nat → Nat} {F : Nat → Int32} {G : Nat → Nat → Int32} (f : Nat → Int32) : (MW K a F G).set 8 (a 10, .inl (K 0, 15, .inl f)) = MW K a F (va_up G 10 f) := rfl
theorem M_g11 {K : Nat → ClassId} {a : Nat → Nat} {F : Nat → Int32} {G : Nat → Nat → Int32} : (MW K a F G)[9]? = some (a 11, .inl (K 0, 15, .inl (G 11))) := rfl
theorem M_s11 {K : Nat → ClassId} {a : Nat → Nat} {F : Nat → Int32} {G : Nat → Nat → Int32} (f : Nat → Int32) : (MW K a F G).set 9 (a 11, .inl (K 0, 15, .inl f)) = MW K a F (va_up G 11 f) := rfl
theorem M_g12 {K : Nat → ClassId} {a : Nat → Nat} {F : Nat → Int32} {G : Nat → Nat → Int32} : (MW K a F G)[10]? = some (a 12, .inl (K 0, 15, .inl (G 12))) := rfl
theorem M_s12 {K : Nat → ClassId} {a : Nat → Nat} {F : Nat → Int32} {G : Nat → Nat → Int32} (f : Nat → Int32) : (MW K a F G).set 10 (a 12, .inl (K 0, 15, .inl f)) = MW K a F (va_up G 12 f) := rfl
theorem M_g13 {K : Nat → ClassId} {a : Nat → Nat} {F : Nat → Int32} {G : Nat → Nat → Int32} : (MW K a F G)[11]? = some (a 13, .inl (K 0, 15, .inl (G 13))) := rfl
theorem M_s13 {K : Nat → ClassId} {a : Nat → Nat} {F : Nat → Int32} {G : Nat → Nat → Int32} (f : Nat → Int32) : (MW K a F G).set 11 (a 13, .inl (K 0, 15, .inl f)) = MW K a F (va_up G 13 f) := rfl
theorem M_g14 {K : Nat → ClassId} {a : Nat → Nat} {F : Nat → Int32} {G : Nat → Nat → Int32} : (MW K a F G)[12]? = some (a 14, .inl (K 1, 15, .inl (G 14))) := rfl
theorem M_s14 {K : Nat → ClassId} {a : Nat → Nat} {F : Nat → Int32} {G : Nat → Nat → Int32} (f : Nat → Int32) : (MW K a F G).set 12 (a 14, .inl (K 1, 15, .inl f)) = MW K a F (va_up G 14 f) := rfl
theorem M_g15 {K : Nat → ClassId} {a : Nat → Nat} {F : Nat → Int32} {G : Nat → Nat → Int32} : (MW K a F G)[13]? = some (a 15, .inl (K 1, 15, .inl (G 15))) := rfl
theorem M_s15 {K : Nat → ClassId} {a : Nat → Nat} {F : Nat → Int32} {G : Nat → Nat → Int32} (f : Nat → Int32) : (MW K a F G).set 13 (a 15, .inl (K 1, 15, .inl f)) = MW K a F (va_up G 15 f) := rfl
theorem M_g16 {K : Nat → ClassId} {a : Nat → Nat} {F : Nat → Int32} {G : Nat → Nat → Int32} : (MW K a F G)[14]? = some (a 16, .inl (K 0, 90, .inl (G 16))) := rfl
theorem M_s16 {K : Nat → ClassId} {a : Nat → Nat} {F : Nat → Int32} {G : Nat → Nat → Int32} (f : Nat → Int32) : (MW K a F G).set 14 (a 16, .inl (K 0, 90, .inl f)) = MW K a F (va_up G 16 f) := rfl
theorem M_g17 {K : Nat → ClassId} {a : Nat → Nat} {F : Nat → Int32} {G : Nat → Nat → Int32} : (MW K a F G)[15]? = some (a 17, .inl (K 0, 90, .inl (G 17))) := rfl
theorem M_s17 {K : Nat → ClassId} {a : Nat → Nat} {F : Nat → Int32} {G : Nat → Nat → Int32} (f : Nat → Int32) : (MW K a F G).set 15 (a 17, .inl (K 0, 90, .inl f)) = MW K a F (va_up G 17 f) := rfl
theorem M_g18 {K : Nat → ClassId} {a : Nat → Nat} {F : Nat → Int32} {G : Nat → Nat → Int32} : (MW K a F G)[16]? = some (a 18, .inl (K 0, 270, .inl (G 18))) := rfl
theorem M_s18 {K : Nat → ClassId} {a : Nat → Nat} {F : Nat → Int32} {G : Nat → Nat → Int32} (f : Nat → Int32) : (MW K a F G).set 16 (a 18, .inl (K 0, 270, .inl f)) = MW K a F (va_up G 18 f) := rfl
theorem M_f0 {K : Nat → ClassId} {a : Nat → Nat} {F : Nat → Int32} {G : Nat → Nat → Int32} (v : Int32) : (MW K a F G).set 0 (a 0, .inr (2, (MF a F).set 0 (.int v))) = MW K a (upd F 0 v) G := rfl
theorem M_f3 {K : Nat → ClassId} {a : Nat → Nat} {F : Nat → Int32} {G : Nat → Nat → Int32} (v : Int32) : (MW K a F G).set 0 (a 0, .inr (2, (MF a F).set 3 (.int v))) = MW K a (upd F 3 v) G := rfl
theorem M_f4 {K : Nat → ClassId} {a : Nat → Nat} {F : Nat → Int32} {G : Nat → Nat → Int32} (v : Int32) : (MW K a F G).set 0 (a 0, .inr (2, (MF a F).set 4 (.int v))) = MW K a (upd F 4 v) G := rfl
theorem M_f19 {K : Nat → ClassId} {a : Nat → Nat} {F : Nat → Int32} {G : Nat → Nat → Int32} (v : Int32) : (MW K a F G).set 0 (a 0, .inr (2, (MF a F).set 19 (.int v))) = MW K a (upd F 19 v) G := rfl
theorem M_f20 {K : Nat → ClassId} {a : Nat → Nat} {F : Nat → Int32} {G : Nat → Nat → Int32} (v : Int32) : (MW K a F G).set 0 (a 0, .inr (2, (MF a F).set 20 (.int v))) = MW K a (upd F 20 v) G := rfl
def BF (ba : Nat → Nat) (bf : Nat → Int32) : List Value := [.ref (ba 0), .ref (ba 1), .ref (ba 2), .ref (ba 3), .ref (ba 4), .ref (ba 5), .int (bf 6), .int (bf 7), .int (bf 8), .int (bf 9)]
def CF (ca : Nat → Nat → Nat) (cf : Nat → Nat → Int32) (k : Nat) : List Value := [.int (cf k 0), .int (cf k 1), .ref (ca k 2), .ref (ca k 3), .ref (ca k 4), .int (cf k 5), .int (cf k 6), .int (cf k 7), .int (cf k 8), .int (cf k 9), .int (cf k 10), .int (cf k 11)]
def CW (K : Nat → ClassId) (ca : Nat → Nat → Nat) (cf : Nat → Nat → Int32) (cg : Nat → Nat → Nat → Int32) (k : Nat) : va_W := [(ca k 0, .inr (0, CF ca cf k)), (ca k 2, .inl (K 0, 6, .inl (cg k 2))), (ca k 3, .inl (K 0, 6, .inl (cg k 3))), (ca k 4, .inl (K 0, 18, .inl (cg k 4)))]
def CR (ca : Nat → Nat → Nat) (n : Nat) : Nat → Option Nat := fun k => if k < n then some (ca k 0) else none
/-- the border house: its address ba 6, int fields bf by slot, arrays ba k, bg k; n consignments: fields cf k, arrays cg k -/
def BW (K : Nat → ClassId) (ba : Nat → Nat) (bf : Nat → Int32) (bg : Nat → Nat → Int32) (n : Nat) (ca : Nat → Nat → Nat) (cf : Nat → Nat → Int32) (cg : Nat → Nat → Nat → Int32) : va_W := (ba 6, .inr (1, BF ba bf)) :: (ba 0, .inl (K 0, 6, .inl (bg 0))) :: (ba 1, .inl (K 0, 6, .inl (bg 1))) :: (ba 2, .inl (K 0, 4, .inl (bg 2))) :: (ba 3, .inl (K 0, 4, .inl (bg 3))) :: (ba 4, .inl (K 0, 4, .inl (bg 4))) :: (ba 5, .inl (K 3, 15, .inr (.inr (.inr (.inr (CR ca n)))))) :: (List.range n).flatMap (CW K ca cf cg)
theorem B_obj {K : Nat → ClassId} {ba : Nat → Nat} {bf : Nat → Int32} {bg : Nat → Nat → Int32} {n : Nat} {ca : Nat → Nat → Nat} {cf : Nat → Nat → Int32} {cg : Nat → Nat → Nat → Int32} : (BW K ba bf bg n ca cf cg)[0]? = some (ba 6, .inr (1, BF ba bf)) := rfl
theorem B_g0 {K : Nat → ClassId} {ba : Nat → Nat} {bf : Nat → Int32} {bg : Nat → Nat → Int32} {n : Nat} {ca : Nat → Nat → Nat} {cf : Nat → Nat → Int32} {cg : Nat → Nat → Nat → Int32} : (BW K ba bf bg n ca cf cg)[1]? = some (ba 0, .inl (K 0, 6, .inl (bg 0))) := rfl
theorem B_s0 {K : Nat → ClassId} {ba : Nat → Nat} {bf : Nat → Int32} {bg : Nat → Nat → Int32} {n : Nat} {ca : Nat → Nat → Nat} {cf : Nat → Nat → Int32} {cg : Nat → Nat → Nat → Int32} (f : Nat → Int32) : (BW K ba bf bg n ca cf cg).set 1 (ba 0, .inl (K 0, 6, .inl f)) = BW K ba bf (va_up bg 0 f) n ca cf cg := rfl
theorem B_g1 {K : Nat → ClassId} {ba : Nat → Nat} {bf : Nat → Int32} {bg : Nat → Nat → Int32} {n : Nat} {ca : Nat → Nat → Nat} {cf : Nat → Nat → Int32} {cg : Nat → Nat → Nat → Int32} : (BW K ba bf bg n ca cf cg)[2]? = some (ba 1, .inl (K 0, 6, .inl (bg 1))) := rfl
theorem B_s1 {K : Nat → ClassId} {ba : Nat → Nat} {bf : Nat → Int32} {bg : Nat → Nat → Int32} {n : Nat} {ca : Nat → Nat → Nat} {cf : Nat → Nat → Int32} {cg : Nat → Nat → Nat → Int32} (f : Nat → Int32) : (BW K ba bf bg n ca cf cg).set 2 (ba 1, .inl (K 0, 6, .inl f)) = BW K ba bf (va_up bg 1 f) n ca cf cg := rfl
theorem B_g2 {K : Nat → ClassId} {ba : Nat → Nat} {bf : Nat → Int32} {bg : Nat → Nat → Int32} {n : Nat} {ca : Nat → Nat → Nat} {cf : Nat → Nat → Int32} {cg : Nat → Nat → Nat → Int32} : (BW K ba bf bg n ca cf cg)[3]? = some (ba 2, .inl (K 0, 4, .inl (bg 2))) := rfl
theorem B_s2 {K : Nat → ClassId} {ba : Nat → Nat} {bf : Nat → Int32} {bg : Nat → Nat → Int32} {n : Nat} {ca : Nat → Nat → Nat} {cf : Nat → Nat → Int32} {cg : Nat → Nat → Nat → Int32} (f : Nat → Int32) : (BW K ba bf bg n ca cf cg).set 3 (ba 2, .inl (K 0, 4, .inl f)) = BW K ba bf (va_up bg 2 f) n ca cf cg := rfl
theorem B_g3 {K : Nat → ClassId} {ba : Nat → Nat} {bf : Nat → Int32} {bg : Nat → Nat → Int32} {n : Nat} {ca : Nat → Nat → Nat} {cf : Nat → Nat → Int32} {cg : Nat → Nat → Nat → Int32} : (BW K ba bf bg n ca cf cg)[4]? = some (ba 3, .inl (K 0, 4, .inl (bg 3))) := rfl
theorem B_s3 {K : Nat → ClassId} {ba : Nat → Nat} {bf : Nat → Int32} {bg : Nat → Nat → Int32} {n : Nat} {ca : Nat → Nat → Nat} {cf : Nat → Nat → Int32} {cg : Nat → Nat → Nat → Int32} (f : Nat → Int32) : (BW K ba bf bg n ca cf cg).set 4 (ba 3, .inl (K 0, 4, .inl f)) = BW K ba bf (va_up bg 3 f) n ca cf cg := rfl
theorem B_g4 {K : Nat → ClassId} {ba : Nat → Nat} {bf : Nat → Int32} {bg : Nat → Nat → Int32} {n : Nat} {ca : Nat → Nat → Nat} {cf : Nat → Nat → Int32} {cg : Nat → Nat → Nat → Int32} : (BW K ba bf bg n ca cf cg)[5]? = some (ba 4, .inl (K 0, 4, .inl (bg 4))) := rfl
theorem B_s4 {K : Nat → ClassId} {ba : Nat → Nat} {bf : Nat → Int32} {bg : Nat → Nat → Int32} {n : Nat} {ca : Nat → Nat → Nat} {cf : Nat → Nat → Int32} {cg : Nat → Nat → Nat → Int32} (f : Nat → Int32) : (BW K ba bf bg n ca cf cg).set 5 (ba 4, .inl (K 0, 4, .inl f)) = BW K ba bf (va_up bg 4 f) n ca cf cg := rfl
theorem B_g5 {K : Nat → ClassId} {ba : Nat → Nat} {bf : Nat → Int32} {bg : Nat → Nat → Int32} {n : Nat} {ca : Nat → Nat → Nat} {cf : Nat → Nat → Int32} {cg : Nat → Nat → Nat → Int32} : (BW K ba bf bg n ca cf cg)[6]? = some (ba 5, .inl (K 3, 15, .inr (.inr (.inr (.inr (CR ca n)))))) := rfl
theorem B_f6 {K : Nat → ClassId} {ba : Nat → Nat} {bf : Nat → Int32} {bg : Nat → Nat → Int32} {n : Nat} {ca : Nat → Nat → Nat} {cf : Nat → Nat → Int32} {cg : Nat → Nat → Nat → Int32} (v : Int32) : (BW K ba bf bg n ca cf cg).set 0 (ba 6, .inr (1, (BF ba bf).set 6 (.int v))) = BW K ba (upd bf 6 v) bg n ca cf cg := rfl
theorem B_f7 {K : Nat → ClassId} {ba : Nat → Nat} {bf : Nat → Int32} {bg : Nat → Nat → Int32} {n : Nat} {ca : Nat → Nat → Nat} {cf : Nat → Nat → Int32} {cg : Nat → Nat → Nat → Int32} (v : Int32) : (BW K ba bf bg n ca cf cg).set 0 (ba 6, .inr (1, (BF ba bf).set 7 (.int v))) = BW K ba (upd bf 7 v) bg n ca cf cg := rfl
theorem B_f8 {K : Nat → ClassId} {ba : Nat → Nat} {bf : Nat → Int32} {bg : Nat → Nat → Int32} {n : Nat} {ca : Nat → Nat → Nat} {cf : Nat → Nat → Int32} {cg : Nat → Nat → Nat → Int32} (v : Int32) : (BW K ba bf bg n ca cf cg).set 0 (ba 6, .inr (1, (BF ba bf).set 8 (.int v))) = BW K ba (upd bf 8 v) bg n ca cf cg := rfl
theorem B_f9 {K : Nat → ClassId} {ba : Nat → Nat} {bf : Nat → Int32} {bg : Nat → Nat → Int32} {n : Nat} {ca : Nat → Nat → Nat} {cf : Nat → Nat → Int32} {cg : Nat → Nat → Nat → Int32} (v : Int32) : (BW K ba bf bg n ca cf cg).set 0 (ba 6, .inr (1, (BF ba bf).set 9 (.int v))) = BW K ba (upd bf 9 v) bg n ca cf cg := rfl
theorem fl_len {α : Type} (g : Nat → List α) (w : Nat) (hw : ∀ k, (g k).length = w) (n : Nat) : ((List.range n).flatMap g).length = w * n := by
  induction n with
  | zero => simp
  | succ n ih => rw [List.range_succ, List.flatMap_append, List.length_append, ih]; simp [hw, Nat.mul_succ]
theorem fl_get {α : Type} (g : Nat → List α) (w : Nat) (hw : ∀ k, (g k).length = w) (n k i : Nat) (hk : k < n) (hi : i < w) : ((List.range n).flatMap g)[w * k + i]? = (g k)[i]? := by
  induction n with
  | zero => omega
  | succ n ih =>
    rw [List.range_succ, List.flatMap_append]
    have hl := fl_len g w hw n
    by_cases h : k < n
    · rw [List.getElem?_append_left (by rw [hl]; have := Nat.mul_le_mul_left w (show k + 1 ≤ n from h); rw [Nat.mul_succ] at this; omega)]
      exact ih h
    · have e : k = n := by omega
      subst e
      rw [List.getElem?_append_right (by rw [hl]; omega), hl, Nat.add_sub_cancel_left]
      simp
theorem fl_set {α : Type} (g : Nat → List α) (w : Nat) (hw : ∀ k, (g k).length = w) (n k i : Nat) (x : α) (hk : k < n) (hi : i < w) : ((List.range n).flatMap g).set (w * k + i) x = (List.range n).flatMap (fun j => if j = k then (g j).set i x else g j) := by
  induction n with
  | zero => omega
  | succ n ih =>
    rw [List.range_succ, List.flatMap_append, List.flatMap_append]
    have hl := fl_len g w hw n
    by_cases h : k < n
    · rw [List.set_append_left _ _ (by rw [hl]; have := Nat.mul_le_mul_left w (show k + 1 ≤ n from h); rw [Nat.mul_succ] at this; omega), ih h]
      have hne : ¬ n = k := by omega
      simp [hne]
    · have e : k = n := by omega
      subst e
      rw [List.set_append_right _ _ (by rw [hl]; omega), hl, Nat.add_sub_cancel_left]
      have e2 : (List.range k).flatMap g = (List.range k).flatMap (fun j => if j = k then (g j).set i x else g j) := by
        have : ∀ m, m ≤ k → (List.range m).flatMap g = (List.range m).flatMap (fun j => if j = k then (g j).set i x else g j) := by
          intro m
          induction m with
          | zero => intro _; rfl
          | succ m im =>
            intro hm
            rw [List.range_succ, List.flatMap_append, List.flatMap_append, im (by omega)]
            have hne : ¬ m = k := by omega
            simp [hne]
        exact this k (Nat.le_refl k)
      rw [← e2]
      simp
theorem C_len {K : Nat → ClassId} {ca : Nat → Nat → Nat} {cf : Nat → Nat → Int32} {cg : Nat → Nat → Nat → Int32} : ∀ k, (CW K ca cf cg k).length = 4 := fun _ => rfl
theorem B_c {K : Nat → ClassId} {ba : Nat → Nat} {bf : Nat → Int32} {bg : Nat → Nat → Int32} {n : Nat} {ca : Nat → Nat → Nat} {cf : Nat → Nat → Int32} {cg : Nat → Nat → Nat → Int32} (k i : Nat) (hk : k < n) (hi : i < 4) : (BW K ba bf bg n ca cf cg)[4 * k + i + 7]? = (CW K ca cf cg k)[i]? := by
  rw [← fl_get (CW K ca cf cg) 4 C_len n k i hk hi]
  rfl
theorem B_cs {K : Nat → ClassId} {ba : Nat → Nat} {bf : Nat → Int32} {bg : Nat → Nat → Int32} {n : Nat} {ca : Nat → Nat → Nat} {cf : Nat → Nat → Int32} {cg : Nat → Nat → Nat → Int32} (k i : Nat) (hk : k < n) (hi : i < 4) (x : Nat × va_E) : (BW K ba bf bg n ca cf cg).set (4 * k + i + 7) x = (BW K ba bf bg 0 ca cf cg).set 6 (ba 5, .inl (K 3, 15, .inr (.inr (.inr (.inr (CR ca n)))))) ++ (List.range n).flatMap (fun j => if j = k then (CW K ca cf cg j).set i x else CW K ca cf cg j) := by
  rw [← fl_set (CW K ca cf cg) 4 C_len n k i x hk hi]
  rfl
theorem B_co {K : Nat → ClassId} {ba : Nat → Nat} {bf : Nat → Int32} {bg : Nat → Nat → Int32} {n : Nat} {ca : Nat → Nat → Nat} {cf : Nat → Nat → Int32} {cg : Nat → Nat → Nat → Int32} (k : Nat) (hk : k < n) : (BW K ba bf bg n ca cf cg)[4 * k + 0 + 7]? = some (ca k 0, .inr (0, CF ca cf k)) := B_c k 0 hk (by decide)
theorem B_c2 {K : Nat → ClassId} {ba : Nat → Nat} {bf : Nat → Int32} {bg : Nat → Nat → Int32} {n : Nat} {ca : Nat → Nat → Nat} {cf : Nat → Nat → Int32} {cg : Nat → Nat → Nat → Int32} (k : Nat) (hk : k < n) : (BW K ba bf bg n ca cf cg)[4 * k + 1 + 7]? = some (ca k 2, .inl (K 0, 6, .inl (cg k 2))) := B_c k 1 hk (by decide)
theorem B_cs2 {K : Nat → ClassId} {ba : Nat → Nat} {bf : Nat → Int32} {bg : Nat → Nat → Int32} {n : Nat} {ca : Nat → Nat → Nat} {cf : Nat → Nat → Int32} {cg : Nat → Nat → Nat → Int32} (k : Nat) (hk : k < n) (f : Nat → Int32) : (BW K ba bf bg n ca cf cg).set (4 * k + 1 + 7) (ca k 2, .inl (K 0, 6, .inl f)) = BW K ba bf bg n ca cf (va_up cg k (va_up (cg k) 2 f)) := by
  rw [B_cs k 1 hk (by decide)]
  have e : (fun j => if j = k then (CW K ca cf cg j).set 1 (ca k 2, .inl (K 0, 6, .inl f)) else CW K ca cf cg j) = CW K ca cf (va_up cg k (va_up (cg k) 2 f)) := by
    funext j
    by_cases h : j = k
    · subst h
      simp [CW, va_up]
    · simp [CW, va_up, h]
  rw [e]
  rfl
theorem B_c3 {K : Nat → ClassId} {ba : Nat → Nat} {bf : Nat → Int32} {bg : Nat → Nat → Int32} {n : Nat} {ca : Nat → Nat → Nat} {cf : Nat → Nat → Int32} {cg : Nat → Nat → Nat → Int32} (k : Nat) (hk : k < n) : (BW K ba bf bg n ca cf cg)[4 * k + 2 + 7]? = some (ca k 3, .inl (K 0, 6, .inl (cg k 3))) := B_c k 2 hk (by decide)
theorem B_cs3 {K : Nat → ClassId} {ba : Nat → Nat} {bf : Nat → Int32} {bg : Nat → Nat → Int32} {n : Nat} {ca : Nat → Nat → Nat} {cf : Nat → Nat → Int32} {cg : Nat → Nat → Nat → Int32} (k : Nat) (hk : k < n) (f : Nat → Int32) : (BW K ba bf bg n ca cf cg).set (4 * k + 2 + 7) (ca k 3, .inl (K 0, 6, .inl f)) = BW K ba bf bg n ca cf (va_up cg k (va_up (cg k) 3 f)) := by
  rw [B_cs k 2 hk (by decide)]
  have e : (fun j => if j = k then (CW K ca cf cg j).set 2 (ca k 3, .inl (K 0, 6, .inl f)) else CW K ca cf cg j) = CW K ca cf (va_up cg k (va_up (cg k) 3 f)) := by
    funext j
    by_cases h : j = k
    · subst h
      simp [CW, va_up]
    · simp [CW, va_up, h]
  rw [e]
  rfl
theorem B_c4 {K : Nat → ClassId} {ba : Nat → Nat} {bf : Nat → Int32} {bg : Nat → Nat → Int32} {n : Nat} {ca : Nat → Nat → Nat} {cf : Nat → Nat → Int32} {cg : Nat → Nat → Nat → Int32} (k : Nat) (hk : k < n) : (BW K ba bf bg n ca cf cg)[4 * k + 3 + 7]? = some (ca k 4, .inl (K 0, 18, .inl (cg k 4))) := B_c k 3 hk (by decide)
theorem B_cs4 {K : Nat → ClassId} {ba : Nat → Nat} {bf : Nat → Int32} {bg : Nat → Nat → Int32} {n : Nat} {ca : Nat → Nat → Nat} {cf : Nat → Nat → Int32} {cg : Nat → Nat → Nat → Int32} (k : Nat) (hk : k < n) (f : Nat → Int32) : (BW K ba bf bg n ca cf cg).set (4 * k + 3 + 7) (ca k 4, .inl (K 0, 18, .inl f)) = BW K ba bf bg n ca cf (va_up cg k (va_up (cg k) 4 f)) := by
  rw [B_cs k 3 hk (by decide)]
  have e : (fun j => if j = k then (CW K ca cf cg j).set 3 (ca k 4, .inl (K 0, 18, .inl f)) else CW K ca cf cg j) = CW K ca cf (va_up cg k (va_up (cg k) 4 f)) := by
    funext j
    by_cases h : j = k
    · subst h
      simp [CW, va_up]
    · simp [CW, va_up, h]
  rw [e]
  rfl
theorem B_cf5 {K : Nat → ClassId} {ba : Nat → Nat} {bf : Nat → Int32} {bg : Nat → Nat → Int32} {n : Nat} {ca : Nat → Nat → Nat} {cf : Nat → Nat → Int32} {cg : Nat → Nat → Nat → Int32} (k : Nat) (hk : k < n) (v : Int32) : (BW K ba bf bg n ca cf cg).set (4 * k + 0 + 7) (ca k 0, .inr (0, (CF ca cf k).set 5 (.int v))) = BW K ba bf bg n ca (va_up cf k (upd (cf k) 5 v)) cg := by
  rw [B_cs k 0 hk (by decide)]
  have e : (fun j => if j = k then (CW K ca cf cg j).set 0 (ca k 0, .inr (0, (CF ca cf k).set 5 (.int v))) else CW K ca cf cg j) = CW K ca (va_up cf k (upd (cf k) 5 v)) cg := by
    funext j
    by_cases h : j = k
    · subst h
      simp [CW, CF, va_up, upd]
    · simp [CW, CF, va_up, h]
  rw [e]
  rfl
theorem B_cf6 {K : Nat → ClassId} {ba : Nat → Nat} {bf : Nat → Int32} {bg : Nat → Nat → Int32} {n : Nat} {ca : Nat → Nat → Nat} {cf : Nat → Nat → Int32} {cg : Nat → Nat → Nat → Int32} (k : Nat) (hk : k < n) (v : Int32) : (BW K ba bf bg n ca cf cg).set (4 * k + 0 + 7) (ca k 0, .inr (0, (CF ca cf k).set 6 (.int v))) = BW K ba bf bg n ca (va_up cf k (upd (cf k) 6 v)) cg := by
  rw [B_cs k 0 hk (by decide)]
  have e : (fun j => if j = k then (CW K ca cf cg j).set 0 (ca k 0, .inr (0, (CF ca cf k).set 6 (.int v))) else CW K ca cf cg j) = CW K ca (va_up cf k (upd (cf k) 6 v)) cg := by
    funext j
    by_cases h : j = k
    · subst h
      simp [CW, CF, va_up, upd]
    · simp [CW, CF, va_up, h]
  rw [e]
  rfl
theorem B_cf7 {K : Nat → ClassId} {ba : Nat → Nat} {bf : Nat → Int32} {bg : Nat → Nat → Int32} {n : Nat} {ca : Nat → Nat → Nat} {cf : Nat → Nat → Int32} {cg : Nat → Nat → Nat → Int32} (k : Nat) (hk : k < n) (v : Int32) : (BW K ba bf bg n ca cf cg).set (4 * k + 0 + 7) (ca k 0, .inr (0, (CF ca cf k).set 7 (.int v))) = BW K ba bf bg n ca (va_up cf k (upd (cf k) 7 v)) cg := by
  rw [B_cs k 0 hk (by decide)]
  have e : (fun j => if j = k then (CW K ca cf cg j).set 0 (ca k 0, .inr (0, (CF ca cf k).set 7 (.int v))) else CW K ca cf cg j) = CW K ca (va_up cf k (upd (cf k) 7 v)) cg := by
    funext j
    by_cases h : j = k
    · subst h
      simp [CW, CF, va_up, upd]
    · simp [CW, CF, va_up, h]
  rw [e]
  rfl
theorem B_cf8 {K : Nat → ClassId} {ba : Nat → Nat} {bf : Nat → Int32} {bg : Nat → Nat → Int32} {n : Nat} {ca : Nat → Nat → Nat} {cf : Nat → Nat → Int32} {cg : Nat → Nat → Nat → Int32} (k : Nat) (hk : k < n) (v : Int32) : (BW K ba bf bg n ca cf cg).set (4 * k + 0 + 7) (ca k 0, .inr (0, (CF ca cf k).set 8 (.int v))) = BW K ba bf bg n ca (va_up cf k (upd (cf k) 8 v)) cg := by
  rw [B_cs k 0 hk (by decide)]
  have e : (fun j => if j = k then (CW K ca cf cg j).set 0 (ca k 0, .inr (0, (CF ca cf k).set 8 (.int v))) else CW K ca cf cg j) = CW K ca (va_up cf k (upd (cf k) 8 v)) cg := by
    funext j
    by_cases h : j = k
    · subst h
      simp [CW, CF, va_up, upd]
    · simp [CW, CF, va_up, h]
  rw [e]
  rfl
theorem B_cf9 {K : Nat → ClassId} {ba : Nat → Nat} {bf : Nat → Int32} {bg : Nat → Nat → Int32} {n : Nat} {ca : Nat → Nat → Nat} {cf : Nat → Nat → Int32} {cg : Nat → Nat → Nat → Int32} (k : Nat) (hk : k < n) (v : Int32) : (BW K ba bf bg n ca cf cg).set (4 * k + 0 + 7) (ca k 0, .inr (0, (CF ca cf k).set 9 (.int v))) = BW K ba bf bg n ca (va_up cf k (upd (cf k) 9 v)) cg := by
  rw [B_cs k 0 hk (by decide)]
  have e : (fun j => if j = k then (CW K ca cf cg j).set 0 (ca k 0, .inr (0, (CF ca cf k).set 9 (.int v))) else CW K ca cf cg j) = CW K ca (va_up cf k (upd (cf k) 9 v)) cg := by
    funext j
    by_cases h : j = k
    · subst h
      simp [CW, CF, va_up, upd]
    · simp [CW, CF, va_up, h]
  rw [e]
  rfl
theorem B_cf10 {K : Nat → ClassId} {ba : Nat → Nat} {bf : Nat → Int32} {bg : Nat → Nat → Int32} {n : Nat} {ca : Nat → Nat → Nat} {cf : Nat → Nat → Int32} {cg : Nat → Nat → Nat → Int32} (k : Nat) (hk : k < n) (v : Int32) : (BW K ba bf bg n ca cf cg).set (4 * k + 0 + 7) (ca k 0, .inr (0, (CF ca cf k).set 10 (.int v))) = BW K ba bf bg n ca (va_up cf k (upd (cf k) 10 v)) cg := by
  rw [B_cs k 0 hk (by decide)]
  have e : (fun j => if j = k then (CW K ca cf cg j).set 0 (ca k 0, .inr (0, (CF ca cf k).set 10 (.int v))) else CW K ca cf cg j) = CW K ca (va_up cf k (upd (cf k) 10 v)) cg := by
    funext j
    by_cases h : j = k
    · subst h
      simp [CW, CF, va_up, upd]
    · simp [CW, CF, va_up, h]
  rw [e]
  rfl
theorem B_cf11 {K : Nat → ClassId} {ba : Nat → Nat} {bf : Nat → Int32} {bg : Nat → Nat → Int32} {n : Nat} {ca : Nat → Nat → Nat} {cf : Nat → Nat → Int32} {cg : Nat → Nat → Nat → Int32} (k : Nat) (hk : k < n) (v : Int32) : (BW K ba bf bg n ca cf cg).set (4 * k + 0 + 7) (ca k 0, .inr (0, (CF ca cf k).set 11 (.int v))) = BW K ba bf bg n ca (va_up cf k (upd (cf k) 11 v)) cg := by
  rw [B_cs k 0 hk (by decide)]
  have e : (fun j => if j = k then (CW K ca cf cg j).set 0 (ca k 0, .inr (0, (CF ca cf k).set 11 (.int v))) else CW K ca cf cg j) = CW K ca (va_up cf k (upd (cf k) 11 v)) cg := by
    funext j
    by_cases h : j = k
    · subst h
      simp [CW, CF, va_up, upd]
    · simp [CW, CF, va_up, h]
  rw [e]
  rfl
theorem nf_add {x y : Int32} {i j : Nat} (h1 : x = nI i) (h2 : y = nI j) : x + y = nI (i + j) := by rw [h1, h2, nI_add]
theorem nf_mul {x y : Int32} {i j : Nat} (h1 : x = nI i) (h2 : y = nI j) : x * y = nI (i * j) := by rw [h1, h2, pk_mul]
abbrev ix (c : Int32) : Nat := c.toNatClampNeg
def m_in (v lo hi : Int32) : Bool := decide (¬ v < lo) && decide (¬ hi < v)
abbrev b2i (p : Prop) [Decidable p] : Int32 := if p then 1 else 0
theorem m_in_iff {v lo hi : Int32} : m_in v lo hi = true ↔ ¬ v < lo ∧ ¬ hi < v := by
  unfold m_in
  rw [Bool.and_eq_true, decide_eq_true_eq, decide_eq_true_eq]
theorem in_ix {v : Int32} {h : Int32} {N : Nat} (hh : h.toInt < N) (hN : N ≤ 2000000) (hv : m_in v 0 h = true) : v = nI (ix v) ∧ ix v < N := by
  obtain ⟨h1, h2⟩ := m_in_iff.mp hv
  obtain ⟨j, hj, rfl⟩ := nI_of h1
  have e : ix (nI j) = j := nI_clamp hj
  rw [e]
  refine ⟨rfl, ?_⟩
  rw [Int32.lt_iff_toInt_lt, nI_toInt hj] at h2
  omega
theorem in_con {v : Int32} {n : Nat} (hn : n ≤ 15) (hv : m_in v 0 (nI n - 1) = true) : v = nI (ix v) ∧ ix v < n := by
  obtain ⟨h1, h2⟩ := m_in_iff.mp hv
  obtain ⟨j, hj, rfl⟩ := nI_of h1
  have e : ix (nI j) = j := nI_clamp hj
  rw [e]
  refine ⟨rfl, ?_⟩
  rcases Nat.eq_zero_or_pos n with h0 | h0
  · subst h0
    exfalso
    apply h2
    rw [Int32.lt_iff_toInt_lt, nI_toInt hj]
    have h3 : (nI 0 - 1).toInt = -1 := by decide +kernel
    omega
  · rw [show n = (n - 1) + 1 by omega, nI_pred, Int32.lt_iff_toInt_lt, nI_toInt hj, nI_toInt (by omega)] at h2
    omega
theorem nr_b {p : Prop} [Decidable p] : narrow .boolean (.int (b2i p)) = .int (b2i p) := by
  unfold b2i
  split <;> rfl
theorem nr_1 : narrow .boolean (.int 1) = .int 1 := by rfl
theorem ft_b {p : Prop} [Decidable p] : fits .boolean (.int (b2i p)) = true := by
  unfold b2i
  split <;> rfl
theorem vz_b {p : Prop} [Decidable p] : vp_nar .boolean (b2i p) = b2i p := by
  unfold b2i
  split <;> decide +kernel
theorem nz_le {x : Int32} (h : ¬ x ≤ 0) : ¬ x = 0 := fun q => h (by rw [q]; exact Int32.le_refl _)
theorem nr_0 : narrow .boolean (.int 0) = .int 0 := by rfl
theorem fw_lve {p : Program} {l : Launch} {e : Env} {R : Room} {s : State} {m : MethodId} {args : Array Value} {below : List Frame} {meth : Method} {c : Code} {D : va_G} {A : Nat → Prop} {nL : Nat} {Q : State → Prop} {ws : va_W} {cells slots : Nat} {lv lv2 : List (Nat × Value)} {pc : Nat} {st : List Value} (h : lv = lv2) (k : fw_W p l e R s m args below meth c D A nL Q ws cells slots lv2 pc st) : fw_W p l e R s m args below meth c D A nL Q ws cells slots lv pc st := h ▸ k
