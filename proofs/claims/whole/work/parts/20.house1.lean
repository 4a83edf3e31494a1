theorem fw_astore_nN {p : Program} {l : Launch} {e : Env} {R : Room} {s : State} {m : MethodId} {args : Array Value} {below : List Frame} {meth : Method} {c : Code} {D : va_G} {A : Nat → Prop} {nL : Nat} {Q : State → Prop} {ws : va_W} {cells slots : Nat} {lv : List (Nat × Value)} {pc : Nat} {st : List Value} {cc : ByteArray} {own : String} {Ts : List Cond} {tys : List (ClassId × FieldType)} (X : fw_X p s m args c D A nL cc own Ts tys) {n : Fin 4} {i : Nat} {lv2 : List (Nat × Value)} (hdg : decode cc pc = .ok (.astore_n n, 1)) (hi : (n : Nat) = i) (hn : i < nL) (hl : (i, (.null : Value)) :: lv.filter (fun q => !(q.1 == i) && !(q.1 + 1 == i && q.2.category == 2)) = lv2) (k : fw_W p l e R s m args below meth c D A nL Q ws cells slots lv2 (pc + 1) st) : fw_W p l e R s m args below meth c D A nL Q ws cells slots lv pc (.null :: st) := fun H locs ls h1 h2 h3 h4 => lv_astore_nN X.1.1 X.1.2.1 hdg hi h1 hn hl (fun ls g1 => k H locs ls g1 h2 h3 h4)
theorem fw_aload_nN {p : Program} {l : Launch} {e : Env} {R : Room} {s : State} {m : MethodId} {args : Array Value} {below : List Frame} {meth : Method} {c : Code} {D : va_G} {A : Nat → Prop} {nL : Nat} {Q : State → Prop} {ws : va_W} {cells slots : Nat} {lv : List (Nat × Value)} {pc : Nat} {st : List Value} {cc : ByteArray} {own : String} {Ts : List Cond} {tys : List (ClassId × FieldType)} (X : fw_X p s m args c D A nL cc own Ts tys) {n : Fin 4} {i : Nat} (hdg : decode cc pc = .ok (.aload_n n, 1)) (hi : (n : Nat) = i) (j : Nat) (hl : lv[j]? = some (i, .null)) (k : fw_W p l e R s m args below meth c D A nL Q ws cells slots lv (pc + 1) (.null :: st)) : fw_W p l e R s m args below meth c D A nL Q ws cells slots lv pc st := fun H locs ls h1 h2 h3 h4 => lv_aload_nN X.1.1 X.1.2.1 hdg hi (lv_at h1 j hl) (k H locs ls h1 h2 h3 h4)
def px3 (E : String) (k : Int32) : Prop := (E = fw_IO ∧ k = 1) ∨ (E = fw_IA ∧ k = 2) ∨ (E = fw_IS ∧ k = 3)
def px2 (E : String) (k : Int32) : Prop := (E = fw_IA ∧ k = 1) ∨ (E = fw_IS ∧ k = 2)
def pxr (E : String) (k : Int32) : Prop := (E = fw_IO ∧ k = 1) ∨ (E = fw_IS ∧ k = 2)
def pxm (E : String) (k : Int32) : Prop := (E = fw_IO ∧ k = 1) ∨ (E = fw_IA ∧ k = 2)
def pxa (E : String) (k : Int32) : Prop := E = fw_IA ∧ k = 1
def pxo (E : String) (k : Int32) : Prop := E = fw_IO ∧ k = 1
theorem px3_IO {k : Int32} (h : k = 1) : px3 fw_IO k := Or.inl ⟨rfl, h⟩
theorem px3_IA {k : Int32} (h : k = 2) : px3 fw_IA k := Or.inr (Or.inl ⟨rfl, h⟩)
theorem px3_IS {k : Int32} (h : k = 3) : px3 fw_IS k := Or.inr (Or.inr ⟨rfl, h⟩)
theorem px2_IA {k : Int32} (h : k = 1) : px2 fw_IA k := Or.inl ⟨rfl, h⟩
theorem px2_IS {k : Int32} (h : k = 2) : px2 fw_IS k := Or.inr ⟨rfl, h⟩
theorem pxr_IO {k : Int32} (h : k = 1) : pxr fw_IO k := Or.inl ⟨rfl, h⟩
theorem pxr_IS {k : Int32} (h : k = 2) : pxr fw_IS k := Or.inr ⟨rfl, h⟩
theorem pxm_IO {k : Int32} (h : k = 1) : pxm fw_IO k := Or.inl ⟨rfl, h⟩
theorem pxm_IA {k : Int32} (h : k = 2) : pxm fw_IA k := Or.inr ⟨rfl, h⟩
theorem pxa_IA {k : Int32} (h : k = 1) : pxa fw_IA k := ⟨rfl, h⟩
theorem pxo_IO {k : Int32} (h : k = 1) : pxo fw_IO k := ⟨rfl, h⟩
theorem fw_c_IA : fw_IA ∈ [fw_IA, fw_IS, fw_IO] := by decide +kernel
theorem fw_c_IS : fw_IS ∈ [fw_IA, fw_IS, fw_IO] := by decide +kernel
theorem fw_c_IO : fw_IO ∈ [fw_IA, fw_IS, fw_IO] := by decide +kernel
def b_rw (bg : Nat → Nat → Int32) (cg : Nat → Nat → Nat → Int32) (k : Nat) : Nat → Int32
  | 0 => 0
  | i + 1 => if cg k 2 i ≤ 0 then b_rw bg cg k i else b_rw bg cg k i + bg 1 i
def b_rk (bg : Nat → Nat → Int32) (cf : Nat → Nat → Int32) (cg : Nat → Nat → Nat → Int32) (k : Nat) : Int32 := if cf k 6 ≤ 1 then b_rw bg cg k 6 else b_rw bg cg k 6 + 2 * (cf k 6 - 1)
def b_risk (bg : Nat → Nat → Int32) (cf : Nat → Nat → Int32) (cg : Nat → Nat → Nat → Int32) (k : Nat) : Int32 := if cf k 10 = 0 then b_rk bg cf cg k else b_rk bg cf cg k + 30
def b_must (bf : Nat → Int32) (bg : Nat → Nat → Int32) (cf : Nat → Nat → Int32) (cg : Nat → Nat → Nat → Int32) (k : Nat) : Bool := decide (cf k 5 = 1) && (!decide (cf k 8 = 63) && (!decide (cf k 11 = 0) || !decide (b_risk bg cf cg k < bf 8)))
def b_cn (bf : Nat → Int32) (bg : Nat → Nat → Int32) (n : Nat) (cf : Nat → Nat → Int32) (cg : Nat → Nat → Nat → Int32) : Nat → Int32
  | 0 => 0
  | i + 1 => if i < n then (if b_must bf bg cf cg i = true then b_cn bf bg n cf cg i + 1 else b_cn bf bg n cf cg i) else b_cn bf bg n cf cg i
def b_td (cg : Nat → Nat → Nat → Int32) (k : Nat) : Nat → Int32
  | 0 => 0
  | i + 1 => b_td cg k i + cg k 2 i
def b_dn (bg : Nat → Nat → Int32) (cg : Nat → Nat → Nat → Int32) (k : Nat) : Nat → Int32
  | 0 => 0
  | i + 1 => b_dn bg cg k i + cg k 2 i * bg 0 i
def b_gs (n : Nat) (cg : Nat → Nat → Nat → Int32) (v x : Nat) : Nat → Int32
  | 0 => 0
  | i + 1 => if i < n then b_gs n cg v x i + cg i 4 (v * 3 + x) else b_gs n cg v x i
def b_es (cg : Nat → Nat → Nat → Int32) (k r : Nat) : Nat → Nat → Int32
  | 0 => cg k 4
  | i + 1 => upd (b_es cg k r i) (i * 3 + r) (cg k 2 i)
def b_ed (bg : Nat → Nat → Int32) (cg : Nat → Nat → Nat → Int32) (k : Nat) : Nat → Nat → Int32
  | 0 => cg k 3
  | i + 1 => upd (b_ed bg cg k i) i (bg 0 i)
def b_con (n : Nat) (c : Int32) : Bool := m_in c 0 (nI n - 1)
def b_tak (cg : Nat → Nat → Nat → Int32) (k : Nat) (v x y : Int32) : Int32 := if m_gd v x y = true then (if y ≤ cg k 4 (ix v * 3 + ix x) then 0 else 3) else 2
theorem b_con_lt {n : Nat} {c : Int32} (hn : n ≤ 15) (h : c = nI (ix c)) (hl : ix c < n) : m_in c 0 (nI n - 1) = true := by
  rw [m_in_iff]
  rw [h]
  have e : ix (nI (ix c)) = ix c := by rw [← h]
  constructor
  · exact nI_pos (by omega)
  · rw [show n = (n - 1) + 1 by omega, nI_pred]
    exact nI_nlt (by omega) (by omega)
theorem b_con_neg {n : Nat} {c : Int32} (h : c < 0) : ¬ m_in c 0 (nI n - 1) = true := by
  rw [m_in_iff]
  exact fun q => q.1 h
theorem b_con_ge {n : Nat} {c : Int32} (hn : n ≤ 15) (h : n ≤ ix c) : ¬ m_in c 0 (nI n - 1) = true := fun q => by
  have := (in_con hn q).2
  omega
theorem b_15 {n : Nat} {c : Int32} (hn : n ≤ 15) (h : (15 : Int32) ≤ c) : ¬ m_in c 0 (nI n - 1) = true := fun q => by
  obtain ⟨e, hl⟩ := in_con hn q
  rw [e] at h
  exact absurd h (nI_ge (b := 15) (by omega) (by omega))
theorem b_ix {c : Int32} (h : ¬ c < 0) (h2 : ¬ (15 : Int32) ≤ c) : c = nI (ix c) ∧ ix c < 15 := by
  obtain ⟨j, hj, rfl⟩ := nI_of h
  have e : ix (nI j) = j := nI_clamp hj
  rw [e]
  refine ⟨rfl, ?_⟩
  rcases Nat.lt_or_ge j 15 with q | q
  · exact q
  · exact absurd (nI_le (a := 15) q hj) h2
theorem cf_nm (cf : Nat → Nat → Int32) (k s : Nat) (X : Nat → Int32) (v : Int32) : va_up (va_up cf k X) k (upd ((va_up cf k X) k) s v) = va_up cf k (upd X s v) := by rw [bx_uu, va_up_self]
theorem cg_nm (cg : Nat → Nat → Nat → Int32) (k s : Nat) (X : Nat → Nat → Int32) (f : Nat → Int32) : va_up (va_up cg k X) k (va_up ((va_up cg k X) k) s f) = va_up cg k (va_up X s f) := by rw [bx_uu, va_up_self]
theorem upd_uu (f : Nat → Int32) (k : Nat) (v w : Int32) : upd (upd f k v) k w = upd f k w := by
  funext j
  by_cases h : j = k <;> simp [upd, h]
theorem cg_sw {X : Nat → Nat → Int32} {s t : Nat} {P Q P2 : Nat → Int32} (h : s ≠ t) : va_up (va_up (va_up X s P) t Q) s P2 = va_up (va_up X t Q) s P2 := by
  funext j
  by_cases h1 : j = s
  · simp [va_up, h1]
  · by_cases h2 : j = t <;> simp [va_up, h1, h2]
theorem b_tak_0 {cg : Nat → Nat → Nat → Int32} {k : Nat} {v x y : Int32} (h : b_tak cg k v x y = 0) : m_gd v x y = true ∧ y ≤ cg k 4 (ix v * 3 + ix x) := by
  unfold b_tak at h
  split at h
  · split at h
    · exact ⟨by assumption, by assumption⟩
    · exact absurd h (by decide)
  · exact absurd h (by decide)
theorem b_tak_1 {cg : Nat → Nat → Nat → Int32} {k : Nat} {v x y : Int32} (h : b_tak cg k v x y = 1) : False := by
  unfold b_tak at h
  split at h
  · split at h
    · exact absurd h (by decide)
    · exact absurd h (by decide)
  · exact absurd h (by decide)
theorem b_tak_2 {cg : Nat → Nat → Nat → Int32} {k : Nat} {v x y : Int32} (h : b_tak cg k v x y = 2) : ¬ m_gd v x y = true := by
  unfold b_tak at h
  split at h
  · split at h
    · exact absurd h (by decide)
    · exact absurd h (by decide)
  · assumption
theorem b_tak_3 {cg : Nat → Nat → Nat → Int32} {k : Nat} {v x y : Int32} (h : b_tak cg k v x y = 3) : m_gd v x y = true ∧ ¬ y ≤ cg k 4 (ix v * 3 + ix x) := by
  unfold b_tak at h
  split at h
  · split at h
    · exact absurd h (by decide)
    · exact ⟨by assumption, by assumption⟩
  · exact absurd h (by decide)
def b_ns_cf (cf : Nat → Nat → Int32) (cg : Nat → Nat → Nat → Int32) (k i : Nat) (v x : Int32) : Nat → Nat → Int32 := if cg k 2 i = x then va_up cf k (upd (cf k) 8 (cf k 8 ||| 1 <<< (v &&& 31))) else va_up cf k (upd (upd (cf k) 7 (cf k 7 + 1)) 8 (cf k 8 ||| 1 <<< (v &&& 31)))
def b_ns_cg (cg : Nat → Nat → Nat → Int32) (k i : Nat) (x : Int32) : Nat → Nat → Nat → Int32 := if cg k 2 i = x then cg else va_up cg k (va_up (cg k) 2 (upd (cg k 2) i x))
def b_to_cf (cf : Nat → Nat → Int32) (k : Nat) (y : Int32) : Nat → Nat → Int32 := if cf k 9 - y = 0 then va_up cf k (upd (upd (cf k) 9 (cf k 9 - y)) 5 3) else va_up cf k (upd (cf k) 9 (cf k 9 - y))
def b_amd_k (n : Nat) (cf : Nat → Nat → Int32) (cg : Nat → Nat → Nat → Int32) (u v x : Int32) : Int32 := if m_in u 0 (nI n - 1) = true then (if m_in v 0 5 = true ∧ m_in x 0 100 = true then (if cf (ix u) 5 = 0 ∧ ¬ cg (ix u) 2 (ix v) = x then 0 else 3) else 2) else 1
def b_ss_k (v x y : Int32) : Int32 := if m_in v 0 5 = true ∧ m_in x 0 50 = true ∧ m_in y 0 20 = true then 0 else 1
def b_sr_k (v x : Int32) : Int32 := if m_in v 0 200 = true ∧ m_in x 0 10 = true then 0 else 1
def b_sg_k (bg : Nat → Nat → Int32) (v x : Int32) : Int32 := if m_in v 0 3 = true ∧ m_in x 0 1000000 = true then (if bg 3 (ix v) ≤ x then 0 else 2) else 1
def b_arr_k (n : Nat) (cf : Nat → Nat → Int32) (cg : Nat → Nat → Nat → Int32) (u x : Int32) : Int32 := if m_in u 0 (nI n - 1) = true then (if m_in x 0 999 = true then (if cf (ix u) 5 = 0 ∧ ¬ b_td cg (ix u) 6 = 0 then 0 else 3) else 2) else 1
def b_smp (x y : Int32) : Int32 := if y = 0 then 0 else if x - x / y * y = 0 then 1 else 0
def b_arr_f (bf : Nat → Int32) (cf : Nat → Nat → Int32) (k : Nat) (x : Int32) : Nat → Nat → Int32 := va_up cf k (upd (upd (upd (cf k) 5 1) 10 (if x = cf k 1 then 0 else 1)) 11 (b_smp (bf 7 + 1) (bf 9)))
def b_rsk_k (n : Nat) (cf : Nat → Nat → Int32) (u : Int32) : Int32 := if m_in u 0 (nI n - 1) = true then (if cf (ix u) 5 = 0 then 2 else 0) else 1
def b_c_k (n : Nat) (u : Int32) : Int32 := if m_in u 0 (nI n - 1) = true then 0 else 1
def b_sch_k (n : Nat) (cf : Nat → Nat → Int32) (u v x : Int32) : Int32 := if m_in u 0 (nI n - 1) = true then (if m_in v 0 5 = true ∧ m_in x 0 100 = true then (if cf (ix u) 5 = 1 then 0 else 3) else 2) else 1
def b_bnd_k (bf : Nat → Int32) (bg : Nat → Nat → Int32) (n : Nat) (cf : Nat → Nat → Int32) (cg : Nat → Nat → Nat → Int32) (u x : Int32) : Int32 := if m_in u 0 (nI n - 1) = true then (if m_in x 0 2 = true then (if cf (ix u) 5 = 1 ∧ ¬ b_must bf bg cf cg (ix u) = true ∧ bg 3 (ix (cf (ix u) 0)) + b_dn bg cg (ix u) 6 ≤ bg 2 (ix (cf (ix u) 0)) then 0 else 3) else 2) else 1
def b_mov_k (n : Nat) (cg : Nat → Nat → Nat → Int32) (u v x y z : Int32) : Int32 := if m_in u 0 (nI n - 1) = true then (if m_gd v x z = true ∧ m_in y 0 2 = true ∧ ¬ x = y then (if z ≤ cg (ix u) 4 (ix v * 3 + ix x) then 0 else 3) else 2) else 1
def b_fre_k (n : Nat) (cg : Nat → Nat → Nat → Int32) (u v x y : Int32) : Int32 := if m_in u 0 (nI n - 1) = true then b_tak cg (ix u) v x y else 1
def b_man_k (n : Nat) (u v : Int32) : Int32 := if m_in u 0 (nI n - 1) = true then (if m_in v 0 5 = true then 0 else 2) else 1
def b_sto_k (v x : Int32) : Int32 := if m_in v 0 5 = true ∧ m_in x 0 2 = true then 0 else 1
def b_tr_k (v : Int32) : Int32 := if m_in v 0 3 = true then 0 else 1
def b_mv_g (cg : Nat → Nat → Nat → Int32) (k i j j2 : Nat) (z : Int32) : Nat → Int32 := upd (upd (cg k 4) (i * 3 + j) (cg k 4 (i * 3 + j) - z)) (i * 3 + j2) (upd (cg k 4) (i * 3 + j) (cg k 4 (i * 3 + j) - z) (i * 3 + j2) + z)
theorem b_to_0 {cf : Nat → Nat → Int32} {k : Nat} {y : Int32} : b_to_cf cf k y k 0 = cf k 0 := by
  unfold b_to_cf
  split <;> simp [va_up, upd]
theorem kX1_checkRange_clIA : Cond.classLink RX1 142 fw_IA ∈ wsX1_checkRange := by decide +kernel
theorem kX1_checkRange_iniIA : Cond.initialized fw_IA ∈ wsX1_checkRange := by decide +kernel
set_option maxRecDepth 20000 in
theorem kX1_checkRange_atIA : ∀ w ∈ (vx_atS RX1 146 fw_IA fw_chn).filter goodWord, w ∈ wsX1_checkRange := by decide +kernel
theorem dsc_X1_checkRange : fw_dsc yX1_checkRange 3 := by decide +kernel
set_option maxHeartbeats 4000000 in
set_option maxRecDepth 100000 in
theorem ct_X1_checkRange {l : Launch} (hl : l.stackTraces = false) {D : va_G} {K : Nat → ClassId} {ws : va_W} (v lo hi : Int32) : fw_C (S := Unit) l yX1_checkRange wsX1_checkRange ({ frames := 6, cells := 1, slots := 6, locals := 90 }) 1 6 true [.int v, .int lo, .int hi] D (tyS K) (ws) (fun r _ => m_in v lo hi = true ∧ r = none) (fun _ => ws) (fun E => E = fw_IA ∧ ¬ m_in v lo hi = true) := by
  refine fw_met (maxL := 3) (ret := none) (by decide) rfl (Nat.le_of_ble_eq_true rfl) ?_
  intro p e s m args below meth c A X hr hlk hnm htab hE
  refine fw_lv (lv' := [(0, .int v), (1, .int lo), (2, .int hi)]) [0, 1, 2] rfl ?_
  refine fw_iload_n (pc := 0) X dX1_checkRange_0 rfl 0 rfl ?_
  refine fw_iload_n (pc := 1) X dX1_checkRange_1 rfl 1 rfl ?_
  refine fw_icmp_lt (pc := 2) (tgt := 10) X dX1_checkRange_2 (by decide) (fun c_1 => ?_) (fun c_1 => ?_)
  · exact fw_throw (pc := 10) (text := "a parameter is out of range") X hE hl fw_fit_IA fw_good_IA fw_bad_IA fw_c_IA (by decide +kernel) kX1_checkRange_clIA kX1_checkRange_iniIA kX1_checkRange_atIA dX1_checkRange_10 dX1_checkRange_13 dX1_checkRange_14 dX1_checkRange_16 dX1_checkRange_19 ⟨Nat.le_of_ble_eq_true rfl, Nat.le_of_ble_eq_true rfl, Nat.le_of_ble_eq_true rfl, Nat.le_of_ble_eq_true rfl⟩ htab hlk ⟨rfl, fun q => (m_in_iff.mp q).1 c_1⟩ (Nat.le_of_ble_eq_true rfl) (Nat.le_of_ble_eq_true rfl) rfl
  · refine fw_iload_n (pc := 5) X dX1_checkRange_5 rfl 0 rfl ?_
    refine fw_iload_n (pc := 6) X dX1_checkRange_6 rfl 2 rfl ?_
    refine fw_icmp_le (pc := 7) (tgt := 20) X dX1_checkRange_7 (by decide) (fun c_2 => ?_) (fun c_2 => ?_)
    · exact fw_vret (pc := 20) X hr hlk (Nat.le_of_ble_eq_true rfl) (Nat.le_of_ble_eq_true rfl) dX1_checkRange_20 () ⟨m_in_iff.mpr ⟨c_1, Int32.not_lt.mpr c_2⟩, rfl⟩ rfl
    · exact fw_throw (pc := 10) (text := "a parameter is out of range") X hE hl fw_fit_IA fw_good_IA fw_bad_IA fw_c_IA (by decide +kernel) kX1_checkRange_clIA kX1_checkRange_iniIA kX1_checkRange_atIA dX1_checkRange_10 dX1_checkRange_13 dX1_checkRange_14 dX1_checkRange_16 dX1_checkRange_19 ⟨Nat.le_of_ble_eq_true rfl, Nat.le_of_ble_eq_true rfl, Nat.le_of_ble_eq_true rfl, Nat.le_of_ble_eq_true rfl⟩ htab hlk ⟨rfl, fun q => (m_in_iff.mp q).2 (Int32.not_le.mp c_2)⟩ (Nat.le_of_ble_eq_true rfl) (Nat.le_of_ble_eq_true rfl) rfl
theorem dsc_X1_checkSort : fw_dsc yX1_checkSort 1 := by decide +kernel
set_option maxHeartbeats 4000000 in
set_option maxRecDepth 100000 in
theorem ct_X1_checkSort {l : Launch} (hl : l.stackTraces = false) {D : va_G} {K : Nat → ClassId} {ws : va_W} (v : Int32) : fw_C (S := Unit) l yX1_checkSort wsX1_checkSort ({ frames := 7, cells := 1, slots := 6, locals := 112 }) 1 6 true [.int v] D (tyS K) (ws) (fun r _ => m_in v 0 5 = true ∧ r = none) (fun _ => ws) (fun E => E = fw_IA ∧ ¬ m_in v 0 5 = true) := by
  refine fw_met (maxL := 1) (ret := none) (by decide) rfl (Nat.le_of_ble_eq_true rfl) ?_
  intro p e s m args below meth c A X hr hlk hnm htab hE
  refine fw_lv (lv' := [(0, .int v)]) [0] rfl ?_
  refine fw_iload_n (pc := 0) X dX1_checkSort_0 rfl 0 rfl ?_
  refine fw_iconst (pc := 1) (v := 0) X dX1_checkSort_1 (by decide) ?_
  refine fw_iconst (pc := 2) (v := 5) X dX1_checkSort_2 (by decide) ?_
  refine fw_callS (pc := 3) (n := 3) X hE [.int v, .int 0, .int 5] (ct_X1_checkRange hl v 0 5) (by decide) gX1_checkSort_X1_checkRange rfl ⟨rfl, rfl⟩ dsc_X1_checkRange ⟨Nat.le_of_ble_eq_true rfl, Nat.le_of_ble_eq_true rfl⟩ rfl rfl (Nat.le_of_ble_eq_true rfl) dX1_checkSort_3 ⟨Nat.le_of_ble_eq_true rfl, Nat.le_of_ble_eq_true rfl⟩ (fun E q => fw_out X htab hlk (Nat.le_of_ble_eq_true rfl) (Nat.le_of_ble_eq_true rfl) q rfl) (fun r0 u0 r_1 => ?_)
  obtain ⟨q_2, rfl⟩ := r_1
  obtain ⟨hx_v, hl_v⟩ := in_ix (h := 5) (N := 6) (by decide) (by decide) q_2
  exact fw_vret (pc := 6) X hr hlk (Nat.le_of_ble_eq_true rfl) (Nat.le_of_ble_eq_true rfl) dX1_checkSort_6 () ⟨q_2, rfl⟩ rfl
theorem dsc_X1_checkStore : fw_dsc yX1_checkStore 1 := by decide +kernel
set_option maxHeartbeats 4000000 in
set_option maxRecDepth 100000 in
theorem ct_X1_checkStore {l : Launch} (hl : l.stackTraces = false) {D : va_G} {K : Nat → ClassId} {ws : va_W} (v : Int32) : fw_C (S := Unit) l yX1_checkStore wsX1_checkStore ({ frames := 7, cells := 1, slots := 6, locals := 112 }) 1 6 true [.int v] D (tyS K) (ws) (fun r _ => m_in v 0 2 = true ∧ r = none) (fun _ => ws) (fun E => E = fw_IA ∧ ¬ m_in v 0 2 = true) := by
  refine fw_met (maxL := 1) (ret := none) (by decide) rfl (Nat.le_of_ble_eq_true rfl) ?_
  intro p e s m args below meth c A X hr hlk hnm htab hE
  refine fw_lv (lv' := [(0, .int v)]) [0] rfl ?_
  refine fw_iload_n (pc := 0) X dX1_checkStore_0 rfl 0 rfl ?_
  refine fw_iconst (pc := 1) (v := 0) X dX1_checkStore_1 (by decide) ?_
  refine fw_iconst (pc := 2) (v := 2) X dX1_checkStore_2 (by decide) ?_
  refine fw_callS (pc := 3) (n := 3) X hE [.int v, .int 0, .int 2] (ct_X1_checkRange hl v 0 2) (by decide) gX1_checkStore_X1_checkRange rfl ⟨rfl, rfl⟩ dsc_X1_checkRange ⟨Nat.le_of_ble_eq_true rfl, Nat.le_of_ble_eq_true rfl⟩ rfl rfl (Nat.le_of_ble_eq_true rfl) dX1_checkStore_3 ⟨Nat.le_of_ble_eq_true rfl, Nat.le_of_ble_eq_true rfl⟩ (fun E q => fw_out X htab hlk (Nat.le_of_ble_eq_true rfl) (Nat.le_of_ble_eq_true rfl) q rfl) (fun r0 u0 r_1 => ?_)
  obtain ⟨q_2, rfl⟩ := r_1
  obtain ⟨hx_v, hl_v⟩ := in_ix (h := 2) (N := 3) (by decide) (by decide) q_2
  exact fw_vret (pc := 6) X hr hlk (Nat.le_of_ble_eq_true rfl) (Nat.le_of_ble_eq_true rfl) dX1_checkStore_6 () ⟨q_2, rfl⟩ rfl
theorem dsc_X1_checkTrader : fw_dsc yX1_checkTrader 1 := by decide +kernel
set_option maxHeartbeats 4000000 in
set_option maxRecDepth 100000 in
theorem ct_X1_checkTrader {l : Launch} (hl : l.stackTraces = false) {D : va_G} {K : Nat → ClassId} {ws : va_W} (v : Int32) : fw_C (S := Unit) l yX1_checkTrader wsX1_checkTrader ({ frames := 7, cells := 1, slots := 6, locals := 112 }) 1 6 true [.int v] D (tyS K) (ws) (fun r _ => m_in v 0 3 = true ∧ r = none) (fun _ => ws) (fun E => E = fw_IA ∧ ¬ m_in v 0 3 = true) := by
  refine fw_met (maxL := 1) (ret := none) (by decide) rfl (Nat.le_of_ble_eq_true rfl) ?_
  intro p e s m args below meth c A X hr hlk hnm htab hE
  refine fw_lv (lv' := [(0, .int v)]) [0] rfl ?_
  refine fw_iload_n (pc := 0) X dX1_checkTrader_0 rfl 0 rfl ?_
  refine fw_iconst (pc := 1) (v := 0) X dX1_checkTrader_1 (by decide) ?_
  refine fw_iconst (pc := 2) (v := 3) X dX1_checkTrader_2 (by decide) ?_
  refine fw_callS (pc := 3) (n := 3) X hE [.int v, .int 0, .int 3] (ct_X1_checkRange hl v 0 3) (by decide) gX1_checkTrader_X1_checkRange rfl ⟨rfl, rfl⟩ dsc_X1_checkRange ⟨Nat.le_of_ble_eq_true rfl, Nat.le_of_ble_eq_true rfl⟩ rfl rfl (Nat.le_of_ble_eq_true rfl) dX1_checkTrader_3 ⟨Nat.le_of_ble_eq_true rfl, Nat.le_of_ble_eq_true rfl⟩ (fun E q => fw_out X htab hlk (Nat.le_of_ble_eq_true rfl) (Nat.le_of_ble_eq_true rfl) q rfl) (fun r0 u0 r_1 => ?_)
  obtain ⟨q_2, rfl⟩ := r_1
  obtain ⟨hx_v, hl_v⟩ := in_ix (h := 3) (N := 4) (by decide) (by decide) q_2
  exact fw_vret (pc := 6) X hr hlk (Nat.le_of_ble_eq_true rfl) (Nat.le_of_ble_eq_true rfl) dX1_checkTrader_6 () ⟨q_2, rfl⟩ rfl
theorem dsc_X1_checkSeal : fw_dsc yX1_checkSeal 1 := by decide +kernel
set_option maxHeartbeats 4000000 in
set_option maxRecDepth 100000 in
theorem ct_X1_checkSeal {l : Launch} (hl : l.stackTraces = false) {D : va_G} {K : Nat → ClassId} {ws : va_W} (v : Int32) : fw_C (S := Unit) l yX1_checkSeal wsX1_checkSeal ({ frames := 7, cells := 1, slots := 6, locals := 112 }) 1 6 true [.int v] D (tyS K) (ws) (fun r _ => m_in v 0 999 = true ∧ r = none) (fun _ => ws) (fun E => E = fw_IA ∧ ¬ m_in v 0 999 = true) := by
  refine fw_met (maxL := 1) (ret := none) (by decide) rfl (Nat.le_of_ble_eq_true rfl) ?_
  intro p e s m args below meth c A X hr hlk hnm htab hE
  refine fw_lv (lv' := [(0, .int v)]) [0] rfl ?_
  refine fw_iload_n (pc := 0) X dX1_checkSeal_0 rfl 0 rfl ?_
  refine fw_iconst (pc := 1) (v := 0) X dX1_checkSeal_1 (by decide) ?_
  refine fw_sipush (pc := 2) (v := 999) X dX1_checkSeal_2 (by decide) ?_
  refine fw_callS (pc := 5) (n := 3) X hE [.int v, .int 0, .int 999] (ct_X1_checkRange hl v 0 999) (by decide) gX1_checkSeal_X1_checkRange rfl ⟨rfl, rfl⟩ dsc_X1_checkRange ⟨Nat.le_of_ble_eq_true rfl, Nat.le_of_ble_eq_true rfl⟩ rfl rfl (Nat.le_of_ble_eq_true rfl) dX1_checkSeal_5 ⟨Nat.le_of_ble_eq_true rfl, Nat.le_of_ble_eq_true rfl⟩ (fun E q => fw_out X htab hlk (Nat.le_of_ble_eq_true rfl) (Nat.le_of_ble_eq_true rfl) q rfl) (fun r0 u0 r_1 => ?_)
  obtain ⟨q_2, rfl⟩ := r_1
  obtain ⟨hx_v, hl_v⟩ := in_ix (h := 999) (N := 1000) (by decide) (by decide) q_2
  exact fw_vret (pc := 8) X hr hlk (Nat.le_of_ble_eq_true rfl) (Nat.le_of_ble_eq_true rfl) dX1_checkSeal_8 () ⟨q_2, rfl⟩ rfl
theorem dsc_X1_placeOf : fw_dsc yX1_placeOf 2 := by decide +kernel
set_option maxHeartbeats 4000000 in
set_option maxRecDepth 100000 in
theorem ct_X1_placeOf {l : Launch} (hl : l.stackTraces = false) {D : va_G} {K : Nat → ClassId} {ws : va_W} (v x : Int32) : fw_C (S := Unit) l yX1_placeOf wsX1_placeOf ({ frames := 0, cells := 0, slots := 0, locals := 0 }) 0 0 true [.int v, .int x] D (tyS K) (ws) (fun r _ => r = some (.int (v * 3 + x))) (fun _ => ws) (fun _ => False) := by
  refine fw_met (maxL := 2) (ret := (some .int)) (by decide) rfl (Nat.le_of_ble_eq_true rfl) ?_
  intro p e s m args below meth c A X hr hlk hnm htab hE
  refine fw_lv (lv' := [(0, .int v), (1, .int x)]) [0, 1] rfl ?_
  refine fw_iload_n (pc := 0) X dX1_placeOf_0 rfl 0 rfl ?_
  refine fw_iconst (pc := 1) (v := 3) X dX1_placeOf_1 (by decide) ?_
  refine fw_imul (pc := 2) X dX1_placeOf_2 ?_
  refine fw_iload_n (pc := 3) X dX1_placeOf_3 rfl 1 rfl ?_
  refine fw_iadd (pc := 4) X dX1_placeOf_4 ?_
  exact fw_iret (pc := 5) X hr hlk (Nat.le_of_ble_eq_true rfl) (Nat.le_of_ble_eq_true rfl) dX1_placeOf_5 () rfl rfl
theorem kX1_findConsignment_clIO : Cond.classLink RX1 162 fw_IO ∈ wsX1_findConsignment := by decide +kernel
theorem kX1_findConsignment_iniIO : Cond.initialized fw_IO ∈ wsX1_findConsignment := by decide +kernel
set_option maxRecDepth 20000 in
theorem kX1_findConsignment_atIO : ∀ w ∈ (vx_atS RX1 166 fw_IO fw_chn).filter goodWord, w ∈ wsX1_findConsignment := by decide +kernel
theorem kX1_findConsignment_27 : Cond.fieldLink RX1 27 (TX1 5).1 (TX1 5).2.1 (TX1 5).2.2.1 ∈ wsX1_findConsignment := by decide +kernel
set_option maxRecDepth 20000 in
theorem iX1_findConsignment_X1 : ∀ w ∈ wsX10, w ∈ wsX1_findConsignment := by decide +kernel
theorem dsc_X1_findConsignment : fw_dsc yX1_findConsignment 1 := by decide +kernel
set_option maxHeartbeats 4000000 in
set_option maxRecDepth 100000 in
theorem ct_X1_findConsignment {l : Launch} (hl : l.stackTraces = false) {D : va_G} {K : Nat → ClassId} {ba : Nat → Nat} {bf : Nat → Int32} {bg : Nat → Nat → Int32} {n : Nat} {ca : Nat → Nat → Nat} {cf : Nat → Nat → Int32} {cg : Nat → Nat → Nat → Int32} (v : Int32) (hn15 : n ≤ 15) : fw_C (S := Unit) l yX1_findConsignment wsX1_findConsignment ({ frames := 6, cells := 1, slots := 6, locals := 90 }) 1 6 true [.ref (ba 6), .int v] D (tyS K) (BW K ba bf bg n ca cf cg) (fun r _ => m_in v 0 (nI n - 1) = true ∧ r = some (.ref (ca (ix v) 0))) (fun _ => BW K ba bf bg n ca cf cg) (fun E => E = fw_IO ∧ ¬ m_in v 0 (nI n - 1) = true) := by
  refine fw_met (maxL := 3) (ret := (some (.object "BorderHouse$Consignment"))) (by decide) rfl (Nat.le_of_ble_eq_true rfl) ?_
  intro p e s m args below meth c A X hr hlk hnm htab hE
  refine fw_lv (lv' := [(0, .ref (ba 6)), (1, .int v)]) [0, 1] rfl ?_
  refine fw_iload_n (pc := 0) X dX1_findConsignment_0 rfl 1 rfl ?_
  refine fw_if_lt (pc := 1) (tgt := 22) X dX1_findConsignment_1 (by decide) (fun c_1 => ?_) (fun c_1 => ?_)
  · refine fw_null (pc := 22) X dX1_findConsignment_22 ?_
    refine fw_astore_nN (pc := 23) (lv2 := [(2, .null), (0, .ref (ba 6)), (1, .int v)]) X dX1_findConsignment_23 rfl (by decide) rfl ?_
    refine fw_aload_nN (pc := 24) X dX1_findConsignment_24 rfl 0 rfl ?_
    refine fw_ifnonnullN (pc := 25) X dX1_findConsignment_25 ?_
    exact fw_throw (pc := 28) (text := "there is no such consignment") X hE hl fw_fit_IO fw_good_IO fw_bad_IO fw_c_IO (by decide +kernel) kX1_findConsignment_clIO kX1_findConsignment_iniIO kX1_findConsignment_atIO dX1_findConsignment_28 dX1_findConsignment_31 dX1_findConsignment_32 dX1_findConsignment_34 dX1_findConsignment_37 ⟨Nat.le_of_ble_eq_true rfl, Nat.le_of_ble_eq_true rfl, Nat.le_of_ble_eq_true rfl, Nat.le_of_ble_eq_true rfl⟩ htab hlk ⟨rfl, b_con_neg c_1⟩ (Nat.le_of_ble_eq_true rfl) (Nat.le_of_ble_eq_true rfl) rfl
  · refine fw_iload_n (pc := 4) X dX1_findConsignment_4 rfl 1 rfl ?_
    refine fw_aload_n (pc := 5) X dX1_findConsignment_5 rfl 0 rfl ?_
    refine fw_get (pc := 6) (v := .ref (ba 5)) X iX1_findConsignment_X1 0 B_obj rfl 5 (by decide) kX1_findConsignment_27 rfl dX1_findConsignment_6 ?_
    refine fw_alen (pc := 9) (v := 15) X 6 3 B_g5 rfl rfl dX1_findConsignment_9 ?_
    refine fw_icmp_ge (pc := 10) (tgt := 22) X dX1_findConsignment_10 (by decide) (fun c_2 => ?_) (fun c_2 => ?_)
    · refine fw_null (pc := 22) X dX1_findConsignment_22 ?_
      refine fw_astore_nN (pc := 23) (lv2 := [(2, .null), (0, .ref (ba 6)), (1, .int v)]) X dX1_findConsignment_23 rfl (by decide) rfl ?_
      refine fw_aload_nN (pc := 24) X dX1_findConsignment_24 rfl 0 rfl ?_
      refine fw_ifnonnullN (pc := 25) X dX1_findConsignment_25 ?_
      exact fw_throw (pc := 28) (text := "there is no such consignment") X hE hl fw_fit_IO fw_good_IO fw_bad_IO fw_c_IO (by decide +kernel) kX1_findConsignment_clIO kX1_findConsignment_iniIO kX1_findConsignment_atIO dX1_findConsignment_28 dX1_findConsignment_31 dX1_findConsignment_32 dX1_findConsignment_34 dX1_findConsignment_37 ⟨Nat.le_of_ble_eq_true rfl, Nat.le_of_ble_eq_true rfl, Nat.le_of_ble_eq_true rfl, Nat.le_of_ble_eq_true rfl⟩ htab hlk ⟨rfl, b_15 hn15 c_2⟩ (Nat.le_of_ble_eq_true rfl) (Nat.le_of_ble_eq_true rfl) rfl
    · refine fw_aload_n (pc := 13) X dX1_findConsignment_13 rfl 0 rfl ?_
      refine fw_get (pc := 14) (v := .ref (ba 5)) X iX1_findConsignment_X1 0 B_obj rfl 5 (by decide) kX1_findConsignment_27 rfl dX1_findConsignment_14 ?_
      refine fw_iload_n (pc := 17) X dX1_findConsignment_17 rfl 1 rfl ?_
      obtain ⟨hx_v, hl_v⟩ := b_ix c_1 c_2
      refine fw_aldq (pc := 18) (f := CR ca n) X 6 3 B_g5 rfl (ix v) hx_v (by omega) (by decide) dX1_findConsignment_18 ?_
      by_cases c_3 : (ix v) < n
      · refine fw_st (st' := .ref (ca (ix v) 0) :: _) (congrArg (fun z => va_rf z :: _) (if_pos c_3)) ?_
        refine fw_goto (pc := 19) (tgt := 23) X dX1_findConsignment_19 (by decide) ?_
        refine fw_astore_n (pc := 23) (lv' := [(2, .ref (ca (ix v) 0)), (0, .ref (ba 6)), (1, .int v)]) X dX1_findConsignment_23 rfl (by decide) rfl ?_
        refine fw_aload_n (pc := 24) X dX1_findConsignment_24 rfl 0 rfl ?_
        refine fw_ifnonnull (pc := 25) (tgt := 38) X dX1_findConsignment_25 (by decide) ?_
        refine fw_aload_n (pc := 38) X dX1_findConsignment_38 rfl 0 rfl ?_
        exact fw_aret (pc := 39) X hr hlk (Nat.le_of_ble_eq_true rfl) (Nat.le_of_ble_eq_true rfl) dX1_findConsignment_39 () ⟨b_con_lt hn15 hx_v c_3, rfl⟩ rfl
      · refine fw_st (st' := .null :: _) (congrArg (fun z => va_rf z :: _) (if_neg c_3)) ?_
        refine fw_goto (pc := 19) (tgt := 23) X dX1_findConsignment_19 (by decide) ?_
        refine fw_astore_nN (pc := 23) (lv2 := [(2, .null), (0, .ref (ba 6)), (1, .int v)]) X dX1_findConsignment_23 rfl (by decide) rfl ?_
        refine fw_aload_nN (pc := 24) X dX1_findConsignment_24 rfl 0 rfl ?_
        refine fw_ifnonnullN (pc := 25) X dX1_findConsignment_25 ?_
        exact fw_throw (pc := 28) (text := "there is no such consignment") X hE hl fw_fit_IO fw_good_IO fw_bad_IO fw_c_IO (by decide +kernel) kX1_findConsignment_clIO kX1_findConsignment_iniIO kX1_findConsignment_atIO dX1_findConsignment_28 dX1_findConsignment_31 dX1_findConsignment_32 dX1_findConsignment_34 dX1_findConsignment_37 ⟨Nat.le_of_ble_eq_true rfl, Nat.le_of_ble_eq_true rfl, Nat.le_of_ble_eq_true rfl, Nat.le_of_ble_eq_true rfl⟩ htab hlk ⟨rfl, b_con_ge hn15 (Nat.not_lt.mp c_3)⟩ (Nat.le_of_ble_eq_true rfl) (Nat.le_of_ble_eq_true rfl) rfl
theorem kX0_totalDeclared_9 : Cond.fieldLink RX0 9 (TX0 2).1 (TX0 2).2.1 (TX0 2).2.2.1 ∈ wsX0_totalDeclared := by decide +kernel
set_option maxRecDepth 20000 in
theorem iX0_totalDeclared_X0 : ∀ w ∈ wsX00, w ∈ wsX0_totalDeclared := by decide +kernel
set_option maxHeartbeats 4000000 in
set_option maxRecDepth 100000 in
theorem lp_X0_totalDeclared_13 {p : Program} {l : Launch} {e : Env} {s : State} {m : MethodId} {args : Array Value} {below : List Frame} {meth : Method} {c : Code} {D : va_G} {A : Nat → Prop} {Q : State → Prop} (hl : l.stackTraces = false) {K : Nat → ClassId} {ba : Nat → Nat} {bf : Nat → Int32} {bg : Nat → Nat → Int32} {n : Nat} {ca : Nat → Nat → Nat} {cf : Nat → Nat → Int32} {cg : Nat → Nat → Nat → Int32} (k : Nat) (hk : k < n) (X : fw_X p s m args c D A 6 cX0_totalDeclared RX0 wsX0_totalDeclared (tyS K)) (hE : fw_E true A s) (kk : fw_W p l e ({ frames := 0, cells := 0, slots := 0, locals := 0 }) s m args below meth c D A 6 Q (BW K ba bf bg n ca cf cg) 0 0 [(0, .ref (ca k 0)), (2, .ref (ca k 2)), (3, .int 6), (1, .int (b_td cg k 6)), (4, .int (nI 6))] 36 []) : ∀ (d i : Nat), i + d = 6 → fw_W p l e ({ frames := 0, cells := 0, slots := 0, locals := 0 }) s m args below meth c D A 6 Q (BW K ba bf bg n ca cf cg) 0 0 [(0, .ref (ca k 0)), (2, .ref (ca k 2)), (3, .int 6), (1, .int (b_td cg k i)), (4, .int (nI i))] 13 [] := by
  intro d
  induction d with
  | zero =>
    intro i hi
    obtain rfl : i = 6 := by omega
    refine fw_iload (pc := 13) X dX0_totalDeclared_13 4 rfl ?_
    refine fw_iload_n (pc := 15) X dX0_totalDeclared_15 rfl 2 rfl ?_
    refine fw_icmp_ge (pc := 16) (tgt := 36) X dX0_totalDeclared_16 (by decide) (fun _ => ?_) (fun q => absurd (by decide) q)
    exact kk
  | succ d ih =>
    intro i hi
    refine fw_iload (pc := 13) X dX0_totalDeclared_13 4 rfl ?_
    refine fw_iload_n (pc := 15) X dX0_totalDeclared_15 rfl 2 rfl ?_
    refine fw_icmp_ge (pc := 16) (tgt := 36) X dX0_totalDeclared_16 (by decide) (fun q => absurd q (nI_ge (a := i) (b := 6) (by omega) (by omega))) (fun _ => ?_)
    refine fw_aload_n (pc := 19) X dX0_totalDeclared_19 rfl 1 rfl ?_
    refine fw_iload (pc := 20) X dX0_totalDeclared_20 4 rfl ?_
    refine fw_iald (pc := 22) (n := 6) (cA := K 0) (f := cg k 2) X (4 * k + 1 + 7) 0 (B_c2 (cg := cg) k hk) rfl i rfl (by omega) (by decide) dX0_totalDeclared_22 ?_
    refine fw_istore (pc := 23) (lv' := [(5, .int (cg k 2 i)), (0, .ref (ca k 0)), (2, .ref (ca k 2)), (3, .int 6), (1, .int (b_td cg k i)), (4, .int (nI i))]) X dX0_totalDeclared_23 (by decide) rfl ?_
    refine fw_iload_n (pc := 25) X dX0_totalDeclared_25 rfl 4 rfl ?_
    refine fw_iload (pc := 26) X dX0_totalDeclared_26 0 rfl ?_
    refine fw_iadd (pc := 28) X dX0_totalDeclared_28 ?_
    refine fw_istore_n (pc := 29) (lv' := [(1, .int ((b_td cg k i) + (cg k 2 i))), (5, .int (cg k 2 i)), (0, .ref (ca k 0)), (2, .ref (ca k 2)), (3, .int 6), (4, .int (nI i))]) X dX0_totalDeclared_29 rfl (by decide) rfl ?_
    refine fw_iinc (pc := 30) (v := nI (i + 1)) (lv' := [(4, .int (nI (i + 1))), (1, .int ((b_td cg k i) + (cg k 2 i))), (5, .int (cg k 2 i)), (0, .ref (ca k 0)), (2, .ref (ca k 2)), (3, .int 6)]) (j := 5) X dX0_totalDeclared_30 rfl (nI_1 _) (by decide) rfl ?_
    refine fw_goto (pc := 33) (tgt := 13) X dX0_totalDeclared_33 (by decide) ?_
    refine fw_lv (lv' := [(0, .ref (ca k 0)), (2, .ref (ca k 2)), (3, .int 6), (1, .int ((b_td cg k i) + (cg k 2 i))), (4, .int (nI (i + 1)))]) [3, 4, 5, 1, 0] rfl ?_
    refine fw_lve (lv2 := [(0, .ref (ca k 0)), (2, .ref (ca k 2)), (3, .int 6), (1, .int (b_td cg k ((i + 1)))), (4, .int (nI ((i + 1))))]) (by rw [show (b_td cg k i) + (cg k 2 i) = b_td cg k ((i + 1)) from rfl]) ?_
    exact ih (i + 1) (by omega)
theorem dsc_X0_totalDeclared : fw_dsc yX0_totalDeclared 0 := by decide +kernel
set_option maxHeartbeats 4000000 in
set_option maxRecDepth 100000 in
theorem ct_X0_totalDeclared {l : Launch} (hl : l.stackTraces = false) {D : va_G} {K : Nat → ClassId} {ba : Nat → Nat} {bf : Nat → Int32} {bg : Nat → Nat → Int32} {n : Nat} {ca : Nat → Nat → Nat} {cf : Nat → Nat → Int32} {cg : Nat → Nat → Nat → Int32} (k : Nat) (hk : k < n) : fw_C (S := Unit) l yX0_totalDeclared wsX0_totalDeclared ({ frames := 0, cells := 0, slots := 0, locals := 0 }) 0 0 true [.ref (ca k 0)] D (tyS K) (BW K ba bf bg n ca cf cg) (fun r _ => r = some (.int (b_td cg k 6))) (fun _ => BW K ba bf bg n ca cf cg) (fun _ => False) := by
  refine fw_met (maxL := 6) (ret := (some .int)) (by decide) rfl (Nat.le_of_ble_eq_true rfl) ?_
  intro p e s m args below meth c A X hr hlk hnm htab hE
  refine fw_lv (lv' := [(0, .ref (ca k 0))]) [0] rfl ?_
  refine fw_iconst (pc := 0) (v := 0) X dX0_totalDeclared_0 (by decide) ?_
  refine fw_istore_n (pc := 1) (lv' := [(1, .int 0), (0, .ref (ca k 0))]) X dX0_totalDeclared_1 rfl (by decide) rfl ?_
  refine fw_aload_n (pc := 2) X dX0_totalDeclared_2 rfl 1 rfl ?_
  refine fw_get (pc := 3) (v := .ref (ca k 2)) X iX0_totalDeclared_X0 (4 * k + 0 + 7) (B_co k hk) rfl 2 (by decide) kX0_totalDeclared_9 rfl dX0_totalDeclared_3 ?_
  refine fw_astore_n (pc := 6) (lv' := [(2, .ref (ca k 2)), (1, .int 0), (0, .ref (ca k 0))]) X dX0_totalDeclared_6 rfl (by decide) rfl ?_
  refine fw_aload_n (pc := 7) X dX0_totalDeclared_7 rfl 0 rfl ?_
  refine fw_alen (pc := 8) (v := 6) X (4 * k + 1 + 7) 0 (B_c2 k hk) rfl rfl dX0_totalDeclared_8 ?_
  refine fw_istore_n (pc := 9) (lv' := [(3, .int 6), (2, .ref (ca k 2)), (1, .int 0), (0, .ref (ca k 0))]) X dX0_totalDeclared_9 rfl (by decide) rfl ?_
  refine fw_iconst (pc := 10) (v := 0) X dX0_totalDeclared_10 (by decide) ?_
  refine fw_istore (pc := 11) (lv' := [(4, .int 0), (3, .int 6), (2, .ref (ca k 2)), (1, .int 0), (0, .ref (ca k 0))]) X dX0_totalDeclared_11 (by decide) rfl ?_
  refine fw_lv (lv' := [(0, .ref (ca k 0)), (2, .ref (ca k 2)), (3, .int 6), (1, .int (b_td cg k 0)), (4, .int (nI 0))]) [4, 2, 1, 3, 0] rfl ?_
  refine lp_X0_totalDeclared_13 hl k hk X hE ?_ 6 0 (by omega)
  refine fw_iload_n (pc := 36) X dX0_totalDeclared_36 rfl 3 rfl ?_
  exact fw_iret (pc := 37) X hr hlk (Nat.le_of_ble_eq_true rfl) (Nat.le_of_ble_eq_true rfl) dX0_totalDeclared_37 () rfl rfl
theorem kX0_wasSearched_31 : Cond.fieldLink RX0 31 (TX0 8).1 (TX0 8).2.1 (TX0 8).2.2.1 ∈ wsX0_wasSearched := by decide +kernel
set_option maxRecDepth 20000 in
theorem iX0_wasSearched_X0 : ∀ w ∈ wsX00, w ∈ wsX0_wasSearched := by decide +kernel
theorem dsc_X0_wasSearched : fw_dsc yX0_wasSearched 0 := by decide +kernel
set_option maxHeartbeats 4000000 in
set_option maxRecDepth 100000 in
theorem ct_X0_wasSearched {l : Launch} (hl : l.stackTraces = false) {D : va_G} {K : Nat → ClassId} {ba : Nat → Nat} {bf : Nat → Int32} {bg : Nat → Nat → Int32} {n : Nat} {ca : Nat → Nat → Nat} {cf : Nat → Nat → Int32} {cg : Nat → Nat → Nat → Int32} (k : Nat) (hk : k < n) : fw_C (S := Unit) l yX0_wasSearched wsX0_wasSearched ({ frames := 0, cells := 0, slots := 0, locals := 0 }) 0 0 true [.ref (ca k 0)] D (tyS K) (BW K ba bf bg n ca cf cg) (fun r _ => r = some (.int (b2i (cf k 8 = 63)))) (fun _ => BW K ba bf bg n ca cf cg) (fun _ => False) := by
  refine fw_met (maxL := 1) (ret := (some .boolean)) (by decide) rfl (Nat.le_of_ble_eq_true rfl) ?_
  intro p e s m args below meth c A X hr hlk hnm htab hE
  refine fw_lv (lv' := [(0, .ref (ca k 0))]) [0] rfl ?_
  refine fw_aload_n (pc := 0) X dX0_wasSearched_0 rfl 0 rfl ?_
  refine fw_get (pc := 1) (v := .int (cf k 8)) X iX0_wasSearched_X0 (4 * k + 0 + 7) (B_co k hk) rfl 8 (by decide) kX0_wasSearched_31 rfl dX0_wasSearched_1 ?_
  refine fw_bipush (pc := 4) (v := 63) X dX0_wasSearched_4 (by decide) ?_
  refine fw_icmp_ne (pc := 6) (tgt := 13) X dX0_wasSearched_6 (by decide) (fun c_1 => ?_) (fun c_1 => ?_)
  · refine fw_iconst (pc := 13) (v := 0) X dX0_wasSearched_13 (by decide) ?_
    exact fw_zret (pc := 14) X hr nr_0 hlk (Nat.le_of_ble_eq_true rfl) (Nat.le_of_ble_eq_true rfl) dX0_wasSearched_14 () (by simp [c_1]) (by simp [c_1])
  · refine fw_iconst (pc := 9) (v := 1) X dX0_wasSearched_9 (by decide) ?_
    refine fw_goto (pc := 10) (tgt := 14) X dX0_wasSearched_10 (by decide) ?_
    exact fw_zret (pc := 14) X hr nr_1 hlk (Nat.le_of_ble_eq_true rfl) (Nat.le_of_ble_eq_true rfl) dX0_wasSearched_14 () (by simp [c_1]) (by simp [c_1])
theorem kX1_riskOf_89 : Cond.fieldLink RX1 89 (TX0 6).1 (TX0 6).2.1 (TX0 6).2.2.1 ∈ wsX1_riskOf := by decide +kernel
theorem kX1_riskOf_100 : Cond.fieldLink RX1 100 (TX0 10).1 (TX0 10).2.1 (TX0 10).2.2.1 ∈ wsX1_riskOf := by decide +kernel
theorem kX1_riskOf_84 : Cond.fieldLink RX1 84 (TX0 2).1 (TX0 2).2.1 (TX0 2).2.2.1 ∈ wsX1_riskOf := by decide +kernel
set_option maxRecDepth 20000 in
theorem iX1_riskOf_X0 : ∀ w ∈ wsX00, w ∈ wsX1_riskOf := by decide +kernel
theorem kX1_riskOf_13 : Cond.fieldLink RX1 13 (TX1 1).1 (TX1 1).2.1 (TX1 1).2.2.1 ∈ wsX1_riskOf := by decide +kernel
set_option maxRecDepth 20000 in
theorem iX1_riskOf_X1 : ∀ w ∈ wsX10, w ∈ wsX1_riskOf := by decide +kernel
set_option maxHeartbeats 4000000 in
set_option maxRecDepth 100000 in
theorem lp_X1_riskOf_4 {p : Program} {l : Launch} {e : Env} {s : State} {m : MethodId} {args : Array Value} {below : List Frame} {meth : Method} {c : Code} {D : va_G} {A : Nat → Prop} {Q : State → Prop} (hl : l.stackTraces = false) {K : Nat → ClassId} {ba : Nat → Nat} {bf : Nat → Int32} {bg : Nat → Nat → Int32} {n : Nat} {ca : Nat → Nat → Nat} {cf : Nat → Nat → Int32} {cg : Nat → Nat → Nat → Int32} (k : Nat) (hk : k < n) (X : fw_X p s m args c D A 4 cX1_riskOf RX1 wsX1_riskOf (tyS K)) (hE : fw_E true A s) (kk : fw_W p l e ({ frames := 0, cells := 0, slots := 0, locals := 0 }) s m args below meth c D A 4 Q (BW K ba bf bg n ca cf cg) 0 0 [(0, .ref (ba 6)), (1, .ref (ca k 0)), (2, .int (b_rw bg cg k 6)), (3, .int (nI 6))] 34 []) : ∀ (d i : Nat), i + d = 6 → fw_W p l e ({ frames := 0, cells := 0, slots := 0, locals := 0 }) s m args below meth c D A 4 Q (BW K ba bf bg n ca cf cg) 0 0 [(0, .ref (ba 6)), (1, .ref (ca k 0)), (2, .int (b_rw bg cg k i)), (3, .int (nI i))] 4 [] := by
  intro d
  induction d with
  | zero =>
    intro i hi
    obtain rfl : i = 6 := by omega
    refine fw_iload_n (pc := 4) X dX1_riskOf_4 rfl 3 rfl ?_
    refine fw_bipush (pc := 5) (v := 6) X dX1_riskOf_5 (by decide) ?_
    refine fw_icmp_ge (pc := 7) (tgt := 34) X dX1_riskOf_7 (by decide) (fun _ => ?_) (fun q => absurd (by decide) q)
    exact kk
  | succ d ih =>
    intro i hi
    refine fw_iload_n (pc := 4) X dX1_riskOf_4 rfl 3 rfl ?_
    refine fw_bipush (pc := 5) (v := 6) X dX1_riskOf_5 (by decide) ?_
    refine fw_icmp_ge (pc := 7) (tgt := 34) X dX1_riskOf_7 (by decide) (fun q => absurd q (nI_ge (a := i) (b := 6) (by omega) (by omega))) (fun _ => ?_)
    refine fw_aload_n (pc := 10) X dX1_riskOf_10 rfl 1 rfl ?_
    refine fw_get (pc := 11) (v := .ref (ca k 2)) X iX1_riskOf_X0 (4 * k + 0 + 7) (B_co k hk) rfl 2 (by decide) kX1_riskOf_84 rfl dX1_riskOf_11 ?_
    refine fw_iload_n (pc := 14) X dX1_riskOf_14 rfl 3 rfl ?_
    refine fw_iald (pc := 15) (n := 6) (cA := K 0) (f := cg k 2) X (4 * k + 1 + 7) 0 (B_c2 (cg := cg) k hk) rfl i rfl (by omega) (by decide) dX1_riskOf_15 ?_
    refine fw_if_le (pc := 16) (tgt := 28) X dX1_riskOf_16 (by decide) (fun c_1 => ?_) (fun c_1 => ?_)
    · refine fw_iinc (pc := 28) (v := nI (i + 1)) (lv' := [(3, .int (nI (i + 1))), (0, .ref (ba 6)), (1, .ref (ca k 0)), (2, .int (b_rw bg cg k i))]) (j := 3) X dX1_riskOf_28 rfl (nI_1 _) (by decide) rfl ?_
      refine fw_goto (pc := 31) (tgt := 4) X dX1_riskOf_31 (by decide) ?_
      refine fw_lv (lv' := [(0, .ref (ba 6)), (1, .ref (ca k 0)), (2, .int (b_rw bg cg k i)), (3, .int (nI (i + 1)))]) [1, 2, 3, 0] rfl ?_
      refine fw_lve (lv2 := [(0, .ref (ba 6)), (1, .ref (ca k 0)), (2, .int (b_rw bg cg k ((i + 1)))), (3, .int (nI ((i + 1))))]) (by rw [show b_rw bg cg k i = b_rw bg cg k ((i + 1)) from (by simp [b_rw, c_1])]) ?_
      exact ih (i + 1) (by omega)
    · refine fw_iload_n (pc := 19) X dX1_riskOf_19 rfl 2 rfl ?_
      refine fw_aload_n (pc := 20) X dX1_riskOf_20 rfl 0 rfl ?_
      refine fw_get (pc := 21) (v := .ref (ba 1)) X iX1_riskOf_X1 0 B_obj rfl 1 (by decide) kX1_riskOf_13 rfl dX1_riskOf_21 ?_
      refine fw_iload_n (pc := 24) X dX1_riskOf_24 rfl 3 rfl ?_
      refine fw_iald (pc := 25) (n := 6) (cA := K 0) (f := bg 1) X 2 0 (B_g1 (bg := bg)) rfl i rfl (by omega) (by decide) dX1_riskOf_25 ?_
      refine fw_iadd (pc := 26) X dX1_riskOf_26 ?_
      refine fw_istore_n (pc := 27) (lv' := [(2, .int ((b_rw bg cg k i) + (bg 1 i))), (0, .ref (ba 6)), (1, .ref (ca k 0)), (3, .int (nI i))]) X dX1_riskOf_27 rfl (by decide) rfl ?_
      refine fw_iinc (pc := 28) (v := nI (i + 1)) (lv' := [(3, .int (nI (i + 1))), (2, .int ((b_rw bg cg k i) + (bg 1 i))), (0, .ref (ba 6)), (1, .ref (ca k 0))]) (j := 3) X dX1_riskOf_28 rfl (nI_1 _) (by decide) rfl ?_
      refine fw_goto (pc := 31) (tgt := 4) X dX1_riskOf_31 (by decide) ?_
      refine fw_lv (lv' := [(0, .ref (ba 6)), (1, .ref (ca k 0)), (2, .int ((b_rw bg cg k i) + (bg 1 i))), (3, .int (nI (i + 1)))]) [2, 3, 1, 0] rfl ?_
      refine fw_lve (lv2 := [(0, .ref (ba 6)), (1, .ref (ca k 0)), (2, .int (b_rw bg cg k ((i + 1)))), (3, .int (nI ((i + 1))))]) (by rw [show (b_rw bg cg k i) + (bg 1 i) = b_rw bg cg k ((i + 1)) from (by simp [b_rw, c_1])]) ?_
      exact ih (i + 1) (by omega)
theorem dsc_X1_riskOf : fw_dsc yX1_riskOf 1 := by decide +kernel
set_option maxHeartbeats 4000000 in
set_option maxRecDepth 100000 in
theorem ct_X1_riskOf {l : Launch} (hl : l.stackTraces = false) {D : va_G} {K : Nat → ClassId} {ba : Nat → Nat} {bf : Nat → Int32} {bg : Nat → Nat → Int32} {n : Nat} {ca : Nat → Nat → Nat} {cf : Nat → Nat → Int32} {cg : Nat → Nat → Nat → Int32} (k : Nat) (hk : k < n) : fw_C (S := Unit) l yX1_riskOf wsX1_riskOf ({ frames := 0, cells := 0, slots := 0, locals := 0 }) 0 0 true [.ref (ba 6), .ref (ca k 0)] D (tyS K) (BW K ba bf bg n ca cf cg) (fun r _ => r = some (.int (b_risk bg cf cg k))) (fun _ => BW K ba bf bg n ca cf cg) (fun _ => False) := by
  refine fw_met (maxL := 4) (ret := (some .int)) (by decide) rfl (Nat.le_of_ble_eq_true rfl) ?_
  intro p e s m args below meth c A X hr hlk hnm htab hE
  refine fw_lv (lv' := [(0, .ref (ba 6)), (1, .ref (ca k 0))]) [0, 1] rfl ?_
  refine fw_iconst (pc := 0) (v := 0) X dX1_riskOf_0 (by decide) ?_
  refine fw_istore_n (pc := 1) (lv' := [(2, .int 0), (0, .ref (ba 6)), (1, .ref (ca k 0))]) X dX1_riskOf_1 rfl (by decide) rfl ?_
  refine fw_iconst (pc := 2) (v := 0) X dX1_riskOf_2 (by decide) ?_
  refine fw_istore_n (pc := 3) (lv' := [(3, .int 0), (2, .int 0), (0, .ref (ba 6)), (1, .ref (ca k 0))]) X dX1_riskOf_3 rfl (by decide) rfl ?_
  refine fw_lv (lv' := [(0, .ref (ba 6)), (1, .ref (ca k 0)), (2, .int (b_rw bg cg k 0)), (3, .int (nI 0))]) [2, 3, 1, 0] rfl ?_
  refine lp_X1_riskOf_4 hl k hk X hE ?_ 6 0 (by omega)
  refine fw_aload_n (pc := 34) X dX1_riskOf_34 rfl 1 rfl ?_
  refine fw_get (pc := 35) (v := .int (cf k 6)) X iX1_riskOf_X0 (4 * k + 0 + 7) (B_co k hk) rfl 6 (by decide) kX1_riskOf_89 rfl dX1_riskOf_35 ?_
  refine fw_iconst (pc := 38) (v := 1) X dX1_riskOf_38 (by decide) ?_
  refine fw_icmp_le (pc := 39) (tgt := 53) X dX1_riskOf_39 (by decide) (fun c_2 => ?_) (fun c_2 => ?_)
  · refine fw_aload_n (pc := 53) X dX1_riskOf_53 rfl 1 rfl ?_
    refine fw_get (pc := 54) (v := .int (cf k 10)) X iX1_riskOf_X0 (4 * k + 0 + 7) (B_co k hk) rfl 10 (by decide) kX1_riskOf_100 rfl dX1_riskOf_54 ?_
    refine fw_if_eq (pc := 57) (tgt := 63) X dX1_riskOf_57 (by decide) (fun c_3 => ?_) (fun c_3 => ?_)
    · refine fw_iload_n (pc := 63) X dX1_riskOf_63 rfl 2 rfl ?_
      exact fw_iret (pc := 64) X hr hlk (Nat.le_of_ble_eq_true rfl) (Nat.le_of_ble_eq_true rfl) dX1_riskOf_64 () (by simp [b_risk, b_rk, c_2, c_3]) (by simp [b_risk, b_rk, c_2, c_3])
    · refine fw_iinc (pc := 60) (v := (b_rw bg cg k 6) + 30) (lv' := [(2, .int ((b_rw bg cg k 6) + 30)), (0, .ref (ba 6)), (1, .ref (ca k 0)), (3, .int (nI 6))]) (j := 2) X dX1_riskOf_60 rfl rfl (by decide) rfl ?_
      refine fw_iload_n (pc := 63) X dX1_riskOf_63 rfl 0 rfl ?_
      exact fw_iret (pc := 64) X hr hlk (Nat.le_of_ble_eq_true rfl) (Nat.le_of_ble_eq_true rfl) dX1_riskOf_64 () (by simp [b_risk, b_rk, c_2, c_3]) (by simp [b_risk, b_rk, c_2, c_3])
  · refine fw_iload_n (pc := 42) X dX1_riskOf_42 rfl 2 rfl ?_
    refine fw_iconst (pc := 43) (v := 2) X dX1_riskOf_43 (by decide) ?_
    refine fw_aload_n (pc := 44) X dX1_riskOf_44 rfl 1 rfl ?_
    refine fw_get (pc := 45) (v := .int (cf k 6)) X iX1_riskOf_X0 (4 * k + 0 + 7) (B_co k hk) rfl 6 (by decide) kX1_riskOf_89 rfl dX1_riskOf_45 ?_
    refine fw_iconst (pc := 48) (v := 1) X dX1_riskOf_48 (by decide) ?_
    refine fw_isub (pc := 49) X dX1_riskOf_49 ?_
    refine fw_imul (pc := 50) X dX1_riskOf_50 ?_
    refine fw_iadd (pc := 51) X dX1_riskOf_51 ?_
    refine fw_istore_n (pc := 52) (lv' := [(2, .int ((b_rw bg cg k 6) + (2 * ((cf k 6) - 1)))), (0, .ref (ba 6)), (1, .ref (ca k 0)), (3, .int (nI 6))]) X dX1_riskOf_52 rfl (by decide) rfl ?_
    refine fw_aload_n (pc := 53) X dX1_riskOf_53 rfl 2 rfl ?_
    refine fw_get (pc := 54) (v := .int (cf k 10)) X iX1_riskOf_X0 (4 * k + 0 + 7) (B_co k hk) rfl 10 (by decide) kX1_riskOf_100 rfl dX1_riskOf_54 ?_
    refine fw_if_eq (pc := 57) (tgt := 63) X dX1_riskOf_57 (by decide) (fun c_4 => ?_) (fun c_4 => ?_)
    · refine fw_iload_n (pc := 63) X dX1_riskOf_63 rfl 0 rfl ?_
      exact fw_iret (pc := 64) X hr hlk (Nat.le_of_ble_eq_true rfl) (Nat.le_of_ble_eq_true rfl) dX1_riskOf_64 () (by simp [b_risk, b_rk, c_2, c_4]) (by simp [b_risk, b_rk, c_2, c_4])
    · refine fw_iinc (pc := 60) (v := ((b_rw bg cg k 6) + (2 * ((cf k 6) - 1))) + 30) (lv' := [(2, .int (((b_rw bg cg k 6) + (2 * ((cf k 6) - 1))) + 30)), (0, .ref (ba 6)), (1, .ref (ca k 0)), (3, .int (nI 6))]) (j := 0) X dX1_riskOf_60 rfl rfl (by decide) rfl ?_
      refine fw_iload_n (pc := 63) X dX1_riskOf_63 rfl 0 rfl ?_
      exact fw_iret (pc := 64) X hr hlk (Nat.le_of_ble_eq_true rfl) (Nat.le_of_ble_eq_true rfl) dX1_riskOf_64 () (by simp [b_risk, b_rk, c_2, c_4]) (by simp [b_risk, b_rk, c_2, c_4])
theorem kX1_hasToBeSearched_79 : Cond.fieldLink RX1 79 (TX0 5).1 (TX0 5).2.1 (TX0 5).2.2.1 ∈ wsX1_hasToBeSearched := by decide +kernel
set_option maxRecDepth 20000 in
theorem iX1_hasToBeSearched_X0 : ∀ w ∈ wsX00, w ∈ wsX1_hasToBeSearched := by decide +kernel
theorem kX1_hasToBeSearched_104 : Cond.fieldLink RX1 104 (TX0 11).1 (TX0 11).2.1 (TX0 11).2.2.1 ∈ wsX1_hasToBeSearched := by decide +kernel
theorem kX1_hasToBeSearched_38 : Cond.fieldLink RX1 38 (TX1 8).1 (TX1 8).2.1 (TX1 8).2.2.1 ∈ wsX1_hasToBeSearched := by decide +kernel
set_option maxRecDepth 20000 in
theorem iX1_hasToBeSearched_X1 : ∀ w ∈ wsX10, w ∈ wsX1_hasToBeSearched := by decide +kernel
theorem dsc_X1_hasToBeSearched : fw_dsc yX1_hasToBeSearched 1 := by decide +kernel
set_option maxHeartbeats 4000000 in
set_option maxRecDepth 100000 in
theorem ct_X1_hasToBeSearched {l : Launch} (hl : l.stackTraces = false) {D : va_G} {K : Nat → ClassId} {ba : Nat → Nat} {bf : Nat → Int32} {bg : Nat → Nat → Int32} {n : Nat} {ca : Nat → Nat → Nat} {cf : Nat → Nat → Int32} {cg : Nat → Nat → Nat → Int32} (k : Nat) (hk : k < n) : fw_C (S := Unit) l yX1_hasToBeSearched wsX1_hasToBeSearched ({ frames := 1, cells := 0, slots := 0, locals := 23 }) 0 0 true [.ref (ba 6), .ref (ca k 0)] D (tyS K) (BW K ba bf bg n ca cf cg) (fun r _ => r = some (.int (b2i (b_must bf bg cf cg k = true)))) (fun _ => BW K ba bf bg n ca cf cg) (fun _ => False) := by
  refine fw_met (maxL := 2) (ret := (some .boolean)) (by decide) rfl (Nat.le_of_ble_eq_true rfl) ?_
  intro p e s m args below meth c A X hr hlk hnm htab hE
  refine fw_lv (lv' := [(0, .ref (ba 6)), (1, .ref (ca k 0))]) [0, 1] rfl ?_
  refine fw_aload_n (pc := 0) X dX1_hasToBeSearched_0 rfl 1 rfl ?_
  refine fw_get (pc := 1) (v := .int (cf k 5)) X iX1_hasToBeSearched_X0 (4 * k + 0 + 7) (B_co k hk) rfl 5 (by decide) kX1_hasToBeSearched_79 rfl dX1_hasToBeSearched_1 ?_
  refine fw_iconst (pc := 4) (v := 1) X dX1_hasToBeSearched_4 (by decide) ?_
  refine fw_icmp_ne (pc := 5) (tgt := 38) X dX1_hasToBeSearched_5 (by decide) (fun c_1 => ?_) (fun c_1 => ?_)
  · refine fw_iconst (pc := 38) (v := 0) X dX1_hasToBeSearched_38 (by decide) ?_
    exact fw_zret (pc := 39) X hr nr_0 hlk (Nat.le_of_ble_eq_true rfl) (Nat.le_of_ble_eq_true rfl) dX1_hasToBeSearched_39 () (by simp [b_must, c_1]) (by simp [b_must, c_1])
  · refine fw_aload_n (pc := 8) X dX1_hasToBeSearched_8 rfl 1 rfl ?_
    refine fw_callV (pc := 9) (n := 0) (C := (RX0, TX0, 12)) (ci := 0) (q0 := (4 * k + 0 + 7)) X hE [] (ct_X0_wasSearched hl k hk) (by decide) gX1_hasToBeSearched_X0_wasSearched rfl ⟨rfl, rfl⟩ ⟨rfl, dsc_X0_wasSearched⟩ ⟨Nat.le_of_ble_eq_true rfl, Nat.le_of_ble_eq_true rfl⟩ rfl (B_co k hk) rfl rfl (Nat.le_of_ble_eq_true rfl) dX1_hasToBeSearched_9 ⟨Nat.le_of_ble_eq_true rfl, Nat.le_of_ble_eq_true rfl⟩ (fun _ q => q.elim) (fun r0 u0 r_2 => ?_)
    subst r_2
    show fw_W _ _ _ _ _ _ _ _ _ _ _ _ _ _ _ _ _ _ _ (.int (b2i ((cf k 8) = 63)) :: _)
    by_cases c_3 : (cf k 8) = 63
    · refine fw_iv (y := 1) (if_pos c_3) ?_
      refine fw_if_ne (pc := 12) (tgt := 38) X dX1_hasToBeSearched_12 (by decide) (fun _ => ?_) (fun q => absurd q (by decide))
      refine fw_iconst (pc := 38) (v := 0) X dX1_hasToBeSearched_38 (by decide) ?_
      exact fw_zret (pc := 39) X hr nr_0 hlk (Nat.le_of_ble_eq_true rfl) (Nat.le_of_ble_eq_true rfl) dX1_hasToBeSearched_39 () (by simp [b_must, c_1, c_3]) (by simp [b_must, c_1, c_3])
    · refine fw_iv (y := 0) (if_neg c_3) ?_
      refine fw_if_ne (pc := 12) (tgt := 38) X dX1_hasToBeSearched_12 (by decide) (fun q => absurd (by decide) q) (fun _ => ?_)
      refine fw_aload_n (pc := 15) X dX1_hasToBeSearched_15 rfl 1 rfl ?_
      refine fw_get (pc := 16) (v := .int (cf k 11)) X iX1_hasToBeSearched_X0 (4 * k + 0 + 7) (B_co k hk) rfl 11 (by decide) kX1_hasToBeSearched_104 rfl dX1_hasToBeSearched_16 ?_
      refine fw_if_ne (pc := 19) (tgt := 34) X dX1_hasToBeSearched_19 (by decide) (fun c_4 => ?_) (fun c_4 => ?_)
      · refine fw_iconst (pc := 34) (v := 1) X dX1_hasToBeSearched_34 (by decide) ?_
        refine fw_goto (pc := 35) (tgt := 39) X dX1_hasToBeSearched_35 (by decide) ?_
        exact fw_zret (pc := 39) X hr nr_1 hlk (Nat.le_of_ble_eq_true rfl) (Nat.le_of_ble_eq_true rfl) dX1_hasToBeSearched_39 () (by simp [b_must, c_1, c_3, c_4]) (by simp [b_must, c_1, c_3, c_4])
      · refine fw_aload_n (pc := 22) X dX1_hasToBeSearched_22 rfl 0 rfl ?_
        refine fw_aload_n (pc := 23) X dX1_hasToBeSearched_23 rfl 1 rfl ?_
        refine fw_callV (pc := 24) (n := 1) (C := (RX1, TX1, 10)) (ci := 1) (q0 := 0) X hE [.ref (ca k 0)] (ct_X1_riskOf hl k hk) (by decide) gX1_hasToBeSearched_X1_riskOf rfl ⟨rfl, rfl⟩ ⟨rfl, dsc_X1_riskOf⟩ ⟨Nat.le_of_ble_eq_true rfl, Nat.le_of_ble_eq_true rfl⟩ rfl B_obj rfl rfl (Nat.le_of_ble_eq_true rfl) dX1_hasToBeSearched_24 ⟨Nat.le_of_ble_eq_true rfl, Nat.le_of_ble_eq_true rfl⟩ (fun _ q => q.elim) (fun r0 u0 r_5 => ?_)
        subst r_5
        refine fw_aload_n (pc := 27) X dX1_hasToBeSearched_27 rfl 0 rfl ?_
        refine fw_get (pc := 28) (v := .int (bf 8)) X iX1_hasToBeSearched_X1 0 B_obj rfl 8 (by decide) kX1_hasToBeSearched_38 rfl dX1_hasToBeSearched_28 ?_
        refine fw_icmp_lt (pc := 31) (tgt := 38) X dX1_hasToBeSearched_31 (by decide) (fun c_6 => ?_) (fun c_6 => ?_)
        · refine fw_iconst (pc := 38) (v := 0) X dX1_hasToBeSearched_38 (by decide) ?_
          exact fw_zret (pc := 39) X hr nr_0 hlk (Nat.le_of_ble_eq_true rfl) (Nat.le_of_ble_eq_true rfl) dX1_hasToBeSearched_39 () (by simp [b_must, c_1, c_3, c_4, c_6]) (by simp [b_must, c_1, c_3, c_4, c_6])
        · refine fw_iconst (pc := 34) (v := 1) X dX1_hasToBeSearched_34 (by decide) ?_
          refine fw_goto (pc := 35) (tgt := 39) X dX1_hasToBeSearched_35 (by decide) ?_
          exact fw_zret (pc := 39) X hr nr_1 hlk (Nat.le_of_ble_eq_true rfl) (Nat.le_of_ble_eq_true rfl) dX1_hasToBeSearched_39 () (by simp [b_must, c_1, c_3, c_4, c_6]) (by simp [b_must, c_1, c_3, c_4, c_6])
theorem kX1_countToSearch_27 : Cond.fieldLink RX1 27 (TX1 5).1 (TX1 5).2.1 (TX1 5).2.2.1 ∈ wsX1_countToSearch := by decide +kernel
set_option maxRecDepth 20000 in
theorem iX1_countToSearch_X1 : ∀ w ∈ wsX10, w ∈ wsX1_countToSearch := by decide +kernel
set_option maxHeartbeats 4000000 in
set_option maxRecDepth 100000 in
theorem lp_X1_countToSearch_13 {p : Program} {l : Launch} {e : Env} {s : State} {m : MethodId} {args : Array Value} {below : List Frame} {meth : Method} {c : Code} {D : va_G} {A : Nat → Prop} {Q : State → Prop} (hl : l.stackTraces = false) {K : Nat → ClassId} {ba : Nat → Nat} {bf : Nat → Int32} {bg : Nat → Nat → Int32} {n : Nat} {ca : Nat → Nat → Nat} {cf : Nat → Nat → Int32} {cg : Nat → Nat → Nat → Int32}  (X : fw_X p s m args c D A 6 cX1_countToSearch RX1 wsX1_countToSearch (tyS K)) (hE : fw_E true A s) (kk : fw_W p l e ({ frames := 2, cells := 0, slots := 0, locals := 44 }) s m args below meth c D A 6 Q (BW K ba bf bg n ca cf cg) 0 0 [(0, .ref (ba 6)), (2, .ref (ba 5)), (3, .int 15), (1, .int (b_cn bf bg n cf cg 15)), (4, .int (nI 15))] 48 []) : ∀ (d i : Nat), i + d = 15 → fw_W p l e ({ frames := 2, cells := 0, slots := 0, locals := 44 }) s m args below meth c D A 6 Q (BW K ba bf bg n ca cf cg) 0 0 [(0, .ref (ba 6)), (2, .ref (ba 5)), (3, .int 15), (1, .int (b_cn bf bg n cf cg i)), (4, .int (nI i))] 13 [] := by
  intro d
  induction d with
  | zero =>
    intro i hi
    obtain rfl : i = 15 := by omega
    refine fw_iload (pc := 13) X dX1_countToSearch_13 4 rfl ?_
    refine fw_iload_n (pc := 15) X dX1_countToSearch_15 rfl 2 rfl ?_
    refine fw_icmp_ge (pc := 16) (tgt := 48) X dX1_countToSearch_16 (by decide) (fun _ => ?_) (fun q => absurd (by decide) q)
    exact kk
  | succ d ih =>
    intro i hi
    refine fw_iload (pc := 13) X dX1_countToSearch_13 4 rfl ?_
    refine fw_iload_n (pc := 15) X dX1_countToSearch_15 rfl 2 rfl ?_
    refine fw_icmp_ge (pc := 16) (tgt := 48) X dX1_countToSearch_16 (by decide) (fun q => absurd q (nI_ge (a := i) (b := 15) (by omega) (by omega))) (fun _ => ?_)
    refine fw_aload_n (pc := 19) X dX1_countToSearch_19 rfl 1 rfl ?_
    refine fw_iload (pc := 20) X dX1_countToSearch_20 4 rfl ?_
    refine fw_aldq (pc := 22) (f := CR ca n) X 6 3 B_g5 rfl i rfl (by omega) (by decide) dX1_countToSearch_22 ?_
    by_cases c_1 : i < n
    · refine fw_st (st' := .ref (ca i 0) :: _) (congrArg (fun z => va_rf z :: _) (if_pos c_1)) ?_
      refine fw_astore (pc := 23) (lv' := [(5, .ref (ca i 0)), (0, .ref (ba 6)), (2, .ref (ba 5)), (3, .int 15), (1, .int (b_cn bf bg n cf cg i)), (4, .int (nI i))]) X dX1_countToSearch_23 (by decide) rfl ?_
      refine fw_aload (pc := 25) X dX1_countToSearch_25 0 rfl ?_
      refine fw_ifnull (pc := 27) X dX1_countToSearch_27 ?_
      refine fw_aload_n (pc := 30) X dX1_countToSearch_30 rfl 1 rfl ?_
      refine fw_aload (pc := 31) X dX1_countToSearch_31 0 rfl ?_
      refine fw_callV (pc := 33) (n := 1) (C := (RX1, TX1, 10)) (ci := 1) (q0 := 0) X hE [.ref (ca i 0)] (ct_X1_hasToBeSearched hl i c_1) (by decide) gX1_countToSearch_X1_hasToBeSearched rfl ⟨rfl, rfl⟩ ⟨rfl, dsc_X1_hasToBeSearched⟩ ⟨Nat.le_of_ble_eq_true rfl, Nat.le_of_ble_eq_true rfl⟩ rfl B_obj rfl rfl (Nat.le_of_ble_eq_true rfl) dX1_countToSearch_33 ⟨Nat.le_of_ble_eq_true rfl, Nat.le_of_ble_eq_true rfl⟩ (fun _ q => q.elim) (fun r0 u0 r_2 => ?_)
      subst r_2
      show fw_W _ _ _ _ _ _ _ _ _ _ _ _ _ _ _ _ _ _ _ (.int (b2i (b_must bf bg cf cg i = true)) :: _)
      by_cases c_3 : b_must bf bg cf cg i = true
      · refine fw_iv (y := 1) (if_pos c_3) ?_
        refine fw_if_eq (pc := 36) (tgt := 42) X dX1_countToSearch_36 (by decide) (fun q => absurd q (by decide)) (fun _ => ?_)
        refine fw_iinc (pc := 39) (v := (b_cn bf bg n cf cg i) + 1) (lv' := [(1, .int ((b_cn bf bg n cf cg i) + 1)), (5, .ref (ca i 0)), (0, .ref (ba 6)), (2, .ref (ba 5)), (3, .int 15), (4, .int (nI i))]) (j := 4) X dX1_countToSearch_39 rfl rfl (by decide) rfl ?_
        refine fw_iinc (pc := 42) (v := nI (i + 1)) (lv' := [(4, .int (nI (i + 1))), (1, .int ((b_cn bf bg n cf cg i) + 1)), (5, .ref (ca i 0)), (0, .ref (ba 6)), (2, .ref (ba 5)), (3, .int 15)]) (j := 5) X dX1_countToSearch_42 rfl (nI_1 _) (by decide) rfl ?_
        refine fw_goto (pc := 45) (tgt := 13) X dX1_countToSearch_45 (by decide) ?_
        refine fw_lv (lv' := [(0, .ref (ba 6)), (2, .ref (ba 5)), (3, .int 15), (1, .int ((b_cn bf bg n cf cg i) + 1)), (4, .int (nI (i + 1)))]) [3, 4, 5, 1, 0] rfl ?_
        refine fw_lve (lv2 := [(0, .ref (ba 6)), (2, .ref (ba 5)), (3, .int 15), (1, .int (b_cn bf bg n cf cg ((i + 1)))), (4, .int (nI ((i + 1))))]) (by rw [show (b_cn bf bg n cf cg i) + 1 = b_cn bf bg n cf cg ((i + 1)) from (by simp [b_cn, c_1, c_3])]) ?_
        exact ih (i + 1) (by omega)
      · refine fw_iv (y := 0) (if_neg c_3) ?_
        refine fw_if_eq (pc := 36) (tgt := 42) X dX1_countToSearch_36 (by decide) (fun _ => ?_) (fun q => absurd (by decide) q)
        refine fw_iinc (pc := 42) (v := nI (i + 1)) (lv' := [(4, .int (nI (i + 1))), (5, .ref (ca i 0)), (0, .ref (ba 6)), (2, .ref (ba 5)), (3, .int 15), (1, .int (b_cn bf bg n cf cg i))]) (j := 5) X dX1_countToSearch_42 rfl (nI_1 _) (by decide) rfl ?_
        refine fw_goto (pc := 45) (tgt := 13) X dX1_countToSearch_45 (by decide) ?_
        refine fw_lv (lv' := [(0, .ref (ba 6)), (2, .ref (ba 5)), (3, .int 15), (1, .int (b_cn bf bg n cf cg i)), (4, .int (nI (i + 1)))]) [2, 3, 4, 5, 0] rfl ?_
        refine fw_lve (lv2 := [(0, .ref (ba 6)), (2, .ref (ba 5)), (3, .int 15), (1, .int (b_cn bf bg n cf cg ((i + 1)))), (4, .int (nI ((i + 1))))]) (by rw [show b_cn bf bg n cf cg i = b_cn bf bg n cf cg ((i + 1)) from (by simp [b_cn, c_1, c_3])]) ?_
        exact ih (i + 1) (by omega)
    · refine fw_st (st' := .null :: _) (congrArg (fun z => va_rf z :: _) (if_neg c_1)) ?_
      refine fw_astoreN (pc := 23) (lv' := [(5, .null), (0, .ref (ba 6)), (2, .ref (ba 5)), (3, .int 15), (1, .int (b_cn bf bg n cf cg i)), (4, .int (nI i))]) X dX1_countToSearch_23 (by decide) rfl ?_
      refine fw_aloadN (pc := 25) X dX1_countToSearch_25 0 rfl ?_
      refine fw_ifnullN (pc := 27) (tgt := 42) X dX1_countToSearch_27 (by decide) ?_
      refine fw_iinc (pc := 42) (v := nI (i + 1)) (lv' := [(4, .int (nI (i + 1))), (5, .null), (0, .ref (ba 6)), (2, .ref (ba 5)), (3, .int 15), (1, .int (b_cn bf bg n cf cg i))]) (j := 5) X dX1_countToSearch_42 rfl (nI_1 _) (by decide) rfl ?_
      refine fw_goto (pc := 45) (tgt := 13) X dX1_countToSearch_45 (by decide) ?_
      refine fw_lv (lv' := [(0, .ref (ba 6)), (2, .ref (ba 5)), (3, .int 15), (1, .int (b_cn bf bg n cf cg i)), (4, .int (nI (i + 1)))]) [2, 3, 4, 5, 0] rfl ?_
      refine fw_lve (lv2 := [(0, .ref (ba 6)), (2, .ref (ba 5)), (3, .int 15), (1, .int (b_cn bf bg n cf cg ((i + 1)))), (4, .int (nI ((i + 1))))]) (by rw [show b_cn bf bg n cf cg i = b_cn bf bg n cf cg ((i + 1)) from (by simp [b_cn, c_1])]) ?_
      exact ih (i + 1) (by omega)
theorem dsc_X1_countToSearch : fw_dsc yX1_countToSearch 0 := by decide +kernel
set_option maxHeartbeats 4000000 in
set_option maxRecDepth 100000 in
theorem ct_X1_countToSearch {l : Launch} (hl : l.stackTraces = false) {D : va_G} {K : Nat → ClassId} {ba : Nat → Nat} {bf : Nat → Int32} {bg : Nat → Nat → Int32} {n : Nat} {ca : Nat → Nat → Nat} {cf : Nat → Nat → Int32} {cg : Nat → Nat → Nat → Int32}  : fw_C (S := Unit) l yX1_countToSearch wsX1_countToSearch ({ frames := 2, cells := 0, slots := 0, locals := 44 }) 0 0 true [.ref (ba 6)] D (tyS K) (BW K ba bf bg n ca cf cg) (fun r _ => r = some (.int (b_cn bf bg n cf cg 15))) (fun _ => BW K ba bf bg n ca cf cg) (fun _ => False) := by
  refine fw_met (maxL := 6) (ret := (some .int)) (by decide) rfl (Nat.le_of_ble_eq_true rfl) ?_
  intro p e s m args below meth c A X hr hlk hnm htab hE
  refine fw_lv (lv' := [(0, .ref (ba 6))]) [0] rfl ?_
  refine fw_iconst (pc := 0) (v := 0) X dX1_countToSearch_0 (by decide) ?_
  refine fw_istore_n (pc := 1) (lv' := [(1, .int 0), (0, .ref (ba 6))]) X dX1_countToSearch_1 rfl (by decide) rfl ?_
  refine fw_aload_n (pc := 2) X dX1_countToSearch_2 rfl 1 rfl ?_
  refine fw_get (pc := 3) (v := .ref (ba 5)) X iX1_countToSearch_X1 0 B_obj rfl 5 (by decide) kX1_countToSearch_27 rfl dX1_countToSearch_3 ?_
  refine fw_astore_n (pc := 6) (lv' := [(2, .ref (ba 5)), (1, .int 0), (0, .ref (ba 6))]) X dX1_countToSearch_6 rfl (by decide) rfl ?_
  refine fw_aload_n (pc := 7) X dX1_countToSearch_7 rfl 0 rfl ?_
  refine fw_alen (pc := 8) (v := 15) X 6 3 B_g5 rfl rfl dX1_countToSearch_8 ?_
  refine fw_istore_n (pc := 9) (lv' := [(3, .int 15), (2, .ref (ba 5)), (1, .int 0), (0, .ref (ba 6))]) X dX1_countToSearch_9 rfl (by decide) rfl ?_
  refine fw_iconst (pc := 10) (v := 0) X dX1_countToSearch_10 (by decide) ?_
  refine fw_istore (pc := 11) (lv' := [(4, .int 0), (3, .int 15), (2, .ref (ba 5)), (1, .int 0), (0, .ref (ba 6))]) X dX1_countToSearch_11 (by decide) rfl ?_
  refine fw_lv (lv' := [(0, .ref (ba 6)), (2, .ref (ba 5)), (3, .int 15), (1, .int (b_cn bf bg n cf cg 0)), (4, .int (nI 0))]) [4, 2, 1, 3, 0] rfl ?_
  refine lp_X1_countToSearch_13 hl  X hE ?_ 15 0 (by omega)
  refine fw_iload_n (pc := 48) X dX1_countToSearch_48 rfl 3 rfl ?_
  exact fw_iret (pc := 49) X hr hlk (Nat.le_of_ble_eq_true rfl) (Nat.le_of_ble_eq_true rfl) dX1_countToSearch_49 () rfl rfl
theorem kX1_dutyNow_84 : Cond.fieldLink RX1 84 (TX0 2).1 (TX0 2).2.1 (TX0 2).2.2.1 ∈ wsX1_dutyNow := by decide +kernel
set_option maxRecDepth 20000 in
theorem iX1_dutyNow_X0 : ∀ w ∈ wsX00, w ∈ wsX1_dutyNow := by decide +kernel
theorem kX1_dutyNow_9 : Cond.fieldLink RX1 9 (TX1 0).1 (TX1 0).2.1 (TX1 0).2.2.1 ∈ wsX1_dutyNow := by decide +kernel
set_option maxRecDepth 20000 in
theorem iX1_dutyNow_X1 : ∀ w ∈ wsX10, w ∈ wsX1_dutyNow := by decide +kernel
set_option maxHeartbeats 4000000 in
set_option maxRecDepth 100000 in
theorem lp_X1_dutyNow_4 {p : Program} {l : Launch} {e : Env} {s : State} {m : MethodId} {args : Array Value} {below : List Frame} {meth : Method} {c : Code} {D : va_G} {A : Nat → Prop} {Q : State → Prop} (hl : l.stackTraces = false) {K : Nat → ClassId} {ba : Nat → Nat} {bf : Nat → Int32} {bg : Nat → Nat → Int32} {n : Nat} {ca : Nat → Nat → Nat} {cf : Nat → Nat → Int32} {cg : Nat → Nat → Nat → Int32} (k : Nat) (hk : k < n) (X : fw_X p s m args c D A 4 cX1_dutyNow RX1 wsX1_dutyNow (tyS K)) (hE : fw_E true A s) (kk : fw_W p l e ({ frames := 0, cells := 0, slots := 0, locals := 0 }) s m args below meth c D A 4 Q (BW K ba bf bg n ca cf cg) 0 0 [(0, .ref (ba 6)), (1, .ref (ca k 0)), (2, .int (b_dn bg cg k 6)), (3, .int (nI 6))] 32 []) : ∀ (d i : Nat), i + d = 6 → fw_W p l e ({ frames := 0, cells := 0, slots := 0, locals := 0 }) s m args below meth c D A 4 Q (BW K ba bf bg n ca cf cg) 0 0 [(0, .ref (ba 6)), (1, .ref (ca k 0)), (2, .int (b_dn bg cg k i)), (3, .int (nI i))] 4 [] := by
  intro d
  induction d with
  | zero =>
    intro i hi
    obtain rfl : i = 6 := by omega
    refine fw_iload_n (pc := 4) X dX1_dutyNow_4 rfl 3 rfl ?_
    refine fw_bipush (pc := 5) (v := 6) X dX1_dutyNow_5 (by decide) ?_
    refine fw_icmp_ge (pc := 7) (tgt := 32) X dX1_dutyNow_7 (by decide) (fun _ => ?_) (fun q => absurd (by decide) q)
    exact kk
  | succ d ih =>
    intro i hi
    refine fw_iload_n (pc := 4) X dX1_dutyNow_4 rfl 3 rfl ?_
    refine fw_bipush (pc := 5) (v := 6) X dX1_dutyNow_5 (by decide) ?_
    refine fw_icmp_ge (pc := 7) (tgt := 32) X dX1_dutyNow_7 (by decide) (fun q => absurd q (nI_ge (a := i) (b := 6) (by omega) (by omega))) (fun _ => ?_)
    refine fw_iload_n (pc := 10) X dX1_dutyNow_10 rfl 2 rfl ?_
    refine fw_aload_n (pc := 11) X dX1_dutyNow_11 rfl 1 rfl ?_
    refine fw_get (pc := 12) (v := .ref (ca k 2)) X iX1_dutyNow_X0 (4 * k + 0 + 7) (B_co k hk) rfl 2 (by decide) kX1_dutyNow_84 rfl dX1_dutyNow_12 ?_
    refine fw_iload_n (pc := 15) X dX1_dutyNow_15 rfl 3 rfl ?_
    refine fw_iald (pc := 16) (n := 6) (cA := K 0) (f := cg k 2) X (4 * k + 1 + 7) 0 (B_c2 (cg := cg) k hk) rfl i rfl (by omega) (by decide) dX1_dutyNow_16 ?_
    refine fw_aload_n (pc := 17) X dX1_dutyNow_17 rfl 0 rfl ?_
    refine fw_get (pc := 18) (v := .ref (ba 0)) X iX1_dutyNow_X1 0 B_obj rfl 0 (by decide) kX1_dutyNow_9 rfl dX1_dutyNow_18 ?_
    refine fw_iload_n (pc := 21) X dX1_dutyNow_21 rfl 3 rfl ?_
    refine fw_iald (pc := 22) (n := 6) (cA := K 0) (f := bg 0) X 1 0 (B_g0 (bg := bg)) rfl i rfl (by omega) (by decide) dX1_dutyNow_22 ?_
    refine fw_imul (pc := 23) X dX1_dutyNow_23 ?_
    refine fw_iadd (pc := 24) X dX1_dutyNow_24 ?_
    refine fw_istore_n (pc := 25) (lv' := [(2, .int ((b_dn bg cg k i) + ((cg k 2 i) * (bg 0 i)))), (0, .ref (ba 6)), (1, .ref (ca k 0)), (3, .int (nI i))]) X dX1_dutyNow_25 rfl (by decide) rfl ?_
    refine fw_iinc (pc := 26) (v := nI (i + 1)) (lv' := [(3, .int (nI (i + 1))), (2, .int ((b_dn bg cg k i) + ((cg k 2 i) * (bg 0 i)))), (0, .ref (ba 6)), (1, .ref (ca k 0))]) (j := 3) X dX1_dutyNow_26 rfl (nI_1 _) (by decide) rfl ?_
    refine fw_goto (pc := 29) (tgt := 4) X dX1_dutyNow_29 (by decide) ?_
    refine fw_lv (lv' := [(0, .ref (ba 6)), (1, .ref (ca k 0)), (2, .int ((b_dn bg cg k i) + ((cg k 2 i) * (bg 0 i)))), (3, .int (nI (i + 1)))]) [2, 3, 1, 0] rfl ?_
    refine fw_lve (lv2 := [(0, .ref (ba 6)), (1, .ref (ca k 0)), (2, .int (b_dn bg cg k ((i + 1)))), (3, .int (nI ((i + 1))))]) (by rw [show (b_dn bg cg k i) + ((cg k 2 i) * (bg 0 i)) = b_dn bg cg k ((i + 1)) from rfl]) ?_
    exact ih (i + 1) (by omega)
theorem dsc_X1_dutyNow : fw_dsc yX1_dutyNow 1 := by decide +kernel
set_option maxHeartbeats 4000000 in
set_option maxRecDepth 100000 in
theorem ct_X1_dutyNow {l : Launch} (hl : l.stackTraces = false) {D : va_G} {K : Nat → ClassId} {ba : Nat → Nat} {bf : Nat → Int32} {bg : Nat → Nat → Int32} {n : Nat} {ca : Nat → Nat → Nat} {cf : Nat → Nat → Int32} {cg : Nat → Nat → Nat → Int32} (k : Nat) (hk : k < n) : fw_C (S := Unit) l yX1_dutyNow wsX1_dutyNow ({ frames := 0, cells := 0, slots := 0, locals := 0 }) 0 0 true [.ref (ba 6), .ref (ca k 0)] D (tyS K) (BW K ba bf bg n ca cf cg) (fun r _ => r = some (.int (b_dn bg cg k 6))) (fun _ => BW K ba bf bg n ca cf cg) (fun _ => False) := by
  refine fw_met (maxL := 4) (ret := (some .int)) (by decide) rfl (Nat.le_of_ble_eq_true rfl) ?_
  intro p e s m args below meth c A X hr hlk hnm htab hE
  refine fw_lv (lv' := [(0, .ref (ba 6)), (1, .ref (ca k 0))]) [0, 1] rfl ?_
  refine fw_iconst (pc := 0) (v := 0) X dX1_dutyNow_0 (by decide) ?_
  refine fw_istore_n (pc := 1) (lv' := [(2, .int 0), (0, .ref (ba 6)), (1, .ref (ca k 0))]) X dX1_dutyNow_1 rfl (by decide) rfl ?_
  refine fw_iconst (pc := 2) (v := 0) X dX1_dutyNow_2 (by decide) ?_
  refine fw_istore_n (pc := 3) (lv' := [(3, .int 0), (2, .int 0), (0, .ref (ba 6)), (1, .ref (ca k 0))]) X dX1_dutyNow_3 rfl (by decide) rfl ?_
  refine fw_lv (lv' := [(0, .ref (ba 6)), (1, .ref (ca k 0)), (2, .int (b_dn bg cg k 0)), (3, .int (nI 0))]) [2, 3, 1, 0] rfl ?_
  refine lp_X1_dutyNow_4 hl k hk X hE ?_ 6 0 (by omega)
  refine fw_iload_n (pc := 32) X dX1_dutyNow_32 rfl 2 rfl ?_
  exact fw_iret (pc := 33) X hr hlk (Nat.le_of_ble_eq_true rfl) (Nat.le_of_ble_eq_true rfl) dX1_dutyNow_33 () rfl rfl
