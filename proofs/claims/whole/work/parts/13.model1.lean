def m_gd (s r q : Int32) : Bool := (m_in s 0 5 && m_in r 0 2) && m_in q 1 100
def m_rs (G : Nat → Nat → Int32) (k : Nat) : Nat → Int32
  | 0 => 2 * (G 11 k - 1) + (if G 15 k = 0 then 0 else 30)
  | i + 1 => m_rs G k i + (if G 16 (6 * k + i) ≤ 0 then 0 else G 2 i)
def m_em (G : Nat → Nat → Int32) (k : Nat) : Nat → Int32
  | 0 => 0
  | i + 1 => m_em G k i + G 16 (6 * k + i)
def m_ow (G : Nat → Nat → Int32) (k : Nat) : Nat → Int32
  | 0 => 0
  | i + 1 => m_ow G k i + G 16 (6 * k + i) * G 1 i
def m_must (F : Nat → Int32) (G : Nat → Nat → Int32) (k : Nat) : Bool := decide (G 10 k = 1) && (!decide (G 13 k = 63) && (!decide (G 14 k = 0) || !decide (m_rs G k 6 < F 3)))
def m_cn (F : Nat → Int32) (G : Nat → Nat → Int32) : Nat → Int32
  | 0 => 0
  | i + 1 => m_cn F G i + b2i (m_must F G i = true)
def m_sr (G : Nat → Nat → Int32) (s r : Nat) : Nat → Int32
  | 0 => 0
  | i + 1 => m_sr G s r i + G 18 (3 * (6 * i + s) + r)
def m_lf (f : Nat → Int32) (b : Nat) : Nat → Int32
  | 0 => 0
  | i + 1 => m_lf f b i + f (b + i)
def m_tk (G : Nat → Nat → Int32) (k : Nat) : Nat → Nat → Int32
  | 0 => G 17
  | i + 1 => upd (m_tk G k i) (6 * k + i) (G 1 i)
def m_st (G : Nat → Nat → Int32) (k r : Nat) : Nat → Nat → Int32
  | 0 => G 18
  | i + 1 => upd (m_st G k r i) (3 * (6 * k + i) + r) (G 16 (6 * k + i))
def m_i1 (f : Nat → Int32) : Nat → Nat → Int32
  | 0 => f
  | i + 1 => upd (m_i1 f i) i 1
def m_setSort_k (s d w : Int32) : Int32 := if m_in s 0 5 = true ∧ m_in d 0 50 = true ∧ m_in w 0 20 = true then 0 else 1
def m_setSort_G (G : Nat → Nat → Int32) (s d w : Int32) : Nat → Nat → Int32 := if m_setSort_k s d w = 0 then va_up (va_up G 1 (upd (G 1) (ix s) d)) 2 (upd (G 2) (ix s) w) else G
def m_setRisk_k (x y : Int32) : Int32 := if m_in x 0 200 = true ∧ m_in y 0 10 = true then 0 else 1
def m_setRisk_F (F : Nat → Int32) (x y : Int32) : Nat → Int32 := if m_setRisk_k x y = 0 then upd (upd (upd F 0 0) 3 x) 4 y else upd F 0 1
def m_setRisk_v (F : Nat → Int32) (G : Nat → Nat → Int32) (n : Nat) (x y : Int32) : Int32 := if m_setRisk_k x y = 0 then m_cn (upd (upd (upd F 0 0) 3 x) 4 y) G n else 0
def m_setG_k (G : Nat → Nat → Int32) (t x : Int32) : Int32 := if m_in t 0 3 = true ∧ m_in x 0 1000000 = true then (if G 6 (ix t) ≤ x then 0 else 2) else 1
def m_setG_v (G : Nat → Nat → Int32) (t x : Int32) : Int32 := if m_setG_k G t x = 0 then G 5 (ix t) else 0
def m_setG_G (G : Nat → Nat → Int32) (t x : Int32) : Nat → Nat → Int32 := if m_setG_k G t x = 0 then va_up G 5 (upd (G 5) (ix t) x) else G
def m_ann_k (F : Nat → Int32) (t x : Int32) : Int32 := if m_in t 0 3 = true ∧ m_in x 0 999 = true then (if F 19 = 15 then 2 else 0) else 1
def m_ann_v (F : Nat → Int32) (t x : Int32) : Int32 := if m_ann_k F t x = 0 then F 19 + 1 - 1 else 0
def m_ann_F (F : Nat → Int32) (t x : Int32) : Nat → Int32 := if m_ann_k F t x = 0 then upd (upd F 0 0) 19 (F 19 + 1) else upd F 0 (m_ann_k F t x)
def m_ann_G (F : Nat → Int32) (G : Nat → Nat → Int32) (n : Nat) (t x : Int32) : Nat → Nat → Int32 := if m_ann_k F t x = 0 then va_up (va_up G 8 (upd (G 8) n t)) 9 (upd (G 9) n x) else G
def m_amd_k (F : Nat → Int32) (G : Nat → Nat → Int32) (c s q : Int32) : Int32 := if m_in c 0 (F 19 - 1) = true then (if m_in s 0 5 = true ∧ m_in q 0 100 = true then (if G 10 (ix c) = 0 ∧ ¬ G 16 (6 * ix c + ix s) = q then 0 else 3) else 2) else 1
def m_amd_v (F : Nat → Int32) (G : Nat → Nat → Int32) (c s q : Int32) : Int32 := if m_amd_k F G c s q = 0 then G 11 (ix c) + 1 else 0
def m_amd_G (F : Nat → Int32) (G : Nat → Nat → Int32) (c s q : Int32) : Nat → Nat → Int32 := if m_amd_k F G c s q = 0 then va_up (va_up G 16 (upd (G 16) (6 * ix c + ix s) q)) 11 (upd (G 11) (ix c) (G 11 (ix c) + 1)) else G
def m_arr_k (F : Nat → Int32) (G : Nat → Nat → Int32) (c x : Int32) : Int32 := if m_in c 0 (F 19 - 1) = true then (if m_in x 0 999 = true then (if G 10 (ix c) = 0 ∧ ¬ m_em G (ix c) 6 = 0 then 0 else 3) else 2) else 1
def m_smp (x y : Int32) : Int32 := if y ≤ 0 then 0 else if x - x / y * y = 0 then 1 else 0
def m_arr_F (F : Nat → Int32) (G : Nat → Nat → Int32) (c x : Int32) : Nat → Int32 := if m_arr_k F G c x = 0 then upd (upd F 0 0) 20 (F 20 + 1) else upd F 0 (m_arr_k F G c x)
def m_arr_G (F : Nat → Int32) (G : Nat → Nat → Int32) (c x : Int32) : Nat → Nat → Int32 := if m_arr_k F G c x = 0 then va_up (va_up (va_up G 14 (upd (G 14) (ix c) (m_smp (F 20 + 1) (F 4)))) 10 (upd (G 10) (ix c) 1)) 15 (upd (G 15) (ix c) (if G 9 (ix c) = x then 0 else 1)) else G
def m_arr_v (F : Nat → Int32) (G : Nat → Nat → Int32) (c x : Int32) : Int32 := if m_arr_k F G c x = 0 then b2i (m_must (m_arr_F F G c x) (m_arr_G F G c x) (ix c) = true) else 0
def m_rsk_k (F : Nat → Int32) (G : Nat → Nat → Int32) (c : Int32) : Int32 := if m_in c 0 (F 19 - 1) = true then (if G 10 (ix c) = 0 then 2 else 0) else 1
def m_rsk_v (F : Nat → Int32) (G : Nat → Nat → Int32) (c : Int32) : Int32 := if m_rsk_k F G c = 0 then m_rs G (ix c) 6 else 0
def m_c_k (F : Nat → Int32) (c : Int32) : Int32 := if m_in c 0 (F 19 - 1) = true then 0 else 1
def m_mus_v (F : Nat → Int32) (G : Nat → Nat → Int32) (c : Int32) : Int32 := if m_c_k F c = 0 then b2i (m_must (upd F 0 0) G (ix c) = true) else 0
def m_sch_k (F : Nat → Int32) (G : Nat → Nat → Int32) (c s q : Int32) : Int32 := if m_in c 0 (F 19 - 1) = true then (if m_in s 0 5 = true ∧ m_in q 0 100 = true then (if G 10 (ix c) = 1 then 0 else 3) else 2) else 1
def m_sch_p (G : Nat → Nat → Int32) (c s q : Int32) : Int32 := G 12 (ix c) + (if G 16 (6 * ix c + ix s) = q then 0 else 1)
def m_sch_v (F : Nat → Int32) (G : Nat → Nat → Int32) (c s q : Int32) : Int32 := if m_sch_k F G c s q = 0 then m_sch_p G c s q else 0
def m_sch_G (F : Nat → Int32) (G : Nat → Nat → Int32) (c s q : Int32) : Nat → Nat → Int32 := if m_sch_k F G c s q = 0 then va_up (va_up (va_up G 13 (upd (G 13) (ix c) (G 13 (ix c) ||| 1 <<< (s &&& 31)))) 12 (upd (G 12) (ix c) (m_sch_p G c s q))) 16 (upd (G 16) (6 * ix c + ix s) q) else G
def m_bnd_k (F : Nat → Int32) (G : Nat → Nat → Int32) (c r : Int32) : Int32 := if m_in c 0 (F 19 - 1) = true then (if m_in r 0 2 = true then (if G 10 (ix c) = 1 ∧ ¬ m_must F G (ix c) = true ∧ ¬ G 5 (ix (G 8 (ix c))) < G 6 (ix (G 8 (ix c))) + m_ow G (ix c) 6 then 0 else 3) else 2) else 1
def m_bnd_1 (G : Nat → Nat → Int32) (c : Int32) : Nat → Nat → Int32 := va_up G 10 (upd (G 10) (ix c) (if m_em G (ix c) 6 = 0 then 3 else 2))
def m_bnd_2 (G : Nat → Nat → Int32) (c r : Int32) : Nat → Nat → Int32 := va_up (va_up G 17 (m_tk G (ix c) 6)) 18 (m_st G (ix c) (ix r) 6)
def m_bnd_3 (G G2 : Nat → Nat → Int32) (c : Int32) : Nat → Nat → Int32 := va_up G2 6 (upd (G 6) (ix (G 8 (ix c))) (G 6 (ix (G 8 (ix c))) + m_ow G2 (ix c) 6))
def m_bnd_G (F : Nat → Int32) (G : Nat → Nat → Int32) (c r : Int32) : Nat → Nat → Int32 := if m_bnd_k F G c r = 0 then m_bnd_3 G (m_bnd_2 (m_bnd_1 G c) c r) c else G
def m_bnd_v (F : Nat → Int32) (G : Nat → Nat → Int32) (c r : Int32) : Int32 := if m_bnd_k F G c r = 0 then m_ow (m_bnd_G F G c r) (ix c) 6 else 0
def m_mov_k (F : Nat → Int32) (G : Nat → Nat → Int32) (c s x y q : Int32) : Int32 := if m_in c 0 (F 19 - 1) = true then (if m_gd s x q = true ∧ m_in y 0 2 = true ∧ ¬ x = y then (if q ≤ G 18 (3 * (6 * ix c + ix s) + ix x) then 0 else 3) else 2) else 1
def m_mov_1 (G : Nat → Nat → Int32) (c s x q : Int32) : Nat → Int32 := upd (G 18) (3 * (6 * ix c + ix s) + ix x) (G 18 (3 * (6 * ix c + ix s) + ix x) - q)
def m_mov_2 (G : Nat → Nat → Int32) (c s x y q : Int32) : Nat → Int32 := upd (m_mov_1 G c s x q) (3 * (6 * ix c + ix s) + ix y) (m_mov_1 G c s x q (3 * (6 * ix c + ix s) + ix y) + q)
def m_mov_G (F : Nat → Int32) (G : Nat → Nat → Int32) (c s x y q : Int32) : Nat → Nat → Int32 := if m_mov_k F G c s x y q = 0 then va_up G 18 (m_mov_2 G c s x y q) else G
def m_mov_v (F : Nat → Int32) (G : Nat → Nat → Int32) (c s x y q : Int32) : Int32 := if m_mov_k F G c s x y q = 0 then m_mov_2 G c s x y q (3 * (6 * ix c + ix s) + ix y) else 0
def m_why (F : Nat → Int32) (G : Nat → Nat → Int32) (c s r q : Int32) : Int32 := if m_in c 0 (F 19 - 1) = true then (if m_gd s r q = true then (if q ≤ G 18 (3 * (6 * ix c + ix s) + ix r) then 0 else 3) else 2) else 1
def m_lv_G (G : Nat → Nat → Int32) (k i j : Nat) (q : Int32) : Nat → Nat → Int32 := va_up (va_up (va_up G 18 (upd (G 18) (3 * (6 * k + i) + j) (G 18 (3 * (6 * k + i) + j) - q))) 6 (upd (G 6) (ix (G 8 k)) (G 6 (ix (G 8 k)) - q * G 17 (6 * k + i)))) 10 (upd (G 10) k (if m_lf (upd (G 18) (3 * (6 * k + i) + j) (G 18 (3 * (6 * k + i) + j) - q)) (3 * (6 * k + 0) + 0) 18 = 0 then 3 else 2))
def m_fr_v (F : Nat → Int32) (G : Nat → Nat → Int32) (c s r q : Int32) : Int32 := if m_why F G c s r q = 0 then q * G 17 (6 * ix c + ix s) else 0
def m_fr_G (F : Nat → Int32) (G : Nat → Nat → Int32) (c s r q : Int32) : Nat → Nat → Int32 := if m_why F G c s r q = 0 then va_up (m_lv_G G (ix c) (ix s) (ix r) q) 7 (upd (G 7) (ix (G 8 (ix c))) (G 7 (ix (G 8 (ix c))) + q * G 17 (6 * ix c + ix s))) else G
def m_sb_G (F : Nat → Int32) (G : Nat → Nat → Int32) (c s r q : Int32) : Nat → Nat → Int32 := if m_why F G c s r q = 0 then m_lv_G G (ix c) (ix s) (ix r) q else G
def m_sta_v (F : Nat → Int32) (G : Nat → Nat → Int32) (c : Int32) : Int32 := if m_c_k F c = 0 then G 10 (ix c) else 0
def m_man_k (F : Nat → Int32) (c s : Int32) : Int32 := if m_in c 0 (F 19 - 1) = true then (if m_in s 0 5 = true then 0 else 2) else 1
def m_man_v (F : Nat → Int32) (G : Nat → Nat → Int32) (c s : Int32) : Int32 := if m_man_k F c s = 0 then G 16 (6 * ix c + ix s) else 0
def m_sto_k (s r : Int32) : Int32 := if m_in s 0 5 = true ∧ m_in r 0 2 = true then 0 else 1
def m_sto_v (G : Nat → Nat → Int32) (n : Nat) (s r : Int32) : Int32 := if m_sto_k s r = 0 then m_sr G (ix s) (ix r) n else 0
def m_tr_k (t : Int32) : Int32 := if m_in t 0 3 = true then 0 else 1
def m_tr_v (G : Nat → Nat → Int32) (j : Nat) (t : Int32) : Int32 := if m_tr_k t = 0 then G j (ix t) else 0
theorem gd_true {s r q : Int32} (h : m_gd s r q = true) : m_in s 0 5 = true ∧ m_in r 0 2 = true ∧ m_in q 1 100 = true := by
  simp only [m_gd, Bool.and_eq_true] at h
  exact ⟨h.1.1, h.1.2, h.2⟩
theorem why_0 {F : Nat → Int32} {G : Nat → Nat → Int32} {c s r q : Int32} (h : m_why F G c s r q = 0) : m_in c 0 (F 19 - 1) = true ∧ m_gd s r q = true ∧ q ≤ G 18 (3 * (6 * ix c + ix s) + ix r) := by
  unfold m_why at h
  split at h
  · split at h
    · split at h
      · exact ⟨by assumption, by assumption, by assumption⟩
      · exact absurd h (by decide)
    · exact absurd h (by decide)
  · exact absurd h (by decide)
theorem dsc_X2_isIn : fw_dsc yX2_isIn 3 := by decide +kernel
set_option maxHeartbeats 4000000 in
set_option maxRecDepth 100000 in
theorem ct_X2_isIn {l : Launch} {D : va_G} {K : Nat → ClassId} {ws : va_W} (v lo hi : Int32) : fw_C (S := Unit) l yX2_isIn wsX2_isIn ({ frames := 0, cells := 0, slots := 0, locals := 0 }) 0 0 false [.int v, .int lo, .int hi] D (tyS K) (ws) (fun r _ => r = some (.int (b2i (m_in v lo hi = true)))) (fun _ => ws) (fun _ => False) := by
  refine fw_met (maxL := 3) (ret := (some .boolean)) (by decide) rfl (Nat.le_of_ble_eq_true rfl) ?_
  intro p e s m args below meth c A X hr hlk hnm htab hE
  refine fw_lv (lv' := [(0, .int v), (1, .int lo), (2, .int hi)]) [0, 1, 2] rfl ?_
  refine fw_iload_n (pc := 0) X dX2_isIn_0 rfl 0 rfl ?_
  refine fw_iload_n (pc := 1) X dX2_isIn_1 rfl 1 rfl ?_
  refine fw_icmp_lt (pc := 2) (tgt := 14) X dX2_isIn_2 (by decide) (fun c_1 => ?_) (fun c_1 => ?_)
  · refine fw_iconst (pc := 14) (v := 0) X dX2_isIn_14 (by decide) ?_
    exact fw_zret (pc := 15) X hr nr_0 hlk (Nat.le_of_ble_eq_true rfl) (Nat.le_of_ble_eq_true rfl) dX2_isIn_15 () (by simp [m_in, c_1]) (by simp [m_in, c_1])
  · refine fw_iload_n (pc := 5) X dX2_isIn_5 rfl 0 rfl ?_
    refine fw_iload_n (pc := 6) X dX2_isIn_6 rfl 2 rfl ?_
    refine fw_icmp_gt (pc := 7) (tgt := 14) X dX2_isIn_7 (by decide) (fun c_2 => ?_) (fun c_2 => ?_)
    · refine fw_iconst (pc := 14) (v := 0) X dX2_isIn_14 (by decide) ?_
      exact fw_zret (pc := 15) X hr nr_0 hlk (Nat.le_of_ble_eq_true rfl) (Nat.le_of_ble_eq_true rfl) dX2_isIn_15 () (by simp [m_in, c_1, c_2]) (by simp [m_in, c_1, c_2])
    · refine fw_iconst (pc := 10) (v := 1) X dX2_isIn_10 (by decide) ?_
      refine fw_goto (pc := 11) (tgt := 15) X dX2_isIn_11 (by decide) ?_
      exact fw_zret (pc := 15) X hr nr_1 hlk (Nat.le_of_ble_eq_true rfl) (Nat.le_of_ble_eq_true rfl) dX2_isIn_15 () (by simp [m_in, c_1, c_2]) (by simp [m_in, c_1, c_2])
theorem dsc_X2_isSort : fw_dsc yX2_isSort 1 := by decide +kernel
set_option maxHeartbeats 4000000 in
set_option maxRecDepth 100000 in
theorem ct_X2_isSort {l : Launch} {D : va_G} {K : Nat → ClassId} {ws : va_W} (v : Int32) : fw_C (S := Unit) l yX2_isSort wsX2_isSort ({ frames := 1, cells := 0, slots := 0, locals := 22 }) 0 0 false [.int v] D (tyS K) (ws) (fun r _ => r = some (.int (b2i (m_in v 0 5 = true)))) (fun _ => ws) (fun _ => False) := by
  refine fw_met (maxL := 1) (ret := (some .boolean)) (by decide) rfl (Nat.le_of_ble_eq_true rfl) ?_
  intro p e s m args below meth c A X hr hlk hnm htab hE
  refine fw_lv (lv' := [(0, .int v)]) [0] rfl ?_
  refine fw_iload_n (pc := 0) X dX2_isSort_0 rfl 0 rfl ?_
  refine fw_iconst (pc := 1) (v := 0) X dX2_isSort_1 (by decide) ?_
  refine fw_iconst (pc := 2) (v := 5) X dX2_isSort_2 (by decide) ?_
  refine fw_callS (pc := 3) (n := 3) X hE [.int v, .int 0, .int 5] (ct_X2_isIn v 0 5) (by decide) gX2_isSort_X2_isIn rfl ⟨rfl, rfl⟩ dsc_X2_isIn ⟨Nat.le_of_ble_eq_true rfl, Nat.le_of_ble_eq_true rfl⟩ rfl rfl (Nat.le_of_ble_eq_true rfl) dX2_isSort_3 ⟨Nat.le_of_ble_eq_true rfl, Nat.le_of_ble_eq_true rfl⟩ (fun _ q => q.elim) (fun r0 u0 r_1 => ?_)
  subst r_1
  exact fw_zret (pc := 6) X hr nr_b hlk (Nat.le_of_ble_eq_true rfl) (Nat.le_of_ble_eq_true rfl) dX2_isSort_6 () rfl rfl
theorem dsc_X2_isTrader : fw_dsc yX2_isTrader 1 := by decide +kernel
set_option maxHeartbeats 4000000 in
set_option maxRecDepth 100000 in
theorem ct_X2_isTrader {l : Launch} {D : va_G} {K : Nat → ClassId} {ws : va_W} (v : Int32) : fw_C (S := Unit) l yX2_isTrader wsX2_isTrader ({ frames := 1, cells := 0, slots := 0, locals := 22 }) 0 0 false [.int v] D (tyS K) (ws) (fun r _ => r = some (.int (b2i (m_in v 0 3 = true)))) (fun _ => ws) (fun _ => False) := by
  refine fw_met (maxL := 1) (ret := (some .boolean)) (by decide) rfl (Nat.le_of_ble_eq_true rfl) ?_
  intro p e s m args below meth c A X hr hlk hnm htab hE
  refine fw_lv (lv' := [(0, .int v)]) [0] rfl ?_
  refine fw_iload_n (pc := 0) X dX2_isTrader_0 rfl 0 rfl ?_
  refine fw_iconst (pc := 1) (v := 0) X dX2_isTrader_1 (by decide) ?_
  refine fw_iconst (pc := 2) (v := 3) X dX2_isTrader_2 (by decide) ?_
  refine fw_callS (pc := 3) (n := 3) X hE [.int v, .int 0, .int 3] (ct_X2_isIn v 0 3) (by decide) gX2_isTrader_X2_isIn rfl ⟨rfl, rfl⟩ dsc_X2_isIn ⟨Nat.le_of_ble_eq_true rfl, Nat.le_of_ble_eq_true rfl⟩ rfl rfl (Nat.le_of_ble_eq_true rfl) dX2_isTrader_3 ⟨Nat.le_of_ble_eq_true rfl, Nat.le_of_ble_eq_true rfl⟩ (fun _ q => q.elim) (fun r0 u0 r_1 => ?_)
  subst r_1
  exact fw_zret (pc := 6) X hr nr_b hlk (Nat.le_of_ble_eq_true rfl) (Nat.le_of_ble_eq_true rfl) dX2_isTrader_6 () rfl rfl
theorem dsc_X2_isStore : fw_dsc yX2_isStore 1 := by decide +kernel
set_option maxHeartbeats 4000000 in
set_option maxRecDepth 100000 in
theorem ct_X2_isStore {l : Launch} {D : va_G} {K : Nat → ClassId} {ws : va_W} (v : Int32) : fw_C (S := Unit) l yX2_isStore wsX2_isStore ({ frames := 1, cells := 0, slots := 0, locals := 22 }) 0 0 false [.int v] D (tyS K) (ws) (fun r _ => r = some (.int (b2i (m_in v 0 2 = true)))) (fun _ => ws) (fun _ => False) := by
  refine fw_met (maxL := 1) (ret := (some .boolean)) (by decide) rfl (Nat.le_of_ble_eq_true rfl) ?_
  intro p e s m args below meth c A X hr hlk hnm htab hE
  refine fw_lv (lv' := [(0, .int v)]) [0] rfl ?_
  refine fw_iload_n (pc := 0) X dX2_isStore_0 rfl 0 rfl ?_
  refine fw_iconst (pc := 1) (v := 0) X dX2_isStore_1 (by decide) ?_
  refine fw_iconst (pc := 2) (v := 2) X dX2_isStore_2 (by decide) ?_
  refine fw_callS (pc := 3) (n := 3) X hE [.int v, .int 0, .int 2] (ct_X2_isIn v 0 2) (by decide) gX2_isStore_X2_isIn rfl ⟨rfl, rfl⟩ dsc_X2_isIn ⟨Nat.le_of_ble_eq_true rfl, Nat.le_of_ble_eq_true rfl⟩ rfl rfl (Nat.le_of_ble_eq_true rfl) dX2_isStore_3 ⟨Nat.le_of_ble_eq_true rfl, Nat.le_of_ble_eq_true rfl⟩ (fun _ q => q.elim) (fun r0 u0 r_1 => ?_)
  subst r_1
  exact fw_zret (pc := 6) X hr nr_b hlk (Nat.le_of_ble_eq_true rfl) (Nat.le_of_ble_eq_true rfl) dX2_isStore_6 () rfl rfl
theorem dsc_X2_at : fw_dsc yX2_at 3 := by decide +kernel
set_option maxHeartbeats 4000000 in
set_option maxRecDepth 100000 in
theorem ct_X2_at {l : Launch} {D : va_G} {K : Nat → ClassId} {ws : va_W} (v y z : Int32) : fw_C (S := Unit) l yX2_at wsX2_at ({ frames := 0, cells := 0, slots := 0, locals := 0 }) 0 0 false [.int v, .int y, .int z] D (tyS K) (ws) (fun r _ => r = some (.int (3 * (6 * v + y) + z))) (fun _ => ws) (fun _ => False) := by
  refine fw_met (maxL := 3) (ret := (some .int)) (by decide) rfl (Nat.le_of_ble_eq_true rfl) ?_
  intro p e s m args below meth c A X hr hlk hnm htab hE
  refine fw_lv (lv' := [(0, .int v), (1, .int y), (2, .int z)]) [0, 1, 2] rfl ?_
  refine fw_iconst (pc := 0) (v := 3) X dX2_at_0 (by decide) ?_
  refine fw_bipush (pc := 1) (v := 6) X dX2_at_1 (by decide) ?_
  refine fw_iload_n (pc := 3) X dX2_at_3 rfl 0 rfl ?_
  refine fw_imul (pc := 4) X dX2_at_4 ?_
  refine fw_iload_n (pc := 5) X dX2_at_5 rfl 1 rfl ?_
  refine fw_iadd (pc := 6) X dX2_at_6 ?_
  refine fw_imul (pc := 7) X dX2_at_7 ?_
  refine fw_iload_n (pc := 8) X dX2_at_8 rfl 2 rfl ?_
  refine fw_iadd (pc := 9) X dX2_at_9 ?_
  exact fw_iret (pc := 10) X hr hlk (Nat.le_of_ble_eq_true rfl) (Nat.le_of_ble_eq_true rfl) dX2_at_10 () rfl rfl
theorem kX2_thrown_63 : Cond.fieldLink RX2 63 (TX2 0).1 (TX2 0).2.1 (TX2 0).2.2.1 ∈ wsX2_thrown := by decide +kernel
set_option maxRecDepth 20000 in
theorem iX2_thrown_X2 : ∀ w ∈ wsX20, w ∈ wsX2_thrown := by decide +kernel
theorem dsc_X2_thrown : fw_dsc yX2_thrown 0 := by decide +kernel
set_option maxHeartbeats 4000000 in
set_option maxRecDepth 100000 in
theorem ct_X2_thrown {l : Launch} {D : va_G} {K : Nat → ClassId} {a : Nat → Nat} {F : Nat → Int32} {G : Nat → Nat → Int32}  : fw_C (S := Unit) l yX2_thrown wsX2_thrown ({ frames := 0, cells := 0, slots := 0, locals := 0 }) 0 0 false [.ref (a 0)] D (tyS K) (MW K a F G) (fun r _ => r = some (.int (F 0))) (fun _ => MW K a F G) (fun _ => False) := by
  refine fw_met (maxL := 1) (ret := (some .int)) (by decide) rfl (Nat.le_of_ble_eq_true rfl) ?_
  intro p e s m args below meth c A X hr hlk hnm htab hE
  refine fw_lv (lv' := [(0, .ref (a 0))]) [0] rfl ?_
  refine fw_aload_n (pc := 0) X dX2_thrown_0 rfl 0 rfl ?_
  refine fw_get (pc := 1) (v := .int (F 0)) X iX2_thrown_X2 0 M_obj rfl 0 (by decide) kX2_thrown_63 rfl dX2_thrown_1 ?_
  exact fw_iret (pc := 4) X hr hlk (Nat.le_of_ble_eq_true rfl) (Nat.le_of_ble_eq_true rfl) dX2_thrown_4 () rfl rfl
theorem kX2_isFine_63 : Cond.fieldLink RX2 63 (TX2 0).1 (TX2 0).2.1 (TX2 0).2.2.1 ∈ wsX2_isFine := by decide +kernel
set_option maxRecDepth 20000 in
theorem iX2_isFine_X2 : ∀ w ∈ wsX20, w ∈ wsX2_isFine := by decide +kernel
theorem dsc_X2_isFine : fw_dsc yX2_isFine 1 := by decide +kernel
set_option maxHeartbeats 4000000 in
set_option maxRecDepth 100000 in
theorem ct_X2_isFine {l : Launch} {D : va_G} {K : Nat → ClassId} {a : Nat → Nat} {F : Nat → Int32} {G : Nat → Nat → Int32} (v : Int32) : fw_C (S := Unit) l yX2_isFine wsX2_isFine ({ frames := 0, cells := 0, slots := 0, locals := 0 }) 0 0 false [.ref (a 0), .int v] D (tyS K) (MW K a F G) (fun r _ => r = some (.int (b2i (v = 0)))) (fun _ => MW K a (upd F 0 v) G) (fun _ => False) := by
  refine fw_met (maxL := 2) (ret := (some .boolean)) (by decide) rfl (Nat.le_of_ble_eq_true rfl) ?_
  intro p e s m args below meth c A X hr hlk hnm htab hE
  refine fw_lv (lv' := [(0, .ref (a 0)), (1, .int v)]) [0, 1] rfl ?_
  refine fw_aload_n (pc := 0) X dX2_isFine_0 rfl 0 rfl ?_
  refine fw_iload_n (pc := 1) X dX2_isFine_1 rfl 1 rfl ?_
  refine fw_put (pc := 2) (ws' := MW K a (upd F 0 v) G) X iX2_isFine_X2 tyX2 tyX2_ok nmX2 0 M_obj rfl 0 (by decide) kX2_isFine_63 rfl rfl rfl (Nat.le_of_ble_eq_true rfl) dX2_isFine_2 (M_f0 _) ?_
  refine fw_iload_n (pc := 5) X dX2_isFine_5 rfl 1 rfl ?_
  refine fw_if_ne (pc := 6) (tgt := 13) X dX2_isFine_6 (by decide) (fun c_1 => ?_) (fun c_1 => ?_)
  · refine fw_iconst (pc := 13) (v := 0) X dX2_isFine_13 (by decide) ?_
    exact fw_zret (pc := 14) X hr nr_0 hlk (Nat.le_of_ble_eq_true rfl) (Nat.le_of_ble_eq_true rfl) dX2_isFine_14 () (by simp [c_1]) (by simp [c_1])
  · refine fw_iconst (pc := 9) (v := 1) X dX2_isFine_9 (by decide) ?_
    refine fw_goto (pc := 10) (tgt := 14) X dX2_isFine_10 (by decide) ?_
    exact fw_zret (pc := 14) X hr nr_1 hlk (Nat.le_of_ble_eq_true rfl) (Nat.le_of_ble_eq_true rfl) dX2_isFine_14 () (by simp [c_1]) (by simp [c_1])
theorem kX2_isConsignment_70 : Cond.fieldLink RX2 70 (TX2 19).1 (TX2 19).2.1 (TX2 19).2.2.1 ∈ wsX2_isConsignment := by decide +kernel
set_option maxRecDepth 20000 in
theorem iX2_isConsignment_X2 : ∀ w ∈ wsX20, w ∈ wsX2_isConsignment := by decide +kernel
theorem dsc_X2_isConsignment : fw_dsc yX2_isConsignment 1 := by decide +kernel
set_option maxHeartbeats 4000000 in
set_option maxRecDepth 100000 in
theorem ct_X2_isConsignment {l : Launch} {D : va_G} {K : Nat → ClassId} {a : Nat → Nat} {F : Nat → Int32} {G : Nat → Nat → Int32} (v : Int32) : fw_C (S := Unit) l yX2_isConsignment wsX2_isConsignment ({ frames := 1, cells := 0, slots := 0, locals := 22 }) 0 0 false [.ref (a 0), .int v] D (tyS K) (MW K a F G) (fun r _ => r = some (.int (b2i (m_in v 0 (F 19 - 1) = true)))) (fun _ => MW K a F G) (fun _ => False) := by
  refine fw_met (maxL := 2) (ret := (some .boolean)) (by decide) rfl (Nat.le_of_ble_eq_true rfl) ?_
  intro p e s m args below meth c A X hr hlk hnm htab hE
  refine fw_lv (lv' := [(0, .ref (a 0)), (1, .int v)]) [0, 1] rfl ?_
  refine fw_iload_n (pc := 0) X dX2_isConsignment_0 rfl 1 rfl ?_
  refine fw_iconst (pc := 1) (v := 0) X dX2_isConsignment_1 (by decide) ?_
  refine fw_aload_n (pc := 2) X dX2_isConsignment_2 rfl 0 rfl ?_
  refine fw_get (pc := 3) (v := .int (F 19)) X iX2_isConsignment_X2 0 M_obj rfl 19 (by decide) kX2_isConsignment_70 rfl dX2_isConsignment_3 ?_
  refine fw_iconst (pc := 6) (v := 1) X dX2_isConsignment_6 (by decide) ?_
  refine fw_isub (pc := 7) X dX2_isConsignment_7 ?_
  refine fw_callS (pc := 8) (n := 3) X hE [.int v, .int 0, .int ((F 19) - 1)] (ct_X2_isIn v 0 ((F 19) - 1)) (by decide) gX2_isConsignment_X2_isIn rfl ⟨rfl, rfl⟩ dsc_X2_isIn ⟨Nat.le_of_ble_eq_true rfl, Nat.le_of_ble_eq_true rfl⟩ rfl rfl (Nat.le_of_ble_eq_true rfl) dX2_isConsignment_8 ⟨Nat.le_of_ble_eq_true rfl, Nat.le_of_ble_eq_true rfl⟩ (fun _ q => q.elim) (fun r0 u0 r_1 => ?_)
  subst r_1
  exact fw_zret (pc := 11) X hr nr_b hlk (Nat.le_of_ble_eq_true rfl) (Nat.le_of_ble_eq_true rfl) dX2_isConsignment_11 () rfl rfl
theorem kX2_isEmpty_54 : Cond.fieldLink RX2 54 (TX2 16).1 (TX2 16).2.1 (TX2 16).2.2.1 ∈ wsX2_isEmpty := by decide +kernel
set_option maxRecDepth 20000 in
theorem iX2_isEmpty_X2 : ∀ w ∈ wsX20, w ∈ wsX2_isEmpty := by decide +kernel
set_option maxHeartbeats 4000000 in
set_option maxRecDepth 100000 in
theorem lp_X2_isEmpty_4 {p : Program} {l : Launch} {e : Env} {R : Room} {s : State} {m : MethodId} {args : Array Value} {below : List Frame} {meth : Method} {c : Code} {D : va_G} {A : Nat → Prop} {Q : State → Prop} {cells slots : Nat} {K : Nat → ClassId} {a : Nat → Nat} {F : Nat → Int32} {G : Nat → Nat → Int32} (v : Int32) (k : Nat) (hv : v = nI k) (hk : k < 15) (X : fw_X p s m args c D A 4 cX2_isEmpty RX2 wsX2_isEmpty (tyS K))  (kk : fw_W p l e R s m args below meth c D A 4 Q (MW K a F G) cells slots [(0, .ref (a 0)), (1, .int v), (2, .int (m_em G k 6)), (3, .int (nI 6))] 30 []) : ∀ (d i : Nat), i + d = 6 → fw_W p l e R s m args below meth c D A 4 Q (MW K a F G) cells slots [(0, .ref (a 0)), (1, .int v), (2, .int (m_em G k i)), (3, .int (nI i))] 4 [] := by
  intro d
  induction d with
  | zero =>
    intro i hi
    obtain rfl : i = 6 := by omega
    refine fw_iload_n (pc := 4) X dX2_isEmpty_4 rfl 3 rfl ?_
    refine fw_bipush (pc := 5) (v := 6) X dX2_isEmpty_5 (by decide) ?_
    refine fw_icmp_ge (pc := 7) (tgt := 30) X dX2_isEmpty_7 (by decide) (fun _ => ?_) (fun q => absurd (by decide) q)
    exact kk
  | succ d ih =>
    intro i hi
    refine fw_iload_n (pc := 4) X dX2_isEmpty_4 rfl 3 rfl ?_
    refine fw_bipush (pc := 5) (v := 6) X dX2_isEmpty_5 (by decide) ?_
    refine fw_icmp_ge (pc := 7) (tgt := 30) X dX2_isEmpty_7 (by decide) (fun q => absurd q (nI_ge (a := i) (b := 6) (by omega) (by omega))) (fun _ => ?_)
    refine fw_iload_n (pc := 10) X dX2_isEmpty_10 rfl 2 rfl ?_
    refine fw_aload_n (pc := 11) X dX2_isEmpty_11 rfl 0 rfl ?_
    refine fw_get (pc := 12) (v := .ref (a 16)) X iX2_isEmpty_X2 0 M_obj rfl 16 (by decide) kX2_isEmpty_54 rfl dX2_isEmpty_12 ?_
    refine fw_bipush (pc := 15) (v := 6) X dX2_isEmpty_15 (by decide) ?_
    refine fw_iload_n (pc := 17) X dX2_isEmpty_17 rfl 1 rfl ?_
    refine fw_imul (pc := 18) X dX2_isEmpty_18 ?_
    refine fw_iload_n (pc := 19) X dX2_isEmpty_19 rfl 3 rfl ?_
    refine fw_iadd (pc := 20) X dX2_isEmpty_20 ?_
    refine fw_iald (pc := 21) (f := G 16) X 14 0 (M_g16 (G := G)) rfl ((6 * k) + i) (nf_add (nf_mul (show (6 : Int32) = nI 6 from rfl) hv) rfl) (by omega) (by decide) dX2_isEmpty_21 ?_
    refine fw_iadd (pc := 22) X dX2_isEmpty_22 ?_
    refine fw_iv (show (m_em G k i) + (G 16 ((6 * k) + i)) = m_em G k ((i + 1)) from rfl) ?_
    refine fw_istore_n (pc := 23) (lv' := [(2, .int (m_em G k ((i + 1)))), (0, .ref (a 0)), (1, .int v), (3, .int (nI i))]) X dX2_isEmpty_23 rfl (by decide) rfl ?_
    refine fw_iinc (pc := 24) (v := nI (i + 1)) (lv' := [(3, .int (nI (i + 1))), (2, .int (m_em G k ((i + 1)))), (0, .ref (a 0)), (1, .int v)]) (j := 3) X dX2_isEmpty_24 rfl (nI_1 _) (by decide) rfl ?_
    refine fw_goto (pc := 27) (tgt := 4) X dX2_isEmpty_27 (by decide) ?_
    refine fw_lv (lv' := [(0, .ref (a 0)), (1, .int v), (2, .int (m_em G k ((i + 1)))), (3, .int (nI ((i + 1))))]) [2, 3, 1, 0] rfl ?_
    exact ih (i + 1) (by omega)
theorem dsc_X2_isEmpty : fw_dsc yX2_isEmpty 1 := by decide +kernel
set_option maxHeartbeats 4000000 in
set_option maxRecDepth 100000 in
theorem ct_X2_isEmpty {l : Launch} {D : va_G} {K : Nat → ClassId} {a : Nat → Nat} {F : Nat → Int32} {G : Nat → Nat → Int32} (v : Int32) (k : Nat) (hv : v = nI k) (hk : k < 15) : fw_C (S := Unit) l yX2_isEmpty wsX2_isEmpty ({ frames := 0, cells := 0, slots := 0, locals := 0 }) 0 0 false [.ref (a 0), .int v] D (tyS K) (MW K a F G) (fun r _ => r = some (.int (b2i (m_em G k 6 = 0)))) (fun _ => MW K a F G) (fun _ => False) := by
  refine fw_met (maxL := 4) (ret := (some .boolean)) (by decide) rfl (Nat.le_of_ble_eq_true rfl) ?_
  intro p e s m args below meth c A X hr hlk hnm htab hE
  refine fw_lv (lv' := [(0, .ref (a 0)), (1, .int v)]) [0, 1] rfl ?_
  refine fw_iconst (pc := 0) (v := 0) X dX2_isEmpty_0 (by decide) ?_
  refine fw_istore_n (pc := 1) (lv' := [(2, .int 0), (0, .ref (a 0)), (1, .int v)]) X dX2_isEmpty_1 rfl (by decide) rfl ?_
  refine fw_iconst (pc := 2) (v := 0) X dX2_isEmpty_2 (by decide) ?_
  refine fw_istore_n (pc := 3) (lv' := [(3, .int 0), (2, .int 0), (0, .ref (a 0)), (1, .int v)]) X dX2_isEmpty_3 rfl (by decide) rfl ?_
  refine fw_lv (lv' := [(0, .ref (a 0)), (1, .int v), (2, .int (m_em G k 0)), (3, .int (nI 0))]) [2, 3, 1, 0] rfl ?_
  refine lp_X2_isEmpty_4 v k hv hk X ?_ 6 0 (by omega)
  refine fw_iload_n (pc := 30) X dX2_isEmpty_30 rfl 2 rfl ?_
  refine fw_if_ne (pc := 31) (tgt := 38) X dX2_isEmpty_31 (by decide) (fun c_1 => ?_) (fun c_1 => ?_)
  · refine fw_iconst (pc := 38) (v := 0) X dX2_isEmpty_38 (by decide) ?_
    exact fw_zret (pc := 39) X hr nr_0 hlk (Nat.le_of_ble_eq_true rfl) (Nat.le_of_ble_eq_true rfl) dX2_isEmpty_39 () (by simp [c_1]) (by simp [c_1])
  · refine fw_iconst (pc := 34) (v := 1) X dX2_isEmpty_34 (by decide) ?_
    refine fw_goto (pc := 35) (tgt := 39) X dX2_isEmpty_35 (by decide) ?_
    exact fw_zret (pc := 39) X hr nr_1 hlk (Nat.le_of_ble_eq_true rfl) (Nat.le_of_ble_eq_true rfl) dX2_isEmpty_39 () (by simp [c_1]) (by simp [c_1])
theorem kX2_riskNow_38 : Cond.fieldLink RX2 38 (TX2 11).1 (TX2 11).2.1 (TX2 11).2.2.1 ∈ wsX2_riskNow := by decide +kernel
theorem kX2_riskNow_51 : Cond.fieldLink RX2 51 (TX2 15).1 (TX2 15).2.1 (TX2 15).2.2.1 ∈ wsX2_riskNow := by decide +kernel
theorem kX2_riskNow_54 : Cond.fieldLink RX2 54 (TX2 16).1 (TX2 16).2.1 (TX2 16).2.2.1 ∈ wsX2_riskNow := by decide +kernel
set_option maxRecDepth 20000 in
theorem iX2_riskNow_X2 : ∀ w ∈ wsX20, w ∈ wsX2_riskNow := by decide +kernel
theorem kX2_riskNow_13 : Cond.fieldLink RX2 13 (TX2 2).1 (TX2 2).2.1 (TX2 2).2.2.1 ∈ wsX2_riskNow := by decide +kernel
set_option maxHeartbeats 4000000 in
set_option maxRecDepth 100000 in
theorem lp_X2_riskNow_29 {p : Program} {l : Launch} {e : Env} {R : Room} {s : State} {m : MethodId} {args : Array Value} {below : List Frame} {meth : Method} {c : Code} {D : va_G} {A : Nat → Prop} {Q : State → Prop} {cells slots : Nat} {K : Nat → ClassId} {a : Nat → Nat} {F : Nat → Int32} {G : Nat → Nat → Int32} (v : Int32) (k : Nat) (hv : v = nI k) (hk : k < 15) (X : fw_X p s m args c D A 4 cX2_riskNow RX2 wsX2_riskNow (tyS K))  (kk : fw_W p l e R s m args below meth c D A 4 Q (MW K a F G) cells slots [(0, .ref (a 0)), (1, .int v), (2, .int (m_rs G k 6)), (3, .int (nI 6))] 68 []) : ∀ (d i : Nat), i + d = 6 → fw_W p l e R s m args below meth c D A 4 Q (MW K a F G) cells slots [(0, .ref (a 0)), (1, .int v), (2, .int (m_rs G k i)), (3, .int (nI i))] 29 [] := by
  intro d
  induction d with
  | zero =>
    intro i hi
    obtain rfl : i = 6 := by omega
    refine fw_iload_n (pc := 29) X dX2_riskNow_29 rfl 3 rfl ?_
    refine fw_bipush (pc := 30) (v := 6) X dX2_riskNow_30 (by decide) ?_
    refine fw_icmp_ge (pc := 32) (tgt := 68) X dX2_riskNow_32 (by decide) (fun _ => ?_) (fun q => absurd (by decide) q)
    exact kk
  | succ d ih =>
    intro i hi
    refine fw_iload_n (pc := 29) X dX2_riskNow_29 rfl 3 rfl ?_
    refine fw_bipush (pc := 30) (v := 6) X dX2_riskNow_30 (by decide) ?_
    refine fw_icmp_ge (pc := 32) (tgt := 68) X dX2_riskNow_32 (by decide) (fun q => absurd q (nI_ge (a := i) (b := 6) (by omega) (by omega))) (fun _ => ?_)
    refine fw_iload_n (pc := 35) X dX2_riskNow_35 rfl 2 rfl ?_
    refine fw_aload_n (pc := 36) X dX2_riskNow_36 rfl 0 rfl ?_
    refine fw_get (pc := 37) (v := .ref (a 16)) X iX2_riskNow_X2 0 M_obj rfl 16 (by decide) kX2_riskNow_54 rfl dX2_riskNow_37 ?_
    refine fw_bipush (pc := 40) (v := 6) X dX2_riskNow_40 (by decide) ?_
    refine fw_iload_n (pc := 42) X dX2_riskNow_42 rfl 1 rfl ?_
    refine fw_imul (pc := 43) X dX2_riskNow_43 ?_
    refine fw_iload_n (pc := 44) X dX2_riskNow_44 rfl 3 rfl ?_
    refine fw_iadd (pc := 45) X dX2_riskNow_45 ?_
    refine fw_iald (pc := 46) (f := G 16) X 14 0 (M_g16 (G := G)) rfl ((6 * k) + i) (nf_add (nf_mul (show (6 : Int32) = nI 6 from rfl) hv) rfl) (by omega) (by decide) dX2_riskNow_46 ?_
    refine fw_if_le (pc := 47) (tgt := 59) X dX2_riskNow_47 (by decide) (fun c_1 => ?_) (fun c_1 => ?_)
    · refine fw_iconst (pc := 59) (v := 0) X dX2_riskNow_59 (by decide) ?_
      refine fw_iadd (pc := 60) X dX2_riskNow_60 ?_
      refine fw_iv (show (m_rs G k i) + 0 = m_rs G k ((i + 1)) from (by simp [m_rs, c_1])) ?_
      refine fw_istore_n (pc := 61) (lv' := [(2, .int (m_rs G k ((i + 1)))), (0, .ref (a 0)), (1, .int v), (3, .int (nI i))]) X dX2_riskNow_61 rfl (by decide) rfl ?_
      refine fw_iinc (pc := 62) (v := nI (i + 1)) (lv' := [(3, .int (nI (i + 1))), (2, .int (m_rs G k ((i + 1)))), (0, .ref (a 0)), (1, .int v)]) (j := 3) X dX2_riskNow_62 rfl (nI_1 _) (by decide) rfl ?_
      refine fw_goto (pc := 65) (tgt := 29) X dX2_riskNow_65 (by decide) ?_
      refine fw_lv (lv' := [(0, .ref (a 0)), (1, .int v), (2, .int (m_rs G k ((i + 1)))), (3, .int (nI ((i + 1))))]) [2, 3, 1, 0] rfl ?_
      exact ih (i + 1) (by omega)
    · refine fw_aload_n (pc := 50) X dX2_riskNow_50 rfl 0 rfl ?_
      refine fw_get (pc := 51) (v := .ref (a 2)) X iX2_riskNow_X2 0 M_obj rfl 2 (by decide) kX2_riskNow_13 rfl dX2_riskNow_51 ?_
      refine fw_iload_n (pc := 54) X dX2_riskNow_54 rfl 3 rfl ?_
      refine fw_iald (pc := 55) (f := G 2) X 2 0 (M_g2 (G := G)) rfl i rfl (by omega) (by decide) dX2_riskNow_55 ?_
      refine fw_goto (pc := 56) (tgt := 60) X dX2_riskNow_56 (by decide) ?_
      refine fw_iadd (pc := 60) X dX2_riskNow_60 ?_
      refine fw_iv (show (m_rs G k i) + (G 2 i) = m_rs G k ((i + 1)) from (by simp [m_rs, c_1])) ?_
      refine fw_istore_n (pc := 61) (lv' := [(2, .int (m_rs G k ((i + 1)))), (0, .ref (a 0)), (1, .int v), (3, .int (nI i))]) X dX2_riskNow_61 rfl (by decide) rfl ?_
      refine fw_iinc (pc := 62) (v := nI (i + 1)) (lv' := [(3, .int (nI (i + 1))), (2, .int (m_rs G k ((i + 1)))), (0, .ref (a 0)), (1, .int v)]) (j := 3) X dX2_riskNow_62 rfl (nI_1 _) (by decide) rfl ?_
      refine fw_goto (pc := 65) (tgt := 29) X dX2_riskNow_65 (by decide) ?_
      refine fw_lv (lv' := [(0, .ref (a 0)), (1, .int v), (2, .int (m_rs G k ((i + 1)))), (3, .int (nI ((i + 1))))]) [2, 3, 1, 0] rfl ?_
      exact ih (i + 1) (by omega)
theorem dsc_X2_riskNow : fw_dsc yX2_riskNow 1 := by decide +kernel
set_option maxHeartbeats 4000000 in
set_option maxRecDepth 100000 in
theorem ct_X2_riskNow {l : Launch} {D : va_G} {K : Nat → ClassId} {a : Nat → Nat} {F : Nat → Int32} {G : Nat → Nat → Int32} (v : Int32) (k : Nat) (hv : v = nI k) (hk : k < 15) : fw_C (S := Unit) l yX2_riskNow wsX2_riskNow ({ frames := 0, cells := 0, slots := 0, locals := 0 }) 0 0 false [.ref (a 0), .int v] D (tyS K) (MW K a F G) (fun r _ => r = some (.int (m_rs G k 6))) (fun _ => MW K a F G) (fun _ => False) := by
  refine fw_met (maxL := 4) (ret := (some .int)) (by decide) rfl (Nat.le_of_ble_eq_true rfl) ?_
  intro p e s m args below meth c A X hr hlk hnm htab hE
  refine fw_lv (lv' := [(0, .ref (a 0)), (1, .int v)]) [0, 1] rfl ?_
  refine fw_iconst (pc := 0) (v := 2) X dX2_riskNow_0 (by decide) ?_
  refine fw_aload_n (pc := 1) X dX2_riskNow_1 rfl 0 rfl ?_
  refine fw_get (pc := 2) (v := .ref (a 11)) X iX2_riskNow_X2 0 M_obj rfl 11 (by decide) kX2_riskNow_38 rfl dX2_riskNow_2 ?_
  refine fw_iload_n (pc := 5) X dX2_riskNow_5 rfl 1 rfl ?_
  refine fw_iald (pc := 6) (f := G 11) X 9 0 (M_g11 (G := G)) rfl k hv (by omega) (by decide) dX2_riskNow_6 ?_
  refine fw_iconst (pc := 7) (v := 1) X dX2_riskNow_7 (by decide) ?_
  refine fw_isub (pc := 8) X dX2_riskNow_8 ?_
  refine fw_imul (pc := 9) X dX2_riskNow_9 ?_
  refine fw_aload_n (pc := 10) X dX2_riskNow_10 rfl 0 rfl ?_
  refine fw_get (pc := 11) (v := .ref (a 15)) X iX2_riskNow_X2 0 M_obj rfl 15 (by decide) kX2_riskNow_51 rfl dX2_riskNow_11 ?_
  refine fw_iload_n (pc := 14) X dX2_riskNow_14 rfl 1 rfl ?_
  refine fw_zald (pc := 15) (f := G 15) X 13 1 (M_g15 (G := G)) rfl k hv (by omega) (by decide) dX2_riskNow_15 ?_
  refine fw_if_eq (pc := 16) (tgt := 24) X dX2_riskNow_16 (by decide) (fun c_2 => ?_) (fun c_2 => ?_)
  · refine fw_iconst (pc := 24) (v := 0) X dX2_riskNow_24 (by decide) ?_
    refine fw_iadd (pc := 25) X dX2_riskNow_25 ?_
    refine fw_iv (show (2 * ((G 11 k) - 1)) + 0 = m_rs G k 0 from (by simp [m_rs, c_2])) ?_
    refine fw_istore_n (pc := 26) (lv' := [(2, .int (m_rs G k 0)), (0, .ref (a 0)), (1, .int v)]) X dX2_riskNow_26 rfl (by decide) rfl ?_
    refine fw_iconst (pc := 27) (v := 0) X dX2_riskNow_27 (by decide) ?_
    refine fw_istore_n (pc := 28) (lv' := [(3, .int 0), (2, .int (m_rs G k 0)), (0, .ref (a 0)), (1, .int v)]) X dX2_riskNow_28 rfl (by decide) rfl ?_
    refine fw_lv (lv' := [(0, .ref (a 0)), (1, .int v), (2, .int (m_rs G k 0)), (3, .int (nI 0))]) [2, 3, 1, 0] rfl ?_
    refine lp_X2_riskNow_29 v k hv hk X ?_ 6 0 (by omega)
    refine fw_iload_n (pc := 68) X dX2_riskNow_68 rfl 2 rfl ?_
    exact fw_iret (pc := 69) X hr hlk (Nat.le_of_ble_eq_true rfl) (Nat.le_of_ble_eq_true rfl) dX2_riskNow_69 () rfl rfl
  · refine fw_bipush (pc := 19) (v := 30) X dX2_riskNow_19 (by decide) ?_
    refine fw_goto (pc := 21) (tgt := 25) X dX2_riskNow_21 (by decide) ?_
    refine fw_iadd (pc := 25) X dX2_riskNow_25 ?_
    refine fw_iv (show (2 * ((G 11 k) - 1)) + 30 = m_rs G k 0 from (by simp [m_rs, c_2])) ?_
    refine fw_istore_n (pc := 26) (lv' := [(2, .int (m_rs G k 0)), (0, .ref (a 0)), (1, .int v)]) X dX2_riskNow_26 rfl (by decide) rfl ?_
    refine fw_iconst (pc := 27) (v := 0) X dX2_riskNow_27 (by decide) ?_
    refine fw_istore_n (pc := 28) (lv' := [(3, .int 0), (2, .int (m_rs G k 0)), (0, .ref (a 0)), (1, .int v)]) X dX2_riskNow_28 rfl (by decide) rfl ?_
    refine fw_lv (lv' := [(0, .ref (a 0)), (1, .int v), (2, .int (m_rs G k 0)), (3, .int (nI 0))]) [2, 3, 1, 0] rfl ?_
    refine lp_X2_riskNow_29 v k hv hk X ?_ 6 0 (by omega)
    refine fw_iload_n (pc := 68) X dX2_riskNow_68 rfl 2 rfl ?_
    exact fw_iret (pc := 69) X hr hlk (Nat.le_of_ble_eq_true rfl) (Nat.le_of_ble_eq_true rfl) dX2_riskNow_69 () rfl rfl
theorem kX2_mustNow_35 : Cond.fieldLink RX2 35 (TX2 10).1 (TX2 10).2.1 (TX2 10).2.2.1 ∈ wsX2_mustNow := by decide +kernel
set_option maxRecDepth 20000 in
theorem iX2_mustNow_X2 : ∀ w ∈ wsX20, w ∈ wsX2_mustNow := by decide +kernel
theorem kX2_mustNow_44 : Cond.fieldLink RX2 44 (TX2 13).1 (TX2 13).2.1 (TX2 13).2.2.1 ∈ wsX2_mustNow := by decide +kernel
theorem kX2_mustNow_47 : Cond.fieldLink RX2 47 (TX2 14).1 (TX2 14).2.1 (TX2 14).2.2.1 ∈ wsX2_mustNow := by decide +kernel
theorem kX2_mustNow_16 : Cond.fieldLink RX2 16 (TX2 3).1 (TX2 3).2.1 (TX2 3).2.2.1 ∈ wsX2_mustNow := by decide +kernel
theorem dsc_X2_mustNow : fw_dsc yX2_mustNow 1 := by decide +kernel
set_option maxHeartbeats 4000000 in
set_option maxRecDepth 100000 in
theorem ct_X2_mustNow {l : Launch} {D : va_G} {K : Nat → ClassId} {a : Nat → Nat} {F : Nat → Int32} {G : Nat → Nat → Int32} (v : Int32) (k : Nat) (hv : v = nI k) (hk : k < 15) : fw_C (S := Unit) l yX2_mustNow wsX2_mustNow ({ frames := 1, cells := 0, slots := 0, locals := 23 }) 0 0 false [.ref (a 0), .int v] D (tyS K) (MW K a F G) (fun r _ => r = some (.int (b2i (m_must F G k = true)))) (fun _ => MW K a F G) (fun _ => False) := by
  refine fw_met (maxL := 2) (ret := (some .boolean)) (by decide) rfl (Nat.le_of_ble_eq_true rfl) ?_
  intro p e s m args below meth c A X hr hlk hnm htab hE
  refine fw_lv (lv' := [(0, .ref (a 0)), (1, .int v)]) [0, 1] rfl ?_
  refine fw_aload_n (pc := 0) X dX2_mustNow_0 rfl 0 rfl ?_
  refine fw_get (pc := 1) (v := .ref (a 10)) X iX2_mustNow_X2 0 M_obj rfl 10 (by decide) kX2_mustNow_35 rfl dX2_mustNow_1 ?_
  refine fw_iload_n (pc := 4) X dX2_mustNow_4 rfl 1 rfl ?_
  refine fw_iald (pc := 5) (f := G 10) X 8 0 (M_g10 (G := G)) rfl k hv (by omega) (by decide) dX2_mustNow_5 ?_
  refine fw_iconst (pc := 6) (v := 1) X dX2_mustNow_6 (by decide) ?_
  refine fw_icmp_ne (pc := 7) (tgt := 46) X dX2_mustNow_7 (by decide) (fun c_1 => ?_) (fun c_1 => ?_)
  · refine fw_iconst (pc := 46) (v := 0) X dX2_mustNow_46 (by decide) ?_
    exact fw_zret (pc := 47) X hr nr_0 hlk (Nat.le_of_ble_eq_true rfl) (Nat.le_of_ble_eq_true rfl) dX2_mustNow_47 () (by simp [m_must, c_1]) (by simp [m_must, c_1])
  · refine fw_aload_n (pc := 10) X dX2_mustNow_10 rfl 0 rfl ?_
    refine fw_get (pc := 11) (v := .ref (a 13)) X iX2_mustNow_X2 0 M_obj rfl 13 (by decide) kX2_mustNow_44 rfl dX2_mustNow_11 ?_
    refine fw_iload_n (pc := 14) X dX2_mustNow_14 rfl 1 rfl ?_
    refine fw_iald (pc := 15) (f := G 13) X 11 0 (M_g13 (G := G)) rfl k hv (by omega) (by decide) dX2_mustNow_15 ?_
    refine fw_bipush (pc := 16) (v := 63) X dX2_mustNow_16 (by decide) ?_
    refine fw_icmp_eq (pc := 18) (tgt := 46) X dX2_mustNow_18 (by decide) (fun c_2 => ?_) (fun c_2 => ?_)
    · refine fw_iconst (pc := 46) (v := 0) X dX2_mustNow_46 (by decide) ?_
      exact fw_zret (pc := 47) X hr nr_0 hlk (Nat.le_of_ble_eq_true rfl) (Nat.le_of_ble_eq_true rfl) dX2_mustNow_47 () (by simp [m_must, c_1, c_2]) (by simp [m_must, c_1, c_2])
    · refine fw_aload_n (pc := 21) X dX2_mustNow_21 rfl 0 rfl ?_
      refine fw_get (pc := 22) (v := .ref (a 14)) X iX2_mustNow_X2 0 M_obj rfl 14 (by decide) kX2_mustNow_47 rfl dX2_mustNow_22 ?_
      refine fw_iload_n (pc := 25) X dX2_mustNow_25 rfl 1 rfl ?_
      refine fw_zald (pc := 26) (f := G 14) X 12 1 (M_g14 (G := G)) rfl k hv (by omega) (by decide) dX2_mustNow_26 ?_
      refine fw_if_ne (pc := 27) (tgt := 42) X dX2_mustNow_27 (by decide) (fun c_3 => ?_) (fun c_3 => ?_)
      · refine fw_iconst (pc := 42) (v := 1) X dX2_mustNow_42 (by decide) ?_
        refine fw_goto (pc := 43) (tgt := 47) X dX2_mustNow_43 (by decide) ?_
        exact fw_zret (pc := 47) X hr nr_1 hlk (Nat.le_of_ble_eq_true rfl) (Nat.le_of_ble_eq_true rfl) dX2_mustNow_47 () (by simp [m_must, c_1, c_2, c_3]) (by simp [m_must, c_1, c_2, c_3])
      · refine fw_aload_n (pc := 30) X dX2_mustNow_30 rfl 0 rfl ?_
        refine fw_iload_n (pc := 31) X dX2_mustNow_31 rfl 1 rfl ?_
        refine fw_callV (pc := 32) (n := 1) (C := (RX2, TX2, 21)) (ci := 2) (q0 := 0) X hE [.int v] (ct_X2_riskNow v k hv (by omega)) (by decide) gX2_mustNow_X2_riskNow rfl ⟨rfl, rfl⟩ ⟨rfl, dsc_X2_riskNow⟩ ⟨Nat.le_of_ble_eq_true rfl, Nat.le_of_ble_eq_true rfl⟩ rfl M_obj rfl rfl (Nat.le_of_ble_eq_true rfl) dX2_mustNow_32 ⟨Nat.le_of_ble_eq_true rfl, Nat.le_of_ble_eq_true rfl⟩ (fun _ q => q.elim) (fun r0 u0 r_4 => ?_)
        subst r_4
        refine fw_aload_n (pc := 35) X dX2_mustNow_35 rfl 0 rfl ?_
        refine fw_get (pc := 36) (v := .int (F 3)) X iX2_mustNow_X2 0 M_obj rfl 3 (by decide) kX2_mustNow_16 rfl dX2_mustNow_36 ?_
        refine fw_icmp_lt (pc := 39) (tgt := 46) X dX2_mustNow_39 (by decide) (fun c_5 => ?_) (fun c_5 => ?_)
        · refine fw_iconst (pc := 46) (v := 0) X dX2_mustNow_46 (by decide) ?_
          exact fw_zret (pc := 47) X hr nr_0 hlk (Nat.le_of_ble_eq_true rfl) (Nat.le_of_ble_eq_true rfl) dX2_mustNow_47 () (by simp [m_must, c_1, c_2, c_3, c_5]) (by simp [m_must, c_1, c_2, c_3, c_5])
        · refine fw_iconst (pc := 42) (v := 1) X dX2_mustNow_42 (by decide) ?_
          refine fw_goto (pc := 43) (tgt := 47) X dX2_mustNow_43 (by decide) ?_
          exact fw_zret (pc := 47) X hr nr_1 hlk (Nat.le_of_ble_eq_true rfl) (Nat.le_of_ble_eq_true rfl) dX2_mustNow_47 () (by simp [m_must, c_1, c_2, c_3, c_5]) (by simp [m_must, c_1, c_2, c_3, c_5])
theorem kX2_owes_54 : Cond.fieldLink RX2 54 (TX2 16).1 (TX2 16).2.1 (TX2 16).2.2.1 ∈ wsX2_owes := by decide +kernel
set_option maxRecDepth 20000 in
theorem iX2_owes_X2 : ∀ w ∈ wsX20, w ∈ wsX2_owes := by decide +kernel
theorem kX2_owes_7 : Cond.fieldLink RX2 7 (TX2 1).1 (TX2 1).2.1 (TX2 1).2.2.1 ∈ wsX2_owes := by decide +kernel
set_option maxHeartbeats 4000000 in
set_option maxRecDepth 100000 in
theorem lp_X2_owes_4 {p : Program} {l : Launch} {e : Env} {R : Room} {s : State} {m : MethodId} {args : Array Value} {below : List Frame} {meth : Method} {c : Code} {D : va_G} {A : Nat → Prop} {Q : State → Prop} {cells slots : Nat} {K : Nat → ClassId} {a : Nat → Nat} {F : Nat → Int32} {G : Nat → Nat → Int32} (v : Int32) (k : Nat) (hv : v = nI k) (hk : k < 15) (X : fw_X p s m args c D A 4 cX2_owes RX2 wsX2_owes (tyS K))  (kk : fw_W p l e R s m args below meth c D A 4 Q (MW K a F G) cells slots [(0, .ref (a 0)), (1, .int v), (2, .int (m_ow G k 6)), (3, .int (nI 6))] 37 []) : ∀ (d i : Nat), i + d = 6 → fw_W p l e R s m args below meth c D A 4 Q (MW K a F G) cells slots [(0, .ref (a 0)), (1, .int v), (2, .int (m_ow G k i)), (3, .int (nI i))] 4 [] := by
  intro d
  induction d with
  | zero =>
    intro i hi
    obtain rfl : i = 6 := by omega
    refine fw_iload_n (pc := 4) X dX2_owes_4 rfl 3 rfl ?_
    refine fw_bipush (pc := 5) (v := 6) X dX2_owes_5 (by decide) ?_
    refine fw_icmp_ge (pc := 7) (tgt := 37) X dX2_owes_7 (by decide) (fun _ => ?_) (fun q => absurd (by decide) q)
    exact kk
  | succ d ih =>
    intro i hi
    refine fw_iload_n (pc := 4) X dX2_owes_4 rfl 3 rfl ?_
    refine fw_bipush (pc := 5) (v := 6) X dX2_owes_5 (by decide) ?_
    refine fw_icmp_ge (pc := 7) (tgt := 37) X dX2_owes_7 (by decide) (fun q => absurd q (nI_ge (a := i) (b := 6) (by omega) (by omega))) (fun _ => ?_)
    refine fw_iload_n (pc := 10) X dX2_owes_10 rfl 2 rfl ?_
    refine fw_aload_n (pc := 11) X dX2_owes_11 rfl 0 rfl ?_
    refine fw_get (pc := 12) (v := .ref (a 16)) X iX2_owes_X2 0 M_obj rfl 16 (by decide) kX2_owes_54 rfl dX2_owes_12 ?_
    refine fw_bipush (pc := 15) (v := 6) X dX2_owes_15 (by decide) ?_
    refine fw_iload_n (pc := 17) X dX2_owes_17 rfl 1 rfl ?_
    refine fw_imul (pc := 18) X dX2_owes_18 ?_
    refine fw_iload_n (pc := 19) X dX2_owes_19 rfl 3 rfl ?_
    refine fw_iadd (pc := 20) X dX2_owes_20 ?_
    refine fw_iald (pc := 21) (f := G 16) X 14 0 (M_g16 (G := G)) rfl ((6 * k) + i) (nf_add (nf_mul (show (6 : Int32) = nI 6 from rfl) hv) rfl) (by omega) (by decide) dX2_owes_21 ?_
    refine fw_aload_n (pc := 22) X dX2_owes_22 rfl 0 rfl ?_
    refine fw_get (pc := 23) (v := .ref (a 1)) X iX2_owes_X2 0 M_obj rfl 1 (by decide) kX2_owes_7 rfl dX2_owes_23 ?_
    refine fw_iload_n (pc := 26) X dX2_owes_26 rfl 3 rfl ?_
    refine fw_iald (pc := 27) (f := G 1) X 1 0 (M_g1 (G := G)) rfl i rfl (by omega) (by decide) dX2_owes_27 ?_
    refine fw_imul (pc := 28) X dX2_owes_28 ?_
    refine fw_iadd (pc := 29) X dX2_owes_29 ?_
    refine fw_iv (show (m_ow G k i) + ((G 16 ((6 * k) + i)) * (G 1 i)) = m_ow G k ((i + 1)) from rfl) ?_
    refine fw_istore_n (pc := 30) (lv' := [(2, .int (m_ow G k ((i + 1)))), (0, .ref (a 0)), (1, .int v), (3, .int (nI i))]) X dX2_owes_30 rfl (by decide) rfl ?_
    refine fw_iinc (pc := 31) (v := nI (i + 1)) (lv' := [(3, .int (nI (i + 1))), (2, .int (m_ow G k ((i + 1)))), (0, .ref (a 0)), (1, .int v)]) (j := 3) X dX2_owes_31 rfl (nI_1 _) (by decide) rfl ?_
    refine fw_goto (pc := 34) (tgt := 4) X dX2_owes_34 (by decide) ?_
    refine fw_lv (lv' := [(0, .ref (a 0)), (1, .int v), (2, .int (m_ow G k ((i + 1)))), (3, .int (nI ((i + 1))))]) [2, 3, 1, 0] rfl ?_
    exact ih (i + 1) (by omega)
theorem dsc_X2_owes : fw_dsc yX2_owes 1 := by decide +kernel
set_option maxHeartbeats 4000000 in
set_option maxRecDepth 100000 in
theorem ct_X2_owes {l : Launch} {D : va_G} {K : Nat → ClassId} {a : Nat → Nat} {F : Nat → Int32} {G : Nat → Nat → Int32} (v : Int32) (k : Nat) (hv : v = nI k) (hk : k < 15) : fw_C (S := Unit) l yX2_owes wsX2_owes ({ frames := 0, cells := 0, slots := 0, locals := 0 }) 0 0 false [.ref (a 0), .int v] D (tyS K) (MW K a F G) (fun r _ => r = some (.int (m_ow G k 6))) (fun _ => MW K a F G) (fun _ => False) := by
  refine fw_met (maxL := 4) (ret := (some .int)) (by decide) rfl (Nat.le_of_ble_eq_true rfl) ?_
  intro p e s m args below meth c A X hr hlk hnm htab hE
  refine fw_lv (lv' := [(0, .ref (a 0)), (1, .int v)]) [0, 1] rfl ?_
  refine fw_iconst (pc := 0) (v := 0) X dX2_owes_0 (by decide) ?_
  refine fw_istore_n (pc := 1) (lv' := [(2, .int 0), (0, .ref (a 0)), (1, .int v)]) X dX2_owes_1 rfl (by decide) rfl ?_
  refine fw_iconst (pc := 2) (v := 0) X dX2_owes_2 (by decide) ?_
  refine fw_istore_n (pc := 3) (lv' := [(3, .int 0), (2, .int 0), (0, .ref (a 0)), (1, .int v)]) X dX2_owes_3 rfl (by decide) rfl ?_
  refine fw_lv (lv' := [(0, .ref (a 0)), (1, .int v), (2, .int (m_ow G k 0)), (3, .int (nI 0))]) [2, 3, 1, 0] rfl ?_
  refine lp_X2_owes_4 v k hv hk X ?_ 6 0 (by omega)
  refine fw_iload_n (pc := 37) X dX2_owes_37 rfl 2 rfl ?_
  exact fw_iret (pc := 38) X hr hlk (Nat.le_of_ble_eq_true rfl) (Nat.le_of_ble_eq_true rfl) dX2_owes_38 () rfl rfl
theorem dsc_X2_isGoods : fw_dsc yX2_isGoods 3 := by decide +kernel
set_option maxHeartbeats 4000000 in
set_option maxRecDepth 100000 in
theorem ct_X2_isGoods {l : Launch} {D : va_G} {K : Nat → ClassId} {ws : va_W} (v x y : Int32) : fw_C (S := Unit) l yX2_isGoods wsX2_isGoods ({ frames := 2, cells := 0, slots := 0, locals := 42 }) 0 0 false [.int v, .int x, .int y] D (tyS K) (ws) (fun r _ => r = some (.int (b2i (m_gd v x y = true)))) (fun _ => ws) (fun _ => False) := by
  refine fw_met (maxL := 3) (ret := (some .boolean)) (by decide) rfl (Nat.le_of_ble_eq_true rfl) ?_
  intro p e s m args below meth c A X hr hlk hnm htab hE
  refine fw_lv (lv' := [(0, .int v), (1, .int x), (2, .int y)]) [0, 1, 2] rfl ?_
  refine fw_iload_n (pc := 0) X dX2_isGoods_0 rfl 0 rfl ?_
  refine fw_callS (pc := 1) (n := 1) X hE [.int v] (ct_X2_isSort v) (by decide) gX2_isGoods_X2_isSort rfl ⟨rfl, rfl⟩ dsc_X2_isSort ⟨Nat.le_of_ble_eq_true rfl, Nat.le_of_ble_eq_true rfl⟩ rfl rfl (Nat.le_of_ble_eq_true rfl) dX2_isGoods_1 ⟨Nat.le_of_ble_eq_true rfl, Nat.le_of_ble_eq_true rfl⟩ (fun _ q => q.elim) (fun r0 u0 r_1 => ?_)
  subst r_1
  show fw_W _ _ _ _ _ _ _ _ _ _ _ _ _ _ _ _ _ _ _ (.int (b2i (m_in v 0 5 = true)) :: _)
  by_cases c_2 : m_in v 0 5 = true
  · obtain ⟨hx_v, hl_v⟩ := in_ix (h := 5) (N := 6) (by decide) (by decide) c_2
    refine fw_iv (y := 1) (if_pos c_2) ?_
    refine fw_if_eq (pc := 4) (tgt := 28) X dX2_isGoods_4 (by decide) (fun q => absurd q (by decide)) (fun _ => ?_)
    refine fw_iload_n (pc := 7) X dX2_isGoods_7 rfl 1 rfl ?_
    refine fw_callS (pc := 8) (n := 1) X hE [.int x] (ct_X2_isStore x) (by decide) gX2_isGoods_X2_isStore rfl ⟨rfl, rfl⟩ dsc_X2_isStore ⟨Nat.le_of_ble_eq_true rfl, Nat.le_of_ble_eq_true rfl⟩ rfl rfl (Nat.le_of_ble_eq_true rfl) dX2_isGoods_8 ⟨Nat.le_of_ble_eq_true rfl, Nat.le_of_ble_eq_true rfl⟩ (fun _ q => q.elim) (fun r0 u0 r_3 => ?_)
    subst r_3
    show fw_W _ _ _ _ _ _ _ _ _ _ _ _ _ _ _ _ _ _ _ (.int (b2i (m_in x 0 2 = true)) :: _)
    by_cases c_4 : m_in x 0 2 = true
    · obtain ⟨hx_x, hl_x⟩ := in_ix (h := 2) (N := 3) (by decide) (by decide) c_4
      refine fw_iv (y := 1) (if_pos c_4) ?_
      refine fw_if_eq (pc := 11) (tgt := 28) X dX2_isGoods_11 (by decide) (fun q => absurd q (by decide)) (fun _ => ?_)
      refine fw_iload_n (pc := 14) X dX2_isGoods_14 rfl 2 rfl ?_
      refine fw_iconst (pc := 15) (v := 1) X dX2_isGoods_15 (by decide) ?_
      refine fw_bipush (pc := 16) (v := 100) X dX2_isGoods_16 (by decide) ?_
      refine fw_callS (pc := 18) (n := 3) X hE [.int y, .int 1, .int 100] (ct_X2_isIn y 1 100) (by decide) gX2_isGoods_X2_isIn rfl ⟨rfl, rfl⟩ dsc_X2_isIn ⟨Nat.le_of_ble_eq_true rfl, Nat.le_of_ble_eq_true rfl⟩ rfl rfl (Nat.le_of_ble_eq_true rfl) dX2_isGoods_18 ⟨Nat.le_of_ble_eq_true rfl, Nat.le_of_ble_eq_true rfl⟩ (fun _ q => q.elim) (fun r0 u0 r_5 => ?_)
      subst r_5
      show fw_W _ _ _ _ _ _ _ _ _ _ _ _ _ _ _ _ _ _ _ (.int (b2i (m_in y 1 100 = true)) :: _)
      by_cases c_6 : m_in y 1 100 = true
      · refine fw_iv (y := 1) (if_pos c_6) ?_
        refine fw_if_eq (pc := 21) (tgt := 28) X dX2_isGoods_21 (by decide) (fun q => absurd q (by decide)) (fun _ => ?_)
        refine fw_iconst (pc := 24) (v := 1) X dX2_isGoods_24 (by decide) ?_
        refine fw_goto (pc := 25) (tgt := 29) X dX2_isGoods_25 (by decide) ?_
        exact fw_zret (pc := 29) X hr nr_1 hlk (Nat.le_of_ble_eq_true rfl) (Nat.le_of_ble_eq_true rfl) dX2_isGoods_29 () (by simp [m_gd, c_2, c_4, c_6]) (by simp [m_gd, c_2, c_4, c_6])
      · refine fw_iv (y := 0) (if_neg c_6) ?_
        refine fw_if_eq (pc := 21) (tgt := 28) X dX2_isGoods_21 (by decide) (fun _ => ?_) (fun q => absurd (by decide) q)
        refine fw_iconst (pc := 28) (v := 0) X dX2_isGoods_28 (by decide) ?_
        exact fw_zret (pc := 29) X hr nr_0 hlk (Nat.le_of_ble_eq_true rfl) (Nat.le_of_ble_eq_true rfl) dX2_isGoods_29 () (by simp [m_gd, c_2, c_4, c_6]) (by simp [m_gd, c_2, c_4, c_6])
    · refine fw_iv (y := 0) (if_neg c_4) ?_
      refine fw_if_eq (pc := 11) (tgt := 28) X dX2_isGoods_11 (by decide) (fun _ => ?_) (fun q => absurd (by decide) q)
      refine fw_iconst (pc := 28) (v := 0) X dX2_isGoods_28 (by decide) ?_
      exact fw_zret (pc := 29) X hr nr_0 hlk (Nat.le_of_ble_eq_true rfl) (Nat.le_of_ble_eq_true rfl) dX2_isGoods_29 () (by simp [m_gd, c_2, c_4]) (by simp [m_gd, c_2, c_4])
  · refine fw_iv (y := 0) (if_neg c_2) ?_
    refine fw_if_eq (pc := 4) (tgt := 28) X dX2_isGoods_4 (by decide) (fun _ => ?_) (fun q => absurd (by decide) q)
    refine fw_iconst (pc := 28) (v := 0) X dX2_isGoods_28 (by decide) ?_
    exact fw_zret (pc := 29) X hr nr_0 hlk (Nat.le_of_ble_eq_true rfl) (Nat.le_of_ble_eq_true rfl) dX2_isGoods_29 () (by simp [m_gd, c_2]) (by simp [m_gd, c_2])
