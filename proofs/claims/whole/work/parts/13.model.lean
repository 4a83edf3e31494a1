abbrev m_gd (s r q : Int32) : Bool := (m_in s 0 5 && m_in r 0 2) && m_in q 1 100
def m_rs (G : Nat → Nat → Int32) (k : Nat) : Nat → Int32
  | 0 => 2 * (G 11 k - 1) + (if G 15 k = 0 then 0 else 30)
  | i + 1 => m_rs G k i + (if G 16 (6 * k + i) ≤ 0 then 0 else G 2 i)
def m_em (G : Nat → Nat → Int32) (k : Nat) : Nat → Int32
  | 0 => 0
  | i + 1 => m_em G k i + G 16 (6 * k + i)
def m_ow (G : Nat → Nat → Int32) (k : Nat) : Nat → Int32
  | 0 => 0
  | i + 1 => m_ow G k i + G 16 (6 * k + i) * G 1 i
def m_must (F : Nat → Int32) (G : Nat → Nat → Int32) (k : Nat) : Bool := decide (G 10 k = 1) && (!decide (G 13 k = 63) && (!decide (G 14 k = 0) || !decide (m_rs G k 6 < F 3)))
def m_cn (F : Nat → Int32) (G : Nat → Nat → Int32) : Nat → Int32
  | 0 => 0
  | i + 1 => m_cn F G i + b2i (m_must F G i = true)
def m_sr (G : Nat → Nat → Int32) (s r : Nat) : Nat → Int32
  | 0 => 0
  | i + 1 => m_sr G s r i + G 18 (3 * (6 * i + s) + r)
def m_lf (f : Nat → Int32) (b : Nat) : Nat → Int32
  | 0 => 0
  | i + 1 => m_lf f b i + f (b + i)
def m_tk (G : Nat → Nat → Int32) (k : Nat) : Nat → Nat → Int32
  | 0 => G 17
  | i + 1 => upd (m_tk G k i) (6 * k + i) (G 1 i)
def m_st (G : Nat → Nat → Int32) (k r : Nat) : Nat → Nat → Int32
  | 0 => G 18
  | i + 1 => upd (m_st G k r i) (3 * (6 * k + i) + r) (G 16 (6 * k + i))
def m_i1 (f : Nat → Int32) : Nat → Nat → Int32
  | 0 => f
  | i + 1 => upd (m_i1 f i) i 1
def m_setSort_k (s d w : Int32) : Int32 := if m_in s 0 5 = true ∧ m_in d 0 50 = true ∧ m_in w 0 20 = true then 0 else 1
def m_setSort_G (G : Nat → Nat → Int32) (s d w : Int32) : Nat → Nat → Int32 := if m_setSort_k s d w = 0 then va_up (va_up G 1 (upd (G 1) (ix s) d)) 2 (upd (G 2) (ix s) w) else G
def m_setRisk_k (x y : Int32) : Int32 := if m_in x 0 200 = true ∧ m_in y 0 10 = true then 0 else 1
def m_setRisk_F (F : Nat → Int32) (x y : Int32) : Nat → Int32 := if m_setRisk_k x y = 0 then upd (upd (upd F 0 0) 3 x) 4 y else upd F 0 1
def m_setRisk_v (F : Nat → Int32) (G : Nat → Nat → Int32) (n : Nat) (x y : Int32) : Int32 := if m_setRisk_k x y = 0 then m_cn (upd (upd (upd F 0 0) 3 x) 4 y) G n else 0
def m_setG_k (G : Nat → Nat → Int32) (t x : Int32) : Int32 := if m_in t 0 3 = true ∧ m_in x 0 1000000 = true then (if x < G 6 (ix t) then 2 else 0) else 1
def m_setG_v (G : Nat → Nat → Int32) (t x : Int32) : Int32 := if m_setG_k G t x = 0 then G 5 (ix t) else 0
def m_setG_G (G : Nat → Nat → Int32) (t x : Int32) : Nat → Nat → Int32 := if m_setG_k G t x = 0 then va_up G 5 (upd (G 5) (ix t) x) else G
def m_ann_k (F : Nat → Int32) (t x : Int32) : Int32 := if m_in t 0 3 = true ∧ m_in x 0 999 = true then (if F 19 = 15 then 2 else 0) else 1
def m_ann_v (F : Nat → Int32) (t x : Int32) : Int32 := if m_ann_k F t x = 0 then F 19 + 1 - 1 else 0
def m_ann_F (F : Nat → Int32) (t x : Int32) : Nat → Int32 := if m_ann_k F t x = 0 then upd (upd F 0 0) 19 (F 19 + 1) else upd F 0 (m_ann_k F t x)
def m_ann_G (F : Nat → Int32) (G : Nat → Nat → Int32) (n : Nat) (t x : Int32) : Nat → Nat → Int32 := if m_ann_k F t x = 0 then va_up (va_up G 8 (upd (G 8) n t)) 9 (upd (G 9) n x) else G
def m_amd_k (F : Nat → Int32) (G : Nat → Nat → Int32) (c s q : Int32) : Int32 := if m_in c 0 (F 19 - 1) = true then (if m_in s 0 5 = true ∧ m_in q 0 100 = true then (if G 10 (ix c) = 0 ∧ ¬ G 16 (6 * ix c + ix s) = q then 0 else 3) else 2) else 1
def m_amd_v (F : Nat → Int32) (G : Nat → Nat → Int32) (c s q : Int32) : Int32 := if m_amd_k F G c s q = 0 then G 11 (ix c) + 1 else 0
def m_amd_G (F : Nat → Int32) (G : Nat → Nat → Int32) (c s q : Int32) : Nat → Nat → Int32 := if m_amd_k F G c s q = 0 then va_up (va_up G 16 (upd (G 16) (6 * ix c + ix s) q)) 11 (upd (G 11) (ix c) (G 11 (ix c) + 1)) else G
def m_arr_k (F : Nat → Int32) (G : Nat → Nat → Int32) (c x : Int32) : Int32 := if m_in c 0 (F 19 - 1) = true then (if m_in x 0 999 = true then (if G 10 (ix c) = 0 ∧ ¬ m_em G (ix c) 6 = 0 then 0 else 3) else 2) else 1
def m_smp (x y : Int32) : Int32 := if y ≤ 0 then 0 else if x - x / y * y = 0 then 1 else 0
def m_arr_F (F : Nat → Int32) (G : Nat → Nat → Int32) (c x : Int32) : Nat → Int32 := if m_arr_k F G c x = 0 then upd (upd F 0 0) 20 (F 20 + 1) else upd F 0 (m_arr_k F G c x)
def m_arr_G (F : Nat → Int32) (G : Nat → Nat → Int32) (c x : Int32) : Nat → Nat → Int32 := if m_arr_k F G c x = 0 then va_up (va_up (va_up G 14 (upd (G 14) (ix c) (m_smp (F 20 + 1) (F 4)))) 10 (upd (G 10) (ix c) 1)) 15 (upd (G 15) (ix c) (if G 9 (ix c) = x then 0 else 1)) else G
def m_arr_v (F : Nat → Int32) (G : Nat → Nat → Int32) (c x : Int32) : Int32 := if m_arr_k F G c x = 0 then b2i (m_must (m_arr_F F G c x) (m_arr_G F G c x) (ix c) = true) else 0
def m_rsk_k (F : Nat → Int32) (G : Nat → Nat → Int32) (c : Int32) : Int32 := if m_in c 0 (F 19 - 1) = true then (if G 10 (ix c) = 0 then 2 else 0) else 1
def m_rsk_v (F : Nat → Int32) (G : Nat → Nat → Int32) (c : Int32) : Int32 := if m_rsk_k F G c = 0 then m_rs G (ix c) 6 else 0
def m_c_k (F : Nat → Int32) (c : Int32) : Int32 := if m_in c 0 (F 19 - 1) = true then 0 else 1
def m_mus_v (F : Nat → Int32) (G : Nat → Nat → Int32) (c : Int32) : Int32 := if m_c_k F c = 0 then b2i (m_must F G (ix c) = true) else 0
def m_sch_k (F : Nat → Int32) (G : Nat → Nat → Int32) (c s q : Int32) : Int32 := if m_in c 0 (F 19 - 1) = true then (if m_in s 0 5 = true ∧ m_in q 0 100 = true then (if G 10 (ix c) = 1 then 0 else 3) else 2) else 1
def m_sch_p (G : Nat → Nat → Int32) (c s q : Int32) : Int32 := G 12 (ix c) + (if G 16 (6 * ix c + ix s) = q then 0 else 1)
def m_sch_v (F : Nat → Int32) (G : Nat → Nat → Int32) (c s q : Int32) : Int32 := if m_sch_k F G c s q = 0 then m_sch_p G c s q else 0
def m_sch_G (F : Nat → Int32) (G : Nat → Nat → Int32) (c s q : Int32) : Nat → Nat → Int32 := if m_sch_k F G c s q = 0 then va_up (va_up (va_up G 13 (upd (G 13) (ix c) (G 13 (ix c) ||| 1 <<< (s &&& 31)))) 12 (upd (G 12) (ix c) (m_sch_p G c s q))) 16 (upd (G 16) (6 * ix c + ix s) q) else G
def m_bnd_c (F : Nat → Int32) (G : Nat → Nat → Int32) (k : Nat) : Prop := G 10 k = 1 ∧ ¬ m_must F G k = true ∧ ¬ G 5 (ix (G 8 k)) < G 6 (ix (G 8 k)) + m_ow G k 6
def m_why (F : Nat → Int32) (G : Nat → Nat → Int32) (c s r q : Int32) : Int32 := if m_in c 0 (F 19 - 1) = true then (if m_gd s r q = true then (if G 18 (3 * (6 * ix c + ix s) + ix r) < q then 3 else 0) else 2) else 1
theorem dsc_X2_isIn : fw_dsc yX2_isIn 3 := by decide +kernel
set_option maxHeartbeats 4000000 in
set_option maxRecDepth 100000 in
theorem ct_X2_isIn {l : Launch} {D : va_G} {K : Nat → ClassId} {ws : va_W} (v lo hi : Int32) : fw_C (S := Unit) l yX2_isIn wsX2_isIn ({ frames := 0, cells := 0, slots := 0, locals := 0 }) 0 0 false [.int v, .int lo, .int hi] D (tyS K) (ws) (fun r _ => r = some (.int (b2i (m_in v lo hi = true)))) (fun _ => ws) (fun _ => False) := by
  refine fw_met (maxL := 3) (ret := (some .boolean)) (by decide) rfl (Nat.le_of_ble_eq_true rfl) ?_
  intro p e s m args below meth c A X hr hlk hnm htab hE
  refine fw_lv (lv' := [(0, .int v), (1, .int lo), (2, .int hi)]) [0, 1, 2] rfl ?_
  refine fw_iload_n (pc := 0) X dX2_isIn_0 rfl 0 rfl ?_
  refine fw_iload_n (pc := 1) X dX2_isIn_1 rfl 1 rfl ?_
  refine fw_icmp_lt (pc := 2) (tgt := 14) X dX2_isIn_2 (by decide) (fun c_1 => ?_) (fun c_1 => ?_)
  · refine fw_iconst (pc := 14) (v := 0) X dX2_isIn_14 (by decide) ?_
    exact fw_zret (pc := 15) X hr nr_0 hlk (Nat.le_of_ble_eq_true rfl) (Nat.le_of_ble_eq_true rfl) dX2_isIn_15 () (by simp [m_in, c_1]) (by simp [m_in, c_1])
  · refine fw_iload_n (pc := 5) X dX2_isIn_5 rfl 0 rfl ?_
    refine fw_iload_n (pc := 6) X dX2_isIn_6 rfl 2 rfl ?_
    refine fw_icmp_gt (pc := 7) (tgt := 14) X dX2_isIn_7 (by decide) (fun c_2 => ?_) (fun c_2 => ?_)
    · refine fw_iconst (pc := 14) (v := 0) X dX2_isIn_14 (by decide) ?_
      exact fw_zret (pc := 15) X hr nr_0 hlk (Nat.le_of_ble_eq_true rfl) (Nat.le_of_ble_eq_true rfl) dX2_isIn_15 () (by simp [m_in, c_1, c_2]) (by simp [m_in, c_1, c_2])
    · refine fw_iconst (pc := 10) (v := 1) X dX2_isIn_10 (by decide) ?_
      refine fw_goto (pc := 11) (tgt := 15) X dX2_isIn_11 (by decide) ?_
      exact fw_zret (pc := 15) X hr nr_1 hlk (Nat.le_of_ble_eq_true rfl) (Nat.le_of_ble_eq_true rfl) dX2_isIn_15 () (by simp [m_in, c_1, c_2]) (by simp [m_in, c_1, c_2])
theorem dsc_X2_isSort : fw_dsc yX2_isSort 1 := by decide +kernel
set_option maxHeartbeats 4000000 in
set_option maxRecDepth 100000 in
theorem ct_X2_isSort {l : Launch} {D : va_G} {K : Nat → ClassId} {ws : va_W} (v : Int32) : fw_C (S := Unit) l yX2_isSort wsX2_isSort ({ frames := 1, cells := 0, slots := 0, locals := 22 }) 0 0 false [.int v] D (tyS K) (ws) (fun r _ => r = some (.int (b2i (m_in v 0 5 = true)))) (fun _ => ws) (fun _ => False) := by
  refine fw_met (maxL := 1) (ret := (some .boolean)) (by decide) rfl (Nat.le_of_ble_eq_true rfl) ?_
  intro p e s m args below meth c A X hr hlk hnm htab hE
  refine fw_lv (lv' := [(0, .int v)]) [0] rfl ?_
  refine fw_iload_n (pc := 0) X dX2_isSort_0 rfl 0 rfl ?_
  refine fw_iconst (pc := 1) (v := 0) X dX2_isSort_1 (by decide) ?_
  refine fw_iconst (pc := 2) (v := 5) X dX2_isSort_2 (by decide) ?_
  refine fw_callS (pc := 3) (n := 3) X hE [.int v, .int 0, .int 5] (ct_X2_isIn v 0 5) (by decide) gX2_isSort_X2_isIn rfl ⟨rfl, rfl⟩ dsc_X2_isIn ⟨Nat.le_of_ble_eq_true rfl, Nat.le_of_ble_eq_true rfl⟩ rfl rfl (Nat.le_of_ble_eq_true rfl) dX2_isSort_3 ⟨Nat.le_of_ble_eq_true rfl, Nat.le_of_ble_eq_true rfl⟩ (fun _ q => q.elim) (fun r u r_1 => ?_)
  subst r_1
  exact fw_zret (pc := 6) X hr nr_b hlk (Nat.le_of_ble_eq_true rfl) (Nat.le_of_ble_eq_true rfl) dX2_isSort_6 () rfl rfl
theorem dsc_X2_isTrader : fw_dsc yX2_isTrader 1 := by decide +kernel
set_option maxHeartbeats 4000000 in
set_option maxRecDepth 100000 in
theorem ct_X2_isTrader {l : Launch} {D : va_G} {K : Nat → ClassId} {ws : va_W} (v : Int32) : fw_C (S := Unit) l yX2_isTrader wsX2_isTrader ({ frames := 1, cells := 0, slots := 0, locals := 22 }) 0 0 false [.int v] D (tyS K) (ws) (fun r _ => r = some (.int (b2i (m_in v 0 3 = true)))) (fun _ => ws) (fun _ => False) := by
  refine fw_met (maxL := 1) (ret := (some .boolean)) (by decide) rfl (Nat.le_of_ble_eq_true rfl) ?_
  intro p e s m args below meth c A X hr hlk hnm htab hE
  refine fw_lv (lv' := [(0, .int v)]) [0] rfl ?_
  refine fw_iload_n (pc := 0) X dX2_isTrader_0 rfl 0 rfl ?_
  refine fw_iconst (pc := 1) (v := 0) X dX2_isTrader_1 (by decide) ?_
  refine fw_iconst (pc := 2) (v := 3) X dX2_isTrader_2 (by decide) ?_
  refine fw_callS (pc := 3) (n := 3) X hE [.int v, .int 0, .int 3] (ct_X2_isIn v 0 3) (by decide) gX2_isTrader_X2_isIn rfl ⟨rfl, rfl⟩ dsc_X2_isIn ⟨Nat.le_of_ble_eq_true rfl, Nat.le_of_ble_eq_true rfl⟩ rfl rfl (Nat.le_of_ble_eq_true rfl) dX2_isTrader_3 ⟨Nat.le_of_ble_eq_true rfl, Nat.le_of_ble_eq_true rfl⟩ (fun _ q => q.elim) (fun r u r_1 => ?_)
  subst r_1
  exact fw_zret (pc := 6) X hr nr_b hlk (Nat.le_of_ble_eq_true rfl) (Nat.le_of_ble_eq_true rfl) dX2_isTrader_6 () rfl rfl
theorem dsc_X2_isStore : fw_dsc yX2_isStore 1 := by decide +kernel
set_option maxHeartbeats 4000000 in
set_option maxRecDepth 100000 in
theorem ct_X2_isStore {l : Launch} {D : va_G} {K : Nat → ClassId} {ws : va_W} (v : Int32) : fw_C (S := Unit) l yX2_isStore wsX2_isStore ({ frames := 1, cells := 0, slots := 0, locals := 22 }) 0 0 false [.int v] D (tyS K) (ws) (fun r _ => r = some (.int (b2i (m_in v 0 2 = true)))) (fun _ => ws) (fun _ => False) := by
  refine fw_met (maxL := 1) (ret := (some .boolean)) (by decide) rfl (Nat.le_of_ble_eq_true rfl) ?_
  intro p e s m args below meth c A X hr hlk hnm htab hE
  refine fw_lv (lv' := [(0, .int v)]) [0] rfl ?_
  refine fw_iload_n (pc := 0) X dX2_isStore_0 rfl 0 rfl ?_
  refine fw_iconst (pc := 1) (v := 0) X dX2_isStore_1 (by decide) ?_
  refine fw_iconst (pc := 2) (v := 2) X dX2_isStore_2 (by decide) ?_
  refine fw_callS (pc := 3) (n := 3) X hE [.int v, .int 0, .int 2] (ct_X2_isIn v 0 2) (by decide) gX2_isStore_X2_isIn rfl ⟨rfl, rfl⟩ dsc_X2_isIn ⟨Nat.le_of_ble_eq_true rfl, Nat.le_of_ble_eq_true rfl⟩ rfl rfl (Nat.le_of_ble_eq_true rfl) dX2_isStore_3 ⟨Nat.le_of_ble_eq_true rfl, Nat.le_of_ble_eq_true rfl⟩ (fun _ q => q.elim) (fun r u r_1 => ?_)
  subst r_1
  exact fw_zret (pc := 6) X hr nr_b hlk (Nat.le_of_ble_eq_true rfl) (Nat.le_of_ble_eq_true rfl) dX2_isStore_6 () rfl rfl
theorem dsc_X2_at : fw_dsc yX2_at 3 := by decide +kernel
set_option maxHeartbeats 4000000 in
set_option maxRecDepth 100000 in
theorem ct_X2_at {l : Launch} {D : va_G} {K : Nat → ClassId} {ws : va_W} (v y z : Int32) : fw_C (S := Unit) l yX2_at wsX2_at ({ frames := 0, cells := 0, slots := 0, locals := 0 }) 0 0 false [.int v, .int y, .int z] D (tyS K) (ws) (fun r _ => r = some (.int (3 * (6 * v + y) + z))) (fun _ => ws) (fun _ => False) := by
  refine fw_met (maxL := 3) (ret := (some .int)) (by decide) rfl (Nat.le_of_ble_eq_true rfl) ?_
  intro p e s m args below meth c A X hr hlk hnm htab hE
  refine fw_lv (lv' := [(0, .int v), (1, .int y), (2, .int z)]) [0, 1, 2] rfl ?_
  refine fw_iconst (pc := 0) (v := 3) X dX2_at_0 (by decide) ?_
  refine fw_bipush (pc := 1) (v := 6) X dX2_at_1 (by decide) ?_
  refine fw_iload_n (pc := 3) X dX2_at_3 rfl 0 rfl ?_
  refine fw_imul (pc := 4) X dX2_at_4 ?_
  refine fw_iload_n (pc := 5) X dX2_at_5 rfl 1 rfl ?_
  refine fw_iadd (pc := 6) X dX2_at_6 ?_
  refine fw_imul (pc := 7) X dX2_at_7 ?_
  refine fw_iload_n (pc := 8) X dX2_at_8 rfl 2 rfl ?_
  refine fw_iadd (pc := 9) X dX2_at_9 ?_
  exact fw_iret (pc := 10) X hr hlk (Nat.le_of_ble_eq_true rfl) (Nat.le_of_ble_eq_true rfl) dX2_at_10 () rfl rfl
theorem kX2_thrown_63 : Cond.fieldLink RX2 63 (TX2 0).1 (TX2 0).2.1 (TX2 0).2.2.1 ∈ wsX2_thrown := by decide +kernel
set_option maxRecDepth 20000 in
theorem iX2_thrown_X2 : ∀ w ∈ wsX20, w ∈ wsX2_thrown := by decide +kernel
theorem dsc_X2_thrown : fw_dsc yX2_thrown 0 := by decide +kernel
set_option maxHeartbeats 4000000 in
set_option maxRecDepth 100000 in
theorem ct_X2_thrown {l : Launch} {D : va_G} {K : Nat → ClassId} {a : Nat → Nat} {F : Nat → Int32} {G : Nat → Nat → Int32}  : fw_C (S := Unit) l yX2_thrown wsX2_thrown ({ frames := 0, cells := 0, slots := 0, locals := 0 }) 0 0 false [.ref (a 0)] D (tyS K) (MW K a F G) (fun r _ => r = some (.int (F 0))) (fun _ => MW K a F G) (fun _ => False) := by
  refine fw_met (maxL := 1) (ret := (some .int)) (by decide) rfl (Nat.le_of_ble_eq_true rfl) ?_
  intro p e s m args below meth c A X hr hlk hnm htab hE
  refine fw_lv (lv' := [(0, .ref (a 0))]) [0] rfl ?_
  refine fw_aload_n (pc := 0) X dX2_thrown_0 rfl 0 rfl ?_
  refine fw_get (pc := 1) (v := .int (F 0)) X iX2_thrown_X2 0 M_obj rfl 0 (by decide) kX2_thrown_63 rfl dX2_thrown_1 ?_
  exact fw_iret (pc := 4) X hr hlk (Nat.le_of_ble_eq_true rfl) (Nat.le_of_ble_eq_true rfl) dX2_thrown_4 () rfl rfl
theorem kX2_isFine_63 : Cond.fieldLink RX2 63 (TX2 0).1 (TX2 0).2.1 (TX2 0).2.2.1 ∈ wsX2_isFine := by decide +kernel
set_option maxRecDepth 20000 in
theorem iX2_isFine_X2 : ∀ w ∈ wsX20, w ∈ wsX2_isFine := by decide +kernel
theorem dsc_X2_isFine : fw_dsc yX2_isFine 1 := by decide +kernel
set_option maxHeartbeats 4000000 in
set_option maxRecDepth 100000 in
theorem ct_X2_isFine {l : Launch} {D : va_G} {K : Nat → ClassId} {a : Nat → Nat} {F : Nat → Int32} {G : Nat → Nat → Int32} (v : Int32) : fw_C (S := Unit) l yX2_isFine wsX2_isFine ({ frames := 0, cells := 0, slots := 0, locals := 0 }) 0 0 false [.ref (a 0), .int v] D (tyS K) (MW K a F G) (fun r _ => r = some (.int (b2i (v = 0)))) (fun _ => MW K a (upd F 0 v) G) (fun _ => False) := by
  refine fw_met (maxL := 2) (ret := (some .boolean)) (by decide) rfl (Nat.le_of_ble_eq_true rfl) ?_
  intro p e s m args below meth c A X hr hlk hnm htab hE
  refine fw_lv (lv' := [(0, .ref (a 0)), (1, .int v)]) [0, 1] rfl ?_
  refine fw_aload_n (pc := 0) X dX2_isFine_0 rfl 0 rfl ?_
  refine fw_iload_n (pc := 1) X dX2_isFine_1 rfl 1 rfl ?_
  refine fw_put (pc := 2) (ws' := MW K a (upd F 0 v) G) X iX2_isFine_X2 tyX2 tyX2_ok nmX2 0 M_obj rfl 0 (by decide) kX2_isFine_63 rfl rfl rfl (Nat.le_of_ble_eq_true rfl) dX2_isFine_2 rfl ?_
  refine fw_iload_n (pc := 5) X dX2_isFine_5 rfl 1 rfl ?_
  refine fw_if_ne (pc := 6) (tgt := 13) X dX2_isFine_6 (by decide) (fun c_1 => ?_) (fun c_1 => ?_)
  · refine fw_iconst (pc := 13) (v := 0) X dX2_isFine_13 (by decide) ?_
    exact fw_zret (pc := 14) X hr nr_0 hlk (Nat.le_of_ble_eq_true rfl) (Nat.le_of_ble_eq_true rfl) dX2_isFine_14 () (by simp [c_1]) (by simp [c_1])
  · refine fw_iconst (pc := 9) (v := 1) X dX2_isFine_9 (by decide) ?_
    refine fw_goto (pc := 10) (tgt := 14) X dX2_isFine_10 (by decide) ?_
    exact fw_zret (pc := 14) X hr nr_1 hlk (Nat.le_of_ble_eq_true rfl) (Nat.le_of_ble_eq_true rfl) dX2_isFine_14 () (by simp [c_1]) (by simp [c_1])
theorem kX2_isConsignment_70 : Cond.fieldLink RX2 70 (TX2 19).1 (TX2 19).2.1 (TX2 19).2.2.1 ∈ wsX2_isConsignment := by decide +kernel
set_option maxRecDepth 20000 in
theorem iX2_isConsignment_X2 : ∀ w ∈ wsX20, w ∈ wsX2_isConsignment := by decide +kernel
theorem dsc_X2_isConsignment : fw_dsc yX2_isConsignment 1 := by decide +kernel
set_option maxHeartbeats 4000000 in
set_option maxRecDepth 100000 in
theorem ct_X2_isConsignment {l : Launch} {D : va_G} {K : Nat → ClassId} {a : Nat → Nat} {F : Nat → Int32} {G : Nat → Nat → Int32} (v : Int32) : fw_C (S := Unit) l yX2_isConsignment wsX2_isConsignment ({ frames := 1, cells := 0, slots := 0, locals := 22 }) 0 0 false [.ref (a 0), .int v] D (tyS K) (MW K a F G) (fun r _ => r = some (.int (b2i (m_in v 0 (F 19 - 1) = true)))) (fun _ => MW K a F G) (fun _ => False) := by
  refine fw_met (maxL := 2) (ret := (some .boolean)) (by decide) rfl (Nat.le_of_ble_eq_true rfl) ?_
  intro p e s m args below meth c A X hr hlk hnm htab hE
  refine fw_lv (lv' := [(0, .ref (a 0)), (1, .int v)]) [0, 1] rfl ?_
  refine fw_iload_n (pc := 0) X dX2_isConsignment_0 rfl 1 rfl ?_
  refine fw_iconst (pc := 1) (v := 0) X dX2_isConsignment_1 (by decide) ?_
  refine fw_aload_n (pc := 2) X dX2_isConsignment_2 rfl 0 rfl ?_
  refine fw_get (pc := 3) (v := .int (F 19)) X iX2_isConsignment_X2 0 M_obj rfl 19 (by decide) kX2_isConsignment_70 rfl dX2_isConsignment_3 ?_
  refine fw_iconst (pc := 6) (v := 1) X dX2_isConsignment_6 (by decide) ?_
  refine fw_isub (pc := 7) X dX2_isConsignment_7 ?_
  refine fw_callS (pc := 8) (n := 3) X hE [.int v, .int 0, .int ((F 19) - 1)] (ct_X2_isIn v 0 ((F 19) - 1)) (by decide) gX2_isConsignment_X2_isIn rfl ⟨rfl, rfl⟩ dsc_X2_isIn ⟨Nat.le_of_ble_eq_true rfl, Nat.le_of_ble_eq_true rfl⟩ rfl rfl (Nat.le_of_ble_eq_true rfl) dX2_isConsignment_8 ⟨Nat.le_of_ble_eq_true rfl, Nat.le_of_ble_eq_true rfl⟩ (fun _ q => q.elim) (fun r u r_1 => ?_)
  subst r_1
  exact fw_zret (pc := 11) X hr nr_b hlk (Nat.le_of_ble_eq_true rfl) (Nat.le_of_ble_eq_true rfl) dX2_isConsignment_11 () rfl rfl
theorem kX2_isEmpty_54 : Cond.fieldLink RX2 54 (TX2 16).1 (TX2 16).2.1 (TX2 16).2.2.1 ∈ wsX2_isEmpty := by decide +kernel
set_option maxRecDepth 20000 in
theorem iX2_isEmpty_X2 : ∀ w ∈ wsX20, w ∈ wsX2_isEmpty := by decide +kernel
set_option maxHeartbeats 4000000 in
set_option maxRecDepth 100000 in
theorem lp_X2_isEmpty_4 {p : Program} {l : Launch} {e : Env} {R : Room} {s : State} {m : MethodId} {args : Array Value} {below : List Frame} {meth : Method} {c : Code} {D : va_G} {A : Nat → Prop} {Q : State → Prop} {cells slots : Nat} {K : Nat → ClassId} {a : Nat → Nat} {F : Nat → Int32} {G : Nat → Nat → Int32} (v : Int32) (k : Nat) (hv : v = nI k) (hk : k < 15) (X : fw_X p s m args c D A 4 cX2_isEmpty RX2 wsX2_isEmpty (tyS K))  (kk : fw_W p l e R s m args below meth c D A 4 Q (MW K a F G) cells slots [(0, .ref (a 0)), (1, .int v), (2, .int (m_em G k 6)), (3, .int (nI 6))] 30 []) : ∀ (d i : Nat), i + d = 6 → fw_W p l e R s m args below meth c D A 4 Q (MW K a F G) cells slots [(0, .ref (a 0)), (1, .int v), (2, .int (m_em G k i)), (3, .int (nI i))] 4 [] := by
  intro d
  induction d with
  | zero =>
    intro i hi
    obtain rfl : i = 6 := by omega
    refine fw_iload_n (pc := 4) X dX2_isEmpty_4 rfl 3 rfl ?_
    refine fw_bipush (pc := 5) (v := 6) X dX2_isEmpty_5 (by decide) ?_
    refine fw_icmp_ge (pc := 7) (tgt := 30) X dX2_isEmpty_7 (by decide) (fun _ => ?_) (fun q => absurd (by decide) q)
    exact kk
  | succ d ih =>
    intro i hi
    refine fw_iload_n (pc := 4) X dX2_isEmpty_4 rfl 3 rfl ?_
    refine fw_bipush (pc := 5) (v := 6) X dX2_isEmpty_5 (by decide) ?_
    refine fw_icmp_ge (pc := 7) (tgt := 30) X dX2_isEmpty_7 (by decide) (fun q => absurd q (nI_ge (a := i) (b := 6) (by omega) (by omega))) (fun _ => ?_)
    refine fw_iload_n (pc := 10) X dX2_isEmpty_10 rfl 2 rfl ?_
    refine fw_aload_n (pc := 11) X dX2_isEmpty_11 rfl 0 rfl ?_
    refine fw_get (pc := 12) (v := .ref (a 16)) X iX2_isEmpty_X2 0 M_obj rfl 16 (by decide) kX2_isEmpty_54 rfl dX2_isEmpty_12 ?_
    refine fw_bipush (pc := 15) (v := 6) X dX2_isEmpty_15 (by decide) ?_
    refine fw_iload_n (pc := 17) X dX2_isEmpty_17 rfl 1 rfl ?_
    refine fw_imul (pc := 18) X dX2_isEmpty_18 ?_
    refine fw_iload_n (pc := 19) X dX2_isEmpty_19 rfl 3 rfl ?_
    refine fw_iadd (pc := 20) X dX2_isEmpty_20 ?_
    refine fw_iald (pc := 21) X 14 0 M_g16 rfl ((6 * k) + i) (nf_add (nf_mul rfl hv) rfl) (by omega) (by decide) dX2_isEmpty_21 ?_
    refine fw_iadd (pc := 22) X dX2_isEmpty_22 ?_
    refine fw_iv (show (m_em G k i) + (G 16 ((6 * k) + i)) = m_em G k ((i + 1)) from rfl) ?_
    refine fw_istore_n (pc := 23) (lv' := [(2, .int (m_em G k ((i + 1)))), (0, .ref (a 0)), (1, .int v), (3, .int (nI i))]) X dX2_isEmpty_23 rfl (by decide) rfl ?_
    refine fw_iinc (pc := 24) (v := nI (i + 1)) (lv' := [(3, .int (nI (i + 1))), (2, .int (m_em G k ((i + 1)))), (0, .ref (a 0)), (1, .int v)]) (j := 3) X dX2_isEmpty_24 rfl (nI_1 _) (by decide) rfl ?_
    refine fw_goto (pc := 27) (tgt := 4) X dX2_isEmpty_27 (by decide) ?_
    refine fw_lv (lv' := [(0, .ref (a 0)), (1, .int v), (2, .int (m_em G k ((i + 1)))), (3, .int (nI ((i + 1))))]) [2, 3, 1, 0] rfl ?_
    exact ih (i + 1) (by omega)
theorem dsc_X2_isEmpty : fw_dsc yX2_isEmpty 1 := by decide +kernel
set_option maxHeartbeats 4000000 in
set_option maxRecDepth 100000 in
theorem ct_X2_isEmpty {l : Launch} {D : va_G} {K : Nat → ClassId} {a : Nat → Nat} {F : Nat → Int32} {G : Nat → Nat → Int32} (v : Int32) (k : Nat) (hv : v = nI k) (hk : k < 15) : fw_C (S := Unit) l yX2_isEmpty wsX2_isEmpty ({ frames := 0, cells := 0, slots := 0, locals := 0 }) 0 0 false [.ref (a 0), .int v] D (tyS K) (MW K a F G) (fun r _ => r = some (.int (b2i (m_em G k 6 = 0)))) (fun _ => MW K a F G) (fun _ => False) := by
  refine fw_met (maxL := 4) (ret := (some .boolean)) (by decide) rfl (Nat.le_of_ble_eq_true rfl) ?_
  intro p e s m args below meth c A X hr hlk hnm htab hE
  refine fw_lv (lv' := [(0, .ref (a 0)), (1, .int v)]) [0, 1] rfl ?_
  refine fw_iconst (pc := 0) (v := 0) X dX2_isEmpty_0 (by decide) ?_
  refine fw_istore_n (pc := 1) (lv' := [(2, .int 0), (0, .ref (a 0)), (1, .int v)]) X dX2_isEmpty_1 rfl (by decide) rfl ?_
  refine fw_iconst (pc := 2) (v := 0) X dX2_isEmpty_2 (by decide) ?_
  refine fw_istore_n (pc := 3) (lv' := [(3, .int 0), (2, .int 0), (0, .ref (a 0)), (1, .int v)]) X dX2_isEmpty_3 rfl (by decide) rfl ?_
  refine fw_lv (lv' := [(0, .ref (a 0)), (1, .int v), (2, .int (m_em G k 0)), (3, .int (nI 0))]) [2, 3, 1, 0] rfl ?_
  refine lp_X2_isEmpty_4 v k hv hk X ?_ 6 0 (by omega)
  refine fw_iload_n (pc := 30) X dX2_isEmpty_30 rfl 2 rfl ?_
  refine fw_if_ne (pc := 31) (tgt := 38) X dX2_isEmpty_31 (by decide) (fun c_1 => ?_) (fun c_1 => ?_)
  · refine fw_iconst (pc := 38) (v := 0) X dX2_isEmpty_38 (by decide) ?_
    exact fw_zret (pc := 39) X hr nr_0 hlk (Nat.le_of_ble_eq_true rfl) (Nat.le_of_ble_eq_true rfl) dX2_isEmpty_39 () (by simp [c_1]) (by simp [c_1])
  · refine fw_iconst (pc := 34) (v := 1) X dX2_isEmpty_34 (by decide) ?_
    refine fw_goto (pc := 35) (tgt := 39) X dX2_isEmpty_35 (by decide) ?_
    exact fw_zret (pc := 39) X hr nr_1 hlk (Nat.le_of_ble_eq_true rfl) (Nat.le_of_ble_eq_true rfl) dX2_isEmpty_39 () (by simp [c_1]) (by simp [c_1])
