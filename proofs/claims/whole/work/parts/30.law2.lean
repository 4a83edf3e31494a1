section LW2
variable {p : Program} {l : Launch} {e : Env} {R : Room} {s : State} {m : MethodId} {args : Array Value} {below : List Frame} {meth : Method} {c : Code}
variable {D : va_G} {A : Nat → Prop} {nL : Nat} {Q : State → Prop} {ws : va_W} {cells slots : Nat} {lv : List (Nat × Value)} {pc : Nat} {st : List Value}
variable {cc : ByteArray} {own : String} {Ts : List Cond} {tys : List (ClassId × FieldType)}
theorem fw_sld (X : fw_X p s m args c D A nL cc own Ts tys) {b L : Nat} {xs : Nat → Int32} (hX : va_X b L xs s s.heap) (hbl : b < s.heap.size) (hbA : ¬ A b) (j : Nat) {x v : Int32} (hx : x = nI j) (hj : j < L) (hL : L < 2 ^ 31) (hv : xs j = v) (hdg : decode cc pc = .ok (.iaload, 1)) (k : fw_W p l e R s m args below meth c D A nL Q ws cells slots lv (pc + 1) (.int v :: st)) : fw_W p l e R s m args below meth c D A nL Q ws cells slots lv pc (.int x :: .ref b :: st) := fun H locs ls h1 h2 h3 h4 => by
  subst hx
  subst hv
  have k2 := k H locs ls h1 h2 h3 h4
  rw [← nI_clamp (Nat.lt_trans hj hL)] at k2
  exact va_sld X.1.1 X.1.2.1 hX hbl hbA h4 (vp_in_nI hj hL) hdg k2
theorem fw_slen (X : fw_X p s m args c D A nL cc own Ts tys) {b L : Nat} {xs : Nat → Int32} (hX : va_X b L xs s s.heap) (hbl : b < s.heap.size) (hbA : ¬ A b) (hdg : decode cc pc = .ok (.arraylength, 1)) (k : fw_W p l e R s m args below meth c D A nL Q ws cells slots lv (pc + 1) (.int (nI L) :: st)) : fw_W p l e R s m args below meth c D A nL Q ws cells slots lv pc (.ref b :: st) := fun H locs ls h1 h2 h3 h4 =>
  va_slen X.1.1 X.1.2.1 hX hbl hbA h4 hdg (k H locs ls h1 h2 h3 h4)
theorem fw_tbIn (X : fw_X p s m args c D A nL cc own Ts tys) {dflt lo hi : Int} {offs : Array Int} {len : Nat} {x : Int32} {off : Int} {tgt : Nat} (hdg : decode cc pc = .ok (.tableswitch dflt lo hi offs, len)) (h1 : ¬ x.toInt < lo) (h2 : ¬ hi < x.toInt) (ho : offs[(x.toInt - lo).toNat]? = some off) (ht : (pc : Int) + off = (tgt : Int)) (k : fw_W p l e R s m args below meth c D A nL Q ws cells slots lv tgt st) : fw_W p l e R s m args below meth c D A nL Q ws cells slots lv pc (.int x :: st) := fun H locs ls g1 g2 g3 g4 =>
  lv_tableIn X.1.1 X.1.2.1 hdg h1 h2 ho ht (k H locs ls g1 g2 g3 g4)
theorem fw_tbOut (X : fw_X p s m args c D A nL cc own Ts tys) {dflt lo hi : Int} {offs : Array Int} {len : Nat} {x : Int32} {tgt : Nat} (hdg : decode cc pc = .ok (.tableswitch dflt lo hi offs, len)) (h : x.toInt < lo ∨ hi < x.toInt) (ht : (pc : Int) + dflt = (tgt : Int)) (k : fw_W p l e R s m args below meth c D A nL Q ws cells slots lv tgt st) : fw_W p l e R s m args below meth c D A nL Q ws cells slots lv pc (.int x :: st) := fun H locs ls g1 g2 g3 g4 =>
  lv_tableOut X.1.1 X.1.2.1 hdg h ht (k H locs ls g1 g2 g3 g4)
end LW2
def LWW (K : Nat → ClassId) (ba : Nat → Nat) (oa : Nat) (a : Nat → Nat) (bf : Nat → Int32) (bg : Nat → Nat → Int32) (n : Nat) (ca : Nat → Nat → Nat) (cf : Nat → Nat → Int32) (cg : Nat → Nat → Nat → Int32) (F : Nat → Int32) (G : Nat → Nat → Int32) (o : Nat → Int64) : va_W := (OW K oa o ++ BW K ba bf bg n ca cf cg) ++ MW K a F G
theorem lg_cmp_self (x : Int64) : lg_cmp x x = 0 := by
  unfold lg_cmp
  simp
set_option maxHeartbeats 4000000 in
set_option maxRecDepth 100000 in
theorem lc_setSort {p : Program} {l : Launch} {e : Env} {s : State} {m : MethodId} {args : Array Value} {below : List Frame} {meth : Method} {c : Code} {D : va_G} {A : Nat → Prop} {Q : State → Prop} {cells slots : Nat} {K : Nat → ClassId} {ba : Nat → Nat} {oa : Nat} {a : Nat → Nat} {o : Nat → Int64} {b L : Nat} {xs : Nat → Int32} {T n : Nat} {bf : Nat → Int32} {bg : Nat → Nat → Int32} {ca : Nat → Nat → Nat} {cf : Nat → Nat → Int32} {cg : Nat → Nat → Nat → Int32} {F : Nat → Int32} {G : Nat → Nat → Int32} (X : fw_X p s m args c D A 7 cL_law RL wsL_law (tyS K)) (hE : fw_E true A s) (hl : l.stackTraces = false) (hX : va_X b L xs s s.heap) (hbl : b < s.heap.size) (hbA : ¬ A b) (h : Rel T bf bg n cf cg F G) (hT : T ≤ 600) (i : Nat) (hi : i + 6 ≤ L) (hL : L ≤ 3072) (hc : cells ≤ 500000) (hs : slots ≤ 7000000) (v x y : Int32) (hv : xs (i + 1) = v) (hx : xs (i + 2) = x) (hy : xs (i + 3) = y) (kk : ∀ (bf2 : Nat → Int32) (bg2 : Nat → Nat → Int32) (n2 : Nat) (ca2 : Nat → Nat → Nat) (cf2 : Nat → Nat → Int32) (cg2 : Nat → Nat → Nat → Int32) (F2 : Nat → Int32) (G2 : Nat → Nat → Int32) (o2 : Nat → Int64), Rel (T + 1) bf2 bg2 n2 cf2 cg2 F2 G2 → fw_W p l e room_1 s m args below meth c D A 7 Q (LWW K ba oa a bf2 bg2 n2 ca2 cf2 cg2 F2 G2 o2) (cells + 20) (slots + 200) [(0, .ref b), (1, .ref (ba 6)), (2, .ref (a 0)), (3, .ref oa), (4, .int (nI i))] 1406 []) : fw_W p l e room_1 s m args below meth c D A 7 Q (LWW K ba oa a bf bg n ca cf cg F G o) cells slots [(0, .ref b), (1, .ref (ba 6)), (2, .ref (a 0)), (3, .ref oa), (4, .int (nI i))] 128 [] := by
  obtain ⟨hsk, hs0, hs1⟩ := sim_setSort h hT v x y
  refine fw_aload_n (pc := 128) X dL_law_128 rfl 1 rfl ?_
  refine fw_aload_n (pc := 129) X dL_law_129 rfl 0 rfl ?_
  refine fw_iload (pc := 130) X dL_law_130 4 rfl ?_
  refine fw_iconst (pc := 132) (v := 1) X dL_law_132 (by decide) ?_
  refine fw_iadd (pc := 133) X dL_law_133 ?_
  refine fw_sld (pc := 134) X hX hbl hbA (i + 1) (nf_add rfl (show (1 : Int32) = nI 1 from rfl)) (by omega) (by omega) hv dL_law_134 ?_
  refine fw_aload_n (pc := 135) X dL_law_135 rfl 0 rfl ?_
  refine fw_iload (pc := 136) X dL_law_136 4 rfl ?_
  refine fw_iconst (pc := 138) (v := 2) X dL_law_138 (by decide) ?_
  refine fw_iadd (pc := 139) X dL_law_139 ?_
  refine fw_sld (pc := 140) X hX hbl hbA (i + 2) (nf_add rfl (show (2 : Int32) = nI 2 from rfl)) (by omega) (by omega) hx dL_law_140 ?_
  refine fw_aload_n (pc := 141) X dL_law_141 rfl 0 rfl ?_
  refine fw_iload (pc := 142) X dL_law_142 4 rfl ?_
  refine fw_iconst (pc := 144) (v := 3) X dL_law_144 (by decide) ?_
  refine fw_iadd (pc := 145) X dL_law_145 ?_
  refine fw_sld (pc := 146) X hX hbl hbA (i + 3) (nf_add rfl (show (3 : Int32) = nI 3 from rfl)) (by omega) (by omega) hy dL_law_146 ?_
  refine fw_ws (ws' := (OW K oa o ++ BW K ba bf bg n ca cf cg) ++ MW K a F G) rfl ?_
  refine fw_callHR (pc := 147) (n := 4) X hE [.ref (ba 6), .int v, .int x, .int y] (ct_L_setSort hl v x y) (fun z => z) gL_law_L_setSort rfl ⟨rfl, rfl⟩ dsc_L_setSort ⟨(Nat.le_of_ble_eq_true rfl), (Nat.le_of_ble_eq_true rfl)⟩ rfl rfl (Nat.le_of_ble_eq_true rfl) dL_law_147 ⟨(by show _ ≤ 601024; omega), (by show _ ≤ 7293034; omega)⟩ (fun _ z => z.elim) (fun r0 u0 hq => ?_)
  subst hq
  refine fw_istore (pc := 150) (lv' := [(5, .int (b_ss_k v x y)), (0, .ref b), (1, .ref (ba 6)), (2, .ref (a 0)), (3, .ref oa), (4, .int (nI i))]) X dL_law_150 (by decide) rfl ?_
  by_cases hk : b_ss_k v x y = 0
  · refine fw_ws (ws' := (OW K oa o ++ BW K ba bf (va_up (va_up bg 0 (upd (bg 0) (ix v) x)) 1 (upd (bg 1) (ix v) y)) n ca cf cg) ++ MW K a F G) (by rw [if_pos hk]) ?_
    refine fw_pm (ws' := MW K a F G ++ (OW K oa o ++ BW K ba bf (va_up (va_up bg 0 (upd (bg 0) (ix v) x)) 1 (upd (bg 1) (ix v) y)) n ca cf cg)) List.perm_append_comm ?_
    refine fw_aload_n (pc := 152) X dL_law_152 rfl 3 rfl ?_
    refine fw_aload_n (pc := 153) X dL_law_153 rfl 1 rfl ?_
    refine fw_iload (pc := 154) X dL_law_154 5 rfl ?_
    refine fw_iconst (pc := 156) (v := 1) X dL_law_156 (by decide) ?_
    refine fw_iadd (pc := 157) X dL_law_157 ?_
    refine fw_sld (pc := 158) X hX hbl hbA (i + 1) (nf_add rfl (show (1 : Int32) = nI 1 from rfl)) (by omega) (by omega) hv dL_law_158 ?_
    refine fw_aload_n (pc := 159) X dL_law_159 rfl 1 rfl ?_
    refine fw_iload (pc := 160) X dL_law_160 5 rfl ?_
    refine fw_iconst (pc := 162) (v := 2) X dL_law_162 (by decide) ?_
    refine fw_iadd (pc := 163) X dL_law_163 ?_
    refine fw_sld (pc := 164) X hX hbl hbA (i + 2) (nf_add rfl (show (2 : Int32) = nI 2 from rfl)) (by omega) (by omega) hx dL_law_164 ?_
    refine fw_aload_n (pc := 165) X dL_law_165 rfl 1 rfl ?_
    refine fw_iload (pc := 166) X dL_law_166 5 rfl ?_
    refine fw_iconst (pc := 168) (v := 3) X dL_law_168 (by decide) ?_
    refine fw_iadd (pc := 169) X dL_law_169 ?_
    refine fw_sld (pc := 170) X hX hbl hbA (i + 3) (nf_add rfl (show (3 : Int32) = nI 3 from rfl)) (by omega) (by omega) hy dL_law_170 ?_
    refine fw_callVR (pc := 171) (n := 3) (C := (RX2, TX2, 21)) (ci := 2) (q0 := 0) X hE [.int v, .int x, .int y] (ct_X2_setSort v x y) (fun _ => rfl) gL_law_X2_setSort rfl ⟨rfl, rfl⟩ ⟨rfl, dsc_X2_setSort⟩ ⟨(Nat.le_of_ble_eq_true rfl), (Nat.le_of_ble_eq_true rfl)⟩ rfl M_obj rfl rfl (Nat.le_of_ble_eq_true rfl) dL_law_171 ⟨(by show _ ≤ 601024; omega), (by show _ ≤ 7293034; omega)⟩ (fun _ z => z.elim) (fun r1 u1 hq => ?_)
    subst hq
    refine fw_aload_n (pc := 174) X dL_law_174 rfl 3 rfl ?_
    refine fw_callVR (pc := 175) (n := 0) (C := (RX2, TX2, 21)) (ci := 2) (q0 := 0) X hE [] (ct_X2_thrown) (fun _ => rfl) gL_law_X2_thrown rfl ⟨rfl, rfl⟩ ⟨rfl, dsc_X2_thrown⟩ ⟨(Nat.le_of_ble_eq_true rfl), (Nat.le_of_ble_eq_true rfl)⟩ rfl M_obj rfl rfl (Nat.le_of_ble_eq_true rfl) dL_law_175 ⟨(by show _ ≤ 601024; omega), (by show _ ≤ 7293034; omega)⟩ (fun _ z => z.elim) (fun r2 u2 hq => ?_)
    subst hq
    refine fw_iload (pc := 178) X dL_law_178 0 rfl ?_
    refine fw_icmp_eq (pc := 180) (tgt := 185) X dL_law_180 (by decide) (fun _ => ?_) (fun q => absurd hsk q)
    refine fw_goto (pc := 185) (tgt := 1406) X dL_law_185 (by decide) ?_
    refine fw_pm (ws' := (OW K oa o ++ BW K ba bf (va_up (va_up bg 0 (upd (bg 0) (ix v) x)) 1 (upd (bg 1) (ix v) y)) n ca cf cg) ++ MW K a (upd F 0 (m_setSort_k v x y)) (m_setSort_G G v x y)) List.perm_append_comm ?_
    refine fw_lv (lv' := [(0, .ref b), (1, .ref (ba 6)), (2, .ref (a 0)), (3, .ref oa), (4, .int (nI i))]) [1, 2, 3, 4, 5] rfl ?_
    refine fw_wd (k := cells + 20) (n := slots + 200) (by omega) (by omega) ?_
    exact kk _ _ _ _ _ _ _ _ _ (hs0 hk)
  · refine fw_ws (ws' := (OW K oa o ++ BW K ba bf bg n ca cf cg) ++ MW K a F G) (by rw [if_neg hk]) ?_
    refine fw_pm (ws' := MW K a F G ++ (OW K oa o ++ BW K ba bf bg n ca cf cg)) List.perm_append_comm ?_
    refine fw_aload_n (pc := 152) X dL_law_152 rfl 3 rfl ?_
    refine fw_aload_n (pc := 153) X dL_law_153 rfl 1 rfl ?_
    refine fw_iload (pc := 154) X dL_law_154 5 rfl ?_
    refine fw_iconst (pc := 156) (v := 1) X dL_law_156 (by decide) ?_
    refine fw_iadd (pc := 157) X dL_law_157 ?_
    refine fw_sld (pc := 158) X hX hbl hbA (i + 1) (nf_add rfl (show (1 : Int32) = nI 1 from rfl)) (by omega) (by omega) hv dL_law_158 ?_
    refine fw_aload_n (pc := 159) X dL_law_159 rfl 1 rfl ?_
    refine fw_iload (pc := 160) X dL_law_160 5 rfl ?_
    refine fw_iconst (pc := 162) (v := 2) X dL_law_162 (by decide) ?_
    refine fw_iadd (pc := 163) X dL_law_163 ?_
    refine fw_sld (pc := 164) X hX hbl hbA (i + 2) (nf_add rfl (show (2 : Int32) = nI 2 from rfl)) (by omega) (by omega) hx dL_law_164 ?_
    refine fw_aload_n (pc := 165) X dL_law_165 rfl 1 rfl ?_
    refine fw_iload (pc := 166) X dL_law_166 5 rfl ?_
    refine fw_iconst (pc := 168) (v := 3) X dL_law_168 (by decide) ?_
    refine fw_iadd (pc := 169) X dL_law_169 ?_
    refine fw_sld (pc := 170) X hX hbl hbA (i + 3) (nf_add rfl (show (3 : Int32) = nI 3 from rfl)) (by omega) (by omega) hy dL_law_170 ?_
    refine fw_callVR (pc := 171) (n := 3) (C := (RX2, TX2, 21)) (ci := 2) (q0 := 0) X hE [.int v, .int x, .int y] (ct_X2_setSort v x y) (fun _ => rfl) gL_law_X2_setSort rfl ⟨rfl, rfl⟩ ⟨rfl, dsc_X2_setSort⟩ ⟨(Nat.le_of_ble_eq_true rfl), (Nat.le_of_ble_eq_true rfl)⟩ rfl M_obj rfl rfl (Nat.le_of_ble_eq_true rfl) dL_law_171 ⟨(by show _ ≤ 601024; omega), (by show _ ≤ 7293034; omega)⟩ (fun _ z => z.elim) (fun r1 u1 hq => ?_)
    subst hq
    refine fw_aload_n (pc := 174) X dL_law_174 rfl 3 rfl ?_
    refine fw_callVR (pc := 175) (n := 0) (C := (RX2, TX2, 21)) (ci := 2) (q0 := 0) X hE [] (ct_X2_thrown) (fun _ => rfl) gL_law_X2_thrown rfl ⟨rfl, rfl⟩ ⟨rfl, dsc_X2_thrown⟩ ⟨(Nat.le_of_ble_eq_true rfl), (Nat.le_of_ble_eq_true rfl)⟩ rfl M_obj rfl rfl (Nat.le_of_ble_eq_true rfl) dL_law_175 ⟨(by show _ ≤ 601024; omega), (by show _ ≤ 7293034; omega)⟩ (fun _ z => z.elim) (fun r2 u2 hq => ?_)
    subst hq
    refine fw_iload (pc := 178) X dL_law_178 0 rfl ?_
    refine fw_icmp_eq (pc := 180) (tgt := 185) X dL_law_180 (by decide) (fun _ => ?_) (fun q => absurd hsk q)
    refine fw_goto (pc := 185) (tgt := 1406) X dL_law_185 (by decide) ?_
    refine fw_pm (ws' := (OW K oa o ++ BW K ba bf bg n ca cf cg) ++ MW K a (upd F 0 (m_setSort_k v x y)) (m_setSort_G G v x y)) List.perm_append_comm ?_
    refine fw_lv (lv' := [(0, .ref b), (1, .ref (ba 6)), (2, .ref (a 0)), (3, .ref oa), (4, .int (nI i))]) [1, 2, 3, 4, 5] rfl ?_
    refine fw_wd (k := cells + 20) (n := slots + 200) (by omega) (by omega) ?_
    exact kk _ _ _ _ _ _ _ _ _ (hs1 hk)
set_option maxHeartbeats 4000000 in
set_option maxRecDepth 100000 in
theorem lc_setRisk {p : Program} {l : Launch} {e : Env} {s : State} {m : MethodId} {args : Array Value} {below : List Frame} {meth : Method} {c : Code} {D : va_G} {A : Nat → Prop} {Q : State → Prop} {cells slots : Nat} {K : Nat → ClassId} {ba : Nat → Nat} {oa : Nat} {a : Nat → Nat} {o : Nat → Int64} {b L : Nat} {xs : Nat → Int32} {T n : Nat} {bf : Nat → Int32} {bg : Nat → Nat → Int32} {ca : Nat → Nat → Nat} {cf : Nat → Nat → Int32} {cg : Nat → Nat → Nat → Int32} {F : Nat → Int32} {G : Nat → Nat → Int32} (X : fw_X p s m args c D A 7 cL_law RL wsL_law (tyS K)) (hE : fw_E true A s) (hl : l.stackTraces = false) (hX : va_X b L xs s s.heap) (hbl : b < s.heap.size) (hbA : ¬ A b) (h : Rel T bf bg n cf cg F G) (hT : T ≤ 600) (i : Nat) (hi : i + 6 ≤ L) (hL : L ≤ 3072) (hc : cells ≤ 500000) (hs : slots ≤ 7000000) (v x : Int32) (hv : xs (i + 1) = v) (hx : xs (i + 2) = x) (kk : ∀ (bf2 : Nat → Int32) (bg2 : Nat → Nat → Int32) (n2 : Nat) (ca2 : Nat → Nat → Nat) (cf2 : Nat → Nat → Int32) (cg2 : Nat → Nat → Nat → Int32) (F2 : Nat → Int32) (G2 : Nat → Nat → Int32) (o2 : Nat → Int64), Rel (T + 1) bf2 bg2 n2 cf2 cg2 F2 G2 → fw_W p l e room_1 s m args below meth c D A 7 Q (LWW K ba oa a bf2 bg2 n2 ca2 cf2 cg2 F2 G2 o2) (cells + 20) (slots + 200) [(0, .ref b), (1, .ref (ba 6)), (2, .ref (a 0)), (3, .ref oa), (4, .int (nI i))] 1406 []) : fw_W p l e room_1 s m args below meth c D A 7 Q (LWW K ba oa a bf bg n ca cf cg F G o) cells slots [(0, .ref b), (1, .ref (ba 6)), (2, .ref (a 0)), (3, .ref oa), (4, .int (nI i))] 188 [] := by
  obtain ⟨hsk, hs0, hs1⟩ := sim_setRisk h hT v x
  refine fw_aload_n (pc := 188) X dL_law_188 rfl 1 rfl ?_
  refine fw_aload_n (pc := 189) X dL_law_189 rfl 0 rfl ?_
  refine fw_iload (pc := 190) X dL_law_190 4 rfl ?_
  refine fw_iconst (pc := 192) (v := 1) X dL_law_192 (by decide) ?_
  refine fw_iadd (pc := 193) X dL_law_193 ?_
  refine fw_sld (pc := 194) X hX hbl hbA (i + 1) (nf_add rfl (show (1 : Int32) = nI 1 from rfl)) (by omega) (by omega) hv dL_law_194 ?_
  refine fw_aload_n (pc := 195) X dL_law_195 rfl 0 rfl ?_
  refine fw_iload (pc := 196) X dL_law_196 4 rfl ?_
  refine fw_iconst (pc := 198) (v := 2) X dL_law_198 (by decide) ?_
  refine fw_iadd (pc := 199) X dL_law_199 ?_
  refine fw_sld (pc := 200) X hX hbl hbA (i + 2) (nf_add rfl (show (2 : Int32) = nI 2 from rfl)) (by omega) (by omega) hx dL_law_200 ?_
  refine fw_aload_n (pc := 201) X dL_law_201 rfl 3 rfl ?_
  refine fw_ws (ws' := (OW K oa o ++ BW K ba bf bg n ca cf cg) ++ MW K a F G) rfl ?_
  refine fw_callHR (pc := 202) (n := 4) X hE [.ref (ba 6), .int v, .int x, .ref oa] (ct_L_setRisk hl v x) (fun z => z) gL_law_L_setRisk rfl ⟨rfl, rfl⟩ dsc_L_setRisk ⟨(Nat.le_of_ble_eq_true rfl), (Nat.le_of_ble_eq_true rfl)⟩ rfl rfl (Nat.le_of_ble_eq_true rfl) dL_law_202 ⟨(by show _ ≤ 601024; omega), (by show _ ≤ 7293034; omega)⟩ (fun _ z => z.elim) (fun r0 u0 hq => ?_)
  subst hq
  refine fw_istore (pc := 205) (lv' := [(5, .int (b_sr_k v x)), (0, .ref b), (1, .ref (ba 6)), (2, .ref (a 0)), (3, .ref oa), (4, .int (nI i))]) X dL_law_205 (by decide) rfl ?_
  by_cases hk : b_sr_k v x = 0
  · refine fw_ws (ws' := (OW K oa (vp_updL o 0 (b_cn (upd (upd bf 8 v) 9 x) bg n cf cg 15).toInt64) ++ BW K ba (upd (upd bf 8 v) 9 x) bg n ca cf cg) ++ MW K a F G) (by rw [if_pos hk]) ?_
    refine fw_pm (ws' := MW K a F G ++ (OW K oa (vp_updL o 0 (b_cn (upd (upd bf 8 v) 9 x) bg n cf cg 15).toInt64) ++ BW K ba (upd (upd bf 8 v) 9 x) bg n ca cf cg)) List.perm_append_comm ?_
    refine fw_aload_n (pc := 207) X dL_law_207 rfl 3 rfl ?_
    refine fw_aload_n (pc := 208) X dL_law_208 rfl 1 rfl ?_
    refine fw_iload (pc := 209) X dL_law_209 5 rfl ?_
    refine fw_iconst (pc := 211) (v := 1) X dL_law_211 (by decide) ?_
    refine fw_iadd (pc := 212) X dL_law_212 ?_
    refine fw_sld (pc := 213) X hX hbl hbA (i + 1) (nf_add rfl (show (1 : Int32) = nI 1 from rfl)) (by omega) (by omega) hv dL_law_213 ?_
    refine fw_aload_n (pc := 214) X dL_law_214 rfl 1 rfl ?_
    refine fw_iload (pc := 215) X dL_law_215 5 rfl ?_
    refine fw_iconst (pc := 217) (v := 2) X dL_law_217 (by decide) ?_
    refine fw_iadd (pc := 218) X dL_law_218 ?_
    refine fw_sld (pc := 219) X hX hbl hbA (i + 2) (nf_add rfl (show (2 : Int32) = nI 2 from rfl)) (by omega) (by omega) hx dL_law_219 ?_
    refine fw_callVR (pc := 220) (n := 2) (C := (RX2, TX2, 21)) (ci := 2) (q0 := 0) X hE [.int v, .int x] (ct_X2_setRisk v x h.2.2.1 h.1) (fun _ => rfl) gL_law_X2_setRisk rfl ⟨rfl, rfl⟩ ⟨rfl, dsc_X2_setRisk⟩ ⟨(Nat.le_of_ble_eq_true rfl), (Nat.le_of_ble_eq_true rfl)⟩ rfl M_obj rfl rfl (Nat.le_of_ble_eq_true rfl) dL_law_220 ⟨(by show _ ≤ 601024; omega), (by show _ ≤ 7293034; omega)⟩ (fun _ z => z.elim) (fun r1 u1 hq => ?_)
    subst hq
    refine fw_istore (pc := 223) (lv' := [(6, .int (m_setRisk_v F G n v x)), (5, .int (b_sr_k v x)), (0, .ref b), (1, .ref (ba 6)), (2, .ref (a 0)), (3, .ref oa), (4, .int (nI i))]) X dL_law_223 (by decide) rfl ?_
    refine fw_aload_n (pc := 225) X dL_law_225 rfl 4 rfl ?_
    refine fw_callVR (pc := 226) (n := 0) (C := (RX2, TX2, 21)) (ci := 2) (q0 := 0) X hE [] (ct_X2_thrown) (fun _ => rfl) gL_law_X2_thrown rfl ⟨rfl, rfl⟩ ⟨rfl, dsc_X2_thrown⟩ ⟨(Nat.le_of_ble_eq_true rfl), (Nat.le_of_ble_eq_true rfl)⟩ rfl M_obj rfl rfl (Nat.le_of_ble_eq_true rfl) dL_law_226 ⟨(by show _ ≤ 601024; omega), (by show _ ≤ 7293034; omega)⟩ (fun _ z => z.elim) (fun r2 u2 hq => ?_)
    subst hq
    refine fw_iload (pc := 229) X dL_law_229 1 rfl ?_
    refine fw_icmp_eq (pc := 231) (tgt := 236) X dL_law_231 (by decide) (fun _ => ?_) (fun q => absurd hsk q)
    refine fw_iload (pc := 236) X dL_law_236 1 rfl ?_
    refine fw_if_ne (pc := 238) (tgt := 253) X dL_law_238 (by decide) (fun q => absurd hk q) (fun _ => ?_)
    refine fw_aload_n (pc := 241) X dL_law_241 rfl 5 rfl ?_
    refine fw_iconst (pc := 242) (v := 0) X dL_law_242 (by decide) ?_
    refine fw_lald (pc := 243) (n := 1) (cA := K 2) (f := vp_updL o 0 (b_cn (upd (upd bf 8 v) 9 x) bg n cf cg 15).toInt64) X 17 2 rfl rfl 0 (show (0 : Int32) = nI 0 from rfl) (by decide) (by decide) dL_law_243 ?_
    refine fw_iload (pc := 244) X dL_law_244 0 rfl ?_
    refine fw_iv (hs0 hk).1 ?_
    refine fw_i2l (pc := 246) (v := (b_cn (upd (upd bf 8 v) 9 x) bg n cf cg 15).toInt64) X dL_law_246 rfl ?_
    refine fw_lcmp (pc := 247) X dL_law_247 ?_
    refine fw_iv (y := 0) (by rw [show vp_updL o 0 (b_cn (upd (upd bf 8 v) 9 x) bg n cf cg 15).toInt64 0 = (b_cn (upd (upd bf 8 v) 9 x) bg n cf cg 15).toInt64 from rfl, lg_cmp_self]) ?_
    refine fw_if_eq (pc := 248) (tgt := 253) X dL_law_248 (by decide) (fun _ => ?_) (fun q => absurd rfl q)
    refine fw_goto (pc := 253) (tgt := 1406) X dL_law_253 (by decide) ?_
    refine fw_pm (ws' := (OW K oa (vp_updL o 0 (b_cn (upd (upd bf 8 v) 9 x) bg n cf cg 15).toInt64) ++ BW K ba (upd (upd bf 8 v) 9 x) bg n ca cf cg) ++ MW K a (m_setRisk_F F v x) G) List.perm_append_comm ?_
    refine fw_lv (lv' := [(0, .ref b), (1, .ref (ba 6)), (2, .ref (a 0)), (3, .ref oa), (4, .int (nI i))]) [2, 3, 4, 5, 6] rfl ?_
    refine fw_wd (k := cells + 20) (n := slots + 200) (by omega) (by omega) ?_
    exact kk _ _ _ _ _ _ _ _ _ (hs0 hk).2
  · refine fw_ws (ws' := (OW K oa o ++ BW K ba bf bg n ca cf cg) ++ MW K a F G) (by rw [if_neg hk]) ?_
    refine fw_pm (ws' := MW K a F G ++ (OW K oa o ++ BW K ba bf bg n ca cf cg)) List.perm_append_comm ?_
    refine fw_aload_n (pc := 207) X dL_law_207 rfl 3 rfl ?_
    refine fw_aload_n (pc := 208) X dL_law_208 rfl 1 rfl ?_
    refine fw_iload (pc := 209) X dL_law_209 5 rfl ?_
    refine fw_iconst (pc := 211) (v := 1) X dL_law_211 (by decide) ?_
    refine fw_iadd (pc := 212) X dL_law_212 ?_
    refine fw_sld (pc := 213) X hX hbl hbA (i + 1) (nf_add rfl (show (1 : Int32) = nI 1 from rfl)) (by omega) (by omega) hv dL_law_213 ?_
    refine fw_aload_n (pc := 214) X dL_law_214 rfl 1 rfl ?_
    refine fw_iload (pc := 215) X dL_law_215 5 rfl ?_
    refine fw_iconst (pc := 217) (v := 2) X dL_law_217 (by decide) ?_
    refine fw_iadd (pc := 218) X dL_law_218 ?_
    refine fw_sld (pc := 219) X hX hbl hbA (i + 2) (nf_add rfl (show (2 : Int32) = nI 2 from rfl)) (by omega) (by omega) hx dL_law_219 ?_
    refine fw_callVR (pc := 220) (n := 2) (C := (RX2, TX2, 21)) (ci := 2) (q0 := 0) X hE [.int v, .int x] (ct_X2_setRisk v x h.2.2.1 h.1) (fun _ => rfl) gL_law_X2_setRisk rfl ⟨rfl, rfl⟩ ⟨rfl, dsc_X2_setRisk⟩ ⟨(Nat.le_of_ble_eq_true rfl), (Nat.le_of_ble_eq_true rfl)⟩ rfl M_obj rfl rfl (Nat.le_of_ble_eq_true rfl) dL_law_220 ⟨(by show _ ≤ 601024; omega), (by show _ ≤ 7293034; omega)⟩ (fun _ z => z.elim) (fun r1 u1 hq => ?_)
    subst hq
    refine fw_istore (pc := 223) (lv' := [(6, .int (m_setRisk_v F G n v x)), (5, .int (b_sr_k v x)), (0, .ref b), (1, .ref (ba 6)), (2, .ref (a 0)), (3, .ref oa), (4, .int (nI i))]) X dL_law_223 (by decide) rfl ?_
    refine fw_aload_n (pc := 225) X dL_law_225 rfl 4 rfl ?_
    refine fw_callVR (pc := 226) (n := 0) (C := (RX2, TX2, 21)) (ci := 2) (q0 := 0) X hE [] (ct_X2_thrown) (fun _ => rfl) gL_law_X2_thrown rfl ⟨rfl, rfl⟩ ⟨rfl, dsc_X2_thrown⟩ ⟨(Nat.le_of_ble_eq_true rfl), (Nat.le_of_ble_eq_true rfl)⟩ rfl M_obj rfl rfl (Nat.le_of_ble_eq_true rfl) dL_law_226 ⟨(by show _ ≤ 601024; omega), (by show _ ≤ 7293034; omega)⟩ (fun _ z => z.elim) (fun r2 u2 hq => ?_)
    subst hq
    refine fw_iload (pc := 229) X dL_law_229 1 rfl ?_
    refine fw_icmp_eq (pc := 231) (tgt := 236) X dL_law_231 (by decide) (fun _ => ?_) (fun q => absurd hsk q)
    refine fw_iload (pc := 236) X dL_law_236 1 rfl ?_
    refine fw_if_ne (pc := 238) (tgt := 253) X dL_law_238 (by decide) (fun _ => ?_) (fun q => absurd q hk)
    refine fw_goto (pc := 253) (tgt := 1406) X dL_law_253 (by decide) ?_
    refine fw_pm (ws' := (OW K oa o ++ BW K ba bf bg n ca cf cg) ++ MW K a (m_setRisk_F F v x) G) List.perm_append_comm ?_
    refine fw_lv (lv' := [(0, .ref b), (1, .ref (ba 6)), (2, .ref (a 0)), (3, .ref oa), (4, .int (nI i))]) [2, 3, 4, 5, 6] rfl ?_
    refine fw_wd (k := cells + 20) (n := slots + 200) (by omega) (by omega) ?_
    exact kk _ _ _ _ _ _ _ _ _ (hs1 hk)
set_option maxHeartbeats 4000000 in
set_option maxRecDepth 100000 in
theorem lc_setGuarantee {p : Program} {l : Launch} {e : Env} {s : State} {m : MethodId} {args : Array Value} {below : List Frame} {meth : Method} {c : Code} {D : va_G} {A : Nat → Prop} {Q : State → Prop} {cells slots : Nat} {K : Nat → ClassId} {ba : Nat → Nat} {oa : Nat} {a : Nat → Nat} {o : Nat → Int64} {b L : Nat} {xs : Nat → Int32} {T n : Nat} {bf : Nat → Int32} {bg : Nat → Nat → Int32} {ca : Nat → Nat → Nat} {cf : Nat → Nat → Int32} {cg : Nat → Nat → Nat → Int32} {F : Nat → Int32} {G : Nat → Nat → Int32} (X : fw_X p s m args c D A 7 cL_law RL wsL_law (tyS K)) (hE : fw_E true A s) (hl : l.stackTraces = false) (hX : va_X b L xs s s.heap) (hbl : b < s.heap.size) (hbA : ¬ A b) (h : Rel T bf bg n cf cg F G) (hT : T ≤ 600) (i : Nat) (hi : i + 6 ≤ L) (hL : L ≤ 3072) (hc : cells ≤ 500000) (hs : slots ≤ 7000000) (v x : Int32) (hv : xs (i + 1) = v) (hx : xs (i + 2) = x) (kk : ∀ (bf2 : Nat → Int32) (bg2 : Nat → Nat → Int32) (n2 : Nat) (ca2 : Nat → Nat → Nat) (cf2 : Nat → Nat → Int32) (cg2 : Nat → Nat → Nat → Int32) (F2 : Nat → Int32) (G2 : Nat → Nat → Int32) (o2 : Nat → Int64), Rel (T + 1) bf2 bg2 n2 cf2 cg2 F2 G2 → fw_W p l e room_1 s m args below meth c D A 7 Q (LWW K ba oa a bf2 bg2 n2 ca2 cf2 cg2 F2 G2 o2) (cells + 20) (slots + 200) [(0, .ref b), (1, .ref (ba 6)), (2, .ref (a 0)), (3, .ref oa), (4, .int (nI i))] 1406 []) : fw_W p l e room_1 s m args below meth c D A 7 Q (LWW K ba oa a bf bg n ca cf cg F G o) cells slots [(0, .ref b), (1, .ref (ba 6)), (2, .ref (a 0)), (3, .ref oa), (4, .int (nI i))] 256 [] := by
  obtain ⟨hsk, hs0, hs1⟩ := sim_setGuarantee h hT v x
  refine fw_aload_n (pc := 256) X dL_law_256 rfl 1 rfl ?_
  refine fw_aload_n (pc := 257) X dL_law_257 rfl 0 rfl ?_
  refine fw_iload (pc := 258) X dL_law_258 4 rfl ?_
  refine fw_iconst (pc := 260) (v := 1) X dL_law_260 (by decide) ?_
  refine fw_iadd (pc := 261) X dL_law_261 ?_
  refine fw_sld (pc := 262) X hX hbl hbA (i + 1) (nf_add rfl (show (1 : Int32) = nI 1 from rfl)) (by omega) (by omega) hv dL_law_262 ?_
  refine fw_aload_n (pc := 263) X dL_law_263 rfl 0 rfl ?_
  refine fw_iload (pc := 264) X dL_law_264 4 rfl ?_
  refine fw_iconst (pc := 266) (v := 2) X dL_law_266 (by decide) ?_
  refine fw_iadd (pc := 267) X dL_law_267 ?_
  refine fw_sld (pc := 268) X hX hbl hbA (i + 2) (nf_add rfl (show (2 : Int32) = nI 2 from rfl)) (by omega) (by omega) hx dL_law_268 ?_
  refine fw_aload_n (pc := 269) X dL_law_269 rfl 3 rfl ?_
  refine fw_ws (ws' := (OW K oa o ++ BW K ba bf bg n ca cf cg) ++ MW K a F G) rfl ?_
  refine fw_callHR (pc := 270) (n := 4) X hE [.ref (ba 6), .int v, .int x, .ref oa] (ct_L_setGuarantee hl v x) (fun z => z) gL_law_L_setGuarantee rfl ⟨rfl, rfl⟩ dsc_L_setGuarantee ⟨(Nat.le_of_ble_eq_true rfl), (Nat.le_of_ble_eq_true rfl)⟩ rfl rfl (Nat.le_of_ble_eq_true rfl) dL_law_270 ⟨(by show _ ≤ 601024; omega), (by show _ ≤ 7293034; omega)⟩ (fun _ z => z.elim) (fun r0 u0 hq => ?_)
  subst hq
  refine fw_istore (pc := 273) (lv' := [(5, .int (b_sg_k bg v x)), (0, .ref b), (1, .ref (ba 6)), (2, .ref (a 0)), (3, .ref oa), (4, .int (nI i))]) X dL_law_273 (by decide) rfl ?_
  by_cases hk : b_sg_k bg v x = 0
  · refine fw_ws (ws' := (OW K oa (vp_updL o 0 (bg 2 (ix v)).toInt64) ++ BW K ba bf (va_up bg 2 (upd (bg 2) (ix v) x)) n ca cf cg) ++ MW K a F G) (by rw [if_pos hk]) ?_
    refine fw_pm (ws' := MW K a F G ++ (OW K oa (vp_updL o 0 (bg 2 (ix v)).toInt64) ++ BW K ba bf (va_up bg 2 (upd (bg 2) (ix v) x)) n ca cf cg)) List.perm_append_comm ?_
    refine fw_aload_n (pc := 275) X dL_law_275 rfl 3 rfl ?_
    refine fw_aload_n (pc := 276) X dL_law_276 rfl 1 rfl ?_
    refine fw_iload (pc := 277) X dL_law_277 5 rfl ?_
    refine fw_iconst (pc := 279) (v := 1) X dL_law_279 (by decide) ?_
    refine fw_iadd (pc := 280) X dL_law_280 ?_
    refine fw_sld (pc := 281) X hX hbl hbA (i + 1) (nf_add rfl (show (1 : Int32) = nI 1 from rfl)) (by omega) (by omega) hv dL_law_281 ?_
    refine fw_aload_n (pc := 282) X dL_law_282 rfl 1 rfl ?_
    refine fw_iload (pc := 283) X dL_law_283 5 rfl ?_
    refine fw_iconst (pc := 285) (v := 2) X dL_law_285 (by decide) ?_
    refine fw_iadd (pc := 286) X dL_law_286 ?_
    refine fw_sld (pc := 287) X hX hbl hbA (i + 2) (nf_add rfl (show (2 : Int32) = nI 2 from rfl)) (by omega) (by omega) hx dL_law_287 ?_
    refine fw_callVR (pc := 288) (n := 2) (C := (RX2, TX2, 21)) (ci := 2) (q0 := 0) X hE [.int v, .int x] (ct_X2_setGuarantee v x) (fun _ => rfl) gL_law_X2_setGuarantee rfl ⟨rfl, rfl⟩ ⟨rfl, dsc_X2_setGuarantee⟩ ⟨(Nat.le_of_ble_eq_true rfl), (Nat.le_of_ble_eq_true rfl)⟩ rfl M_obj rfl rfl (Nat.le_of_ble_eq_true rfl) dL_law_288 ⟨(by show _ ≤ 601024; omega), (by show _ ≤ 7293034; omega)⟩ (fun _ z => z.elim) (fun r1 u1 hq => ?_)
    subst hq
    refine fw_istore (pc := 291) (lv' := [(6, .int (m_setG_v G v x)), (5, .int (b_sg_k bg v x)), (0, .ref b), (1, .ref (ba 6)), (2, .ref (a 0)), (3, .ref oa), (4, .int (nI i))]) X dL_law_291 (by decide) rfl ?_
    refine fw_aload_n (pc := 293) X dL_law_293 rfl 4 rfl ?_
    refine fw_callVR (pc := 294) (n := 0) (C := (RX2, TX2, 21)) (ci := 2) (q0 := 0) X hE [] (ct_X2_thrown) (fun _ => rfl) gL_law_X2_thrown rfl ⟨rfl, rfl⟩ ⟨rfl, dsc_X2_thrown⟩ ⟨(Nat.le_of_ble_eq_true rfl), (Nat.le_of_ble_eq_true rfl)⟩ rfl M_obj rfl rfl (Nat.le_of_ble_eq_true rfl) dL_law_294 ⟨(by show _ ≤ 601024; omega), (by show _ ≤ 7293034; omega)⟩ (fun _ z => z.elim) (fun r2 u2 hq => ?_)
    subst hq
    refine fw_iload (pc := 297) X dL_law_297 1 rfl ?_
    refine fw_icmp_eq (pc := 299) (tgt := 304) X dL_law_299 (by decide) (fun _ => ?_) (fun q => absurd hsk q)
    refine fw_iload (pc := 304) X dL_law_304 1 rfl ?_
    refine fw_if_ne (pc := 306) (tgt := 321) X dL_law_306 (by decide) (fun q => absurd hk q) (fun _ => ?_)
    refine fw_aload_n (pc := 309) X dL_law_309 rfl 5 rfl ?_
    refine fw_iconst (pc := 310) (v := 0) X dL_law_310 (by decide) ?_
    refine fw_lald (pc := 311) (n := 1) (cA := K 2) (f := vp_updL o 0 (bg 2 (ix v)).toInt64) X 17 2 rfl rfl 0 (show (0 : Int32) = nI 0 from rfl) (by decide) (by decide) dL_law_311 ?_
    refine fw_iload (pc := 312) X dL_law_312 0 rfl ?_
    refine fw_iv (hs0 hk).1 ?_
    refine fw_i2l (pc := 314) (v := (bg 2 (ix v)).toInt64) X dL_law_314 rfl ?_
    refine fw_lcmp (pc := 315) X dL_law_315 ?_
    refine fw_iv (y := 0) (by rw [show vp_updL o 0 (bg 2 (ix v)).toInt64 0 = (bg 2 (ix v)).toInt64 from rfl, lg_cmp_self]) ?_
    refine fw_if_eq (pc := 316) (tgt := 321) X dL_law_316 (by decide) (fun _ => ?_) (fun q => absurd rfl q)
    refine fw_goto (pc := 321) (tgt := 1406) X dL_law_321 (by decide) ?_
    refine fw_pm (ws' := (OW K oa (vp_updL o 0 (bg 2 (ix v)).toInt64) ++ BW K ba bf (va_up bg 2 (upd (bg 2) (ix v) x)) n ca cf cg) ++ MW K a (upd F 0 (m_setG_k G v x)) (m_setG_G G v x)) List.perm_append_comm ?_
    refine fw_lv (lv' := [(0, .ref b), (1, .ref (ba 6)), (2, .ref (a 0)), (3, .ref oa), (4, .int (nI i))]) [2, 3, 4, 5, 6] rfl ?_
    refine fw_wd (k := cells + 20) (n := slots + 200) (by omega) (by omega) ?_
    exact kk _ _ _ _ _ _ _ _ _ (hs0 hk).2
  · refine fw_ws (ws' := (OW K oa o ++ BW K ba bf bg n ca cf cg) ++ MW K a F G) (by rw [if_neg hk]) ?_
    refine fw_pm (ws' := MW K a F G ++ (OW K oa o ++ BW K ba bf bg n ca cf cg)) List.perm_append_comm ?_
    refine fw_aload_n (pc := 275) X dL_law_275 rfl 3 rfl ?_
    refine fw_aload_n (pc := 276) X dL_law_276 rfl 1 rfl ?_
    refine fw_iload (pc := 277) X dL_law_277 5 rfl ?_
    refine fw_iconst (pc := 279) (v := 1) X dL_law_279 (by decide) ?_
    refine fw_iadd (pc := 280) X dL_law_280 ?_
    refine fw_sld (pc := 281) X hX hbl hbA (i + 1) (nf_add rfl (show (1 : Int32) = nI 1 from rfl)) (by omega) (by omega) hv dL_law_281 ?_
    refine fw_aload_n (pc := 282) X dL_law_282 rfl 1 rfl ?_
    refine fw_iload (pc := 283) X dL_law_283 5 rfl ?_
    refine fw_iconst (pc := 285) (v := 2) X dL_law_285 (by decide) ?_
    refine fw_iadd (pc := 286) X dL_law_286 ?_
    refine fw_sld (pc := 287) X hX hbl hbA (i + 2) (nf_add rfl (show (2 : Int32) = nI 2 from rfl)) (by omega) (by omega) hx dL_law_287 ?_
    refine fw_callVR (pc := 288) (n := 2) (C := (RX2, TX2, 21)) (ci := 2) (q0 := 0) X hE [.int v, .int x] (ct_X2_setGuarantee v x) (fun _ => rfl) gL_law_X2_setGuarantee rfl ⟨rfl, rfl⟩ ⟨rfl, dsc_X2_setGuarantee⟩ ⟨(Nat.le_of_ble_eq_true rfl), (Nat.le_of_ble_eq_true rfl)⟩ rfl M_obj rfl rfl (Nat.le_of_ble_eq_true rfl) dL_law_288 ⟨(by show _ ≤ 601024; omega), (by show _ ≤ 7293034; omega)⟩ (fun _ z => z.elim) (fun r1 u1 hq => ?_)
    subst hq
    refine fw_istore (pc := 291) (lv' := [(6, .int (m_setG_v G v x)), (5, .int (b_sg_k bg v x)), (0, .ref b), (1, .ref (ba 6)), (2, .ref (a 0)), (3, .ref oa), (4, .int (nI i))]) X dL_law_291 (by decide) rfl ?_
    refine fw_aload_n (pc := 293) X dL_law_293 rfl 4 rfl ?_
    refine fw_callVR (pc := 294) (n := 0) (C := (RX2, TX2, 21)) (ci := 2) (q0 := 0) X hE [] (ct_X2_thrown) (fun _ => rfl) gL_law_X2_thrown rfl ⟨rfl, rfl⟩ ⟨rfl, dsc_X2_thrown⟩ ⟨(Nat.le_of_ble_eq_true rfl), (Nat.le_of_ble_eq_true rfl)⟩ rfl M_obj rfl rfl (Nat.le_of_ble_eq_true rfl) dL_law_294 ⟨(by show _ ≤ 601024; omega), (by show _ ≤ 7293034; omega)⟩ (fun _ z => z.elim) (fun r2 u2 hq => ?_)
    subst hq
    refine fw_iload (pc := 297) X dL_law_297 1 rfl ?_
    refine fw_icmp_eq (pc := 299) (tgt := 304) X dL_law_299 (by decide) (fun _ => ?_) (fun q => absurd hsk q)
    refine fw_iload (pc := 304) X dL_law_304 1 rfl ?_
    refine fw_if_ne (pc := 306) (tgt := 321) X dL_law_306 (by decide) (fun _ => ?_) (fun q => absurd q hk)
    refine fw_goto (pc := 321) (tgt := 1406) X dL_law_321 (by decide) ?_
    refine fw_pm (ws' := (OW K oa o ++ BW K ba bf bg n ca cf cg) ++ MW K a (upd F 0 (m_setG_k G v x)) (m_setG_G G v x)) List.perm_append_comm ?_
    refine fw_lv (lv' := [(0, .ref b), (1, .ref (ba 6)), (2, .ref (a 0)), (3, .ref oa), (4, .int (nI i))]) [2, 3, 4, 5, 6] rfl ?_
    refine fw_wd (k := cells + 20) (n := slots + 200) (by omega) (by omega) ?_
    exact kk _ _ _ _ _ _ _ _ _ (hs1 hk)
set_option maxHeartbeats 4000000 in
set_option maxRecDepth 100000 in
theorem lc_announce {p : Program} {l : Launch} {e : Env} {s : State} {m : MethodId} {args : Array Value} {below : List Frame} {meth : Method} {c : Code} {D : va_G} {A : Nat → Prop} {Q : State → Prop} {cells slots : Nat} {K : Nat → ClassId} {ba : Nat → Nat} {oa : Nat} {a : Nat → Nat} {o : Nat → Int64} {b L : Nat} {xs : Nat → Int32} {T n : Nat} {bf : Nat → Int32} {bg : Nat → Nat → Int32} {ca : Nat → Nat → Nat} {cf : Nat → Nat → Int32} {cg : Nat → Nat → Nat → Int32} {F : Nat → Int32} {G : Nat → Nat → Int32} (X : fw_X p s m args c D A 7 cL_law RL wsL_law (tyS K)) (hE : fw_E true A s) (hl : l.stackTraces = false) (hX : va_X b L xs s s.heap) (hbl : b < s.heap.size) (hbA : ¬ A b) (h : Rel T bf bg n cf cg F G) (hT : T ≤ 600) (i : Nat) (hi : i + 6 ≤ L) (hL : L ≤ 3072) (hc : cells ≤ 500000) (hs : slots ≤ 7000000) (v x : Int32) (hv : xs (i + 1) = v) (hx : xs (i + 2) = x) (kk : ∀ (bf2 : Nat → Int32) (bg2 : Nat → Nat → Int32) (n2 : Nat) (ca2 : Nat → Nat → Nat) (cf2 : Nat → Nat → Int32) (cg2 : Nat → Nat → Nat → Int32) (F2 : Nat → Int32) (G2 : Nat → Nat → Int32) (o2 : Nat → Int64), Rel (T + 1) bf2 bg2 n2 cf2 cg2 F2 G2 → fw_W p l e room_1 s m args below meth c D A 7 Q (LWW K ba oa a bf2 bg2 n2 ca2 cf2 cg2 F2 G2 o2) (cells + 20) (slots + 200) [(0, .ref b), (1, .ref (ba 6)), (2, .ref (a 0)), (3, .ref oa), (4, .int (nI i))] 1406 []) : fw_W p l e room_1 s m args below meth c D A 7 Q (LWW K ba oa a bf bg n ca cf cg F G o) cells slots [(0, .ref b), (1, .ref (ba 6)), (2, .ref (a 0)), (3, .ref oa), (4, .int (nI i))] 324 [] := by
  obtain ⟨hsk, hs0, hs1⟩ := sim_announce h hT v x
  refine fw_aload_n (pc := 324) X dL_law_324 rfl 1 rfl ?_
  refine fw_aload_n (pc := 325) X dL_law_325 rfl 0 rfl ?_
  refine fw_iload (pc := 326) X dL_law_326 4 rfl ?_
  refine fw_iconst (pc := 328) (v := 1) X dL_law_328 (by decide) ?_
  refine fw_iadd (pc := 329) X dL_law_329 ?_
  refine fw_sld (pc := 330) X hX hbl hbA (i + 1) (nf_add rfl (show (1 : Int32) = nI 1 from rfl)) (by omega) (by omega) hv dL_law_330 ?_
  refine fw_aload_n (pc := 331) X dL_law_331 rfl 0 rfl ?_
  refine fw_iload (pc := 332) X dL_law_332 4 rfl ?_
  refine fw_iconst (pc := 334) (v := 2) X dL_law_334 (by decide) ?_
  refine fw_iadd (pc := 335) X dL_law_335 ?_
  refine fw_sld (pc := 336) X hX hbl hbA (i + 2) (nf_add rfl (show (2 : Int32) = nI 2 from rfl)) (by omega) (by omega) hx dL_law_336 ?_
  refine fw_aload_n (pc := 337) X dL_law_337 rfl 3 rfl ?_
  refine fw_ws (ws' := (OW K oa o ++ BW K ba bf bg n ca cf cg) ++ MW K a F G) rfl ?_
  refine fw_callHR (pc := 338) (n := 4) X hE [.ref (ba 6), .int v, .int x, .ref oa] (ct_L_announce hl v x h.2.1 h.1) (fun z => z) gL_law_L_announce rfl ⟨rfl, rfl⟩ dsc_L_announce ⟨(Nat.le_of_ble_eq_true rfl), (Nat.le_of_ble_eq_true rfl)⟩ rfl rfl (Nat.le_of_ble_eq_true rfl) dL_law_338 ⟨(by show _ ≤ 601024; omega), (by show _ ≤ 7293034; omega)⟩ (fun _ z => z.elim) (fun r0 u0 hq => ?_)
  subst hq
  refine fw_istore (pc := 341) (lv' := [(5, .int (b_ann_k bf v x)), (0, .ref b), (1, .ref (ba 6)), (2, .ref (a 0)), (3, .ref oa), (4, .int (nI i))]) X dL_law_341 (by decide) rfl ?_
  by_cases hk : b_ann_k bf v x = 0
  · refine fw_ws (ws' := (OW K oa (vp_updL o 0 (bf 6).toInt64) ++ BW K ba (upd bf 6 (bf 6 + 1)) bg (n + 1) (va_up ca n u0) (va_up cf n (c0F v x)) (va_up cg n c0G)) ++ MW K a F G) (by rw [if_pos hk]) ?_
    refine fw_pm (ws' := MW K a F G ++ (OW K oa (vp_updL o 0 (bf 6).toInt64) ++ BW K ba (upd bf 6 (bf 6 + 1)) bg (n + 1) (va_up ca n u0) (va_up cf n (c0F v x)) (va_up cg n c0G))) List.perm_append_comm ?_
    refine fw_aload_n (pc := 343) X dL_law_343 rfl 3 rfl ?_
    refine fw_aload_n (pc := 344) X dL_law_344 rfl 1 rfl ?_
    refine fw_iload (pc := 345) X dL_law_345 5 rfl ?_
    refine fw_iconst (pc := 347) (v := 1) X dL_law_347 (by decide) ?_
    refine fw_iadd (pc := 348) X dL_law_348 ?_
    refine fw_sld (pc := 349) X hX hbl hbA (i + 1) (nf_add rfl (show (1 : Int32) = nI 1 from rfl)) (by omega) (by omega) hv dL_law_349 ?_
    refine fw_aload_n (pc := 350) X dL_law_350 rfl 1 rfl ?_
    refine fw_iload (pc := 351) X dL_law_351 5 rfl ?_
    refine fw_iconst (pc := 353) (v := 2) X dL_law_353 (by decide) ?_
    refine fw_iadd (pc := 354) X dL_law_354 ?_
    refine fw_sld (pc := 355) X hX hbl hbA (i + 2) (nf_add rfl (show (2 : Int32) = nI 2 from rfl)) (by omega) (by omega) hx dL_law_355 ?_
    refine fw_callVR (pc := 356) (n := 2) (C := (RX2, TX2, 21)) (ci := 2) (q0 := 0) X hE [.int v, .int x] (ct_X2_announce v x h.2.2.1 h.1) (fun _ => rfl) gL_law_X2_announce rfl ⟨rfl, rfl⟩ ⟨rfl, dsc_X2_announce⟩ ⟨(Nat.le_of_ble_eq_true rfl), (Nat.le_of_ble_eq_true rfl)⟩ rfl M_obj rfl rfl (Nat.le_of_ble_eq_true rfl) dL_law_356 ⟨(by show _ ≤ 601024; omega), (by show _ ≤ 7293034; omega)⟩ (fun _ z => z.elim) (fun r1 u1 hq => ?_)
    subst hq
    refine fw_istore (pc := 359) (lv' := [(6, .int (m_ann_v F v x)), (5, .int (b_ann_k bf v x)), (0, .ref b), (1, .ref (ba 6)), (2, .ref (a 0)), (3, .ref oa), (4, .int (nI i))]) X dL_law_359 (by decide) rfl ?_
    refine fw_aload_n (pc := 361) X dL_law_361 rfl 4 rfl ?_
    refine fw_callVR (pc := 362) (n := 0) (C := (RX2, TX2, 21)) (ci := 2) (q0 := 0) X hE [] (ct_X2_thrown) (fun _ => rfl) gL_law_X2_thrown rfl ⟨rfl, rfl⟩ ⟨rfl, dsc_X2_thrown⟩ ⟨(Nat.le_of_ble_eq_true rfl), (Nat.le_of_ble_eq_true rfl)⟩ rfl M_obj rfl rfl (Nat.le_of_ble_eq_true rfl) dL_law_362 ⟨(by show _ ≤ 601024; omega), (by show _ ≤ 7293034; omega)⟩ (fun _ z => z.elim) (fun r2 u2 hq => ?_)
    subst hq
    refine fw_iload (pc := 365) X dL_law_365 1 rfl ?_
    refine fw_icmp_eq (pc := 367) (tgt := 372) X dL_law_367 (by decide) (fun _ => ?_) (fun q => absurd hsk q)
    refine fw_iload (pc := 372) X dL_law_372 1 rfl ?_
    refine fw_if_ne (pc := 374) (tgt := 389) X dL_law_374 (by decide) (fun q => absurd hk q) (fun _ => ?_)
    refine fw_aload_n (pc := 377) X dL_law_377 rfl 5 rfl ?_
    refine fw_iconst (pc := 378) (v := 0) X dL_law_378 (by decide) ?_
    refine fw_lald (pc := 379) (n := 1) (cA := K 2) (f := vp_updL o 0 (bf 6).toInt64) X 17 2 rfl rfl 0 (show (0 : Int32) = nI 0 from rfl) (by decide) (by decide) dL_law_379 ?_
    refine fw_iload (pc := 380) X dL_law_380 0 rfl ?_
    refine fw_iv (hs0 hk).1 ?_
    refine fw_i2l (pc := 382) (v := (bf 6).toInt64) X dL_law_382 rfl ?_
    refine fw_lcmp (pc := 383) X dL_law_383 ?_
    refine fw_iv (y := 0) (by rw [show vp_updL o 0 (bf 6).toInt64 0 = (bf 6).toInt64 from rfl, lg_cmp_self]) ?_
    refine fw_if_eq (pc := 384) (tgt := 389) X dL_law_384 (by decide) (fun _ => ?_) (fun q => absurd rfl q)
    refine fw_goto (pc := 389) (tgt := 1406) X dL_law_389 (by decide) ?_
    refine fw_pm (ws' := (OW K oa (vp_updL o 0 (bf 6).toInt64) ++ BW K ba (upd bf 6 (bf 6 + 1)) bg (n + 1) (va_up ca n u0) (va_up cf n (c0F v x)) (va_up cg n c0G)) ++ MW K a (m_ann_F F v x) (m_ann_G F G n v x)) List.perm_append_comm ?_
    refine fw_lv (lv' := [(0, .ref b), (1, .ref (ba 6)), (2, .ref (a 0)), (3, .ref oa), (4, .int (nI i))]) [2, 3, 4, 5, 6] rfl ?_
    refine fw_wd (k := cells + 20) (n := slots + 200) (by omega) (by omega) ?_
    exact kk _ _ _ _ _ _ _ _ _ (hs0 hk).2
  · refine fw_ws (ws' := (OW K oa o ++ BW K ba bf bg n ca cf cg) ++ MW K a F G) (by rw [if_neg hk]) ?_
    refine fw_pm (ws' := MW K a F G ++ (OW K oa o ++ BW K ba bf bg n ca cf cg)) List.perm_append_comm ?_
    refine fw_aload_n (pc := 343) X dL_law_343 rfl 3 rfl ?_
    refine fw_aload_n (pc := 344) X dL_law_344 rfl 1 rfl ?_
    refine fw_iload (pc := 345) X dL_law_345 5 rfl ?_
    refine fw_iconst (pc := 347) (v := 1) X dL_law_347 (by decide) ?_
    refine fw_iadd (pc := 348) X dL_law_348 ?_
    refine fw_sld (pc := 349) X hX hbl hbA (i + 1) (nf_add rfl (show (1 : Int32) = nI 1 from rfl)) (by omega) (by omega) hv dL_law_349 ?_
    refine fw_aload_n (pc := 350) X dL_law_350 rfl 1 rfl ?_
    refine fw_iload (pc := 351) X dL_law_351 5 rfl ?_
    refine fw_iconst (pc := 353) (v := 2) X dL_law_353 (by decide) ?_
    refine fw_iadd (pc := 354) X dL_law_354 ?_
    refine fw_sld (pc := 355) X hX hbl hbA (i + 2) (nf_add rfl (show (2 : Int32) = nI 2 from rfl)) (by omega) (by omega) hx dL_law_355 ?_
    refine fw_callVR (pc := 356) (n := 2) (C := (RX2, TX2, 21)) (ci := 2) (q0 := 0) X hE [.int v, .int x] (ct_X2_announce v x h.2.2.1 h.1) (fun _ => rfl) gL_law_X2_announce rfl ⟨rfl, rfl⟩ ⟨rfl, dsc_X2_announce⟩ ⟨(Nat.le_of_ble_eq_true rfl), (Nat.le_of_ble_eq_true rfl)⟩ rfl M_obj rfl rfl (Nat.le_of_ble_eq_true rfl) dL_law_356 ⟨(by show _ ≤ 601024; omega), (by show _ ≤ 7293034; omega)⟩ (fun _ z => z.elim) (fun r1 u1 hq => ?_)
    subst hq
    refine fw_istore (pc := 359) (lv' := [(6, .int (m_ann_v F v x)), (5, .int (b_ann_k bf v x)), (0, .ref b), (1, .ref (ba 6)), (2, .ref (a 0)), (3, .ref oa), (4, .int (nI i))]) X dL_law_359 (by decide) rfl ?_
    refine fw_aload_n (pc := 361) X dL_law_361 rfl 4 rfl ?_
    refine fw_callVR (pc := 362) (n := 0) (C := (RX2, TX2, 21)) (ci := 2) (q0 := 0) X hE [] (ct_X2_thrown) (fun _ => rfl) gL_law_X2_thrown rfl ⟨rfl, rfl⟩ ⟨rfl, dsc_X2_thrown⟩ ⟨(Nat.le_of_ble_eq_true rfl), (Nat.le_of_ble_eq_true rfl)⟩ rfl M_obj rfl rfl (Nat.le_of_ble_eq_true rfl) dL_law_362 ⟨(by show _ ≤ 601024; omega), (by show _ ≤ 7293034; omega)⟩ (fun _ z => z.elim) (fun r2 u2 hq => ?_)
    subst hq
    refine fw_iload (pc := 365) X dL_law_365 1 rfl ?_
    refine fw_icmp_eq (pc := 367) (tgt := 372) X dL_law_367 (by decide) (fun _ => ?_) (fun q => absurd hsk q)
    refine fw_iload (pc := 372) X dL_law_372 1 rfl ?_
    refine fw_if_ne (pc := 374) (tgt := 389) X dL_law_374 (by decide) (fun _ => ?_) (fun q => absurd q hk)
    refine fw_goto (pc := 389) (tgt := 1406) X dL_law_389 (by decide) ?_
    refine fw_pm (ws' := (OW K oa o ++ BW K ba bf bg n ca cf cg) ++ MW K a (m_ann_F F v x) (m_ann_G F G n v x)) List.perm_append_comm ?_
    refine fw_lv (lv' := [(0, .ref b), (1, .ref (ba 6)), (2, .ref (a 0)), (3, .ref oa), (4, .int (nI i))]) [2, 3, 4, 5, 6] rfl ?_
    refine fw_wd (k := cells + 20) (n := slots + 200) (by omega) (by omega) ?_
    exact kk _ _ _ _ _ _ _ _ _ (hs1 hk)
set_option maxHeartbeats 4000000 in
set_option maxRecDepth 100000 in
theorem lc_amend {p : Program} {l : Launch} {e : Env} {s : State} {m : MethodId} {args : Array Value} {below : List Frame} {meth : Method} {c : Code} {D : va_G} {A : Nat → Prop} {Q : State → Prop} {cells slots : Nat} {K : Nat → ClassId} {ba : Nat → Nat} {oa : Nat} {a : Nat → Nat} {o : Nat → Int64} {b L : Nat} {xs : Nat → Int32} {T n : Nat} {bf : Nat → Int32} {bg : Nat → Nat → Int32} {ca : Nat → Nat → Nat} {cf : Nat → Nat → Int32} {cg : Nat → Nat → Nat → Int32} {F : Nat → Int32} {G : Nat → Nat → Int32} (X : fw_X p s m args c D A 7 cL_law RL wsL_law (tyS K)) (hE : fw_E true A s) (hl : l.stackTraces = false) (hX : va_X b L xs s s.heap) (hbl : b < s.heap.size) (hbA : ¬ A b) (h : Rel T bf bg n cf cg F G) (hT : T ≤ 600) (i : Nat) (hi : i + 6 ≤ L) (hL : L ≤ 3072) (hc : cells ≤ 500000) (hs : slots ≤ 7000000) (u v x : Int32) (hu : xs (i + 1) = u) (hv : xs (i + 2) = v) (hx : xs (i + 3) = x) (kk : ∀ (bf2 : Nat → Int32) (bg2 : Nat → Nat → Int32) (n2 : Nat) (ca2 : Nat → Nat → Nat) (cf2 : Nat → Nat → Int32) (cg2 : Nat → Nat → Nat → Int32) (F2 : Nat → Int32) (G2 : Nat → Nat → Int32) (o2 : Nat → Int64), Rel (T + 1) bf2 bg2 n2 cf2 cg2 F2 G2 → fw_W p l e room_1 s m args below meth c D A 7 Q (LWW K ba oa a bf2 bg2 n2 ca2 cf2 cg2 F2 G2 o2) (cells + 20) (slots + 200) [(0, .ref b), (1, .ref (ba 6)), (2, .ref (a 0)), (3, .ref oa), (4, .int (nI i))] 1406 []) : fw_W p l e room_1 s m args below meth c D A 7 Q (LWW K ba oa a bf bg n ca cf cg F G o) cells slots [(0, .ref b), (1, .ref (ba 6)), (2, .ref (a 0)), (3, .ref oa), (4, .int (nI i))] 392 [] := by
  obtain ⟨hsk, hs0, hs1⟩ := sim_amend h hT u v x
  refine fw_aload_n (pc := 392) X dL_law_392 rfl 1 rfl ?_
  refine fw_aload_n (pc := 393) X dL_law_393 rfl 0 rfl ?_
  refine fw_iload (pc := 394) X dL_law_394 4 rfl ?_
  refine fw_iconst (pc := 396) (v := 1) X dL_law_396 (by decide) ?_
  refine fw_iadd (pc := 397) X dL_law_397 ?_
  refine fw_sld (pc := 398) X hX hbl hbA (i + 1) (nf_add rfl (show (1 : Int32) = nI 1 from rfl)) (by omega) (by omega) hu dL_law_398 ?_
  refine fw_aload_n (pc := 399) X dL_law_399 rfl 0 rfl ?_
  refine fw_iload (pc := 400) X dL_law_400 4 rfl ?_
  refine fw_iconst (pc := 402) (v := 2) X dL_law_402 (by decide) ?_
  refine fw_iadd (pc := 403) X dL_law_403 ?_
  refine fw_sld (pc := 404) X hX hbl hbA (i + 2) (nf_add rfl (show (2 : Int32) = nI 2 from rfl)) (by omega) (by omega) hv dL_law_404 ?_
  refine fw_aload_n (pc := 405) X dL_law_405 rfl 0 rfl ?_
  refine fw_iload (pc := 406) X dL_law_406 4 rfl ?_
  refine fw_iconst (pc := 408) (v := 3) X dL_law_408 (by decide) ?_
  refine fw_iadd (pc := 409) X dL_law_409 ?_
  refine fw_sld (pc := 410) X hX hbl hbA (i + 3) (nf_add rfl (show (3 : Int32) = nI 3 from rfl)) (by omega) (by omega) hx dL_law_410 ?_
  refine fw_aload_n (pc := 411) X dL_law_411 rfl 3 rfl ?_
  refine fw_ws (ws' := (OW K oa o ++ BW K ba bf bg n ca cf cg) ++ MW K a F G) rfl ?_
  refine fw_callHR (pc := 412) (n := 5) X hE [.ref (ba 6), .int u, .int v, .int x, .ref oa] (ct_L_amend hl u v x h.1) (fun z => z) gL_law_L_amend rfl ⟨rfl, rfl⟩ dsc_L_amend ⟨(Nat.le_of_ble_eq_true rfl), (Nat.le_of_ble_eq_true rfl)⟩ rfl rfl (Nat.le_of_ble_eq_true rfl) dL_law_412 ⟨(by show _ ≤ 601024; omega), (by show _ ≤ 7293034; omega)⟩ (fun _ z => z.elim) (fun r0 u0 hq => ?_)
  subst hq
  refine fw_istore (pc := 415) (lv' := [(5, .int (b_amd_k n cf cg u v x)), (0, .ref b), (1, .ref (ba 6)), (2, .ref (a 0)), (3, .ref oa), (4, .int (nI i))]) X dL_law_415 (by decide) rfl ?_
  by_cases hk : b_amd_k n cf cg u v x = 0
  · refine fw_ws (ws' := (OW K oa (vp_updL o 0 (cf (ix u) 6 + 1).toInt64) ++ BW K ba bf bg n ca (va_up cf (ix u) (upd (cf (ix u)) 6 (cf (ix u) 6 + 1))) (va_up cg (ix u) (va_up (cg (ix u)) 2 (upd (cg (ix u) 2) (ix v) x)))) ++ MW K a F G) (by rw [if_pos hk]) ?_
    refine fw_pm (ws' := MW K a F G ++ (OW K oa (vp_updL o 0 (cf (ix u) 6 + 1).toInt64) ++ BW K ba bf bg n ca (va_up cf (ix u) (upd (cf (ix u)) 6 (cf (ix u) 6 + 1))) (va_up cg (ix u) (va_up (cg (ix u)) 2 (upd (cg (ix u) 2) (ix v) x))))) List.perm_append_comm ?_
    refine fw_aload_n (pc := 417) X dL_law_417 rfl 3 rfl ?_
    refine fw_aload_n (pc := 418) X dL_law_418 rfl 1 rfl ?_
    refine fw_iload (pc := 419) X dL_law_419 5 rfl ?_
    refine fw_iconst (pc := 421) (v := 1) X dL_law_421 (by decide) ?_
    refine fw_iadd (pc := 422) X dL_law_422 ?_
    refine fw_sld (pc := 423) X hX hbl hbA (i + 1) (nf_add rfl (show (1 : Int32) = nI 1 from rfl)) (by omega) (by omega) hu dL_law_423 ?_
    refine fw_aload_n (pc := 424) X dL_law_424 rfl 1 rfl ?_
    refine fw_iload (pc := 425) X dL_law_425 5 rfl ?_
    refine fw_iconst (pc := 427) (v := 2) X dL_law_427 (by decide) ?_
    refine fw_iadd (pc := 428) X dL_law_428 ?_
    refine fw_sld (pc := 429) X hX hbl hbA (i + 2) (nf_add rfl (show (2 : Int32) = nI 2 from rfl)) (by omega) (by omega) hv dL_law_429 ?_
    refine fw_aload_n (pc := 430) X dL_law_430 rfl 1 rfl ?_
    refine fw_iload (pc := 431) X dL_law_431 5 rfl ?_
    refine fw_iconst (pc := 433) (v := 3) X dL_law_433 (by decide) ?_
    refine fw_iadd (pc := 434) X dL_law_434 ?_
    refine fw_sld (pc := 435) X hX hbl hbA (i + 3) (nf_add rfl (show (3 : Int32) = nI 3 from rfl)) (by omega) (by omega) hx dL_law_435 ?_
    refine fw_callVR (pc := 436) (n := 3) (C := (RX2, TX2, 21)) (ci := 2) (q0 := 0) X hE [.int u, .int v, .int x] (ct_X2_amend u v x h.2.2.1 h.1) (fun _ => rfl) gL_law_X2_amend rfl ⟨rfl, rfl⟩ ⟨rfl, dsc_X2_amend⟩ ⟨(Nat.le_of_ble_eq_true rfl), (Nat.le_of_ble_eq_true rfl)⟩ rfl M_obj rfl rfl (Nat.le_of_ble_eq_true rfl) dL_law_436 ⟨(by show _ ≤ 601024; omega), (by show _ ≤ 7293034; omega)⟩ (fun _ z => z.elim) (fun r1 u1 hq => ?_)
    subst hq
    refine fw_istore (pc := 439) (lv' := [(6, .int (m_amd_v F G u v x)), (5, .int (b_amd_k n cf cg u v x)), (0, .ref b), (1, .ref (ba 6)), (2, .ref (a 0)), (3, .ref oa), (4, .int (nI i))]) X dL_law_439 (by decide) rfl ?_
    refine fw_aload_n (pc := 441) X dL_law_441 rfl 4 rfl ?_
    refine fw_callVR (pc := 442) (n := 0) (C := (RX2, TX2, 21)) (ci := 2) (q0 := 0) X hE [] (ct_X2_thrown) (fun _ => rfl) gL_law_X2_thrown rfl ⟨rfl, rfl⟩ ⟨rfl, dsc_X2_thrown⟩ ⟨(Nat.le_of_ble_eq_true rfl), (Nat.le_of_ble_eq_true rfl)⟩ rfl M_obj rfl rfl (Nat.le_of_ble_eq_true rfl) dL_law_442 ⟨(by show _ ≤ 601024; omega), (by show _ ≤ 7293034; omega)⟩ (fun _ z => z.elim) (fun r2 u2 hq => ?_)
    subst hq
    refine fw_iload (pc := 445) X dL_law_445 1 rfl ?_
    refine fw_icmp_eq (pc := 447) (tgt := 452) X dL_law_447 (by decide) (fun _ => ?_) (fun q => absurd hsk q)
    refine fw_iload (pc := 452) X dL_law_452 1 rfl ?_
    refine fw_if_ne (pc := 454) (tgt := 469) X dL_law_454 (by decide) (fun q => absurd hk q) (fun _ => ?_)
    refine fw_aload_n (pc := 457) X dL_law_457 rfl 5 rfl ?_
    refine fw_iconst (pc := 458) (v := 0) X dL_law_458 (by decide) ?_
    refine fw_lald (pc := 459) (n := 1) (cA := K 2) (f := vp_updL o 0 (cf (ix u) 6 + 1).toInt64) X 17 2 rfl rfl 0 (show (0 : Int32) = nI 0 from rfl) (by decide) (by decide) dL_law_459 ?_
    refine fw_iload (pc := 460) X dL_law_460 0 rfl ?_
    refine fw_iv (hs0 hk).1 ?_
    refine fw_i2l (pc := 462) (v := (cf (ix u) 6 + 1).toInt64) X dL_law_462 rfl ?_
    refine fw_lcmp (pc := 463) X dL_law_463 ?_
    refine fw_iv (y := 0) (by rw [show vp_updL o 0 (cf (ix u) 6 + 1).toInt64 0 = (cf (ix u) 6 + 1).toInt64 from rfl, lg_cmp_self]) ?_
    refine fw_if_eq (pc := 464) (tgt := 469) X dL_law_464 (by decide) (fun _ => ?_) (fun q => absurd rfl q)
    refine fw_goto (pc := 469) (tgt := 1406) X dL_law_469 (by decide) ?_
    refine fw_pm (ws' := (OW K oa (vp_updL o 0 (cf (ix u) 6 + 1).toInt64) ++ BW K ba bf bg n ca (va_up cf (ix u) (upd (cf (ix u)) 6 (cf (ix u) 6 + 1))) (va_up cg (ix u) (va_up (cg (ix u)) 2 (upd (cg (ix u) 2) (ix v) x)))) ++ MW K a (upd F 0 (m_amd_k F G u v x)) (m_amd_G F G u v x)) List.perm_append_comm ?_
    refine fw_lv (lv' := [(0, .ref b), (1, .ref (ba 6)), (2, .ref (a 0)), (3, .ref oa), (4, .int (nI i))]) [2, 3, 4, 5, 6] rfl ?_
    refine fw_wd (k := cells + 20) (n := slots + 200) (by omega) (by omega) ?_
    exact kk _ _ _ _ _ _ _ _ _ (hs0 hk).2
  · refine fw_ws (ws' := (OW K oa o ++ BW K ba bf bg n ca cf cg) ++ MW K a F G) (by rw [if_neg hk]) ?_
    refine fw_pm (ws' := MW K a F G ++ (OW K oa o ++ BW K ba bf bg n ca cf cg)) List.perm_append_comm ?_
    refine fw_aload_n (pc := 417) X dL_law_417 rfl 3 rfl ?_
    refine fw_aload_n (pc := 418) X dL_law_418 rfl 1 rfl ?_
    refine fw_iload (pc := 419) X dL_law_419 5 rfl ?_
    refine fw_iconst (pc := 421) (v := 1) X dL_law_421 (by decide) ?_
    refine fw_iadd (pc := 422) X dL_law_422 ?_
    refine fw_sld (pc := 423) X hX hbl hbA (i + 1) (nf_add rfl (show (1 : Int32) = nI 1 from rfl)) (by omega) (by omega) hu dL_law_423 ?_
    refine fw_aload_n (pc := 424) X dL_law_424 rfl 1 rfl ?_
    refine fw_iload (pc := 425) X dL_law_425 5 rfl ?_
    refine fw_iconst (pc := 427) (v := 2) X dL_law_427 (by decide) ?_
    refine fw_iadd (pc := 428) X dL_law_428 ?_
    refine fw_sld (pc := 429) X hX hbl hbA (i + 2) (nf_add rfl (show (2 : Int32) = nI 2 from rfl)) (by omega) (by omega) hv dL_law_429 ?_
    refine fw_aload_n (pc := 430) X dL_law_430 rfl 1 rfl ?_
    refine fw_iload (pc := 431) X dL_law_431 5 rfl ?_
    refine fw_iconst (pc := 433) (v := 3) X dL_law_433 (by decide) ?_
    refine fw_iadd (pc := 434) X dL_law_434 ?_
    refine fw_sld (pc := 435) X hX hbl hbA (i + 3) (nf_add rfl (show (3 : Int32) = nI 3 from rfl)) (by omega) (by omega) hx dL_law_435 ?_
    refine fw_callVR (pc := 436) (n := 3) (C := (RX2, TX2, 21)) (ci := 2) (q0 := 0) X hE [.int u, .int v, .int x] (ct_X2_amend u v x h.2.2.1 h.1) (fun _ => rfl) gL_law_X2_amend rfl ⟨rfl, rfl⟩ ⟨rfl, dsc_X2_amend⟩ ⟨(Nat.le_of_ble_eq_true rfl), (Nat.le_of_ble_eq_true rfl)⟩ rfl M_obj rfl rfl (Nat.le_of_ble_eq_true rfl) dL_law_436 ⟨(by show _ ≤ 601024; omega), (by show _ ≤ 7293034; omega)⟩ (fun _ z => z.elim) (fun r1 u1 hq => ?_)
    subst hq
    refine fw_istore (pc := 439) (lv' := [(6, .int (m_amd_v F G u v x)), (5, .int (b_amd_k n cf cg u v x)), (0, .ref b), (1, .ref (ba 6)), (2, .ref (a 0)), (3, .ref oa), (4, .int (nI i))]) X dL_law_439 (by decide) rfl ?_
    refine fw_aload_n (pc := 441) X dL_law_441 rfl 4 rfl ?_
    refine fw_callVR (pc := 442) (n := 0) (C := (RX2, TX2, 21)) (ci := 2) (q0 := 0) X hE [] (ct_X2_thrown) (fun _ => rfl) gL_law_X2_thrown rfl ⟨rfl, rfl⟩ ⟨rfl, dsc_X2_thrown⟩ ⟨(Nat.le_of_ble_eq_true rfl), (Nat.le_of_ble_eq_true rfl)⟩ rfl M_obj rfl rfl (Nat.le_of_ble_eq_true rfl) dL_law_442 ⟨(by show _ ≤ 601024; omega), (by show _ ≤ 7293034; omega)⟩ (fun _ z => z.elim) (fun r2 u2 hq => ?_)
    subst hq
    refine fw_iload (pc := 445) X dL_law_445 1 rfl ?_
    refine fw_icmp_eq (pc := 447) (tgt := 452) X dL_law_447 (by decide) (fun _ => ?_) (fun q => absurd hsk q)
    refine fw_iload (pc := 452) X dL_law_452 1 rfl ?_
    refine fw_if_ne (pc := 454) (tgt := 469) X dL_law_454 (by decide) (fun _ => ?_) (fun q => absurd q hk)
    refine fw_goto (pc := 469) (tgt := 1406) X dL_law_469 (by decide) ?_
    refine fw_pm (ws' := (OW K oa o ++ BW K ba bf bg n ca cf cg) ++ MW K a (upd F 0 (m_amd_k F G u v x)) (m_amd_G F G u v x)) List.perm_append_comm ?_
    refine fw_lv (lv' := [(0, .ref b), (1, .ref (ba 6)), (2, .ref (a 0)), (3, .ref oa), (4, .int (nI i))]) [2, 3, 4, 5, 6] rfl ?_
    refine fw_wd (k := cells + 20) (n := slots + 200) (by omega) (by omega) ?_
    exact kk _ _ _ _ _ _ _ _ _ (hs1 hk)
set_option maxHeartbeats 4000000 in
set_option maxRecDepth 100000 in
theorem lc_arrive {p : Program} {l : Launch} {e : Env} {s : State} {m : MethodId} {args : Array Value} {below : List Frame} {meth : Method} {c : Code} {D : va_G} {A : Nat → Prop} {Q : State → Prop} {cells slots : Nat} {K : Nat → ClassId} {ba : Nat → Nat} {oa : Nat} {a : Nat → Nat} {o : Nat → Int64} {b L : Nat} {xs : Nat → Int32} {T n : Nat} {bf : Nat → Int32} {bg : Nat → Nat → Int32} {ca : Nat → Nat → Nat} {cf : Nat → Nat → Int32} {cg : Nat → Nat → Nat → Int32} {F : Nat → Int32} {G : Nat → Nat → Int32} (X : fw_X p s m args c D A 7 cL_law RL wsL_law (tyS K)) (hE : fw_E true A s) (hl : l.stackTraces = false) (hX : va_X b L xs s s.heap) (hbl : b < s.heap.size) (hbA : ¬ A b) (h : Rel T bf bg n cf cg F G) (hT : T ≤ 600) (i : Nat) (hi : i + 6 ≤ L) (hL : L ≤ 3072) (hc : cells ≤ 500000) (hs : slots ≤ 7000000) (u x : Int32) (hu : xs (i + 1) = u) (hx : xs (i + 2) = x) (kk : ∀ (bf2 : Nat → Int32) (bg2 : Nat → Nat → Int32) (n2 : Nat) (ca2 : Nat → Nat → Nat) (cf2 : Nat → Nat → Int32) (cg2 : Nat → Nat → Nat → Int32) (F2 : Nat → Int32) (G2 : Nat → Nat → Int32) (o2 : Nat → Int64), Rel (T + 1) bf2 bg2 n2 cf2 cg2 F2 G2 → fw_W p l e room_1 s m args below meth c D A 7 Q (LWW K ba oa a bf2 bg2 n2 ca2 cf2 cg2 F2 G2 o2) (cells + 20) (slots + 200) [(0, .ref b), (1, .ref (ba 6)), (2, .ref (a 0)), (3, .ref oa), (4, .int (nI i))] 1406 []) : fw_W p l e room_1 s m args below meth c D A 7 Q (LWW K ba oa a bf bg n ca cf cg F G o) cells slots [(0, .ref b), (1, .ref (ba 6)), (2, .ref (a 0)), (3, .ref oa), (4, .int (nI i))] 472 [] := by
  obtain ⟨hsk, hs0, hs1⟩ := sim_arrive h hT u x
  refine fw_aload_n (pc := 472) X dL_law_472 rfl 1 rfl ?_
  refine fw_aload_n (pc := 473) X dL_law_473 rfl 0 rfl ?_
  refine fw_iload (pc := 474) X dL_law_474 4 rfl ?_
  refine fw_iconst (pc := 476) (v := 1) X dL_law_476 (by decide) ?_
  refine fw_iadd (pc := 477) X dL_law_477 ?_
  refine fw_sld (pc := 478) X hX hbl hbA (i + 1) (nf_add rfl (show (1 : Int32) = nI 1 from rfl)) (by omega) (by omega) hu dL_law_478 ?_
  refine fw_aload_n (pc := 479) X dL_law_479 rfl 0 rfl ?_
  refine fw_iload (pc := 480) X dL_law_480 4 rfl ?_
  refine fw_iconst (pc := 482) (v := 2) X dL_law_482 (by decide) ?_
  refine fw_iadd (pc := 483) X dL_law_483 ?_
  refine fw_sld (pc := 484) X hX hbl hbA (i + 2) (nf_add rfl (show (2 : Int32) = nI 2 from rfl)) (by omega) (by omega) hx dL_law_484 ?_
  refine fw_aload_n (pc := 485) X dL_law_485 rfl 3 rfl ?_
  refine fw_ws (ws' := (OW K oa o ++ BW K ba bf bg n ca cf cg) ++ MW K a F G) rfl ?_
  refine fw_callHR (pc := 486) (n := 4) X hE [.ref (ba 6), .int u, .int x, .ref oa] (ct_L_arrive hl u x h.1) (fun z => z) gL_law_L_arrive rfl ⟨rfl, rfl⟩ dsc_L_arrive ⟨(Nat.le_of_ble_eq_true rfl), (Nat.le_of_ble_eq_true rfl)⟩ rfl rfl (Nat.le_of_ble_eq_true rfl) dL_law_486 ⟨(by show _ ≤ 601024; omega), (by show _ ≤ 7293034; omega)⟩ (fun _ z => z.elim) (fun r0 u0 hq => ?_)
  subst hq
  refine fw_istore (pc := 489) (lv' := [(5, .int (b_arr_k n cf cg u x)), (0, .ref b), (1, .ref (ba 6)), (2, .ref (a 0)), (3, .ref oa), (4, .int (nI i))]) X dL_law_489 (by decide) rfl ?_
  by_cases hk : b_arr_k n cf cg u x = 0
  · refine fw_ws (ws' := (OW K oa (vp_updL o 0 (b2i (b_must (upd bf 7 (bf 7 + 1)) bg (b_arr_f bf cf (ix u) x) cg (ix u) = true)).toInt64) ++ BW K ba (upd bf 7 (bf 7 + 1)) bg n ca (b_arr_f bf cf (ix u) x) cg) ++ MW K a F G) (by rw [if_pos hk]) ?_
    refine fw_pm (ws' := MW K a F G ++ (OW K oa (vp_updL o 0 (b2i (b_must (upd bf 7 (bf 7 + 1)) bg (b_arr_f bf cf (ix u) x) cg (ix u) = true)).toInt64) ++ BW K ba (upd bf 7 (bf 7 + 1)) bg n ca (b_arr_f bf cf (ix u) x) cg)) List.perm_append_comm ?_
    refine fw_aload_n (pc := 491) X dL_law_491 rfl 3 rfl ?_
    refine fw_aload_n (pc := 492) X dL_law_492 rfl 1 rfl ?_
    refine fw_iload (pc := 493) X dL_law_493 5 rfl ?_
    refine fw_iconst (pc := 495) (v := 1) X dL_law_495 (by decide) ?_
    refine fw_iadd (pc := 496) X dL_law_496 ?_
    refine fw_sld (pc := 497) X hX hbl hbA (i + 1) (nf_add rfl (show (1 : Int32) = nI 1 from rfl)) (by omega) (by omega) hu dL_law_497 ?_
    refine fw_aload_n (pc := 498) X dL_law_498 rfl 1 rfl ?_
    refine fw_iload (pc := 499) X dL_law_499 5 rfl ?_
    refine fw_iconst (pc := 501) (v := 2) X dL_law_501 (by decide) ?_
    refine fw_iadd (pc := 502) X dL_law_502 ?_
    refine fw_sld (pc := 503) X hX hbl hbA (i + 2) (nf_add rfl (show (2 : Int32) = nI 2 from rfl)) (by omega) (by omega) hx dL_law_503 ?_
    refine fw_callVR (pc := 504) (n := 2) (C := (RX2, TX2, 21)) (ci := 2) (q0 := 0) X hE [.int u, .int x] (ct_X2_arrive u x h.2.2.1 h.1) (fun _ => rfl) gL_law_X2_arrive rfl ⟨rfl, rfl⟩ ⟨rfl, dsc_X2_arrive⟩ ⟨(Nat.le_of_ble_eq_true rfl), (Nat.le_of_ble_eq_true rfl)⟩ rfl M_obj rfl rfl (Nat.le_of_ble_eq_true rfl) dL_law_504 ⟨(by show _ ≤ 601024; omega), (by show _ ≤ 7293034; omega)⟩ (fun _ z => z.elim) (fun r1 u1 hq => ?_)
    subst hq
    refine fw_istore (pc := 507) (lv' := [(6, .int (m_arr_v F G u x)), (5, .int (b_arr_k n cf cg u x)), (0, .ref b), (1, .ref (ba 6)), (2, .ref (a 0)), (3, .ref oa), (4, .int (nI i))]) X dL_law_507 (by decide) rfl ?_
    refine fw_aload_n (pc := 509) X dL_law_509 rfl 4 rfl ?_
    refine fw_callVR (pc := 510) (n := 0) (C := (RX2, TX2, 21)) (ci := 2) (q0 := 0) X hE [] (ct_X2_thrown) (fun _ => rfl) gL_law_X2_thrown rfl ⟨rfl, rfl⟩ ⟨rfl, dsc_X2_thrown⟩ ⟨(Nat.le_of_ble_eq_true rfl), (Nat.le_of_ble_eq_true rfl)⟩ rfl M_obj rfl rfl (Nat.le_of_ble_eq_true rfl) dL_law_510 ⟨(by show _ ≤ 601024; omega), (by show _ ≤ 7293034; omega)⟩ (fun _ z => z.elim) (fun r2 u2 hq => ?_)
    subst hq
    refine fw_iload (pc := 513) X dL_law_513 1 rfl ?_
    refine fw_icmp_eq (pc := 515) (tgt := 520) X dL_law_515 (by decide) (fun _ => ?_) (fun q => absurd hsk q)
    refine fw_iload (pc := 520) X dL_law_520 1 rfl ?_
    refine fw_if_ne (pc := 522) (tgt := 544) X dL_law_522 (by decide) (fun q => absurd hk q) (fun _ => ?_)
    refine fw_aload_n (pc := 525) X dL_law_525 rfl 5 rfl ?_
    refine fw_iconst (pc := 526) (v := 0) X dL_law_526 (by decide) ?_
    refine fw_lald (pc := 527) (n := 1) (cA := K 2) (f := vp_updL o 0 (b2i (b_must (upd bf 7 (bf 7 + 1)) bg (b_arr_f bf cf (ix u) x) cg (ix u) = true)).toInt64) X 17 2 rfl rfl 0 (show (0 : Int32) = nI 0 from rfl) (by decide) (by decide) dL_law_527 ?_
    refine fw_iload (pc := 528) X dL_law_528 0 rfl ?_
    refine fw_iv (hs0 hk).1 ?_
    have hfin : fw_W p l e room_1 s m args below meth c D A 7 Q (MW K a (m_arr_F F G u x) (m_arr_G F G u x) ++ (OW K oa (vp_updL o 0 (b2i (b_must (upd bf 7 (bf 7 + 1)) bg (b_arr_f bf cf (ix u) x) cg (ix u) = true)).toInt64) ++ BW K ba (upd bf 7 (bf 7 + 1)) bg n ca (b_arr_f bf cf (ix u) x) cg)) (cells + 3 + 0 + 0) (slots + 18 + 0 + 0) [(6, .int (m_arr_v F G u x)), (5, .int (b_arr_k n cf cg u x)), (0, .ref b), (1, .ref (ba 6)), (2, .ref (a 0)), (3, .ref oa), (4, .int (nI i))] 544 [] := by
      refine fw_goto (pc := 544) (tgt := 1406) X dL_law_544 (by decide) ?_
      refine fw_pm (ws' := (OW K oa (vp_updL o 0 (b2i (b_must (upd bf 7 (bf 7 + 1)) bg (b_arr_f bf cf (ix u) x) cg (ix u) = true)).toInt64) ++ BW K ba (upd bf 7 (bf 7 + 1)) bg n ca (b_arr_f bf cf (ix u) x) cg) ++ MW K a (m_arr_F F G u x) (m_arr_G F G u x)) List.perm_append_comm ?_
      refine fw_lv (lv' := [(0, .ref b), (1, .ref (ba 6)), (2, .ref (a 0)), (3, .ref oa), (4, .int (nI i))]) [2, 3, 4, 5, 6] rfl ?_
      refine fw_wd (k := cells + 20) (n := slots + 200) (by omega) (by omega) ?_
      exact kk _ _ _ _ _ _ _ _ _ (hs0 hk).2
    by_cases hb : b_must (upd bf 7 (bf 7 + 1)) bg (b_arr_f bf cf (ix u) x) cg (ix u) = true
    · refine fw_iv (y := 1) (if_pos hb) ?_
      refine fw_if_eq (pc := 530) (tgt := 537) X dL_law_530 (by decide) (fun q => absurd q (by decide)) (fun _ => ?_)
      refine fw_lconst (pc := 533) (v := 1) X dL_law_533 (by decide) ?_
      refine fw_goto (pc := 534) (tgt := 538) X dL_law_534 (by decide) ?_
      refine fw_lcmp (pc := 538) X dL_law_538 ?_
      refine fw_iv (y := 0) (by rw [show vp_updL o 0 (b2i (b_must (upd bf 7 (bf 7 + 1)) bg (b_arr_f bf cf (ix u) x) cg (ix u) = true)).toInt64 0 = 1 from (show (b2i (b_must (upd bf 7 (bf 7 + 1)) bg (b_arr_f bf cf (ix u) x) cg (ix u) = true)).toInt64 = 1 from by rw [b2i, if_pos hb]; rfl), lg_cmp_self]) ?_
      refine fw_if_eq (pc := 539) (tgt := 544) X dL_law_539 (by decide) (fun _ => ?_) (fun q => absurd rfl q)
      exact hfin
    · refine fw_iv (y := 0) (if_neg hb) ?_
      refine fw_if_eq (pc := 530) (tgt := 537) X dL_law_530 (by decide) (fun _ => ?_) (fun q => absurd rfl q)
      refine fw_lconst (pc := 537) (v := 0) X dL_law_537 (by decide) ?_
      refine fw_lcmp (pc := 538) X dL_law_538 ?_
      refine fw_iv (y := 0) (by rw [show vp_updL o 0 (b2i (b_must (upd bf 7 (bf 7 + 1)) bg (b_arr_f bf cf (ix u) x) cg (ix u) = true)).toInt64 0 = 0 from (show (b2i (b_must (upd bf 7 (bf 7 + 1)) bg (b_arr_f bf cf (ix u) x) cg (ix u) = true)).toInt64 = 0 from by rw [b2i, if_neg hb]; rfl), lg_cmp_self]) ?_
      refine fw_if_eq (pc := 539) (tgt := 544) X dL_law_539 (by decide) (fun _ => ?_) (fun q => absurd rfl q)
      exact hfin
  · refine fw_ws (ws' := (OW K oa o ++ BW K ba bf bg n ca cf cg) ++ MW K a F G) (by rw [if_neg hk]) ?_
    refine fw_pm (ws' := MW K a F G ++ (OW K oa o ++ BW K ba bf bg n ca cf cg)) List.perm_append_comm ?_
    refine fw_aload_n (pc := 491) X dL_law_491 rfl 3 rfl ?_
    refine fw_aload_n (pc := 492) X dL_law_492 rfl 1 rfl ?_
    refine fw_iload (pc := 493) X dL_law_493 5 rfl ?_
    refine fw_iconst (pc := 495) (v := 1) X dL_law_495 (by decide) ?_
    refine fw_iadd (pc := 496) X dL_law_496 ?_
    refine fw_sld (pc := 497) X hX hbl hbA (i + 1) (nf_add rfl (show (1 : Int32) = nI 1 from rfl)) (by omega) (by omega) hu dL_law_497 ?_
    refine fw_aload_n (pc := 498) X dL_law_498 rfl 1 rfl ?_
    refine fw_iload (pc := 499) X dL_law_499 5 rfl ?_
    refine fw_iconst (pc := 501) (v := 2) X dL_law_501 (by decide) ?_
    refine fw_iadd (pc := 502) X dL_law_502 ?_
    refine fw_sld (pc := 503) X hX hbl hbA (i + 2) (nf_add rfl (show (2 : Int32) = nI 2 from rfl)) (by omega) (by omega) hx dL_law_503 ?_
    refine fw_callVR (pc := 504) (n := 2) (C := (RX2, TX2, 21)) (ci := 2) (q0 := 0) X hE [.int u, .int x] (ct_X2_arrive u x h.2.2.1 h.1) (fun _ => rfl) gL_law_X2_arrive rfl ⟨rfl, rfl⟩ ⟨rfl, dsc_X2_arrive⟩ ⟨(Nat.le_of_ble_eq_true rfl), (Nat.le_of_ble_eq_true rfl)⟩ rfl M_obj rfl rfl (Nat.le_of_ble_eq_true rfl) dL_law_504 ⟨(by show _ ≤ 601024; omega), (by show _ ≤ 7293034; omega)⟩ (fun _ z => z.elim) (fun r1 u1 hq => ?_)
    subst hq
    refine fw_istore (pc := 507) (lv' := [(6, .int (m_arr_v F G u x)), (5, .int (b_arr_k n cf cg u x)), (0, .ref b), (1, .ref (ba 6)), (2, .ref (a 0)), (3, .ref oa), (4, .int (nI i))]) X dL_law_507 (by decide) rfl ?_
    refine fw_aload_n (pc := 509) X dL_law_509 rfl 4 rfl ?_
    refine fw_callVR (pc := 510) (n := 0) (C := (RX2, TX2, 21)) (ci := 2) (q0 := 0) X hE [] (ct_X2_thrown) (fun _ => rfl) gL_law_X2_thrown rfl ⟨rfl, rfl⟩ ⟨rfl, dsc_X2_thrown⟩ ⟨(Nat.le_of_ble_eq_true rfl), (Nat.le_of_ble_eq_true rfl)⟩ rfl M_obj rfl rfl (Nat.le_of_ble_eq_true rfl) dL_law_510 ⟨(by show _ ≤ 601024; omega), (by show _ ≤ 7293034; omega)⟩ (fun _ z => z.elim) (fun r2 u2 hq => ?_)
    subst hq
    refine fw_iload (pc := 513) X dL_law_513 1 rfl ?_
    refine fw_icmp_eq (pc := 515) (tgt := 520) X dL_law_515 (by decide) (fun _ => ?_) (fun q => absurd hsk q)
    refine fw_iload (pc := 520) X dL_law_520 1 rfl ?_
    refine fw_if_ne (pc := 522) (tgt := 544) X dL_law_522 (by decide) (fun _ => ?_) (fun q => absurd q hk)
    refine fw_goto (pc := 544) (tgt := 1406) X dL_law_544 (by decide) ?_
    refine fw_pm (ws' := (OW K oa o ++ BW K ba bf bg n ca cf cg) ++ MW K a (m_arr_F F G u x) (m_arr_G F G u x)) List.perm_append_comm ?_
    refine fw_lv (lv' := [(0, .ref b), (1, .ref (ba 6)), (2, .ref (a 0)), (3, .ref oa), (4, .int (nI i))]) [2, 3, 4, 5, 6] rfl ?_
    refine fw_wd (k := cells + 20) (n := slots + 200) (by omega) (by omega) ?_
    exact kk _ _ _ _ _ _ _ _ _ (hs1 hk)
set_option maxHeartbeats 4000000 in
set_option maxRecDepth 100000 in
theorem lc_risk {p : Program} {l : Launch} {e : Env} {s : State} {m : MethodId} {args : Array Value} {below : List Frame} {meth : Method} {c : Code} {D : va_G} {A : Nat → Prop} {Q : State → Prop} {cells slots : Nat} {K : Nat → ClassId} {ba : Nat → Nat} {oa : Nat} {a : Nat → Nat} {o : Nat → Int64} {b L : Nat} {xs : Nat → Int32} {T n : Nat} {bf : Nat → Int32} {bg : Nat → Nat → Int32} {ca : Nat → Nat → Nat} {cf : Nat → Nat → Int32} {cg : Nat → Nat → Nat → Int32} {F : Nat → Int32} {G : Nat → Nat → Int32} (X : fw_X p s m args c D A 7 cL_law RL wsL_law (tyS K)) (hE : fw_E true A s) (hl : l.stackTraces = false) (hX : va_X b L xs s s.heap) (hbl : b < s.heap.size) (hbA : ¬ A b) (h : Rel T bf bg n cf cg F G) (hT : T ≤ 600) (i : Nat) (hi : i + 6 ≤ L) (hL : L ≤ 3072) (hc : cells ≤ 500000) (hs : slots ≤ 7000000) (u : Int32) (hu : xs (i + 1) = u) (kk : ∀ (bf2 : Nat → Int32) (bg2 : Nat → Nat → Int32) (n2 : Nat) (ca2 : Nat → Nat → Nat) (cf2 : Nat → Nat → Int32) (cg2 : Nat → Nat → Nat → Int32) (F2 : Nat → Int32) (G2 : Nat → Nat → Int32) (o2 : Nat → Int64), Rel (T + 1) bf2 bg2 n2 cf2 cg2 F2 G2 → fw_W p l e room_1 s m args below meth c D A 7 Q (LWW K ba oa a bf2 bg2 n2 ca2 cf2 cg2 F2 G2 o2) (cells + 20) (slots + 200) [(0, .ref b), (1, .ref (ba 6)), (2, .ref (a 0)), (3, .ref oa), (4, .int (nI i))] 1406 []) : fw_W p l e room_1 s m args below meth c D A 7 Q (LWW K ba oa a bf bg n ca cf cg F G o) cells slots [(0, .ref b), (1, .ref (ba 6)), (2, .ref (a 0)), (3, .ref oa), (4, .int (nI i))] 547 [] := by
  obtain ⟨hsk, hs0, hs1⟩ := sim_risk h hT u
  refine fw_aload_n (pc := 547) X dL_law_547 rfl 1 rfl ?_
  refine fw_aload_n (pc := 548) X dL_law_548 rfl 0 rfl ?_
  refine fw_iload (pc := 549) X dL_law_549 4 rfl ?_
  refine fw_iconst (pc := 551) (v := 1) X dL_law_551 (by decide) ?_
  refine fw_iadd (pc := 552) X dL_law_552 ?_
  refine fw_sld (pc := 553) X hX hbl hbA (i + 1) (nf_add rfl (show (1 : Int32) = nI 1 from rfl)) (by omega) (by omega) hu dL_law_553 ?_
  refine fw_aload_n (pc := 554) X dL_law_554 rfl 3 rfl ?_
  refine fw_ws (ws' := (OW K oa o ++ BW K ba bf bg n ca cf cg) ++ MW K a F G) rfl ?_
  refine fw_callHR (pc := 555) (n := 3) X hE [.ref (ba 6), .int u, .ref oa] (ct_L_risk hl u h.1) (fun z => z) gL_law_L_risk rfl ⟨rfl, rfl⟩ dsc_L_risk ⟨(Nat.le_of_ble_eq_true rfl), (Nat.le_of_ble_eq_true rfl)⟩ rfl rfl (Nat.le_of_ble_eq_true rfl) dL_law_555 ⟨(by show _ ≤ 601024; omega), (by show _ ≤ 7293034; omega)⟩ (fun _ z => z.elim) (fun r0 u0 hq => ?_)
  subst hq
  refine fw_istore (pc := 558) (lv' := [(5, .int (b_rsk_k n cf u)), (0, .ref b), (1, .ref (ba 6)), (2, .ref (a 0)), (3, .ref oa), (4, .int (nI i))]) X dL_law_558 (by decide) rfl ?_
  by_cases hk : b_rsk_k n cf u = 0
  · refine fw_ws (ws' := (OW K oa (vp_updL o 0 (b_risk bg cf cg (ix u)).toInt64) ++ BW K ba bf bg n ca cf cg) ++ MW K a F G) (by rw [if_pos hk]) ?_
    refine fw_pm (ws' := MW K a F G ++ (OW K oa (vp_updL o 0 (b_risk bg cf cg (ix u)).toInt64) ++ BW K ba bf bg n ca cf cg)) List.perm_append_comm ?_
    refine fw_aload_n (pc := 560) X dL_law_560 rfl 3 rfl ?_
    refine fw_aload_n (pc := 561) X dL_law_561 rfl 1 rfl ?_
    refine fw_iload (pc := 562) X dL_law_562 5 rfl ?_
    refine fw_iconst (pc := 564) (v := 1) X dL_law_564 (by decide) ?_
    refine fw_iadd (pc := 565) X dL_law_565 ?_
    refine fw_sld (pc := 566) X hX hbl hbA (i + 1) (nf_add rfl (show (1 : Int32) = nI 1 from rfl)) (by omega) (by omega) hu dL_law_566 ?_
    refine fw_callVR (pc := 567) (n := 1) (C := (RX2, TX2, 21)) (ci := 2) (q0 := 0) X hE [.int u] (ct_X2_risk u h.2.2.1 h.1) (fun _ => rfl) gL_law_X2_risk rfl ⟨rfl, rfl⟩ ⟨rfl, dsc_X2_risk⟩ ⟨(Nat.le_of_ble_eq_true rfl), (Nat.le_of_ble_eq_true rfl)⟩ rfl M_obj rfl rfl (Nat.le_of_ble_eq_true rfl) dL_law_567 ⟨(by show _ ≤ 601024; omega), (by show _ ≤ 7293034; omega)⟩ (fun _ z => z.elim) (fun r1 u1 hq => ?_)
    subst hq
    refine fw_istore (pc := 570) (lv' := [(6, .int (m_rsk_v F G u)), (5, .int (b_rsk_k n cf u)), (0, .ref b), (1, .ref (ba 6)), (2, .ref (a 0)), (3, .ref oa), (4, .int (nI i))]) X dL_law_570 (by decide) rfl ?_
    refine fw_aload_n (pc := 572) X dL_law_572 rfl 4 rfl ?_
    refine fw_callVR (pc := 573) (n := 0) (C := (RX2, TX2, 21)) (ci := 2) (q0 := 0) X hE [] (ct_X2_thrown) (fun _ => rfl) gL_law_X2_thrown rfl ⟨rfl, rfl⟩ ⟨rfl, dsc_X2_thrown⟩ ⟨(Nat.le_of_ble_eq_true rfl), (Nat.le_of_ble_eq_true rfl)⟩ rfl M_obj rfl rfl (Nat.le_of_ble_eq_true rfl) dL_law_573 ⟨(by show _ ≤ 601024; omega), (by show _ ≤ 7293034; omega)⟩ (fun _ z => z.elim) (fun r2 u2 hq => ?_)
    subst hq
    refine fw_iload (pc := 576) X dL_law_576 1 rfl ?_
    refine fw_icmp_eq (pc := 578) (tgt := 583) X dL_law_578 (by decide) (fun _ => ?_) (fun q => absurd hsk q)
    refine fw_iload (pc := 583) X dL_law_583 1 rfl ?_
    refine fw_if_ne (pc := 585) (tgt := 600) X dL_law_585 (by decide) (fun q => absurd hk q) (fun _ => ?_)
    refine fw_aload_n (pc := 588) X dL_law_588 rfl 5 rfl ?_
    refine fw_iconst (pc := 589) (v := 0) X dL_law_589 (by decide) ?_
    refine fw_lald (pc := 590) (n := 1) (cA := K 2) (f := vp_updL o 0 (b_risk bg cf cg (ix u)).toInt64) X 17 2 rfl rfl 0 (show (0 : Int32) = nI 0 from rfl) (by decide) (by decide) dL_law_590 ?_
    refine fw_iload (pc := 591) X dL_law_591 0 rfl ?_
    refine fw_iv (hs0 hk).1 ?_
    refine fw_i2l (pc := 593) (v := (b_risk bg cf cg (ix u)).toInt64) X dL_law_593 rfl ?_
    refine fw_lcmp (pc := 594) X dL_law_594 ?_
    refine fw_iv (y := 0) (by rw [show vp_updL o 0 (b_risk bg cf cg (ix u)).toInt64 0 = (b_risk bg cf cg (ix u)).toInt64 from rfl, lg_cmp_self]) ?_
    refine fw_if_eq (pc := 595) (tgt := 600) X dL_law_595 (by decide) (fun _ => ?_) (fun q => absurd rfl q)
    refine fw_goto (pc := 600) (tgt := 1406) X dL_law_600 (by decide) ?_
    refine fw_pm (ws' := (OW K oa (vp_updL o 0 (b_risk bg cf cg (ix u)).toInt64) ++ BW K ba bf bg n ca cf cg) ++ MW K a (upd F 0 (m_rsk_k F G u)) G) List.perm_append_comm ?_
    refine fw_lv (lv' := [(0, .ref b), (1, .ref (ba 6)), (2, .ref (a 0)), (3, .ref oa), (4, .int (nI i))]) [2, 3, 4, 5, 6] rfl ?_
    refine fw_wd (k := cells + 20) (n := slots + 200) (by omega) (by omega) ?_
    exact kk _ _ _ _ _ _ _ _ _ (hs0 hk).2
  · refine fw_ws (ws' := (OW K oa o ++ BW K ba bf bg n ca cf cg) ++ MW K a F G) (by rw [if_neg hk]) ?_
    refine fw_pm (ws' := MW K a F G ++ (OW K oa o ++ BW K ba bf bg n ca cf cg)) List.perm_append_comm ?_
    refine fw_aload_n (pc := 560) X dL_law_560 rfl 3 rfl ?_
    refine fw_aload_n (pc := 561) X dL_law_561 rfl 1 rfl ?_
    refine fw_iload (pc := 562) X dL_law_562 5 rfl ?_
    refine fw_iconst (pc := 564) (v := 1) X dL_law_564 (by decide) ?_
    refine fw_iadd (pc := 565) X dL_law_565 ?_
    refine fw_sld (pc := 566) X hX hbl hbA (i + 1) (nf_add rfl (show (1 : Int32) = nI 1 from rfl)) (by omega) (by omega) hu dL_law_566 ?_
    refine fw_callVR (pc := 567) (n := 1) (C := (RX2, TX2, 21)) (ci := 2) (q0 := 0) X hE [.int u] (ct_X2_risk u h.2.2.1 h.1) (fun _ => rfl) gL_law_X2_risk rfl ⟨rfl, rfl⟩ ⟨rfl, dsc_X2_risk⟩ ⟨(Nat.le_of_ble_eq_true rfl), (Nat.le_of_ble_eq_true rfl)⟩ rfl M_obj rfl rfl (Nat.le_of_ble_eq_true rfl) dL_law_567 ⟨(by show _ ≤ 601024; omega), (by show _ ≤ 7293034; omega)⟩ (fun _ z => z.elim) (fun r1 u1 hq => ?_)
    subst hq
    refine fw_istore (pc := 570) (lv' := [(6, .int (m_rsk_v F G u)), (5, .int (b_rsk_k n cf u)), (0, .ref b), (1, .ref (ba 6)), (2, .ref (a 0)), (3, .ref oa), (4, .int (nI i))]) X dL_law_570 (by decide) rfl ?_
    refine fw_aload_n (pc := 572) X dL_law_572 rfl 4 rfl ?_
    refine fw_callVR (pc := 573) (n := 0) (C := (RX2, TX2, 21)) (ci := 2) (q0 := 0) X hE [] (ct_X2_thrown) (fun _ => rfl) gL_law_X2_thrown rfl ⟨rfl, rfl⟩ ⟨rfl, dsc_X2_thrown⟩ ⟨(Nat.le_of_ble_eq_true rfl), (Nat.le_of_ble_eq_true rfl)⟩ rfl M_obj rfl rfl (Nat.le_of_ble_eq_true rfl) dL_law_573 ⟨(by show _ ≤ 601024; omega), (by show _ ≤ 7293034; omega)⟩ (fun _ z => z.elim) (fun r2 u2 hq => ?_)
    subst hq
    refine fw_iload (pc := 576) X dL_law_576 1 rfl ?_
    refine fw_icmp_eq (pc := 578) (tgt := 583) X dL_law_578 (by decide) (fun _ => ?_) (fun q => absurd hsk q)
    refine fw_iload (pc := 583) X dL_law_583 1 rfl ?_
    refine fw_if_ne (pc := 585) (tgt := 600) X dL_law_585 (by decide) (fun _ => ?_) (fun q => absurd q hk)
    refine fw_goto (pc := 600) (tgt := 1406) X dL_law_600 (by decide) ?_
    refine fw_pm (ws' := (OW K oa o ++ BW K ba bf bg n ca cf cg) ++ MW K a (upd F 0 (m_rsk_k F G u)) G) List.perm_append_comm ?_
    refine fw_lv (lv' := [(0, .ref b), (1, .ref (ba 6)), (2, .ref (a 0)), (3, .ref oa), (4, .int (nI i))]) [2, 3, 4, 5, 6] rfl ?_
    refine fw_wd (k := cells + 20) (n := slots + 200) (by omega) (by omega) ?_
    exact kk _ _ _ _ _ _ _ _ _ (hs1 hk)
set_option maxHeartbeats 4000000 in
set_option maxRecDepth 100000 in
theorem lc_mustSearch {p : Program} {l : Launch} {e : Env} {s : State} {m : MethodId} {args : Array Value} {below : List Frame} {meth : Method} {c : Code} {D : va_G} {A : Nat → Prop} {Q : State → Prop} {cells slots : Nat} {K : Nat → ClassId} {ba : Nat → Nat} {oa : Nat} {a : Nat → Nat} {o : Nat → Int64} {b L : Nat} {xs : Nat → Int32} {T n : Nat} {bf : Nat → Int32} {bg : Nat → Nat → Int32} {ca : Nat → Nat → Nat} {cf : Nat → Nat → Int32} {cg : Nat → Nat → Nat → Int32} {F : Nat → Int32} {G : Nat → Nat → Int32} (X : fw_X p s m args c D A 7 cL_law RL wsL_law (tyS K)) (hE : fw_E true A s) (hl : l.stackTraces = false) (hX : va_X b L xs s s.heap) (hbl : b < s.heap.size) (hbA : ¬ A b) (h : Rel T bf bg n cf cg F G) (hT : T ≤ 600) (i : Nat) (hi : i + 6 ≤ L) (hL : L ≤ 3072) (hc : cells ≤ 500000) (hs : slots ≤ 7000000) (u : Int32) (hu : xs (i + 1) = u) (kk : ∀ (bf2 : Nat → Int32) (bg2 : Nat → Nat → Int32) (n2 : Nat) (ca2 : Nat → Nat → Nat) (cf2 : Nat → Nat → Int32) (cg2 : Nat → Nat → Nat → Int32) (F2 : Nat → Int32) (G2 : Nat → Nat → Int32) (o2 : Nat → Int64), Rel (T + 1) bf2 bg2 n2 cf2 cg2 F2 G2 → fw_W p l e room_1 s m args below meth c D A 7 Q (LWW K ba oa a bf2 bg2 n2 ca2 cf2 cg2 F2 G2 o2) (cells + 20) (slots + 200) [(0, .ref b), (1, .ref (ba 6)), (2, .ref (a 0)), (3, .ref oa), (4, .int (nI i))] 1406 []) : fw_W p l e room_1 s m args below meth c D A 7 Q (LWW K ba oa a bf bg n ca cf cg F G o) cells slots [(0, .ref b), (1, .ref (ba 6)), (2, .ref (a 0)), (3, .ref oa), (4, .int (nI i))] 603 [] := by
  obtain ⟨hsk, hs0, hs1⟩ := sim_mustSearch h hT u
  refine fw_aload_n (pc := 603) X dL_law_603 rfl 1 rfl ?_
  refine fw_aload_n (pc := 604) X dL_law_604 rfl 0 rfl ?_
  refine fw_iload (pc := 605) X dL_law_605 4 rfl ?_
  refine fw_iconst (pc := 607) (v := 1) X dL_law_607 (by decide) ?_
  refine fw_iadd (pc := 608) X dL_law_608 ?_
  refine fw_sld (pc := 609) X hX hbl hbA (i + 1) (nf_add rfl (show (1 : Int32) = nI 1 from rfl)) (by omega) (by omega) hu dL_law_609 ?_
  refine fw_aload_n (pc := 610) X dL_law_610 rfl 3 rfl ?_
  refine fw_ws (ws' := (OW K oa o ++ BW K ba bf bg n ca cf cg) ++ MW K a F G) rfl ?_
  refine fw_callHR (pc := 611) (n := 3) X hE [.ref (ba 6), .int u, .ref oa] (ct_L_mustSearch hl u h.1) (fun z => z) gL_law_L_mustSearch rfl ⟨rfl, rfl⟩ dsc_L_mustSearch ⟨(Nat.le_of_ble_eq_true rfl), (Nat.le_of_ble_eq_true rfl)⟩ rfl rfl (Nat.le_of_ble_eq_true rfl) dL_law_611 ⟨(by show _ ≤ 601024; omega), (by show _ ≤ 7293034; omega)⟩ (fun _ z => z.elim) (fun r0 u0 hq => ?_)
  subst hq
  refine fw_istore (pc := 614) (lv' := [(5, .int (b_c_k n u)), (0, .ref b), (1, .ref (ba 6)), (2, .ref (a 0)), (3, .ref oa), (4, .int (nI i))]) X dL_law_614 (by decide) rfl ?_
  by_cases hk : b_c_k n u = 0
  · refine fw_ws (ws' := (OW K oa (vp_updL o 0 (b2i (b_must bf bg cf cg (ix u) = true)).toInt64) ++ BW K ba bf bg n ca cf cg) ++ MW K a F G) (by rw [if_pos hk]) ?_
    refine fw_pm (ws' := MW K a F G ++ (OW K oa (vp_updL o 0 (b2i (b_must bf bg cf cg (ix u) = true)).toInt64) ++ BW K ba bf bg n ca cf cg)) List.perm_append_comm ?_
    refine fw_aload_n (pc := 616) X dL_law_616 rfl 3 rfl ?_
    refine fw_aload_n (pc := 617) X dL_law_617 rfl 1 rfl ?_
    refine fw_iload (pc := 618) X dL_law_618 5 rfl ?_
    refine fw_iconst (pc := 620) (v := 1) X dL_law_620 (by decide) ?_
    refine fw_iadd (pc := 621) X dL_law_621 ?_
    refine fw_sld (pc := 622) X hX hbl hbA (i + 1) (nf_add rfl (show (1 : Int32) = nI 1 from rfl)) (by omega) (by omega) hu dL_law_622 ?_
    refine fw_callVR (pc := 623) (n := 1) (C := (RX2, TX2, 21)) (ci := 2) (q0 := 0) X hE [.int u] (ct_X2_mustSearch u h.2.2.1 h.1) (fun _ => rfl) gL_law_X2_mustSearch rfl ⟨rfl, rfl⟩ ⟨rfl, dsc_X2_mustSearch⟩ ⟨(Nat.le_of_ble_eq_true rfl), (Nat.le_of_ble_eq_true rfl)⟩ rfl M_obj rfl rfl (Nat.le_of_ble_eq_true rfl) dL_law_623 ⟨(by show _ ≤ 601024; omega), (by show _ ≤ 7293034; omega)⟩ (fun _ z => z.elim) (fun r1 u1 hq => ?_)
    subst hq
    refine fw_istore (pc := 626) (lv' := [(6, .int (m_mus_v F G u)), (5, .int (b_c_k n u)), (0, .ref b), (1, .ref (ba 6)), (2, .ref (a 0)), (3, .ref oa), (4, .int (nI i))]) X dL_law_626 (by decide) rfl ?_
    refine fw_aload_n (pc := 628) X dL_law_628 rfl 4 rfl ?_
    refine fw_callVR (pc := 629) (n := 0) (C := (RX2, TX2, 21)) (ci := 2) (q0 := 0) X hE [] (ct_X2_thrown) (fun _ => rfl) gL_law_X2_thrown rfl ⟨rfl, rfl⟩ ⟨rfl, dsc_X2_thrown⟩ ⟨(Nat.le_of_ble_eq_true rfl), (Nat.le_of_ble_eq_true rfl)⟩ rfl M_obj rfl rfl (Nat.le_of_ble_eq_true rfl) dL_law_629 ⟨(by show _ ≤ 601024; omega), (by show _ ≤ 7293034; omega)⟩ (fun _ z => z.elim) (fun r2 u2 hq => ?_)
    subst hq
    refine fw_iload (pc := 632) X dL_law_632 1 rfl ?_
    refine fw_icmp_eq (pc := 634) (tgt := 639) X dL_law_634 (by decide) (fun _ => ?_) (fun q => absurd hsk q)
    refine fw_iload (pc := 639) X dL_law_639 1 rfl ?_
    refine fw_if_ne (pc := 641) (tgt := 663) X dL_law_641 (by decide) (fun q => absurd hk q) (fun _ => ?_)
    refine fw_aload_n (pc := 644) X dL_law_644 rfl 5 rfl ?_
    refine fw_iconst (pc := 645) (v := 0) X dL_law_645 (by decide) ?_
    refine fw_lald (pc := 646) (n := 1) (cA := K 2) (f := vp_updL o 0 (b2i (b_must bf bg cf cg (ix u) = true)).toInt64) X 17 2 rfl rfl 0 (show (0 : Int32) = nI 0 from rfl) (by decide) (by decide) dL_law_646 ?_
    refine fw_iload (pc := 647) X dL_law_647 0 rfl ?_
    refine fw_iv (hs0 hk).1 ?_
    have hfin : fw_W p l e room_1 s m args below meth c D A 7 Q (MW K a (upd F 0 (m_c_k F u)) G ++ (OW K oa (vp_updL o 0 (b2i (b_must bf bg cf cg (ix u) = true)).toInt64) ++ BW K ba bf bg n ca cf cg)) (cells + 1 + 0 + 0) (slots + 6 + 0 + 0) [(6, .int (m_mus_v F G u)), (5, .int (b_c_k n u)), (0, .ref b), (1, .ref (ba 6)), (2, .ref (a 0)), (3, .ref oa), (4, .int (nI i))] 663 [] := by
      refine fw_goto (pc := 663) (tgt := 1406) X dL_law_663 (by decide) ?_
      refine fw_pm (ws' := (OW K oa (vp_updL o 0 (b2i (b_must bf bg cf cg (ix u) = true)).toInt64) ++ BW K ba bf bg n ca cf cg) ++ MW K a (upd F 0 (m_c_k F u)) G) List.perm_append_comm ?_
      refine fw_lv (lv' := [(0, .ref b), (1, .ref (ba 6)), (2, .ref (a 0)), (3, .ref oa), (4, .int (nI i))]) [2, 3, 4, 5, 6] rfl ?_
      refine fw_wd (k := cells + 20) (n := slots + 200) (by omega) (by omega) ?_
      exact kk _ _ _ _ _ _ _ _ _ (hs0 hk).2
    by_cases hb : b_must bf bg cf cg (ix u) = true
    · refine fw_iv (y := 1) (if_pos hb) ?_
      refine fw_if_eq (pc := 649) (tgt := 656) X dL_law_649 (by decide) (fun q => absurd q (by decide)) (fun _ => ?_)
      refine fw_lconst (pc := 652) (v := 1) X dL_law_652 (by decide) ?_
      refine fw_goto (pc := 653) (tgt := 657) X dL_law_653 (by decide) ?_
      refine fw_lcmp (pc := 657) X dL_law_657 ?_
      refine fw_iv (y := 0) (by rw [show vp_updL o 0 (b2i (b_must bf bg cf cg (ix u) = true)).toInt64 0 = 1 from (show (b2i (b_must bf bg cf cg (ix u) = true)).toInt64 = 1 from by rw [b2i, if_pos hb]; rfl), lg_cmp_self]) ?_
      refine fw_if_eq (pc := 658) (tgt := 663) X dL_law_658 (by decide) (fun _ => ?_) (fun q => absurd rfl q)
      exact hfin
    · refine fw_iv (y := 0) (if_neg hb) ?_
      refine fw_if_eq (pc := 649) (tgt := 656) X dL_law_649 (by decide) (fun _ => ?_) (fun q => absurd rfl q)
      refine fw_lconst (pc := 656) (v := 0) X dL_law_656 (by decide) ?_
      refine fw_lcmp (pc := 657) X dL_law_657 ?_
      refine fw_iv (y := 0) (by rw [show vp_updL o 0 (b2i (b_must bf bg cf cg (ix u) = true)).toInt64 0 = 0 from (show (b2i (b_must bf bg cf cg (ix u) = true)).toInt64 = 0 from by rw [b2i, if_neg hb]; rfl), lg_cmp_self]) ?_
      refine fw_if_eq (pc := 658) (tgt := 663) X dL_law_658 (by decide) (fun _ => ?_) (fun q => absurd rfl q)
      exact hfin
  · refine fw_ws (ws' := (OW K oa o ++ BW K ba bf bg n ca cf cg) ++ MW K a F G) (by rw [if_neg hk]) ?_
    refine fw_pm (ws' := MW K a F G ++ (OW K oa o ++ BW K ba bf bg n ca cf cg)) List.perm_append_comm ?_
    refine fw_aload_n (pc := 616) X dL_law_616 rfl 3 rfl ?_
    refine fw_aload_n (pc := 617) X dL_law_617 rfl 1 rfl ?_
    refine fw_iload (pc := 618) X dL_law_618 5 rfl ?_
    refine fw_iconst (pc := 620) (v := 1) X dL_law_620 (by decide) ?_
    refine fw_iadd (pc := 621) X dL_law_621 ?_
    refine fw_sld (pc := 622) X hX hbl hbA (i + 1) (nf_add rfl (show (1 : Int32) = nI 1 from rfl)) (by omega) (by omega) hu dL_law_622 ?_
    refine fw_callVR (pc := 623) (n := 1) (C := (RX2, TX2, 21)) (ci := 2) (q0 := 0) X hE [.int u] (ct_X2_mustSearch u h.2.2.1 h.1) (fun _ => rfl) gL_law_X2_mustSearch rfl ⟨rfl, rfl⟩ ⟨rfl, dsc_X2_mustSearch⟩ ⟨(Nat.le_of_ble_eq_true rfl), (Nat.le_of_ble_eq_true rfl)⟩ rfl M_obj rfl rfl (Nat.le_of_ble_eq_true rfl) dL_law_623 ⟨(by show _ ≤ 601024; omega), (by show _ ≤ 7293034; omega)⟩ (fun _ z => z.elim) (fun r1 u1 hq => ?_)
    subst hq
    refine fw_istore (pc := 626) (lv' := [(6, .int (m_mus_v F G u)), (5, .int (b_c_k n u)), (0, .ref b), (1, .ref (ba 6)), (2, .ref (a 0)), (3, .ref oa), (4, .int (nI i))]) X dL_law_626 (by decide) rfl ?_
    refine fw_aload_n (pc := 628) X dL_law_628 rfl 4 rfl ?_
    refine fw_callVR (pc := 629) (n := 0) (C := (RX2, TX2, 21)) (ci := 2) (q0 := 0) X hE [] (ct_X2_thrown) (fun _ => rfl) gL_law_X2_thrown rfl ⟨rfl, rfl⟩ ⟨rfl, dsc_X2_thrown⟩ ⟨(Nat.le_of_ble_eq_true rfl), (Nat.le_of_ble_eq_true rfl)⟩ rfl M_obj rfl rfl (Nat.le_of_ble_eq_true rfl) dL_law_629 ⟨(by show _ ≤ 601024; omega), (by show _ ≤ 7293034; omega)⟩ (fun _ z => z.elim) (fun r2 u2 hq => ?_)
    subst hq
    refine fw_iload (pc := 632) X dL_law_632 1 rfl ?_
    refine fw_icmp_eq (pc := 634) (tgt := 639) X dL_law_634 (by decide) (fun _ => ?_) (fun q => absurd hsk q)
    refine fw_iload (pc := 639) X dL_law_639 1 rfl ?_
    refine fw_if_ne (pc := 641) (tgt := 663) X dL_law_641 (by decide) (fun _ => ?_) (fun q => absurd q hk)
    refine fw_goto (pc := 663) (tgt := 1406) X dL_law_663 (by decide) ?_
    refine fw_pm (ws' := (OW K oa o ++ BW K ba bf bg n ca cf cg) ++ MW K a (upd F 0 (m_c_k F u)) G) List.perm_append_comm ?_
    refine fw_lv (lv' := [(0, .ref b), (1, .ref (ba 6)), (2, .ref (a 0)), (3, .ref oa), (4, .int (nI i))]) [2, 3, 4, 5, 6] rfl ?_
    refine fw_wd (k := cells + 20) (n := slots + 200) (by omega) (by omega) ?_
    exact kk _ _ _ _ _ _ _ _ _ (hs1 hk)
set_option maxHeartbeats 4000000 in
set_option maxRecDepth 100000 in
theorem lc_search {p : Program} {l : Launch} {e : Env} {s : State} {m : MethodId} {args : Array Value} {below : List Frame} {meth : Method} {c : Code} {D : va_G} {A : Nat → Prop} {Q : State → Prop} {cells slots : Nat} {K : Nat → ClassId} {ba : Nat → Nat} {oa : Nat} {a : Nat → Nat} {o : Nat → Int64} {b L : Nat} {xs : Nat → Int32} {T n : Nat} {bf : Nat → Int32} {bg : Nat → Nat → Int32} {ca : Nat → Nat → Nat} {cf : Nat → Nat → Int32} {cg : Nat → Nat → Nat → Int32} {F : Nat → Int32} {G : Nat → Nat → Int32} (X : fw_X p s m args c D A 7 cL_law RL wsL_law (tyS K)) (hE : fw_E true A s) (hl : l.stackTraces = false) (hX : va_X b L xs s s.heap) (hbl : b < s.heap.size) (hbA : ¬ A b) (h : Rel T bf bg n cf cg F G) (hT : T ≤ 600) (i : Nat) (hi : i + 6 ≤ L) (hL : L ≤ 3072) (hc : cells ≤ 500000) (hs : slots ≤ 7000000) (u v x : Int32) (hu : xs (i + 1) = u) (hv : xs (i + 2) = v) (hx : xs (i + 3) = x) (kk : ∀ (bf2 : Nat → Int32) (bg2 : Nat → Nat → Int32) (n2 : Nat) (ca2 : Nat → Nat → Nat) (cf2 : Nat → Nat → Int32) (cg2 : Nat → Nat → Nat → Int32) (F2 : Nat → Int32) (G2 : Nat → Nat → Int32) (o2 : Nat → Int64), Rel (T + 1) bf2 bg2 n2 cf2 cg2 F2 G2 → fw_W p l e room_1 s m args below meth c D A 7 Q (LWW K ba oa a bf2 bg2 n2 ca2 cf2 cg2 F2 G2 o2) (cells + 20) (slots + 200) [(0, .ref b), (1, .ref (ba 6)), (2, .ref (a 0)), (3, .ref oa), (4, .int (nI i))] 1406 []) : fw_W p l e room_1 s m args below meth c D A 7 Q (LWW K ba oa a bf bg n ca cf cg F G o) cells slots [(0, .ref b), (1, .ref (ba 6)), (2, .ref (a 0)), (3, .ref oa), (4, .int (nI i))] 666 [] := by
  obtain ⟨hsk, hs0, hs1⟩ := sim_search h hT u v x
  refine fw_aload_n (pc := 666) X dL_law_666 rfl 1 rfl ?_
  refine fw_aload_n (pc := 667) X dL_law_667 rfl 0 rfl ?_
  refine fw_iload (pc := 668) X dL_law_668 4 rfl ?_
  refine fw_iconst (pc := 670) (v := 1) X dL_law_670 (by decide) ?_
  refine fw_iadd (pc := 671) X dL_law_671 ?_
  refine fw_sld (pc := 672) X hX hbl hbA (i + 1) (nf_add rfl (show (1 : Int32) = nI 1 from rfl)) (by omega) (by omega) hu dL_law_672 ?_
  refine fw_aload_n (pc := 673) X dL_law_673 rfl 0 rfl ?_
  refine fw_iload (pc := 674) X dL_law_674 4 rfl ?_
  refine fw_iconst (pc := 676) (v := 2) X dL_law_676 (by decide) ?_
  refine fw_iadd (pc := 677) X dL_law_677 ?_
  refine fw_sld (pc := 678) X hX hbl hbA (i + 2) (nf_add rfl (show (2 : Int32) = nI 2 from rfl)) (by omega) (by omega) hv dL_law_678 ?_
  refine fw_aload_n (pc := 679) X dL_law_679 rfl 0 rfl ?_
  refine fw_iload (pc := 680) X dL_law_680 4 rfl ?_
  refine fw_iconst (pc := 682) (v := 3) X dL_law_682 (by decide) ?_
  refine fw_iadd (pc := 683) X dL_law_683 ?_
  refine fw_sld (pc := 684) X hX hbl hbA (i + 3) (nf_add rfl (show (3 : Int32) = nI 3 from rfl)) (by omega) (by omega) hx dL_law_684 ?_
  refine fw_aload_n (pc := 685) X dL_law_685 rfl 3 rfl ?_
  refine fw_ws (ws' := (OW K oa o ++ BW K ba bf bg n ca cf cg) ++ MW K a F G) rfl ?_
  refine fw_callHR (pc := 686) (n := 5) X hE [.ref (ba 6), .int u, .int v, .int x, .ref oa] (ct_L_search hl u v x h.1) (fun z => z) gL_law_L_search rfl ⟨rfl, rfl⟩ dsc_L_search ⟨(Nat.le_of_ble_eq_true rfl), (Nat.le_of_ble_eq_true rfl)⟩ rfl rfl (Nat.le_of_ble_eq_true rfl) dL_law_686 ⟨(by show _ ≤ 601024; omega), (by show _ ≤ 7293034; omega)⟩ (fun _ z => z.elim) (fun r0 u0 hq => ?_)
  subst hq
  refine fw_istore (pc := 689) (lv' := [(5, .int (b_sch_k n cf u v x)), (0, .ref b), (1, .ref (ba 6)), (2, .ref (a 0)), (3, .ref oa), (4, .int (nI i))]) X dL_law_689 (by decide) rfl ?_
  by_cases hk : b_sch_k n cf u v x = 0
  · refine fw_ws (ws' := (OW K oa (vp_updL o 0 (b_ns_cf cf cg (ix u) (ix v) v x (ix u) 7).toInt64) ++ BW K ba bf bg n ca (b_ns_cf cf cg (ix u) (ix v) v x) (b_ns_cg cg (ix u) (ix v) x)) ++ MW K a F G) (by rw [if_pos hk]) ?_
    refine fw_pm (ws' := MW K a F G ++ (OW K oa (vp_updL o 0 (b_ns_cf cf cg (ix u) (ix v) v x (ix u) 7).toInt64) ++ BW K ba bf bg n ca (b_ns_cf cf cg (ix u) (ix v) v x) (b_ns_cg cg (ix u) (ix v) x))) List.perm_append_comm ?_
    refine fw_aload_n (pc := 691) X dL_law_691 rfl 3 rfl ?_
    refine fw_aload_n (pc := 692) X dL_law_692 rfl 1 rfl ?_
    refine fw_iload (pc := 693) X dL_law_693 5 rfl ?_
    refine fw_iconst (pc := 695) (v := 1) X dL_law_695 (by decide) ?_
    refine fw_iadd (pc := 696) X dL_law_696 ?_
    refine fw_sld (pc := 697) X hX hbl hbA (i + 1) (nf_add rfl (show (1 : Int32) = nI 1 from rfl)) (by omega) (by omega) hu dL_law_697 ?_
    refine fw_aload_n (pc := 698) X dL_law_698 rfl 1 rfl ?_
    refine fw_iload (pc := 699) X dL_law_699 5 rfl ?_
    refine fw_iconst (pc := 701) (v := 2) X dL_law_701 (by decide) ?_
    refine fw_iadd (pc := 702) X dL_law_702 ?_
    refine fw_sld (pc := 703) X hX hbl hbA (i + 2) (nf_add rfl (show (2 : Int32) = nI 2 from rfl)) (by omega) (by omega) hv dL_law_703 ?_
    refine fw_aload_n (pc := 704) X dL_law_704 rfl 1 rfl ?_
    refine fw_iload (pc := 705) X dL_law_705 5 rfl ?_
    refine fw_iconst (pc := 707) (v := 3) X dL_law_707 (by decide) ?_
    refine fw_iadd (pc := 708) X dL_law_708 ?_
    refine fw_sld (pc := 709) X hX hbl hbA (i + 3) (nf_add rfl (show (3 : Int32) = nI 3 from rfl)) (by omega) (by omega) hx dL_law_709 ?_
    refine fw_callVR (pc := 710) (n := 3) (C := (RX2, TX2, 21)) (ci := 2) (q0 := 0) X hE [.int u, .int v, .int x] (ct_X2_search u v x h.2.2.1 h.1) (fun _ => rfl) gL_law_X2_search rfl ⟨rfl, rfl⟩ ⟨rfl, dsc_X2_search⟩ ⟨(Nat.le_of_ble_eq_true rfl), (Nat.le_of_ble_eq_true rfl)⟩ rfl M_obj rfl rfl (Nat.le_of_ble_eq_true rfl) dL_law_710 ⟨(by show _ ≤ 601024; omega), (by show _ ≤ 7293034; omega)⟩ (fun _ z => z.elim) (fun r1 u1 hq => ?_)
    subst hq
    refine fw_istore (pc := 713) (lv' := [(6, .int (m_sch_v F G u v x)), (5, .int (b_sch_k n cf u v x)), (0, .ref b), (1, .ref (ba 6)), (2, .ref (a 0)), (3, .ref oa), (4, .int (nI i))]) X dL_law_713 (by decide) rfl ?_
    refine fw_aload_n (pc := 715) X dL_law_715 rfl 4 rfl ?_
    refine fw_callVR (pc := 716) (n := 0) (C := (RX2, TX2, 21)) (ci := 2) (q0 := 0) X hE [] (ct_X2_thrown) (fun _ => rfl) gL_law_X2_thrown rfl ⟨rfl, rfl⟩ ⟨rfl, dsc_X2_thrown⟩ ⟨(Nat.le_of_ble_eq_true rfl), (Nat.le_of_ble_eq_true rfl)⟩ rfl M_obj rfl rfl (Nat.le_of_ble_eq_true rfl) dL_law_716 ⟨(by show _ ≤ 601024; omega), (by show _ ≤ 7293034; omega)⟩ (fun _ z => z.elim) (fun r2 u2 hq => ?_)
    subst hq
    refine fw_iload (pc := 719) X dL_law_719 1 rfl ?_
    refine fw_icmp_eq (pc := 721) (tgt := 726) X dL_law_721 (by decide) (fun _ => ?_) (fun q => absurd hsk q)
    refine fw_iload (pc := 726) X dL_law_726 1 rfl ?_
    refine fw_if_ne (pc := 728) (tgt := 743) X dL_law_728 (by decide) (fun q => absurd hk q) (fun _ => ?_)
    refine fw_aload_n (pc := 731) X dL_law_731 rfl 5 rfl ?_
    refine fw_iconst (pc := 732) (v := 0) X dL_law_732 (by decide) ?_
    refine fw_lald (pc := 733) (n := 1) (cA := K 2) (f := vp_updL o 0 (b_ns_cf cf cg (ix u) (ix v) v x (ix u) 7).toInt64) X 17 2 rfl rfl 0 (show (0 : Int32) = nI 0 from rfl) (by decide) (by decide) dL_law_733 ?_
    refine fw_iload (pc := 734) X dL_law_734 0 rfl ?_
    refine fw_iv (hs0 hk).1 ?_
    refine fw_i2l (pc := 736) (v := (b_ns_cf cf cg (ix u) (ix v) v x (ix u) 7).toInt64) X dL_law_736 rfl ?_
    refine fw_lcmp (pc := 737) X dL_law_737 ?_
    refine fw_iv (y := 0) (by rw [show vp_updL o 0 (b_ns_cf cf cg (ix u) (ix v) v x (ix u) 7).toInt64 0 = (b_ns_cf cf cg (ix u) (ix v) v x (ix u) 7).toInt64 from rfl, lg_cmp_self]) ?_
    refine fw_if_eq (pc := 738) (tgt := 743) X dL_law_738 (by decide) (fun _ => ?_) (fun q => absurd rfl q)
    refine fw_goto (pc := 743) (tgt := 1406) X dL_law_743 (by decide) ?_
    refine fw_pm (ws' := (OW K oa (vp_updL o 0 (b_ns_cf cf cg (ix u) (ix v) v x (ix u) 7).toInt64) ++ BW K ba bf bg n ca (b_ns_cf cf cg (ix u) (ix v) v x) (b_ns_cg cg (ix u) (ix v) x)) ++ MW K a (upd F 0 (m_sch_k F G u v x)) (m_sch_G F G u v x)) List.perm_append_comm ?_
    refine fw_lv (lv' := [(0, .ref b), (1, .ref (ba 6)), (2, .ref (a 0)), (3, .ref oa), (4, .int (nI i))]) [2, 3, 4, 5, 6] rfl ?_
    refine fw_wd (k := cells + 20) (n := slots + 200) (by omega) (by omega) ?_
    exact kk _ _ _ _ _ _ _ _ _ (hs0 hk).2
  · refine fw_ws (ws' := (OW K oa o ++ BW K ba bf bg n ca cf cg) ++ MW K a F G) (by rw [if_neg hk]) ?_
    refine fw_pm (ws' := MW K a F G ++ (OW K oa o ++ BW K ba bf bg n ca cf cg)) List.perm_append_comm ?_
    refine fw_aload_n (pc := 691) X dL_law_691 rfl 3 rfl ?_
    refine fw_aload_n (pc := 692) X dL_law_692 rfl 1 rfl ?_
    refine fw_iload (pc := 693) X dL_law_693 5 rfl ?_
    refine fw_iconst (pc := 695) (v := 1) X dL_law_695 (by decide) ?_
    refine fw_iadd (pc := 696) X dL_law_696 ?_
    refine fw_sld (pc := 697) X hX hbl hbA (i + 1) (nf_add rfl (show (1 : Int32) = nI 1 from rfl)) (by omega) (by omega) hu dL_law_697 ?_
    refine fw_aload_n (pc := 698) X dL_law_698 rfl 1 rfl ?_
    refine fw_iload (pc := 699) X dL_law_699 5 rfl ?_
    refine fw_iconst (pc := 701) (v := 2) X dL_law_701 (by decide) ?_
    refine fw_iadd (pc := 702) X dL_law_702 ?_
    refine fw_sld (pc := 703) X hX hbl hbA (i + 2) (nf_add rfl (show (2 : Int32) = nI 2 from rfl)) (by omega) (by omega) hv dL_law_703 ?_
    refine fw_aload_n (pc := 704) X dL_law_704 rfl 1 rfl ?_
    refine fw_iload (pc := 705) X dL_law_705 5 rfl ?_
    refine fw_iconst (pc := 707) (v := 3) X dL_law_707 (by decide) ?_
    refine fw_iadd (pc := 708) X dL_law_708 ?_
    refine fw_sld (pc := 709) X hX hbl hbA (i + 3) (nf_add rfl (show (3 : Int32) = nI 3 from rfl)) (by omega) (by omega) hx dL_law_709 ?_
    refine fw_callVR (pc := 710) (n := 3) (C := (RX2, TX2, 21)) (ci := 2) (q0 := 0) X hE [.int u, .int v, .int x] (ct_X2_search u v x h.2.2.1 h.1) (fun _ => rfl) gL_law_X2_search rfl ⟨rfl, rfl⟩ ⟨rfl, dsc_X2_search⟩ ⟨(Nat.le_of_ble_eq_true rfl), (Nat.le_of_ble_eq_true rfl)⟩ rfl M_obj rfl rfl (Nat.le_of_ble_eq_true rfl) dL_law_710 ⟨(by show _ ≤ 601024; omega), (by show _ ≤ 7293034; omega)⟩ (fun _ z => z.elim) (fun r1 u1 hq => ?_)
    subst hq
    refine fw_istore (pc := 713) (lv' := [(6, .int (m_sch_v F G u v x)), (5, .int (b_sch_k n cf u v x)), (0, .ref b), (1, .ref (ba 6)), (2, .ref (a 0)), (3, .ref oa), (4, .int (nI i))]) X dL_law_713 (by decide) rfl ?_
    refine fw_aload_n (pc := 715) X dL_law_715 rfl 4 rfl ?_
    refine fw_callVR (pc := 716) (n := 0) (C := (RX2, TX2, 21)) (ci := 2) (q0 := 0) X hE [] (ct_X2_thrown) (fun _ => rfl) gL_law_X2_thrown rfl ⟨rfl, rfl⟩ ⟨rfl, dsc_X2_thrown⟩ ⟨(Nat.le_of_ble_eq_true rfl), (Nat.le_of_ble_eq_true rfl)⟩ rfl M_obj rfl rfl (Nat.le_of_ble_eq_true rfl) dL_law_716 ⟨(by show _ ≤ 601024; omega), (by show _ ≤ 7293034; omega)⟩ (fun _ z => z.elim) (fun r2 u2 hq => ?_)
    subst hq
    refine fw_iload (pc := 719) X dL_law_719 1 rfl ?_
    refine fw_icmp_eq (pc := 721) (tgt := 726) X dL_law_721 (by decide) (fun _ => ?_) (fun q => absurd hsk q)
    refine fw_iload (pc := 726) X dL_law_726 1 rfl ?_
    refine fw_if_ne (pc := 728) (tgt := 743) X dL_law_728 (by decide) (fun _ => ?_) (fun q => absurd q hk)
    refine fw_goto (pc := 743) (tgt := 1406) X dL_law_743 (by decide) ?_
    refine fw_pm (ws' := (OW K oa o ++ BW K ba bf bg n ca cf cg) ++ MW K a (upd F 0 (m_sch_k F G u v x)) (m_sch_G F G u v x)) List.perm_append_comm ?_
    refine fw_lv (lv' := [(0, .ref b), (1, .ref (ba 6)), (2, .ref (a 0)), (3, .ref oa), (4, .int (nI i))]) [2, 3, 4, 5, 6] rfl ?_
    refine fw_wd (k := cells + 20) (n := slots + 200) (by omega) (by omega) ?_
    exact kk _ _ _ _ _ _ _ _ _ (hs1 hk)
set_option maxHeartbeats 4000000 in
set_option maxRecDepth 100000 in
theorem lc_bond {p : Program} {l : Launch} {e : Env} {s : State} {m : MethodId} {args : Array Value} {below : List Frame} {meth : Method} {c : Code} {D : va_G} {A : Nat → Prop} {Q : State → Prop} {cells slots : Nat} {K : Nat → ClassId} {ba : Nat → Nat} {oa : Nat} {a : Nat → Nat} {o : Nat → Int64} {b L : Nat} {xs : Nat → Int32} {T n : Nat} {bf : Nat → Int32} {bg : Nat → Nat → Int32} {ca : Nat → Nat → Nat} {cf : Nat → Nat → Int32} {cg : Nat → Nat → Nat → Int32} {F : Nat → Int32} {G : Nat → Nat → Int32} (X : fw_X p s m args c D A 7 cL_law RL wsL_law (tyS K)) (hE : fw_E true A s) (hl : l.stackTraces = false) (hX : va_X b L xs s s.heap) (hbl : b < s.heap.size) (hbA : ¬ A b) (h : Rel T bf bg n cf cg F G) (hT : T ≤ 600) (i : Nat) (hi : i + 6 ≤ L) (hL : L ≤ 3072) (hc : cells ≤ 500000) (hs : slots ≤ 7000000) (u x : Int32) (hu : xs (i + 1) = u) (hx : xs (i + 2) = x) (kk : ∀ (bf2 : Nat → Int32) (bg2 : Nat → Nat → Int32) (n2 : Nat) (ca2 : Nat → Nat → Nat) (cf2 : Nat → Nat → Int32) (cg2 : Nat → Nat → Nat → Int32) (F2 : Nat → Int32) (G2 : Nat → Nat → Int32) (o2 : Nat → Int64), Rel (T + 1) bf2 bg2 n2 cf2 cg2 F2 G2 → fw_W p l e room_1 s m args below meth c D A 7 Q (LWW K ba oa a bf2 bg2 n2 ca2 cf2 cg2 F2 G2 o2) (cells + 20) (slots + 200) [(0, .ref b), (1, .ref (ba 6)), (2, .ref (a 0)), (3, .ref oa), (4, .int (nI i))] 1406 []) : fw_W p l e room_1 s m args below meth c D A 7 Q (LWW K ba oa a bf bg n ca cf cg F G o) cells slots [(0, .ref b), (1, .ref (ba 6)), (2, .ref (a 0)), (3, .ref oa), (4, .int (nI i))] 746 [] := by
  obtain ⟨hsk, hs0, hs1⟩ := sim_bond h hT u x
  refine fw_aload_n (pc := 746) X dL_law_746 rfl 1 rfl ?_
  refine fw_aload_n (pc := 747) X dL_law_747 rfl 0 rfl ?_
  refine fw_iload (pc := 748) X dL_law_748 4 rfl ?_
  refine fw_iconst (pc := 750) (v := 1) X dL_law_750 (by decide) ?_
  refine fw_iadd (pc := 751) X dL_law_751 ?_
  refine fw_sld (pc := 752) X hX hbl hbA (i + 1) (nf_add rfl (show (1 : Int32) = nI 1 from rfl)) (by omega) (by omega) hu dL_law_752 ?_
  refine fw_aload_n (pc := 753) X dL_law_753 rfl 0 rfl ?_
  refine fw_iload (pc := 754) X dL_law_754 4 rfl ?_
  refine fw_iconst (pc := 756) (v := 2) X dL_law_756 (by decide) ?_
  refine fw_iadd (pc := 757) X dL_law_757 ?_
  refine fw_sld (pc := 758) X hX hbl hbA (i + 2) (nf_add rfl (show (2 : Int32) = nI 2 from rfl)) (by omega) (by omega) hx dL_law_758 ?_
  refine fw_aload_n (pc := 759) X dL_law_759 rfl 3 rfl ?_
  refine fw_ws (ws' := (OW K oa o ++ BW K ba bf bg n ca cf cg) ++ MW K a F G) rfl ?_
  refine fw_callHR (pc := 760) (n := 4) X hE [.ref (ba 6), .int u, .int x, .ref oa] (ct_L_bond hl u x h.1 (Rel_hT h)) (fun z => z) gL_law_L_bond rfl ⟨rfl, rfl⟩ dsc_L_bond ⟨(Nat.le_of_ble_eq_true rfl), (Nat.le_of_ble_eq_true rfl)⟩ rfl rfl (Nat.le_of_ble_eq_true rfl) dL_law_760 ⟨(by show _ ≤ 601024; omega), (by show _ ≤ 7293034; omega)⟩ (fun _ z => z.elim) (fun r0 u0 hq => ?_)
  subst hq
  refine fw_istore (pc := 763) (lv' := [(5, .int (b_bnd_k bf bg n cf cg u x)), (0, .ref b), (1, .ref (ba 6)), (2, .ref (a 0)), (3, .ref oa), (4, .int (nI i))]) X dL_law_763 (by decide) rfl ?_
  by_cases hk : b_bnd_k bf bg n cf cg u x = 0
  · refine fw_ws (ws' := (OW K oa (vp_updL o 0 (b_dn bg cg (ix u) 6).toInt64) ++ BW K ba bf (va_up bg 3 (upd (bg 3) (ix (cf (ix u) 0)) (bg 3 (ix (cf (ix u) 0)) + b_dn bg cg (ix u) 6))) n ca (b_en_cf cf (b_td (b_en_cg (va_up bg 3 (upd (bg 3) (ix (cf (ix u) 0)) (bg 3 (ix (cf (ix u) 0)) + b_dn bg cg (ix u) 6))) cg (ix u) (ix x)) (ix u) 6) (ix u)) (b_en_cg (va_up bg 3 (upd (bg 3) (ix (cf (ix u) 0)) (bg 3 (ix (cf (ix u) 0)) + b_dn bg cg (ix u) 6))) cg (ix u) (ix x))) ++ MW K a F G) (by rw [if_pos hk]) ?_
    refine fw_pm (ws' := MW K a F G ++ (OW K oa (vp_updL o 0 (b_dn bg cg (ix u) 6).toInt64) ++ BW K ba bf (va_up bg 3 (upd (bg 3) (ix (cf (ix u) 0)) (bg 3 (ix (cf (ix u) 0)) + b_dn bg cg (ix u) 6))) n ca (b_en_cf cf (b_td (b_en_cg (va_up bg 3 (upd (bg 3) (ix (cf (ix u) 0)) (bg 3 (ix (cf (ix u) 0)) + b_dn bg cg (ix u) 6))) cg (ix u) (ix x)) (ix u) 6) (ix u)) (b_en_cg (va_up bg 3 (upd (bg 3) (ix (cf (ix u) 0)) (bg 3 (ix (cf (ix u) 0)) + b_dn bg cg (ix u) 6))) cg (ix u) (ix x)))) List.perm_append_comm ?_
    refine fw_aload_n (pc := 765) X dL_law_765 rfl 3 rfl ?_
    refine fw_aload_n (pc := 766) X dL_law_766 rfl 1 rfl ?_
    refine fw_iload (pc := 767) X dL_law_767 5 rfl ?_
    refine fw_iconst (pc := 769) (v := 1) X dL_law_769 (by decide) ?_
    refine fw_iadd (pc := 770) X dL_law_770 ?_
    refine fw_sld (pc := 771) X hX hbl hbA (i + 1) (nf_add rfl (show (1 : Int32) = nI 1 from rfl)) (by omega) (by omega) hu dL_law_771 ?_
    refine fw_aload_n (pc := 772) X dL_law_772 rfl 1 rfl ?_
    refine fw_iload (pc := 773) X dL_law_773 5 rfl ?_
    refine fw_iconst (pc := 775) (v := 2) X dL_law_775 (by decide) ?_
    refine fw_iadd (pc := 776) X dL_law_776 ?_
    refine fw_sld (pc := 777) X hX hbl hbA (i + 2) (nf_add rfl (show (2 : Int32) = nI 2 from rfl)) (by omega) (by omega) hx dL_law_777 ?_
    refine fw_callVR (pc := 778) (n := 2) (C := (RX2, TX2, 21)) (ci := 2) (q0 := 0) X hE [.int u, .int x] (ct_X2_bond u x h.2.2.1 h.1 (Rel_mT h)) (fun _ => rfl) gL_law_X2_bond rfl ⟨rfl, rfl⟩ ⟨rfl, dsc_X2_bond⟩ ⟨(Nat.le_of_ble_eq_true rfl), (Nat.le_of_ble_eq_true rfl)⟩ rfl M_obj rfl rfl (Nat.le_of_ble_eq_true rfl) dL_law_778 ⟨(by show _ ≤ 601024; omega), (by show _ ≤ 7293034; omega)⟩ (fun _ z => z.elim) (fun r1 u1 hq => ?_)
    subst hq
    refine fw_istore (pc := 781) (lv' := [(6, .int (m_bnd_v F G u x)), (5, .int (b_bnd_k bf bg n cf cg u x)), (0, .ref b), (1, .ref (ba 6)), (2, .ref (a 0)), (3, .ref oa), (4, .int (nI i))]) X dL_law_781 (by decide) rfl ?_
    refine fw_aload_n (pc := 783) X dL_law_783 rfl 4 rfl ?_
    refine fw_callVR (pc := 784) (n := 0) (C := (RX2, TX2, 21)) (ci := 2) (q0 := 0) X hE [] (ct_X2_thrown) (fun _ => rfl) gL_law_X2_thrown rfl ⟨rfl, rfl⟩ ⟨rfl, dsc_X2_thrown⟩ ⟨(Nat.le_of_ble_eq_true rfl), (Nat.le_of_ble_eq_true rfl)⟩ rfl M_obj rfl rfl (Nat.le_of_ble_eq_true rfl) dL_law_784 ⟨(by show _ ≤ 601024; omega), (by show _ ≤ 7293034; omega)⟩ (fun _ z => z.elim) (fun r2 u2 hq => ?_)
    subst hq
    refine fw_iload (pc := 787) X dL_law_787 1 rfl ?_
    refine fw_icmp_eq (pc := 789) (tgt := 794) X dL_law_789 (by decide) (fun _ => ?_) (fun q => absurd hsk q)
    refine fw_iload (pc := 794) X dL_law_794 1 rfl ?_
    refine fw_if_ne (pc := 796) (tgt := 811) X dL_law_796 (by decide) (fun q => absurd hk q) (fun _ => ?_)
    refine fw_aload_n (pc := 799) X dL_law_799 rfl 5 rfl ?_
    refine fw_iconst (pc := 800) (v := 0) X dL_law_800 (by decide) ?_
    refine fw_lald (pc := 801) (n := 1) (cA := K 2) (f := vp_updL o 0 (b_dn bg cg (ix u) 6).toInt64) X 17 2 rfl rfl 0 (show (0 : Int32) = nI 0 from rfl) (by decide) (by decide) dL_law_801 ?_
    refine fw_iload (pc := 802) X dL_law_802 0 rfl ?_
    refine fw_iv (hs0 hk).1 ?_
    refine fw_i2l (pc := 804) (v := (b_dn bg cg (ix u) 6).toInt64) X dL_law_804 rfl ?_
    refine fw_lcmp (pc := 805) X dL_law_805 ?_
    refine fw_iv (y := 0) (by rw [show vp_updL o 0 (b_dn bg cg (ix u) 6).toInt64 0 = (b_dn bg cg (ix u) 6).toInt64 from rfl, lg_cmp_self]) ?_
    refine fw_if_eq (pc := 806) (tgt := 811) X dL_law_806 (by decide) (fun _ => ?_) (fun q => absurd rfl q)
    refine fw_goto (pc := 811) (tgt := 1406) X dL_law_811 (by decide) ?_
    refine fw_pm (ws' := (OW K oa (vp_updL o 0 (b_dn bg cg (ix u) 6).toInt64) ++ BW K ba bf (va_up bg 3 (upd (bg 3) (ix (cf (ix u) 0)) (bg 3 (ix (cf (ix u) 0)) + b_dn bg cg (ix u) 6))) n ca (b_en_cf cf (b_td (b_en_cg (va_up bg 3 (upd (bg 3) (ix (cf (ix u) 0)) (bg 3 (ix (cf (ix u) 0)) + b_dn bg cg (ix u) 6))) cg (ix u) (ix x)) (ix u) 6) (ix u)) (b_en_cg (va_up bg 3 (upd (bg 3) (ix (cf (ix u) 0)) (bg 3 (ix (cf (ix u) 0)) + b_dn bg cg (ix u) 6))) cg (ix u) (ix x))) ++ MW K a (upd F 0 (m_bnd_k F G u x)) (m_bnd_G F G u x)) List.perm_append_comm ?_
    refine fw_lv (lv' := [(0, .ref b), (1, .ref (ba 6)), (2, .ref (a 0)), (3, .ref oa), (4, .int (nI i))]) [2, 3, 4, 5, 6] rfl ?_
    refine fw_wd (k := cells + 20) (n := slots + 200) (by omega) (by omega) ?_
    exact kk _ _ _ _ _ _ _ _ _ (hs0 hk).2
  · refine fw_ws (ws' := (OW K oa o ++ BW K ba bf bg n ca cf cg) ++ MW K a F G) (by rw [if_neg hk]) ?_
    refine fw_pm (ws' := MW K a F G ++ (OW K oa o ++ BW K ba bf bg n ca cf cg)) List.perm_append_comm ?_
    refine fw_aload_n (pc := 765) X dL_law_765 rfl 3 rfl ?_
    refine fw_aload_n (pc := 766) X dL_law_766 rfl 1 rfl ?_
    refine fw_iload (pc := 767) X dL_law_767 5 rfl ?_
    refine fw_iconst (pc := 769) (v := 1) X dL_law_769 (by decide) ?_
    refine fw_iadd (pc := 770) X dL_law_770 ?_
    refine fw_sld (pc := 771) X hX hbl hbA (i + 1) (nf_add rfl (show (1 : Int32) = nI 1 from rfl)) (by omega) (by omega) hu dL_law_771 ?_
    refine fw_aload_n (pc := 772) X dL_law_772 rfl 1 rfl ?_
    refine fw_iload (pc := 773) X dL_law_773 5 rfl ?_
    refine fw_iconst (pc := 775) (v := 2) X dL_law_775 (by decide) ?_
    refine fw_iadd (pc := 776) X dL_law_776 ?_
    refine fw_sld (pc := 777) X hX hbl hbA (i + 2) (nf_add rfl (show (2 : Int32) = nI 2 from rfl)) (by omega) (by omega) hx dL_law_777 ?_
    refine fw_callVR (pc := 778) (n := 2) (C := (RX2, TX2, 21)) (ci := 2) (q0 := 0) X hE [.int u, .int x] (ct_X2_bond u x h.2.2.1 h.1 (Rel_mT h)) (fun _ => rfl) gL_law_X2_bond rfl ⟨rfl, rfl⟩ ⟨rfl, dsc_X2_bond⟩ ⟨(Nat.le_of_ble_eq_true rfl), (Nat.le_of_ble_eq_true rfl)⟩ rfl M_obj rfl rfl (Nat.le_of_ble_eq_true rfl) dL_law_778 ⟨(by show _ ≤ 601024; omega), (by show _ ≤ 7293034; omega)⟩ (fun _ z => z.elim) (fun r1 u1 hq => ?_)
    subst hq
    refine fw_istore (pc := 781) (lv' := [(6, .int (m_bnd_v F G u x)), (5, .int (b_bnd_k bf bg n cf cg u x)), (0, .ref b), (1, .ref (ba 6)), (2, .ref (a 0)), (3, .ref oa), (4, .int (nI i))]) X dL_law_781 (by decide) rfl ?_
    refine fw_aload_n (pc := 783) X dL_law_783 rfl 4 rfl ?_
    refine fw_callVR (pc := 784) (n := 0) (C := (RX2, TX2, 21)) (ci := 2) (q0 := 0) X hE [] (ct_X2_thrown) (fun _ => rfl) gL_law_X2_thrown rfl ⟨rfl, rfl⟩ ⟨rfl, dsc_X2_thrown⟩ ⟨(Nat.le_of_ble_eq_true rfl), (Nat.le_of_ble_eq_true rfl)⟩ rfl M_obj rfl rfl (Nat.le_of_ble_eq_true rfl) dL_law_784 ⟨(by show _ ≤ 601024; omega), (by show _ ≤ 7293034; omega)⟩ (fun _ z => z.elim) (fun r2 u2 hq => ?_)
    subst hq
    refine fw_iload (pc := 787) X dL_law_787 1 rfl ?_
    refine fw_icmp_eq (pc := 789) (tgt := 794) X dL_law_789 (by decide) (fun _ => ?_) (fun q => absurd hsk q)
    refine fw_iload (pc := 794) X dL_law_794 1 rfl ?_
    refine fw_if_ne (pc := 796) (tgt := 811) X dL_law_796 (by decide) (fun _ => ?_) (fun q => absurd q hk)
    refine fw_goto (pc := 811) (tgt := 1406) X dL_law_811 (by decide) ?_
    refine fw_pm (ws' := (OW K oa o ++ BW K ba bf bg n ca cf cg) ++ MW K a (upd F 0 (m_bnd_k F G u x)) (m_bnd_G F G u x)) List.perm_append_comm ?_
    refine fw_lv (lv' := [(0, .ref b), (1, .ref (ba 6)), (2, .ref (a 0)), (3, .ref oa), (4, .int (nI i))]) [2, 3, 4, 5, 6] rfl ?_
    refine fw_wd (k := cells + 20) (n := slots + 200) (by omega) (by omega) ?_
    exact kk _ _ _ _ _ _ _ _ _ (hs1 hk)
set_option maxHeartbeats 4000000 in
set_option maxRecDepth 100000 in
theorem lc_move {p : Program} {l : Launch} {e : Env} {s : State} {m : MethodId} {args : Array Value} {below : List Frame} {meth : Method} {c : Code} {D : va_G} {A : Nat → Prop} {Q : State → Prop} {cells slots : Nat} {K : Nat → ClassId} {ba : Nat → Nat} {oa : Nat} {a : Nat → Nat} {o : Nat → Int64} {b L : Nat} {xs : Nat → Int32} {T n : Nat} {bf : Nat → Int32} {bg : Nat → Nat → Int32} {ca : Nat → Nat → Nat} {cf : Nat → Nat → Int32} {cg : Nat → Nat → Nat → Int32} {F : Nat → Int32} {G : Nat → Nat → Int32} (X : fw_X p s m args c D A 7 cL_law RL wsL_law (tyS K)) (hE : fw_E true A s) (hl : l.stackTraces = false) (hX : va_X b L xs s s.heap) (hbl : b < s.heap.size) (hbA : ¬ A b) (h : Rel T bf bg n cf cg F G) (hT : T ≤ 600) (i : Nat) (hi : i + 6 ≤ L) (hL : L ≤ 3072) (hc : cells ≤ 500000) (hs : slots ≤ 7000000) (u v x y z : Int32) (hu : xs (i + 1) = u) (hv : xs (i + 2) = v) (hx : xs (i + 3) = x) (hy : xs (i + 4) = y) (hz : xs (i + 5) = z) (kk : ∀ (bf2 : Nat → Int32) (bg2 : Nat → Nat → Int32) (n2 : Nat) (ca2 : Nat → Nat → Nat) (cf2 : Nat → Nat → Int32) (cg2 : Nat → Nat → Nat → Int32) (F2 : Nat → Int32) (G2 : Nat → Nat → Int32) (o2 : Nat → Int64), Rel (T + 1) bf2 bg2 n2 cf2 cg2 F2 G2 → fw_W p l e room_1 s m args below meth c D A 7 Q (LWW K ba oa a bf2 bg2 n2 ca2 cf2 cg2 F2 G2 o2) (cells + 20) (slots + 200) [(0, .ref b), (1, .ref (ba 6)), (2, .ref (a 0)), (3, .ref oa), (4, .int (nI i))] 1406 []) : fw_W p l e room_1 s m args below meth c D A 7 Q (LWW K ba oa a bf bg n ca cf cg F G o) cells slots [(0, .ref b), (1, .ref (ba 6)), (2, .ref (a 0)), (3, .ref oa), (4, .int (nI i))] 814 [] := by
  obtain ⟨hsk, hs0, hs1⟩ := sim_move h hT u v x y z
  refine fw_aload_n (pc := 814) X dL_law_814 rfl 1 rfl ?_
  refine fw_aload_n (pc := 815) X dL_law_815 rfl 0 rfl ?_
  refine fw_iload (pc := 816) X dL_law_816 4 rfl ?_
  refine fw_iconst (pc := 818) (v := 1) X dL_law_818 (by decide) ?_
  refine fw_iadd (pc := 819) X dL_law_819 ?_
  refine fw_sld (pc := 820) X hX hbl hbA (i + 1) (nf_add rfl (show (1 : Int32) = nI 1 from rfl)) (by omega) (by omega) hu dL_law_820 ?_
  refine fw_aload_n (pc := 821) X dL_law_821 rfl 0 rfl ?_
  refine fw_iload (pc := 822) X dL_law_822 4 rfl ?_
  refine fw_iconst (pc := 824) (v := 2) X dL_law_824 (by decide) ?_
  refine fw_iadd (pc := 825) X dL_law_825 ?_
  refine fw_sld (pc := 826) X hX hbl hbA (i + 2) (nf_add rfl (show (2 : Int32) = nI 2 from rfl)) (by omega) (by omega) hv dL_law_826 ?_
  refine fw_aload_n (pc := 827) X dL_law_827 rfl 0 rfl ?_
  refine fw_iload (pc := 828) X dL_law_828 4 rfl ?_
  refine fw_iconst (pc := 830) (v := 3) X dL_law_830 (by decide) ?_
  refine fw_iadd (pc := 831) X dL_law_831 ?_
  refine fw_sld (pc := 832) X hX hbl hbA (i + 3) (nf_add rfl (show (3 : Int32) = nI 3 from rfl)) (by omega) (by omega) hx dL_law_832 ?_
  refine fw_aload_n (pc := 833) X dL_law_833 rfl 0 rfl ?_
  refine fw_iload (pc := 834) X dL_law_834 4 rfl ?_
  refine fw_iconst (pc := 836) (v := 4) X dL_law_836 (by decide) ?_
  refine fw_iadd (pc := 837) X dL_law_837 ?_
  refine fw_sld (pc := 838) X hX hbl hbA (i + 4) (nf_add rfl (show (4 : Int32) = nI 4 from rfl)) (by omega) (by omega) hy dL_law_838 ?_
  refine fw_aload_n (pc := 839) X dL_law_839 rfl 0 rfl ?_
  refine fw_iload (pc := 840) X dL_law_840 4 rfl ?_
  refine fw_iconst (pc := 842) (v := 5) X dL_law_842 (by decide) ?_
  refine fw_iadd (pc := 843) X dL_law_843 ?_
  refine fw_sld (pc := 844) X hX hbl hbA (i + 5) (nf_add rfl (show (5 : Int32) = nI 5 from rfl)) (by omega) (by omega) hz dL_law_844 ?_
  refine fw_aload_n (pc := 845) X dL_law_845 rfl 3 rfl ?_
  refine fw_ws (ws' := (OW K oa o ++ BW K ba bf bg n ca cf cg) ++ MW K a F G) rfl ?_
  refine fw_callHR (pc := 846) (n := 7) X hE [.ref (ba 6), .int u, .int v, .int x, .int y, .int z, .ref oa] (ct_L_move hl u v x y z h.1) (fun z => z) gL_law_L_move rfl ⟨rfl, rfl⟩ dsc_L_move ⟨(Nat.le_of_ble_eq_true rfl), (Nat.le_of_ble_eq_true rfl)⟩ rfl rfl (Nat.le_of_ble_eq_true rfl) dL_law_846 ⟨(by show _ ≤ 601024; omega), (by show _ ≤ 7293034; omega)⟩ (fun _ z => z.elim) (fun r0 u0 hq => ?_)
  subst hq
  refine fw_istore (pc := 849) (lv' := [(5, .int (b_mov_k n cg u v x y z)), (0, .ref b), (1, .ref (ba 6)), (2, .ref (a 0)), (3, .ref oa), (4, .int (nI i))]) X dL_law_849 (by decide) rfl ?_
  by_cases hk : b_mov_k n cg u v x y z = 0
  · refine fw_ws (ws' := (OW K oa (vp_updL o 0 (b_mv_g cg (ix u) (ix v) (ix x) (ix y) z (ix v * 3 + ix y)).toInt64) ++ BW K ba bf bg n ca cf (va_up cg (ix u) (va_up (cg (ix u)) 4 (b_mv_g cg (ix u) (ix v) (ix x) (ix y) z)))) ++ MW K a F G) (by rw [if_pos hk]) ?_
    refine fw_pm (ws' := MW K a F G ++ (OW K oa (vp_updL o 0 (b_mv_g cg (ix u) (ix v) (ix x) (ix y) z (ix v * 3 + ix y)).toInt64) ++ BW K ba bf bg n ca cf (va_up cg (ix u) (va_up (cg (ix u)) 4 (b_mv_g cg (ix u) (ix v) (ix x) (ix y) z))))) List.perm_append_comm ?_
    refine fw_aload_n (pc := 851) X dL_law_851 rfl 3 rfl ?_
    refine fw_aload_n (pc := 852) X dL_law_852 rfl 1 rfl ?_
    refine fw_iload (pc := 853) X dL_law_853 5 rfl ?_
    refine fw_iconst (pc := 855) (v := 1) X dL_law_855 (by decide) ?_
    refine fw_iadd (pc := 856) X dL_law_856 ?_
    refine fw_sld (pc := 857) X hX hbl hbA (i + 1) (nf_add rfl (show (1 : Int32) = nI 1 from rfl)) (by omega) (by omega) hu dL_law_857 ?_
    refine fw_aload_n (pc := 858) X dL_law_858 rfl 1 rfl ?_
    refine fw_iload (pc := 859) X dL_law_859 5 rfl ?_
    refine fw_iconst (pc := 861) (v := 2) X dL_law_861 (by decide) ?_
    refine fw_iadd (pc := 862) X dL_law_862 ?_
    refine fw_sld (pc := 863) X hX hbl hbA (i + 2) (nf_add rfl (show (2 : Int32) = nI 2 from rfl)) (by omega) (by omega) hv dL_law_863 ?_
    refine fw_aload_n (pc := 864) X dL_law_864 rfl 1 rfl ?_
    refine fw_iload (pc := 865) X dL_law_865 5 rfl ?_
    refine fw_iconst (pc := 867) (v := 3) X dL_law_867 (by decide) ?_
    refine fw_iadd (pc := 868) X dL_law_868 ?_
    refine fw_sld (pc := 869) X hX hbl hbA (i + 3) (nf_add rfl (show (3 : Int32) = nI 3 from rfl)) (by omega) (by omega) hx dL_law_869 ?_
    refine fw_aload_n (pc := 870) X dL_law_870 rfl 1 rfl ?_
    refine fw_iload (pc := 871) X dL_law_871 5 rfl ?_
    refine fw_iconst (pc := 873) (v := 4) X dL_law_873 (by decide) ?_
    refine fw_iadd (pc := 874) X dL_law_874 ?_
    refine fw_sld (pc := 875) X hX hbl hbA (i + 4) (nf_add rfl (show (4 : Int32) = nI 4 from rfl)) (by omega) (by omega) hy dL_law_875 ?_
    refine fw_aload_n (pc := 876) X dL_law_876 rfl 1 rfl ?_
    refine fw_iload (pc := 877) X dL_law_877 5 rfl ?_
    refine fw_iconst (pc := 879) (v := 5) X dL_law_879 (by decide) ?_
    refine fw_iadd (pc := 880) X dL_law_880 ?_
    refine fw_sld (pc := 881) X hX hbl hbA (i + 5) (nf_add rfl (show (5 : Int32) = nI 5 from rfl)) (by omega) (by omega) hz dL_law_881 ?_
    refine fw_callVR (pc := 882) (n := 5) (C := (RX2, TX2, 21)) (ci := 2) (q0 := 0) X hE [.int u, .int v, .int x, .int y, .int z] (ct_X2_move u v x y z h.2.2.1 h.1) (fun _ => rfl) gL_law_X2_move rfl ⟨rfl, rfl⟩ ⟨rfl, dsc_X2_move⟩ ⟨(Nat.le_of_ble_eq_true rfl), (Nat.le_of_ble_eq_true rfl)⟩ rfl M_obj rfl rfl (Nat.le_of_ble_eq_true rfl) dL_law_882 ⟨(by show _ ≤ 601024; omega), (by show _ ≤ 7293034; omega)⟩ (fun _ z => z.elim) (fun r1 u1 hq => ?_)
    subst hq
    refine fw_istore (pc := 885) (lv' := [(6, .int (m_mov_v F G u v x y z)), (5, .int (b_mov_k n cg u v x y z)), (0, .ref b), (1, .ref (ba 6)), (2, .ref (a 0)), (3, .ref oa), (4, .int (nI i))]) X dL_law_885 (by decide) rfl ?_
    refine fw_aload_n (pc := 887) X dL_law_887 rfl 4 rfl ?_
    refine fw_callVR (pc := 888) (n := 0) (C := (RX2, TX2, 21)) (ci := 2) (q0 := 0) X hE [] (ct_X2_thrown) (fun _ => rfl) gL_law_X2_thrown rfl ⟨rfl, rfl⟩ ⟨rfl, dsc_X2_thrown⟩ ⟨(Nat.le_of_ble_eq_true rfl), (Nat.le_of_ble_eq_true rfl)⟩ rfl M_obj rfl rfl (Nat.le_of_ble_eq_true rfl) dL_law_888 ⟨(by show _ ≤ 601024; omega), (by show _ ≤ 7293034; omega)⟩ (fun _ z => z.elim) (fun r2 u2 hq => ?_)
    subst hq
    refine fw_iload (pc := 891) X dL_law_891 1 rfl ?_
    refine fw_icmp_eq (pc := 893) (tgt := 898) X dL_law_893 (by decide) (fun _ => ?_) (fun q => absurd hsk q)
    refine fw_iload (pc := 898) X dL_law_898 1 rfl ?_
    refine fw_if_ne (pc := 900) (tgt := 915) X dL_law_900 (by decide) (fun q => absurd hk q) (fun _ => ?_)
    refine fw_aload_n (pc := 903) X dL_law_903 rfl 5 rfl ?_
    refine fw_iconst (pc := 904) (v := 0) X dL_law_904 (by decide) ?_
    refine fw_lald (pc := 905) (n := 1) (cA := K 2) (f := vp_updL o 0 (b_mv_g cg (ix u) (ix v) (ix x) (ix y) z (ix v * 3 + ix y)).toInt64) X 17 2 rfl rfl 0 (show (0 : Int32) = nI 0 from rfl) (by decide) (by decide) dL_law_905 ?_
    refine fw_iload (pc := 906) X dL_law_906 0 rfl ?_
    refine fw_iv (hs0 hk).1 ?_
    refine fw_i2l (pc := 908) (v := (b_mv_g cg (ix u) (ix v) (ix x) (ix y) z (ix v * 3 + ix y)).toInt64) X dL_law_908 rfl ?_
    refine fw_lcmp (pc := 909) X dL_law_909 ?_
    refine fw_iv (y := 0) (by rw [show vp_updL o 0 (b_mv_g cg (ix u) (ix v) (ix x) (ix y) z (ix v * 3 + ix y)).toInt64 0 = (b_mv_g cg (ix u) (ix v) (ix x) (ix y) z (ix v * 3 + ix y)).toInt64 from rfl, lg_cmp_self]) ?_
    refine fw_if_eq (pc := 910) (tgt := 915) X dL_law_910 (by decide) (fun _ => ?_) (fun q => absurd rfl q)
    refine fw_goto (pc := 915) (tgt := 1406) X dL_law_915 (by decide) ?_
    refine fw_pm (ws' := (OW K oa (vp_updL o 0 (b_mv_g cg (ix u) (ix v) (ix x) (ix y) z (ix v * 3 + ix y)).toInt64) ++ BW K ba bf bg n ca cf (va_up cg (ix u) (va_up (cg (ix u)) 4 (b_mv_g cg (ix u) (ix v) (ix x) (ix y) z)))) ++ MW K a (upd F 0 (m_mov_k F G u v x y z)) (m_mov_G F G u v x y z)) List.perm_append_comm ?_
    refine fw_lv (lv' := [(0, .ref b), (1, .ref (ba 6)), (2, .ref (a 0)), (3, .ref oa), (4, .int (nI i))]) [2, 3, 4, 5, 6] rfl ?_
    refine fw_wd (k := cells + 20) (n := slots + 200) (by omega) (by omega) ?_
    exact kk _ _ _ _ _ _ _ _ _ (hs0 hk).2
  · refine fw_ws (ws' := (OW K oa o ++ BW K ba bf bg n ca cf cg) ++ MW K a F G) (by rw [if_neg hk]) ?_
    refine fw_pm (ws' := MW K a F G ++ (OW K oa o ++ BW K ba bf bg n ca cf cg)) List.perm_append_comm ?_
    refine fw_aload_n (pc := 851) X dL_law_851 rfl 3 rfl ?_
    refine fw_aload_n (pc := 852) X dL_law_852 rfl 1 rfl ?_
    refine fw_iload (pc := 853) X dL_law_853 5 rfl ?_
    refine fw_iconst (pc := 855) (v := 1) X dL_law_855 (by decide) ?_
    refine fw_iadd (pc := 856) X dL_law_856 ?_
    refine fw_sld (pc := 857) X hX hbl hbA (i + 1) (nf_add rfl (show (1 : Int32) = nI 1 from rfl)) (by omega) (by omega) hu dL_law_857 ?_
    refine fw_aload_n (pc := 858) X dL_law_858 rfl 1 rfl ?_
    refine fw_iload (pc := 859) X dL_law_859 5 rfl ?_
    refine fw_iconst (pc := 861) (v := 2) X dL_law_861 (by decide) ?_
    refine fw_iadd (pc := 862) X dL_law_862 ?_
    refine fw_sld (pc := 863) X hX hbl hbA (i + 2) (nf_add rfl (show (2 : Int32) = nI 2 from rfl)) (by omega) (by omega) hv dL_law_863 ?_
    refine fw_aload_n (pc := 864) X dL_law_864 rfl 1 rfl ?_
    refine fw_iload (pc := 865) X dL_law_865 5 rfl ?_
    refine fw_iconst (pc := 867) (v := 3) X dL_law_867 (by decide) ?_
    refine fw_iadd (pc := 868) X dL_law_868 ?_
    refine fw_sld (pc := 869) X hX hbl hbA (i + 3) (nf_add rfl (show (3 : Int32) = nI 3 from rfl)) (by omega) (by omega) hx dL_law_869 ?_
    refine fw_aload_n (pc := 870) X dL_law_870 rfl 1 rfl ?_
    refine fw_iload (pc := 871) X dL_law_871 5 rfl ?_
    refine fw_iconst (pc := 873) (v := 4) X dL_law_873 (by decide) ?_
    refine fw_iadd (pc := 874) X dL_law_874 ?_
    refine fw_sld (pc := 875) X hX hbl hbA (i + 4) (nf_add rfl (show (4 : Int32) = nI 4 from rfl)) (by omega) (by omega) hy dL_law_875 ?_
    refine fw_aload_n (pc := 876) X dL_law_876 rfl 1 rfl ?_
    refine fw_iload (pc := 877) X dL_law_877 5 rfl ?_
    refine fw_iconst (pc := 879) (v := 5) X dL_law_879 (by decide) ?_
    refine fw_iadd (pc := 880) X dL_law_880 ?_
    refine fw_sld (pc := 881) X hX hbl hbA (i + 5) (nf_add rfl (show (5 : Int32) = nI 5 from rfl)) (by omega) (by omega) hz dL_law_881 ?_
    refine fw_callVR (pc := 882) (n := 5) (C := (RX2, TX2, 21)) (ci := 2) (q0 := 0) X hE [.int u, .int v, .int x, .int y, .int z] (ct_X2_move u v x y z h.2.2.1 h.1) (fun _ => rfl) gL_law_X2_move rfl ⟨rfl, rfl⟩ ⟨rfl, dsc_X2_move⟩ ⟨(Nat.le_of_ble_eq_true rfl), (Nat.le_of_ble_eq_true rfl)⟩ rfl M_obj rfl rfl (Nat.le_of_ble_eq_true rfl) dL_law_882 ⟨(by show _ ≤ 601024; omega), (by show _ ≤ 7293034; omega)⟩ (fun _ z => z.elim) (fun r1 u1 hq => ?_)
    subst hq
    refine fw_istore (pc := 885) (lv' := [(6, .int (m_mov_v F G u v x y z)), (5, .int (b_mov_k n cg u v x y z)), (0, .ref b), (1, .ref (ba 6)), (2, .ref (a 0)), (3, .ref oa), (4, .int (nI i))]) X dL_law_885 (by decide) rfl ?_
    refine fw_aload_n (pc := 887) X dL_law_887 rfl 4 rfl ?_
    refine fw_callVR (pc := 888) (n := 0) (C := (RX2, TX2, 21)) (ci := 2) (q0 := 0) X hE [] (ct_X2_thrown) (fun _ => rfl) gL_law_X2_thrown rfl ⟨rfl, rfl⟩ ⟨rfl, dsc_X2_thrown⟩ ⟨(Nat.le_of_ble_eq_true rfl), (Nat.le_of_ble_eq_true rfl)⟩ rfl M_obj rfl rfl (Nat.le_of_ble_eq_true rfl) dL_law_888 ⟨(by show _ ≤ 601024; omega), (by show _ ≤ 7293034; omega)⟩ (fun _ z => z.elim) (fun r2 u2 hq => ?_)
    subst hq
    refine fw_iload (pc := 891) X dL_law_891 1 rfl ?_
    refine fw_icmp_eq (pc := 893) (tgt := 898) X dL_law_893 (by decide) (fun _ => ?_) (fun q => absurd hsk q)
    refine fw_iload (pc := 898) X dL_law_898 1 rfl ?_
    refine fw_if_ne (pc := 900) (tgt := 915) X dL_law_900 (by decide) (fun _ => ?_) (fun q => absurd q hk)
    refine fw_goto (pc := 915) (tgt := 1406) X dL_law_915 (by decide) ?_
    refine fw_pm (ws' := (OW K oa o ++ BW K ba bf bg n ca cf cg) ++ MW K a (upd F 0 (m_mov_k F G u v x y z)) (m_mov_G F G u v x y z)) List.perm_append_comm ?_
    refine fw_lv (lv' := [(0, .ref b), (1, .ref (ba 6)), (2, .ref (a 0)), (3, .ref oa), (4, .int (nI i))]) [2, 3, 4, 5, 6] rfl ?_
    refine fw_wd (k := cells + 20) (n := slots + 200) (by omega) (by omega) ?_
    exact kk _ _ _ _ _ _ _ _ _ (hs1 hk)
set_option maxHeartbeats 4000000 in
set_option maxRecDepth 100000 in
theorem lc_free {p : Program} {l : Launch} {e : Env} {s : State} {m : MethodId} {args : Array Value} {below : List Frame} {meth : Method} {c : Code} {D : va_G} {A : Nat → Prop} {Q : State → Prop} {cells slots : Nat} {K : Nat → ClassId} {ba : Nat → Nat} {oa : Nat} {a : Nat → Nat} {o : Nat → Int64} {b L : Nat} {xs : Nat → Int32} {T n : Nat} {bf : Nat → Int32} {bg : Nat → Nat → Int32} {ca : Nat → Nat → Nat} {cf : Nat → Nat → Int32} {cg : Nat → Nat → Nat → Int32} {F : Nat → Int32} {G : Nat → Nat → Int32} (X : fw_X p s m args c D A 7 cL_law RL wsL_law (tyS K)) (hE : fw_E true A s) (hl : l.stackTraces = false) (hX : va_X b L xs s s.heap) (hbl : b < s.heap.size) (hbA : ¬ A b) (h : Rel T bf bg n cf cg F G) (hT : T ≤ 600) (i : Nat) (hi : i + 6 ≤ L) (hL : L ≤ 3072) (hc : cells ≤ 500000) (hs : slots ≤ 7000000) (u v x y : Int32) (hu : xs (i + 1) = u) (hv : xs (i + 2) = v) (hx : xs (i + 3) = x) (hy : xs (i + 4) = y) (kk : ∀ (bf2 : Nat → Int32) (bg2 : Nat → Nat → Int32) (n2 : Nat) (ca2 : Nat → Nat → Nat) (cf2 : Nat → Nat → Int32) (cg2 : Nat → Nat → Nat → Int32) (F2 : Nat → Int32) (G2 : Nat → Nat → Int32) (o2 : Nat → Int64), Rel (T + 1) bf2 bg2 n2 cf2 cg2 F2 G2 → fw_W p l e room_1 s m args below meth c D A 7 Q (LWW K ba oa a bf2 bg2 n2 ca2 cf2 cg2 F2 G2 o2) (cells + 20) (slots + 200) [(0, .ref b), (1, .ref (ba 6)), (2, .ref (a 0)), (3, .ref oa), (4, .int (nI i))] 1406 []) : fw_W p l e room_1 s m args below meth c D A 7 Q (LWW K ba oa a bf bg n ca cf cg F G o) cells slots [(0, .ref b), (1, .ref (ba 6)), (2, .ref (a 0)), (3, .ref oa), (4, .int (nI i))] 918 [] := by
  obtain ⟨hsk, hs0, hs1⟩ := sim_free h hT u v x y
  refine fw_aload_n (pc := 918) X dL_law_918 rfl 1 rfl ?_
  refine fw_aload_n (pc := 919) X dL_law_919 rfl 0 rfl ?_
  refine fw_iload (pc := 920) X dL_law_920 4 rfl ?_
  refine fw_iconst (pc := 922) (v := 1) X dL_law_922 (by decide) ?_
  refine fw_iadd (pc := 923) X dL_law_923 ?_
  refine fw_sld (pc := 924) X hX hbl hbA (i + 1) (nf_add rfl (show (1 : Int32) = nI 1 from rfl)) (by omega) (by omega) hu dL_law_924 ?_
  refine fw_aload_n (pc := 925) X dL_law_925 rfl 0 rfl ?_
  refine fw_iload (pc := 926) X dL_law_926 4 rfl ?_
  refine fw_iconst (pc := 928) (v := 2) X dL_law_928 (by decide) ?_
  refine fw_iadd (pc := 929) X dL_law_929 ?_
  refine fw_sld (pc := 930) X hX hbl hbA (i + 2) (nf_add rfl (show (2 : Int32) = nI 2 from rfl)) (by omega) (by omega) hv dL_law_930 ?_
  refine fw_aload_n (pc := 931) X dL_law_931 rfl 0 rfl ?_
  refine fw_iload (pc := 932) X dL_law_932 4 rfl ?_
  refine fw_iconst (pc := 934) (v := 3) X dL_law_934 (by decide) ?_
  refine fw_iadd (pc := 935) X dL_law_935 ?_
  refine fw_sld (pc := 936) X hX hbl hbA (i + 3) (nf_add rfl (show (3 : Int32) = nI 3 from rfl)) (by omega) (by omega) hx dL_law_936 ?_
  refine fw_aload_n (pc := 937) X dL_law_937 rfl 0 rfl ?_
  refine fw_iload (pc := 938) X dL_law_938 4 rfl ?_
  refine fw_iconst (pc := 940) (v := 4) X dL_law_940 (by decide) ?_
  refine fw_iadd (pc := 941) X dL_law_941 ?_
  refine fw_sld (pc := 942) X hX hbl hbA (i + 4) (nf_add rfl (show (4 : Int32) = nI 4 from rfl)) (by omega) (by omega) hy dL_law_942 ?_
  refine fw_aload_n (pc := 943) X dL_law_943 rfl 3 rfl ?_
  refine fw_ws (ws' := (OW K oa o ++ BW K ba bf bg n ca cf cg) ++ MW K a F G) rfl ?_
  refine fw_callHR (pc := 944) (n := 6) X hE [.ref (ba 6), .int u, .int v, .int x, .int y, .ref oa] (ct_L_free hl u v x y h.1 (Rel_hT h)) (fun z => z) gL_law_L_free rfl ⟨rfl, rfl⟩ dsc_L_free ⟨(Nat.le_of_ble_eq_true rfl), (Nat.le_of_ble_eq_true rfl)⟩ rfl rfl (Nat.le_of_ble_eq_true rfl) dL_law_944 ⟨(by show _ ≤ 601024; omega), (by show _ ≤ 7293034; omega)⟩ (fun _ z => z.elim) (fun r0 u0 hq => ?_)
  subst hq
  refine fw_istore (pc := 947) (lv' := [(5, .int (b_fre_k n cg u v x y)), (0, .ref b), (1, .ref (ba 6)), (2, .ref (a 0)), (3, .ref oa), (4, .int (nI i))]) X dL_law_947 (by decide) rfl ?_
  by_cases hk : b_fre_k n cg u v x y = 0
  · refine fw_ws (ws' := (OW K oa (vp_updL o 0 (y * cg (ix u) 3 (ix v)).toInt64) ++ BW K ba bf (va_up (va_up bg 3 (upd (bg 3) (ix (cf (ix u) 0)) (bg 3 (ix (cf (ix u) 0)) - y * cg (ix u) 3 (ix v)))) 4 (upd (bg 4) (ix (cf (ix u) 0)) (bg 4 (ix (cf (ix u) 0)) + y * cg (ix u) 3 (ix v)))) n ca (b_to_cf cf (ix u) y) (va_up cg (ix u) (va_up (cg (ix u)) 4 (upd (cg (ix u) 4) (ix v * 3 + ix x) (cg (ix u) 4 (ix v * 3 + ix x) - y))))) ++ MW K a F G) (by rw [if_pos hk]) ?_
    refine fw_pm (ws' := MW K a F G ++ (OW K oa (vp_updL o 0 (y * cg (ix u) 3 (ix v)).toInt64) ++ BW K ba bf (va_up (va_up bg 3 (upd (bg 3) (ix (cf (ix u) 0)) (bg 3 (ix (cf (ix u) 0)) - y * cg (ix u) 3 (ix v)))) 4 (upd (bg 4) (ix (cf (ix u) 0)) (bg 4 (ix (cf (ix u) 0)) + y * cg (ix u) 3 (ix v)))) n ca (b_to_cf cf (ix u) y) (va_up cg (ix u) (va_up (cg (ix u)) 4 (upd (cg (ix u) 4) (ix v * 3 + ix x) (cg (ix u) 4 (ix v * 3 + ix x) - y)))))) List.perm_append_comm ?_
    refine fw_aload_n (pc := 949) X dL_law_949 rfl 3 rfl ?_
    refine fw_aload_n (pc := 950) X dL_law_950 rfl 1 rfl ?_
    refine fw_iload (pc := 951) X dL_law_951 5 rfl ?_
    refine fw_iconst (pc := 953) (v := 1) X dL_law_953 (by decide) ?_
    refine fw_iadd (pc := 954) X dL_law_954 ?_
    refine fw_sld (pc := 955) X hX hbl hbA (i + 1) (nf_add rfl (show (1 : Int32) = nI 1 from rfl)) (by omega) (by omega) hu dL_law_955 ?_
    refine fw_aload_n (pc := 956) X dL_law_956 rfl 1 rfl ?_
    refine fw_iload (pc := 957) X dL_law_957 5 rfl ?_
    refine fw_iconst (pc := 959) (v := 2) X dL_law_959 (by decide) ?_
    refine fw_iadd (pc := 960) X dL_law_960 ?_
    refine fw_sld (pc := 961) X hX hbl hbA (i + 2) (nf_add rfl (show (2 : Int32) = nI 2 from rfl)) (by omega) (by omega) hv dL_law_961 ?_
    refine fw_aload_n (pc := 962) X dL_law_962 rfl 1 rfl ?_
    refine fw_iload (pc := 963) X dL_law_963 5 rfl ?_
    refine fw_iconst (pc := 965) (v := 3) X dL_law_965 (by decide) ?_
    refine fw_iadd (pc := 966) X dL_law_966 ?_
    refine fw_sld (pc := 967) X hX hbl hbA (i + 3) (nf_add rfl (show (3 : Int32) = nI 3 from rfl)) (by omega) (by omega) hx dL_law_967 ?_
    refine fw_aload_n (pc := 968) X dL_law_968 rfl 1 rfl ?_
    refine fw_iload (pc := 969) X dL_law_969 5 rfl ?_
    refine fw_iconst (pc := 971) (v := 4) X dL_law_971 (by decide) ?_
    refine fw_iadd (pc := 972) X dL_law_972 ?_
    refine fw_sld (pc := 973) X hX hbl hbA (i + 4) (nf_add rfl (show (4 : Int32) = nI 4 from rfl)) (by omega) (by omega) hy dL_law_973 ?_
    refine fw_callVR (pc := 974) (n := 4) (C := (RX2, TX2, 21)) (ci := 2) (q0 := 0) X hE [.int u, .int v, .int x, .int y] (ct_X2_free u v x y h.2.2.1 h.1 (Rel_mT h)) (fun _ => rfl) gL_law_X2_free rfl ⟨rfl, rfl⟩ ⟨rfl, dsc_X2_free⟩ ⟨(Nat.le_of_ble_eq_true rfl), (Nat.le_of_ble_eq_true rfl)⟩ rfl M_obj rfl rfl (Nat.le_of_ble_eq_true rfl) dL_law_974 ⟨(by show _ ≤ 601024; omega), (by show _ ≤ 7293034; omega)⟩ (fun _ z => z.elim) (fun r1 u1 hq => ?_)
    subst hq
    refine fw_istore (pc := 977) (lv' := [(6, .int (m_fr_v F G u v x y)), (5, .int (b_fre_k n cg u v x y)), (0, .ref b), (1, .ref (ba 6)), (2, .ref (a 0)), (3, .ref oa), (4, .int (nI i))]) X dL_law_977 (by decide) rfl ?_
    refine fw_aload_n (pc := 979) X dL_law_979 rfl 4 rfl ?_
    refine fw_callVR (pc := 980) (n := 0) (C := (RX2, TX2, 21)) (ci := 2) (q0 := 0) X hE [] (ct_X2_thrown) (fun _ => rfl) gL_law_X2_thrown rfl ⟨rfl, rfl⟩ ⟨rfl, dsc_X2_thrown⟩ ⟨(Nat.le_of_ble_eq_true rfl), (Nat.le_of_ble_eq_true rfl)⟩ rfl M_obj rfl rfl (Nat.le_of_ble_eq_true rfl) dL_law_980 ⟨(by show _ ≤ 601024; omega), (by show _ ≤ 7293034; omega)⟩ (fun _ z => z.elim) (fun r2 u2 hq => ?_)
    subst hq
    refine fw_iload (pc := 983) X dL_law_983 1 rfl ?_
    refine fw_icmp_eq (pc := 985) (tgt := 990) X dL_law_985 (by decide) (fun _ => ?_) (fun q => absurd hsk q)
    refine fw_iload (pc := 990) X dL_law_990 1 rfl ?_
    refine fw_if_ne (pc := 992) (tgt := 1007) X dL_law_992 (by decide) (fun q => absurd hk q) (fun _ => ?_)
    refine fw_aload_n (pc := 995) X dL_law_995 rfl 5 rfl ?_
    refine fw_iconst (pc := 996) (v := 0) X dL_law_996 (by decide) ?_
    refine fw_lald (pc := 997) (n := 1) (cA := K 2) (f := vp_updL o 0 (y * cg (ix u) 3 (ix v)).toInt64) X 17 2 rfl rfl 0 (show (0 : Int32) = nI 0 from rfl) (by decide) (by decide) dL_law_997 ?_
    refine fw_iload (pc := 998) X dL_law_998 0 rfl ?_
    refine fw_iv (hs0 hk).1 ?_
    refine fw_i2l (pc := 1000) (v := (y * cg (ix u) 3 (ix v)).toInt64) X dL_law_1000 rfl ?_
    refine fw_lcmp (pc := 1001) X dL_law_1001 ?_
    refine fw_iv (y := 0) (by rw [show vp_updL o 0 (y * cg (ix u) 3 (ix v)).toInt64 0 = (y * cg (ix u) 3 (ix v)).toInt64 from rfl, lg_cmp_self]) ?_
    refine fw_if_eq (pc := 1002) (tgt := 1007) X dL_law_1002 (by decide) (fun _ => ?_) (fun q => absurd rfl q)
    refine fw_goto (pc := 1007) (tgt := 1406) X dL_law_1007 (by decide) ?_
    refine fw_pm (ws' := (OW K oa (vp_updL o 0 (y * cg (ix u) 3 (ix v)).toInt64) ++ BW K ba bf (va_up (va_up bg 3 (upd (bg 3) (ix (cf (ix u) 0)) (bg 3 (ix (cf (ix u) 0)) - y * cg (ix u) 3 (ix v)))) 4 (upd (bg 4) (ix (cf (ix u) 0)) (bg 4 (ix (cf (ix u) 0)) + y * cg (ix u) 3 (ix v)))) n ca (b_to_cf cf (ix u) y) (va_up cg (ix u) (va_up (cg (ix u)) 4 (upd (cg (ix u) 4) (ix v * 3 + ix x) (cg (ix u) 4 (ix v * 3 + ix x) - y))))) ++ MW K a (upd F 0 (m_why F G u v x y)) (m_fr_G F G u v x y)) List.perm_append_comm ?_
    refine fw_lv (lv' := [(0, .ref b), (1, .ref (ba 6)), (2, .ref (a 0)), (3, .ref oa), (4, .int (nI i))]) [2, 3, 4, 5, 6] rfl ?_
    refine fw_wd (k := cells + 20) (n := slots + 200) (by omega) (by omega) ?_
    exact kk _ _ _ _ _ _ _ _ _ (hs0 hk).2
  · refine fw_ws (ws' := (OW K oa o ++ BW K ba bf bg n ca cf cg) ++ MW K a F G) (by rw [if_neg hk]) ?_
    refine fw_pm (ws' := MW K a F G ++ (OW K oa o ++ BW K ba bf bg n ca cf cg)) List.perm_append_comm ?_
    refine fw_aload_n (pc := 949) X dL_law_949 rfl 3 rfl ?_
    refine fw_aload_n (pc := 950) X dL_law_950 rfl 1 rfl ?_
    refine fw_iload (pc := 951) X dL_law_951 5 rfl ?_
    refine fw_iconst (pc := 953) (v := 1) X dL_law_953 (by decide) ?_
    refine fw_iadd (pc := 954) X dL_law_954 ?_
    refine fw_sld (pc := 955) X hX hbl hbA (i + 1) (nf_add rfl (show (1 : Int32) = nI 1 from rfl)) (by omega) (by omega) hu dL_law_955 ?_
    refine fw_aload_n (pc := 956) X dL_law_956 rfl 1 rfl ?_
    refine fw_iload (pc := 957) X dL_law_957 5 rfl ?_
    refine fw_iconst (pc := 959) (v := 2) X dL_law_959 (by decide) ?_
    refine fw_iadd (pc := 960) X dL_law_960 ?_
    refine fw_sld (pc := 961) X hX hbl hbA (i + 2) (nf_add rfl (show (2 : Int32) = nI 2 from rfl)) (by omega) (by omega) hv dL_law_961 ?_
    refine fw_aload_n (pc := 962) X dL_law_962 rfl 1 rfl ?_
    refine fw_iload (pc := 963) X dL_law_963 5 rfl ?_
    refine fw_iconst (pc := 965) (v := 3) X dL_law_965 (by decide) ?_
    refine fw_iadd (pc := 966) X dL_law_966 ?_
    refine fw_sld (pc := 967) X hX hbl hbA (i + 3) (nf_add rfl (show (3 : Int32) = nI 3 from rfl)) (by omega) (by omega) hx dL_law_967 ?_
    refine fw_aload_n (pc := 968) X dL_law_968 rfl 1 rfl ?_
    refine fw_iload (pc := 969) X dL_law_969 5 rfl ?_
    refine fw_iconst (pc := 971) (v := 4) X dL_law_971 (by decide) ?_
    refine fw_iadd (pc := 972) X dL_law_972 ?_
    refine fw_sld (pc := 973) X hX hbl hbA (i + 4) (nf_add rfl (show (4 : Int32) = nI 4 from rfl)) (by omega) (by omega) hy dL_law_973 ?_
    refine fw_callVR (pc := 974) (n := 4) (C := (RX2, TX2, 21)) (ci := 2) (q0 := 0) X hE [.int u, .int v, .int x, .int y] (ct_X2_free u v x y h.2.2.1 h.1 (Rel_mT h)) (fun _ => rfl) gL_law_X2_free rfl ⟨rfl, rfl⟩ ⟨rfl, dsc_X2_free⟩ ⟨(Nat.le_of_ble_eq_true rfl), (Nat.le_of_ble_eq_true rfl)⟩ rfl M_obj rfl rfl (Nat.le_of_ble_eq_true rfl) dL_law_974 ⟨(by show _ ≤ 601024; omega), (by show _ ≤ 7293034; omega)⟩ (fun _ z => z.elim) (fun r1 u1 hq => ?_)
    subst hq
    refine fw_istore (pc := 977) (lv' := [(6, .int (m_fr_v F G u v x y)), (5, .int (b_fre_k n cg u v x y)), (0, .ref b), (1, .ref (ba 6)), (2, .ref (a 0)), (3, .ref oa), (4, .int (nI i))]) X dL_law_977 (by decide) rfl ?_
    refine fw_aload_n (pc := 979) X dL_law_979 rfl 4 rfl ?_
    refine fw_callVR (pc := 980) (n := 0) (C := (RX2, TX2, 21)) (ci := 2) (q0 := 0) X hE [] (ct_X2_thrown) (fun _ => rfl) gL_law_X2_thrown rfl ⟨rfl, rfl⟩ ⟨rfl, dsc_X2_thrown⟩ ⟨(Nat.le_of_ble_eq_true rfl), (Nat.le_of_ble_eq_true rfl)⟩ rfl M_obj rfl rfl (Nat.le_of_ble_eq_true rfl) dL_law_980 ⟨(by show _ ≤ 601024; omega), (by show _ ≤ 7293034; omega)⟩ (fun _ z => z.elim) (fun r2 u2 hq => ?_)
    subst hq
    refine fw_iload (pc := 983) X dL_law_983 1 rfl ?_
    refine fw_icmp_eq (pc := 985) (tgt := 990) X dL_law_985 (by decide) (fun _ => ?_) (fun q => absurd hsk q)
    refine fw_iload (pc := 990) X dL_law_990 1 rfl ?_
    refine fw_if_ne (pc := 992) (tgt := 1007) X dL_law_992 (by decide) (fun _ => ?_) (fun q => absurd q hk)
    refine fw_goto (pc := 1007) (tgt := 1406) X dL_law_1007 (by decide) ?_
    refine fw_pm (ws' := (OW K oa o ++ BW K ba bf bg n ca cf cg) ++ MW K a (upd F 0 (m_why F G u v x y)) (m_fr_G F G u v x y)) List.perm_append_comm ?_
    refine fw_lv (lv' := [(0, .ref b), (1, .ref (ba 6)), (2, .ref (a 0)), (3, .ref oa), (4, .int (nI i))]) [2, 3, 4, 5, 6] rfl ?_
    refine fw_wd (k := cells + 20) (n := slots + 200) (by omega) (by omega) ?_
    exact kk _ _ _ _ _ _ _ _ _ (hs1 hk)
set_option maxHeartbeats 4000000 in
set_option maxRecDepth 100000 in
theorem lc_sendBack {p : Program} {l : Launch} {e : Env} {s : State} {m : MethodId} {args : Array Value} {below : List Frame} {meth : Method} {c : Code} {D : va_G} {A : Nat → Prop} {Q : State → Prop} {cells slots : Nat} {K : Nat → ClassId} {ba : Nat → Nat} {oa : Nat} {a : Nat → Nat} {o : Nat → Int64} {b L : Nat} {xs : Nat → Int32} {T n : Nat} {bf : Nat → Int32} {bg : Nat → Nat → Int32} {ca : Nat → Nat → Nat} {cf : Nat → Nat → Int32} {cg : Nat → Nat → Nat → Int32} {F : Nat → Int32} {G : Nat → Nat → Int32} (X : fw_X p s m args c D A 7 cL_law RL wsL_law (tyS K)) (hE : fw_E true A s) (hl : l.stackTraces = false) (hX : va_X b L xs s s.heap) (hbl : b < s.heap.size) (hbA : ¬ A b) (h : Rel T bf bg n cf cg F G) (hT : T ≤ 600) (i : Nat) (hi : i + 6 ≤ L) (hL : L ≤ 3072) (hc : cells ≤ 500000) (hs : slots ≤ 7000000) (u v x y : Int32) (hu : xs (i + 1) = u) (hv : xs (i + 2) = v) (hx : xs (i + 3) = x) (hy : xs (i + 4) = y) (kk : ∀ (bf2 : Nat → Int32) (bg2 : Nat → Nat → Int32) (n2 : Nat) (ca2 : Nat → Nat → Nat) (cf2 : Nat → Nat → Int32) (cg2 : Nat → Nat → Nat → Int32) (F2 : Nat → Int32) (G2 : Nat → Nat → Int32) (o2 : Nat → Int64), Rel (T + 1) bf2 bg2 n2 cf2 cg2 F2 G2 → fw_W p l e room_1 s m args below meth c D A 7 Q (LWW K ba oa a bf2 bg2 n2 ca2 cf2 cg2 F2 G2 o2) (cells + 20) (slots + 200) [(0, .ref b), (1, .ref (ba 6)), (2, .ref (a 0)), (3, .ref oa), (4, .int (nI i))] 1406 []) : fw_W p l e room_1 s m args below meth c D A 7 Q (LWW K ba oa a bf bg n ca cf cg F G o) cells slots [(0, .ref b), (1, .ref (ba 6)), (2, .ref (a 0)), (3, .ref oa), (4, .int (nI i))] 1010 [] := by
  obtain ⟨hsk, hs0, hs1⟩ := sim_sendBack h hT u v x y
  refine fw_aload_n (pc := 1010) X dL_law_1010 rfl 1 rfl ?_
  refine fw_aload_n (pc := 1011) X dL_law_1011 rfl 0 rfl ?_
  refine fw_iload (pc := 1012) X dL_law_1012 4 rfl ?_
  refine fw_iconst (pc := 1014) (v := 1) X dL_law_1014 (by decide) ?_
  refine fw_iadd (pc := 1015) X dL_law_1015 ?_
  refine fw_sld (pc := 1016) X hX hbl hbA (i + 1) (nf_add rfl (show (1 : Int32) = nI 1 from rfl)) (by omega) (by omega) hu dL_law_1016 ?_
  refine fw_aload_n (pc := 1017) X dL_law_1017 rfl 0 rfl ?_
  refine fw_iload (pc := 1018) X dL_law_1018 4 rfl ?_
  refine fw_iconst (pc := 1020) (v := 2) X dL_law_1020 (by decide) ?_
  refine fw_iadd (pc := 1021) X dL_law_1021 ?_
  refine fw_sld (pc := 1022) X hX hbl hbA (i + 2) (nf_add rfl (show (2 : Int32) = nI 2 from rfl)) (by omega) (by omega) hv dL_law_1022 ?_
  refine fw_aload_n (pc := 1023) X dL_law_1023 rfl 0 rfl ?_
  refine fw_iload (pc := 1024) X dL_law_1024 4 rfl ?_
  refine fw_iconst (pc := 1026) (v := 3) X dL_law_1026 (by decide) ?_
  refine fw_iadd (pc := 1027) X dL_law_1027 ?_
  refine fw_sld (pc := 1028) X hX hbl hbA (i + 3) (nf_add rfl (show (3 : Int32) = nI 3 from rfl)) (by omega) (by omega) hx dL_law_1028 ?_
  refine fw_aload_n (pc := 1029) X dL_law_1029 rfl 0 rfl ?_
  refine fw_iload (pc := 1030) X dL_law_1030 4 rfl ?_
  refine fw_iconst (pc := 1032) (v := 4) X dL_law_1032 (by decide) ?_
  refine fw_iadd (pc := 1033) X dL_law_1033 ?_
  refine fw_sld (pc := 1034) X hX hbl hbA (i + 4) (nf_add rfl (show (4 : Int32) = nI 4 from rfl)) (by omega) (by omega) hy dL_law_1034 ?_
  refine fw_aload_n (pc := 1035) X dL_law_1035 rfl 3 rfl ?_
  refine fw_ws (ws' := (OW K oa o ++ BW K ba bf bg n ca cf cg) ++ MW K a F G) rfl ?_
  refine fw_callHR (pc := 1036) (n := 6) X hE [.ref (ba 6), .int u, .int v, .int x, .int y, .ref oa] (ct_L_sendBack hl u v x y h.1 (Rel_hT h)) (fun z => z) gL_law_L_sendBack rfl ⟨rfl, rfl⟩ dsc_L_sendBack ⟨(Nat.le_of_ble_eq_true rfl), (Nat.le_of_ble_eq_true rfl)⟩ rfl rfl (Nat.le_of_ble_eq_true rfl) dL_law_1036 ⟨(by show _ ≤ 601024; omega), (by show _ ≤ 7293034; omega)⟩ (fun _ z => z.elim) (fun r0 u0 hq => ?_)
  subst hq
  refine fw_istore (pc := 1039) (lv' := [(5, .int (b_fre_k n cg u v x y)), (0, .ref b), (1, .ref (ba 6)), (2, .ref (a 0)), (3, .ref oa), (4, .int (nI i))]) X dL_law_1039 (by decide) rfl ?_
  by_cases hk : b_fre_k n cg u v x y = 0
  · refine fw_ws (ws' := (OW K oa (vp_updL o 0 (y * cg (ix u) 3 (ix v)).toInt64) ++ BW K ba bf (va_up bg 3 (upd (bg 3) (ix (cf (ix u) 0)) (bg 3 (ix (cf (ix u) 0)) - y * cg (ix u) 3 (ix v)))) n ca (b_to_cf cf (ix u) y) (va_up cg (ix u) (va_up (cg (ix u)) 4 (upd (cg (ix u) 4) (ix v * 3 + ix x) (cg (ix u) 4 (ix v * 3 + ix x) - y))))) ++ MW K a F G) (by rw [if_pos hk]) ?_
    refine fw_pm (ws' := MW K a F G ++ (OW K oa (vp_updL o 0 (y * cg (ix u) 3 (ix v)).toInt64) ++ BW K ba bf (va_up bg 3 (upd (bg 3) (ix (cf (ix u) 0)) (bg 3 (ix (cf (ix u) 0)) - y * cg (ix u) 3 (ix v)))) n ca (b_to_cf cf (ix u) y) (va_up cg (ix u) (va_up (cg (ix u)) 4 (upd (cg (ix u) 4) (ix v * 3 + ix x) (cg (ix u) 4 (ix v * 3 + ix x) - y)))))) List.perm_append_comm ?_
    refine fw_aload_n (pc := 1041) X dL_law_1041 rfl 3 rfl ?_
    refine fw_aload_n (pc := 1042) X dL_law_1042 rfl 1 rfl ?_
    refine fw_iload (pc := 1043) X dL_law_1043 5 rfl ?_
    refine fw_iconst (pc := 1045) (v := 1) X dL_law_1045 (by decide) ?_
    refine fw_iadd (pc := 1046) X dL_law_1046 ?_
    refine fw_sld (pc := 1047) X hX hbl hbA (i + 1) (nf_add rfl (show (1 : Int32) = nI 1 from rfl)) (by omega) (by omega) hu dL_law_1047 ?_
    refine fw_aload_n (pc := 1048) X dL_law_1048 rfl 1 rfl ?_
    refine fw_iload (pc := 1049) X dL_law_1049 5 rfl ?_
    refine fw_iconst (pc := 1051) (v := 2) X dL_law_1051 (by decide) ?_
    refine fw_iadd (pc := 1052) X dL_law_1052 ?_
    refine fw_sld (pc := 1053) X hX hbl hbA (i + 2) (nf_add rfl (show (2 : Int32) = nI 2 from rfl)) (by omega) (by omega) hv dL_law_1053 ?_
    refine fw_aload_n (pc := 1054) X dL_law_1054 rfl 1 rfl ?_
    refine fw_iload (pc := 1055) X dL_law_1055 5 rfl ?_
    refine fw_iconst (pc := 1057) (v := 3) X dL_law_1057 (by decide) ?_
    refine fw_iadd (pc := 1058) X dL_law_1058 ?_
    refine fw_sld (pc := 1059) X hX hbl hbA (i + 3) (nf_add rfl (show (3 : Int32) = nI 3 from rfl)) (by omega) (by omega) hx dL_law_1059 ?_
    refine fw_aload_n (pc := 1060) X dL_law_1060 rfl 1 rfl ?_
    refine fw_iload (pc := 1061) X dL_law_1061 5 rfl ?_
    refine fw_iconst (pc := 1063) (v := 4) X dL_law_1063 (by decide) ?_
    refine fw_iadd (pc := 1064) X dL_law_1064 ?_
    refine fw_sld (pc := 1065) X hX hbl hbA (i + 4) (nf_add rfl (show (4 : Int32) = nI 4 from rfl)) (by omega) (by omega) hy dL_law_1065 ?_
    refine fw_callVR (pc := 1066) (n := 4) (C := (RX2, TX2, 21)) (ci := 2) (q0 := 0) X hE [.int u, .int v, .int x, .int y] (ct_X2_sendBack u v x y h.2.2.1 h.1 (Rel_mT h)) (fun _ => rfl) gL_law_X2_sendBack rfl ⟨rfl, rfl⟩ ⟨rfl, dsc_X2_sendBack⟩ ⟨(Nat.le_of_ble_eq_true rfl), (Nat.le_of_ble_eq_true rfl)⟩ rfl M_obj rfl rfl (Nat.le_of_ble_eq_true rfl) dL_law_1066 ⟨(by show _ ≤ 601024; omega), (by show _ ≤ 7293034; omega)⟩ (fun _ z => z.elim) (fun r1 u1 hq => ?_)
    subst hq
    refine fw_istore (pc := 1069) (lv' := [(6, .int (m_fr_v F G u v x y)), (5, .int (b_fre_k n cg u v x y)), (0, .ref b), (1, .ref (ba 6)), (2, .ref (a 0)), (3, .ref oa), (4, .int (nI i))]) X dL_law_1069 (by decide) rfl ?_
    refine fw_aload_n (pc := 1071) X dL_law_1071 rfl 4 rfl ?_
    refine fw_callVR (pc := 1072) (n := 0) (C := (RX2, TX2, 21)) (ci := 2) (q0 := 0) X hE [] (ct_X2_thrown) (fun _ => rfl) gL_law_X2_thrown rfl ⟨rfl, rfl⟩ ⟨rfl, dsc_X2_thrown⟩ ⟨(Nat.le_of_ble_eq_true rfl), (Nat.le_of_ble_eq_true rfl)⟩ rfl M_obj rfl rfl (Nat.le_of_ble_eq_true rfl) dL_law_1072 ⟨(by show _ ≤ 601024; omega), (by show _ ≤ 7293034; omega)⟩ (fun _ z => z.elim) (fun r2 u2 hq => ?_)
    subst hq
    refine fw_iload (pc := 1075) X dL_law_1075 1 rfl ?_
    refine fw_icmp_eq (pc := 1077) (tgt := 1082) X dL_law_1077 (by decide) (fun _ => ?_) (fun q => absurd hsk q)
    refine fw_iload (pc := 1082) X dL_law_1082 1 rfl ?_
    refine fw_if_ne (pc := 1084) (tgt := 1099) X dL_law_1084 (by decide) (fun q => absurd hk q) (fun _ => ?_)
    refine fw_aload_n (pc := 1087) X dL_law_1087 rfl 5 rfl ?_
    refine fw_iconst (pc := 1088) (v := 0) X dL_law_1088 (by decide) ?_
    refine fw_lald (pc := 1089) (n := 1) (cA := K 2) (f := vp_updL o 0 (y * cg (ix u) 3 (ix v)).toInt64) X 17 2 rfl rfl 0 (show (0 : Int32) = nI 0 from rfl) (by decide) (by decide) dL_law_1089 ?_
    refine fw_iload (pc := 1090) X dL_law_1090 0 rfl ?_
    refine fw_iv (hs0 hk).1 ?_
    refine fw_i2l (pc := 1092) (v := (y * cg (ix u) 3 (ix v)).toInt64) X dL_law_1092 rfl ?_
    refine fw_lcmp (pc := 1093) X dL_law_1093 ?_
    refine fw_iv (y := 0) (by rw [show vp_updL o 0 (y * cg (ix u) 3 (ix v)).toInt64 0 = (y * cg (ix u) 3 (ix v)).toInt64 from rfl, lg_cmp_self]) ?_
    refine fw_if_eq (pc := 1094) (tgt := 1099) X dL_law_1094 (by decide) (fun _ => ?_) (fun q => absurd rfl q)
    refine fw_goto (pc := 1099) (tgt := 1406) X dL_law_1099 (by decide) ?_
    refine fw_pm (ws' := (OW K oa (vp_updL o 0 (y * cg (ix u) 3 (ix v)).toInt64) ++ BW K ba bf (va_up bg 3 (upd (bg 3) (ix (cf (ix u) 0)) (bg 3 (ix (cf (ix u) 0)) - y * cg (ix u) 3 (ix v)))) n ca (b_to_cf cf (ix u) y) (va_up cg (ix u) (va_up (cg (ix u)) 4 (upd (cg (ix u) 4) (ix v * 3 + ix x) (cg (ix u) 4 (ix v * 3 + ix x) - y))))) ++ MW K a (upd F 0 (m_why F G u v x y)) (m_sb_G F G u v x y)) List.perm_append_comm ?_
    refine fw_lv (lv' := [(0, .ref b), (1, .ref (ba 6)), (2, .ref (a 0)), (3, .ref oa), (4, .int (nI i))]) [2, 3, 4, 5, 6] rfl ?_
    refine fw_wd (k := cells + 20) (n := slots + 200) (by omega) (by omega) ?_
    exact kk _ _ _ _ _ _ _ _ _ (hs0 hk).2
  · refine fw_ws (ws' := (OW K oa o ++ BW K ba bf bg n ca cf cg) ++ MW K a F G) (by rw [if_neg hk]) ?_
    refine fw_pm (ws' := MW K a F G ++ (OW K oa o ++ BW K ba bf bg n ca cf cg)) List.perm_append_comm ?_
    refine fw_aload_n (pc := 1041) X dL_law_1041 rfl 3 rfl ?_
    refine fw_aload_n (pc := 1042) X dL_law_1042 rfl 1 rfl ?_
    refine fw_iload (pc := 1043) X dL_law_1043 5 rfl ?_
    refine fw_iconst (pc := 1045) (v := 1) X dL_law_1045 (by decide) ?_
    refine fw_iadd (pc := 1046) X dL_law_1046 ?_
    refine fw_sld (pc := 1047) X hX hbl hbA (i + 1) (nf_add rfl (show (1 : Int32) = nI 1 from rfl)) (by omega) (by omega) hu dL_law_1047 ?_
    refine fw_aload_n (pc := 1048) X dL_law_1048 rfl 1 rfl ?_
    refine fw_iload (pc := 1049) X dL_law_1049 5 rfl ?_
    refine fw_iconst (pc := 1051) (v := 2) X dL_law_1051 (by decide) ?_
    refine fw_iadd (pc := 1052) X dL_law_1052 ?_
    refine fw_sld (pc := 1053) X hX hbl hbA (i + 2) (nf_add rfl (show (2 : Int32) = nI 2 from rfl)) (by omega) (by omega) hv dL_law_1053 ?_
    refine fw_aload_n (pc := 1054) X dL_law_1054 rfl 1 rfl ?_
    refine fw_iload (pc := 1055) X dL_law_1055 5 rfl ?_
    refine fw_iconst (pc := 1057) (v := 3) X dL_law_1057 (by decide) ?_
    refine fw_iadd (pc := 1058) X dL_law_1058 ?_
    refine fw_sld (pc := 1059) X hX hbl hbA (i + 3) (nf_add rfl (show (3 : Int32) = nI 3 from rfl)) (by omega) (by omega) hx dL_law_1059 ?_
    refine fw_aload_n (pc := 1060) X dL_law_1060 rfl 1 rfl ?_
    refine fw_iload (pc := 1061) X dL_law_1061 5 rfl ?_
    refine fw_iconst (pc := 1063) (v := 4) X dL_law_1063 (by decide) ?_
    refine fw_iadd (pc := 1064) X dL_law_1064 ?_
    refine fw_sld (pc := 1065) X hX hbl hbA (i + 4) (nf_add rfl (show (4 : Int32) = nI 4 from rfl)) (by omega) (by omega) hy dL_law_1065 ?_
    refine fw_callVR (pc := 1066) (n := 4) (C := (RX2, TX2, 21)) (ci := 2) (q0 := 0) X hE [.int u, .int v, .int x, .int y] (ct_X2_sendBack u v x y h.2.2.1 h.1 (Rel_mT h)) (fun _ => rfl) gL_law_X2_sendBack rfl ⟨rfl, rfl⟩ ⟨rfl, dsc_X2_sendBack⟩ ⟨(Nat.le_of_ble_eq_true rfl), (Nat.le_of_ble_eq_true rfl)⟩ rfl M_obj rfl rfl (Nat.le_of_ble_eq_true rfl) dL_law_1066 ⟨(by show _ ≤ 601024; omega), (by show _ ≤ 7293034; omega)⟩ (fun _ z => z.elim) (fun r1 u1 hq => ?_)
    subst hq
    refine fw_istore (pc := 1069) (lv' := [(6, .int (m_fr_v F G u v x y)), (5, .int (b_fre_k n cg u v x y)), (0, .ref b), (1, .ref (ba 6)), (2, .ref (a 0)), (3, .ref oa), (4, .int (nI i))]) X dL_law_1069 (by decide) rfl ?_
    refine fw_aload_n (pc := 1071) X dL_law_1071 rfl 4 rfl ?_
    refine fw_callVR (pc := 1072) (n := 0) (C := (RX2, TX2, 21)) (ci := 2) (q0 := 0) X hE [] (ct_X2_thrown) (fun _ => rfl) gL_law_X2_thrown rfl ⟨rfl, rfl⟩ ⟨rfl, dsc_X2_thrown⟩ ⟨(Nat.le_of_ble_eq_true rfl), (Nat.le_of_ble_eq_true rfl)⟩ rfl M_obj rfl rfl (Nat.le_of_ble_eq_true rfl) dL_law_1072 ⟨(by show _ ≤ 601024; omega), (by show _ ≤ 7293034; omega)⟩ (fun _ z => z.elim) (fun r2 u2 hq => ?_)
    subst hq
    refine fw_iload (pc := 1075) X dL_law_1075 1 rfl ?_
    refine fw_icmp_eq (pc := 1077) (tgt := 1082) X dL_law_1077 (by decide) (fun _ => ?_) (fun q => absurd hsk q)
    refine fw_iload (pc := 1082) X dL_law_1082 1 rfl ?_
    refine fw_if_ne (pc := 1084) (tgt := 1099) X dL_law_1084 (by decide) (fun _ => ?_) (fun q => absurd q hk)
    refine fw_goto (pc := 1099) (tgt := 1406) X dL_law_1099 (by decide) ?_
    refine fw_pm (ws' := (OW K oa o ++ BW K ba bf bg n ca cf cg) ++ MW K a (upd F 0 (m_why F G u v x y)) (m_sb_G F G u v x y)) List.perm_append_comm ?_
    refine fw_lv (lv' := [(0, .ref b), (1, .ref (ba 6)), (2, .ref (a 0)), (3, .ref oa), (4, .int (nI i))]) [2, 3, 4, 5, 6] rfl ?_
    refine fw_wd (k := cells + 20) (n := slots + 200) (by omega) (by omega) ?_
    exact kk _ _ _ _ _ _ _ _ _ (hs1 hk)
set_option maxHeartbeats 4000000 in
set_option maxRecDepth 100000 in
theorem lc_state {p : Program} {l : Launch} {e : Env} {s : State} {m : MethodId} {args : Array Value} {below : List Frame} {meth : Method} {c : Code} {D : va_G} {A : Nat → Prop} {Q : State → Prop} {cells slots : Nat} {K : Nat → ClassId} {ba : Nat → Nat} {oa : Nat} {a : Nat → Nat} {o : Nat → Int64} {b L : Nat} {xs : Nat → Int32} {T n : Nat} {bf : Nat → Int32} {bg : Nat → Nat → Int32} {ca : Nat → Nat → Nat} {cf : Nat → Nat → Int32} {cg : Nat → Nat → Nat → Int32} {F : Nat → Int32} {G : Nat → Nat → Int32} (X : fw_X p s m args c D A 7 cL_law RL wsL_law (tyS K)) (hE : fw_E true A s) (hl : l.stackTraces = false) (hX : va_X b L xs s s.heap) (hbl : b < s.heap.size) (hbA : ¬ A b) (h : Rel T bf bg n cf cg F G) (hT : T ≤ 600) (i : Nat) (hi : i + 6 ≤ L) (hL : L ≤ 3072) (hc : cells ≤ 500000) (hs : slots ≤ 7000000) (u : Int32) (hu : xs (i + 1) = u) (kk : ∀ (bf2 : Nat → Int32) (bg2 : Nat → Nat → Int32) (n2 : Nat) (ca2 : Nat → Nat → Nat) (cf2 : Nat → Nat → Int32) (cg2 : Nat → Nat → Nat → Int32) (F2 : Nat → Int32) (G2 : Nat → Nat → Int32) (o2 : Nat → Int64), Rel (T + 1) bf2 bg2 n2 cf2 cg2 F2 G2 → fw_W p l e room_1 s m args below meth c D A 7 Q (LWW K ba oa a bf2 bg2 n2 ca2 cf2 cg2 F2 G2 o2) (cells + 20) (slots + 200) [(0, .ref b), (1, .ref (ba 6)), (2, .ref (a 0)), (3, .ref oa), (4, .int (nI i))] 1406 []) : fw_W p l e room_1 s m args below meth c D A 7 Q (LWW K ba oa a bf bg n ca cf cg F G o) cells slots [(0, .ref b), (1, .ref (ba 6)), (2, .ref (a 0)), (3, .ref oa), (4, .int (nI i))] 1102 [] := by
  obtain ⟨hsk, hs0, hs1⟩ := sim_state h hT u
  refine fw_aload_n (pc := 1102) X dL_law_1102 rfl 1 rfl ?_
  refine fw_aload_n (pc := 1103) X dL_law_1103 rfl 0 rfl ?_
  refine fw_iload (pc := 1104) X dL_law_1104 4 rfl ?_
  refine fw_iconst (pc := 1106) (v := 1) X dL_law_1106 (by decide) ?_
  refine fw_iadd (pc := 1107) X dL_law_1107 ?_
  refine fw_sld (pc := 1108) X hX hbl hbA (i + 1) (nf_add rfl (show (1 : Int32) = nI 1 from rfl)) (by omega) (by omega) hu dL_law_1108 ?_
  refine fw_aload_n (pc := 1109) X dL_law_1109 rfl 3 rfl ?_
  refine fw_ws (ws' := (OW K oa o ++ BW K ba bf bg n ca cf cg) ++ MW K a F G) rfl ?_
  refine fw_callHR (pc := 1110) (n := 3) X hE [.ref (ba 6), .int u, .ref oa] (ct_L_state hl u h.1) (fun z => z) gL_law_L_state rfl ⟨rfl, rfl⟩ dsc_L_state ⟨(Nat.le_of_ble_eq_true rfl), (Nat.le_of_ble_eq_true rfl)⟩ rfl rfl (Nat.le_of_ble_eq_true rfl) dL_law_1110 ⟨(by show _ ≤ 601024; omega), (by show _ ≤ 7293034; omega)⟩ (fun _ z => z.elim) (fun r0 u0 hq => ?_)
  subst hq
  refine fw_istore (pc := 1113) (lv' := [(5, .int (b_c_k n u)), (0, .ref b), (1, .ref (ba 6)), (2, .ref (a 0)), (3, .ref oa), (4, .int (nI i))]) X dL_law_1113 (by decide) rfl ?_
  by_cases hk : b_c_k n u = 0
  · refine fw_ws (ws' := (OW K oa (vp_updL o 0 (cf (ix u) 5).toInt64) ++ BW K ba bf bg n ca cf cg) ++ MW K a F G) (by rw [if_pos hk]) ?_
    refine fw_pm (ws' := MW K a F G ++ (OW K oa (vp_updL o 0 (cf (ix u) 5).toInt64) ++ BW K ba bf bg n ca cf cg)) List.perm_append_comm ?_
    refine fw_aload_n (pc := 1115) X dL_law_1115 rfl 3 rfl ?_
    refine fw_aload_n (pc := 1116) X dL_law_1116 rfl 1 rfl ?_
    refine fw_iload (pc := 1117) X dL_law_1117 5 rfl ?_
    refine fw_iconst (pc := 1119) (v := 1) X dL_law_1119 (by decide) ?_
    refine fw_iadd (pc := 1120) X dL_law_1120 ?_
    refine fw_sld (pc := 1121) X hX hbl hbA (i + 1) (nf_add rfl (show (1 : Int32) = nI 1 from rfl)) (by omega) (by omega) hu dL_law_1121 ?_
    refine fw_callVR (pc := 1122) (n := 1) (C := (RX2, TX2, 21)) (ci := 2) (q0 := 0) X hE [.int u] (ct_X2_state u h.2.2.1 h.1) (fun _ => rfl) gL_law_X2_state rfl ⟨rfl, rfl⟩ ⟨rfl, dsc_X2_state⟩ ⟨(Nat.le_of_ble_eq_true rfl), (Nat.le_of_ble_eq_true rfl)⟩ rfl M_obj rfl rfl (Nat.le_of_ble_eq_true rfl) dL_law_1122 ⟨(by show _ ≤ 601024; omega), (by show _ ≤ 7293034; omega)⟩ (fun _ z => z.elim) (fun r1 u1 hq => ?_)
    subst hq
    refine fw_istore (pc := 1125) (lv' := [(6, .int (m_sta_v F G u)), (5, .int (b_c_k n u)), (0, .ref b), (1, .ref (ba 6)), (2, .ref (a 0)), (3, .ref oa), (4, .int (nI i))]) X dL_law_1125 (by decide) rfl ?_
    refine fw_aload_n (pc := 1127) X dL_law_1127 rfl 4 rfl ?_
    refine fw_callVR (pc := 1128) (n := 0) (C := (RX2, TX2, 21)) (ci := 2) (q0 := 0) X hE [] (ct_X2_thrown) (fun _ => rfl) gL_law_X2_thrown rfl ⟨rfl, rfl⟩ ⟨rfl, dsc_X2_thrown⟩ ⟨(Nat.le_of_ble_eq_true rfl), (Nat.le_of_ble_eq_true rfl)⟩ rfl M_obj rfl rfl (Nat.le_of_ble_eq_true rfl) dL_law_1128 ⟨(by show _ ≤ 601024; omega), (by show _ ≤ 7293034; omega)⟩ (fun _ z => z.elim) (fun r2 u2 hq => ?_)
    subst hq
    refine fw_iload (pc := 1131) X dL_law_1131 1 rfl ?_
    refine fw_icmp_eq (pc := 1133) (tgt := 1138) X dL_law_1133 (by decide) (fun _ => ?_) (fun q => absurd hsk q)
    refine fw_iload (pc := 1138) X dL_law_1138 1 rfl ?_
    refine fw_if_ne (pc := 1140) (tgt := 1155) X dL_law_1140 (by decide) (fun q => absurd hk q) (fun _ => ?_)
    refine fw_aload_n (pc := 1143) X dL_law_1143 rfl 5 rfl ?_
    refine fw_iconst (pc := 1144) (v := 0) X dL_law_1144 (by decide) ?_
    refine fw_lald (pc := 1145) (n := 1) (cA := K 2) (f := vp_updL o 0 (cf (ix u) 5).toInt64) X 17 2 rfl rfl 0 (show (0 : Int32) = nI 0 from rfl) (by decide) (by decide) dL_law_1145 ?_
    refine fw_iload (pc := 1146) X dL_law_1146 0 rfl ?_
    refine fw_iv (hs0 hk).1 ?_
    refine fw_i2l (pc := 1148) (v := (cf (ix u) 5).toInt64) X dL_law_1148 rfl ?_
    refine fw_lcmp (pc := 1149) X dL_law_1149 ?_
    refine fw_iv (y := 0) (by rw [show vp_updL o 0 (cf (ix u) 5).toInt64 0 = (cf (ix u) 5).toInt64 from rfl, lg_cmp_self]) ?_
    refine fw_if_eq (pc := 1150) (tgt := 1155) X dL_law_1150 (by decide) (fun _ => ?_) (fun q => absurd rfl q)
    refine fw_goto (pc := 1155) (tgt := 1406) X dL_law_1155 (by decide) ?_
    refine fw_pm (ws' := (OW K oa (vp_updL o 0 (cf (ix u) 5).toInt64) ++ BW K ba bf bg n ca cf cg) ++ MW K a (upd F 0 (m_c_k F u)) G) List.perm_append_comm ?_
    refine fw_lv (lv' := [(0, .ref b), (1, .ref (ba 6)), (2, .ref (a 0)), (3, .ref oa), (4, .int (nI i))]) [2, 3, 4, 5, 6] rfl ?_
    refine fw_wd (k := cells + 20) (n := slots + 200) (by omega) (by omega) ?_
    exact kk _ _ _ _ _ _ _ _ _ (hs0 hk).2
  · refine fw_ws (ws' := (OW K oa o ++ BW K ba bf bg n ca cf cg) ++ MW K a F G) (by rw [if_neg hk]) ?_
    refine fw_pm (ws' := MW K a F G ++ (OW K oa o ++ BW K ba bf bg n ca cf cg)) List.perm_append_comm ?_
    refine fw_aload_n (pc := 1115) X dL_law_1115 rfl 3 rfl ?_
    refine fw_aload_n (pc := 1116) X dL_law_1116 rfl 1 rfl ?_
    refine fw_iload (pc := 1117) X dL_law_1117 5 rfl ?_
    refine fw_iconst (pc := 1119) (v := 1) X dL_law_1119 (by decide) ?_
    refine fw_iadd (pc := 1120) X dL_law_1120 ?_
    refine fw_sld (pc := 1121) X hX hbl hbA (i + 1) (nf_add rfl (show (1 : Int32) = nI 1 from rfl)) (by omega) (by omega) hu dL_law_1121 ?_
    refine fw_callVR (pc := 1122) (n := 1) (C := (RX2, TX2, 21)) (ci := 2) (q0 := 0) X hE [.int u] (ct_X2_state u h.2.2.1 h.1) (fun _ => rfl) gL_law_X2_state rfl ⟨rfl, rfl⟩ ⟨rfl, dsc_X2_state⟩ ⟨(Nat.le_of_ble_eq_true rfl), (Nat.le_of_ble_eq_true rfl)⟩ rfl M_obj rfl rfl (Nat.le_of_ble_eq_true rfl) dL_law_1122 ⟨(by show _ ≤ 601024; omega), (by show _ ≤ 7293034; omega)⟩ (fun _ z => z.elim) (fun r1 u1 hq => ?_)
    subst hq
    refine fw_istore (pc := 1125) (lv' := [(6, .int (m_sta_v F G u)), (5, .int (b_c_k n u)), (0, .ref b), (1, .ref (ba 6)), (2, .ref (a 0)), (3, .ref oa), (4, .int (nI i))]) X dL_law_1125 (by decide) rfl ?_
    refine fw_aload_n (pc := 1127) X dL_law_1127 rfl 4 rfl ?_
    refine fw_callVR (pc := 1128) (n := 0) (C := (RX2, TX2, 21)) (ci := 2) (q0 := 0) X hE [] (ct_X2_thrown) (fun _ => rfl) gL_law_X2_thrown rfl ⟨rfl, rfl⟩ ⟨rfl, dsc_X2_thrown⟩ ⟨(Nat.le_of_ble_eq_true rfl), (Nat.le_of_ble_eq_true rfl)⟩ rfl M_obj rfl rfl (Nat.le_of_ble_eq_true rfl) dL_law_1128 ⟨(by show _ ≤ 601024; omega), (by show _ ≤ 7293034; omega)⟩ (fun _ z => z.elim) (fun r2 u2 hq => ?_)
    subst hq
    refine fw_iload (pc := 1131) X dL_law_1131 1 rfl ?_
    refine fw_icmp_eq (pc := 1133) (tgt := 1138) X dL_law_1133 (by decide) (fun _ => ?_) (fun q => absurd hsk q)
    refine fw_iload (pc := 1138) X dL_law_1138 1 rfl ?_
    refine fw_if_ne (pc := 1140) (tgt := 1155) X dL_law_1140 (by decide) (fun _ => ?_) (fun q => absurd q hk)
    refine fw_goto (pc := 1155) (tgt := 1406) X dL_law_1155 (by decide) ?_
    refine fw_pm (ws' := (OW K oa o ++ BW K ba bf bg n ca cf cg) ++ MW K a (upd F 0 (m_c_k F u)) G) List.perm_append_comm ?_
    refine fw_lv (lv' := [(0, .ref b), (1, .ref (ba 6)), (2, .ref (a 0)), (3, .ref oa), (4, .int (nI i))]) [2, 3, 4, 5, 6] rfl ?_
    refine fw_wd (k := cells + 20) (n := slots + 200) (by omega) (by omega) ?_
    exact kk _ _ _ _ _ _ _ _ _ (hs1 hk)
set_option maxHeartbeats 4000000 in
set_option maxRecDepth 100000 in
theorem lc_manifest {p : Program} {l : Launch} {e : Env} {s : State} {m : MethodId} {args : Array Value} {below : List Frame} {meth : Method} {c : Code} {D : va_G} {A : Nat → Prop} {Q : State → Prop} {cells slots : Nat} {K : Nat → ClassId} {ba : Nat → Nat} {oa : Nat} {a : Nat → Nat} {o : Nat → Int64} {b L : Nat} {xs : Nat → Int32} {T n : Nat} {bf : Nat → Int32} {bg : Nat → Nat → Int32} {ca : Nat → Nat → Nat} {cf : Nat → Nat → Int32} {cg : Nat → Nat → Nat → Int32} {F : Nat → Int32} {G : Nat → Nat → Int32} (X : fw_X p s m args c D A 7 cL_law RL wsL_law (tyS K)) (hE : fw_E true A s) (hl : l.stackTraces = false) (hX : va_X b L xs s s.heap) (hbl : b < s.heap.size) (hbA : ¬ A b) (h : Rel T bf bg n cf cg F G) (hT : T ≤ 600) (i : Nat) (hi : i + 6 ≤ L) (hL : L ≤ 3072) (hc : cells ≤ 500000) (hs : slots ≤ 7000000) (u v : Int32) (hu : xs (i + 1) = u) (hv : xs (i + 2) = v) (kk : ∀ (bf2 : Nat → Int32) (bg2 : Nat → Nat → Int32) (n2 : Nat) (ca2 : Nat → Nat → Nat) (cf2 : Nat → Nat → Int32) (cg2 : Nat → Nat → Nat → Int32) (F2 : Nat → Int32) (G2 : Nat → Nat → Int32) (o2 : Nat → Int64), Rel (T + 1) bf2 bg2 n2 cf2 cg2 F2 G2 → fw_W p l e room_1 s m args below meth c D A 7 Q (LWW K ba oa a bf2 bg2 n2 ca2 cf2 cg2 F2 G2 o2) (cells + 20) (slots + 200) [(0, .ref b), (1, .ref (ba 6)), (2, .ref (a 0)), (3, .ref oa), (4, .int (nI i))] 1406 []) : fw_W p l e room_1 s m args below meth c D A 7 Q (LWW K ba oa a bf bg n ca cf cg F G o) cells slots [(0, .ref b), (1, .ref (ba 6)), (2, .ref (a 0)), (3, .ref oa), (4, .int (nI i))] 1158 [] := by
  obtain ⟨hsk, hs0, hs1⟩ := sim_manifest h hT u v
  refine fw_aload_n (pc := 1158) X dL_law_1158 rfl 1 rfl ?_
  refine fw_aload_n (pc := 1159) X dL_law_1159 rfl 0 rfl ?_
  refine fw_iload (pc := 1160) X dL_law_1160 4 rfl ?_
  refine fw_iconst (pc := 1162) (v := 1) X dL_law_1162 (by decide) ?_
  refine fw_iadd (pc := 1163) X dL_law_1163 ?_
  refine fw_sld (pc := 1164) X hX hbl hbA (i + 1) (nf_add rfl (show (1 : Int32) = nI 1 from rfl)) (by omega) (by omega) hu dL_law_1164 ?_
  refine fw_aload_n (pc := 1165) X dL_law_1165 rfl 0 rfl ?_
  refine fw_iload (pc := 1166) X dL_law_1166 4 rfl ?_
  refine fw_iconst (pc := 1168) (v := 2) X dL_law_1168 (by decide) ?_
  refine fw_iadd (pc := 1169) X dL_law_1169 ?_
  refine fw_sld (pc := 1170) X hX hbl hbA (i + 2) (nf_add rfl (show (2 : Int32) = nI 2 from rfl)) (by omega) (by omega) hv dL_law_1170 ?_
  refine fw_aload_n (pc := 1171) X dL_law_1171 rfl 3 rfl ?_
  refine fw_ws (ws' := (OW K oa o ++ BW K ba bf bg n ca cf cg) ++ MW K a F G) rfl ?_
  refine fw_callHR (pc := 1172) (n := 4) X hE [.ref (ba 6), .int u, .int v, .ref oa] (ct_L_manifest hl u v h.1) (fun z => z) gL_law_L_manifest rfl ⟨rfl, rfl⟩ dsc_L_manifest ⟨(Nat.le_of_ble_eq_true rfl), (Nat.le_of_ble_eq_true rfl)⟩ rfl rfl (Nat.le_of_ble_eq_true rfl) dL_law_1172 ⟨(by show _ ≤ 601024; omega), (by show _ ≤ 7293034; omega)⟩ (fun _ z => z.elim) (fun r0 u0 hq => ?_)
  subst hq
  refine fw_istore (pc := 1175) (lv' := [(5, .int (b_man_k n u v)), (0, .ref b), (1, .ref (ba 6)), (2, .ref (a 0)), (3, .ref oa), (4, .int (nI i))]) X dL_law_1175 (by decide) rfl ?_
  by_cases hk : b_man_k n u v = 0
  · refine fw_ws (ws' := (OW K oa (vp_updL o 0 (cg (ix u) 2 (ix v)).toInt64) ++ BW K ba bf bg n ca cf cg) ++ MW K a F G) (by rw [if_pos hk]) ?_
    refine fw_pm (ws' := MW K a F G ++ (OW K oa (vp_updL o 0 (cg (ix u) 2 (ix v)).toInt64) ++ BW K ba bf bg n ca cf cg)) List.perm_append_comm ?_
    refine fw_aload_n (pc := 1177) X dL_law_1177 rfl 3 rfl ?_
    refine fw_aload_n (pc := 1178) X dL_law_1178 rfl 1 rfl ?_
    refine fw_iload (pc := 1179) X dL_law_1179 5 rfl ?_
    refine fw_iconst (pc := 1181) (v := 1) X dL_law_1181 (by decide) ?_
    refine fw_iadd (pc := 1182) X dL_law_1182 ?_
    refine fw_sld (pc := 1183) X hX hbl hbA (i + 1) (nf_add rfl (show (1 : Int32) = nI 1 from rfl)) (by omega) (by omega) hu dL_law_1183 ?_
    refine fw_aload_n (pc := 1184) X dL_law_1184 rfl 1 rfl ?_
    refine fw_iload (pc := 1185) X dL_law_1185 5 rfl ?_
    refine fw_iconst (pc := 1187) (v := 2) X dL_law_1187 (by decide) ?_
    refine fw_iadd (pc := 1188) X dL_law_1188 ?_
    refine fw_sld (pc := 1189) X hX hbl hbA (i + 2) (nf_add rfl (show (2 : Int32) = nI 2 from rfl)) (by omega) (by omega) hv dL_law_1189 ?_
    refine fw_callVR (pc := 1190) (n := 2) (C := (RX2, TX2, 21)) (ci := 2) (q0 := 0) X hE [.int u, .int v] (ct_X2_manifest u v h.2.2.1 h.1) (fun _ => rfl) gL_law_X2_manifest rfl ⟨rfl, rfl⟩ ⟨rfl, dsc_X2_manifest⟩ ⟨(Nat.le_of_ble_eq_true rfl), (Nat.le_of_ble_eq_true rfl)⟩ rfl M_obj rfl rfl (Nat.le_of_ble_eq_true rfl) dL_law_1190 ⟨(by show _ ≤ 601024; omega), (by show _ ≤ 7293034; omega)⟩ (fun _ z => z.elim) (fun r1 u1 hq => ?_)
    subst hq
    refine fw_istore (pc := 1193) (lv' := [(6, .int (m_man_v F G u v)), (5, .int (b_man_k n u v)), (0, .ref b), (1, .ref (ba 6)), (2, .ref (a 0)), (3, .ref oa), (4, .int (nI i))]) X dL_law_1193 (by decide) rfl ?_
    refine fw_aload_n (pc := 1195) X dL_law_1195 rfl 4 rfl ?_
    refine fw_callVR (pc := 1196) (n := 0) (C := (RX2, TX2, 21)) (ci := 2) (q0 := 0) X hE [] (ct_X2_thrown) (fun _ => rfl) gL_law_X2_thrown rfl ⟨rfl, rfl⟩ ⟨rfl, dsc_X2_thrown⟩ ⟨(Nat.le_of_ble_eq_true rfl), (Nat.le_of_ble_eq_true rfl)⟩ rfl M_obj rfl rfl (Nat.le_of_ble_eq_true rfl) dL_law_1196 ⟨(by show _ ≤ 601024; omega), (by show _ ≤ 7293034; omega)⟩ (fun _ z => z.elim) (fun r2 u2 hq => ?_)
    subst hq
    refine fw_iload (pc := 1199) X dL_law_1199 1 rfl ?_
    refine fw_icmp_eq (pc := 1201) (tgt := 1206) X dL_law_1201 (by decide) (fun _ => ?_) (fun q => absurd hsk q)
    refine fw_iload (pc := 1206) X dL_law_1206 1 rfl ?_
    refine fw_if_ne (pc := 1208) (tgt := 1223) X dL_law_1208 (by decide) (fun q => absurd hk q) (fun _ => ?_)
    refine fw_aload_n (pc := 1211) X dL_law_1211 rfl 5 rfl ?_
    refine fw_iconst (pc := 1212) (v := 0) X dL_law_1212 (by decide) ?_
    refine fw_lald (pc := 1213) (n := 1) (cA := K 2) (f := vp_updL o 0 (cg (ix u) 2 (ix v)).toInt64) X 17 2 rfl rfl 0 (show (0 : Int32) = nI 0 from rfl) (by decide) (by decide) dL_law_1213 ?_
    refine fw_iload (pc := 1214) X dL_law_1214 0 rfl ?_
    refine fw_iv (hs0 hk).1 ?_
    refine fw_i2l (pc := 1216) (v := (cg (ix u) 2 (ix v)).toInt64) X dL_law_1216 rfl ?_
    refine fw_lcmp (pc := 1217) X dL_law_1217 ?_
    refine fw_iv (y := 0) (by rw [show vp_updL o 0 (cg (ix u) 2 (ix v)).toInt64 0 = (cg (ix u) 2 (ix v)).toInt64 from rfl, lg_cmp_self]) ?_
    refine fw_if_eq (pc := 1218) (tgt := 1223) X dL_law_1218 (by decide) (fun _ => ?_) (fun q => absurd rfl q)
    refine fw_goto (pc := 1223) (tgt := 1406) X dL_law_1223 (by decide) ?_
    refine fw_pm (ws' := (OW K oa (vp_updL o 0 (cg (ix u) 2 (ix v)).toInt64) ++ BW K ba bf bg n ca cf cg) ++ MW K a (upd F 0 (m_man_k F u v)) G) List.perm_append_comm ?_
    refine fw_lv (lv' := [(0, .ref b), (1, .ref (ba 6)), (2, .ref (a 0)), (3, .ref oa), (4, .int (nI i))]) [2, 3, 4, 5, 6] rfl ?_
    refine fw_wd (k := cells + 20) (n := slots + 200) (by omega) (by omega) ?_
    exact kk _ _ _ _ _ _ _ _ _ (hs0 hk).2
  · refine fw_ws (ws' := (OW K oa o ++ BW K ba bf bg n ca cf cg) ++ MW K a F G) (by rw [if_neg hk]) ?_
    refine fw_pm (ws' := MW K a F G ++ (OW K oa o ++ BW K ba bf bg n ca cf cg)) List.perm_append_comm ?_
    refine fw_aload_n (pc := 1177) X dL_law_1177 rfl 3 rfl ?_
    refine fw_aload_n (pc := 1178) X dL_law_1178 rfl 1 rfl ?_
    refine fw_iload (pc := 1179) X dL_law_1179 5 rfl ?_
    refine fw_iconst (pc := 1181) (v := 1) X dL_law_1181 (by decide) ?_
    refine fw_iadd (pc := 1182) X dL_law_1182 ?_
    refine fw_sld (pc := 1183) X hX hbl hbA (i + 1) (nf_add rfl (show (1 : Int32) = nI 1 from rfl)) (by omega) (by omega) hu dL_law_1183 ?_
    refine fw_aload_n (pc := 1184) X dL_law_1184 rfl 1 rfl ?_
    refine fw_iload (pc := 1185) X dL_law_1185 5 rfl ?_
    refine fw_iconst (pc := 1187) (v := 2) X dL_law_1187 (by decide) ?_
    refine fw_iadd (pc := 1188) X dL_law_1188 ?_
    refine fw_sld (pc := 1189) X hX hbl hbA (i + 2) (nf_add rfl (show (2 : Int32) = nI 2 from rfl)) (by omega) (by omega) hv dL_law_1189 ?_
    refine fw_callVR (pc := 1190) (n := 2) (C := (RX2, TX2, 21)) (ci := 2) (q0 := 0) X hE [.int u, .int v] (ct_X2_manifest u v h.2.2.1 h.1) (fun _ => rfl) gL_law_X2_manifest rfl ⟨rfl, rfl⟩ ⟨rfl, dsc_X2_manifest⟩ ⟨(Nat.le_of_ble_eq_true rfl), (Nat.le_of_ble_eq_true rfl)⟩ rfl M_obj rfl rfl (Nat.le_of_ble_eq_true rfl) dL_law_1190 ⟨(by show _ ≤ 601024; omega), (by show _ ≤ 7293034; omega)⟩ (fun _ z => z.elim) (fun r1 u1 hq => ?_)
    subst hq
    refine fw_istore (pc := 1193) (lv' := [(6, .int (m_man_v F G u v)), (5, .int (b_man_k n u v)), (0, .ref b), (1, .ref (ba 6)), (2, .ref (a 0)), (3, .ref oa), (4, .int (nI i))]) X dL_law_1193 (by decide) rfl ?_
    refine fw_aload_n (pc := 1195) X dL_law_1195 rfl 4 rfl ?_
    refine fw_callVR (pc := 1196) (n := 0) (C := (RX2, TX2, 21)) (ci := 2) (q0 := 0) X hE [] (ct_X2_thrown) (fun _ => rfl) gL_law_X2_thrown rfl ⟨rfl, rfl⟩ ⟨rfl, dsc_X2_thrown⟩ ⟨(Nat.le_of_ble_eq_true rfl), (Nat.le_of_ble_eq_true rfl)⟩ rfl M_obj rfl rfl (Nat.le_of_ble_eq_true rfl) dL_law_1196 ⟨(by show _ ≤ 601024; omega), (by show _ ≤ 7293034; omega)⟩ (fun _ z => z.elim) (fun r2 u2 hq => ?_)
    subst hq
    refine fw_iload (pc := 1199) X dL_law_1199 1 rfl ?_
    refine fw_icmp_eq (pc := 1201) (tgt := 1206) X dL_law_1201 (by decide) (fun _ => ?_) (fun q => absurd hsk q)
    refine fw_iload (pc := 1206) X dL_law_1206 1 rfl ?_
    refine fw_if_ne (pc := 1208) (tgt := 1223) X dL_law_1208 (by decide) (fun _ => ?_) (fun q => absurd q hk)
    refine fw_goto (pc := 1223) (tgt := 1406) X dL_law_1223 (by decide) ?_
    refine fw_pm (ws' := (OW K oa o ++ BW K ba bf bg n ca cf cg) ++ MW K a (upd F 0 (m_man_k F u v)) G) List.perm_append_comm ?_
    refine fw_lv (lv' := [(0, .ref b), (1, .ref (ba 6)), (2, .ref (a 0)), (3, .ref oa), (4, .int (nI i))]) [2, 3, 4, 5, 6] rfl ?_
    refine fw_wd (k := cells + 20) (n := slots + 200) (by omega) (by omega) ?_
    exact kk _ _ _ _ _ _ _ _ _ (hs1 hk)
set_option maxHeartbeats 4000000 in
set_option maxRecDepth 100000 in
theorem lc_stored {p : Program} {l : Launch} {e : Env} {s : State} {m : MethodId} {args : Array Value} {below : List Frame} {meth : Method} {c : Code} {D : va_G} {A : Nat → Prop} {Q : State → Prop} {cells slots : Nat} {K : Nat → ClassId} {ba : Nat → Nat} {oa : Nat} {a : Nat → Nat} {o : Nat → Int64} {b L : Nat} {xs : Nat → Int32} {T n : Nat} {bf : Nat → Int32} {bg : Nat → Nat → Int32} {ca : Nat → Nat → Nat} {cf : Nat → Nat → Int32} {cg : Nat → Nat → Nat → Int32} {F : Nat → Int32} {G : Nat → Nat → Int32} (X : fw_X p s m args c D A 7 cL_law RL wsL_law (tyS K)) (hE : fw_E true A s) (hl : l.stackTraces = false) (hX : va_X b L xs s s.heap) (hbl : b < s.heap.size) (hbA : ¬ A b) (h : Rel T bf bg n cf cg F G) (hT : T ≤ 600) (i : Nat) (hi : i + 6 ≤ L) (hL : L ≤ 3072) (hc : cells ≤ 500000) (hs : slots ≤ 7000000) (v x : Int32) (hv : xs (i + 1) = v) (hx : xs (i + 2) = x) (kk : ∀ (bf2 : Nat → Int32) (bg2 : Nat → Nat → Int32) (n2 : Nat) (ca2 : Nat → Nat → Nat) (cf2 : Nat → Nat → Int32) (cg2 : Nat → Nat → Nat → Int32) (F2 : Nat → Int32) (G2 : Nat → Nat → Int32) (o2 : Nat → Int64), Rel (T + 1) bf2 bg2 n2 cf2 cg2 F2 G2 → fw_W p l e room_1 s m args below meth c D A 7 Q (LWW K ba oa a bf2 bg2 n2 ca2 cf2 cg2 F2 G2 o2) (cells + 20) (slots + 200) [(0, .ref b), (1, .ref (ba 6)), (2, .ref (a 0)), (3, .ref oa), (4, .int (nI i))] 1406 []) : fw_W p l e room_1 s m args below meth c D A 7 Q (LWW K ba oa a bf bg n ca cf cg F G o) cells slots [(0, .ref b), (1, .ref (ba 6)), (2, .ref (a 0)), (3, .ref oa), (4, .int (nI i))] 1226 [] := by
  obtain ⟨hsk, hs0, hs1⟩ := sim_stored h hT v x
  refine fw_aload_n (pc := 1226) X dL_law_1226 rfl 1 rfl ?_
  refine fw_aload_n (pc := 1227) X dL_law_1227 rfl 0 rfl ?_
  refine fw_iload (pc := 1228) X dL_law_1228 4 rfl ?_
  refine fw_iconst (pc := 1230) (v := 1) X dL_law_1230 (by decide) ?_
  refine fw_iadd (pc := 1231) X dL_law_1231 ?_
  refine fw_sld (pc := 1232) X hX hbl hbA (i + 1) (nf_add rfl (show (1 : Int32) = nI 1 from rfl)) (by omega) (by omega) hv dL_law_1232 ?_
  refine fw_aload_n (pc := 1233) X dL_law_1233 rfl 0 rfl ?_
  refine fw_iload (pc := 1234) X dL_law_1234 4 rfl ?_
  refine fw_iconst (pc := 1236) (v := 2) X dL_law_1236 (by decide) ?_
  refine fw_iadd (pc := 1237) X dL_law_1237 ?_
  refine fw_sld (pc := 1238) X hX hbl hbA (i + 2) (nf_add rfl (show (2 : Int32) = nI 2 from rfl)) (by omega) (by omega) hx dL_law_1238 ?_
  refine fw_aload_n (pc := 1239) X dL_law_1239 rfl 3 rfl ?_
  refine fw_ws (ws' := (OW K oa o ++ BW K ba bf bg n ca cf cg) ++ MW K a F G) rfl ?_
  refine fw_callHR (pc := 1240) (n := 4) X hE [.ref (ba 6), .int v, .int x, .ref oa] (ct_L_stored hl v x) (fun z => z) gL_law_L_stored rfl ⟨rfl, rfl⟩ dsc_L_stored ⟨(Nat.le_of_ble_eq_true rfl), (Nat.le_of_ble_eq_true rfl)⟩ rfl rfl (Nat.le_of_ble_eq_true rfl) dL_law_1240 ⟨(by show _ ≤ 601024; omega), (by show _ ≤ 7293034; omega)⟩ (fun _ z => z.elim) (fun r0 u0 hq => ?_)
  subst hq
  refine fw_istore (pc := 1243) (lv' := [(5, .int (b_sto_k v x)), (0, .ref b), (1, .ref (ba 6)), (2, .ref (a 0)), (3, .ref oa), (4, .int (nI i))]) X dL_law_1243 (by decide) rfl ?_
  by_cases hk : b_sto_k v x = 0
  · refine fw_ws (ws' := (OW K oa (vp_updL o 0 (b_gs n cg (ix v) (ix x) 15).toInt64) ++ BW K ba bf bg n ca cf cg) ++ MW K a F G) (by rw [if_pos hk]) ?_
    refine fw_pm (ws' := MW K a F G ++ (OW K oa (vp_updL o 0 (b_gs n cg (ix v) (ix x) 15).toInt64) ++ BW K ba bf bg n ca cf cg)) List.perm_append_comm ?_
    refine fw_aload_n (pc := 1245) X dL_law_1245 rfl 3 rfl ?_
    refine fw_aload_n (pc := 1246) X dL_law_1246 rfl 1 rfl ?_
    refine fw_iload (pc := 1247) X dL_law_1247 5 rfl ?_
    refine fw_iconst (pc := 1249) (v := 1) X dL_law_1249 (by decide) ?_
    refine fw_iadd (pc := 1250) X dL_law_1250 ?_
    refine fw_sld (pc := 1251) X hX hbl hbA (i + 1) (nf_add rfl (show (1 : Int32) = nI 1 from rfl)) (by omega) (by omega) hv dL_law_1251 ?_
    refine fw_aload_n (pc := 1252) X dL_law_1252 rfl 1 rfl ?_
    refine fw_iload (pc := 1253) X dL_law_1253 5 rfl ?_
    refine fw_iconst (pc := 1255) (v := 2) X dL_law_1255 (by decide) ?_
    refine fw_iadd (pc := 1256) X dL_law_1256 ?_
    refine fw_sld (pc := 1257) X hX hbl hbA (i + 2) (nf_add rfl (show (2 : Int32) = nI 2 from rfl)) (by omega) (by omega) hx dL_law_1257 ?_
    refine fw_callVR (pc := 1258) (n := 2) (C := (RX2, TX2, 21)) (ci := 2) (q0 := 0) X hE [.int v, .int x] (ct_X2_stored v x h.2.2.1 h.1) (fun _ => rfl) gL_law_X2_stored rfl ⟨rfl, rfl⟩ ⟨rfl, dsc_X2_stored⟩ ⟨(Nat.le_of_ble_eq_true rfl), (Nat.le_of_ble_eq_true rfl)⟩ rfl M_obj rfl rfl (Nat.le_of_ble_eq_true rfl) dL_law_1258 ⟨(by show _ ≤ 601024; omega), (by show _ ≤ 7293034; omega)⟩ (fun _ z => z.elim) (fun r1 u1 hq => ?_)
    subst hq
    refine fw_istore (pc := 1261) (lv' := [(6, .int (m_sto_v G n v x)), (5, .int (b_sto_k v x)), (0, .ref b), (1, .ref (ba 6)), (2, .ref (a 0)), (3, .ref oa), (4, .int (nI i))]) X dL_law_1261 (by decide) rfl ?_
    refine fw_aload_n (pc := 1263) X dL_law_1263 rfl 4 rfl ?_
    refine fw_callVR (pc := 1264) (n := 0) (C := (RX2, TX2, 21)) (ci := 2) (q0 := 0) X hE [] (ct_X2_thrown) (fun _ => rfl) gL_law_X2_thrown rfl ⟨rfl, rfl⟩ ⟨rfl, dsc_X2_thrown⟩ ⟨(Nat.le_of_ble_eq_true rfl), (Nat.le_of_ble_eq_true rfl)⟩ rfl M_obj rfl rfl (Nat.le_of_ble_eq_true rfl) dL_law_1264 ⟨(by show _ ≤ 601024; omega), (by show _ ≤ 7293034; omega)⟩ (fun _ z => z.elim) (fun r2 u2 hq => ?_)
    subst hq
    refine fw_iload (pc := 1267) X dL_law_1267 1 rfl ?_
    refine fw_icmp_eq (pc := 1269) (tgt := 1274) X dL_law_1269 (by decide) (fun _ => ?_) (fun q => absurd hsk q)
    refine fw_iload (pc := 1274) X dL_law_1274 1 rfl ?_
    refine fw_if_ne (pc := 1276) (tgt := 1291) X dL_law_1276 (by decide) (fun q => absurd hk q) (fun _ => ?_)
    refine fw_aload_n (pc := 1279) X dL_law_1279 rfl 5 rfl ?_
    refine fw_iconst (pc := 1280) (v := 0) X dL_law_1280 (by decide) ?_
    refine fw_lald (pc := 1281) (n := 1) (cA := K 2) (f := vp_updL o 0 (b_gs n cg (ix v) (ix x) 15).toInt64) X 17 2 rfl rfl 0 (show (0 : Int32) = nI 0 from rfl) (by decide) (by decide) dL_law_1281 ?_
    refine fw_iload (pc := 1282) X dL_law_1282 0 rfl ?_
    refine fw_iv (hs0 hk).1 ?_
    refine fw_i2l (pc := 1284) (v := (b_gs n cg (ix v) (ix x) 15).toInt64) X dL_law_1284 rfl ?_
    refine fw_lcmp (pc := 1285) X dL_law_1285 ?_
    refine fw_iv (y := 0) (by rw [show vp_updL o 0 (b_gs n cg (ix v) (ix x) 15).toInt64 0 = (b_gs n cg (ix v) (ix x) 15).toInt64 from rfl, lg_cmp_self]) ?_
    refine fw_if_eq (pc := 1286) (tgt := 1291) X dL_law_1286 (by decide) (fun _ => ?_) (fun q => absurd rfl q)
    refine fw_goto (pc := 1291) (tgt := 1406) X dL_law_1291 (by decide) ?_
    refine fw_pm (ws' := (OW K oa (vp_updL o 0 (b_gs n cg (ix v) (ix x) 15).toInt64) ++ BW K ba bf bg n ca cf cg) ++ MW K a (upd F 0 (m_sto_k v x)) G) List.perm_append_comm ?_
    refine fw_lv (lv' := [(0, .ref b), (1, .ref (ba 6)), (2, .ref (a 0)), (3, .ref oa), (4, .int (nI i))]) [2, 3, 4, 5, 6] rfl ?_
    refine fw_wd (k := cells + 20) (n := slots + 200) (by omega) (by omega) ?_
    exact kk _ _ _ _ _ _ _ _ _ (hs0 hk).2
  · refine fw_ws (ws' := (OW K oa o ++ BW K ba bf bg n ca cf cg) ++ MW K a F G) (by rw [if_neg hk]) ?_
    refine fw_pm (ws' := MW K a F G ++ (OW K oa o ++ BW K ba bf bg n ca cf cg)) List.perm_append_comm ?_
    refine fw_aload_n (pc := 1245) X dL_law_1245 rfl 3 rfl ?_
    refine fw_aload_n (pc := 1246) X dL_law_1246 rfl 1 rfl ?_
    refine fw_iload (pc := 1247) X dL_law_1247 5 rfl ?_
    refine fw_iconst (pc := 1249) (v := 1) X dL_law_1249 (by decide) ?_
    refine fw_iadd (pc := 1250) X dL_law_1250 ?_
    refine fw_sld (pc := 1251) X hX hbl hbA (i + 1) (nf_add rfl (show (1 : Int32) = nI 1 from rfl)) (by omega) (by omega) hv dL_law_1251 ?_
    refine fw_aload_n (pc := 1252) X dL_law_1252 rfl 1 rfl ?_
    refine fw_iload (pc := 1253) X dL_law_1253 5 rfl ?_
    refine fw_iconst (pc := 1255) (v := 2) X dL_law_1255 (by decide) ?_
    refine fw_iadd (pc := 1256) X dL_law_1256 ?_
    refine fw_sld (pc := 1257) X hX hbl hbA (i + 2) (nf_add rfl (show (2 : Int32) = nI 2 from rfl)) (by omega) (by omega) hx dL_law_1257 ?_
    refine fw_callVR (pc := 1258) (n := 2) (C := (RX2, TX2, 21)) (ci := 2) (q0 := 0) X hE [.int v, .int x] (ct_X2_stored v x h.2.2.1 h.1) (fun _ => rfl) gL_law_X2_stored rfl ⟨rfl, rfl⟩ ⟨rfl, dsc_X2_stored⟩ ⟨(Nat.le_of_ble_eq_true rfl), (Nat.le_of_ble_eq_true rfl)⟩ rfl M_obj rfl rfl (Nat.le_of_ble_eq_true rfl) dL_law_1258 ⟨(by show _ ≤ 601024; omega), (by show _ ≤ 7293034; omega)⟩ (fun _ z => z.elim) (fun r1 u1 hq => ?_)
    subst hq
    refine fw_istore (pc := 1261) (lv' := [(6, .int (m_sto_v G n v x)), (5, .int (b_sto_k v x)), (0, .ref b), (1, .ref (ba 6)), (2, .ref (a 0)), (3, .ref oa), (4, .int (nI i))]) X dL_law_1261 (by decide) rfl ?_
    refine fw_aload_n (pc := 1263) X dL_law_1263 rfl 4 rfl ?_
    refine fw_callVR (pc := 1264) (n := 0) (C := (RX2, TX2, 21)) (ci := 2) (q0 := 0) X hE [] (ct_X2_thrown) (fun _ => rfl) gL_law_X2_thrown rfl ⟨rfl, rfl⟩ ⟨rfl, dsc_X2_thrown⟩ ⟨(Nat.le_of_ble_eq_true rfl), (Nat.le_of_ble_eq_true rfl)⟩ rfl M_obj rfl rfl (Nat.le_of_ble_eq_true rfl) dL_law_1264 ⟨(by show _ ≤ 601024; omega), (by show _ ≤ 7293034; omega)⟩ (fun _ z => z.elim) (fun r2 u2 hq => ?_)
    subst hq
    refine fw_iload (pc := 1267) X dL_law_1267 1 rfl ?_
    refine fw_icmp_eq (pc := 1269) (tgt := 1274) X dL_law_1269 (by decide) (fun _ => ?_) (fun q => absurd hsk q)
    refine fw_iload (pc := 1274) X dL_law_1274 1 rfl ?_
    refine fw_if_ne (pc := 1276) (tgt := 1291) X dL_law_1276 (by decide) (fun _ => ?_) (fun q => absurd q hk)
    refine fw_goto (pc := 1291) (tgt := 1406) X dL_law_1291 (by decide) ?_
    refine fw_pm (ws' := (OW K oa o ++ BW K ba bf bg n ca cf cg) ++ MW K a (upd F 0 (m_sto_k v x)) G) List.perm_append_comm ?_
    refine fw_lv (lv' := [(0, .ref b), (1, .ref (ba 6)), (2, .ref (a 0)), (3, .ref oa), (4, .int (nI i))]) [2, 3, 4, 5, 6] rfl ?_
    refine fw_wd (k := cells + 20) (n := slots + 200) (by omega) (by omega) ?_
    exact kk _ _ _ _ _ _ _ _ _ (hs1 hk)
set_option maxHeartbeats 4000000 in
set_option maxRecDepth 100000 in
theorem lc_held {p : Program} {l : Launch} {e : Env} {s : State} {m : MethodId} {args : Array Value} {below : List Frame} {meth : Method} {c : Code} {D : va_G} {A : Nat → Prop} {Q : State → Prop} {cells slots : Nat} {K : Nat → ClassId} {ba : Nat → Nat} {oa : Nat} {a : Nat → Nat} {o : Nat → Int64} {b L : Nat} {xs : Nat → Int32} {T n : Nat} {bf : Nat → Int32} {bg : Nat → Nat → Int32} {ca : Nat → Nat → Nat} {cf : Nat → Nat → Int32} {cg : Nat → Nat → Nat → Int32} {F : Nat → Int32} {G : Nat → Nat → Int32} (X : fw_X p s m args c D A 7 cL_law RL wsL_law (tyS K)) (hE : fw_E true A s) (hl : l.stackTraces = false) (hX : va_X b L xs s s.heap) (hbl : b < s.heap.size) (hbA : ¬ A b) (h : Rel T bf bg n cf cg F G) (hT : T ≤ 600) (i : Nat) (hi : i + 6 ≤ L) (hL : L ≤ 3072) (hc : cells ≤ 500000) (hs : slots ≤ 7000000) (v : Int32) (hv : xs (i + 1) = v) (kk : ∀ (bf2 : Nat → Int32) (bg2 : Nat → Nat → Int32) (n2 : Nat) (ca2 : Nat → Nat → Nat) (cf2 : Nat → Nat → Int32) (cg2 : Nat → Nat → Nat → Int32) (F2 : Nat → Int32) (G2 : Nat → Nat → Int32) (o2 : Nat → Int64), Rel (T + 1) bf2 bg2 n2 cf2 cg2 F2 G2 → fw_W p l e room_1 s m args below meth c D A 7 Q (LWW K ba oa a bf2 bg2 n2 ca2 cf2 cg2 F2 G2 o2) (cells + 20) (slots + 200) [(0, .ref b), (1, .ref (ba 6)), (2, .ref (a 0)), (3, .ref oa), (4, .int (nI i))] 1406 []) : fw_W p l e room_1 s m args below meth c D A 7 Q (LWW K ba oa a bf bg n ca cf cg F G o) cells slots [(0, .ref b), (1, .ref (ba 6)), (2, .ref (a 0)), (3, .ref oa), (4, .int (nI i))] 1294 [] := by
  obtain ⟨hsk, hs0, hs1⟩ := sim_held h hT v
  refine fw_aload_n (pc := 1294) X dL_law_1294 rfl 1 rfl ?_
  refine fw_aload_n (pc := 1295) X dL_law_1295 rfl 0 rfl ?_
  refine fw_iload (pc := 1296) X dL_law_1296 4 rfl ?_
  refine fw_iconst (pc := 1298) (v := 1) X dL_law_1298 (by decide) ?_
  refine fw_iadd (pc := 1299) X dL_law_1299 ?_
  refine fw_sld (pc := 1300) X hX hbl hbA (i + 1) (nf_add rfl (show (1 : Int32) = nI 1 from rfl)) (by omega) (by omega) hv dL_law_1300 ?_
  refine fw_aload_n (pc := 1301) X dL_law_1301 rfl 3 rfl ?_
  refine fw_ws (ws' := (OW K oa o ++ BW K ba bf bg n ca cf cg) ++ MW K a F G) rfl ?_
  refine fw_callHR (pc := 1302) (n := 3) X hE [.ref (ba 6), .int v, .ref oa] (ct_L_held hl v) (fun z => z) gL_law_L_held rfl ⟨rfl, rfl⟩ dsc_L_held ⟨(Nat.le_of_ble_eq_true rfl), (Nat.le_of_ble_eq_true rfl)⟩ rfl rfl (Nat.le_of_ble_eq_true rfl) dL_law_1302 ⟨(by show _ ≤ 601024; omega), (by show _ ≤ 7293034; omega)⟩ (fun _ z => z.elim) (fun r0 u0 hq => ?_)
  subst hq
  refine fw_istore (pc := 1305) (lv' := [(5, .int (b_tr_k v)), (0, .ref b), (1, .ref (ba 6)), (2, .ref (a 0)), (3, .ref oa), (4, .int (nI i))]) X dL_law_1305 (by decide) rfl ?_
  by_cases hk : b_tr_k v = 0
  · refine fw_ws (ws' := (OW K oa (vp_updL o 0 (bg 3 (ix v)).toInt64) ++ BW K ba bf bg n ca cf cg) ++ MW K a F G) (by rw [if_pos hk]) ?_
    refine fw_pm (ws' := MW K a F G ++ (OW K oa (vp_updL o 0 (bg 3 (ix v)).toInt64) ++ BW K ba bf bg n ca cf cg)) List.perm_append_comm ?_
    refine fw_aload_n (pc := 1307) X dL_law_1307 rfl 3 rfl ?_
    refine fw_aload_n (pc := 1308) X dL_law_1308 rfl 1 rfl ?_
    refine fw_iload (pc := 1309) X dL_law_1309 5 rfl ?_
    refine fw_iconst (pc := 1311) (v := 1) X dL_law_1311 (by decide) ?_
    refine fw_iadd (pc := 1312) X dL_law_1312 ?_
    refine fw_sld (pc := 1313) X hX hbl hbA (i + 1) (nf_add rfl (show (1 : Int32) = nI 1 from rfl)) (by omega) (by omega) hv dL_law_1313 ?_
    refine fw_callVR (pc := 1314) (n := 1) (C := (RX2, TX2, 21)) (ci := 2) (q0 := 0) X hE [.int v] (ct_X2_held v) (fun _ => rfl) gL_law_X2_held rfl ⟨rfl, rfl⟩ ⟨rfl, dsc_X2_held⟩ ⟨(Nat.le_of_ble_eq_true rfl), (Nat.le_of_ble_eq_true rfl)⟩ rfl M_obj rfl rfl (Nat.le_of_ble_eq_true rfl) dL_law_1314 ⟨(by show _ ≤ 601024; omega), (by show _ ≤ 7293034; omega)⟩ (fun _ z => z.elim) (fun r1 u1 hq => ?_)
    subst hq
    refine fw_istore (pc := 1317) (lv' := [(6, .int (m_tr_v G 6 v)), (5, .int (b_tr_k v)), (0, .ref b), (1, .ref (ba 6)), (2, .ref (a 0)), (3, .ref oa), (4, .int (nI i))]) X dL_law_1317 (by decide) rfl ?_
    refine fw_aload_n (pc := 1319) X dL_law_1319 rfl 4 rfl ?_
    refine fw_callVR (pc := 1320) (n := 0) (C := (RX2, TX2, 21)) (ci := 2) (q0 := 0) X hE [] (ct_X2_thrown) (fun _ => rfl) gL_law_X2_thrown rfl ⟨rfl, rfl⟩ ⟨rfl, dsc_X2_thrown⟩ ⟨(Nat.le_of_ble_eq_true rfl), (Nat.le_of_ble_eq_true rfl)⟩ rfl M_obj rfl rfl (Nat.le_of_ble_eq_true rfl) dL_law_1320 ⟨(by show _ ≤ 601024; omega), (by show _ ≤ 7293034; omega)⟩ (fun _ z => z.elim) (fun r2 u2 hq => ?_)
    subst hq
    refine fw_iload (pc := 1323) X dL_law_1323 1 rfl ?_
    refine fw_icmp_eq (pc := 1325) (tgt := 1330) X dL_law_1325 (by decide) (fun _ => ?_) (fun q => absurd hsk q)
    refine fw_iload (pc := 1330) X dL_law_1330 1 rfl ?_
    refine fw_if_ne (pc := 1332) (tgt := 1347) X dL_law_1332 (by decide) (fun q => absurd hk q) (fun _ => ?_)
    refine fw_aload_n (pc := 1335) X dL_law_1335 rfl 5 rfl ?_
    refine fw_iconst (pc := 1336) (v := 0) X dL_law_1336 (by decide) ?_
    refine fw_lald (pc := 1337) (n := 1) (cA := K 2) (f := vp_updL o 0 (bg 3 (ix v)).toInt64) X 17 2 rfl rfl 0 (show (0 : Int32) = nI 0 from rfl) (by decide) (by decide) dL_law_1337 ?_
    refine fw_iload (pc := 1338) X dL_law_1338 0 rfl ?_
    refine fw_iv (hs0 hk).1 ?_
    refine fw_i2l (pc := 1340) (v := (bg 3 (ix v)).toInt64) X dL_law_1340 rfl ?_
    refine fw_lcmp (pc := 1341) X dL_law_1341 ?_
    refine fw_iv (y := 0) (by rw [show vp_updL o 0 (bg 3 (ix v)).toInt64 0 = (bg 3 (ix v)).toInt64 from rfl, lg_cmp_self]) ?_
    refine fw_if_eq (pc := 1342) (tgt := 1347) X dL_law_1342 (by decide) (fun _ => ?_) (fun q => absurd rfl q)
    refine fw_goto (pc := 1347) (tgt := 1406) X dL_law_1347 (by decide) ?_
    refine fw_pm (ws' := (OW K oa (vp_updL o 0 (bg 3 (ix v)).toInt64) ++ BW K ba bf bg n ca cf cg) ++ MW K a (upd F 0 (m_tr_k v)) G) List.perm_append_comm ?_
    refine fw_lv (lv' := [(0, .ref b), (1, .ref (ba 6)), (2, .ref (a 0)), (3, .ref oa), (4, .int (nI i))]) [2, 3, 4, 5, 6] rfl ?_
    refine fw_wd (k := cells + 20) (n := slots + 200) (by omega) (by omega) ?_
    exact kk _ _ _ _ _ _ _ _ _ (hs0 hk).2
  · refine fw_ws (ws' := (OW K oa o ++ BW K ba bf bg n ca cf cg) ++ MW K a F G) (by rw [if_neg hk]) ?_
    refine fw_pm (ws' := MW K a F G ++ (OW K oa o ++ BW K ba bf bg n ca cf cg)) List.perm_append_comm ?_
    refine fw_aload_n (pc := 1307) X dL_law_1307 rfl 3 rfl ?_
    refine fw_aload_n (pc := 1308) X dL_law_1308 rfl 1 rfl ?_
    refine fw_iload (pc := 1309) X dL_law_1309 5 rfl ?_
    refine fw_iconst (pc := 1311) (v := 1) X dL_law_1311 (by decide) ?_
    refine fw_iadd (pc := 1312) X dL_law_1312 ?_
    refine fw_sld (pc := 1313) X hX hbl hbA (i + 1) (nf_add rfl (show (1 : Int32) = nI 1 from rfl)) (by omega) (by omega) hv dL_law_1313 ?_
    refine fw_callVR (pc := 1314) (n := 1) (C := (RX2, TX2, 21)) (ci := 2) (q0 := 0) X hE [.int v] (ct_X2_held v) (fun _ => rfl) gL_law_X2_held rfl ⟨rfl, rfl⟩ ⟨rfl, dsc_X2_held⟩ ⟨(Nat.le_of_ble_eq_true rfl), (Nat.le_of_ble_eq_true rfl)⟩ rfl M_obj rfl rfl (Nat.le_of_ble_eq_true rfl) dL_law_1314 ⟨(by show _ ≤ 601024; omega), (by show _ ≤ 7293034; omega)⟩ (fun _ z => z.elim) (fun r1 u1 hq => ?_)
    subst hq
    refine fw_istore (pc := 1317) (lv' := [(6, .int (m_tr_v G 6 v)), (5, .int (b_tr_k v)), (0, .ref b), (1, .ref (ba 6)), (2, .ref (a 0)), (3, .ref oa), (4, .int (nI i))]) X dL_law_1317 (by decide) rfl ?_
    refine fw_aload_n (pc := 1319) X dL_law_1319 rfl 4 rfl ?_
    refine fw_callVR (pc := 1320) (n := 0) (C := (RX2, TX2, 21)) (ci := 2) (q0 := 0) X hE [] (ct_X2_thrown) (fun _ => rfl) gL_law_X2_thrown rfl ⟨rfl, rfl⟩ ⟨rfl, dsc_X2_thrown⟩ ⟨(Nat.le_of_ble_eq_true rfl), (Nat.le_of_ble_eq_true rfl)⟩ rfl M_obj rfl rfl (Nat.le_of_ble_eq_true rfl) dL_law_1320 ⟨(by show _ ≤ 601024; omega), (by show _ ≤ 7293034; omega)⟩ (fun _ z => z.elim) (fun r2 u2 hq => ?_)
    subst hq
    refine fw_iload (pc := 1323) X dL_law_1323 1 rfl ?_
    refine fw_icmp_eq (pc := 1325) (tgt := 1330) X dL_law_1325 (by decide) (fun _ => ?_) (fun q => absurd hsk q)
    refine fw_iload (pc := 1330) X dL_law_1330 1 rfl ?_
    refine fw_if_ne (pc := 1332) (tgt := 1347) X dL_law_1332 (by decide) (fun _ => ?_) (fun q => absurd q hk)
    refine fw_goto (pc := 1347) (tgt := 1406) X dL_law_1347 (by decide) ?_
    refine fw_pm (ws' := (OW K oa o ++ BW K ba bf bg n ca cf cg) ++ MW K a (upd F 0 (m_tr_k v)) G) List.perm_append_comm ?_
    refine fw_lv (lv' := [(0, .ref b), (1, .ref (ba 6)), (2, .ref (a 0)), (3, .ref oa), (4, .int (nI i))]) [2, 3, 4, 5, 6] rfl ?_
    refine fw_wd (k := cells + 20) (n := slots + 200) (by omega) (by omega) ?_
    exact kk _ _ _ _ _ _ _ _ _ (hs1 hk)
set_option maxHeartbeats 4000000 in
set_option maxRecDepth 100000 in
theorem lc_paid {p : Program} {l : Launch} {e : Env} {s : State} {m : MethodId} {args : Array Value} {below : List Frame} {meth : Method} {c : Code} {D : va_G} {A : Nat → Prop} {Q : State → Prop} {cells slots : Nat} {K : Nat → ClassId} {ba : Nat → Nat} {oa : Nat} {a : Nat → Nat} {o : Nat → Int64} {b L : Nat} {xs : Nat → Int32} {T n : Nat} {bf : Nat → Int32} {bg : Nat → Nat → Int32} {ca : Nat → Nat → Nat} {cf : Nat → Nat → Int32} {cg : Nat → Nat → Nat → Int32} {F : Nat → Int32} {G : Nat → Nat → Int32} (X : fw_X p s m args c D A 7 cL_law RL wsL_law (tyS K)) (hE : fw_E true A s) (hl : l.stackTraces = false) (hX : va_X b L xs s s.heap) (hbl : b < s.heap.size) (hbA : ¬ A b) (h : Rel T bf bg n cf cg F G) (hT : T ≤ 600) (i : Nat) (hi : i + 6 ≤ L) (hL : L ≤ 3072) (hc : cells ≤ 500000) (hs : slots ≤ 7000000) (v : Int32) (hv : xs (i + 1) = v) (kk : ∀ (bf2 : Nat → Int32) (bg2 : Nat → Nat → Int32) (n2 : Nat) (ca2 : Nat → Nat → Nat) (cf2 : Nat → Nat → Int32) (cg2 : Nat → Nat → Nat → Int32) (F2 : Nat → Int32) (G2 : Nat → Nat → Int32) (o2 : Nat → Int64), Rel (T + 1) bf2 bg2 n2 cf2 cg2 F2 G2 → fw_W p l e room_1 s m args below meth c D A 7 Q (LWW K ba oa a bf2 bg2 n2 ca2 cf2 cg2 F2 G2 o2) (cells + 20) (slots + 200) [(0, .ref b), (1, .ref (ba 6)), (2, .ref (a 0)), (3, .ref oa), (4, .int (nI i))] 1406 []) : fw_W p l e room_1 s m args below meth c D A 7 Q (LWW K ba oa a bf bg n ca cf cg F G o) cells slots [(0, .ref b), (1, .ref (ba 6)), (2, .ref (a 0)), (3, .ref oa), (4, .int (nI i))] 1350 [] := by
  obtain ⟨hsk, hs0, hs1⟩ := sim_paid h hT v
  refine fw_aload_n (pc := 1350) X dL_law_1350 rfl 1 rfl ?_
  refine fw_aload_n (pc := 1351) X dL_law_1351 rfl 0 rfl ?_
  refine fw_iload (pc := 1352) X dL_law_1352 4 rfl ?_
  refine fw_iconst (pc := 1354) (v := 1) X dL_law_1354 (by decide) ?_
  refine fw_iadd (pc := 1355) X dL_law_1355 ?_
  refine fw_sld (pc := 1356) X hX hbl hbA (i + 1) (nf_add rfl (show (1 : Int32) = nI 1 from rfl)) (by omega) (by omega) hv dL_law_1356 ?_
  refine fw_aload_n (pc := 1357) X dL_law_1357 rfl 3 rfl ?_
  refine fw_ws (ws' := (OW K oa o ++ BW K ba bf bg n ca cf cg) ++ MW K a F G) rfl ?_
  refine fw_callHR (pc := 1358) (n := 3) X hE [.ref (ba 6), .int v, .ref oa] (ct_L_paid hl v) (fun z => z) gL_law_L_paid rfl ⟨rfl, rfl⟩ dsc_L_paid ⟨(Nat.le_of_ble_eq_true rfl), (Nat.le_of_ble_eq_true rfl)⟩ rfl rfl (Nat.le_of_ble_eq_true rfl) dL_law_1358 ⟨(by show _ ≤ 601024; omega), (by show _ ≤ 7293034; omega)⟩ (fun _ z => z.elim) (fun r0 u0 hq => ?_)
  subst hq
  refine fw_istore (pc := 1361) (lv' := [(5, .int (b_tr_k v)), (0, .ref b), (1, .ref (ba 6)), (2, .ref (a 0)), (3, .ref oa), (4, .int (nI i))]) X dL_law_1361 (by decide) rfl ?_
  by_cases hk : b_tr_k v = 0
  · refine fw_ws (ws' := (OW K oa (vp_updL o 0 (bg 4 (ix v)).toInt64) ++ BW K ba bf bg n ca cf cg) ++ MW K a F G) (by rw [if_pos hk]) ?_
    refine fw_pm (ws' := MW K a F G ++ (OW K oa (vp_updL o 0 (bg 4 (ix v)).toInt64) ++ BW K ba bf bg n ca cf cg)) List.perm_append_comm ?_
    refine fw_aload_n (pc := 1363) X dL_law_1363 rfl 3 rfl ?_
    refine fw_aload_n (pc := 1364) X dL_law_1364 rfl 1 rfl ?_
    refine fw_iload (pc := 1365) X dL_law_1365 5 rfl ?_
    refine fw_iconst (pc := 1367) (v := 1) X dL_law_1367 (by decide) ?_
    refine fw_iadd (pc := 1368) X dL_law_1368 ?_
    refine fw_sld (pc := 1369) X hX hbl hbA (i + 1) (nf_add rfl (show (1 : Int32) = nI 1 from rfl)) (by omega) (by omega) hv dL_law_1369 ?_
    refine fw_callVR (pc := 1370) (n := 1) (C := (RX2, TX2, 21)) (ci := 2) (q0 := 0) X hE [.int v] (ct_X2_paid v) (fun _ => rfl) gL_law_X2_paid rfl ⟨rfl, rfl⟩ ⟨rfl, dsc_X2_paid⟩ ⟨(Nat.le_of_ble_eq_true rfl), (Nat.le_of_ble_eq_true rfl)⟩ rfl M_obj rfl rfl (Nat.le_of_ble_eq_true rfl) dL_law_1370 ⟨(by show _ ≤ 601024; omega), (by show _ ≤ 7293034; omega)⟩ (fun _ z => z.elim) (fun r1 u1 hq => ?_)
    subst hq
    refine fw_istore (pc := 1373) (lv' := [(6, .int (m_tr_v G 7 v)), (5, .int (b_tr_k v)), (0, .ref b), (1, .ref (ba 6)), (2, .ref (a 0)), (3, .ref oa), (4, .int (nI i))]) X dL_law_1373 (by decide) rfl ?_
    refine fw_aload_n (pc := 1375) X dL_law_1375 rfl 4 rfl ?_
    refine fw_callVR (pc := 1376) (n := 0) (C := (RX2, TX2, 21)) (ci := 2) (q0 := 0) X hE [] (ct_X2_thrown) (fun _ => rfl) gL_law_X2_thrown rfl ⟨rfl, rfl⟩ ⟨rfl, dsc_X2_thrown⟩ ⟨(Nat.le_of_ble_eq_true rfl), (Nat.le_of_ble_eq_true rfl)⟩ rfl M_obj rfl rfl (Nat.le_of_ble_eq_true rfl) dL_law_1376 ⟨(by show _ ≤ 601024; omega), (by show _ ≤ 7293034; omega)⟩ (fun _ z => z.elim) (fun r2 u2 hq => ?_)
    subst hq
    refine fw_iload (pc := 1379) X dL_law_1379 1 rfl ?_
    refine fw_icmp_eq (pc := 1381) (tgt := 1386) X dL_law_1381 (by decide) (fun _ => ?_) (fun q => absurd hsk q)
    refine fw_iload (pc := 1386) X dL_law_1386 1 rfl ?_
    refine fw_if_ne (pc := 1388) (tgt := 1403) X dL_law_1388 (by decide) (fun q => absurd hk q) (fun _ => ?_)
    refine fw_aload_n (pc := 1391) X dL_law_1391 rfl 5 rfl ?_
    refine fw_iconst (pc := 1392) (v := 0) X dL_law_1392 (by decide) ?_
    refine fw_lald (pc := 1393) (n := 1) (cA := K 2) (f := vp_updL o 0 (bg 4 (ix v)).toInt64) X 17 2 rfl rfl 0 (show (0 : Int32) = nI 0 from rfl) (by decide) (by decide) dL_law_1393 ?_
    refine fw_iload (pc := 1394) X dL_law_1394 0 rfl ?_
    refine fw_iv (hs0 hk).1 ?_
    refine fw_i2l (pc := 1396) (v := (bg 4 (ix v)).toInt64) X dL_law_1396 rfl ?_
    refine fw_lcmp (pc := 1397) X dL_law_1397 ?_
    refine fw_iv (y := 0) (by rw [show vp_updL o 0 (bg 4 (ix v)).toInt64 0 = (bg 4 (ix v)).toInt64 from rfl, lg_cmp_self]) ?_
    refine fw_if_eq (pc := 1398) (tgt := 1403) X dL_law_1398 (by decide) (fun _ => ?_) (fun q => absurd rfl q)
    refine fw_goto (pc := 1403) (tgt := 1406) X dL_law_1403 (by decide) ?_
    refine fw_pm (ws' := (OW K oa (vp_updL o 0 (bg 4 (ix v)).toInt64) ++ BW K ba bf bg n ca cf cg) ++ MW K a (upd F 0 (m_tr_k v)) G) List.perm_append_comm ?_
    refine fw_lv (lv' := [(0, .ref b), (1, .ref (ba 6)), (2, .ref (a 0)), (3, .ref oa), (4, .int (nI i))]) [2, 3, 4, 5, 6] rfl ?_
    refine fw_wd (k := cells + 20) (n := slots + 200) (by omega) (by omega) ?_
    exact kk _ _ _ _ _ _ _ _ _ (hs0 hk).2
  · refine fw_ws (ws' := (OW K oa o ++ BW K ba bf bg n ca cf cg) ++ MW K a F G) (by rw [if_neg hk]) ?_
    refine fw_pm (ws' := MW K a F G ++ (OW K oa o ++ BW K ba bf bg n ca cf cg)) List.perm_append_comm ?_
    refine fw_aload_n (pc := 1363) X dL_law_1363 rfl 3 rfl ?_
    refine fw_aload_n (pc := 1364) X dL_law_1364 rfl 1 rfl ?_
    refine fw_iload (pc := 1365) X dL_law_1365 5 rfl ?_
    refine fw_iconst (pc := 1367) (v := 1) X dL_law_1367 (by decide) ?_
    refine fw_iadd (pc := 1368) X dL_law_1368 ?_
    refine fw_sld (pc := 1369) X hX hbl hbA (i + 1) (nf_add rfl (show (1 : Int32) = nI 1 from rfl)) (by omega) (by omega) hv dL_law_1369 ?_
    refine fw_callVR (pc := 1370) (n := 1) (C := (RX2, TX2, 21)) (ci := 2) (q0 := 0) X hE [.int v] (ct_X2_paid v) (fun _ => rfl) gL_law_X2_paid rfl ⟨rfl, rfl⟩ ⟨rfl, dsc_X2_paid⟩ ⟨(Nat.le_of_ble_eq_true rfl), (Nat.le_of_ble_eq_true rfl)⟩ rfl M_obj rfl rfl (Nat.le_of_ble_eq_true rfl) dL_law_1370 ⟨(by show _ ≤ 601024; omega), (by show _ ≤ 7293034; omega)⟩ (fun _ z => z.elim) (fun r1 u1 hq => ?_)
    subst hq
    refine fw_istore (pc := 1373) (lv' := [(6, .int (m_tr_v G 7 v)), (5, .int (b_tr_k v)), (0, .ref b), (1, .ref (ba 6)), (2, .ref (a 0)), (3, .ref oa), (4, .int (nI i))]) X dL_law_1373 (by decide) rfl ?_
    refine fw_aload_n (pc := 1375) X dL_law_1375 rfl 4 rfl ?_
    refine fw_callVR (pc := 1376) (n := 0) (C := (RX2, TX2, 21)) (ci := 2) (q0 := 0) X hE [] (ct_X2_thrown) (fun _ => rfl) gL_law_X2_thrown rfl ⟨rfl, rfl⟩ ⟨rfl, dsc_X2_thrown⟩ ⟨(Nat.le_of_ble_eq_true rfl), (Nat.le_of_ble_eq_true rfl)⟩ rfl M_obj rfl rfl (Nat.le_of_ble_eq_true rfl) dL_law_1376 ⟨(by show _ ≤ 601024; omega), (by show _ ≤ 7293034; omega)⟩ (fun _ z => z.elim) (fun r2 u2 hq => ?_)
    subst hq
    refine fw_iload (pc := 1379) X dL_law_1379 1 rfl ?_
    refine fw_icmp_eq (pc := 1381) (tgt := 1386) X dL_law_1381 (by decide) (fun _ => ?_) (fun q => absurd hsk q)
    refine fw_iload (pc := 1386) X dL_law_1386 1 rfl ?_
    refine fw_if_ne (pc := 1388) (tgt := 1403) X dL_law_1388 (by decide) (fun _ => ?_) (fun q => absurd q hk)
    refine fw_goto (pc := 1403) (tgt := 1406) X dL_law_1403 (by decide) ?_
    refine fw_pm (ws' := (OW K oa o ++ BW K ba bf bg n ca cf cg) ++ MW K a (upd F 0 (m_tr_k v)) G) List.perm_append_comm ?_
    refine fw_lv (lv' := [(0, .ref b), (1, .ref (ba 6)), (2, .ref (a 0)), (3, .ref oa), (4, .int (nI i))]) [2, 3, 4, 5, 6] rfl ?_
    refine fw_wd (k := cells + 20) (n := slots + 200) (by omega) (by omega) ?_
    exact kk _ _ _ _ _ _ _ _ _ (hs1 hk)
