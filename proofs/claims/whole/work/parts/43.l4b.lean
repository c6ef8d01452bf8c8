def g_law_11 (xs : Nat → Int32) (iN : Nat) (σ : Sg) : Option Sg :=
  if (f_X8_thrown ((f_X8_process (xs (iN + 1)) (xs (iN + 2)) (xs (iN + 3)) (xs (iN + 4)) (xs (iN + 5)) (xs (iN + 6)) ((f_L_process (xs (iN + 1)) (xs (iN + 2)) (xs (iN + 3)) (xs (iN + 4)) (xs (iN + 5)) (xs (iN + 6)) σ).2)).2)) = ((f_L_process (xs (iN + 1)) (xs (iN + 2)) (xs (iN + 3)) (xs (iN + 4)) (xs (iN + 5)) (xs (iN + 6)) σ).1) then (if ((f_L_process (xs (iN + 1)) (xs (iN + 2)) (xs (iN + 3)) (xs (iN + 4)) (xs (iN + 5)) (xs (iN + 6)) σ).1) = 0 then (if (lg_cmp ((((f_L_process (xs (iN + 1)) (xs (iN + 2)) (xs (iN + 3)) (xs (iN + 4)) (xs (iN + 5)) (xs (iN + 6)) σ).2) 90 0 0).toInt64) (((f_X8_process (xs (iN + 1)) (xs (iN + 2)) (xs (iN + 3)) (xs (iN + 4)) (xs (iN + 5)) (xs (iN + 6)) ((f_L_process (xs (iN + 1)) (xs (iN + 2)) (xs (iN + 3)) (xs (iN + 4)) (xs (iN + 5)) (xs (iN + 6)) σ).2)).1).toInt64)) = 0 then some ((f_X8_process (xs (iN + 1)) (xs (iN + 2)) (xs (iN + 3)) (xs (iN + 4)) (xs (iN + 5)) (xs (iN + 6)) ((f_L_process (xs (iN + 1)) (xs (iN + 2)) (xs (iN + 3)) (xs (iN + 4)) (xs (iN + 5)) (xs (iN + 6)) σ).2)).2)
      else none)
    else some ((f_X8_process (xs (iN + 1)) (xs (iN + 2)) (xs (iN + 3)) (xs (iN + 4)) (xs (iN + 5)) (xs (iN + 6)) ((f_L_process (xs (iN + 1)) (xs (iN + 2)) (xs (iN + 3)) (xs (iN + 4)) (xs (iN + 5)) (xs (iN + 6)) σ).2)).2))
  else none
set_option maxHeartbeats 4000000 in
set_option maxRecDepth 100000 in
theorem lc_11 {p : Program} {l : Launch} (hl9 : l.stackTraces = false) {e : Env} {s : State} {m : MethodId} {below : List Frame} {meth : Method} {c : Code} {b L : Nat} {xs : Nat → Int32} {D : va_G} {ca : Nat → ClassId} {base : Nat} {ad : Adr} {Q : State → Prop} {iN : Nat} {σ : Sg} {H : Heap} {locs : List Loc} {cells slots : Nat} {ls : Array Slot} (RR : Sg → Prop) (hC : Cx p s m #[Value.ref b] meth c code 7 RL ret D ca base) (hN : Nx s) (hX : va_X b L xs s s.heap) (hbl : b < s.heap.size) (hbA : ¬ Ab base b) (hi7 : iN + 7 ≤ L) (hL9 : L ≤ 3584) (hc : cells + 40 ≤ 601024) (hs : slots + 240 ≤ 7293034) (hI : LInv σ) (hL2 : ∃ σ', g_law_11 xs iN σ = some σ' ∧ RR σ') (hW : Wd D ca (Ab base) ad ρm Lm σ H) (hS : va_S (Ab base) s.heap H locs) (hl : lv_has ls 7 [(4, .int (nI iN)), (3, .ref (ad 90 0)), (2, .ref (ad 8 0)), (1, .ref (ad 7 0)), (0, .ref b)])
    (kk : ∀ (σ' : Sg) (H1 : Heap) (locs1 : List Loc) (ls1 : Array Slot), RR σ' → Wd D ca (Ab base) ad ρm Lm σ' H1 → va_S (Ab base) s.heap H1 locs1 → lv_has ls1 7 [(4, .int (nI iN)), (3, .ref (ad 90 0)), (2, .ref (ad 8 0)), (1, .ref (ad 7 0)), (0, .ref b)] → W p l e room_1 s m #[Value.ref b] below meth c H1 locs1 (cells + 40) (slots + 240) Q (F0 m 2689 ls1 [])) : W p l e room_1 s m #[Value.ref b] below meth c H locs cells slots Q (F0 m 1177 ls []) := by
  have hx := hC.1
  have hb := hC.2.1
  refine lv_aload_n hx hb dL_law_1177 rfl (lv_at hl 3 rfl) ?_
  refine lv_aload_n hx hb dL_law_1178 rfl (lv_at hl 4 rfl) ?_
  refine lv_iload hx hb dL_law_1179 (lv_at hl 0 rfl) ?_
  refine lv_iconst (v := 1) hx hb dL_law_1181 (by decide) ?_
  refine lv_iadd hx hb dL_law_1182 ?_
  refine va_sld hx hb hX hbl hbA hS (vp_in_addr (a := 1) (by decide) (by omega) (by omega)) dL_law_1183 ?_
  rw [cl_addr (a := 1) (by decide) (by omega)]
  refine lv_aload_n hx hb dL_law_1184 rfl (lv_at hl 4 rfl) ?_
  refine lv_iload hx hb dL_law_1185 (lv_at hl 0 rfl) ?_
  refine lv_iconst (v := 2) hx hb dL_law_1187 (by decide) ?_
  refine lv_iadd hx hb dL_law_1188 ?_
  refine va_sld hx hb hX hbl hbA hS (vp_in_addr (a := 2) (by decide) (by omega) (by omega)) dL_law_1189 ?_
  rw [cl_addr (a := 2) (by decide) (by omega)]
  refine lv_aload_n hx hb dL_law_1190 rfl (lv_at hl 4 rfl) ?_
  refine lv_iload hx hb dL_law_1191 (lv_at hl 0 rfl) ?_
  refine lv_iconst (v := 3) hx hb dL_law_1193 (by decide) ?_
  refine lv_iadd hx hb dL_law_1194 ?_
  refine va_sld hx hb hX hbl hbA hS (vp_in_addr (a := 3) (by decide) (by omega) (by omega)) dL_law_1195 ?_
  rw [cl_addr (a := 3) (by decide) (by omega)]
  refine lv_aload_n hx hb dL_law_1196 rfl (lv_at hl 4 rfl) ?_
  refine lv_iload hx hb dL_law_1197 (lv_at hl 0 rfl) ?_
  refine lv_iconst (v := 4) hx hb dL_law_1199 (by decide) ?_
  refine lv_iadd hx hb dL_law_1200 ?_
  refine va_sld hx hb hX hbl hbA hS (vp_in_addr (a := 4) (by decide) (by omega) (by omega)) dL_law_1201 ?_
  rw [cl_addr (a := 4) (by decide) (by omega)]
  refine lv_aload_n hx hb dL_law_1202 rfl (lv_at hl 4 rfl) ?_
  refine lv_iload hx hb dL_law_1203 (lv_at hl 0 rfl) ?_
  refine lv_iconst (v := 5) hx hb dL_law_1205 (by decide) ?_
  refine lv_iadd hx hb dL_law_1206 ?_
  refine va_sld hx hb hX hbl hbA hS (vp_in_addr (a := 5) (by decide) (by omega) (by omega)) dL_law_1207 ?_
  rw [cl_addr (a := 5) (by decide) (by omega)]
  refine lv_aload_n hx hb dL_law_1208 rfl (lv_at hl 4 rfl) ?_
  refine lv_iload hx hb dL_law_1209 (lv_at hl 0 rfl) ?_
  refine lv_bipush (v := 6) hx hb dL_law_1211 (by decide) ?_
  refine lv_iadd hx hb dL_law_1213 ?_
  refine va_sld hx hb hX hbl hbA hS (vp_in_addr (a := 6) (by decide) (by omega) (by omega)) dL_law_1214 ?_
  rw [cl_addr (a := 6) (by decide) (by omega)]
  refine lv_aload_n hx hb dL_law_1215 rfl (lv_at hl 1 rfl) ?_
  refine w_callL (As := [.ref (ad 7 0), .int (xs (iN + 1)), .int (xs (iN + 2)), .int (xs (iN + 3)), .int (xs (iN + 4)), .int (xs (iN + 5)), .int (xs (iN + 6)), .ref (ad 90 0)]) (rest := []) (st2 := .int ((f_L_process (xs (iN + 1)) (xs (iN + 2)) (xs (iN + 3)) (xs (iN + 4)) (xs (iN + 5)) (xs (iN + 6)) σ).1) :: []) hC hN hW hS hl cl_L_166 (c_L_process l hl9 D ca base ad σ (xs (iN + 1)) (xs (iN + 2)) (xs (iN + 3)) (xs (iN + 4)) (xs (iN + 5)) (xs (iN + 6)) hI.1) rfl rfl rfl ⟨Nat.le_of_ble_eq_true rfl, Nat.le_of_ble_eq_true rfl⟩ (Nat.le_of_ble_eq_true rfl) dL_law_1216 ⟨by show cells + 8 ≤ 601024; omega, by show slots + 48 ≤ 7293034; omega⟩ (c2 := cells + 8) (s2 := slots + 48) rfl rfl (fun H locs hW hS => ?_)
  refine lv_istore (lv' := [(5, .int ((f_L_process (xs (iN + 1)) (xs (iN + 2)) (xs (iN + 3)) (xs (iN + 4)) (xs (iN + 5)) (xs (iN + 6)) σ).1)), (4, .int (nI iN)), (3, .ref (ad 90 0)), (2, .ref (ad 8 0)), (1, .ref (ad 7 0)), (0, .ref b)]) hx hb dL_law_1219 hl (by decide) rfl (fun ls hl => ?_)
  refine lv_aload_n hx hb dL_law_1221 rfl (lv_at hl 3 rfl) ?_
  refine lv_aload_n hx hb dL_law_1222 rfl (lv_at hl 5 rfl) ?_
  refine lv_iload hx hb dL_law_1223 (lv_at hl 1 rfl) ?_
  refine lv_iconst (v := 1) hx hb dL_law_1225 (by decide) ?_
  refine lv_iadd hx hb dL_law_1226 ?_
  refine va_sld hx hb hX hbl hbA hS (vp_in_addr (a := 1) (by decide) (by omega) (by omega)) dL_law_1227 ?_
  rw [cl_addr (a := 1) (by decide) (by omega)]
  refine lv_aload_n hx hb dL_law_1228 rfl (lv_at hl 5 rfl) ?_
  refine lv_iload hx hb dL_law_1229 (lv_at hl 1 rfl) ?_
  refine lv_iconst (v := 2) hx hb dL_law_1231 (by decide) ?_
  refine lv_iadd hx hb dL_law_1232 ?_
  refine va_sld hx hb hX hbl hbA hS (vp_in_addr (a := 2) (by decide) (by omega) (by omega)) dL_law_1233 ?_
  rw [cl_addr (a := 2) (by decide) (by omega)]
  refine lv_aload_n hx hb dL_law_1234 rfl (lv_at hl 5 rfl) ?_
  refine lv_iload hx hb dL_law_1235 (lv_at hl 1 rfl) ?_
  refine lv_iconst (v := 3) hx hb dL_law_1237 (by decide) ?_
  refine lv_iadd hx hb dL_law_1238 ?_
  refine va_sld hx hb hX hbl hbA hS (vp_in_addr (a := 3) (by decide) (by omega) (by omega)) dL_law_1239 ?_
  rw [cl_addr (a := 3) (by decide) (by omega)]
  refine lv_aload_n hx hb dL_law_1240 rfl (lv_at hl 5 rfl) ?_
  refine lv_iload hx hb dL_law_1241 (lv_at hl 1 rfl) ?_
  refine lv_iconst (v := 4) hx hb dL_law_1243 (by decide) ?_
  refine lv_iadd hx hb dL_law_1244 ?_
  refine va_sld hx hb hX hbl hbA hS (vp_in_addr (a := 4) (by decide) (by omega) (by omega)) dL_law_1245 ?_
  rw [cl_addr (a := 4) (by decide) (by omega)]
  refine lv_aload_n hx hb dL_law_1246 rfl (lv_at hl 5 rfl) ?_
  refine lv_iload hx hb dL_law_1247 (lv_at hl 1 rfl) ?_
  refine lv_iconst (v := 5) hx hb dL_law_1249 (by decide) ?_
  refine lv_iadd hx hb dL_law_1250 ?_
  refine va_sld hx hb hX hbl hbA hS (vp_in_addr (a := 5) (by decide) (by omega) (by omega)) dL_law_1251 ?_
  rw [cl_addr (a := 5) (by decide) (by omega)]
  refine lv_aload_n hx hb dL_law_1252 rfl (lv_at hl 5 rfl) ?_
  refine lv_iload hx hb dL_law_1253 (lv_at hl 1 rfl) ?_
  refine lv_bipush (v := 6) hx hb dL_law_1255 (by decide) ?_
  refine lv_iadd hx hb dL_law_1257 ?_
  refine va_sld hx hb hX hbl hbA hS (vp_in_addr (a := 6) (by decide) (by omega) (by omega)) dL_law_1258 ?_
  rw [cl_addr (a := 6) (by decide) (by omega)]
  refine w_callVL (As := [.int (xs (iN + 1)), .int (xs (iN + 2)), .int (xs (iN + 3)), .int (xs (iN + 4)), .int (xs (iN + 5)), .int (xs (iN + 6))]) (rest := []) (st2 := .int ((f_X8_process (xs (iN + 1)) (xs (iN + 2)) (xs (iN + 3)) (xs (iN + 4)) (xs (iN + 5)) (xs (iN + 6)) ((f_L_process (xs (iN + 1)) (xs (iN + 2)) (xs (iN + 3)) (xs (iN + 4)) (xs (iN + 5)) (xs (iN + 6)) σ).2)).1) :: []) hC hW hS hl cv_L_169 m_8 (by decide) rfl (c_X8_process l hl9 D ca base ad ((f_L_process (xs (iN + 1)) (xs (iN + 2)) (xs (iN + 3)) (xs (iN + 4)) (xs (iN + 5)) (xs (iN + 6)) σ).2) (xs (iN + 1)) (xs (iN + 2)) (xs (iN + 3)) (xs (iN + 4)) (xs (iN + 5)) (xs (iN + 6)) (mi_of hI.2.2.1 (by rw [fr_L_process (by decide) (by decide) (by decide)]) (by rw [fr_L_process (by decide) (by decide) (by decide)]) (by rw [fr_L_process (by decide) (by decide) (by decide)]) (by rw [fr_L_process (by decide) (by decide) (by decide)]) (by rw [fr_L_process (by decide) (by decide) (by decide)]) (by rw [fr_L_process (by decide) (by decide) (by decide)]) (by rw [fr_L_process (by decide) (by decide) (by decide)]) (by rw [fr_L_process (by decide) (by decide) (by decide)]) (by rw [fr_L_process (by decide) (by decide) (by decide)]) (by rw [fr_L_process (by decide) (by decide) (by decide)]) (by rw [fr_L_process (by decide) (by decide) (by decide)]) (by rw [fr_L_process (by decide) (by decide) (by decide)]) (by rw [fr_L_process (by decide) (by decide) (by decide)]) (by rw [fr_L_process (by decide) (by decide) (by decide)]) (by rw [fr_L_process (by decide) (by decide) (by decide)]) (by rw [fr_L_process (by decide) (by decide) (by decide)]))) rfl rfl rfl ⟨Nat.le_of_ble_eq_true rfl, Nat.le_of_ble_eq_true rfl⟩ (Nat.le_of_ble_eq_true rfl) dL_law_1259 ⟨by show cells + 8 + 0 ≤ 601024; omega, by show slots + 48 + 0 ≤ 7293034; omega⟩ (c2 := cells + 8 + 0) (s2 := slots + 48 + 0) rfl rfl (fun H locs hW hS => ?_)
  refine lv_istore (lv' := [(6, .int ((f_X8_process (xs (iN + 1)) (xs (iN + 2)) (xs (iN + 3)) (xs (iN + 4)) (xs (iN + 5)) (xs (iN + 6)) ((f_L_process (xs (iN + 1)) (xs (iN + 2)) (xs (iN + 3)) (xs (iN + 4)) (xs (iN + 5)) (xs (iN + 6)) σ).2)).1)), (5, .int ((f_L_process (xs (iN + 1)) (xs (iN + 2)) (xs (iN + 3)) (xs (iN + 4)) (xs (iN + 5)) (xs (iN + 6)) σ).1)), (4, .int (nI iN)), (3, .ref (ad 90 0)), (2, .ref (ad 8 0)), (1, .ref (ad 7 0)), (0, .ref b)]) hx hb dL_law_1262 hl (by decide) rfl (fun ls hl => ?_)
  refine lv_aload_n hx hb dL_law_1264 rfl (lv_at hl 4 rfl) ?_
  refine w_callVL (As := []) (rest := []) (st2 := .int (f_X8_thrown ((f_X8_process (xs (iN + 1)) (xs (iN + 2)) (xs (iN + 3)) (xs (iN + 4)) (xs (iN + 5)) (xs (iN + 6)) ((f_L_process (xs (iN + 1)) (xs (iN + 2)) (xs (iN + 3)) (xs (iN + 4)) (xs (iN + 5)) (xs (iN + 6)) σ).2)).2)) :: []) hC hW hS hl cv_L_127 m_8 (by decide) rfl (c_X8_thrown l hl9 D ca base ad ((f_X8_process (xs (iN + 1)) (xs (iN + 2)) (xs (iN + 3)) (xs (iN + 4)) (xs (iN + 5)) (xs (iN + 6)) ((f_L_process (xs (iN + 1)) (xs (iN + 2)) (xs (iN + 3)) (xs (iN + 4)) (xs (iN + 5)) (xs (iN + 6)) σ).2)).2) ) rfl rfl rfl ⟨Nat.le_of_ble_eq_true rfl, Nat.le_of_ble_eq_true rfl⟩ (Nat.le_of_ble_eq_true rfl) dL_law_1265 ⟨by show cells + 8 + 0 + 0 ≤ 601024; omega, by show slots + 48 + 0 + 0 ≤ 7293034; omega⟩ (c2 := cells + 8 + 0 + 0) (s2 := slots + 48 + 0 + 0) rfl rfl (fun H locs hW hS => ?_)
  refine lv_iload hx hb dL_law_1268 (lv_at hl 1 rfl) ?_
  refine lv_icmp_eq (tgt := 1275) hx hb dL_law_1270 (by decide) (fun c_1 => ?_) (fun c_1 => ?_)
  · refine lv_iload hx hb dL_law_1275 (lv_at hl 1 rfl) ?_
    refine lv_if_ne (tgt := 1292) hx hb dL_law_1277 (by decide) (fun c_2 => ?_) (fun c_2 => ?_)
    · refine lv_goto (tgt := 2689) hx hb dL_law_1292 (by decide) ?_
      have hO : g_law_11 xs iN σ = some ((f_X8_process (xs (iN + 1)) (xs (iN + 2)) (xs (iN + 3)) (xs (iN + 4)) (xs (iN + 5)) (xs (iN + 6)) ((f_L_process (xs (iN + 1)) (xs (iN + 2)) (xs (iN + 3)) (xs (iN + 4)) (xs (iN + 5)) (xs (iN + 6)) σ).2)).2) := by rw [g_law_11, if_pos c_1, if_neg c_2]
      obtain ⟨σ9, h9, hR9⟩ := hL2
      rw [hO] at h9
      cases h9
      exact W.widen (by omega) (by omega) (kk _ _ _ _ hR9 hW hS (lv_sub hl [2, 3, 4, 5, 6] rfl))
    · refine lv_aload_n hx hb dL_law_1280 rfl (lv_at hl 3 rfl) ?_
      refine lv_iconst (v := 0) hx hb dL_law_1281 (by decide) ?_
      refine w_lald hC hW m_90 (vp_lit (by decide)) dL_law_1282 ?_
      rw [show Int32.toNatClampNeg 0 = 0 by decide, fr_X8_process (by decide) (by decide) (by decide) (by decide) (by decide) (by decide) (by decide) (by decide)]
      refine lv_iload hx hb dL_law_1283 (lv_at hl 0 rfl) ?_
      refine lv_i2l hx hb dL_law_1285 rfl ?_
      refine W.lcmp hx hb dL_law_1286 ?_
      refine lv_if_eq (tgt := 1292) hx hb dL_law_1287 (by decide) (fun c_3 => ?_) (fun c_3 => ?_)
      · refine lv_goto (tgt := 2689) hx hb dL_law_1292 (by decide) ?_
        have hO : g_law_11 xs iN σ = some ((f_X8_process (xs (iN + 1)) (xs (iN + 2)) (xs (iN + 3)) (xs (iN + 4)) (xs (iN + 5)) (xs (iN + 6)) ((f_L_process (xs (iN + 1)) (xs (iN + 2)) (xs (iN + 3)) (xs (iN + 4)) (xs (iN + 5)) (xs (iN + 6)) σ).2)).2) := by rw [g_law_11, if_pos c_1, if_pos c_2, if_pos c_3]
        obtain ⟨σ9, h9, hR9⟩ := hL2
        rw [hO] at h9
        cases h9
        exact W.widen (by omega) (by omega) (kk _ _ _ _ hR9 hW hS (lv_sub hl [2, 3, 4, 5, 6] rfl))
      · refine lv_iconst (v := 0) hx hb dL_law_1290 (by decide) ?_
        have hO : g_law_11 xs iN σ = none := by rw [g_law_11, if_pos c_1, if_pos c_2, if_neg c_3]
        obtain ⟨σ9, h9, hR9⟩ := hL2
        rw [hO] at h9
        cases h9
  · refine lv_iconst (v := 0) hx hb dL_law_1273 (by decide) ?_
    have hO : g_law_11 xs iN σ = none := by rw [g_law_11, if_neg c_1]
    obtain ⟨σ9, h9, hR9⟩ := hL2
    rw [hO] at h9
    cases h9
def g_law_12 (xs : Nat → Int32) (iN : Nat) (σ : Sg) : Option Sg :=
  if (f_X8_thrown ((f_X8_filter (xs (iN + 1)) (xs (iN + 2)) ((f_L_filter (xs (iN + 1)) (xs (iN + 2)) σ).2)).2)) = ((f_L_filter (xs (iN + 1)) (xs (iN + 2)) σ).1) then (if ((f_L_filter (xs (iN + 1)) (xs (iN + 2)) σ).1) = 0 then (if (lg_cmp ((((f_L_filter (xs (iN + 1)) (xs (iN + 2)) σ).2) 90 0 0).toInt64) (((f_X8_filter (xs (iN + 1)) (xs (iN + 2)) ((f_L_filter (xs (iN + 1)) (xs (iN + 2)) σ).2)).1).toInt64)) = 0 then some ((f_X8_filter (xs (iN + 1)) (xs (iN + 2)) ((f_L_filter (xs (iN + 1)) (xs (iN + 2)) σ).2)).2)
      else none)
    else some ((f_X8_filter (xs (iN + 1)) (xs (iN + 2)) ((f_L_filter (xs (iN + 1)) (xs (iN + 2)) σ).2)).2))
  else none
set_option maxHeartbeats 4000000 in
set_option maxRecDepth 100000 in
theorem lc_12 {p : Program} {l : Launch} (hl9 : l.stackTraces = false) {e : Env} {s : State} {m : MethodId} {below : List Frame} {meth : Method} {c : Code} {b L : Nat} {xs : Nat → Int32} {D : va_G} {ca : Nat → ClassId} {base : Nat} {ad : Adr} {Q : State → Prop} {iN : Nat} {σ : Sg} {H : Heap} {locs : List Loc} {cells slots : Nat} {ls : Array Slot} (RR : Sg → Prop) (hC : Cx p s m #[Value.ref b] meth c code 7 RL ret D ca base) (hN : Nx s) (hX : va_X b L xs s s.heap) (hbl : b < s.heap.size) (hbA : ¬ Ab base b) (hi7 : iN + 7 ≤ L) (hL9 : L ≤ 3584) (hc : cells + 40 ≤ 601024) (hs : slots + 240 ≤ 7293034) (hI : LInv σ) (hL2 : ∃ σ', g_law_12 xs iN σ = some σ' ∧ RR σ') (hW : Wd D ca (Ab base) ad ρm Lm σ H) (hS : va_S (Ab base) s.heap H locs) (hl : lv_has ls 7 [(4, .int (nI iN)), (3, .ref (ad 90 0)), (2, .ref (ad 8 0)), (1, .ref (ad 7 0)), (0, .ref b)])
    (kk : ∀ (σ' : Sg) (H1 : Heap) (locs1 : List Loc) (ls1 : Array Slot), RR σ' → Wd D ca (Ab base) ad ρm Lm σ' H1 → va_S (Ab base) s.heap H1 locs1 → lv_has ls1 7 [(4, .int (nI iN)), (3, .ref (ad 90 0)), (2, .ref (ad 8 0)), (1, .ref (ad 7 0)), (0, .ref b)] → W p l e room_1 s m #[Value.ref b] below meth c H1 locs1 (cells + 40) (slots + 240) Q (F0 m 2689 ls1 [])) : W p l e room_1 s m #[Value.ref b] below meth c H locs cells slots Q (F0 m 1295 ls []) := by
  have hx := hC.1
  have hb := hC.2.1
  refine lv_aload_n hx hb dL_law_1295 rfl (lv_at hl 3 rfl) ?_
  refine lv_aload_n hx hb dL_law_1296 rfl (lv_at hl 4 rfl) ?_
  refine lv_iload hx hb dL_law_1297 (lv_at hl 0 rfl) ?_
  refine lv_iconst (v := 1) hx hb dL_law_1299 (by decide) ?_
  refine lv_iadd hx hb dL_law_1300 ?_
  refine va_sld hx hb hX hbl hbA hS (vp_in_addr (a := 1) (by decide) (by omega) (by omega)) dL_law_1301 ?_
  rw [cl_addr (a := 1) (by decide) (by omega)]
  refine lv_aload_n hx hb dL_law_1302 rfl (lv_at hl 4 rfl) ?_
  refine lv_iload hx hb dL_law_1303 (lv_at hl 0 rfl) ?_
  refine lv_iconst (v := 2) hx hb dL_law_1305 (by decide) ?_
  refine lv_iadd hx hb dL_law_1306 ?_
  refine va_sld hx hb hX hbl hbA hS (vp_in_addr (a := 2) (by decide) (by omega) (by omega)) dL_law_1307 ?_
  rw [cl_addr (a := 2) (by decide) (by omega)]
  refine lv_aload_n hx hb dL_law_1308 rfl (lv_at hl 1 rfl) ?_
  refine w_callL (As := [.ref (ad 7 0), .int (xs (iN + 1)), .int (xs (iN + 2)), .ref (ad 90 0)]) (rest := []) (st2 := .int ((f_L_filter (xs (iN + 1)) (xs (iN + 2)) σ).1) :: []) hC hN hW hS hl cl_L_170 (c_L_filter l hl9 D ca base ad σ (xs (iN + 1)) (xs (iN + 2)) hI.1) rfl rfl rfl ⟨Nat.le_of_ble_eq_true rfl, Nat.le_of_ble_eq_true rfl⟩ (Nat.le_of_ble_eq_true rfl) dL_law_1309 ⟨by show cells + 3 ≤ 601024; omega, by show slots + 18 ≤ 7293034; omega⟩ (c2 := cells + 3) (s2 := slots + 18) rfl rfl (fun H locs hW hS => ?_)
  refine lv_istore (lv' := [(5, .int ((f_L_filter (xs (iN + 1)) (xs (iN + 2)) σ).1)), (4, .int (nI iN)), (3, .ref (ad 90 0)), (2, .ref (ad 8 0)), (1, .ref (ad 7 0)), (0, .ref b)]) hx hb dL_law_1312 hl (by decide) rfl (fun ls hl => ?_)
  refine lv_aload_n hx hb dL_law_1314 rfl (lv_at hl 3 rfl) ?_
  refine lv_aload_n hx hb dL_law_1315 rfl (lv_at hl 5 rfl) ?_
  refine lv_iload hx hb dL_law_1316 (lv_at hl 1 rfl) ?_
  refine lv_iconst (v := 1) hx hb dL_law_1318 (by decide) ?_
  refine lv_iadd hx hb dL_law_1319 ?_
  refine va_sld hx hb hX hbl hbA hS (vp_in_addr (a := 1) (by decide) (by omega) (by omega)) dL_law_1320 ?_
  rw [cl_addr (a := 1) (by decide) (by omega)]
  refine lv_aload_n hx hb dL_law_1321 rfl (lv_at hl 5 rfl) ?_
  refine lv_iload hx hb dL_law_1322 (lv_at hl 1 rfl) ?_
  refine lv_iconst (v := 2) hx hb dL_law_1324 (by decide) ?_
  refine lv_iadd hx hb dL_law_1325 ?_
  refine va_sld hx hb hX hbl hbA hS (vp_in_addr (a := 2) (by decide) (by omega) (by omega)) dL_law_1326 ?_
  rw [cl_addr (a := 2) (by decide) (by omega)]
  refine w_callVL (As := [.int (xs (iN + 1)), .int (xs (iN + 2))]) (rest := []) (st2 := .int ((f_X8_filter (xs (iN + 1)) (xs (iN + 2)) ((f_L_filter (xs (iN + 1)) (xs (iN + 2)) σ).2)).1) :: []) hC hW hS hl cv_L_172 m_8 (by decide) rfl (c_X8_filter l hl9 D ca base ad ((f_L_filter (xs (iN + 1)) (xs (iN + 2)) σ).2) (xs (iN + 1)) (xs (iN + 2)) (mi_of hI.2.2.1 (by rw [fr_L_filter (by decide) (by decide) (by decide)]) (by rw [fr_L_filter (by decide) (by decide) (by decide)]) (by rw [fr_L_filter (by decide) (by decide) (by decide)]) (by rw [fr_L_filter (by decide) (by decide) (by decide)]) (by rw [fr_L_filter (by decide) (by decide) (by decide)]) (by rw [fr_L_filter (by decide) (by decide) (by decide)]) (by rw [fr_L_filter (by decide) (by decide) (by decide)]) (by rw [fr_L_filter (by decide) (by decide) (by decide)]) (by rw [fr_L_filter (by decide) (by decide) (by decide)]) (by rw [fr_L_filter (by decide) (by decide) (by decide)]) (by rw [fr_L_filter (by decide) (by decide) (by decide)]) (by rw [fr_L_filter (by decide) (by decide) (by decide)]) (by rw [fr_L_filter (by decide) (by decide) (by decide)]) (by rw [fr_L_filter (by decide) (by decide) (by decide)]) (by rw [fr_L_filter (by decide) (by decide) (by decide)]) (by rw [fr_L_filter (by decide) (by decide) (by decide)]))) rfl rfl rfl ⟨Nat.le_of_ble_eq_true rfl, Nat.le_of_ble_eq_true rfl⟩ (Nat.le_of_ble_eq_true rfl) dL_law_1327 ⟨by show cells + 3 + 0 ≤ 601024; omega, by show slots + 18 + 0 ≤ 7293034; omega⟩ (c2 := cells + 3 + 0) (s2 := slots + 18 + 0) rfl rfl (fun H locs hW hS => ?_)
  refine lv_istore (lv' := [(6, .int ((f_X8_filter (xs (iN + 1)) (xs (iN + 2)) ((f_L_filter (xs (iN + 1)) (xs (iN + 2)) σ).2)).1)), (5, .int ((f_L_filter (xs (iN + 1)) (xs (iN + 2)) σ).1)), (4, .int (nI iN)), (3, .ref (ad 90 0)), (2, .ref (ad 8 0)), (1, .ref (ad 7 0)), (0, .ref b)]) hx hb dL_law_1330 hl (by decide) rfl (fun ls hl => ?_)
  refine lv_aload_n hx hb dL_law_1332 rfl (lv_at hl 4 rfl) ?_
  refine w_callVL (As := []) (rest := []) (st2 := .int (f_X8_thrown ((f_X8_filter (xs (iN + 1)) (xs (iN + 2)) ((f_L_filter (xs (iN + 1)) (xs (iN + 2)) σ).2)).2)) :: []) hC hW hS hl cv_L_127 m_8 (by decide) rfl (c_X8_thrown l hl9 D ca base ad ((f_X8_filter (xs (iN + 1)) (xs (iN + 2)) ((f_L_filter (xs (iN + 1)) (xs (iN + 2)) σ).2)).2) ) rfl rfl rfl ⟨Nat.le_of_ble_eq_true rfl, Nat.le_of_ble_eq_true rfl⟩ (Nat.le_of_ble_eq_true rfl) dL_law_1333 ⟨by show cells + 3 + 0 + 0 ≤ 601024; omega, by show slots + 18 + 0 + 0 ≤ 7293034; omega⟩ (c2 := cells + 3 + 0 + 0) (s2 := slots + 18 + 0 + 0) rfl rfl (fun H locs hW hS => ?_)
  refine lv_iload hx hb dL_law_1336 (lv_at hl 1 rfl) ?_
  refine lv_icmp_eq (tgt := 1343) hx hb dL_law_1338 (by decide) (fun c_1 => ?_) (fun c_1 => ?_)
  · refine lv_iload hx hb dL_law_1343 (lv_at hl 1 rfl) ?_
    refine lv_if_ne (tgt := 1360) hx hb dL_law_1345 (by decide) (fun c_2 => ?_) (fun c_2 => ?_)
    · refine lv_goto (tgt := 2689) hx hb dL_law_1360 (by decide) ?_
      have hO : g_law_12 xs iN σ = some ((f_X8_filter (xs (iN + 1)) (xs (iN + 2)) ((f_L_filter (xs (iN + 1)) (xs (iN + 2)) σ).2)).2) := by rw [g_law_12, if_pos c_1, if_neg c_2]
      obtain ⟨σ9, h9, hR9⟩ := hL2
      rw [hO] at h9
      cases h9
      exact W.widen (by omega) (by omega) (kk _ _ _ _ hR9 hW hS (lv_sub hl [2, 3, 4, 5, 6] rfl))
    · refine lv_aload_n hx hb dL_law_1348 rfl (lv_at hl 3 rfl) ?_
      refine lv_iconst (v := 0) hx hb dL_law_1349 (by decide) ?_
      refine w_lald hC hW m_90 (vp_lit (by decide)) dL_law_1350 ?_
      rw [show Int32.toNatClampNeg 0 = 0 by decide, fr_X8_filter (by decide) (by decide) (by decide)]
      refine lv_iload hx hb dL_law_1351 (lv_at hl 0 rfl) ?_
      refine lv_i2l hx hb dL_law_1353 rfl ?_
      refine W.lcmp hx hb dL_law_1354 ?_
      refine lv_if_eq (tgt := 1360) hx hb dL_law_1355 (by decide) (fun c_3 => ?_) (fun c_3 => ?_)
      · refine lv_goto (tgt := 2689) hx hb dL_law_1360 (by decide) ?_
        have hO : g_law_12 xs iN σ = some ((f_X8_filter (xs (iN + 1)) (xs (iN + 2)) ((f_L_filter (xs (iN + 1)) (xs (iN + 2)) σ).2)).2) := by rw [g_law_12, if_pos c_1, if_pos c_2, if_pos c_3]
        obtain ⟨σ9, h9, hR9⟩ := hL2
        rw [hO] at h9
        cases h9
        exact W.widen (by omega) (by omega) (kk _ _ _ _ hR9 hW hS (lv_sub hl [2, 3, 4, 5, 6] rfl))
      · refine lv_iconst (v := 0) hx hb dL_law_1358 (by decide) ?_
        have hO : g_law_12 xs iN σ = none := by rw [g_law_12, if_pos c_1, if_pos c_2, if_neg c_3]
        obtain ⟨σ9, h9, hR9⟩ := hL2
        rw [hO] at h9
        cases h9
  · refine lv_iconst (v := 0) hx hb dL_law_1341 (by decide) ?_
    have hO : g_law_12 xs iN σ = none := by rw [g_law_12, if_neg c_1]
    obtain ⟨σ9, h9, hR9⟩ := hL2
    rw [hO] at h9
    cases h9
def g_law_13 (xs : Nat → Int32) (iN : Nat) (σ : Sg) : Option Sg :=
  if (f_X8_thrown ((f_X8_bound (xs (iN + 1)) (xs (iN + 2)) ((f_L_bound (xs (iN + 1)) (xs (iN + 2)) σ).2)).2)) = ((f_L_bound (xs (iN + 1)) (xs (iN + 2)) σ).1) then (if ((f_L_bound (xs (iN + 1)) (xs (iN + 2)) σ).1) = 0 then (if (lg_cmp ((((f_L_bound (xs (iN + 1)) (xs (iN + 2)) σ).2) 90 0 0).toInt64) (((f_X8_bound (xs (iN + 1)) (xs (iN + 2)) ((f_L_bound (xs (iN + 1)) (xs (iN + 2)) σ).2)).1).toInt64)) = 0 then some ((f_X8_bound (xs (iN + 1)) (xs (iN + 2)) ((f_L_bound (xs (iN + 1)) (xs (iN + 2)) σ).2)).2)
      else none)
    else some ((f_X8_bound (xs (iN + 1)) (xs (iN + 2)) ((f_L_bound (xs (iN + 1)) (xs (iN + 2)) σ).2)).2))
  else none
set_option maxHeartbeats 4000000 in
set_option maxRecDepth 100000 in
theorem lc_13 {p : Program} {l : Launch} (hl9 : l.stackTraces = false) {e : Env} {s : State} {m : MethodId} {below : List Frame} {meth : Method} {c : Code} {b L : Nat} {xs : Nat → Int32} {D : va_G} {ca : Nat → ClassId} {base : Nat} {ad : Adr} {Q : State → Prop} {iN : Nat} {σ : Sg} {H : Heap} {locs : List Loc} {cells slots : Nat} {ls : Array Slot} (RR : Sg → Prop) (hC : Cx p s m #[Value.ref b] meth c code 7 RL ret D ca base) (hN : Nx s) (hX : va_X b L xs s s.heap) (hbl : b < s.heap.size) (hbA : ¬ Ab base b) (hi7 : iN + 7 ≤ L) (hL9 : L ≤ 3584) (hc : cells + 40 ≤ 601024) (hs : slots + 240 ≤ 7293034) (hI : LInv σ) (hL2 : ∃ σ', g_law_13 xs iN σ = some σ' ∧ RR σ') (hW : Wd D ca (Ab base) ad ρm Lm σ H) (hS : va_S (Ab base) s.heap H locs) (hl : lv_has ls 7 [(4, .int (nI iN)), (3, .ref (ad 90 0)), (2, .ref (ad 8 0)), (1, .ref (ad 7 0)), (0, .ref b)])
    (kk : ∀ (σ' : Sg) (H1 : Heap) (locs1 : List Loc) (ls1 : Array Slot), RR σ' → Wd D ca (Ab base) ad ρm Lm σ' H1 → va_S (Ab base) s.heap H1 locs1 → lv_has ls1 7 [(4, .int (nI iN)), (3, .ref (ad 90 0)), (2, .ref (ad 8 0)), (1, .ref (ad 7 0)), (0, .ref b)] → W p l e room_1 s m #[Value.ref b] below meth c H1 locs1 (cells + 40) (slots + 240) Q (F0 m 2689 ls1 [])) : W p l e room_1 s m #[Value.ref b] below meth c H locs cells slots Q (F0 m 1363 ls []) := by
  have hx := hC.1
  have hb := hC.2.1
  refine lv_aload_n hx hb dL_law_1363 rfl (lv_at hl 3 rfl) ?_
  refine lv_aload_n hx hb dL_law_1364 rfl (lv_at hl 4 rfl) ?_
  refine lv_iload hx hb dL_law_1365 (lv_at hl 0 rfl) ?_
  refine lv_iconst (v := 1) hx hb dL_law_1367 (by decide) ?_
  refine lv_iadd hx hb dL_law_1368 ?_
  refine va_sld hx hb hX hbl hbA hS (vp_in_addr (a := 1) (by decide) (by omega) (by omega)) dL_law_1369 ?_
  rw [cl_addr (a := 1) (by decide) (by omega)]
  refine lv_aload_n hx hb dL_law_1370 rfl (lv_at hl 4 rfl) ?_
  refine lv_iload hx hb dL_law_1371 (lv_at hl 0 rfl) ?_
  refine lv_iconst (v := 2) hx hb dL_law_1373 (by decide) ?_
  refine lv_iadd hx hb dL_law_1374 ?_
  refine va_sld hx hb hX hbl hbA hS (vp_in_addr (a := 2) (by decide) (by omega) (by omega)) dL_law_1375 ?_
  rw [cl_addr (a := 2) (by decide) (by omega)]
  refine lv_aload_n hx hb dL_law_1376 rfl (lv_at hl 1 rfl) ?_
  refine w_callL (As := [.ref (ad 7 0), .int (xs (iN + 1)), .int (xs (iN + 2)), .ref (ad 90 0)]) (rest := []) (st2 := .int ((f_L_bound (xs (iN + 1)) (xs (iN + 2)) σ).1) :: []) hC hN hW hS hl cl_L_173 (c_L_bound l hl9 D ca base ad σ (xs (iN + 1)) (xs (iN + 2)) hI.1) rfl rfl rfl ⟨Nat.le_of_ble_eq_true rfl, Nat.le_of_ble_eq_true rfl⟩ (Nat.le_of_ble_eq_true rfl) dL_law_1377 ⟨by show cells + 2 ≤ 601024; omega, by show slots + 12 ≤ 7293034; omega⟩ (c2 := cells + 2) (s2 := slots + 12) rfl rfl (fun H locs hW hS => ?_)
  refine lv_istore (lv' := [(5, .int ((f_L_bound (xs (iN + 1)) (xs (iN + 2)) σ).1)), (4, .int (nI iN)), (3, .ref (ad 90 0)), (2, .ref (ad 8 0)), (1, .ref (ad 7 0)), (0, .ref b)]) hx hb dL_law_1380 hl (by decide) rfl (fun ls hl => ?_)
  refine lv_aload_n hx hb dL_law_1382 rfl (lv_at hl 3 rfl) ?_
  refine lv_aload_n hx hb dL_law_1383 rfl (lv_at hl 5 rfl) ?_
  refine lv_iload hx hb dL_law_1384 (lv_at hl 1 rfl) ?_
  refine lv_iconst (v := 1) hx hb dL_law_1386 (by decide) ?_
  refine lv_iadd hx hb dL_law_1387 ?_
  refine va_sld hx hb hX hbl hbA hS (vp_in_addr (a := 1) (by decide) (by omega) (by omega)) dL_law_1388 ?_
  rw [cl_addr (a := 1) (by decide) (by omega)]
  refine lv_aload_n hx hb dL_law_1389 rfl (lv_at hl 5 rfl) ?_
  refine lv_iload hx hb dL_law_1390 (lv_at hl 1 rfl) ?_
  refine lv_iconst (v := 2) hx hb dL_law_1392 (by decide) ?_
  refine lv_iadd hx hb dL_law_1393 ?_
  refine va_sld hx hb hX hbl hbA hS (vp_in_addr (a := 2) (by decide) (by omega) (by omega)) dL_law_1394 ?_
  rw [cl_addr (a := 2) (by decide) (by omega)]
  refine w_callVL (As := [.int (xs (iN + 1)), .int (xs (iN + 2))]) (rest := []) (st2 := .int ((f_X8_bound (xs (iN + 1)) (xs (iN + 2)) ((f_L_bound (xs (iN + 1)) (xs (iN + 2)) σ).2)).1) :: []) hC hW hS hl cv_L_175 m_8 (by decide) rfl (c_X8_bound l hl9 D ca base ad ((f_L_bound (xs (iN + 1)) (xs (iN + 2)) σ).2) (xs (iN + 1)) (xs (iN + 2)) (mi_of hI.2.2.1 (by rw [fr_L_bound (by decide) (by decide)]) (by rw [fr_L_bound (by decide) (by decide)]) (by rw [fr_L_bound (by decide) (by decide)]) (by rw [fr_L_bound (by decide) (by decide)]) (by rw [fr_L_bound (by decide) (by decide)]) (by rw [fr_L_bound (by decide) (by decide)]) (by rw [fr_L_bound (by decide) (by decide)]) (by rw [fr_L_bound (by decide) (by decide)]) (by rw [fr_L_bound (by decide) (by decide)]) (by rw [fr_L_bound (by decide) (by decide)]) (by rw [fr_L_bound (by decide) (by decide)]) (by rw [fr_L_bound (by decide) (by decide)]) (by rw [fr_L_bound (by decide) (by decide)]) (by rw [fr_L_bound (by decide) (by decide)]) (by rw [fr_L_bound (by decide) (by decide)]) (by rw [fr_L_bound (by decide) (by decide)]))) rfl rfl rfl ⟨Nat.le_of_ble_eq_true rfl, Nat.le_of_ble_eq_true rfl⟩ (Nat.le_of_ble_eq_true rfl) dL_law_1395 ⟨by show cells + 2 + 0 ≤ 601024; omega, by show slots + 12 + 0 ≤ 7293034; omega⟩ (c2 := cells + 2 + 0) (s2 := slots + 12 + 0) rfl rfl (fun H locs hW hS => ?_)
  refine lv_istore (lv' := [(6, .int ((f_X8_bound (xs (iN + 1)) (xs (iN + 2)) ((f_L_bound (xs (iN + 1)) (xs (iN + 2)) σ).2)).1)), (5, .int ((f_L_bound (xs (iN + 1)) (xs (iN + 2)) σ).1)), (4, .int (nI iN)), (3, .ref (ad 90 0)), (2, .ref (ad 8 0)), (1, .ref (ad 7 0)), (0, .ref b)]) hx hb dL_law_1398 hl (by decide) rfl (fun ls hl => ?_)
  refine lv_aload_n hx hb dL_law_1400 rfl (lv_at hl 4 rfl) ?_
  refine w_callVL (As := []) (rest := []) (st2 := .int (f_X8_thrown ((f_X8_bound (xs (iN + 1)) (xs (iN + 2)) ((f_L_bound (xs (iN + 1)) (xs (iN + 2)) σ).2)).2)) :: []) hC hW hS hl cv_L_127 m_8 (by decide) rfl (c_X8_thrown l hl9 D ca base ad ((f_X8_bound (xs (iN + 1)) (xs (iN + 2)) ((f_L_bound (xs (iN + 1)) (xs (iN + 2)) σ).2)).2) ) rfl rfl rfl ⟨Nat.le_of_ble_eq_true rfl, Nat.le_of_ble_eq_true rfl⟩ (Nat.le_of_ble_eq_true rfl) dL_law_1401 ⟨by show cells + 2 + 0 + 0 ≤ 601024; omega, by show slots + 12 + 0 + 0 ≤ 7293034; omega⟩ (c2 := cells + 2 + 0 + 0) (s2 := slots + 12 + 0 + 0) rfl rfl (fun H locs hW hS => ?_)
  refine lv_iload hx hb dL_law_1404 (lv_at hl 1 rfl) ?_
  refine lv_icmp_eq (tgt := 1411) hx hb dL_law_1406 (by decide) (fun c_1 => ?_) (fun c_1 => ?_)
  · refine lv_iload hx hb dL_law_1411 (lv_at hl 1 rfl) ?_
    refine lv_if_ne (tgt := 1428) hx hb dL_law_1413 (by decide) (fun c_2 => ?_) (fun c_2 => ?_)
    · refine lv_goto (tgt := 2689) hx hb dL_law_1428 (by decide) ?_
      have hO : g_law_13 xs iN σ = some ((f_X8_bound (xs (iN + 1)) (xs (iN + 2)) ((f_L_bound (xs (iN + 1)) (xs (iN + 2)) σ).2)).2) := by rw [g_law_13, if_pos c_1, if_neg c_2]
      obtain ⟨σ9, h9, hR9⟩ := hL2
      rw [hO] at h9
      cases h9
      exact W.widen (by omega) (by omega) (kk _ _ _ _ hR9 hW hS (lv_sub hl [2, 3, 4, 5, 6] rfl))
    · refine lv_aload_n hx hb dL_law_1416 rfl (lv_at hl 3 rfl) ?_
      refine lv_iconst (v := 0) hx hb dL_law_1417 (by decide) ?_
      refine w_lald hC hW m_90 (vp_lit (by decide)) dL_law_1418 ?_
      rw [show Int32.toNatClampNeg 0 = 0 by decide, fr_X8_bound (by decide) (by decide) (by decide)]
      refine lv_iload hx hb dL_law_1419 (lv_at hl 0 rfl) ?_
      refine lv_i2l hx hb dL_law_1421 rfl ?_
      refine W.lcmp hx hb dL_law_1422 ?_
      refine lv_if_eq (tgt := 1428) hx hb dL_law_1423 (by decide) (fun c_3 => ?_) (fun c_3 => ?_)
      · refine lv_goto (tgt := 2689) hx hb dL_law_1428 (by decide) ?_
        have hO : g_law_13 xs iN σ = some ((f_X8_bound (xs (iN + 1)) (xs (iN + 2)) ((f_L_bound (xs (iN + 1)) (xs (iN + 2)) σ).2)).2) := by rw [g_law_13, if_pos c_1, if_pos c_2, if_pos c_3]
        obtain ⟨σ9, h9, hR9⟩ := hL2
        rw [hO] at h9
        cases h9
        exact W.widen (by omega) (by omega) (kk _ _ _ _ hR9 hW hS (lv_sub hl [2, 3, 4, 5, 6] rfl))
      · refine lv_iconst (v := 0) hx hb dL_law_1426 (by decide) ?_
        have hO : g_law_13 xs iN σ = none := by rw [g_law_13, if_pos c_1, if_pos c_2, if_neg c_3]
        obtain ⟨σ9, h9, hR9⟩ := hL2
        rw [hO] at h9
        cases h9
  · refine lv_iconst (v := 0) hx hb dL_law_1409 (by decide) ?_
    have hO : g_law_13 xs iN σ = none := by rw [g_law_13, if_neg c_1]
    obtain ⟨σ9, h9, hR9⟩ := hL2
    rw [hO] at h9
    cases h9
def g_law_14 (xs : Nat → Int32) (iN : Nat) (σ : Sg) : Option Sg :=
  if (f_X8_thrown ((f_X8_about (xs (iN + 1)) (xs (iN + 2)) ((f_L_about (xs (iN + 1)) (xs (iN + 2)) σ).2)).2)) = ((f_L_about (xs (iN + 1)) (xs (iN + 2)) σ).1) then (if ((f_L_about (xs (iN + 1)) (xs (iN + 2)) σ).1) = 0 then (if (lg_cmp ((((f_L_about (xs (iN + 1)) (xs (iN + 2)) σ).2) 90 0 0).toInt64) (((f_X8_about (xs (iN + 1)) (xs (iN + 2)) ((f_L_about (xs (iN + 1)) (xs (iN + 2)) σ).2)).1).toInt64)) = 0 then some ((f_X8_about (xs (iN + 1)) (xs (iN + 2)) ((f_L_about (xs (iN + 1)) (xs (iN + 2)) σ).2)).2)
      else none)
    else some ((f_X8_about (xs (iN + 1)) (xs (iN + 2)) ((f_L_about (xs (iN + 1)) (xs (iN + 2)) σ).2)).2))
  else none
set_option maxHeartbeats 4000000 in
set_option maxRecDepth 100000 in
theorem lc_14 {p : Program} {l : Launch} (hl9 : l.stackTraces = false) {e : Env} {s : State} {m : MethodId} {below : List Frame} {meth : Method} {c : Code} {b L : Nat} {xs : Nat → Int32} {D : va_G} {ca : Nat → ClassId} {base : Nat} {ad : Adr} {Q : State → Prop} {iN : Nat} {σ : Sg} {H : Heap} {locs : List Loc} {cells slots : Nat} {ls : Array Slot} (RR : Sg → Prop) (hC : Cx p s m #[Value.ref b] meth c code 7 RL ret D ca base) (hN : Nx s) (hX : va_X b L xs s s.heap) (hbl : b < s.heap.size) (hbA : ¬ Ab base b) (hi7 : iN + 7 ≤ L) (hL9 : L ≤ 3584) (hc : cells + 40 ≤ 601024) (hs : slots + 240 ≤ 7293034) (hI : LInv σ) (hL2 : ∃ σ', g_law_14 xs iN σ = some σ' ∧ RR σ') (hW : Wd D ca (Ab base) ad ρm Lm σ H) (hS : va_S (Ab base) s.heap H locs) (hl : lv_has ls 7 [(4, .int (nI iN)), (3, .ref (ad 90 0)), (2, .ref (ad 8 0)), (1, .ref (ad 7 0)), (0, .ref b)])
    (kk : ∀ (σ' : Sg) (H1 : Heap) (locs1 : List Loc) (ls1 : Array Slot), RR σ' → Wd D ca (Ab base) ad ρm Lm σ' H1 → va_S (Ab base) s.heap H1 locs1 → lv_has ls1 7 [(4, .int (nI iN)), (3, .ref (ad 90 0)), (2, .ref (ad 8 0)), (1, .ref (ad 7 0)), (0, .ref b)] → W p l e room_1 s m #[Value.ref b] below meth c H1 locs1 (cells + 40) (slots + 240) Q (F0 m 2689 ls1 [])) : W p l e room_1 s m #[Value.ref b] below meth c H locs cells slots Q (F0 m 1431 ls []) := by
  have hx := hC.1
  have hb := hC.2.1
  refine lv_aload_n hx hb dL_law_1431 rfl (lv_at hl 3 rfl) ?_
  refine lv_aload_n hx hb dL_law_1432 rfl (lv_at hl 4 rfl) ?_
  refine lv_iload hx hb dL_law_1433 (lv_at hl 0 rfl) ?_
  refine lv_iconst (v := 1) hx hb dL_law_1435 (by decide) ?_
  refine lv_iadd hx hb dL_law_1436 ?_
  refine va_sld hx hb hX hbl hbA hS (vp_in_addr (a := 1) (by decide) (by omega) (by omega)) dL_law_1437 ?_
  rw [cl_addr (a := 1) (by decide) (by omega)]
  refine lv_aload_n hx hb dL_law_1438 rfl (lv_at hl 4 rfl) ?_
  refine lv_iload hx hb dL_law_1439 (lv_at hl 0 rfl) ?_
  refine lv_iconst (v := 2) hx hb dL_law_1441 (by decide) ?_
  refine lv_iadd hx hb dL_law_1442 ?_
  refine va_sld hx hb hX hbl hbA hS (vp_in_addr (a := 2) (by decide) (by omega) (by omega)) dL_law_1443 ?_
  rw [cl_addr (a := 2) (by decide) (by omega)]
  refine lv_aload_n hx hb dL_law_1444 rfl (lv_at hl 1 rfl) ?_
  refine w_callL (As := [.ref (ad 7 0), .int (xs (iN + 1)), .int (xs (iN + 2)), .ref (ad 90 0)]) (rest := []) (st2 := .int ((f_L_about (xs (iN + 1)) (xs (iN + 2)) σ).1) :: []) hC hN hW hS hl cl_L_176 (c_L_about l hl9 D ca base ad σ (xs (iN + 1)) (xs (iN + 2)) hI.1) rfl rfl rfl ⟨Nat.le_of_ble_eq_true rfl, Nat.le_of_ble_eq_true rfl⟩ (Nat.le_of_ble_eq_true rfl) dL_law_1445 ⟨by show cells + 2 ≤ 601024; omega, by show slots + 12 ≤ 7293034; omega⟩ (c2 := cells + 2) (s2 := slots + 12) rfl rfl (fun H locs hW hS => ?_)
  refine lv_istore (lv' := [(5, .int ((f_L_about (xs (iN + 1)) (xs (iN + 2)) σ).1)), (4, .int (nI iN)), (3, .ref (ad 90 0)), (2, .ref (ad 8 0)), (1, .ref (ad 7 0)), (0, .ref b)]) hx hb dL_law_1448 hl (by decide) rfl (fun ls hl => ?_)
  refine lv_aload_n hx hb dL_law_1450 rfl (lv_at hl 3 rfl) ?_
  refine lv_aload_n hx hb dL_law_1451 rfl (lv_at hl 5 rfl) ?_
  refine lv_iload hx hb dL_law_1452 (lv_at hl 1 rfl) ?_
  refine lv_iconst (v := 1) hx hb dL_law_1454 (by decide) ?_
  refine lv_iadd hx hb dL_law_1455 ?_
  refine va_sld hx hb hX hbl hbA hS (vp_in_addr (a := 1) (by decide) (by omega) (by omega)) dL_law_1456 ?_
  rw [cl_addr (a := 1) (by decide) (by omega)]
  refine lv_aload_n hx hb dL_law_1457 rfl (lv_at hl 5 rfl) ?_
  refine lv_iload hx hb dL_law_1458 (lv_at hl 1 rfl) ?_
  refine lv_iconst (v := 2) hx hb dL_law_1460 (by decide) ?_
  refine lv_iadd hx hb dL_law_1461 ?_
  refine va_sld hx hb hX hbl hbA hS (vp_in_addr (a := 2) (by decide) (by omega) (by omega)) dL_law_1462 ?_
  rw [cl_addr (a := 2) (by decide) (by omega)]
  refine w_callVL (As := [.int (xs (iN + 1)), .int (xs (iN + 2))]) (rest := []) (st2 := .int ((f_X8_about (xs (iN + 1)) (xs (iN + 2)) ((f_L_about (xs (iN + 1)) (xs (iN + 2)) σ).2)).1) :: []) hC hW hS hl cv_L_178 m_8 (by decide) rfl (c_X8_about l hl9 D ca base ad ((f_L_about (xs (iN + 1)) (xs (iN + 2)) σ).2) (xs (iN + 1)) (xs (iN + 2)) (mi_of hI.2.2.1 (by rw [fr_L_about (by decide)]) (by rw [fr_L_about (by decide)]) (by rw [fr_L_about (by decide)]) (by rw [fr_L_about (by decide)]) (by rw [fr_L_about (by decide)]) (by rw [fr_L_about (by decide)]) (by rw [fr_L_about (by decide)]) (by rw [fr_L_about (by decide)]) (by rw [fr_L_about (by decide)]) (by rw [fr_L_about (by decide)]) (by rw [fr_L_about (by decide)]) (by rw [fr_L_about (by decide)]) (by rw [fr_L_about (by decide)]) (by rw [fr_L_about (by decide)]) (by rw [fr_L_about (by decide)]) (by rw [fr_L_about (by decide)]))) rfl rfl rfl ⟨Nat.le_of_ble_eq_true rfl, Nat.le_of_ble_eq_true rfl⟩ (Nat.le_of_ble_eq_true rfl) dL_law_1463 ⟨by show cells + 2 + 0 ≤ 601024; omega, by show slots + 12 + 0 ≤ 7293034; omega⟩ (c2 := cells + 2 + 0) (s2 := slots + 12 + 0) rfl rfl (fun H locs hW hS => ?_)
  refine lv_istore (lv' := [(6, .int ((f_X8_about (xs (iN + 1)) (xs (iN + 2)) ((f_L_about (xs (iN + 1)) (xs (iN + 2)) σ).2)).1)), (5, .int ((f_L_about (xs (iN + 1)) (xs (iN + 2)) σ).1)), (4, .int (nI iN)), (3, .ref (ad 90 0)), (2, .ref (ad 8 0)), (1, .ref (ad 7 0)), (0, .ref b)]) hx hb dL_law_1466 hl (by decide) rfl (fun ls hl => ?_)
  refine lv_aload_n hx hb dL_law_1468 rfl (lv_at hl 4 rfl) ?_
  refine w_callVL (As := []) (rest := []) (st2 := .int (f_X8_thrown ((f_X8_about (xs (iN + 1)) (xs (iN + 2)) ((f_L_about (xs (iN + 1)) (xs (iN + 2)) σ).2)).2)) :: []) hC hW hS hl cv_L_127 m_8 (by decide) rfl (c_X8_thrown l hl9 D ca base ad ((f_X8_about (xs (iN + 1)) (xs (iN + 2)) ((f_L_about (xs (iN + 1)) (xs (iN + 2)) σ).2)).2) ) rfl rfl rfl ⟨Nat.le_of_ble_eq_true rfl, Nat.le_of_ble_eq_true rfl⟩ (Nat.le_of_ble_eq_true rfl) dL_law_1469 ⟨by show cells + 2 + 0 + 0 ≤ 601024; omega, by show slots + 12 + 0 + 0 ≤ 7293034; omega⟩ (c2 := cells + 2 + 0 + 0) (s2 := slots + 12 + 0 + 0) rfl rfl (fun H locs hW hS => ?_)
  refine lv_iload hx hb dL_law_1472 (lv_at hl 1 rfl) ?_
  refine lv_icmp_eq (tgt := 1479) hx hb dL_law_1474 (by decide) (fun c_1 => ?_) (fun c_1 => ?_)
  · refine lv_iload hx hb dL_law_1479 (lv_at hl 1 rfl) ?_
    refine lv_if_ne (tgt := 1496) hx hb dL_law_1481 (by decide) (fun c_2 => ?_) (fun c_2 => ?_)
    · refine lv_goto (tgt := 2689) hx hb dL_law_1496 (by decide) ?_
      have hO : g_law_14 xs iN σ = some ((f_X8_about (xs (iN + 1)) (xs (iN + 2)) ((f_L_about (xs (iN + 1)) (xs (iN + 2)) σ).2)).2) := by rw [g_law_14, if_pos c_1, if_neg c_2]
      obtain ⟨σ9, h9, hR9⟩ := hL2
      rw [hO] at h9
      cases h9
      exact W.widen (by omega) (by omega) (kk _ _ _ _ hR9 hW hS (lv_sub hl [2, 3, 4, 5, 6] rfl))
    · refine lv_aload_n hx hb dL_law_1484 rfl (lv_at hl 3 rfl) ?_
      refine lv_iconst (v := 0) hx hb dL_law_1485 (by decide) ?_
      refine w_lald hC hW m_90 (vp_lit (by decide)) dL_law_1486 ?_
      rw [show Int32.toNatClampNeg 0 = 0 by decide, fr_X8_about (by decide)]
      refine lv_iload hx hb dL_law_1487 (lv_at hl 0 rfl) ?_
      refine lv_i2l hx hb dL_law_1489 rfl ?_
      refine W.lcmp hx hb dL_law_1490 ?_
      refine lv_if_eq (tgt := 1496) hx hb dL_law_1491 (by decide) (fun c_3 => ?_) (fun c_3 => ?_)
      · refine lv_goto (tgt := 2689) hx hb dL_law_1496 (by decide) ?_
        have hO : g_law_14 xs iN σ = some ((f_X8_about (xs (iN + 1)) (xs (iN + 2)) ((f_L_about (xs (iN + 1)) (xs (iN + 2)) σ).2)).2) := by rw [g_law_14, if_pos c_1, if_pos c_2, if_pos c_3]
        obtain ⟨σ9, h9, hR9⟩ := hL2
        rw [hO] at h9
        cases h9
        exact W.widen (by omega) (by omega) (kk _ _ _ _ hR9 hW hS (lv_sub hl [2, 3, 4, 5, 6] rfl))
      · refine lv_iconst (v := 0) hx hb dL_law_1494 (by decide) ?_
        have hO : g_law_14 xs iN σ = none := by rw [g_law_14, if_pos c_1, if_pos c_2, if_neg c_3]
        obtain ⟨σ9, h9, hR9⟩ := hL2
        rw [hO] at h9
        cases h9
  · refine lv_iconst (v := 0) hx hb dL_law_1477 (by decide) ?_
    have hO : g_law_14 xs iN σ = none := by rw [g_law_14, if_neg c_1]
    obtain ⟨σ9, h9, hR9⟩ := hL2
    rw [hO] at h9
    cases h9
def g_law_15 (xs : Nat → Int32) (iN : Nat) (σ : Sg) : Option Sg :=
  if (f_X8_thrown ((f_X8_act (xs (iN + 1)) (xs (iN + 2)) (xs (iN + 3)) ((f_L_act (xs (iN + 1)) (xs (iN + 2)) (xs (iN + 3)) σ).2)).2)) = ((f_L_act (xs (iN + 1)) (xs (iN + 2)) (xs (iN + 3)) σ).1) then (if ((f_L_act (xs (iN + 1)) (xs (iN + 2)) (xs (iN + 3)) σ).1) = 0 then (if (lg_cmp ((((f_L_act (xs (iN + 1)) (xs (iN + 2)) (xs (iN + 3)) σ).2) 90 0 0).toInt64) (((f_X8_act (xs (iN + 1)) (xs (iN + 2)) (xs (iN + 3)) ((f_L_act (xs (iN + 1)) (xs (iN + 2)) (xs (iN + 3)) σ).2)).1).toInt64)) = 0 then some ((f_X8_act (xs (iN + 1)) (xs (iN + 2)) (xs (iN + 3)) ((f_L_act (xs (iN + 1)) (xs (iN + 2)) (xs (iN + 3)) σ).2)).2)
      else none)
    else some ((f_X8_act (xs (iN + 1)) (xs (iN + 2)) (xs (iN + 3)) ((f_L_act (xs (iN + 1)) (xs (iN + 2)) (xs (iN + 3)) σ).2)).2))
  else none
set_option maxHeartbeats 4000000 in
set_option maxRecDepth 100000 in
theorem lc_15 {p : Program} {l : Launch} (hl9 : l.stackTraces = false) {e : Env} {s : State} {m : MethodId} {below : List Frame} {meth : Method} {c : Code} {b L : Nat} {xs : Nat → Int32} {D : va_G} {ca : Nat → ClassId} {base : Nat} {ad : Adr} {Q : State → Prop} {iN : Nat} {σ : Sg} {H : Heap} {locs : List Loc} {cells slots : Nat} {ls : Array Slot} (RR : Sg → Prop) (hC : Cx p s m #[Value.ref b] meth c code 7 RL ret D ca base) (hN : Nx s) (hX : va_X b L xs s s.heap) (hbl : b < s.heap.size) (hbA : ¬ Ab base b) (hi7 : iN + 7 ≤ L) (hL9 : L ≤ 3584) (hc : cells + 40 ≤ 601024) (hs : slots + 240 ≤ 7293034) (hI : LInv σ) (hL2 : ∃ σ', g_law_15 xs iN σ = some σ' ∧ RR σ') (hW : Wd D ca (Ab base) ad ρm Lm σ H) (hS : va_S (Ab base) s.heap H locs) (hl : lv_has ls 7 [(4, .int (nI iN)), (3, .ref (ad 90 0)), (2, .ref (ad 8 0)), (1, .ref (ad 7 0)), (0, .ref b)])
    (kk : ∀ (σ' : Sg) (H1 : Heap) (locs1 : List Loc) (ls1 : Array Slot), RR σ' → Wd D ca (Ab base) ad ρm Lm σ' H1 → va_S (Ab base) s.heap H1 locs1 → lv_has ls1 7 [(4, .int (nI iN)), (3, .ref (ad 90 0)), (2, .ref (ad 8 0)), (1, .ref (ad 7 0)), (0, .ref b)] → W p l e room_1 s m #[Value.ref b] below meth c H1 locs1 (cells + 40) (slots + 240) Q (F0 m 2689 ls1 [])) : W p l e room_1 s m #[Value.ref b] below meth c H locs cells slots Q (F0 m 1499 ls []) := by
  have hx := hC.1
  have hb := hC.2.1
  refine lv_aload_n hx hb dL_law_1499 rfl (lv_at hl 3 rfl) ?_
  refine lv_aload_n hx hb dL_law_1500 rfl (lv_at hl 4 rfl) ?_
  refine lv_iload hx hb dL_law_1501 (lv_at hl 0 rfl) ?_
  refine lv_iconst (v := 1) hx hb dL_law_1503 (by decide) ?_
  refine lv_iadd hx hb dL_law_1504 ?_
  refine va_sld hx hb hX hbl hbA hS (vp_in_addr (a := 1) (by decide) (by omega) (by omega)) dL_law_1505 ?_
  rw [cl_addr (a := 1) (by decide) (by omega)]
  refine lv_aload_n hx hb dL_law_1506 rfl (lv_at hl 4 rfl) ?_
  refine lv_iload hx hb dL_law_1507 (lv_at hl 0 rfl) ?_
  refine lv_iconst (v := 2) hx hb dL_law_1509 (by decide) ?_
  refine lv_iadd hx hb dL_law_1510 ?_
  refine va_sld hx hb hX hbl hbA hS (vp_in_addr (a := 2) (by decide) (by omega) (by omega)) dL_law_1511 ?_
  rw [cl_addr (a := 2) (by decide) (by omega)]
  refine lv_aload_n hx hb dL_law_1512 rfl (lv_at hl 4 rfl) ?_
  refine lv_iload hx hb dL_law_1513 (lv_at hl 0 rfl) ?_
  refine lv_iconst (v := 3) hx hb dL_law_1515 (by decide) ?_
  refine lv_iadd hx hb dL_law_1516 ?_
  refine va_sld hx hb hX hbl hbA hS (vp_in_addr (a := 3) (by decide) (by omega) (by omega)) dL_law_1517 ?_
  rw [cl_addr (a := 3) (by decide) (by omega)]
  refine lv_aload_n hx hb dL_law_1518 rfl (lv_at hl 1 rfl) ?_
  refine w_callL (As := [.ref (ad 7 0), .int (xs (iN + 1)), .int (xs (iN + 2)), .int (xs (iN + 3)), .ref (ad 90 0)]) (rest := []) (st2 := .int ((f_L_act (xs (iN + 1)) (xs (iN + 2)) (xs (iN + 3)) σ).1) :: []) hC hN hW hS hl cl_L_179 (c_L_act l hl9 D ca base ad σ (xs (iN + 1)) (xs (iN + 2)) (xs (iN + 3)) hI.1) rfl rfl rfl ⟨Nat.le_of_ble_eq_true rfl, Nat.le_of_ble_eq_true rfl⟩ (Nat.le_of_ble_eq_true rfl) dL_law_1519 ⟨by show cells + 3 ≤ 601024; omega, by show slots + 18 ≤ 7293034; omega⟩ (c2 := cells + 3) (s2 := slots + 18) rfl rfl (fun H locs hW hS => ?_)
  refine lv_istore (lv' := [(5, .int ((f_L_act (xs (iN + 1)) (xs (iN + 2)) (xs (iN + 3)) σ).1)), (4, .int (nI iN)), (3, .ref (ad 90 0)), (2, .ref (ad 8 0)), (1, .ref (ad 7 0)), (0, .ref b)]) hx hb dL_law_1522 hl (by decide) rfl (fun ls hl => ?_)
  refine lv_aload_n hx hb dL_law_1524 rfl (lv_at hl 3 rfl) ?_
  refine lv_aload_n hx hb dL_law_1525 rfl (lv_at hl 5 rfl) ?_
  refine lv_iload hx hb dL_law_1526 (lv_at hl 1 rfl) ?_
  refine lv_iconst (v := 1) hx hb dL_law_1528 (by decide) ?_
  refine lv_iadd hx hb dL_law_1529 ?_
  refine va_sld hx hb hX hbl hbA hS (vp_in_addr (a := 1) (by decide) (by omega) (by omega)) dL_law_1530 ?_
  rw [cl_addr (a := 1) (by decide) (by omega)]
  refine lv_aload_n hx hb dL_law_1531 rfl (lv_at hl 5 rfl) ?_
  refine lv_iload hx hb dL_law_1532 (lv_at hl 1 rfl) ?_
  refine lv_iconst (v := 2) hx hb dL_law_1534 (by decide) ?_
  refine lv_iadd hx hb dL_law_1535 ?_
  refine va_sld hx hb hX hbl hbA hS (vp_in_addr (a := 2) (by decide) (by omega) (by omega)) dL_law_1536 ?_
  rw [cl_addr (a := 2) (by decide) (by omega)]
  refine lv_aload_n hx hb dL_law_1537 rfl (lv_at hl 5 rfl) ?_
  refine lv_iload hx hb dL_law_1538 (lv_at hl 1 rfl) ?_
  refine lv_iconst (v := 3) hx hb dL_law_1540 (by decide) ?_
  refine lv_iadd hx hb dL_law_1541 ?_
  refine va_sld hx hb hX hbl hbA hS (vp_in_addr (a := 3) (by decide) (by omega) (by omega)) dL_law_1542 ?_
  rw [cl_addr (a := 3) (by decide) (by omega)]
  refine w_callVL (As := [.int (xs (iN + 1)), .int (xs (iN + 2)), .int (xs (iN + 3))]) (rest := []) (st2 := .int ((f_X8_act (xs (iN + 1)) (xs (iN + 2)) (xs (iN + 3)) ((f_L_act (xs (iN + 1)) (xs (iN + 2)) (xs (iN + 3)) σ).2)).1) :: []) hC hW hS hl cv_L_181 m_8 (by decide) rfl (c_X8_act l hl9 D ca base ad ((f_L_act (xs (iN + 1)) (xs (iN + 2)) (xs (iN + 3)) σ).2) (xs (iN + 1)) (xs (iN + 2)) (xs (iN + 3)) (mi_of hI.2.2.1 (by rw [fr_L_act (by decide) (by decide) (by decide) (by decide)]) (by rw [fr_L_act (by decide) (by decide) (by decide) (by decide)]) (by rw [fr_L_act (by decide) (by decide) (by decide) (by decide)]) (by rw [fr_L_act (by decide) (by decide) (by decide) (by decide)]) (by rw [fr_L_act (by decide) (by decide) (by decide) (by decide)]) (by rw [fr_L_act (by decide) (by decide) (by decide) (by decide)]) (by rw [fr_L_act (by decide) (by decide) (by decide) (by decide)]) (by rw [fr_L_act (by decide) (by decide) (by decide) (by decide)]) (by rw [fr_L_act (by decide) (by decide) (by decide) (by decide)]) (by rw [fr_L_act (by decide) (by decide) (by decide) (by decide)]) (by rw [fr_L_act (by decide) (by decide) (by decide) (by decide)]) (by rw [fr_L_act (by decide) (by decide) (by decide) (by decide)]) (by rw [fr_L_act (by decide) (by decide) (by decide) (by decide)]) (by rw [fr_L_act (by decide) (by decide) (by decide) (by decide)]) (by rw [fr_L_act (by decide) (by decide) (by decide) (by decide)]) (by rw [fr_L_act (by decide) (by decide) (by decide) (by decide)]))) rfl rfl rfl ⟨Nat.le_of_ble_eq_true rfl, Nat.le_of_ble_eq_true rfl⟩ (Nat.le_of_ble_eq_true rfl) dL_law_1543 ⟨by show cells + 3 + 0 ≤ 601024; omega, by show slots + 18 + 0 ≤ 7293034; omega⟩ (c2 := cells + 3 + 0) (s2 := slots + 18 + 0) rfl rfl (fun H locs hW hS => ?_)
  refine lv_istore (lv' := [(6, .int ((f_X8_act (xs (iN + 1)) (xs (iN + 2)) (xs (iN + 3)) ((f_L_act (xs (iN + 1)) (xs (iN + 2)) (xs (iN + 3)) σ).2)).1)), (5, .int ((f_L_act (xs (iN + 1)) (xs (iN + 2)) (xs (iN + 3)) σ).1)), (4, .int (nI iN)), (3, .ref (ad 90 0)), (2, .ref (ad 8 0)), (1, .ref (ad 7 0)), (0, .ref b)]) hx hb dL_law_1546 hl (by decide) rfl (fun ls hl => ?_)
  refine lv_aload_n hx hb dL_law_1548 rfl (lv_at hl 4 rfl) ?_
  refine w_callVL (As := []) (rest := []) (st2 := .int (f_X8_thrown ((f_X8_act (xs (iN + 1)) (xs (iN + 2)) (xs (iN + 3)) ((f_L_act (xs (iN + 1)) (xs (iN + 2)) (xs (iN + 3)) σ).2)).2)) :: []) hC hW hS hl cv_L_127 m_8 (by decide) rfl (c_X8_thrown l hl9 D ca base ad ((f_X8_act (xs (iN + 1)) (xs (iN + 2)) (xs (iN + 3)) ((f_L_act (xs (iN + 1)) (xs (iN + 2)) (xs (iN + 3)) σ).2)).2) ) rfl rfl rfl ⟨Nat.le_of_ble_eq_true rfl, Nat.le_of_ble_eq_true rfl⟩ (Nat.le_of_ble_eq_true rfl) dL_law_1549 ⟨by show cells + 3 + 0 + 0 ≤ 601024; omega, by show slots + 18 + 0 + 0 ≤ 7293034; omega⟩ (c2 := cells + 3 + 0 + 0) (s2 := slots + 18 + 0 + 0) rfl rfl (fun H locs hW hS => ?_)
  refine lv_iload hx hb dL_law_1552 (lv_at hl 1 rfl) ?_
  refine lv_icmp_eq (tgt := 1559) hx hb dL_law_1554 (by decide) (fun c_1 => ?_) (fun c_1 => ?_)
  · refine lv_iload hx hb dL_law_1559 (lv_at hl 1 rfl) ?_
    refine lv_if_ne (tgt := 1576) hx hb dL_law_1561 (by decide) (fun c_2 => ?_) (fun c_2 => ?_)
    · refine lv_goto (tgt := 2689) hx hb dL_law_1576 (by decide) ?_
      have hO : g_law_15 xs iN σ = some ((f_X8_act (xs (iN + 1)) (xs (iN + 2)) (xs (iN + 3)) ((f_L_act (xs (iN + 1)) (xs (iN + 2)) (xs (iN + 3)) σ).2)).2) := by rw [g_law_15, if_pos c_1, if_neg c_2]
      obtain ⟨σ9, h9, hR9⟩ := hL2
      rw [hO] at h9
      cases h9
      exact W.widen (by omega) (by omega) (kk _ _ _ _ hR9 hW hS (lv_sub hl [2, 3, 4, 5, 6] rfl))
    · refine lv_aload_n hx hb dL_law_1564 rfl (lv_at hl 3 rfl) ?_
      refine lv_iconst (v := 0) hx hb dL_law_1565 (by decide) ?_
      refine w_lald hC hW m_90 (vp_lit (by decide)) dL_law_1566 ?_
      rw [show Int32.toNatClampNeg 0 = 0 by decide, fr_X8_act (by decide) (by decide) (by decide) (by decide) (by decide)]
      refine lv_iload hx hb dL_law_1567 (lv_at hl 0 rfl) ?_
      refine lv_i2l hx hb dL_law_1569 rfl ?_
      refine W.lcmp hx hb dL_law_1570 ?_
      refine lv_if_eq (tgt := 1576) hx hb dL_law_1571 (by decide) (fun c_3 => ?_) (fun c_3 => ?_)
      · refine lv_goto (tgt := 2689) hx hb dL_law_1576 (by decide) ?_
        have hO : g_law_15 xs iN σ = some ((f_X8_act (xs (iN + 1)) (xs (iN + 2)) (xs (iN + 3)) ((f_L_act (xs (iN + 1)) (xs (iN + 2)) (xs (iN + 3)) σ).2)).2) := by rw [g_law_15, if_pos c_1, if_pos c_2, if_pos c_3]
        obtain ⟨σ9, h9, hR9⟩ := hL2
        rw [hO] at h9
        cases h9
        exact W.widen (by omega) (by omega) (kk _ _ _ _ hR9 hW hS (lv_sub hl [2, 3, 4, 5, 6] rfl))
      · refine lv_iconst (v := 0) hx hb dL_law_1574 (by decide) ?_
        have hO : g_law_15 xs iN σ = none := by rw [g_law_15, if_pos c_1, if_pos c_2, if_neg c_3]
        obtain ⟨σ9, h9, hR9⟩ := hL2
        rw [hO] at h9
        cases h9
  · refine lv_iconst (v := 0) hx hb dL_law_1557 (by decide) ?_
    have hO : g_law_15 xs iN σ = none := by rw [g_law_15, if_neg c_1]
    obtain ⟨σ9, h9, hR9⟩ := hL2
    rw [hO] at h9
    cases h9
def g_law_16 (xs : Nat → Int32) (iN : Nat) (σ : Sg) : Option Sg :=
  if (f_X8_thrown ((f_X8_actBy (xs (iN + 1)) (xs (iN + 2)) (xs (iN + 3)) ((f_L_actBy (xs (iN + 1)) (xs (iN + 2)) (xs (iN + 3)) σ).2)).2)) = ((f_L_actBy (xs (iN + 1)) (xs (iN + 2)) (xs (iN + 3)) σ).1) then (if ((f_L_actBy (xs (iN + 1)) (xs (iN + 2)) (xs (iN + 3)) σ).1) = 0 then (if (lg_cmp ((((f_L_actBy (xs (iN + 1)) (xs (iN + 2)) (xs (iN + 3)) σ).2) 90 0 0).toInt64) (((f_X8_actBy (xs (iN + 1)) (xs (iN + 2)) (xs (iN + 3)) ((f_L_actBy (xs (iN + 1)) (xs (iN + 2)) (xs (iN + 3)) σ).2)).1).toInt64)) = 0 then some ((f_X8_actBy (xs (iN + 1)) (xs (iN + 2)) (xs (iN + 3)) ((f_L_actBy (xs (iN + 1)) (xs (iN + 2)) (xs (iN + 3)) σ).2)).2)
      else none)
    else some ((f_X8_actBy (xs (iN + 1)) (xs (iN + 2)) (xs (iN + 3)) ((f_L_actBy (xs (iN + 1)) (xs (iN + 2)) (xs (iN + 3)) σ).2)).2))
  else none
set_option maxHeartbeats 4000000 in
set_option maxRecDepth 100000 in
theorem lc_16 {p : Program} {l : Launch} (hl9 : l.stackTraces = false) {e : Env} {s : State} {m : MethodId} {below : List Frame} {meth : Method} {c : Code} {b L : Nat} {xs : Nat → Int32} {D : va_G} {ca : Nat → ClassId} {base : Nat} {ad : Adr} {Q : State → Prop} {iN : Nat} {σ : Sg} {H : Heap} {locs : List Loc} {cells slots : Nat} {ls : Array Slot} (RR : Sg → Prop) (hC : Cx p s m #[Value.ref b] meth c code 7 RL ret D ca base) (hN : Nx s) (hX : va_X b L xs s s.heap) (hbl : b < s.heap.size) (hbA : ¬ Ab base b) (hi7 : iN + 7 ≤ L) (hL9 : L ≤ 3584) (hc : cells + 40 ≤ 601024) (hs : slots + 240 ≤ 7293034) (hI : LInv σ) (hL2 : ∃ σ', g_law_16 xs iN σ = some σ' ∧ RR σ') (hW : Wd D ca (Ab base) ad ρm Lm σ H) (hS : va_S (Ab base) s.heap H locs) (hl : lv_has ls 7 [(4, .int (nI iN)), (3, .ref (ad 90 0)), (2, .ref (ad 8 0)), (1, .ref (ad 7 0)), (0, .ref b)])
    (kk : ∀ (σ' : Sg) (H1 : Heap) (locs1 : List Loc) (ls1 : Array Slot), RR σ' → Wd D ca (Ab base) ad ρm Lm σ' H1 → va_S (Ab base) s.heap H1 locs1 → lv_has ls1 7 [(4, .int (nI iN)), (3, .ref (ad 90 0)), (2, .ref (ad 8 0)), (1, .ref (ad 7 0)), (0, .ref b)] → W p l e room_1 s m #[Value.ref b] below meth c H1 locs1 (cells + 40) (slots + 240) Q (F0 m 2689 ls1 [])) : W p l e room_1 s m #[Value.ref b] below meth c H locs cells slots Q (F0 m 1579 ls []) := by
  have hx := hC.1
  have hb := hC.2.1
  refine lv_aload_n hx hb dL_law_1579 rfl (lv_at hl 3 rfl) ?_
  refine lv_aload_n hx hb dL_law_1580 rfl (lv_at hl 4 rfl) ?_
  refine lv_iload hx hb dL_law_1581 (lv_at hl 0 rfl) ?_
  refine lv_iconst (v := 1) hx hb dL_law_1583 (by decide) ?_
  refine lv_iadd hx hb dL_law_1584 ?_
  refine va_sld hx hb hX hbl hbA hS (vp_in_addr (a := 1) (by decide) (by omega) (by omega)) dL_law_1585 ?_
  rw [cl_addr (a := 1) (by decide) (by omega)]
  refine lv_aload_n hx hb dL_law_1586 rfl (lv_at hl 4 rfl) ?_
  refine lv_iload hx hb dL_law_1587 (lv_at hl 0 rfl) ?_
  refine lv_iconst (v := 2) hx hb dL_law_1589 (by decide) ?_
  refine lv_iadd hx hb dL_law_1590 ?_
  refine va_sld hx hb hX hbl hbA hS (vp_in_addr (a := 2) (by decide) (by omega) (by omega)) dL_law_1591 ?_
  rw [cl_addr (a := 2) (by decide) (by omega)]
  refine lv_aload_n hx hb dL_law_1592 rfl (lv_at hl 4 rfl) ?_
  refine lv_iload hx hb dL_law_1593 (lv_at hl 0 rfl) ?_
  refine lv_iconst (v := 3) hx hb dL_law_1595 (by decide) ?_
  refine lv_iadd hx hb dL_law_1596 ?_
  refine va_sld hx hb hX hbl hbA hS (vp_in_addr (a := 3) (by decide) (by omega) (by omega)) dL_law_1597 ?_
  rw [cl_addr (a := 3) (by decide) (by omega)]
  refine lv_aload_n hx hb dL_law_1598 rfl (lv_at hl 1 rfl) ?_
  refine w_callL (As := [.ref (ad 7 0), .int (xs (iN + 1)), .int (xs (iN + 2)), .int (xs (iN + 3)), .ref (ad 90 0)]) (rest := []) (st2 := .int ((f_L_actBy (xs (iN + 1)) (xs (iN + 2)) (xs (iN + 3)) σ).1) :: []) hC hN hW hS hl cl_L_182 (c_L_actBy l hl9 D ca base ad σ (xs (iN + 1)) (xs (iN + 2)) (xs (iN + 3)) hI.1 hI.2.1) rfl rfl rfl ⟨Nat.le_of_ble_eq_true rfl, Nat.le_of_ble_eq_true rfl⟩ (Nat.le_of_ble_eq_true rfl) dL_law_1599 ⟨by show cells + 9 ≤ 601024; omega, by show slots + 54 ≤ 7293034; omega⟩ (c2 := cells + 9) (s2 := slots + 54) rfl rfl (fun H locs hW hS => ?_)
  refine lv_istore (lv' := [(5, .int ((f_L_actBy (xs (iN + 1)) (xs (iN + 2)) (xs (iN + 3)) σ).1)), (4, .int (nI iN)), (3, .ref (ad 90 0)), (2, .ref (ad 8 0)), (1, .ref (ad 7 0)), (0, .ref b)]) hx hb dL_law_1602 hl (by decide) rfl (fun ls hl => ?_)
  refine lv_aload_n hx hb dL_law_1604 rfl (lv_at hl 3 rfl) ?_
  refine lv_aload_n hx hb dL_law_1605 rfl (lv_at hl 5 rfl) ?_
  refine lv_iload hx hb dL_law_1606 (lv_at hl 1 rfl) ?_
  refine lv_iconst (v := 1) hx hb dL_law_1608 (by decide) ?_
  refine lv_iadd hx hb dL_law_1609 ?_
  refine va_sld hx hb hX hbl hbA hS (vp_in_addr (a := 1) (by decide) (by omega) (by omega)) dL_law_1610 ?_
  rw [cl_addr (a := 1) (by decide) (by omega)]
  refine lv_aload_n hx hb dL_law_1611 rfl (lv_at hl 5 rfl) ?_
  refine lv_iload hx hb dL_law_1612 (lv_at hl 1 rfl) ?_
  refine lv_iconst (v := 2) hx hb dL_law_1614 (by decide) ?_
  refine lv_iadd hx hb dL_law_1615 ?_
  refine va_sld hx hb hX hbl hbA hS (vp_in_addr (a := 2) (by decide) (by omega) (by omega)) dL_law_1616 ?_
  rw [cl_addr (a := 2) (by decide) (by omega)]
  refine lv_aload_n hx hb dL_law_1617 rfl (lv_at hl 5 rfl) ?_
  refine lv_iload hx hb dL_law_1618 (lv_at hl 1 rfl) ?_
  refine lv_iconst (v := 3) hx hb dL_law_1620 (by decide) ?_
  refine lv_iadd hx hb dL_law_1621 ?_
  refine va_sld hx hb hX hbl hbA hS (vp_in_addr (a := 3) (by decide) (by omega) (by omega)) dL_law_1622 ?_
  rw [cl_addr (a := 3) (by decide) (by omega)]
  refine w_callVL (As := [.int (xs (iN + 1)), .int (xs (iN + 2)), .int (xs (iN + 3))]) (rest := []) (st2 := .int ((f_X8_actBy (xs (iN + 1)) (xs (iN + 2)) (xs (iN + 3)) ((f_L_actBy (xs (iN + 1)) (xs (iN + 2)) (xs (iN + 3)) σ).2)).1) :: []) hC hW hS hl cv_L_184 m_8 (by decide) rfl (c_X8_actBy l hl9 D ca base ad ((f_L_actBy (xs (iN + 1)) (xs (iN + 2)) (xs (iN + 3)) σ).2) (xs (iN + 1)) (xs (iN + 2)) (xs (iN + 3)) (mi_of hI.2.2.1 (by rw [fr_L_actBy (by decide) (by decide) (by decide) (by decide) (by decide)]) (by rw [fr_L_actBy (by decide) (by decide) (by decide) (by decide) (by decide)]) (by rw [fr_L_actBy (by decide) (by decide) (by decide) (by decide) (by decide)]) (by rw [fr_L_actBy (by decide) (by decide) (by decide) (by decide) (by decide)]) (by rw [fr_L_actBy (by decide) (by decide) (by decide) (by decide) (by decide)]) (by rw [fr_L_actBy (by decide) (by decide) (by decide) (by decide) (by decide)]) (by rw [fr_L_actBy (by decide) (by decide) (by decide) (by decide) (by decide)]) (by rw [fr_L_actBy (by decide) (by decide) (by decide) (by decide) (by decide)]) (by rw [fr_L_actBy (by decide) (by decide) (by decide) (by decide) (by decide)]) (by rw [fr_L_actBy (by decide) (by decide) (by decide) (by decide) (by decide)]) (by rw [fr_L_actBy (by decide) (by decide) (by decide) (by decide) (by decide)]) (by rw [fr_L_actBy (by decide) (by decide) (by decide) (by decide) (by decide)]) (by rw [fr_L_actBy (by decide) (by decide) (by decide) (by decide) (by decide)]) (by rw [fr_L_actBy (by decide) (by decide) (by decide) (by decide) (by decide)]) (by rw [fr_L_actBy (by decide) (by decide) (by decide) (by decide) (by decide)]) (by rw [fr_L_actBy (by decide) (by decide) (by decide) (by decide) (by decide)]))) rfl rfl rfl ⟨Nat.le_of_ble_eq_true rfl, Nat.le_of_ble_eq_true rfl⟩ (Nat.le_of_ble_eq_true rfl) dL_law_1623 ⟨by show cells + 9 + 0 ≤ 601024; omega, by show slots + 54 + 0 ≤ 7293034; omega⟩ (c2 := cells + 9 + 0) (s2 := slots + 54 + 0) rfl rfl (fun H locs hW hS => ?_)
  refine lv_istore (lv' := [(6, .int ((f_X8_actBy (xs (iN + 1)) (xs (iN + 2)) (xs (iN + 3)) ((f_L_actBy (xs (iN + 1)) (xs (iN + 2)) (xs (iN + 3)) σ).2)).1)), (5, .int ((f_L_actBy (xs (iN + 1)) (xs (iN + 2)) (xs (iN + 3)) σ).1)), (4, .int (nI iN)), (3, .ref (ad 90 0)), (2, .ref (ad 8 0)), (1, .ref (ad 7 0)), (0, .ref b)]) hx hb dL_law_1626 hl (by decide) rfl (fun ls hl => ?_)
  refine lv_aload_n hx hb dL_law_1628 rfl (lv_at hl 4 rfl) ?_
  refine w_callVL (As := []) (rest := []) (st2 := .int (f_X8_thrown ((f_X8_actBy (xs (iN + 1)) (xs (iN + 2)) (xs (iN + 3)) ((f_L_actBy (xs (iN + 1)) (xs (iN + 2)) (xs (iN + 3)) σ).2)).2)) :: []) hC hW hS hl cv_L_127 m_8 (by decide) rfl (c_X8_thrown l hl9 D ca base ad ((f_X8_actBy (xs (iN + 1)) (xs (iN + 2)) (xs (iN + 3)) ((f_L_actBy (xs (iN + 1)) (xs (iN + 2)) (xs (iN + 3)) σ).2)).2) ) rfl rfl rfl ⟨Nat.le_of_ble_eq_true rfl, Nat.le_of_ble_eq_true rfl⟩ (Nat.le_of_ble_eq_true rfl) dL_law_1629 ⟨by show cells + 9 + 0 + 0 ≤ 601024; omega, by show slots + 54 + 0 + 0 ≤ 7293034; omega⟩ (c2 := cells + 9 + 0 + 0) (s2 := slots + 54 + 0 + 0) rfl rfl (fun H locs hW hS => ?_)
  refine lv_iload hx hb dL_law_1632 (lv_at hl 1 rfl) ?_
  refine lv_icmp_eq (tgt := 1639) hx hb dL_law_1634 (by decide) (fun c_1 => ?_) (fun c_1 => ?_)
  · refine lv_iload hx hb dL_law_1639 (lv_at hl 1 rfl) ?_
    refine lv_if_ne (tgt := 1656) hx hb dL_law_1641 (by decide) (fun c_2 => ?_) (fun c_2 => ?_)
    · refine lv_goto (tgt := 2689) hx hb dL_law_1656 (by decide) ?_
      have hO : g_law_16 xs iN σ = some ((f_X8_actBy (xs (iN + 1)) (xs (iN + 2)) (xs (iN + 3)) ((f_L_actBy (xs (iN + 1)) (xs (iN + 2)) (xs (iN + 3)) σ).2)).2) := by rw [g_law_16, if_pos c_1, if_neg c_2]
      obtain ⟨σ9, h9, hR9⟩ := hL2
      rw [hO] at h9
      cases h9
      exact W.widen (by omega) (by omega) (kk _ _ _ _ hR9 hW hS (lv_sub hl [2, 3, 4, 5, 6] rfl))
    · refine lv_aload_n hx hb dL_law_1644 rfl (lv_at hl 3 rfl) ?_
      refine lv_iconst (v := 0) hx hb dL_law_1645 (by decide) ?_
      refine w_lald hC hW m_90 (vp_lit (by decide)) dL_law_1646 ?_
      rw [show Int32.toNatClampNeg 0 = 0 by decide, fr_X8_actBy (by decide) (by decide)]
      refine lv_iload hx hb dL_law_1647 (lv_at hl 0 rfl) ?_
      refine lv_i2l hx hb dL_law_1649 rfl ?_
      refine W.lcmp hx hb dL_law_1650 ?_
      refine lv_if_eq (tgt := 1656) hx hb dL_law_1651 (by decide) (fun c_3 => ?_) (fun c_3 => ?_)
      · refine lv_goto (tgt := 2689) hx hb dL_law_1656 (by decide) ?_
        have hO : g_law_16 xs iN σ = some ((f_X8_actBy (xs (iN + 1)) (xs (iN + 2)) (xs (iN + 3)) ((f_L_actBy (xs (iN + 1)) (xs (iN + 2)) (xs (iN + 3)) σ).2)).2) := by rw [g_law_16, if_pos c_1, if_pos c_2, if_pos c_3]
        obtain ⟨σ9, h9, hR9⟩ := hL2
        rw [hO] at h9
        cases h9
        exact W.widen (by omega) (by omega) (kk _ _ _ _ hR9 hW hS (lv_sub hl [2, 3, 4, 5, 6] rfl))
      · refine lv_iconst (v := 0) hx hb dL_law_1654 (by decide) ?_
        have hO : g_law_16 xs iN σ = none := by rw [g_law_16, if_pos c_1, if_pos c_2, if_neg c_3]
        obtain ⟨σ9, h9, hR9⟩ := hL2
        rw [hO] at h9
        cases h9
  · refine lv_iconst (v := 0) hx hb dL_law_1637 (by decide) ?_
    have hO : g_law_16 xs iN σ = none := by rw [g_law_16, if_neg c_1]
    obtain ⟨σ9, h9, hR9⟩ := hL2
    rw [hO] at h9
    cases h9
def g_law_17 (xs : Nat → Int32) (iN : Nat) (σ : Sg) : Option Sg :=
  if (f_X8_thrown ((f_X8_token (xs (iN + 1)) (xs (iN + 2)) (xs (iN + 3)) (xs (iN + 4)) ((f_L_token (xs (iN + 1)) (xs (iN + 2)) (xs (iN + 3)) (xs (iN + 4)) σ).2)).2)) = ((f_L_token (xs (iN + 1)) (xs (iN + 2)) (xs (iN + 3)) (xs (iN + 4)) σ).1) then (if ((f_L_token (xs (iN + 1)) (xs (iN + 2)) (xs (iN + 3)) (xs (iN + 4)) σ).1) = 0 then (if (lg_cmp ((((f_L_token (xs (iN + 1)) (xs (iN + 2)) (xs (iN + 3)) (xs (iN + 4)) σ).2) 90 0 0).toInt64) (((f_X8_token (xs (iN + 1)) (xs (iN + 2)) (xs (iN + 3)) (xs (iN + 4)) ((f_L_token (xs (iN + 1)) (xs (iN + 2)) (xs (iN + 3)) (xs (iN + 4)) σ).2)).1).toInt64)) = 0 then some ((f_X8_token (xs (iN + 1)) (xs (iN + 2)) (xs (iN + 3)) (xs (iN + 4)) ((f_L_token (xs (iN + 1)) (xs (iN + 2)) (xs (iN + 3)) (xs (iN + 4)) σ).2)).2)
      else none)
    else some ((f_X8_token (xs (iN + 1)) (xs (iN + 2)) (xs (iN + 3)) (xs (iN + 4)) ((f_L_token (xs (iN + 1)) (xs (iN + 2)) (xs (iN + 3)) (xs (iN + 4)) σ).2)).2))
  else none
set_option maxHeartbeats 4000000 in
set_option maxRecDepth 100000 in
theorem lc_17 {p : Program} {l : Launch} (hl9 : l.stackTraces = false) {e : Env} {s : State} {m : MethodId} {below : List Frame} {meth : Method} {c : Code} {b L : Nat} {xs : Nat → Int32} {D : va_G} {ca : Nat → ClassId} {base : Nat} {ad : Adr} {Q : State → Prop} {iN : Nat} {σ : Sg} {H : Heap} {locs : List Loc} {cells slots : Nat} {ls : Array Slot} (RR : Sg → Prop) (hC : Cx p s m #[Value.ref b] meth c code 7 RL ret D ca base) (hN : Nx s) (hX : va_X b L xs s s.heap) (hbl : b < s.heap.size) (hbA : ¬ Ab base b) (hi7 : iN + 7 ≤ L) (hL9 : L ≤ 3584) (hc : cells + 40 ≤ 601024) (hs : slots + 240 ≤ 7293034) (hI : LInv σ) (hL2 : ∃ σ', g_law_17 xs iN σ = some σ' ∧ RR σ') (hW : Wd D ca (Ab base) ad ρm Lm σ H) (hS : va_S (Ab base) s.heap H locs) (hl : lv_has ls 7 [(4, .int (nI iN)), (3, .ref (ad 90 0)), (2, .ref (ad 8 0)), (1, .ref (ad 7 0)), (0, .ref b)])
    (kk : ∀ (σ' : Sg) (H1 : Heap) (locs1 : List Loc) (ls1 : Array Slot), RR σ' → Wd D ca (Ab base) ad ρm Lm σ' H1 → va_S (Ab base) s.heap H1 locs1 → lv_has ls1 7 [(4, .int (nI iN)), (3, .ref (ad 90 0)), (2, .ref (ad 8 0)), (1, .ref (ad 7 0)), (0, .ref b)] → W p l e room_1 s m #[Value.ref b] below meth c H1 locs1 (cells + 40) (slots + 240) Q (F0 m 2689 ls1 [])) : W p l e room_1 s m #[Value.ref b] below meth c H locs cells slots Q (F0 m 1659 ls []) := by
  have hx := hC.1
  have hb := hC.2.1
  refine lv_aload_n hx hb dL_law_1659 rfl (lv_at hl 3 rfl) ?_
  refine lv_aload_n hx hb dL_law_1660 rfl (lv_at hl 4 rfl) ?_
  refine lv_iload hx hb dL_law_1661 (lv_at hl 0 rfl) ?_
  refine lv_iconst (v := 1) hx hb dL_law_1663 (by decide) ?_
  refine lv_iadd hx hb dL_law_1664 ?_
  refine va_sld hx hb hX hbl hbA hS (vp_in_addr (a := 1) (by decide) (by omega) (by omega)) dL_law_1665 ?_
  rw [cl_addr (a := 1) (by decide) (by omega)]
  refine lv_aload_n hx hb dL_law_1666 rfl (lv_at hl 4 rfl) ?_
  refine lv_iload hx hb dL_law_1667 (lv_at hl 0 rfl) ?_
  refine lv_iconst (v := 2) hx hb dL_law_1669 (by decide) ?_
  refine lv_iadd hx hb dL_law_1670 ?_
  refine va_sld hx hb hX hbl hbA hS (vp_in_addr (a := 2) (by decide) (by omega) (by omega)) dL_law_1671 ?_
  rw [cl_addr (a := 2) (by decide) (by omega)]
  refine lv_aload_n hx hb dL_law_1672 rfl (lv_at hl 4 rfl) ?_
  refine lv_iload hx hb dL_law_1673 (lv_at hl 0 rfl) ?_
  refine lv_iconst (v := 3) hx hb dL_law_1675 (by decide) ?_
  refine lv_iadd hx hb dL_law_1676 ?_
  refine va_sld hx hb hX hbl hbA hS (vp_in_addr (a := 3) (by decide) (by omega) (by omega)) dL_law_1677 ?_
  rw [cl_addr (a := 3) (by decide) (by omega)]
  refine lv_aload_n hx hb dL_law_1678 rfl (lv_at hl 4 rfl) ?_
  refine lv_iload hx hb dL_law_1679 (lv_at hl 0 rfl) ?_
  refine lv_iconst (v := 4) hx hb dL_law_1681 (by decide) ?_
  refine lv_iadd hx hb dL_law_1682 ?_
  refine va_sld hx hb hX hbl hbA hS (vp_in_addr (a := 4) (by decide) (by omega) (by omega)) dL_law_1683 ?_
  rw [cl_addr (a := 4) (by decide) (by omega)]
  refine lv_aload_n hx hb dL_law_1684 rfl (lv_at hl 1 rfl) ?_
  refine w_callL (As := [.ref (ad 7 0), .int (xs (iN + 1)), .int (xs (iN + 2)), .int (xs (iN + 3)), .int (xs (iN + 4)), .ref (ad 90 0)]) (rest := []) (st2 := .int ((f_L_token (xs (iN + 1)) (xs (iN + 2)) (xs (iN + 3)) (xs (iN + 4)) σ).1) :: []) hC hN hW hS hl cl_L_185 (c_L_token l hl9 D ca base ad σ (xs (iN + 1)) (xs (iN + 2)) (xs (iN + 3)) (xs (iN + 4)) hI.1) rfl rfl rfl ⟨Nat.le_of_ble_eq_true rfl, Nat.le_of_ble_eq_true rfl⟩ (Nat.le_of_ble_eq_true rfl) dL_law_1685 ⟨by show cells + 5 ≤ 601024; omega, by show slots + 30 ≤ 7293034; omega⟩ (c2 := cells + 5) (s2 := slots + 30) rfl rfl (fun H locs hW hS => ?_)
  refine lv_istore (lv' := [(5, .int ((f_L_token (xs (iN + 1)) (xs (iN + 2)) (xs (iN + 3)) (xs (iN + 4)) σ).1)), (4, .int (nI iN)), (3, .ref (ad 90 0)), (2, .ref (ad 8 0)), (1, .ref (ad 7 0)), (0, .ref b)]) hx hb dL_law_1688 hl (by decide) rfl (fun ls hl => ?_)
  refine lv_aload_n hx hb dL_law_1690 rfl (lv_at hl 3 rfl) ?_
  refine lv_aload_n hx hb dL_law_1691 rfl (lv_at hl 5 rfl) ?_
  refine lv_iload hx hb dL_law_1692 (lv_at hl 1 rfl) ?_
  refine lv_iconst (v := 1) hx hb dL_law_1694 (by decide) ?_
  refine lv_iadd hx hb dL_law_1695 ?_
  refine va_sld hx hb hX hbl hbA hS (vp_in_addr (a := 1) (by decide) (by omega) (by omega)) dL_law_1696 ?_
  rw [cl_addr (a := 1) (by decide) (by omega)]
  refine lv_aload_n hx hb dL_law_1697 rfl (lv_at hl 5 rfl) ?_
  refine lv_iload hx hb dL_law_1698 (lv_at hl 1 rfl) ?_
  refine lv_iconst (v := 2) hx hb dL_law_1700 (by decide) ?_
  refine lv_iadd hx hb dL_law_1701 ?_
  refine va_sld hx hb hX hbl hbA hS (vp_in_addr (a := 2) (by decide) (by omega) (by omega)) dL_law_1702 ?_
  rw [cl_addr (a := 2) (by decide) (by omega)]
  refine lv_aload_n hx hb dL_law_1703 rfl (lv_at hl 5 rfl) ?_
  refine lv_iload hx hb dL_law_1704 (lv_at hl 1 rfl) ?_
  refine lv_iconst (v := 3) hx hb dL_law_1706 (by decide) ?_
  refine lv_iadd hx hb dL_law_1707 ?_
  refine va_sld hx hb hX hbl hbA hS (vp_in_addr (a := 3) (by decide) (by omega) (by omega)) dL_law_1708 ?_
  rw [cl_addr (a := 3) (by decide) (by omega)]
  refine lv_aload_n hx hb dL_law_1709 rfl (lv_at hl 5 rfl) ?_
  refine lv_iload hx hb dL_law_1710 (lv_at hl 1 rfl) ?_
  refine lv_iconst (v := 4) hx hb dL_law_1712 (by decide) ?_
  refine lv_iadd hx hb dL_law_1713 ?_
  refine va_sld hx hb hX hbl hbA hS (vp_in_addr (a := 4) (by decide) (by omega) (by omega)) dL_law_1714 ?_
  rw [cl_addr (a := 4) (by decide) (by omega)]
  refine w_callVL (As := [.int (xs (iN + 1)), .int (xs (iN + 2)), .int (xs (iN + 3)), .int (xs (iN + 4))]) (rest := []) (st2 := .int ((f_X8_token (xs (iN + 1)) (xs (iN + 2)) (xs (iN + 3)) (xs (iN + 4)) ((f_L_token (xs (iN + 1)) (xs (iN + 2)) (xs (iN + 3)) (xs (iN + 4)) σ).2)).1) :: []) hC hW hS hl cv_L_187 m_8 (by decide) rfl (c_X8_token l hl9 D ca base ad ((f_L_token (xs (iN + 1)) (xs (iN + 2)) (xs (iN + 3)) (xs (iN + 4)) σ).2) (xs (iN + 1)) (xs (iN + 2)) (xs (iN + 3)) (xs (iN + 4)) (mi_of hI.2.2.1 (by rw [fr_L_token (by decide) (by decide) (by decide)]) (by rw [fr_L_token (by decide) (by decide) (by decide)]) (by rw [fr_L_token (by decide) (by decide) (by decide)]) (by rw [fr_L_token (by decide) (by decide) (by decide)]) (by rw [fr_L_token (by decide) (by decide) (by decide)]) (by rw [fr_L_token (by decide) (by decide) (by decide)]) (by rw [fr_L_token (by decide) (by decide) (by decide)]) (by rw [fr_L_token (by decide) (by decide) (by decide)]) (by rw [fr_L_token (by decide) (by decide) (by decide)]) (by rw [fr_L_token (by decide) (by decide) (by decide)]) (by rw [fr_L_token (by decide) (by decide) (by decide)]) (by rw [fr_L_token (by decide) (by decide) (by decide)]) (by rw [fr_L_token (by decide) (by decide) (by decide)]) (by rw [fr_L_token (by decide) (by decide) (by decide)]) (by rw [fr_L_token (by decide) (by decide) (by decide)]) (by rw [fr_L_token (by decide) (by decide) (by decide)]))) rfl rfl rfl ⟨Nat.le_of_ble_eq_true rfl, Nat.le_of_ble_eq_true rfl⟩ (Nat.le_of_ble_eq_true rfl) dL_law_1715 ⟨by show cells + 5 + 0 ≤ 601024; omega, by show slots + 30 + 0 ≤ 7293034; omega⟩ (c2 := cells + 5 + 0) (s2 := slots + 30 + 0) rfl rfl (fun H locs hW hS => ?_)
  refine lv_istore (lv' := [(6, .int ((f_X8_token (xs (iN + 1)) (xs (iN + 2)) (xs (iN + 3)) (xs (iN + 4)) ((f_L_token (xs (iN + 1)) (xs (iN + 2)) (xs (iN + 3)) (xs (iN + 4)) σ).2)).1)), (5, .int ((f_L_token (xs (iN + 1)) (xs (iN + 2)) (xs (iN + 3)) (xs (iN + 4)) σ).1)), (4, .int (nI iN)), (3, .ref (ad 90 0)), (2, .ref (ad 8 0)), (1, .ref (ad 7 0)), (0, .ref b)]) hx hb dL_law_1718 hl (by decide) rfl (fun ls hl => ?_)
  refine lv_aload_n hx hb dL_law_1720 rfl (lv_at hl 4 rfl) ?_
  refine w_callVL (As := []) (rest := []) (st2 := .int (f_X8_thrown ((f_X8_token (xs (iN + 1)) (xs (iN + 2)) (xs (iN + 3)) (xs (iN + 4)) ((f_L_token (xs (iN + 1)) (xs (iN + 2)) (xs (iN + 3)) (xs (iN + 4)) σ).2)).2)) :: []) hC hW hS hl cv_L_127 m_8 (by decide) rfl (c_X8_thrown l hl9 D ca base ad ((f_X8_token (xs (iN + 1)) (xs (iN + 2)) (xs (iN + 3)) (xs (iN + 4)) ((f_L_token (xs (iN + 1)) (xs (iN + 2)) (xs (iN + 3)) (xs (iN + 4)) σ).2)).2) ) rfl rfl rfl ⟨Nat.le_of_ble_eq_true rfl, Nat.le_of_ble_eq_true rfl⟩ (Nat.le_of_ble_eq_true rfl) dL_law_1721 ⟨by show cells + 5 + 0 + 0 ≤ 601024; omega, by show slots + 30 + 0 + 0 ≤ 7293034; omega⟩ (c2 := cells + 5 + 0 + 0) (s2 := slots + 30 + 0 + 0) rfl rfl (fun H locs hW hS => ?_)
  refine lv_iload hx hb dL_law_1724 (lv_at hl 1 rfl) ?_
  refine lv_icmp_eq (tgt := 1731) hx hb dL_law_1726 (by decide) (fun c_1 => ?_) (fun c_1 => ?_)
  · refine lv_iload hx hb dL_law_1731 (lv_at hl 1 rfl) ?_
    refine lv_if_ne (tgt := 1748) hx hb dL_law_1733 (by decide) (fun c_2 => ?_) (fun c_2 => ?_)
    · refine lv_goto (tgt := 2689) hx hb dL_law_1748 (by decide) ?_
      have hO : g_law_17 xs iN σ = some ((f_X8_token (xs (iN + 1)) (xs (iN + 2)) (xs (iN + 3)) (xs (iN + 4)) ((f_L_token (xs (iN + 1)) (xs (iN + 2)) (xs (iN + 3)) (xs (iN + 4)) σ).2)).2) := by rw [g_law_17, if_pos c_1, if_neg c_2]
      obtain ⟨σ9, h9, hR9⟩ := hL2
      rw [hO] at h9
      cases h9
      exact W.widen (by omega) (by omega) (kk _ _ _ _ hR9 hW hS (lv_sub hl [2, 3, 4, 5, 6] rfl))
    · refine lv_aload_n hx hb dL_law_1736 rfl (lv_at hl 3 rfl) ?_
      refine lv_iconst (v := 0) hx hb dL_law_1737 (by decide) ?_
      refine w_lald hC hW m_90 (vp_lit (by decide)) dL_law_1738 ?_
      rw [show Int32.toNatClampNeg 0 = 0 by decide, fr_X8_token (by decide) (by decide) (by decide) (by decide) (by decide) (by decide) (by decide) (by decide) (by decide) (by decide)]
      refine lv_iload hx hb dL_law_1739 (lv_at hl 0 rfl) ?_
      refine lv_i2l hx hb dL_law_1741 rfl ?_
      refine W.lcmp hx hb dL_law_1742 ?_
      refine lv_if_eq (tgt := 1748) hx hb dL_law_1743 (by decide) (fun c_3 => ?_) (fun c_3 => ?_)
      · refine lv_goto (tgt := 2689) hx hb dL_law_1748 (by decide) ?_
        have hO : g_law_17 xs iN σ = some ((f_X8_token (xs (iN + 1)) (xs (iN + 2)) (xs (iN + 3)) (xs (iN + 4)) ((f_L_token (xs (iN + 1)) (xs (iN + 2)) (xs (iN + 3)) (xs (iN + 4)) σ).2)).2) := by rw [g_law_17, if_pos c_1, if_pos c_2, if_pos c_3]
        obtain ⟨σ9, h9, hR9⟩ := hL2
        rw [hO] at h9
        cases h9
        exact W.widen (by omega) (by omega) (kk _ _ _ _ hR9 hW hS (lv_sub hl [2, 3, 4, 5, 6] rfl))
      · refine lv_iconst (v := 0) hx hb dL_law_1746 (by decide) ?_
        have hO : g_law_17 xs iN σ = none := by rw [g_law_17, if_pos c_1, if_pos c_2, if_neg c_3]
        obtain ⟨σ9, h9, hR9⟩ := hL2
        rw [hO] at h9
        cases h9
  · refine lv_iconst (v := 0) hx hb dL_law_1729 (by decide) ?_
    have hO : g_law_17 xs iN σ = none := by rw [g_law_17, if_neg c_1]
    obtain ⟨σ9, h9, hR9⟩ := hL2
    rw [hO] at h9
    cases h9
def g_law_18 (xs : Nat → Int32) (iN : Nat) (σ : Sg) : Option Sg :=
  if (f_X8_thrown ((f_X8_narrow (xs (iN + 1)) (xs (iN + 2)) (xs (iN + 3)) (xs (iN + 4)) (xs (iN + 5)) ((f_L_narrow (xs (iN + 1)) (xs (iN + 2)) (xs (iN + 3)) (xs (iN + 4)) (xs (iN + 5)) σ).2)).2)) = ((f_L_narrow (xs (iN + 1)) (xs (iN + 2)) (xs (iN + 3)) (xs (iN + 4)) (xs (iN + 5)) σ).1) then (if ((f_L_narrow (xs (iN + 1)) (xs (iN + 2)) (xs (iN + 3)) (xs (iN + 4)) (xs (iN + 5)) σ).1) = 0 then (if (lg_cmp ((((f_L_narrow (xs (iN + 1)) (xs (iN + 2)) (xs (iN + 3)) (xs (iN + 4)) (xs (iN + 5)) σ).2) 90 0 0).toInt64) (((f_X8_narrow (xs (iN + 1)) (xs (iN + 2)) (xs (iN + 3)) (xs (iN + 4)) (xs (iN + 5)) ((f_L_narrow (xs (iN + 1)) (xs (iN + 2)) (xs (iN + 3)) (xs (iN + 4)) (xs (iN + 5)) σ).2)).1).toInt64)) = 0 then some ((f_X8_narrow (xs (iN + 1)) (xs (iN + 2)) (xs (iN + 3)) (xs (iN + 4)) (xs (iN + 5)) ((f_L_narrow (xs (iN + 1)) (xs (iN + 2)) (xs (iN + 3)) (xs (iN + 4)) (xs (iN + 5)) σ).2)).2)
      else none)
    else some ((f_X8_narrow (xs (iN + 1)) (xs (iN + 2)) (xs (iN + 3)) (xs (iN + 4)) (xs (iN + 5)) ((f_L_narrow (xs (iN + 1)) (xs (iN + 2)) (xs (iN + 3)) (xs (iN + 4)) (xs (iN + 5)) σ).2)).2))
  else none
set_option maxHeartbeats 4000000 in
set_option maxRecDepth 100000 in
theorem lc_18 {p : Program} {l : Launch} (hl9 : l.stackTraces = false) {e : Env} {s : State} {m : MethodId} {below : List Frame} {meth : Method} {c : Code} {b L : Nat} {xs : Nat → Int32} {D : va_G} {ca : Nat → ClassId} {base : Nat} {ad : Adr} {Q : State → Prop} {iN : Nat} {σ : Sg} {H : Heap} {locs : List Loc} {cells slots : Nat} {ls : Array Slot} (RR : Sg → Prop) (hC : Cx p s m #[Value.ref b] meth c code 7 RL ret D ca base) (hN : Nx s) (hX : va_X b L xs s s.heap) (hbl : b < s.heap.size) (hbA : ¬ Ab base b) (hi7 : iN + 7 ≤ L) (hL9 : L ≤ 3584) (hc : cells + 40 ≤ 601024) (hs : slots + 240 ≤ 7293034) (hI : LInv σ) (hL2 : ∃ σ', g_law_18 xs iN σ = some σ' ∧ RR σ') (hW : Wd D ca (Ab base) ad ρm Lm σ H) (hS : va_S (Ab base) s.heap H locs) (hl : lv_has ls 7 [(4, .int (nI iN)), (3, .ref (ad 90 0)), (2, .ref (ad 8 0)), (1, .ref (ad 7 0)), (0, .ref b)])
    (kk : ∀ (σ' : Sg) (H1 : Heap) (locs1 : List Loc) (ls1 : Array Slot), RR σ' → Wd D ca (Ab base) ad ρm Lm σ' H1 → va_S (Ab base) s.heap H1 locs1 → lv_has ls1 7 [(4, .int (nI iN)), (3, .ref (ad 90 0)), (2, .ref (ad 8 0)), (1, .ref (ad 7 0)), (0, .ref b)] → W p l e room_1 s m #[Value.ref b] below meth c H1 locs1 (cells + 40) (slots + 240) Q (F0 m 2689 ls1 [])) : W p l e room_1 s m #[Value.ref b] below meth c H locs cells slots Q (F0 m 1751 ls []) := by
  have hx := hC.1
  have hb := hC.2.1
  refine lv_aload_n hx hb dL_law_1751 rfl (lv_at hl 3 rfl) ?_
  refine lv_aload_n hx hb dL_law_1752 rfl (lv_at hl 4 rfl) ?_
  refine lv_iload hx hb dL_law_1753 (lv_at hl 0 rfl) ?_
  refine lv_iconst (v := 1) hx hb dL_law_1755 (by decide) ?_
  refine lv_iadd hx hb dL_law_1756 ?_
  refine va_sld hx hb hX hbl hbA hS (vp_in_addr (a := 1) (by decide) (by omega) (by omega)) dL_law_1757 ?_
  rw [cl_addr (a := 1) (by decide) (by omega)]
  refine lv_aload_n hx hb dL_law_1758 rfl (lv_at hl 4 rfl) ?_
  refine lv_iload hx hb dL_law_1759 (lv_at hl 0 rfl) ?_
  refine lv_iconst (v := 2) hx hb dL_law_1761 (by decide) ?_
  refine lv_iadd hx hb dL_law_1762 ?_
  refine va_sld hx hb hX hbl hbA hS (vp_in_addr (a := 2) (by decide) (by omega) (by omega)) dL_law_1763 ?_
  rw [cl_addr (a := 2) (by decide) (by omega)]
  refine lv_aload_n hx hb dL_law_1764 rfl (lv_at hl 4 rfl) ?_
  refine lv_iload hx hb dL_law_1765 (lv_at hl 0 rfl) ?_
  refine lv_iconst (v := 3) hx hb dL_law_1767 (by decide) ?_
  refine lv_iadd hx hb dL_law_1768 ?_
  refine va_sld hx hb hX hbl hbA hS (vp_in_addr (a := 3) (by decide) (by omega) (by omega)) dL_law_1769 ?_
  rw [cl_addr (a := 3) (by decide) (by omega)]
  refine lv_aload_n hx hb dL_law_1770 rfl (lv_at hl 4 rfl) ?_
  refine lv_iload hx hb dL_law_1771 (lv_at hl 0 rfl) ?_
  refine lv_iconst (v := 4) hx hb dL_law_1773 (by decide) ?_
  refine lv_iadd hx hb dL_law_1774 ?_
  refine va_sld hx hb hX hbl hbA hS (vp_in_addr (a := 4) (by decide) (by omega) (by omega)) dL_law_1775 ?_
  rw [cl_addr (a := 4) (by decide) (by omega)]
  refine lv_aload_n hx hb dL_law_1776 rfl (lv_at hl 4 rfl) ?_
  refine lv_iload hx hb dL_law_1777 (lv_at hl 0 rfl) ?_
  refine lv_iconst (v := 5) hx hb dL_law_1779 (by decide) ?_
  refine lv_iadd hx hb dL_law_1780 ?_
  refine va_sld hx hb hX hbl hbA hS (vp_in_addr (a := 5) (by decide) (by omega) (by omega)) dL_law_1781 ?_
  rw [cl_addr (a := 5) (by decide) (by omega)]
  refine lv_aload_n hx hb dL_law_1782 rfl (lv_at hl 1 rfl) ?_
  refine w_callL (As := [.ref (ad 7 0), .int (xs (iN + 1)), .int (xs (iN + 2)), .int (xs (iN + 3)), .int (xs (iN + 4)), .int (xs (iN + 5)), .ref (ad 90 0)]) (rest := []) (st2 := .int ((f_L_narrow (xs (iN + 1)) (xs (iN + 2)) (xs (iN + 3)) (xs (iN + 4)) (xs (iN + 5)) σ).1) :: []) hC hN hW hS hl cl_L_188 (c_L_narrow l hl9 D ca base ad σ (xs (iN + 1)) (xs (iN + 2)) (xs (iN + 3)) (xs (iN + 4)) (xs (iN + 5)) hI.1) rfl rfl rfl ⟨Nat.le_of_ble_eq_true rfl, Nat.le_of_ble_eq_true rfl⟩ (Nat.le_of_ble_eq_true rfl) dL_law_1783 ⟨by show cells + 10 ≤ 601024; omega, by show slots + 60 ≤ 7293034; omega⟩ (c2 := cells + 10) (s2 := slots + 60) rfl rfl (fun H locs hW hS => ?_)
  refine lv_istore (lv' := [(5, .int ((f_L_narrow (xs (iN + 1)) (xs (iN + 2)) (xs (iN + 3)) (xs (iN + 4)) (xs (iN + 5)) σ).1)), (4, .int (nI iN)), (3, .ref (ad 90 0)), (2, .ref (ad 8 0)), (1, .ref (ad 7 0)), (0, .ref b)]) hx hb dL_law_1786 hl (by decide) rfl (fun ls hl => ?_)
  refine lv_aload_n hx hb dL_law_1788 rfl (lv_at hl 3 rfl) ?_
  refine lv_aload_n hx hb dL_law_1789 rfl (lv_at hl 5 rfl) ?_
  refine lv_iload hx hb dL_law_1790 (lv_at hl 1 rfl) ?_
  refine lv_iconst (v := 1) hx hb dL_law_1792 (by decide) ?_
  refine lv_iadd hx hb dL_law_1793 ?_
  refine va_sld hx hb hX hbl hbA hS (vp_in_addr (a := 1) (by decide) (by omega) (by omega)) dL_law_1794 ?_
  rw [cl_addr (a := 1) (by decide) (by omega)]
  refine lv_aload_n hx hb dL_law_1795 rfl (lv_at hl 5 rfl) ?_
  refine lv_iload hx hb dL_law_1796 (lv_at hl 1 rfl) ?_
  refine lv_iconst (v := 2) hx hb dL_law_1798 (by decide) ?_
  refine lv_iadd hx hb dL_law_1799 ?_
  refine va_sld hx hb hX hbl hbA hS (vp_in_addr (a := 2) (by decide) (by omega) (by omega)) dL_law_1800 ?_
  rw [cl_addr (a := 2) (by decide) (by omega)]
  refine lv_aload_n hx hb dL_law_1801 rfl (lv_at hl 5 rfl) ?_
  refine lv_iload hx hb dL_law_1802 (lv_at hl 1 rfl) ?_
  refine lv_iconst (v := 3) hx hb dL_law_1804 (by decide) ?_
  refine lv_iadd hx hb dL_law_1805 ?_
  refine va_sld hx hb hX hbl hbA hS (vp_in_addr (a := 3) (by decide) (by omega) (by omega)) dL_law_1806 ?_
  rw [cl_addr (a := 3) (by decide) (by omega)]
  refine lv_aload_n hx hb dL_law_1807 rfl (lv_at hl 5 rfl) ?_
  refine lv_iload hx hb dL_law_1808 (lv_at hl 1 rfl) ?_
  refine lv_iconst (v := 4) hx hb dL_law_1810 (by decide) ?_
  refine lv_iadd hx hb dL_law_1811 ?_
  refine va_sld hx hb hX hbl hbA hS (vp_in_addr (a := 4) (by decide) (by omega) (by omega)) dL_law_1812 ?_
  rw [cl_addr (a := 4) (by decide) (by omega)]
  refine lv_aload_n hx hb dL_law_1813 rfl (lv_at hl 5 rfl) ?_
  refine lv_iload hx hb dL_law_1814 (lv_at hl 1 rfl) ?_
  refine lv_iconst (v := 5) hx hb dL_law_1816 (by decide) ?_
  refine lv_iadd hx hb dL_law_1817 ?_
  refine va_sld hx hb hX hbl hbA hS (vp_in_addr (a := 5) (by decide) (by omega) (by omega)) dL_law_1818 ?_
  rw [cl_addr (a := 5) (by decide) (by omega)]
  refine w_callVL (As := [.int (xs (iN + 1)), .int (xs (iN + 2)), .int (xs (iN + 3)), .int (xs (iN + 4)), .int (xs (iN + 5))]) (rest := []) (st2 := .int ((f_X8_narrow (xs (iN + 1)) (xs (iN + 2)) (xs (iN + 3)) (xs (iN + 4)) (xs (iN + 5)) ((f_L_narrow (xs (iN + 1)) (xs (iN + 2)) (xs (iN + 3)) (xs (iN + 4)) (xs (iN + 5)) σ).2)).1) :: []) hC hW hS hl cv_L_191 m_8 (by decide) rfl (c_X8_narrow l hl9 D ca base ad ((f_L_narrow (xs (iN + 1)) (xs (iN + 2)) (xs (iN + 3)) (xs (iN + 4)) (xs (iN + 5)) σ).2) (xs (iN + 1)) (xs (iN + 2)) (xs (iN + 3)) (xs (iN + 4)) (xs (iN + 5)) (mi_of hI.2.2.1 (by rw [fr_L_narrow (by decide) (by decide) (by decide)]) (by rw [fr_L_narrow (by decide) (by decide) (by decide)]) (by rw [fr_L_narrow (by decide) (by decide) (by decide)]) (by rw [fr_L_narrow (by decide) (by decide) (by decide)]) (by rw [fr_L_narrow (by decide) (by decide) (by decide)]) (by rw [fr_L_narrow (by decide) (by decide) (by decide)]) (by rw [fr_L_narrow (by decide) (by decide) (by decide)]) (by rw [fr_L_narrow (by decide) (by decide) (by decide)]) (by rw [fr_L_narrow (by decide) (by decide) (by decide)]) (by rw [fr_L_narrow (by decide) (by decide) (by decide)]) (by rw [fr_L_narrow (by decide) (by decide) (by decide)]) (by rw [fr_L_narrow (by decide) (by decide) (by decide)]) (by rw [fr_L_narrow (by decide) (by decide) (by decide)]) (by rw [fr_L_narrow (by decide) (by decide) (by decide)]) (by rw [fr_L_narrow (by decide) (by decide) (by decide)]) (by rw [fr_L_narrow (by decide) (by decide) (by decide)]))) rfl rfl rfl ⟨Nat.le_of_ble_eq_true rfl, Nat.le_of_ble_eq_true rfl⟩ (Nat.le_of_ble_eq_true rfl) dL_law_1819 ⟨by show cells + 10 + 0 ≤ 601024; omega, by show slots + 60 + 0 ≤ 7293034; omega⟩ (c2 := cells + 10 + 0) (s2 := slots + 60 + 0) rfl rfl (fun H locs hW hS => ?_)
  refine lv_istore (lv' := [(6, .int ((f_X8_narrow (xs (iN + 1)) (xs (iN + 2)) (xs (iN + 3)) (xs (iN + 4)) (xs (iN + 5)) ((f_L_narrow (xs (iN + 1)) (xs (iN + 2)) (xs (iN + 3)) (xs (iN + 4)) (xs (iN + 5)) σ).2)).1)), (5, .int ((f_L_narrow (xs (iN + 1)) (xs (iN + 2)) (xs (iN + 3)) (xs (iN + 4)) (xs (iN + 5)) σ).1)), (4, .int (nI iN)), (3, .ref (ad 90 0)), (2, .ref (ad 8 0)), (1, .ref (ad 7 0)), (0, .ref b)]) hx hb dL_law_1822 hl (by decide) rfl (fun ls hl => ?_)
  refine lv_aload_n hx hb dL_law_1824 rfl (lv_at hl 4 rfl) ?_
  refine w_callVL (As := []) (rest := []) (st2 := .int (f_X8_thrown ((f_X8_narrow (xs (iN + 1)) (xs (iN + 2)) (xs (iN + 3)) (xs (iN + 4)) (xs (iN + 5)) ((f_L_narrow (xs (iN + 1)) (xs (iN + 2)) (xs (iN + 3)) (xs (iN + 4)) (xs (iN + 5)) σ).2)).2)) :: []) hC hW hS hl cv_L_127 m_8 (by decide) rfl (c_X8_thrown l hl9 D ca base ad ((f_X8_narrow (xs (iN + 1)) (xs (iN + 2)) (xs (iN + 3)) (xs (iN + 4)) (xs (iN + 5)) ((f_L_narrow (xs (iN + 1)) (xs (iN + 2)) (xs (iN + 3)) (xs (iN + 4)) (xs (iN + 5)) σ).2)).2) ) rfl rfl rfl ⟨Nat.le_of_ble_eq_true rfl, Nat.le_of_ble_eq_true rfl⟩ (Nat.le_of_ble_eq_true rfl) dL_law_1825 ⟨by show cells + 10 + 0 + 0 ≤ 601024; omega, by show slots + 60 + 0 + 0 ≤ 7293034; omega⟩ (c2 := cells + 10 + 0 + 0) (s2 := slots + 60 + 0 + 0) rfl rfl (fun H locs hW hS => ?_)
  refine lv_iload hx hb dL_law_1828 (lv_at hl 1 rfl) ?_
  refine lv_icmp_eq (tgt := 1835) hx hb dL_law_1830 (by decide) (fun c_1 => ?_) (fun c_1 => ?_)
  · refine lv_iload hx hb dL_law_1835 (lv_at hl 1 rfl) ?_
    refine lv_if_ne (tgt := 1852) hx hb dL_law_1837 (by decide) (fun c_2 => ?_) (fun c_2 => ?_)
    · refine lv_goto (tgt := 2689) hx hb dL_law_1852 (by decide) ?_
      have hO : g_law_18 xs iN σ = some ((f_X8_narrow (xs (iN + 1)) (xs (iN + 2)) (xs (iN + 3)) (xs (iN + 4)) (xs (iN + 5)) ((f_L_narrow (xs (iN + 1)) (xs (iN + 2)) (xs (iN + 3)) (xs (iN + 4)) (xs (iN + 5)) σ).2)).2) := by rw [g_law_18, if_pos c_1, if_neg c_2]
      obtain ⟨σ9, h9, hR9⟩ := hL2
      rw [hO] at h9
      cases h9
      exact W.widen (by omega) (by omega) (kk _ _ _ _ hR9 hW hS (lv_sub hl [2, 3, 4, 5, 6] rfl))
    · refine lv_aload_n hx hb dL_law_1840 rfl (lv_at hl 3 rfl) ?_
      refine lv_iconst (v := 0) hx hb dL_law_1841 (by decide) ?_
      refine w_lald hC hW m_90 (vp_lit (by decide)) dL_law_1842 ?_
      rw [show Int32.toNatClampNeg 0 = 0 by decide, fr_X8_narrow (by decide) (by decide) (by decide) (by decide) (by decide) (by decide) (by decide) (by decide) (by decide) (by decide)]
      refine lv_iload hx hb dL_law_1843 (lv_at hl 0 rfl) ?_
      refine lv_i2l hx hb dL_law_1845 rfl ?_
      refine W.lcmp hx hb dL_law_1846 ?_
      refine lv_if_eq (tgt := 1852) hx hb dL_law_1847 (by decide) (fun c_3 => ?_) (fun c_3 => ?_)
      · refine lv_goto (tgt := 2689) hx hb dL_law_1852 (by decide) ?_
        have hO : g_law_18 xs iN σ = some ((f_X8_narrow (xs (iN + 1)) (xs (iN + 2)) (xs (iN + 3)) (xs (iN + 4)) (xs (iN + 5)) ((f_L_narrow (xs (iN + 1)) (xs (iN + 2)) (xs (iN + 3)) (xs (iN + 4)) (xs (iN + 5)) σ).2)).2) := by rw [g_law_18, if_pos c_1, if_pos c_2, if_pos c_3]
        obtain ⟨σ9, h9, hR9⟩ := hL2
        rw [hO] at h9
        cases h9
        exact W.widen (by omega) (by omega) (kk _ _ _ _ hR9 hW hS (lv_sub hl [2, 3, 4, 5, 6] rfl))
      · refine lv_iconst (v := 0) hx hb dL_law_1850 (by decide) ?_
        have hO : g_law_18 xs iN σ = none := by rw [g_law_18, if_pos c_1, if_pos c_2, if_neg c_3]
        obtain ⟨σ9, h9, hR9⟩ := hL2
        rw [hO] at h9
        cases h9
  · refine lv_iconst (v := 0) hx hb dL_law_1833 (by decide) ?_
    have hO : g_law_18 xs iN σ = none := by rw [g_law_18, if_neg c_1]
    obtain ⟨σ9, h9, hR9⟩ := hL2
    rw [hO] at h9
    cases h9
def g_law_19 (xs : Nat → Int32) (iN : Nat) (σ : Sg) : Option Sg :=
  if (f_X8_thrown ((f_X8_takeBack (xs (iN + 1)) (xs (iN + 2)) ((f_L_takeBack (xs (iN + 1)) (xs (iN + 2)) σ).2)).2)) = ((f_L_takeBack (xs (iN + 1)) (xs (iN + 2)) σ).1) then (if ((f_L_takeBack (xs (iN + 1)) (xs (iN + 2)) σ).1) = 0 then (if ((f_X8_takeBack (xs (iN + 1)) (xs (iN + 2)) ((f_L_takeBack (xs (iN + 1)) (xs (iN + 2)) σ).2)).1) = 0 then (if (lg_cmp ((((f_L_takeBack (xs (iN + 1)) (xs (iN + 2)) σ).2) 90 0 0).toInt64) (0 : Int64)) = 0 then some ((f_X8_takeBack (xs (iN + 1)) (xs (iN + 2)) ((f_L_takeBack (xs (iN + 1)) (xs (iN + 2)) σ).2)).2)
        else none)
      else if (lg_cmp ((((f_L_takeBack (xs (iN + 1)) (xs (iN + 2)) σ).2) 90 0 0).toInt64) (1 : Int64)) = 0 then some ((f_X8_takeBack (xs (iN + 1)) (xs (iN + 2)) ((f_L_takeBack (xs (iN + 1)) (xs (iN + 2)) σ).2)).2)
      else none)
    else some ((f_X8_takeBack (xs (iN + 1)) (xs (iN + 2)) ((f_L_takeBack (xs (iN + 1)) (xs (iN + 2)) σ).2)).2))
  else none
set_option maxHeartbeats 4000000 in
set_option maxRecDepth 100000 in
theorem lc_19 {p : Program} {l : Launch} (hl9 : l.stackTraces = false) {e : Env} {s : State} {m : MethodId} {below : List Frame} {meth : Method} {c : Code} {b L : Nat} {xs : Nat → Int32} {D : va_G} {ca : Nat → ClassId} {base : Nat} {ad : Adr} {Q : State → Prop} {iN : Nat} {σ : Sg} {H : Heap} {locs : List Loc} {cells slots : Nat} {ls : Array Slot} (RR : Sg → Prop) (hC : Cx p s m #[Value.ref b] meth c code 7 RL ret D ca base) (hN : Nx s) (hX : va_X b L xs s s.heap) (hbl : b < s.heap.size) (hbA : ¬ Ab base b) (hi7 : iN + 7 ≤ L) (hL9 : L ≤ 3584) (hc : cells + 40 ≤ 601024) (hs : slots + 240 ≤ 7293034) (hI : LInv σ) (hL2 : ∃ σ', g_law_19 xs iN σ = some σ' ∧ RR σ') (hW : Wd D ca (Ab base) ad ρm Lm σ H) (hS : va_S (Ab base) s.heap H locs) (hl : lv_has ls 7 [(4, .int (nI iN)), (3, .ref (ad 90 0)), (2, .ref (ad 8 0)), (1, .ref (ad 7 0)), (0, .ref b)])
    (kk : ∀ (σ' : Sg) (H1 : Heap) (locs1 : List Loc) (ls1 : Array Slot), RR σ' → Wd D ca (Ab base) ad ρm Lm σ' H1 → va_S (Ab base) s.heap H1 locs1 → lv_has ls1 7 [(4, .int (nI iN)), (3, .ref (ad 90 0)), (2, .ref (ad 8 0)), (1, .ref (ad 7 0)), (0, .ref b)] → W p l e room_1 s m #[Value.ref b] below meth c H1 locs1 (cells + 40) (slots + 240) Q (F0 m 2689 ls1 [])) : W p l e room_1 s m #[Value.ref b] below meth c H locs cells slots Q (F0 m 1855 ls []) := by
  have hx := hC.1
  have hb := hC.2.1
  refine lv_aload_n hx hb dL_law_1855 rfl (lv_at hl 3 rfl) ?_
  refine lv_aload_n hx hb dL_law_1856 rfl (lv_at hl 4 rfl) ?_
  refine lv_iload hx hb dL_law_1857 (lv_at hl 0 rfl) ?_
  refine lv_iconst (v := 1) hx hb dL_law_1859 (by decide) ?_
  refine lv_iadd hx hb dL_law_1860 ?_
  refine va_sld hx hb hX hbl hbA hS (vp_in_addr (a := 1) (by decide) (by omega) (by omega)) dL_law_1861 ?_
  rw [cl_addr (a := 1) (by decide) (by omega)]
  refine lv_aload_n hx hb dL_law_1862 rfl (lv_at hl 4 rfl) ?_
  refine lv_iload hx hb dL_law_1863 (lv_at hl 0 rfl) ?_
  refine lv_iconst (v := 2) hx hb dL_law_1865 (by decide) ?_
  refine lv_iadd hx hb dL_law_1866 ?_
  refine va_sld hx hb hX hbl hbA hS (vp_in_addr (a := 2) (by decide) (by omega) (by omega)) dL_law_1867 ?_
  rw [cl_addr (a := 2) (by decide) (by omega)]
  refine lv_aload_n hx hb dL_law_1868 rfl (lv_at hl 1 rfl) ?_
  refine w_callL (As := [.ref (ad 7 0), .int (xs (iN + 1)), .int (xs (iN + 2)), .ref (ad 90 0)]) (rest := []) (st2 := .int ((f_L_takeBack (xs (iN + 1)) (xs (iN + 2)) σ).1) :: []) hC hN hW hS hl cl_L_192 (c_L_takeBack l hl9 D ca base ad σ (xs (iN + 1)) (xs (iN + 2)) hI.1) rfl rfl rfl ⟨Nat.le_of_ble_eq_true rfl, Nat.le_of_ble_eq_true rfl⟩ (Nat.le_of_ble_eq_true rfl) dL_law_1869 ⟨by show cells + 4 ≤ 601024; omega, by show slots + 24 ≤ 7293034; omega⟩ (c2 := cells + 4) (s2 := slots + 24) rfl rfl (fun H locs hW hS => ?_)
  refine lv_istore (lv' := [(5, .int ((f_L_takeBack (xs (iN + 1)) (xs (iN + 2)) σ).1)), (4, .int (nI iN)), (3, .ref (ad 90 0)), (2, .ref (ad 8 0)), (1, .ref (ad 7 0)), (0, .ref b)]) hx hb dL_law_1872 hl (by decide) rfl (fun ls hl => ?_)
  refine lv_aload_n hx hb dL_law_1874 rfl (lv_at hl 3 rfl) ?_
  refine lv_aload_n hx hb dL_law_1875 rfl (lv_at hl 5 rfl) ?_
  refine lv_iload hx hb dL_law_1876 (lv_at hl 1 rfl) ?_
  refine lv_iconst (v := 1) hx hb dL_law_1878 (by decide) ?_
  refine lv_iadd hx hb dL_law_1879 ?_
  refine va_sld hx hb hX hbl hbA hS (vp_in_addr (a := 1) (by decide) (by omega) (by omega)) dL_law_1880 ?_
  rw [cl_addr (a := 1) (by decide) (by omega)]
  refine lv_aload_n hx hb dL_law_1881 rfl (lv_at hl 5 rfl) ?_
  refine lv_iload hx hb dL_law_1882 (lv_at hl 1 rfl) ?_
  refine lv_iconst (v := 2) hx hb dL_law_1884 (by decide) ?_
  refine lv_iadd hx hb dL_law_1885 ?_
  refine va_sld hx hb hX hbl hbA hS (vp_in_addr (a := 2) (by decide) (by omega) (by omega)) dL_law_1886 ?_
  rw [cl_addr (a := 2) (by decide) (by omega)]
  refine w_callVL (As := [.int (xs (iN + 1)), .int (xs (iN + 2))]) (rest := []) (st2 := .int ((f_X8_takeBack (xs (iN + 1)) (xs (iN + 2)) ((f_L_takeBack (xs (iN + 1)) (xs (iN + 2)) σ).2)).1) :: []) hC hW hS hl cv_L_194 m_8 (by decide) rfl (c_X8_takeBack l hl9 D ca base ad ((f_L_takeBack (xs (iN + 1)) (xs (iN + 2)) σ).2) (xs (iN + 1)) (xs (iN + 2)) (mi_of hI.2.2.1 (by rw [fr_L_takeBack (by decide) (by decide)]) (by rw [fr_L_takeBack (by decide) (by decide)]) (by rw [fr_L_takeBack (by decide) (by decide)]) (by rw [fr_L_takeBack (by decide) (by decide)]) (by rw [fr_L_takeBack (by decide) (by decide)]) (by rw [fr_L_takeBack (by decide) (by decide)]) (by rw [fr_L_takeBack (by decide) (by decide)]) (by rw [fr_L_takeBack (by decide) (by decide)]) (by rw [fr_L_takeBack (by decide) (by decide)]) (by rw [fr_L_takeBack (by decide) (by decide)]) (by rw [fr_L_takeBack (by decide) (by decide)]) (by rw [fr_L_takeBack (by decide) (by decide)]) (by rw [fr_L_takeBack (by decide) (by decide)]) (by rw [fr_L_takeBack (by decide) (by decide)]) (by rw [fr_L_takeBack (by decide) (by decide)]) (by rw [fr_L_takeBack (by decide) (by decide)]))) rfl rfl rfl ⟨Nat.le_of_ble_eq_true rfl, Nat.le_of_ble_eq_true rfl⟩ (Nat.le_of_ble_eq_true rfl) dL_law_1887 ⟨by show cells + 4 + 0 ≤ 601024; omega, by show slots + 24 + 0 ≤ 7293034; omega⟩ (c2 := cells + 4 + 0) (s2 := slots + 24 + 0) rfl rfl (fun H locs hW hS => ?_)
  refine lv_istore (lv' := [(6, .int ((f_X8_takeBack (xs (iN + 1)) (xs (iN + 2)) ((f_L_takeBack (xs (iN + 1)) (xs (iN + 2)) σ).2)).1)), (5, .int ((f_L_takeBack (xs (iN + 1)) (xs (iN + 2)) σ).1)), (4, .int (nI iN)), (3, .ref (ad 90 0)), (2, .ref (ad 8 0)), (1, .ref (ad 7 0)), (0, .ref b)]) hx hb dL_law_1890 hl (by decide) rfl (fun ls hl => ?_)
  refine lv_aload_n hx hb dL_law_1892 rfl (lv_at hl 4 rfl) ?_
  refine w_callVL (As := []) (rest := []) (st2 := .int (f_X8_thrown ((f_X8_takeBack (xs (iN + 1)) (xs (iN + 2)) ((f_L_takeBack (xs (iN + 1)) (xs (iN + 2)) σ).2)).2)) :: []) hC hW hS hl cv_L_127 m_8 (by decide) rfl (c_X8_thrown l hl9 D ca base ad ((f_X8_takeBack (xs (iN + 1)) (xs (iN + 2)) ((f_L_takeBack (xs (iN + 1)) (xs (iN + 2)) σ).2)).2) ) rfl rfl rfl ⟨Nat.le_of_ble_eq_true rfl, Nat.le_of_ble_eq_true rfl⟩ (Nat.le_of_ble_eq_true rfl) dL_law_1893 ⟨by show cells + 4 + 0 + 0 ≤ 601024; omega, by show slots + 24 + 0 + 0 ≤ 7293034; omega⟩ (c2 := cells + 4 + 0 + 0) (s2 := slots + 24 + 0 + 0) rfl rfl (fun H locs hW hS => ?_)
  refine lv_iload hx hb dL_law_1896 (lv_at hl 1 rfl) ?_
  refine lv_icmp_eq (tgt := 1903) hx hb dL_law_1898 (by decide) (fun c_1 => ?_) (fun c_1 => ?_)
  · refine lv_iload hx hb dL_law_1903 (lv_at hl 1 rfl) ?_
    refine lv_if_ne (tgt := 1927) hx hb dL_law_1905 (by decide) (fun c_2 => ?_) (fun c_2 => ?_)
    · refine lv_goto (tgt := 2689) hx hb dL_law_1927 (by decide) ?_
      have hO : g_law_19 xs iN σ = some ((f_X8_takeBack (xs (iN + 1)) (xs (iN + 2)) ((f_L_takeBack (xs (iN + 1)) (xs (iN + 2)) σ).2)).2) := by rw [g_law_19, if_pos c_1, if_neg c_2]
      obtain ⟨σ9, h9, hR9⟩ := hL2
      rw [hO] at h9
      cases h9
      exact W.widen (by omega) (by omega) (kk _ _ _ _ hR9 hW hS (lv_sub hl [2, 3, 4, 5, 6] rfl))
    · refine lv_aload_n hx hb dL_law_1908 rfl (lv_at hl 3 rfl) ?_
      refine lv_iconst (v := 0) hx hb dL_law_1909 (by decide) ?_
      refine w_lald hC hW m_90 (vp_lit (by decide)) dL_law_1910 ?_
      rw [show Int32.toNatClampNeg 0 = 0 by decide, fr_X8_takeBack (by decide) (by decide)]
      refine lv_iload hx hb dL_law_1911 (lv_at hl 0 rfl) ?_
      refine lv_if_eq (tgt := 1920) hx hb dL_law_1913 (by decide) (fun c_3 => ?_) (fun c_3 => ?_)
      · refine lv_lconst (v := 0) hx hb dL_law_1920 (by decide) ?_
        refine W.lcmp hx hb dL_law_1921 ?_
        refine lv_if_eq (tgt := 1927) hx hb dL_law_1922 (by decide) (fun c_4 => ?_) (fun c_4 => ?_)
        · refine lv_goto (tgt := 2689) hx hb dL_law_1927 (by decide) ?_
          have hO : g_law_19 xs iN σ = some ((f_X8_takeBack (xs (iN + 1)) (xs (iN + 2)) ((f_L_takeBack (xs (iN + 1)) (xs (iN + 2)) σ).2)).2) := by rw [g_law_19, if_pos c_1, if_pos c_2, if_pos c_3, if_pos c_4]
          obtain ⟨σ9, h9, hR9⟩ := hL2
          rw [hO] at h9
          cases h9
          exact W.widen (by omega) (by omega) (kk _ _ _ _ hR9 hW hS (lv_sub hl [2, 3, 4, 5, 6] rfl))
        · refine lv_iconst (v := 0) hx hb dL_law_1925 (by decide) ?_
          have hO : g_law_19 xs iN σ = none := by rw [g_law_19, if_pos c_1, if_pos c_2, if_pos c_3, if_neg c_4]
          obtain ⟨σ9, h9, hR9⟩ := hL2
          rw [hO] at h9
          cases h9
      · refine lv_lconst (v := 1) hx hb dL_law_1916 (by decide) ?_
        refine lv_goto (tgt := 1921) hx hb dL_law_1917 (by decide) ?_
        refine W.lcmp hx hb dL_law_1921 ?_
        refine lv_if_eq (tgt := 1927) hx hb dL_law_1922 (by decide) (fun c_5 => ?_) (fun c_5 => ?_)
        · refine lv_goto (tgt := 2689) hx hb dL_law_1927 (by decide) ?_
          have hO : g_law_19 xs iN σ = some ((f_X8_takeBack (xs (iN + 1)) (xs (iN + 2)) ((f_L_takeBack (xs (iN + 1)) (xs (iN + 2)) σ).2)).2) := by rw [g_law_19, if_pos c_1, if_pos c_2, if_neg c_3, if_pos c_5]
          obtain ⟨σ9, h9, hR9⟩ := hL2
          rw [hO] at h9
          cases h9
          exact W.widen (by omega) (by omega) (kk _ _ _ _ hR9 hW hS (lv_sub hl [2, 3, 4, 5, 6] rfl))
        · refine lv_iconst (v := 0) hx hb dL_law_1925 (by decide) ?_
          have hO : g_law_19 xs iN σ = none := by rw [g_law_19, if_pos c_1, if_pos c_2, if_neg c_3, if_neg c_5]
          obtain ⟨σ9, h9, hR9⟩ := hL2
          rw [hO] at h9
          cases h9
  · refine lv_iconst (v := 0) hx hb dL_law_1901 (by decide) ?_
    have hO : g_law_19 xs iN σ = none := by rw [g_law_19, if_neg c_1]
    obtain ⟨σ9, h9, hR9⟩ := hL2
    rw [hO] at h9
    cases h9
def g_law_20 (xs : Nat → Int32) (iN : Nat) (σ : Sg) : Option Sg :=
  if (f_X8_thrown ((f_X8_pass (xs (iN + 1)) ((f_L_pass (xs (iN + 1)) σ).2)).2)) = ((f_L_pass (xs (iN + 1)) σ).1) then (if ((f_L_pass (xs (iN + 1)) σ).1) = 0 then (if (lg_cmp ((((f_L_pass (xs (iN + 1)) σ).2) 90 0 0).toInt64) (((f_X8_pass (xs (iN + 1)) ((f_L_pass (xs (iN + 1)) σ).2)).1).toInt64)) = 0 then some ((f_X8_pass (xs (iN + 1)) ((f_L_pass (xs (iN + 1)) σ).2)).2)
      else none)
    else some ((f_X8_pass (xs (iN + 1)) ((f_L_pass (xs (iN + 1)) σ).2)).2))
  else none
set_option maxHeartbeats 4000000 in
set_option maxRecDepth 100000 in
theorem lc_20 {p : Program} {l : Launch} (hl9 : l.stackTraces = false) {e : Env} {s : State} {m : MethodId} {below : List Frame} {meth : Method} {c : Code} {b L : Nat} {xs : Nat → Int32} {D : va_G} {ca : Nat → ClassId} {base : Nat} {ad : Adr} {Q : State → Prop} {iN : Nat} {σ : Sg} {H : Heap} {locs : List Loc} {cells slots : Nat} {ls : Array Slot} (RR : Sg → Prop) (hC : Cx p s m #[Value.ref b] meth c code 7 RL ret D ca base) (hN : Nx s) (hX : va_X b L xs s s.heap) (hbl : b < s.heap.size) (hbA : ¬ Ab base b) (hi7 : iN + 7 ≤ L) (hL9 : L ≤ 3584) (hc : cells + 40 ≤ 601024) (hs : slots + 240 ≤ 7293034) (hI : LInv σ) (hL2 : ∃ σ', g_law_20 xs iN σ = some σ' ∧ RR σ') (hW : Wd D ca (Ab base) ad ρm Lm σ H) (hS : va_S (Ab base) s.heap H locs) (hl : lv_has ls 7 [(4, .int (nI iN)), (3, .ref (ad 90 0)), (2, .ref (ad 8 0)), (1, .ref (ad 7 0)), (0, .ref b)])
    (kk : ∀ (σ' : Sg) (H1 : Heap) (locs1 : List Loc) (ls1 : Array Slot), RR σ' → Wd D ca (Ab base) ad ρm Lm σ' H1 → va_S (Ab base) s.heap H1 locs1 → lv_has ls1 7 [(4, .int (nI iN)), (3, .ref (ad 90 0)), (2, .ref (ad 8 0)), (1, .ref (ad 7 0)), (0, .ref b)] → W p l e room_1 s m #[Value.ref b] below meth c H1 locs1 (cells + 40) (slots + 240) Q (F0 m 2689 ls1 [])) : W p l e room_1 s m #[Value.ref b] below meth c H locs cells slots Q (F0 m 1930 ls []) := by
  have hx := hC.1
  have hb := hC.2.1
  refine lv_aload_n hx hb dL_law_1930 rfl (lv_at hl 3 rfl) ?_
  refine lv_aload_n hx hb dL_law_1931 rfl (lv_at hl 4 rfl) ?_
  refine lv_iload hx hb dL_law_1932 (lv_at hl 0 rfl) ?_
  refine lv_iconst (v := 1) hx hb dL_law_1934 (by decide) ?_
  refine lv_iadd hx hb dL_law_1935 ?_
  refine va_sld hx hb hX hbl hbA hS (vp_in_addr (a := 1) (by decide) (by omega) (by omega)) dL_law_1936 ?_
  rw [cl_addr (a := 1) (by decide) (by omega)]
  refine lv_aload_n hx hb dL_law_1937 rfl (lv_at hl 1 rfl) ?_
  refine w_callL (As := [.ref (ad 7 0), .int (xs (iN + 1)), .ref (ad 90 0)]) (rest := []) (st2 := .int ((f_L_pass (xs (iN + 1)) σ).1) :: []) hC hN hW hS hl cl_L_195 (c_L_pass l hl9 D ca base ad σ (xs (iN + 1)) hI.1) rfl rfl rfl ⟨Nat.le_of_ble_eq_true rfl, Nat.le_of_ble_eq_true rfl⟩ (Nat.le_of_ble_eq_true rfl) dL_law_1938 ⟨by show cells + 2 ≤ 601024; omega, by show slots + 12 ≤ 7293034; omega⟩ (c2 := cells + 2) (s2 := slots + 12) rfl rfl (fun H locs hW hS => ?_)
  refine lv_istore (lv' := [(5, .int ((f_L_pass (xs (iN + 1)) σ).1)), (4, .int (nI iN)), (3, .ref (ad 90 0)), (2, .ref (ad 8 0)), (1, .ref (ad 7 0)), (0, .ref b)]) hx hb dL_law_1941 hl (by decide) rfl (fun ls hl => ?_)
  refine lv_aload_n hx hb dL_law_1943 rfl (lv_at hl 3 rfl) ?_
  refine lv_aload_n hx hb dL_law_1944 rfl (lv_at hl 5 rfl) ?_
  refine lv_iload hx hb dL_law_1945 (lv_at hl 1 rfl) ?_
  refine lv_iconst (v := 1) hx hb dL_law_1947 (by decide) ?_
  refine lv_iadd hx hb dL_law_1948 ?_
  refine va_sld hx hb hX hbl hbA hS (vp_in_addr (a := 1) (by decide) (by omega) (by omega)) dL_law_1949 ?_
  rw [cl_addr (a := 1) (by decide) (by omega)]
  refine w_callVL (As := [.int (xs (iN + 1))]) (rest := []) (st2 := .int ((f_X8_pass (xs (iN + 1)) ((f_L_pass (xs (iN + 1)) σ).2)).1) :: []) hC hW hS hl cv_L_197 m_8 (by decide) rfl (c_X8_pass l hl9 D ca base ad ((f_L_pass (xs (iN + 1)) σ).2) (xs (iN + 1)) (mi_of hI.2.2.1 (by rw [fr_L_pass (by decide) (by decide)]) (by rw [fr_L_pass (by decide) (by decide)]) (by rw [fr_L_pass (by decide) (by decide)]) (by rw [fr_L_pass (by decide) (by decide)]) (by rw [fr_L_pass (by decide) (by decide)]) (by rw [fr_L_pass (by decide) (by decide)]) (by rw [fr_L_pass (by decide) (by decide)]) (by rw [fr_L_pass (by decide) (by decide)]) (by rw [fr_L_pass (by decide) (by decide)]) (by rw [fr_L_pass (by decide) (by decide)]) (by rw [fr_L_pass (by decide) (by decide)]) (by rw [fr_L_pass (by decide) (by decide)]) (by rw [fr_L_pass (by decide) (by decide)]) (by rw [fr_L_pass (by decide) (by decide)]) (by rw [fr_L_pass (by decide) (by decide)]) (by rw [fr_L_pass (by decide) (by decide)]))) rfl rfl rfl ⟨Nat.le_of_ble_eq_true rfl, Nat.le_of_ble_eq_true rfl⟩ (Nat.le_of_ble_eq_true rfl) dL_law_1950 ⟨by show cells + 2 + 0 ≤ 601024; omega, by show slots + 12 + 0 ≤ 7293034; omega⟩ (c2 := cells + 2 + 0) (s2 := slots + 12 + 0) rfl rfl (fun H locs hW hS => ?_)
  refine lv_istore (lv' := [(6, .int ((f_X8_pass (xs (iN + 1)) ((f_L_pass (xs (iN + 1)) σ).2)).1)), (5, .int ((f_L_pass (xs (iN + 1)) σ).1)), (4, .int (nI iN)), (3, .ref (ad 90 0)), (2, .ref (ad 8 0)), (1, .ref (ad 7 0)), (0, .ref b)]) hx hb dL_law_1953 hl (by decide) rfl (fun ls hl => ?_)
  refine lv_aload_n hx hb dL_law_1955 rfl (lv_at hl 4 rfl) ?_
  refine w_callVL (As := []) (rest := []) (st2 := .int (f_X8_thrown ((f_X8_pass (xs (iN + 1)) ((f_L_pass (xs (iN + 1)) σ).2)).2)) :: []) hC hW hS hl cv_L_127 m_8 (by decide) rfl (c_X8_thrown l hl9 D ca base ad ((f_X8_pass (xs (iN + 1)) ((f_L_pass (xs (iN + 1)) σ).2)).2) ) rfl rfl rfl ⟨Nat.le_of_ble_eq_true rfl, Nat.le_of_ble_eq_true rfl⟩ (Nat.le_of_ble_eq_true rfl) dL_law_1956 ⟨by show cells + 2 + 0 + 0 ≤ 601024; omega, by show slots + 12 + 0 + 0 ≤ 7293034; omega⟩ (c2 := cells + 2 + 0 + 0) (s2 := slots + 12 + 0 + 0) rfl rfl (fun H locs hW hS => ?_)
  refine lv_iload hx hb dL_law_1959 (lv_at hl 1 rfl) ?_
  refine lv_icmp_eq (tgt := 1966) hx hb dL_law_1961 (by decide) (fun c_1 => ?_) (fun c_1 => ?_)
  · refine lv_iload hx hb dL_law_1966 (lv_at hl 1 rfl) ?_
    refine lv_if_ne (tgt := 1983) hx hb dL_law_1968 (by decide) (fun c_2 => ?_) (fun c_2 => ?_)
    · refine lv_goto (tgt := 2689) hx hb dL_law_1983 (by decide) ?_
      have hO : g_law_20 xs iN σ = some ((f_X8_pass (xs (iN + 1)) ((f_L_pass (xs (iN + 1)) σ).2)).2) := by rw [g_law_20, if_pos c_1, if_neg c_2]
      obtain ⟨σ9, h9, hR9⟩ := hL2
      rw [hO] at h9
      cases h9
      exact W.widen (by omega) (by omega) (kk _ _ _ _ hR9 hW hS (lv_sub hl [2, 3, 4, 5, 6] rfl))
    · refine lv_aload_n hx hb dL_law_1971 rfl (lv_at hl 3 rfl) ?_
      refine lv_iconst (v := 0) hx hb dL_law_1972 (by decide) ?_
      refine w_lald hC hW m_90 (vp_lit (by decide)) dL_law_1973 ?_
      rw [show Int32.toNatClampNeg 0 = 0 by decide, fr_X8_pass (by decide)]
      refine lv_iload hx hb dL_law_1974 (lv_at hl 0 rfl) ?_
      refine lv_i2l hx hb dL_law_1976 rfl ?_
      refine W.lcmp hx hb dL_law_1977 ?_
      refine lv_if_eq (tgt := 1983) hx hb dL_law_1978 (by decide) (fun c_3 => ?_) (fun c_3 => ?_)
      · refine lv_goto (tgt := 2689) hx hb dL_law_1983 (by decide) ?_
        have hO : g_law_20 xs iN σ = some ((f_X8_pass (xs (iN + 1)) ((f_L_pass (xs (iN + 1)) σ).2)).2) := by rw [g_law_20, if_pos c_1, if_pos c_2, if_pos c_3]
        obtain ⟨σ9, h9, hR9⟩ := hL2
        rw [hO] at h9
        cases h9
        exact W.widen (by omega) (by omega) (kk _ _ _ _ hR9 hW hS (lv_sub hl [2, 3, 4, 5, 6] rfl))
      · refine lv_iconst (v := 0) hx hb dL_law_1981 (by decide) ?_
        have hO : g_law_20 xs iN σ = none := by rw [g_law_20, if_pos c_1, if_pos c_2, if_neg c_3]
        obtain ⟨σ9, h9, hR9⟩ := hL2
        rw [hO] at h9
        cases h9
  · refine lv_iconst (v := 0) hx hb dL_law_1964 (by decide) ?_
    have hO : g_law_20 xs iN σ = none := by rw [g_law_20, if_neg c_1]
    obtain ⟨σ9, h9, hR9⟩ := hL2
    rw [hO] at h9
    cases h9
def g_law_21 (xs : Nat → Int32) (iN : Nat) (σ : Sg) : Option Sg :=
  if (f_X8_thrown (s_X8_watch (xs (iN + 1)) (xs (iN + 2)) ((f_L_watch (xs (iN + 1)) (xs (iN + 2)) σ).2))) = ((f_L_watch (xs (iN + 1)) (xs (iN + 2)) σ).1) then some (s_X8_watch (xs (iN + 1)) (xs (iN + 2)) ((f_L_watch (xs (iN + 1)) (xs (iN + 2)) σ).2))
  else none
set_option maxHeartbeats 4000000 in
set_option maxRecDepth 100000 in
theorem lc_21 {p : Program} {l : Launch} (hl9 : l.stackTraces = false) {e : Env} {s : State} {m : MethodId} {below : List Frame} {meth : Method} {c : Code} {b L : Nat} {xs : Nat → Int32} {D : va_G} {ca : Nat → ClassId} {base : Nat} {ad : Adr} {Q : State → Prop} {iN : Nat} {σ : Sg} {H : Heap} {locs : List Loc} {cells slots : Nat} {ls : Array Slot} (RR : Sg → Prop) (hC : Cx p s m #[Value.ref b] meth c code 7 RL ret D ca base) (hN : Nx s) (hX : va_X b L xs s s.heap) (hbl : b < s.heap.size) (hbA : ¬ Ab base b) (hi7 : iN + 7 ≤ L) (hL9 : L ≤ 3584) (hc : cells + 40 ≤ 601024) (hs : slots + 240 ≤ 7293034) (hI : LInv σ) (hL2 : ∃ σ', g_law_21 xs iN σ = some σ' ∧ RR σ') (hW : Wd D ca (Ab base) ad ρm Lm σ H) (hS : va_S (Ab base) s.heap H locs) (hl : lv_has ls 7 [(4, .int (nI iN)), (3, .ref (ad 90 0)), (2, .ref (ad 8 0)), (1, .ref (ad 7 0)), (0, .ref b)])
    (kk : ∀ (σ' : Sg) (H1 : Heap) (locs1 : List Loc) (ls1 : Array Slot), RR σ' → Wd D ca (Ab base) ad ρm Lm σ' H1 → va_S (Ab base) s.heap H1 locs1 → lv_has ls1 7 [(4, .int (nI iN)), (3, .ref (ad 90 0)), (2, .ref (ad 8 0)), (1, .ref (ad 7 0)), (0, .ref b)] → W p l e room_1 s m #[Value.ref b] below meth c H1 locs1 (cells + 40) (slots + 240) Q (F0 m 2689 ls1 [])) : W p l e room_1 s m #[Value.ref b] below meth c H locs cells slots Q (F0 m 1986 ls []) := by
  have hx := hC.1
  have hb := hC.2.1
  refine lv_aload_n hx hb dL_law_1986 rfl (lv_at hl 3 rfl) ?_
  refine lv_aload_n hx hb dL_law_1987 rfl (lv_at hl 4 rfl) ?_
  refine lv_iload hx hb dL_law_1988 (lv_at hl 0 rfl) ?_
  refine lv_iconst (v := 1) hx hb dL_law_1990 (by decide) ?_
  refine lv_iadd hx hb dL_law_1991 ?_
  refine va_sld hx hb hX hbl hbA hS (vp_in_addr (a := 1) (by decide) (by omega) (by omega)) dL_law_1992 ?_
  rw [cl_addr (a := 1) (by decide) (by omega)]
  refine lv_aload_n hx hb dL_law_1993 rfl (lv_at hl 4 rfl) ?_
  refine lv_iload hx hb dL_law_1994 (lv_at hl 0 rfl) ?_
  refine lv_iconst (v := 2) hx hb dL_law_1996 (by decide) ?_
  refine lv_iadd hx hb dL_law_1997 ?_
  refine va_sld hx hb hX hbl hbA hS (vp_in_addr (a := 2) (by decide) (by omega) (by omega)) dL_law_1998 ?_
  rw [cl_addr (a := 2) (by decide) (by omega)]
  refine w_callL (As := [.ref (ad 7 0), .int (xs (iN + 1)), .int (xs (iN + 2))]) (rest := []) (st2 := .int ((f_L_watch (xs (iN + 1)) (xs (iN + 2)) σ).1) :: []) hC hN hW hS hl cl_L_198 (c_L_watch l hl9 D ca base ad σ (xs (iN + 1)) (xs (iN + 2)) hI.1) rfl rfl rfl ⟨Nat.le_of_ble_eq_true rfl, Nat.le_of_ble_eq_true rfl⟩ (Nat.le_of_ble_eq_true rfl) dL_law_1999 ⟨by show cells + 2 ≤ 601024; omega, by show slots + 12 ≤ 7293034; omega⟩ (c2 := cells + 2) (s2 := slots + 12) rfl rfl (fun H locs hW hS => ?_)
  refine lv_istore (lv' := [(5, .int ((f_L_watch (xs (iN + 1)) (xs (iN + 2)) σ).1)), (4, .int (nI iN)), (3, .ref (ad 90 0)), (2, .ref (ad 8 0)), (1, .ref (ad 7 0)), (0, .ref b)]) hx hb dL_law_2002 hl (by decide) rfl (fun ls hl => ?_)
  refine lv_aload_n hx hb dL_law_2004 rfl (lv_at hl 3 rfl) ?_
  refine lv_aload_n hx hb dL_law_2005 rfl (lv_at hl 5 rfl) ?_
  refine lv_iload hx hb dL_law_2006 (lv_at hl 1 rfl) ?_
  refine lv_iconst (v := 1) hx hb dL_law_2008 (by decide) ?_
  refine lv_iadd hx hb dL_law_2009 ?_
  refine va_sld hx hb hX hbl hbA hS (vp_in_addr (a := 1) (by decide) (by omega) (by omega)) dL_law_2010 ?_
  rw [cl_addr (a := 1) (by decide) (by omega)]
  refine lv_aload_n hx hb dL_law_2011 rfl (lv_at hl 5 rfl) ?_
  refine lv_iload hx hb dL_law_2012 (lv_at hl 1 rfl) ?_
  refine lv_iconst (v := 2) hx hb dL_law_2014 (by decide) ?_
  refine lv_iadd hx hb dL_law_2015 ?_
  refine va_sld hx hb hX hbl hbA hS (vp_in_addr (a := 2) (by decide) (by omega) (by omega)) dL_law_2016 ?_
  rw [cl_addr (a := 2) (by decide) (by omega)]
  refine w_callVL (As := [.int (xs (iN + 1)), .int (xs (iN + 2))]) (rest := []) (st2 := []) hC hW hS hl cv_L_201 m_8 (by decide) rfl (c_X8_watch l hl9 D ca base ad ((f_L_watch (xs (iN + 1)) (xs (iN + 2)) σ).2) (xs (iN + 1)) (xs (iN + 2)) (mi_of hI.2.2.1 (by rw [fr_L_watch (by decide)]) (by rw [fr_L_watch (by decide)]) (by rw [fr_L_watch (by decide)]) (by rw [fr_L_watch (by decide)]) (by rw [fr_L_watch (by decide)]) (by rw [fr_L_watch (by decide)]) (by rw [fr_L_watch (by decide)]) (by rw [fr_L_watch (by decide)]) (by rw [fr_L_watch (by decide)]) (by rw [fr_L_watch (by decide)]) (by rw [fr_L_watch (by decide)]) (by rw [fr_L_watch (by decide)]) (by rw [fr_L_watch (by decide)]) (by rw [fr_L_watch (by decide)]) (by rw [fr_L_watch (by decide)]) (by rw [fr_L_watch (by decide)]))) rfl rfl rfl ⟨Nat.le_of_ble_eq_true rfl, Nat.le_of_ble_eq_true rfl⟩ (Nat.le_of_ble_eq_true rfl) dL_law_2017 ⟨by show cells + 2 + 0 ≤ 601024; omega, by show slots + 12 + 0 ≤ 7293034; omega⟩ (c2 := cells + 2 + 0) (s2 := slots + 12 + 0) rfl rfl (fun H locs hW hS => ?_)
  refine lv_aload_n hx hb dL_law_2020 rfl (lv_at hl 3 rfl) ?_
  refine w_callVL (As := []) (rest := []) (st2 := .int (f_X8_thrown (s_X8_watch (xs (iN + 1)) (xs (iN + 2)) ((f_L_watch (xs (iN + 1)) (xs (iN + 2)) σ).2))) :: []) hC hW hS hl cv_L_127 m_8 (by decide) rfl (c_X8_thrown l hl9 D ca base ad (s_X8_watch (xs (iN + 1)) (xs (iN + 2)) ((f_L_watch (xs (iN + 1)) (xs (iN + 2)) σ).2)) ) rfl rfl rfl ⟨Nat.le_of_ble_eq_true rfl, Nat.le_of_ble_eq_true rfl⟩ (Nat.le_of_ble_eq_true rfl) dL_law_2021 ⟨by show cells + 2 + 0 + 0 ≤ 601024; omega, by show slots + 12 + 0 + 0 ≤ 7293034; omega⟩ (c2 := cells + 2 + 0 + 0) (s2 := slots + 12 + 0 + 0) rfl rfl (fun H locs hW hS => ?_)
  refine lv_iload hx hb dL_law_2024 (lv_at hl 0 rfl) ?_
  refine lv_icmp_eq (tgt := 2031) hx hb dL_law_2026 (by decide) (fun c_1 => ?_) (fun c_1 => ?_)
  · refine lv_goto (tgt := 2689) hx hb dL_law_2031 (by decide) ?_
    have hO : g_law_21 xs iN σ = some (s_X8_watch (xs (iN + 1)) (xs (iN + 2)) ((f_L_watch (xs (iN + 1)) (xs (iN + 2)) σ).2)) := by rw [g_law_21, if_pos c_1]
    obtain ⟨σ9, h9, hR9⟩ := hL2
    rw [hO] at h9
    cases h9
    exact W.widen (by omega) (by omega) (kk _ _ _ _ hR9 hW hS (lv_sub hl [1, 2, 3, 4, 5] rfl))
  · refine lv_iconst (v := 0) hx hb dL_law_2029 (by decide) ?_
    have hO : g_law_21 xs iN σ = none := by rw [g_law_21, if_neg c_1]
    obtain ⟨σ9, h9, hR9⟩ := hL2
    rw [hO] at h9
    cases h9
