def g_law_0 (xs : Nat → Int32) (iN : Nat) (σ : Sg) : Option Sg :=
  if (xs (iN + 2)) = 0 then (if (xs (iN + 4)) = 0 then (if (f_X8_thrown ((f_X8_member (xs (iN + 1)) 0 (xs (iN + 3)) 0 ((f_L_member (xs (iN + 1)) 0 (xs (iN + 3)) 0 σ).2)).2)) = ((f_L_member (xs (iN + 1)) 0 (xs (iN + 3)) 0 σ).1) then (if ((f_L_member (xs (iN + 1)) 0 (xs (iN + 3)) 0 σ).1) = 0 then (if ((f_X8_member (xs (iN + 1)) 0 (xs (iN + 3)) 0 ((f_L_member (xs (iN + 1)) 0 (xs (iN + 3)) 0 σ).2)).1) = 0 then (if (lg_cmp ((((f_L_member (xs (iN + 1)) 0 (xs (iN + 3)) 0 σ).2) 90 0 0).toInt64) (0 : Int64)) = 0 then some ((f_X8_member (xs (iN + 1)) 0 (xs (iN + 3)) 0 ((f_L_member (xs (iN + 1)) 0 (xs (iN + 3)) 0 σ).2)).2)
            else none)
          else if (lg_cmp ((((f_L_member (xs (iN + 1)) 0 (xs (iN + 3)) 0 σ).2) 90 0 0).toInt64) (1 : Int64)) = 0 then some ((f_X8_member (xs (iN + 1)) 0 (xs (iN + 3)) 0 ((f_L_member (xs (iN + 1)) 0 (xs (iN + 3)) 0 σ).2)).2)
          else none)
        else some ((f_X8_member (xs (iN + 1)) 0 (xs (iN + 3)) 0 ((f_L_member (xs (iN + 1)) 0 (xs (iN + 3)) 0 σ).2)).2))
      else none)
    else if (f_X8_thrown ((f_X8_member (xs (iN + 1)) 0 (xs (iN + 3)) 1 ((f_L_member (xs (iN + 1)) 0 (xs (iN + 3)) 1 σ).2)).2)) = ((f_L_member (xs (iN + 1)) 0 (xs (iN + 3)) 1 σ).1) then (if ((f_L_member (xs (iN + 1)) 0 (xs (iN + 3)) 1 σ).1) = 0 then (if ((f_X8_member (xs (iN + 1)) 0 (xs (iN + 3)) 1 ((f_L_member (xs (iN + 1)) 0 (xs (iN + 3)) 1 σ).2)).1) = 0 then (if (lg_cmp ((((f_L_member (xs (iN + 1)) 0 (xs (iN + 3)) 1 σ).2) 90 0 0).toInt64) (0 : Int64)) = 0 then some ((f_X8_member (xs (iN + 1)) 0 (xs (iN + 3)) 1 ((f_L_member (xs (iN + 1)) 0 (xs (iN + 3)) 1 σ).2)).2)
          else none)
        else if (lg_cmp ((((f_L_member (xs (iN + 1)) 0 (xs (iN + 3)) 1 σ).2) 90 0 0).toInt64) (1 : Int64)) = 0 then some ((f_X8_member (xs (iN + 1)) 0 (xs (iN + 3)) 1 ((f_L_member (xs (iN + 1)) 0 (xs (iN + 3)) 1 σ).2)).2)
        else none)
      else some ((f_X8_member (xs (iN + 1)) 0 (xs (iN + 3)) 1 ((f_L_member (xs (iN + 1)) 0 (xs (iN + 3)) 1 σ).2)).2))
    else none)
  else if (xs (iN + 4)) = 0 then (if (f_X8_thrown ((f_X8_member (xs (iN + 1)) 1 (xs (iN + 3)) 0 ((f_L_member (xs (iN + 1)) 1 (xs (iN + 3)) 0 σ).2)).2)) = ((f_L_member (xs (iN + 1)) 1 (xs (iN + 3)) 0 σ).1) then (if ((f_L_member (xs (iN + 1)) 1 (xs (iN + 3)) 0 σ).1) = 0 then (if ((f_X8_member (xs (iN + 1)) 1 (xs (iN + 3)) 0 ((f_L_member (xs (iN + 1)) 1 (xs (iN + 3)) 0 σ).2)).1) = 0 then (if (lg_cmp ((((f_L_member (xs (iN + 1)) 1 (xs (iN + 3)) 0 σ).2) 90 0 0).toInt64) (0 : Int64)) = 0 then some ((f_X8_member (xs (iN + 1)) 1 (xs (iN + 3)) 0 ((f_L_member (xs (iN + 1)) 1 (xs (iN + 3)) 0 σ).2)).2)
          else none)
        else if (lg_cmp ((((f_L_member (xs (iN + 1)) 1 (xs (iN + 3)) 0 σ).2) 90 0 0).toInt64) (1 : Int64)) = 0 then some ((f_X8_member (xs (iN + 1)) 1 (xs (iN + 3)) 0 ((f_L_member (xs (iN + 1)) 1 (xs (iN + 3)) 0 σ).2)).2)
        else none)
      else some ((f_X8_member (xs (iN + 1)) 1 (xs (iN + 3)) 0 ((f_L_member (xs (iN + 1)) 1 (xs (iN + 3)) 0 σ).2)).2))
    else none)
  else if (f_X8_thrown ((f_X8_member (xs (iN + 1)) 1 (xs (iN + 3)) 1 ((f_L_member (xs (iN + 1)) 1 (xs (iN + 3)) 1 σ).2)).2)) = ((f_L_member (xs (iN + 1)) 1 (xs (iN + 3)) 1 σ).1) then (if ((f_L_member (xs (iN + 1)) 1 (xs (iN + 3)) 1 σ).1) = 0 then (if ((f_X8_member (xs (iN + 1)) 1 (xs (iN + 3)) 1 ((f_L_member (xs (iN + 1)) 1 (xs (iN + 3)) 1 σ).2)).1) = 0 then (if (lg_cmp ((((f_L_member (xs (iN + 1)) 1 (xs (iN + 3)) 1 σ).2) 90 0 0).toInt64) (0 : Int64)) = 0 then some ((f_X8_member (xs (iN + 1)) 1 (xs (iN + 3)) 1 ((f_L_member (xs (iN + 1)) 1 (xs (iN + 3)) 1 σ).2)).2)
        else none)
      else if (lg_cmp ((((f_L_member (xs (iN + 1)) 1 (xs (iN + 3)) 1 σ).2) 90 0 0).toInt64) (1 : Int64)) = 0 then some ((f_X8_member (xs (iN + 1)) 1 (xs (iN + 3)) 1 ((f_L_member (xs (iN + 1)) 1 (xs (iN + 3)) 1 σ).2)).2)
      else none)
    else some ((f_X8_member (xs (iN + 1)) 1 (xs (iN + 3)) 1 ((f_L_member (xs (iN + 1)) 1 (xs (iN + 3)) 1 σ).2)).2))
  else none
set_option maxHeartbeats 4000000 in
set_option maxRecDepth 100000 in
theorem lc_0 {p : Program} {l : Launch} (hl9 : l.stackTraces = false) {e : Env} {s : State} {m : MethodId} {below : List Frame} {meth : Method} {c : Code} {b L : Nat} {xs : Nat → Int32} {D : va_G} {ca : Nat → ClassId} {base : Nat} {ad : Adr} {Q : State → Prop} {iN : Nat} {σ : Sg} {H : Heap} {locs : List Loc} {cells slots : Nat} {ls : Array Slot} (RR : Sg → Prop) (hC : Cx p s m #[Value.ref b] meth c code 7 RL ret D ca base) (hN : Nx s) (hX : va_X b L xs s s.heap) (hbl : b < s.heap.size) (hbA : ¬ Ab base b) (hi7 : iN + 7 ≤ L) (hL9 : L ≤ 3584) (hc : cells + 40 ≤ 601024) (hs : slots + 240 ≤ 7293034) (hI : LInv σ) (hL2 : ∃ σ', g_law_0 xs iN σ = some σ' ∧ RR σ') (hW : Wd D ca (Ab base) ad ρm Lm σ H) (hS : va_S (Ab base) s.heap H locs) (hl : lv_has ls 7 [(4, .int (nI iN)), (3, .ref (ad 90 0)), (2, .ref (ad 8 0)), (1, .ref (ad 7 0)), (0, .ref b)])
    (kk : ∀ (σ' : Sg) (H1 : Heap) (locs1 : List Loc) (ls1 : Array Slot), RR σ' → Wd D ca (Ab base) ad ρm Lm σ' H1 → va_S (Ab base) s.heap H1 locs1 → lv_has ls1 7 [(4, .int (nI iN)), (3, .ref (ad 90 0)), (2, .ref (ad 8 0)), (1, .ref (ad 7 0)), (0, .ref b)] → W p l e room_1 s m #[Value.ref b] below meth c H1 locs1 (cells + 40) (slots + 240) Q (F0 m 2689 ls1 [])) : W p l e room_1 s m #[Value.ref b] below meth c H locs cells slots Q (F0 m 188 ls []) := by
  have hx := hC.1
  have hb := hC.2.1
  refine lv_aload_n hx hb dL_law_188 rfl (lv_at hl 3 rfl) ?_
  refine lv_aload_n hx hb dL_law_189 rfl (lv_at hl 4 rfl) ?_
  refine lv_iload hx hb dL_law_190 (lv_at hl 0 rfl) ?_
  refine lv_iconst (v := 1) hx hb dL_law_192 (by decide) ?_
  refine lv_iadd hx hb dL_law_193 ?_
  refine va_sld hx hb hX hbl hbA hS (vp_in_addr (a := 1) (by decide) (by omega) (by omega)) dL_law_194 ?_
  rw [cl_addr (a := 1) (by decide) (by omega)]
  refine lv_aload_n hx hb dL_law_195 rfl (lv_at hl 4 rfl) ?_
  refine lv_iload hx hb dL_law_196 (lv_at hl 0 rfl) ?_
  refine lv_iconst (v := 2) hx hb dL_law_198 (by decide) ?_
  refine lv_iadd hx hb dL_law_199 ?_
  refine va_sld hx hb hX hbl hbA hS (vp_in_addr (a := 2) (by decide) (by omega) (by omega)) dL_law_200 ?_
  rw [cl_addr (a := 2) (by decide) (by omega)]
  refine lv_if_eq (tgt := 208) hx hb dL_law_201 (by decide) (fun c_1 => ?_) (fun c_1 => ?_)
  · refine lv_iconst (v := 0) hx hb dL_law_208 (by decide) ?_
    refine lv_aload_n hx hb dL_law_209 rfl (lv_at hl 4 rfl) ?_
    refine lv_iload hx hb dL_law_210 (lv_at hl 0 rfl) ?_
    refine lv_iconst (v := 3) hx hb dL_law_212 (by decide) ?_
    refine lv_iadd hx hb dL_law_213 ?_
    refine va_sld hx hb hX hbl hbA hS (vp_in_addr (a := 3) (by decide) (by omega) (by omega)) dL_law_214 ?_
    rw [cl_addr (a := 3) (by decide) (by omega)]
    refine lv_aload_n hx hb dL_law_215 rfl (lv_at hl 4 rfl) ?_
    refine lv_iload hx hb dL_law_216 (lv_at hl 0 rfl) ?_
    refine lv_iconst (v := 4) hx hb dL_law_218 (by decide) ?_
    refine lv_iadd hx hb dL_law_219 ?_
    refine va_sld hx hb hX hbl hbA hS (vp_in_addr (a := 4) (by decide) (by omega) (by omega)) dL_law_220 ?_
    rw [cl_addr (a := 4) (by decide) (by omega)]
    refine lv_if_eq (tgt := 228) hx hb dL_law_221 (by decide) (fun c_2 => ?_) (fun c_2 => ?_)
    · refine lv_iconst (v := 0) hx hb dL_law_228 (by decide) ?_
      refine lv_aload_n hx hb dL_law_229 rfl (lv_at hl 1 rfl) ?_
      refine w_callL (As := [.ref (ad 7 0), .int (xs (iN + 1)), .int 0, .int (xs (iN + 3)), .int 0, .ref (ad 90 0)]) (rest := []) (st2 := .int ((f_L_member (xs (iN + 1)) 0 (xs (iN + 3)) 0 σ).1) :: []) hC hN hW hS hl cl_L_121 (c_L_member l hl9 D ca base ad σ (xs (iN + 1)) 0 (xs (iN + 3)) 0 hI.1) rfl rfl rfl ⟨Nat.le_of_ble_eq_true rfl, Nat.le_of_ble_eq_true rfl⟩ (Nat.le_of_ble_eq_true rfl) dL_law_230 ⟨by show cells + 4 ≤ 601024; omega, by show slots + 24 ≤ 7293034; omega⟩ (c2 := cells + 4) (s2 := slots + 24) rfl rfl (fun H locs hW hS => ?_)
      refine lv_istore (lv' := [(5, .int ((f_L_member (xs (iN + 1)) 0 (xs (iN + 3)) 0 σ).1)), (4, .int (nI iN)), (3, .ref (ad 90 0)), (2, .ref (ad 8 0)), (1, .ref (ad 7 0)), (0, .ref b)]) hx hb dL_law_233 hl (by decide) rfl (fun ls hl => ?_)
      refine lv_aload_n hx hb dL_law_235 rfl (lv_at hl 3 rfl) ?_
      refine lv_aload_n hx hb dL_law_236 rfl (lv_at hl 5 rfl) ?_
      refine lv_iload hx hb dL_law_237 (lv_at hl 1 rfl) ?_
      refine lv_iconst (v := 1) hx hb dL_law_239 (by decide) ?_
      refine lv_iadd hx hb dL_law_240 ?_
      refine va_sld hx hb hX hbl hbA hS (vp_in_addr (a := 1) (by decide) (by omega) (by omega)) dL_law_241 ?_
      rw [cl_addr (a := 1) (by decide) (by omega)]
      refine lv_aload_n hx hb dL_law_242 rfl (lv_at hl 5 rfl) ?_
      refine lv_iload hx hb dL_law_243 (lv_at hl 1 rfl) ?_
      refine lv_iconst (v := 2) hx hb dL_law_245 (by decide) ?_
      refine lv_iadd hx hb dL_law_246 ?_
      refine va_sld hx hb hX hbl hbA hS (vp_in_addr (a := 2) (by decide) (by omega) (by omega)) dL_law_247 ?_
      rw [cl_addr (a := 2) (by decide) (by omega)]
      refine lv_if_eq (tgt := 255) hx hb dL_law_248 (by decide) (fun _ => ?_) (fun c => absurd c_1 c)
      refine lv_iconst (v := 0) hx hb dL_law_255 (by decide) ?_
      refine lv_aload_n hx hb dL_law_256 rfl (lv_at hl 5 rfl) ?_
      refine lv_iload hx hb dL_law_257 (lv_at hl 1 rfl) ?_
      refine lv_iconst (v := 3) hx hb dL_law_259 (by decide) ?_
      refine lv_iadd hx hb dL_law_260 ?_
      refine va_sld hx hb hX hbl hbA hS (vp_in_addr (a := 3) (by decide) (by omega) (by omega)) dL_law_261 ?_
      rw [cl_addr (a := 3) (by decide) (by omega)]
      refine lv_aload_n hx hb dL_law_262 rfl (lv_at hl 5 rfl) ?_
      refine lv_iload hx hb dL_law_263 (lv_at hl 1 rfl) ?_
      refine lv_iconst (v := 4) hx hb dL_law_265 (by decide) ?_
      refine lv_iadd hx hb dL_law_266 ?_
      refine va_sld hx hb hX hbl hbA hS (vp_in_addr (a := 4) (by decide) (by omega) (by omega)) dL_law_267 ?_
      rw [cl_addr (a := 4) (by decide) (by omega)]
      refine lv_if_eq (tgt := 275) hx hb dL_law_268 (by decide) (fun _ => ?_) (fun c => absurd c_2 c)
      refine lv_iconst (v := 0) hx hb dL_law_275 (by decide) ?_
      refine w_callVL (As := [.int (xs (iN + 1)), .int 0, .int (xs (iN + 3)), .int 0]) (rest := []) (st2 := .int ((f_X8_member (xs (iN + 1)) 0 (xs (iN + 3)) 0 ((f_L_member (xs (iN + 1)) 0 (xs (iN + 3)) 0 σ).2)).1) :: []) hC hW hS hl cv_L_126 m_8 (by decide) rfl (c_X8_member l hl9 D ca base ad ((f_L_member (xs (iN + 1)) 0 (xs (iN + 3)) 0 σ).2) (xs (iN + 1)) 0 (xs (iN + 3)) 0 (mi_of hI.2.2.1 (by rw [fr_L_member (by decide) (by decide) (by decide) (by decide)]) (by rw [fr_L_member (by decide) (by decide) (by decide) (by decide)]) (by rw [fr_L_member (by decide) (by decide) (by decide) (by decide)]) (by rw [fr_L_member (by decide) (by decide) (by decide) (by decide)]) (by rw [fr_L_member (by decide) (by decide) (by decide) (by decide)]) (by rw [fr_L_member (by decide) (by decide) (by decide) (by decide)]) (by rw [fr_L_member (by decide) (by decide) (by decide) (by decide)]) (by rw [fr_L_member (by decide) (by decide) (by decide) (by decide)]) (by rw [fr_L_member (by decide) (by decide) (by decide) (by decide)]) (by rw [fr_L_member (by decide) (by decide) (by decide) (by decide)]) (by rw [fr_L_member (by decide) (by decide) (by decide) (by decide)]) (by rw [fr_L_member (by decide) (by decide) (by decide) (by decide)]) (by rw [fr_L_member (by decide) (by decide) (by decide) (by decide)]) (by rw [fr_L_member (by decide) (by decide) (by decide) (by decide)]) (by rw [fr_L_member (by decide) (by decide) (by decide) (by decide)]) (by rw [fr_L_member (by decide) (by decide) (by decide) (by decide)]))) rfl rfl rfl ⟨Nat.le_of_ble_eq_true rfl, Nat.le_of_ble_eq_true rfl⟩ (Nat.le_of_ble_eq_true rfl) dL_law_276 ⟨by show cells + 4 + 0 ≤ 601024; omega, by show slots + 24 + 0 ≤ 7293034; omega⟩ (c2 := cells + 4 + 0) (s2 := slots + 24 + 0) rfl rfl (fun H locs hW hS => ?_)
      refine lv_istore (lv' := [(6, .int ((f_X8_member (xs (iN + 1)) 0 (xs (iN + 3)) 0 ((f_L_member (xs (iN + 1)) 0 (xs (iN + 3)) 0 σ).2)).1)), (5, .int ((f_L_member (xs (iN + 1)) 0 (xs (iN + 3)) 0 σ).1)), (4, .int (nI iN)), (3, .ref (ad 90 0)), (2, .ref (ad 8 0)), (1, .ref (ad 7 0)), (0, .ref b)]) hx hb dL_law_279 hl (by decide) rfl (fun ls hl => ?_)
      refine lv_aload_n hx hb dL_law_281 rfl (lv_at hl 4 rfl) ?_
      refine w_callVL (As := []) (rest := []) (st2 := .int (f_X8_thrown ((f_X8_member (xs (iN + 1)) 0 (xs (iN + 3)) 0 ((f_L_member (xs (iN + 1)) 0 (xs (iN + 3)) 0 σ).2)).2)) :: []) hC hW hS hl cv_L_127 m_8 (by decide) rfl (c_X8_thrown l hl9 D ca base ad ((f_X8_member (xs (iN + 1)) 0 (xs (iN + 3)) 0 ((f_L_member (xs (iN + 1)) 0 (xs (iN + 3)) 0 σ).2)).2) ) rfl rfl rfl ⟨Nat.le_of_ble_eq_true rfl, Nat.le_of_ble_eq_true rfl⟩ (Nat.le_of_ble_eq_true rfl) dL_law_282 ⟨by show cells + 4 + 0 + 0 ≤ 601024; omega, by show slots + 24 + 0 + 0 ≤ 7293034; omega⟩ (c2 := cells + 4 + 0 + 0) (s2 := slots + 24 + 0 + 0) rfl rfl (fun H locs hW hS => ?_)
      refine lv_iload hx hb dL_law_285 (lv_at hl 1 rfl) ?_
      refine lv_icmp_eq (tgt := 292) hx hb dL_law_287 (by decide) (fun c_3 => ?_) (fun c_3 => ?_)
      · refine lv_iload hx hb dL_law_292 (lv_at hl 1 rfl) ?_
        refine lv_if_ne (tgt := 316) hx hb dL_law_294 (by decide) (fun c_4 => ?_) (fun c_4 => ?_)
        · refine lv_goto (tgt := 2689) hx hb dL_law_316 (by decide) ?_
          have hO : g_law_0 xs iN σ = some ((f_X8_member (xs (iN + 1)) 0 (xs (iN + 3)) 0 ((f_L_member (xs (iN + 1)) 0 (xs (iN + 3)) 0 σ).2)).2) := by rw [g_law_0, if_pos c_1, if_pos c_2, if_pos c_3, if_neg c_4]
          obtain ⟨σ9, h9, hR9⟩ := hL2
          rw [hO] at h9
          cases h9
          exact W.widen (by omega) (by omega) (kk _ _ _ _ hR9 hW hS (lv_sub hl [2, 3, 4, 5, 6] rfl))
        · refine lv_aload_n hx hb dL_law_297 rfl (lv_at hl 3 rfl) ?_
          refine lv_iconst (v := 0) hx hb dL_law_298 (by decide) ?_
          refine w_lald hC hW m_90 (vp_lit (by decide)) dL_law_299 ?_
          rw [show Int32.toNatClampNeg 0 = 0 by decide, fr_X8_member (by decide) (by decide) (by decide)]
          refine lv_iload hx hb dL_law_300 (lv_at hl 0 rfl) ?_
          refine lv_if_eq (tgt := 309) hx hb dL_law_302 (by decide) (fun c_5 => ?_) (fun c_5 => ?_)
          · refine lv_lconst (v := 0) hx hb dL_law_309 (by decide) ?_
            refine W.lcmp hx hb dL_law_310 ?_
            refine lv_if_eq (tgt := 316) hx hb dL_law_311 (by decide) (fun c_6 => ?_) (fun c_6 => ?_)
            · refine lv_goto (tgt := 2689) hx hb dL_law_316 (by decide) ?_
              have hO : g_law_0 xs iN σ = some ((f_X8_member (xs (iN + 1)) 0 (xs (iN + 3)) 0 ((f_L_member (xs (iN + 1)) 0 (xs (iN + 3)) 0 σ).2)).2) := by rw [g_law_0, if_pos c_1, if_pos c_2, if_pos c_3, if_pos c_4, if_pos c_5, if_pos c_6]
              obtain ⟨σ9, h9, hR9⟩ := hL2
              rw [hO] at h9
              cases h9
              exact W.widen (by omega) (by omega) (kk _ _ _ _ hR9 hW hS (lv_sub hl [2, 3, 4, 5, 6] rfl))
            · refine lv_iconst (v := 0) hx hb dL_law_314 (by decide) ?_
              have hO : g_law_0 xs iN σ = none := by rw [g_law_0, if_pos c_1, if_pos c_2, if_pos c_3, if_pos c_4, if_pos c_5, if_neg c_6]
              obtain ⟨σ9, h9, hR9⟩ := hL2
              rw [hO] at h9
              cases h9
          · refine lv_lconst (v := 1) hx hb dL_law_305 (by decide) ?_
            refine lv_goto (tgt := 310) hx hb dL_law_306 (by decide) ?_
            refine W.lcmp hx hb dL_law_310 ?_
            refine lv_if_eq (tgt := 316) hx hb dL_law_311 (by decide) (fun c_7 => ?_) (fun c_7 => ?_)
            · refine lv_goto (tgt := 2689) hx hb dL_law_316 (by decide) ?_
              have hO : g_law_0 xs iN σ = some ((f_X8_member (xs (iN + 1)) 0 (xs (iN + 3)) 0 ((f_L_member (xs (iN + 1)) 0 (xs (iN + 3)) 0 σ).2)).2) := by rw [g_law_0, if_pos c_1, if_pos c_2, if_pos c_3, if_pos c_4, if_neg c_5, if_pos c_7]
              obtain ⟨σ9, h9, hR9⟩ := hL2
              rw [hO] at h9
              cases h9
              exact W.widen (by omega) (by omega) (kk _ _ _ _ hR9 hW hS (lv_sub hl [2, 3, 4, 5, 6] rfl))
            · refine lv_iconst (v := 0) hx hb dL_law_314 (by decide) ?_
              have hO : g_law_0 xs iN σ = none := by rw [g_law_0, if_pos c_1, if_pos c_2, if_pos c_3, if_pos c_4, if_neg c_5, if_neg c_7]
              obtain ⟨σ9, h9, hR9⟩ := hL2
              rw [hO] at h9
              cases h9
      · refine lv_iconst (v := 0) hx hb dL_law_290 (by decide) ?_
        have hO : g_law_0 xs iN σ = none := by rw [g_law_0, if_pos c_1, if_pos c_2, if_neg c_3]
        obtain ⟨σ9, h9, hR9⟩ := hL2
        rw [hO] at h9
        cases h9
    · refine lv_iconst (v := 1) hx hb dL_law_224 (by decide) ?_
      refine lv_goto (tgt := 229) hx hb dL_law_225 (by decide) ?_
      refine lv_aload_n hx hb dL_law_229 rfl (lv_at hl 1 rfl) ?_
      refine w_callL (As := [.ref (ad 7 0), .int (xs (iN + 1)), .int 0, .int (xs (iN + 3)), .int 1, .ref (ad 90 0)]) (rest := []) (st2 := .int ((f_L_member (xs (iN + 1)) 0 (xs (iN + 3)) 1 σ).1) :: []) hC hN hW hS hl cl_L_121 (c_L_member l hl9 D ca base ad σ (xs (iN + 1)) 0 (xs (iN + 3)) 1 hI.1) rfl rfl rfl ⟨Nat.le_of_ble_eq_true rfl, Nat.le_of_ble_eq_true rfl⟩ (Nat.le_of_ble_eq_true rfl) dL_law_230 ⟨by show cells + 4 ≤ 601024; omega, by show slots + 24 ≤ 7293034; omega⟩ (c2 := cells + 4) (s2 := slots + 24) rfl rfl (fun H locs hW hS => ?_)
      refine lv_istore (lv' := [(5, .int ((f_L_member (xs (iN + 1)) 0 (xs (iN + 3)) 1 σ).1)), (4, .int (nI iN)), (3, .ref (ad 90 0)), (2, .ref (ad 8 0)), (1, .ref (ad 7 0)), (0, .ref b)]) hx hb dL_law_233 hl (by decide) rfl (fun ls hl => ?_)
      refine lv_aload_n hx hb dL_law_235 rfl (lv_at hl 3 rfl) ?_
      refine lv_aload_n hx hb dL_law_236 rfl (lv_at hl 5 rfl) ?_
      refine lv_iload hx hb dL_law_237 (lv_at hl 1 rfl) ?_
      refine lv_iconst (v := 1) hx hb dL_law_239 (by decide) ?_
      refine lv_iadd hx hb dL_law_240 ?_
      refine va_sld hx hb hX hbl hbA hS (vp_in_addr (a := 1) (by decide) (by omega) (by omega)) dL_law_241 ?_
      rw [cl_addr (a := 1) (by decide) (by omega)]
      refine lv_aload_n hx hb dL_law_242 rfl (lv_at hl 5 rfl) ?_
      refine lv_iload hx hb dL_law_243 (lv_at hl 1 rfl) ?_
      refine lv_iconst (v := 2) hx hb dL_law_245 (by decide) ?_
      refine lv_iadd hx hb dL_law_246 ?_
      refine va_sld hx hb hX hbl hbA hS (vp_in_addr (a := 2) (by decide) (by omega) (by omega)) dL_law_247 ?_
      rw [cl_addr (a := 2) (by decide) (by omega)]
      refine lv_if_eq (tgt := 255) hx hb dL_law_248 (by decide) (fun _ => ?_) (fun c => absurd c_1 c)
      refine lv_iconst (v := 0) hx hb dL_law_255 (by decide) ?_
      refine lv_aload_n hx hb dL_law_256 rfl (lv_at hl 5 rfl) ?_
      refine lv_iload hx hb dL_law_257 (lv_at hl 1 rfl) ?_
      refine lv_iconst (v := 3) hx hb dL_law_259 (by decide) ?_
      refine lv_iadd hx hb dL_law_260 ?_
      refine va_sld hx hb hX hbl hbA hS (vp_in_addr (a := 3) (by decide) (by omega) (by omega)) dL_law_261 ?_
      rw [cl_addr (a := 3) (by decide) (by omega)]
      refine lv_aload_n hx hb dL_law_262 rfl (lv_at hl 5 rfl) ?_
      refine lv_iload hx hb dL_law_263 (lv_at hl 1 rfl) ?_
      refine lv_iconst (v := 4) hx hb dL_law_265 (by decide) ?_
      refine lv_iadd hx hb dL_law_266 ?_
      refine va_sld hx hb hX hbl hbA hS (vp_in_addr (a := 4) (by decide) (by omega) (by omega)) dL_law_267 ?_
      rw [cl_addr (a := 4) (by decide) (by omega)]
      refine lv_if_eq (tgt := 275) hx hb dL_law_268 (by decide) (fun c => absurd c c_2) (fun _ => ?_)
      refine lv_iconst (v := 1) hx hb dL_law_271 (by decide) ?_
      refine lv_goto (tgt := 276) hx hb dL_law_272 (by decide) ?_
      refine w_callVL (As := [.int (xs (iN + 1)), .int 0, .int (xs (iN + 3)), .int 1]) (rest := []) (st2 := .int ((f_X8_member (xs (iN + 1)) 0 (xs (iN + 3)) 1 ((f_L_member (xs (iN + 1)) 0 (xs (iN + 3)) 1 σ).2)).1) :: []) hC hW hS hl cv_L_126 m_8 (by decide) rfl (c_X8_member l hl9 D ca base ad ((f_L_member (xs (iN + 1)) 0 (xs (iN + 3)) 1 σ).2) (xs (iN + 1)) 0 (xs (iN + 3)) 1 (mi_of hI.2.2.1 (by rw [fr_L_member (by decide) (by decide) (by decide) (by decide)]) (by rw [fr_L_member (by decide) (by decide) (by decide) (by decide)]) (by rw [fr_L_member (by decide) (by decide) (by decide) (by decide)]) (by rw [fr_L_member (by decide) (by decide) (by decide) (by decide)]) (by rw [fr_L_member (by decide) (by decide) (by decide) (by decide)]) (by rw [fr_L_member (by decide) (by decide) (by decide) (by decide)]) (by rw [fr_L_member (by decide) (by decide) (by decide) (by decide)]) (by rw [fr_L_member (by decide) (by decide) (by decide) (by decide)]) (by rw [fr_L_member (by decide) (by decide) (by decide) (by decide)]) (by rw [fr_L_member (by decide) (by decide) (by decide) (by decide)]) (by rw [fr_L_member (by decide) (by decide) (by decide) (by decide)]) (by rw [fr_L_member (by decide) (by decide) (by decide) (by decide)]) (by rw [fr_L_member (by decide) (by decide) (by decide) (by decide)]) (by rw [fr_L_member (by decide) (by decide) (by decide) (by decide)]) (by rw [fr_L_member (by decide) (by decide) (by decide) (by decide)]) (by rw [fr_L_member (by decide) (by decide) (by decide) (by decide)]))) rfl rfl rfl ⟨Nat.le_of_ble_eq_true rfl, Nat.le_of_ble_eq_true rfl⟩ (Nat.le_of_ble_eq_true rfl) dL_law_276 ⟨by show cells + 4 + 0 ≤ 601024; omega, by show slots + 24 + 0 ≤ 7293034; omega⟩ (c2 := cells + 4 + 0) (s2 := slots + 24 + 0) rfl rfl (fun H locs hW hS => ?_)
      refine lv_istore (lv' := [(6, .int ((f_X8_member (xs (iN + 1)) 0 (xs (iN + 3)) 1 ((f_L_member (xs (iN + 1)) 0 (xs (iN + 3)) 1 σ).2)).1)), (5, .int ((f_L_member (xs (iN + 1)) 0 (xs (iN + 3)) 1 σ).1)), (4, .int (nI iN)), (3, .ref (ad 90 0)), (2, .ref (ad 8 0)), (1, .ref (ad 7 0)), (0, .ref b)]) hx hb dL_law_279 hl (by decide) rfl (fun ls hl => ?_)
      refine lv_aload_n hx hb dL_law_281 rfl (lv_at hl 4 rfl) ?_
      refine w_callVL (As := []) (rest := []) (st2 := .int (f_X8_thrown ((f_X8_member (xs (iN + 1)) 0 (xs (iN + 3)) 1 ((f_L_member (xs (iN + 1)) 0 (xs (iN + 3)) 1 σ).2)).2)) :: []) hC hW hS hl cv_L_127 m_8 (by decide) rfl (c_X8_thrown l hl9 D ca base ad ((f_X8_member (xs (iN + 1)) 0 (xs (iN + 3)) 1 ((f_L_member (xs (iN + 1)) 0 (xs (iN + 3)) 1 σ).2)).2) ) rfl rfl rfl ⟨Nat.le_of_ble_eq_true rfl, Nat.le_of_ble_eq_true rfl⟩ (Nat.le_of_ble_eq_true rfl) dL_law_282 ⟨by show cells + 4 + 0 + 0 ≤ 601024; omega, by show slots + 24 + 0 + 0 ≤ 7293034; omega⟩ (c2 := cells + 4 + 0 + 0) (s2 := slots + 24 + 0 + 0) rfl rfl (fun H locs hW hS => ?_)
      refine lv_iload hx hb dL_law_285 (lv_at hl 1 rfl) ?_
      refine lv_icmp_eq (tgt := 292) hx hb dL_law_287 (by decide) (fun c_8 => ?_) (fun c_8 => ?_)
      · refine lv_iload hx hb dL_law_292 (lv_at hl 1 rfl) ?_
        refine lv_if_ne (tgt := 316) hx hb dL_law_294 (by decide) (fun c_9 => ?_) (fun c_9 => ?_)
        · refine lv_goto (tgt := 2689) hx hb dL_law_316 (by decide) ?_
          have hO : g_law_0 xs iN σ = some ((f_X8_member (xs (iN + 1)) 0 (xs (iN + 3)) 1 ((f_L_member (xs (iN + 1)) 0 (xs (iN + 3)) 1 σ).2)).2) := by rw [g_law_0, if_pos c_1, if_neg c_2, if_pos c_8, if_neg c_9]
          obtain ⟨σ9, h9, hR9⟩ := hL2
          rw [hO] at h9
          cases h9
          exact W.widen (by omega) (by omega) (kk _ _ _ _ hR9 hW hS (lv_sub hl [2, 3, 4, 5, 6] rfl))
        · refine lv_aload_n hx hb dL_law_297 rfl (lv_at hl 3 rfl) ?_
          refine lv_iconst (v := 0) hx hb dL_law_298 (by decide) ?_
          refine w_lald hC hW m_90 (vp_lit (by decide)) dL_law_299 ?_
          rw [show Int32.toNatClampNeg 0 = 0 by decide, fr_X8_member (by decide) (by decide) (by decide)]
          refine lv_iload hx hb dL_law_300 (lv_at hl 0 rfl) ?_
          refine lv_if_eq (tgt := 309) hx hb dL_law_302 (by decide) (fun c_10 => ?_) (fun c_10 => ?_)
          · refine lv_lconst (v := 0) hx hb dL_law_309 (by decide) ?_
            refine W.lcmp hx hb dL_law_310 ?_
            refine lv_if_eq (tgt := 316) hx hb dL_law_311 (by decide) (fun c_11 => ?_) (fun c_11 => ?_)
            · refine lv_goto (tgt := 2689) hx hb dL_law_316 (by decide) ?_
              have hO : g_law_0 xs iN σ = some ((f_X8_member (xs (iN + 1)) 0 (xs (iN + 3)) 1 ((f_L_member (xs (iN + 1)) 0 (xs (iN + 3)) 1 σ).2)).2) := by rw [g_law_0, if_pos c_1, if_neg c_2, if_pos c_8, if_pos c_9, if_pos c_10, if_pos c_11]
              obtain ⟨σ9, h9, hR9⟩ := hL2
              rw [hO] at h9
              cases h9
              exact W.widen (by omega) (by omega) (kk _ _ _ _ hR9 hW hS (lv_sub hl [2, 3, 4, 5, 6] rfl))
            · refine lv_iconst (v := 0) hx hb dL_law_314 (by decide) ?_
              have hO : g_law_0 xs iN σ = none := by rw [g_law_0, if_pos c_1, if_neg c_2, if_pos c_8, if_pos c_9, if_pos c_10, if_neg c_11]
              obtain ⟨σ9, h9, hR9⟩ := hL2
              rw [hO] at h9
              cases h9
          · refine lv_lconst (v := 1) hx hb dL_law_305 (by decide) ?_
            refine lv_goto (tgt := 310) hx hb dL_law_306 (by decide) ?_
            refine W.lcmp hx hb dL_law_310 ?_
            refine lv_if_eq (tgt := 316) hx hb dL_law_311 (by decide) (fun c_12 => ?_) (fun c_12 => ?_)
            · refine lv_goto (tgt := 2689) hx hb dL_law_316 (by decide) ?_
              have hO : g_law_0 xs iN σ = some ((f_X8_member (xs (iN + 1)) 0 (xs (iN + 3)) 1 ((f_L_member (xs (iN + 1)) 0 (xs (iN + 3)) 1 σ).2)).2) := by rw [g_law_0, if_pos c_1, if_neg c_2, if_pos c_8, if_pos c_9, if_neg c_10, if_pos c_12]
              obtain ⟨σ9, h9, hR9⟩ := hL2
              rw [hO] at h9
              cases h9
              exact W.widen (by omega) (by omega) (kk _ _ _ _ hR9 hW hS (lv_sub hl [2, 3, 4, 5, 6] rfl))
            · refine lv_iconst (v := 0) hx hb dL_law_314 (by decide) ?_
              have hO : g_law_0 xs iN σ = none := by rw [g_law_0, if_pos c_1, if_neg c_2, if_pos c_8, if_pos c_9, if_neg c_10, if_neg c_12]
              obtain ⟨σ9, h9, hR9⟩ := hL2
              rw [hO] at h9
              cases h9
      · refine lv_iconst (v := 0) hx hb dL_law_290 (by decide) ?_
        have hO : g_law_0 xs iN σ = none := by rw [g_law_0, if_pos c_1, if_neg c_2, if_neg c_8]
        obtain ⟨σ9, h9, hR9⟩ := hL2
        rw [hO] at h9
        cases h9
  · refine lv_iconst (v := 1) hx hb dL_law_204 (by decide) ?_
    refine lv_goto (tgt := 209) hx hb dL_law_205 (by decide) ?_
    refine lv_aload_n hx hb dL_law_209 rfl (lv_at hl 4 rfl) ?_
    refine lv_iload hx hb dL_law_210 (lv_at hl 0 rfl) ?_
    refine lv_iconst (v := 3) hx hb dL_law_212 (by decide) ?_
    refine lv_iadd hx hb dL_law_213 ?_
    refine va_sld hx hb hX hbl hbA hS (vp_in_addr (a := 3) (by decide) (by omega) (by omega)) dL_law_214 ?_
    rw [cl_addr (a := 3) (by decide) (by omega)]
    refine lv_aload_n hx hb dL_law_215 rfl (lv_at hl 4 rfl) ?_
    refine lv_iload hx hb dL_law_216 (lv_at hl 0 rfl) ?_
    refine lv_iconst (v := 4) hx hb dL_law_218 (by decide) ?_
    refine lv_iadd hx hb dL_law_219 ?_
    refine va_sld hx hb hX hbl hbA hS (vp_in_addr (a := 4) (by decide) (by omega) (by omega)) dL_law_220 ?_
    rw [cl_addr (a := 4) (by decide) (by omega)]
    refine lv_if_eq (tgt := 228) hx hb dL_law_221 (by decide) (fun c_13 => ?_) (fun c_13 => ?_)
    · refine lv_iconst (v := 0) hx hb dL_law_228 (by decide) ?_
      refine lv_aload_n hx hb dL_law_229 rfl (lv_at hl 1 rfl) ?_
      refine w_callL (As := [.ref (ad 7 0), .int (xs (iN + 1)), .int 1, .int (xs (iN + 3)), .int 0, .ref (ad 90 0)]) (rest := []) (st2 := .int ((f_L_member (xs (iN + 1)) 1 (xs (iN + 3)) 0 σ).1) :: []) hC hN hW hS hl cl_L_121 (c_L_member l hl9 D ca base ad σ (xs (iN + 1)) 1 (xs (iN + 3)) 0 hI.1) rfl rfl rfl ⟨Nat.le_of_ble_eq_true rfl, Nat.le_of_ble_eq_true rfl⟩ (Nat.le_of_ble_eq_true rfl) dL_law_230 ⟨by show cells + 4 ≤ 601024; omega, by show slots + 24 ≤ 7293034; omega⟩ (c2 := cells + 4) (s2 := slots + 24) rfl rfl (fun H locs hW hS => ?_)
      refine lv_istore (lv' := [(5, .int ((f_L_member (xs (iN + 1)) 1 (xs (iN + 3)) 0 σ).1)), (4, .int (nI iN)), (3, .ref (ad 90 0)), (2, .ref (ad 8 0)), (1, .ref (ad 7 0)), (0, .ref b)]) hx hb dL_law_233 hl (by decide) rfl (fun ls hl => ?_)
      refine lv_aload_n hx hb dL_law_235 rfl (lv_at hl 3 rfl) ?_
      refine lv_aload_n hx hb dL_law_236 rfl (lv_at hl 5 rfl) ?_
      refine lv_iload hx hb dL_law_237 (lv_at hl 1 rfl) ?_
      refine lv_iconst (v := 1) hx hb dL_law_239 (by decide) ?_
      refine lv_iadd hx hb dL_law_240 ?_
      refine va_sld hx hb hX hbl hbA hS (vp_in_addr (a := 1) (by decide) (by omega) (by omega)) dL_law_241 ?_
      rw [cl_addr (a := 1) (by decide) (by omega)]
      refine lv_aload_n hx hb dL_law_242 rfl (lv_at hl 5 rfl) ?_
      refine lv_iload hx hb dL_law_243 (lv_at hl 1 rfl) ?_
      refine lv_iconst (v := 2) hx hb dL_law_245 (by decide) ?_
      refine lv_iadd hx hb dL_law_246 ?_
      refine va_sld hx hb hX hbl hbA hS (vp_in_addr (a := 2) (by decide) (by omega) (by omega)) dL_law_247 ?_
      rw [cl_addr (a := 2) (by decide) (by omega)]
      refine lv_if_eq (tgt := 255) hx hb dL_law_248 (by decide) (fun c => absurd c c_1) (fun _ => ?_)
      refine lv_iconst (v := 1) hx hb dL_law_251 (by decide) ?_
      refine lv_goto (tgt := 256) hx hb dL_law_252 (by decide) ?_
      refine lv_aload_n hx hb dL_law_256 rfl (lv_at hl 5 rfl) ?_
      refine lv_iload hx hb dL_law_257 (lv_at hl 1 rfl) ?_
      refine lv_iconst (v := 3) hx hb dL_law_259 (by decide) ?_
      refine lv_iadd hx hb dL_law_260 ?_
      refine va_sld hx hb hX hbl hbA hS (vp_in_addr (a := 3) (by decide) (by omega) (by omega)) dL_law_261 ?_
      rw [cl_addr (a := 3) (by decide) (by omega)]
      refine lv_aload_n hx hb dL_law_262 rfl (lv_at hl 5 rfl) ?_
      refine lv_iload hx hb dL_law_263 (lv_at hl 1 rfl) ?_
      refine lv_iconst (v := 4) hx hb dL_law_265 (by decide) ?_
      refine lv_iadd hx hb dL_law_266 ?_
      refine va_sld hx hb hX hbl hbA hS (vp_in_addr (a := 4) (by decide) (by omega) (by omega)) dL_law_267 ?_
      rw [cl_addr (a := 4) (by decide) (by omega)]
      refine lv_if_eq (tgt := 275) hx hb dL_law_268 (by decide) (fun _ => ?_) (fun c => absurd c_13 c)
      refine lv_iconst (v := 0) hx hb dL_law_275 (by decide) ?_
      refine w_callVL (As := [.int (xs (iN + 1)), .int 1, .int (xs (iN + 3)), .int 0]) (rest := []) (st2 := .int ((f_X8_member (xs (iN + 1)) 1 (xs (iN + 3)) 0 ((f_L_member (xs (iN + 1)) 1 (xs (iN + 3)) 0 σ).2)).1) :: []) hC hW hS hl cv_L_126 m_8 (by decide) rfl (c_X8_member l hl9 D ca base ad ((f_L_member (xs (iN + 1)) 1 (xs (iN + 3)) 0 σ).2) (xs (iN + 1)) 1 (xs (iN + 3)) 0 (mi_of hI.2.2.1 (by rw [fr_L_member (by decide) (by decide) (by decide) (by decide)]) (by rw [fr_L_member (by decide) (by decide) (by decide) (by decide)]) (by rw [fr_L_member (by decide) (by decide) (by decide) (by decide)]) (by rw [fr_L_member (by decide) (by decide) (by decide) (by decide)]) (by rw [fr_L_member (by decide) (by decide) (by decide) (by decide)]) (by rw [fr_L_member (by decide) (by decide) (by decide) (by decide)]) (by rw [fr_L_member (by decide) (by decide) (by decide) (by decide)]) (by rw [fr_L_member (by decide) (by decide) (by decide) (by decide)]) (by rw [fr_L_member (by decide) (by decide) (by decide) (by decide)]) (by rw [fr_L_member (by decide) (by decide) (by decide) (by decide)]) (by rw [fr_L_member (by decide) (by decide) (by decide) (by decide)]) (by rw [fr_L_member (by decide) (by decide) (by decide) (by decide)]) (by rw [fr_L_member (by decide) (by decide) (by decide) (by decide)]) (by rw [fr_L_member (by decide) (by decide) (by decide) (by decide)]) (by rw [fr_L_member (by decide) (by decide) (by decide) (by decide)]) (by rw [fr_L_member (by decide) (by decide) (by decide) (by decide)]))) rfl rfl rfl ⟨Nat.le_of_ble_eq_true rfl, Nat.le_of_ble_eq_true rfl⟩ (Nat.le_of_ble_eq_true rfl) dL_law_276 ⟨by show cells + 4 + 0 ≤ 601024; omega, by show slots + 24 + 0 ≤ 7293034; omega⟩ (c2 := cells + 4 + 0) (s2 := slots + 24 + 0) rfl rfl (fun H locs hW hS => ?_)
      refine lv_istore (lv' := [(6, .int ((f_X8_member (xs (iN + 1)) 1 (xs (iN + 3)) 0 ((f_L_member (xs (iN + 1)) 1 (xs (iN + 3)) 0 σ).2)).1)), (5, .int ((f_L_member (xs (iN + 1)) 1 (xs (iN + 3)) 0 σ).1)), (4, .int (nI iN)), (3, .ref (ad 90 0)), (2, .ref (ad 8 0)), (1, .ref (ad 7 0)), (0, .ref b)]) hx hb dL_law_279 hl (by decide) rfl (fun ls hl => ?_)
      refine lv_aload_n hx hb dL_law_281 rfl (lv_at hl 4 rfl) ?_
      refine w_callVL (As := []) (rest := []) (st2 := .int (f_X8_thrown ((f_X8_member (xs (iN + 1)) 1 (xs (iN + 3)) 0 ((f_L_member (xs (iN + 1)) 1 (xs (iN + 3)) 0 σ).2)).2)) :: []) hC hW hS hl cv_L_127 m_8 (by decide) rfl (c_X8_thrown l hl9 D ca base ad ((f_X8_member (xs (iN + 1)) 1 (xs (iN + 3)) 0 ((f_L_member (xs (iN + 1)) 1 (xs (iN + 3)) 0 σ).2)).2) ) rfl rfl rfl ⟨Nat.le_of_ble_eq_true rfl, Nat.le_of_ble_eq_true rfl⟩ (Nat.le_of_ble_eq_true rfl) dL_law_282 ⟨by show cells + 4 + 0 + 0 ≤ 601024; omega, by show slots + 24 + 0 + 0 ≤ 7293034; omega⟩ (c2 := cells + 4 + 0 + 0) (s2 := slots + 24 + 0 + 0) rfl rfl (fun H locs hW hS => ?_)
      refine lv_iload hx hb dL_law_285 (lv_at hl 1 rfl) ?_
      refine lv_icmp_eq (tgt := 292) hx hb dL_law_287 (by decide) (fun c_14 => ?_) (fun c_14 => ?_)
      · refine lv_iload hx hb dL_law_292 (lv_at hl 1 rfl) ?_
        refine lv_if_ne (tgt := 316) hx hb dL_law_294 (by decide) (fun c_15 => ?_) (fun c_15 => ?_)
        · refine lv_goto (tgt := 2689) hx hb dL_law_316 (by decide) ?_
          have hO : g_law_0 xs iN σ = some ((f_X8_member (xs (iN + 1)) 1 (xs (iN + 3)) 0 ((f_L_member (xs (iN + 1)) 1 (xs (iN + 3)) 0 σ).2)).2) := by rw [g_law_0, if_neg c_1, if_pos c_13, if_pos c_14, if_neg c_15]
          obtain ⟨σ9, h9, hR9⟩ := hL2
          rw [hO] at h9
          cases h9
          exact W.widen (by omega) (by omega) (kk _ _ _ _ hR9 hW hS (lv_sub hl [2, 3, 4, 5, 6] rfl))
        · refine lv_aload_n hx hb dL_law_297 rfl (lv_at hl 3 rfl) ?_
          refine lv_iconst (v := 0) hx hb dL_law_298 (by decide) ?_
          refine w_lald hC hW m_90 (vp_lit (by decide)) dL_law_299 ?_
          rw [show Int32.toNatClampNeg 0 = 0 by decide, fr_X8_member (by decide) (by decide) (by decide)]
          refine lv_iload hx hb dL_law_300 (lv_at hl 0 rfl) ?_
          refine lv_if_eq (tgt := 309) hx hb dL_law_302 (by decide) (fun c_16 => ?_) (fun c_16 => ?_)
          · refine lv_lconst (v := 0) hx hb dL_law_309 (by decide) ?_
            refine W.lcmp hx hb dL_law_310 ?_
            refine lv_if_eq (tgt := 316) hx hb dL_law_311 (by decide) (fun c_17 => ?_) (fun c_17 => ?_)
            · refine lv_goto (tgt := 2689) hx hb dL_law_316 (by decide) ?_
              have hO : g_law_0 xs iN σ = some ((f_X8_member (xs (iN + 1)) 1 (xs (iN + 3)) 0 ((f_L_member (xs (iN + 1)) 1 (xs (iN + 3)) 0 σ).2)).2) := by rw [g_law_0, if_neg c_1, if_pos c_13, if_pos c_14, if_pos c_15, if_pos c_16, if_pos c_17]
              obtain ⟨σ9, h9, hR9⟩ := hL2
              rw [hO] at h9
              cases h9
              exact W.widen (by omega) (by omega) (kk _ _ _ _ hR9 hW hS (lv_sub hl [2, 3, 4, 5, 6] rfl))
            · refine lv_iconst (v := 0) hx hb dL_law_314 (by decide) ?_
              have hO : g_law_0 xs iN σ = none := by rw [g_law_0, if_neg c_1, if_pos c_13, if_pos c_14, if_pos c_15, if_pos c_16, if_neg c_17]
              obtain ⟨σ9, h9, hR9⟩ := hL2
              rw [hO] at h9
              cases h9
          · refine lv_lconst (v := 1) hx hb dL_law_305 (by decide) ?_
            refine lv_goto (tgt := 310) hx hb dL_law_306 (by decide) ?_
            refine W.lcmp hx hb dL_law_310 ?_
            refine lv_if_eq (tgt := 316) hx hb dL_law_311 (by decide) (fun c_18 => ?_) (fun c_18 => ?_)
            · refine lv_goto (tgt := 2689) hx hb dL_law_316 (by decide) ?_
              have hO : g_law_0 xs iN σ = some ((f_X8_member (xs (iN + 1)) 1 (xs (iN + 3)) 0 ((f_L_member (xs (iN + 1)) 1 (xs (iN + 3)) 0 σ).2)).2) := by rw [g_law_0, if_neg c_1, if_pos c_13, if_pos c_14, if_pos c_15, if_neg c_16, if_pos c_18]
              obtain ⟨σ9, h9, hR9⟩ := hL2
              rw [hO] at h9
              cases h9
              exact W.widen (by omega) (by omega) (kk _ _ _ _ hR9 hW hS (lv_sub hl [2, 3, 4, 5, 6] rfl))
            · refine lv_iconst (v := 0) hx hb dL_law_314 (by decide) ?_
              have hO : g_law_0 xs iN σ = none := by rw [g_law_0, if_neg c_1, if_pos c_13, if_pos c_14, if_pos c_15, if_neg c_16, if_neg c_18]
              obtain ⟨σ9, h9, hR9⟩ := hL2
              rw [hO] at h9
              cases h9
      · refine lv_iconst (v := 0) hx hb dL_law_290 (by decide) ?_
        have hO : g_law_0 xs iN σ = none := by rw [g_law_0, if_neg c_1, if_pos c_13, if_neg c_14]
        obtain ⟨σ9, h9, hR9⟩ := hL2
        rw [hO] at h9
        cases h9
    · refine lv_iconst (v := 1) hx hb dL_law_224 (by decide) ?_
      refine lv_goto (tgt := 229) hx hb dL_law_225 (by decide) ?_
      refine lv_aload_n hx hb dL_law_229 rfl (lv_at hl 1 rfl) ?_
      refine w_callL (As := [.ref (ad 7 0), .int (xs (iN + 1)), .int 1, .int (xs (iN + 3)), .int 1, .ref (ad 90 0)]) (rest := []) (st2 := .int ((f_L_member (xs (iN + 1)) 1 (xs (iN + 3)) 1 σ).1) :: []) hC hN hW hS hl cl_L_121 (c_L_member l hl9 D ca base ad σ (xs (iN + 1)) 1 (xs (iN + 3)) 1 hI.1) rfl rfl rfl ⟨Nat.le_of_ble_eq_true rfl, Nat.le_of_ble_eq_true rfl⟩ (Nat.le_of_ble_eq_true rfl) dL_law_230 ⟨by show cells + 4 ≤ 601024; omega, by show slots + 24 ≤ 7293034; omega⟩ (c2 := cells + 4) (s2 := slots + 24) rfl rfl (fun H locs hW hS => ?_)
      refine lv_istore (lv' := [(5, .int ((f_L_member (xs (iN + 1)) 1 (xs (iN + 3)) 1 σ).1)), (4, .int (nI iN)), (3, .ref (ad 90 0)), (2, .ref (ad 8 0)), (1, .ref (ad 7 0)), (0, .ref b)]) hx hb dL_law_233 hl (by decide) rfl (fun ls hl => ?_)
      refine lv_aload_n hx hb dL_law_235 rfl (lv_at hl 3 rfl) ?_
      refine lv_aload_n hx hb dL_law_236 rfl (lv_at hl 5 rfl) ?_
      refine lv_iload hx hb dL_law_237 (lv_at hl 1 rfl) ?_
      refine lv_iconst (v := 1) hx hb dL_law_239 (by decide) ?_
      refine lv_iadd hx hb dL_law_240 ?_
      refine va_sld hx hb hX hbl hbA hS (vp_in_addr (a := 1) (by decide) (by omega) (by omega)) dL_law_241 ?_
      rw [cl_addr (a := 1) (by decide) (by omega)]
      refine lv_aload_n hx hb dL_law_242 rfl (lv_at hl 5 rfl) ?_
      refine lv_iload hx hb dL_law_243 (lv_at hl 1 rfl) ?_
      refine lv_iconst (v := 2) hx hb dL_law_245 (by decide) ?_
      refine lv_iadd hx hb dL_law_246 ?_
      refine va_sld hx hb hX hbl hbA hS (vp_in_addr (a := 2) (by decide) (by omega) (by omega)) dL_law_247 ?_
      rw [cl_addr (a := 2) (by decide) (by omega)]
      refine lv_if_eq (tgt := 255) hx hb dL_law_248 (by decide) (fun c => absurd c c_1) (fun _ => ?_)
      refine lv_iconst (v := 1) hx hb dL_law_251 (by decide) ?_
      refine lv_goto (tgt := 256) hx hb dL_law_252 (by decide) ?_
      refine lv_aload_n hx hb dL_law_256 rfl (lv_at hl 5 rfl) ?_
      refine lv_iload hx hb dL_law_257 (lv_at hl 1 rfl) ?_
      refine lv_iconst (v := 3) hx hb dL_law_259 (by decide) ?_
      refine lv_iadd hx hb dL_law_260 ?_
      refine va_sld hx hb hX hbl hbA hS (vp_in_addr (a := 3) (by decide) (by omega) (by omega)) dL_law_261 ?_
      rw [cl_addr (a := 3) (by decide) (by omega)]
      refine lv_aload_n hx hb dL_law_262 rfl (lv_at hl 5 rfl) ?_
      refine lv_iload hx hb dL_law_263 (lv_at hl 1 rfl) ?_
      refine lv_iconst (v := 4) hx hb dL_law_265 (by decide) ?_
      refine lv_iadd hx hb dL_law_266 ?_
      refine va_sld hx hb hX hbl hbA hS (vp_in_addr (a := 4) (by decide) (by omega) (by omega)) dL_law_267 ?_
      rw [cl_addr (a := 4) (by decide) (by omega)]
      refine lv_if_eq (tgt := 275) hx hb dL_law_268 (by decide) (fun c => absurd c c_13) (fun _ => ?_)
      refine lv_iconst (v := 1) hx hb dL_law_271 (by decide) ?_
      refine lv_goto (tgt := 276) hx hb dL_law_272 (by decide) ?_
      refine w_callVL (As := [.int (xs (iN + 1)), .int 1, .int (xs (iN + 3)), .int 1]) (rest := []) (st2 := .int ((f_X8_member (xs (iN + 1)) 1 (xs (iN + 3)) 1 ((f_L_member (xs (iN + 1)) 1 (xs (iN + 3)) 1 σ).2)).1) :: []) hC hW hS hl cv_L_126 m_8 (by decide) rfl (c_X8_member l hl9 D ca base ad ((f_L_member (xs (iN + 1)) 1 (xs (iN + 3)) 1 σ).2) (xs (iN + 1)) 1 (xs (iN + 3)) 1 (mi_of hI.2.2.1 (by rw [fr_L_member (by decide) (by decide) (by decide) (by decide)]) (by rw [fr_L_member (by decide) (by decide) (by decide) (by decide)]) (by rw [fr_L_member (by decide) (by decide) (by decide) (by decide)]) (by rw [fr_L_member (by decide) (by decide) (by decide) (by decide)]) (by rw [fr_L_member (by decide) (by decide) (by decide) (by decide)]) (by rw [fr_L_member (by decide) (by decide) (by decide) (by decide)]) (by rw [fr_L_member (by decide) (by decide) (by decide) (by decide)]) (by rw [fr_L_member (by decide) (by decide) (by decide) (by decide)]) (by rw [fr_L_member (by decide) (by decide) (by decide) (by decide)]) (by rw [fr_L_member (by decide) (by decide) (by decide) (by decide)]) (by rw [fr_L_member (by decide) (by decide) (by decide) (by decide)]) (by rw [fr_L_member (by decide) (by decide) (by decide) (by decide)]) (by rw [fr_L_member (by decide) (by decide) (by decide) (by decide)]) (by rw [fr_L_member (by decide) (by decide) (by decide) (by decide)]) (by rw [fr_L_member (by decide) (by decide) (by decide) (by decide)]) (by rw [fr_L_member (by decide) (by decide) (by decide) (by decide)]))) rfl rfl rfl ⟨Nat.le_of_ble_eq_true rfl, Nat.le_of_ble_eq_true rfl⟩ (Nat.le_of_ble_eq_true rfl) dL_law_276 ⟨by show cells + 4 + 0 ≤ 601024; omega, by show slots + 24 + 0 ≤ 7293034; omega⟩ (c2 := cells + 4 + 0) (s2 := slots + 24 + 0) rfl rfl (fun H locs hW hS => ?_)
      refine lv_istore (lv' := [(6, .int ((f_X8_member (xs (iN + 1)) 1 (xs (iN + 3)) 1 ((f_L_member (xs (iN + 1)) 1 (xs (iN + 3)) 1 σ).2)).1)), (5, .int ((f_L_member (xs (iN + 1)) 1 (xs (iN + 3)) 1 σ).1)), (4, .int (nI iN)), (3, .ref (ad 90 0)), (2, .ref (ad 8 0)), (1, .ref (ad 7 0)), (0, .ref b)]) hx hb dL_law_279 hl (by decide) rfl (fun ls hl => ?_)
      refine lv_aload_n hx hb dL_law_281 rfl (lv_at hl 4 rfl) ?_
      refine w_callVL (As := []) (rest := []) (st2 := .int (f_X8_thrown ((f_X8_member (xs (iN + 1)) 1 (xs (iN + 3)) 1 ((f_L_member (xs (iN + 1)) 1 (xs (iN + 3)) 1 σ).2)).2)) :: []) hC hW hS hl cv_L_127 m_8 (by decide) rfl (c_X8_thrown l hl9 D ca base ad ((f_X8_member (xs (iN + 1)) 1 (xs (iN + 3)) 1 ((f_L_member (xs (iN + 1)) 1 (xs (iN + 3)) 1 σ).2)).2) ) rfl rfl rfl ⟨Nat.le_of_ble_eq_true rfl, Nat.le_of_ble_eq_true rfl⟩ (Nat.le_of_ble_eq_true rfl) dL_law_282 ⟨by show cells + 4 + 0 + 0 ≤ 601024; omega, by show slots + 24 + 0 + 0 ≤ 7293034; omega⟩ (c2 := cells + 4 + 0 + 0) (s2 := slots + 24 + 0 + 0) rfl rfl (fun H locs hW hS => ?_)
      refine lv_iload hx hb dL_law_285 (lv_at hl 1 rfl) ?_
      refine lv_icmp_eq (tgt := 292) hx hb dL_law_287 (by decide) (fun c_19 => ?_) (fun c_19 => ?_)
      · refine lv_iload hx hb dL_law_292 (lv_at hl 1 rfl) ?_
        refine lv_if_ne (tgt := 316) hx hb dL_law_294 (by decide) (fun c_20 => ?_) (fun c_20 => ?_)
        · refine lv_goto (tgt := 2689) hx hb dL_law_316 (by decide) ?_
          have hO : g_law_0 xs iN σ = some ((f_X8_member (xs (iN + 1)) 1 (xs (iN + 3)) 1 ((f_L_member (xs (iN + 1)) 1 (xs (iN + 3)) 1 σ).2)).2) := by rw [g_law_0, if_neg c_1, if_neg c_13, if_pos c_19, if_neg c_20]
          obtain ⟨σ9, h9, hR9⟩ := hL2
          rw [hO] at h9
          cases h9
          exact W.widen (by omega) (by omega) (kk _ _ _ _ hR9 hW hS (lv_sub hl [2, 3, 4, 5, 6] rfl))
        · refine lv_aload_n hx hb dL_law_297 rfl (lv_at hl 3 rfl) ?_
          refine lv_iconst (v := 0) hx hb dL_law_298 (by decide) ?_
          refine w_lald hC hW m_90 (vp_lit (by decide)) dL_law_299 ?_
          rw [show Int32.toNatClampNeg 0 = 0 by decide, fr_X8_member (by decide) (by decide) (by decide)]
          refine lv_iload hx hb dL_law_300 (lv_at hl 0 rfl) ?_
          refine lv_if_eq (tgt := 309) hx hb dL_law_302 (by decide) (fun c_21 => ?_) (fun c_21 => ?_)
          · refine lv_lconst (v := 0) hx hb dL_law_309 (by decide) ?_
            refine W.lcmp hx hb dL_law_310 ?_
            refine lv_if_eq (tgt := 316) hx hb dL_law_311 (by decide) (fun c_22 => ?_) (fun c_22 => ?_)
            · refine lv_goto (tgt := 2689) hx hb dL_law_316 (by decide) ?_
              have hO : g_law_0 xs iN σ = some ((f_X8_member (xs (iN + 1)) 1 (xs (iN + 3)) 1 ((f_L_member (xs (iN + 1)) 1 (xs (iN + 3)) 1 σ).2)).2) := by rw [g_law_0, if_neg c_1, if_neg c_13, if_pos c_19, if_pos c_20, if_pos c_21, if_pos c_22]
              obtain ⟨σ9, h9, hR9⟩ := hL2
              rw [hO] at h9
              cases h9
              exact W.widen (by omega) (by omega) (kk _ _ _ _ hR9 hW hS (lv_sub hl [2, 3, 4, 5, 6] rfl))
            · refine lv_iconst (v := 0) hx hb dL_law_314 (by decide) ?_
              have hO : g_law_0 xs iN σ = none := by rw [g_law_0, if_neg c_1, if_neg c_13, if_pos c_19, if_pos c_20, if_pos c_21, if_neg c_22]
              obtain ⟨σ9, h9, hR9⟩ := hL2
              rw [hO] at h9
              cases h9
          · refine lv_lconst (v := 1) hx hb dL_law_305 (by decide) ?_
            refine lv_goto (tgt := 310) hx hb dL_law_306 (by decide) ?_
            refine W.lcmp hx hb dL_law_310 ?_
            refine lv_if_eq (tgt := 316) hx hb dL_law_311 (by decide) (fun c_23 => ?_) (fun c_23 => ?_)
            · refine lv_goto (tgt := 2689) hx hb dL_law_316 (by decide) ?_
              have hO : g_law_0 xs iN σ = some ((f_X8_member (xs (iN + 1)) 1 (xs (iN + 3)) 1 ((f_L_member (xs (iN + 1)) 1 (xs (iN + 3)) 1 σ).2)).2) := by rw [g_law_0, if_neg c_1, if_neg c_13, if_pos c_19, if_pos c_20, if_neg c_21, if_pos c_23]
              obtain ⟨σ9, h9, hR9⟩ := hL2
              rw [hO] at h9
              cases h9
              exact W.widen (by omega) (by omega) (kk _ _ _ _ hR9 hW hS (lv_sub hl [2, 3, 4, 5, 6] rfl))
            · refine lv_iconst (v := 0) hx hb dL_law_314 (by decide) ?_
              have hO : g_law_0 xs iN σ = none := by rw [g_law_0, if_neg c_1, if_neg c_13, if_pos c_19, if_pos c_20, if_neg c_21, if_neg c_23]
              obtain ⟨σ9, h9, hR9⟩ := hL2
              rw [hO] at h9
              cases h9
      · refine lv_iconst (v := 0) hx hb dL_law_290 (by decide) ?_
        have hO : g_law_0 xs iN σ = none := by rw [g_law_0, if_neg c_1, if_neg c_13, if_neg c_19]
        obtain ⟨σ9, h9, hR9⟩ := hL2
        rw [hO] at h9
        cases h9
def g_law_1 (xs : Nat → Int32) (iN : Nat) (σ : Sg) : Option Sg :=
  if (f_X8_thrown ((f_X8_groups (xs (iN + 1)) ((f_L_groups (xs (iN + 1)) σ).2)).2)) = ((f_L_groups (xs (iN + 1)) σ).1) then (if ((f_L_groups (xs (iN + 1)) σ).1) = 0 then (if (lg_cmp ((((f_L_groups (xs (iN + 1)) σ).2) 90 0 0).toInt64) (((f_X8_groups (xs (iN + 1)) ((f_L_groups (xs (iN + 1)) σ).2)).1).toInt64)) = 0 then some ((f_X8_groups (xs (iN + 1)) ((f_L_groups (xs (iN + 1)) σ).2)).2)
      else none)
    else some ((f_X8_groups (xs (iN + 1)) ((f_L_groups (xs (iN + 1)) σ).2)).2))
  else none
set_option maxHeartbeats 4000000 in
set_option maxRecDepth 100000 in
theorem lc_1 {p : Program} {l : Launch} (hl9 : l.stackTraces = false) {e : Env} {s : State} {m : MethodId} {below : List Frame} {meth : Method} {c : Code} {b L : Nat} {xs : Nat → Int32} {D : va_G} {ca : Nat → ClassId} {base : Nat} {ad : Adr} {Q : State → Prop} {iN : Nat} {σ : Sg} {H : Heap} {locs : List Loc} {cells slots : Nat} {ls : Array Slot} (RR : Sg → Prop) (hC : Cx p s m #[Value.ref b] meth c code 7 RL ret D ca base) (hN : Nx s) (hX : va_X b L xs s s.heap) (hbl : b < s.heap.size) (hbA : ¬ Ab base b) (hi7 : iN + 7 ≤ L) (hL9 : L ≤ 3584) (hc : cells + 40 ≤ 601024) (hs : slots + 240 ≤ 7293034) (hI : LInv σ) (hL2 : ∃ σ', g_law_1 xs iN σ = some σ' ∧ RR σ') (hW : Wd D ca (Ab base) ad ρm Lm σ H) (hS : va_S (Ab base) s.heap H locs) (hl : lv_has ls 7 [(4, .int (nI iN)), (3, .ref (ad 90 0)), (2, .ref (ad 8 0)), (1, .ref (ad 7 0)), (0, .ref b)])
    (kk : ∀ (σ' : Sg) (H1 : Heap) (locs1 : List Loc) (ls1 : Array Slot), RR σ' → Wd D ca (Ab base) ad ρm Lm σ' H1 → va_S (Ab base) s.heap H1 locs1 → lv_has ls1 7 [(4, .int (nI iN)), (3, .ref (ad 90 0)), (2, .ref (ad 8 0)), (1, .ref (ad 7 0)), (0, .ref b)] → W p l e room_1 s m #[Value.ref b] below meth c H1 locs1 (cells + 40) (slots + 240) Q (F0 m 2689 ls1 [])) : W p l e room_1 s m #[Value.ref b] below meth c H locs cells slots Q (F0 m 319 ls []) := by
  have hx := hC.1
  have hb := hC.2.1
  refine lv_aload_n hx hb dL_law_319 rfl (lv_at hl 3 rfl) ?_
  refine lv_aload_n hx hb dL_law_320 rfl (lv_at hl 4 rfl) ?_
  refine lv_iload hx hb dL_law_321 (lv_at hl 0 rfl) ?_
  refine lv_iconst (v := 1) hx hb dL_law_323 (by decide) ?_
  refine lv_iadd hx hb dL_law_324 ?_
  refine va_sld hx hb hX hbl hbA hS (vp_in_addr (a := 1) (by decide) (by omega) (by omega)) dL_law_325 ?_
  rw [cl_addr (a := 1) (by decide) (by omega)]
  refine lv_aload_n hx hb dL_law_326 rfl (lv_at hl 1 rfl) ?_
  refine w_callL (As := [.ref (ad 7 0), .int (xs (iN + 1)), .ref (ad 90 0)]) (rest := []) (st2 := .int ((f_L_groups (xs (iN + 1)) σ).1) :: []) hC hN hW hS hl cl_L_131 (c_L_groups l hl9 D ca base ad σ (xs (iN + 1)) hI.1) rfl rfl rfl ⟨Nat.le_of_ble_eq_true rfl, Nat.le_of_ble_eq_true rfl⟩ (Nat.le_of_ble_eq_true rfl) dL_law_327 ⟨by show cells + 1 ≤ 601024; omega, by show slots + 6 ≤ 7293034; omega⟩ (c2 := cells + 1) (s2 := slots + 6) rfl rfl (fun H locs hW hS => ?_)
  refine lv_istore (lv' := [(5, .int ((f_L_groups (xs (iN + 1)) σ).1)), (4, .int (nI iN)), (3, .ref (ad 90 0)), (2, .ref (ad 8 0)), (1, .ref (ad 7 0)), (0, .ref b)]) hx hb dL_law_330 hl (by decide) rfl (fun ls hl => ?_)
  refine lv_aload_n hx hb dL_law_332 rfl (lv_at hl 3 rfl) ?_
  refine lv_aload_n hx hb dL_law_333 rfl (lv_at hl 5 rfl) ?_
  refine lv_iload hx hb dL_law_334 (lv_at hl 1 rfl) ?_
  refine lv_iconst (v := 1) hx hb dL_law_336 (by decide) ?_
  refine lv_iadd hx hb dL_law_337 ?_
  refine va_sld hx hb hX hbl hbA hS (vp_in_addr (a := 1) (by decide) (by omega) (by omega)) dL_law_338 ?_
  rw [cl_addr (a := 1) (by decide) (by omega)]
  refine w_callVL (As := [.int (xs (iN + 1))]) (rest := []) (st2 := .int ((f_X8_groups (xs (iN + 1)) ((f_L_groups (xs (iN + 1)) σ).2)).1) :: []) hC hW hS hl cv_L_134 m_8 (by decide) rfl (c_X8_groups l hl9 D ca base ad ((f_L_groups (xs (iN + 1)) σ).2) (xs (iN + 1)) (mi_of hI.2.2.1 (by rw [fr_L_groups (by decide)]) (by rw [fr_L_groups (by decide)]) (by rw [fr_L_groups (by decide)]) (by rw [fr_L_groups (by decide)]) (by rw [fr_L_groups (by decide)]) (by rw [fr_L_groups (by decide)]) (by rw [fr_L_groups (by decide)]) (by rw [fr_L_groups (by decide)]) (by rw [fr_L_groups (by decide)]) (by rw [fr_L_groups (by decide)]) (by rw [fr_L_groups (by decide)]) (by rw [fr_L_groups (by decide)]) (by rw [fr_L_groups (by decide)]) (by rw [fr_L_groups (by decide)]) (by rw [fr_L_groups (by decide)]) (by rw [fr_L_groups (by decide)]))) rfl rfl rfl ⟨Nat.le_of_ble_eq_true rfl, Nat.le_of_ble_eq_true rfl⟩ (Nat.le_of_ble_eq_true rfl) dL_law_339 ⟨by show cells + 1 + 0 ≤ 601024; omega, by show slots + 6 + 0 ≤ 7293034; omega⟩ (c2 := cells + 1 + 0) (s2 := slots + 6 + 0) rfl rfl (fun H locs hW hS => ?_)
  refine lv_istore (lv' := [(6, .int ((f_X8_groups (xs (iN + 1)) ((f_L_groups (xs (iN + 1)) σ).2)).1)), (5, .int ((f_L_groups (xs (iN + 1)) σ).1)), (4, .int (nI iN)), (3, .ref (ad 90 0)), (2, .ref (ad 8 0)), (1, .ref (ad 7 0)), (0, .ref b)]) hx hb dL_law_342 hl (by decide) rfl (fun ls hl => ?_)
  refine lv_aload_n hx hb dL_law_344 rfl (lv_at hl 4 rfl) ?_
  refine w_callVL (As := []) (rest := []) (st2 := .int (f_X8_thrown ((f_X8_groups (xs (iN + 1)) ((f_L_groups (xs (iN + 1)) σ).2)).2)) :: []) hC hW hS hl cv_L_127 m_8 (by decide) rfl (c_X8_thrown l hl9 D ca base ad ((f_X8_groups (xs (iN + 1)) ((f_L_groups (xs (iN + 1)) σ).2)).2) ) rfl rfl rfl ⟨Nat.le_of_ble_eq_true rfl, Nat.le_of_ble_eq_true rfl⟩ (Nat.le_of_ble_eq_true rfl) dL_law_345 ⟨by show cells + 1 + 0 + 0 ≤ 601024; omega, by show slots + 6 + 0 + 0 ≤ 7293034; omega⟩ (c2 := cells + 1 + 0 + 0) (s2 := slots + 6 + 0 + 0) rfl rfl (fun H locs hW hS => ?_)
  refine lv_iload hx hb dL_law_348 (lv_at hl 1 rfl) ?_
  refine lv_icmp_eq (tgt := 355) hx hb dL_law_350 (by decide) (fun c_1 => ?_) (fun c_1 => ?_)
  · refine lv_iload hx hb dL_law_355 (lv_at hl 1 rfl) ?_
    refine lv_if_ne (tgt := 372) hx hb dL_law_357 (by decide) (fun c_2 => ?_) (fun c_2 => ?_)
    · refine lv_goto (tgt := 2689) hx hb dL_law_372 (by decide) ?_
      have hO : g_law_1 xs iN σ = some ((f_X8_groups (xs (iN + 1)) ((f_L_groups (xs (iN + 1)) σ).2)).2) := by rw [g_law_1, if_pos c_1, if_neg c_2]
      obtain ⟨σ9, h9, hR9⟩ := hL2
      rw [hO] at h9
      cases h9
      exact W.widen (by omega) (by omega) (kk _ _ _ _ hR9 hW hS (lv_sub hl [2, 3, 4, 5, 6] rfl))
    · refine lv_aload_n hx hb dL_law_360 rfl (lv_at hl 3 rfl) ?_
      refine lv_iconst (v := 0) hx hb dL_law_361 (by decide) ?_
      refine w_lald hC hW m_90 (vp_lit (by decide)) dL_law_362 ?_
      rw [show Int32.toNatClampNeg 0 = 0 by decide, fr_X8_groups (by decide)]
      refine lv_iload hx hb dL_law_363 (lv_at hl 0 rfl) ?_
      refine lv_i2l hx hb dL_law_365 rfl ?_
      refine W.lcmp hx hb dL_law_366 ?_
      refine lv_if_eq (tgt := 372) hx hb dL_law_367 (by decide) (fun c_3 => ?_) (fun c_3 => ?_)
      · refine lv_goto (tgt := 2689) hx hb dL_law_372 (by decide) ?_
        have hO : g_law_1 xs iN σ = some ((f_X8_groups (xs (iN + 1)) ((f_L_groups (xs (iN + 1)) σ).2)).2) := by rw [g_law_1, if_pos c_1, if_pos c_2, if_pos c_3]
        obtain ⟨σ9, h9, hR9⟩ := hL2
        rw [hO] at h9
        cases h9
        exact W.widen (by omega) (by omega) (kk _ _ _ _ hR9 hW hS (lv_sub hl [2, 3, 4, 5, 6] rfl))
      · refine lv_iconst (v := 0) hx hb dL_law_370 (by decide) ?_
        have hO : g_law_1 xs iN σ = none := by rw [g_law_1, if_pos c_1, if_pos c_2, if_neg c_3]
        obtain ⟨σ9, h9, hR9⟩ := hL2
        rw [hO] at h9
        cases h9
  · refine lv_iconst (v := 0) hx hb dL_law_353 (by decide) ?_
    have hO : g_law_1 xs iN σ = none := by rw [g_law_1, if_neg c_1]
    obtain ⟨σ9, h9, hR9⟩ := hL2
    rw [hO] at h9
    cases h9
def g_law_2 (xs : Nat → Int32) (iN : Nat) (σ : Sg) : Option Sg :=
  if (f_X8_thrown ((f_X8_thing (xs (iN + 1)) (xs (iN + 2)) (xs (iN + 3)) (xs (iN + 4)) ((f_L_thing (xs (iN + 1)) (xs (iN + 2)) (xs (iN + 3)) (xs (iN + 4)) σ).2)).2)) = ((f_L_thing (xs (iN + 1)) (xs (iN + 2)) (xs (iN + 3)) (xs (iN + 4)) σ).1) then (if ((f_L_thing (xs (iN + 1)) (xs (iN + 2)) (xs (iN + 3)) (xs (iN + 4)) σ).1) = 0 then (if (lg_cmp ((((f_L_thing (xs (iN + 1)) (xs (iN + 2)) (xs (iN + 3)) (xs (iN + 4)) σ).2) 90 0 0).toInt64) (((f_X8_thing (xs (iN + 1)) (xs (iN + 2)) (xs (iN + 3)) (xs (iN + 4)) ((f_L_thing (xs (iN + 1)) (xs (iN + 2)) (xs (iN + 3)) (xs (iN + 4)) σ).2)).1).toInt64)) = 0 then some ((f_X8_thing (xs (iN + 1)) (xs (iN + 2)) (xs (iN + 3)) (xs (iN + 4)) ((f_L_thing (xs (iN + 1)) (xs (iN + 2)) (xs (iN + 3)) (xs (iN + 4)) σ).2)).2)
      else none)
    else some ((f_X8_thing (xs (iN + 1)) (xs (iN + 2)) (xs (iN + 3)) (xs (iN + 4)) ((f_L_thing (xs (iN + 1)) (xs (iN + 2)) (xs (iN + 3)) (xs (iN + 4)) σ).2)).2))
  else none
set_option maxHeartbeats 4000000 in
set_option maxRecDepth 100000 in
theorem lc_2 {p : Program} {l : Launch} (hl9 : l.stackTraces = false) {e : Env} {s : State} {m : MethodId} {below : List Frame} {meth : Method} {c : Code} {b L : Nat} {xs : Nat → Int32} {D : va_G} {ca : Nat → ClassId} {base : Nat} {ad : Adr} {Q : State → Prop} {iN : Nat} {σ : Sg} {H : Heap} {locs : List Loc} {cells slots : Nat} {ls : Array Slot} (RR : Sg → Prop) (hC : Cx p s m #[Value.ref b] meth c code 7 RL ret D ca base) (hN : Nx s) (hX : va_X b L xs s s.heap) (hbl : b < s.heap.size) (hbA : ¬ Ab base b) (hi7 : iN + 7 ≤ L) (hL9 : L ≤ 3584) (hc : cells + 40 ≤ 601024) (hs : slots + 240 ≤ 7293034) (hI : LInv σ) (hL2 : ∃ σ', g_law_2 xs iN σ = some σ' ∧ RR σ') (hW : Wd D ca (Ab base) ad ρm Lm σ H) (hS : va_S (Ab base) s.heap H locs) (hl : lv_has ls 7 [(4, .int (nI iN)), (3, .ref (ad 90 0)), (2, .ref (ad 8 0)), (1, .ref (ad 7 0)), (0, .ref b)])
    (kk : ∀ (σ' : Sg) (H1 : Heap) (locs1 : List Loc) (ls1 : Array Slot), RR σ' → Wd D ca (Ab base) ad ρm Lm σ' H1 → va_S (Ab base) s.heap H1 locs1 → lv_has ls1 7 [(4, .int (nI iN)), (3, .ref (ad 90 0)), (2, .ref (ad 8 0)), (1, .ref (ad 7 0)), (0, .ref b)] → W p l e room_1 s m #[Value.ref b] below meth c H1 locs1 (cells + 40) (slots + 240) Q (F0 m 2689 ls1 [])) : W p l e room_1 s m #[Value.ref b] below meth c H locs cells slots Q (F0 m 375 ls []) := by
  have hx := hC.1
  have hb := hC.2.1
  refine lv_aload_n hx hb dL_law_375 rfl (lv_at hl 3 rfl) ?_
  refine lv_aload_n hx hb dL_law_376 rfl (lv_at hl 4 rfl) ?_
  refine lv_iload hx hb dL_law_377 (lv_at hl 0 rfl) ?_
  refine lv_iconst (v := 1) hx hb dL_law_379 (by decide) ?_
  refine lv_iadd hx hb dL_law_380 ?_
  refine va_sld hx hb hX hbl hbA hS (vp_in_addr (a := 1) (by decide) (by omega) (by omega)) dL_law_381 ?_
  rw [cl_addr (a := 1) (by decide) (by omega)]
  refine lv_aload_n hx hb dL_law_382 rfl (lv_at hl 4 rfl) ?_
  refine lv_iload hx hb dL_law_383 (lv_at hl 0 rfl) ?_
  refine lv_iconst (v := 2) hx hb dL_law_385 (by decide) ?_
  refine lv_iadd hx hb dL_law_386 ?_
  refine va_sld hx hb hX hbl hbA hS (vp_in_addr (a := 2) (by decide) (by omega) (by omega)) dL_law_387 ?_
  rw [cl_addr (a := 2) (by decide) (by omega)]
  refine lv_aload_n hx hb dL_law_388 rfl (lv_at hl 4 rfl) ?_
  refine lv_iload hx hb dL_law_389 (lv_at hl 0 rfl) ?_
  refine lv_iconst (v := 3) hx hb dL_law_391 (by decide) ?_
  refine lv_iadd hx hb dL_law_392 ?_
  refine va_sld hx hb hX hbl hbA hS (vp_in_addr (a := 3) (by decide) (by omega) (by omega)) dL_law_393 ?_
  rw [cl_addr (a := 3) (by decide) (by omega)]
  refine lv_aload_n hx hb dL_law_394 rfl (lv_at hl 4 rfl) ?_
  refine lv_iload hx hb dL_law_395 (lv_at hl 0 rfl) ?_
  refine lv_iconst (v := 4) hx hb dL_law_397 (by decide) ?_
  refine lv_iadd hx hb dL_law_398 ?_
  refine va_sld hx hb hX hbl hbA hS (vp_in_addr (a := 4) (by decide) (by omega) (by omega)) dL_law_399 ?_
  rw [cl_addr (a := 4) (by decide) (by omega)]
  refine lv_aload_n hx hb dL_law_400 rfl (lv_at hl 1 rfl) ?_
  refine w_callL (As := [.ref (ad 7 0), .int (xs (iN + 1)), .int (xs (iN + 2)), .int (xs (iN + 3)), .int (xs (iN + 4)), .ref (ad 90 0)]) (rest := []) (st2 := .int ((f_L_thing (xs (iN + 1)) (xs (iN + 2)) (xs (iN + 3)) (xs (iN + 4)) σ).1) :: []) hC hN hW hS hl cl_L_135 (c_L_thing l hl9 D ca base ad σ (xs (iN + 1)) (xs (iN + 2)) (xs (iN + 3)) (xs (iN + 4)) hI.1) rfl rfl rfl ⟨Nat.le_of_ble_eq_true rfl, Nat.le_of_ble_eq_true rfl⟩ (Nat.le_of_ble_eq_true rfl) dL_law_401 ⟨by show cells + 7 ≤ 601024; omega, by show slots + 42 ≤ 7293034; omega⟩ (c2 := cells + 7) (s2 := slots + 42) rfl rfl (fun H locs hW hS => ?_)
  refine lv_istore (lv' := [(5, .int ((f_L_thing (xs (iN + 1)) (xs (iN + 2)) (xs (iN + 3)) (xs (iN + 4)) σ).1)), (4, .int (nI iN)), (3, .ref (ad 90 0)), (2, .ref (ad 8 0)), (1, .ref (ad 7 0)), (0, .ref b)]) hx hb dL_law_404 hl (by decide) rfl (fun ls hl => ?_)
  refine lv_aload_n hx hb dL_law_406 rfl (lv_at hl 3 rfl) ?_
  refine lv_aload_n hx hb dL_law_407 rfl (lv_at hl 5 rfl) ?_
  refine lv_iload hx hb dL_law_408 (lv_at hl 1 rfl) ?_
  refine lv_iconst (v := 1) hx hb dL_law_410 (by decide) ?_
  refine lv_iadd hx hb dL_law_411 ?_
  refine va_sld hx hb hX hbl hbA hS (vp_in_addr (a := 1) (by decide) (by omega) (by omega)) dL_law_412 ?_
  rw [cl_addr (a := 1) (by decide) (by omega)]
  refine lv_aload_n hx hb dL_law_413 rfl (lv_at hl 5 rfl) ?_
  refine lv_iload hx hb dL_law_414 (lv_at hl 1 rfl) ?_
  refine lv_iconst (v := 2) hx hb dL_law_416 (by decide) ?_
  refine lv_iadd hx hb dL_law_417 ?_
  refine va_sld hx hb hX hbl hbA hS (vp_in_addr (a := 2) (by decide) (by omega) (by omega)) dL_law_418 ?_
  rw [cl_addr (a := 2) (by decide) (by omega)]
  refine lv_aload_n hx hb dL_law_419 rfl (lv_at hl 5 rfl) ?_
  refine lv_iload hx hb dL_law_420 (lv_at hl 1 rfl) ?_
  refine lv_iconst (v := 3) hx hb dL_law_422 (by decide) ?_
  refine lv_iadd hx hb dL_law_423 ?_
  refine va_sld hx hb hX hbl hbA hS (vp_in_addr (a := 3) (by decide) (by omega) (by omega)) dL_law_424 ?_
  rw [cl_addr (a := 3) (by decide) (by omega)]
  refine lv_aload_n hx hb dL_law_425 rfl (lv_at hl 5 rfl) ?_
  refine lv_iload hx hb dL_law_426 (lv_at hl 1 rfl) ?_
  refine lv_iconst (v := 4) hx hb dL_law_428 (by decide) ?_
  refine lv_iadd hx hb dL_law_429 ?_
  refine va_sld hx hb hX hbl hbA hS (vp_in_addr (a := 4) (by decide) (by omega) (by omega)) dL_law_430 ?_
  rw [cl_addr (a := 4) (by decide) (by omega)]
  refine w_callVL (As := [.int (xs (iN + 1)), .int (xs (iN + 2)), .int (xs (iN + 3)), .int (xs (iN + 4))]) (rest := []) (st2 := .int ((f_X8_thing (xs (iN + 1)) (xs (iN + 2)) (xs (iN + 3)) (xs (iN + 4)) ((f_L_thing (xs (iN + 1)) (xs (iN + 2)) (xs (iN + 3)) (xs (iN + 4)) σ).2)).1) :: []) hC hW hS hl cv_L_138 m_8 (by decide) rfl (c_X8_thing l hl9 D ca base ad ((f_L_thing (xs (iN + 1)) (xs (iN + 2)) (xs (iN + 3)) (xs (iN + 4)) σ).2) (xs (iN + 1)) (xs (iN + 2)) (xs (iN + 3)) (xs (iN + 4)) (mi_of hI.2.2.1 (by rw [fr_L_thing (by decide) (by decide) (by decide) (by decide)]) (by rw [fr_L_thing (by decide) (by decide) (by decide) (by decide)]) (by rw [fr_L_thing (by decide) (by decide) (by decide) (by decide)]) (by rw [fr_L_thing (by decide) (by decide) (by decide) (by decide)]) (by rw [fr_L_thing (by decide) (by decide) (by decide) (by decide)]) (by rw [fr_L_thing (by decide) (by decide) (by decide) (by decide)]) (by rw [fr_L_thing (by decide) (by decide) (by decide) (by decide)]) (by rw [fr_L_thing (by decide) (by decide) (by decide) (by decide)]) (by rw [fr_L_thing (by decide) (by decide) (by decide) (by decide)]) (by rw [fr_L_thing (by decide) (by decide) (by decide) (by decide)]) (by rw [fr_L_thing (by decide) (by decide) (by decide) (by decide)]) (by rw [fr_L_thing (by decide) (by decide) (by decide) (by decide)]) (by rw [fr_L_thing (by decide) (by decide) (by decide) (by decide)]) (by rw [fr_L_thing (by decide) (by decide) (by decide) (by decide)]) (by rw [fr_L_thing (by decide) (by decide) (by decide) (by decide)]) (by rw [fr_L_thing (by decide) (by decide) (by decide) (by decide)])) (bz_fr hI.2.2.2.1 (by rw [fr_L_thing (by decide) (by decide) (by decide) (by decide)]) (by rw [fr_L_thing (by decide) (by decide) (by decide) (by decide)])) (by rw [fr_L_thing (by decide) (by decide) (by decide) (by decide), fr_L_thing (by decide) (by decide) (by decide) (by decide)]; exact hI.2.2.2.2)) rfl rfl rfl ⟨Nat.le_of_ble_eq_true rfl, Nat.le_of_ble_eq_true rfl⟩ (Nat.le_of_ble_eq_true rfl) dL_law_431 ⟨by show cells + 7 + 0 ≤ 601024; omega, by show slots + 42 + 0 ≤ 7293034; omega⟩ (c2 := cells + 7 + 0) (s2 := slots + 42 + 0) rfl rfl (fun H locs hW hS => ?_)
  refine lv_istore (lv' := [(6, .int ((f_X8_thing (xs (iN + 1)) (xs (iN + 2)) (xs (iN + 3)) (xs (iN + 4)) ((f_L_thing (xs (iN + 1)) (xs (iN + 2)) (xs (iN + 3)) (xs (iN + 4)) σ).2)).1)), (5, .int ((f_L_thing (xs (iN + 1)) (xs (iN + 2)) (xs (iN + 3)) (xs (iN + 4)) σ).1)), (4, .int (nI iN)), (3, .ref (ad 90 0)), (2, .ref (ad 8 0)), (1, .ref (ad 7 0)), (0, .ref b)]) hx hb dL_law_434 hl (by decide) rfl (fun ls hl => ?_)
  refine lv_aload_n hx hb dL_law_436 rfl (lv_at hl 4 rfl) ?_
  refine w_callVL (As := []) (rest := []) (st2 := .int (f_X8_thrown ((f_X8_thing (xs (iN + 1)) (xs (iN + 2)) (xs (iN + 3)) (xs (iN + 4)) ((f_L_thing (xs (iN + 1)) (xs (iN + 2)) (xs (iN + 3)) (xs (iN + 4)) σ).2)).2)) :: []) hC hW hS hl cv_L_127 m_8 (by decide) rfl (c_X8_thrown l hl9 D ca base ad ((f_X8_thing (xs (iN + 1)) (xs (iN + 2)) (xs (iN + 3)) (xs (iN + 4)) ((f_L_thing (xs (iN + 1)) (xs (iN + 2)) (xs (iN + 3)) (xs (iN + 4)) σ).2)).2) ) rfl rfl rfl ⟨Nat.le_of_ble_eq_true rfl, Nat.le_of_ble_eq_true rfl⟩ (Nat.le_of_ble_eq_true rfl) dL_law_437 ⟨by show cells + 7 + 0 + 0 ≤ 601024; omega, by show slots + 42 + 0 + 0 ≤ 7293034; omega⟩ (c2 := cells + 7 + 0 + 0) (s2 := slots + 42 + 0 + 0) rfl rfl (fun H locs hW hS => ?_)
  refine lv_iload hx hb dL_law_440 (lv_at hl 1 rfl) ?_
  refine lv_icmp_eq (tgt := 447) hx hb dL_law_442 (by decide) (fun c_1 => ?_) (fun c_1 => ?_)
  · refine lv_iload hx hb dL_law_447 (lv_at hl 1 rfl) ?_
    refine lv_if_ne (tgt := 464) hx hb dL_law_449 (by decide) (fun c_2 => ?_) (fun c_2 => ?_)
    · refine lv_goto (tgt := 2689) hx hb dL_law_464 (by decide) ?_
      have hO : g_law_2 xs iN σ = some ((f_X8_thing (xs (iN + 1)) (xs (iN + 2)) (xs (iN + 3)) (xs (iN + 4)) ((f_L_thing (xs (iN + 1)) (xs (iN + 2)) (xs (iN + 3)) (xs (iN + 4)) σ).2)).2) := by rw [g_law_2, if_pos c_1, if_neg c_2]
      obtain ⟨σ9, h9, hR9⟩ := hL2
      rw [hO] at h9
      cases h9
      exact W.widen (by omega) (by omega) (kk _ _ _ _ hR9 hW hS (lv_sub hl [2, 3, 4, 5, 6] rfl))
    · refine lv_aload_n hx hb dL_law_452 rfl (lv_at hl 3 rfl) ?_
      refine lv_iconst (v := 0) hx hb dL_law_453 (by decide) ?_
      refine w_lald hC hW m_90 (vp_lit (by decide)) dL_law_454 ?_
      rw [show Int32.toNatClampNeg 0 = 0 by decide, fr_X8_thing (by decide) (by decide) (by decide) (by decide) (by decide) (by decide) (by decide) (by decide) (by decide) (by decide)]
      refine lv_iload hx hb dL_law_455 (lv_at hl 0 rfl) ?_
      refine lv_i2l hx hb dL_law_457 rfl ?_
      refine W.lcmp hx hb dL_law_458 ?_
      refine lv_if_eq (tgt := 464) hx hb dL_law_459 (by decide) (fun c_3 => ?_) (fun c_3 => ?_)
      · refine lv_goto (tgt := 2689) hx hb dL_law_464 (by decide) ?_
        have hO : g_law_2 xs iN σ = some ((f_X8_thing (xs (iN + 1)) (xs (iN + 2)) (xs (iN + 3)) (xs (iN + 4)) ((f_L_thing (xs (iN + 1)) (xs (iN + 2)) (xs (iN + 3)) (xs (iN + 4)) σ).2)).2) := by rw [g_law_2, if_pos c_1, if_pos c_2, if_pos c_3]
        obtain ⟨σ9, h9, hR9⟩ := hL2
        rw [hO] at h9
        cases h9
        exact W.widen (by omega) (by omega) (kk _ _ _ _ hR9 hW hS (lv_sub hl [2, 3, 4, 5, 6] rfl))
      · refine lv_iconst (v := 0) hx hb dL_law_462 (by decide) ?_
        have hO : g_law_2 xs iN σ = none := by rw [g_law_2, if_pos c_1, if_pos c_2, if_neg c_3]
        obtain ⟨σ9, h9, hR9⟩ := hL2
        rw [hO] at h9
        cases h9
  · refine lv_iconst (v := 0) hx hb dL_law_445 (by decide) ?_
    have hO : g_law_2 xs iN σ = none := by rw [g_law_2, if_neg c_1]
    obtain ⟨σ9, h9, hR9⟩ := hL2
    rw [hO] at h9
    cases h9
def g_law_3 (xs : Nat → Int32) (iN : Nat) (σ : Sg) : Option Sg :=
  if (f_X8_thrown ((f_X8_type (xs (iN + 1)) (xs (iN + 2)) ((f_L_type (xs (iN + 1)) (xs (iN + 2)) σ).2)).2)) = ((f_L_type (xs (iN + 1)) (xs (iN + 2)) σ).1) then (if ((f_L_type (xs (iN + 1)) (xs (iN + 2)) σ).1) = 0 then (if (lg_cmp ((((f_L_type (xs (iN + 1)) (xs (iN + 2)) σ).2) 90 0 0).toInt64) (((f_X8_type (xs (iN + 1)) (xs (iN + 2)) ((f_L_type (xs (iN + 1)) (xs (iN + 2)) σ).2)).1).toInt64)) = 0 then some ((f_X8_type (xs (iN + 1)) (xs (iN + 2)) ((f_L_type (xs (iN + 1)) (xs (iN + 2)) σ).2)).2)
      else none)
    else some ((f_X8_type (xs (iN + 1)) (xs (iN + 2)) ((f_L_type (xs (iN + 1)) (xs (iN + 2)) σ).2)).2))
  else none
set_option maxHeartbeats 4000000 in
set_option maxRecDepth 100000 in
theorem lc_3 {p : Program} {l : Launch} (hl9 : l.stackTraces = false) {e : Env} {s : State} {m : MethodId} {below : List Frame} {meth : Method} {c : Code} {b L : Nat} {xs : Nat → Int32} {D : va_G} {ca : Nat → ClassId} {base : Nat} {ad : Adr} {Q : State → Prop} {iN : Nat} {σ : Sg} {H : Heap} {locs : List Loc} {cells slots : Nat} {ls : Array Slot} (RR : Sg → Prop) (hC : Cx p s m #[Value.ref b] meth c code 7 RL ret D ca base) (hN : Nx s) (hX : va_X b L xs s s.heap) (hbl : b < s.heap.size) (hbA : ¬ Ab base b) (hi7 : iN + 7 ≤ L) (hL9 : L ≤ 3584) (hc : cells + 40 ≤ 601024) (hs : slots + 240 ≤ 7293034) (hI : LInv σ) (hL2 : ∃ σ', g_law_3 xs iN σ = some σ' ∧ RR σ') (hW : Wd D ca (Ab base) ad ρm Lm σ H) (hS : va_S (Ab base) s.heap H locs) (hl : lv_has ls 7 [(4, .int (nI iN)), (3, .ref (ad 90 0)), (2, .ref (ad 8 0)), (1, .ref (ad 7 0)), (0, .ref b)])
    (kk : ∀ (σ' : Sg) (H1 : Heap) (locs1 : List Loc) (ls1 : Array Slot), RR σ' → Wd D ca (Ab base) ad ρm Lm σ' H1 → va_S (Ab base) s.heap H1 locs1 → lv_has ls1 7 [(4, .int (nI iN)), (3, .ref (ad 90 0)), (2, .ref (ad 8 0)), (1, .ref (ad 7 0)), (0, .ref b)] → W p l e room_1 s m #[Value.ref b] below meth c H1 locs1 (cells + 40) (slots + 240) Q (F0 m 2689 ls1 [])) : W p l e room_1 s m #[Value.ref b] below meth c H locs cells slots Q (F0 m 467 ls []) := by
  have hx := hC.1
  have hb := hC.2.1
  refine lv_aload_n hx hb dL_law_467 rfl (lv_at hl 3 rfl) ?_
  refine lv_aload_n hx hb dL_law_468 rfl (lv_at hl 4 rfl) ?_
  refine lv_iload hx hb dL_law_469 (lv_at hl 0 rfl) ?_
  refine lv_iconst (v := 1) hx hb dL_law_471 (by decide) ?_
  refine lv_iadd hx hb dL_law_472 ?_
  refine va_sld hx hb hX hbl hbA hS (vp_in_addr (a := 1) (by decide) (by omega) (by omega)) dL_law_473 ?_
  rw [cl_addr (a := 1) (by decide) (by omega)]
  refine lv_aload_n hx hb dL_law_474 rfl (lv_at hl 4 rfl) ?_
  refine lv_iload hx hb dL_law_475 (lv_at hl 0 rfl) ?_
  refine lv_iconst (v := 2) hx hb dL_law_477 (by decide) ?_
  refine lv_iadd hx hb dL_law_478 ?_
  refine va_sld hx hb hX hbl hbA hS (vp_in_addr (a := 2) (by decide) (by omega) (by omega)) dL_law_479 ?_
  rw [cl_addr (a := 2) (by decide) (by omega)]
  refine lv_aload_n hx hb dL_law_480 rfl (lv_at hl 1 rfl) ?_
  refine w_callL (As := [.ref (ad 7 0), .int (xs (iN + 1)), .int (xs (iN + 2)), .ref (ad 90 0)]) (rest := []) (st2 := .int ((f_L_type (xs (iN + 1)) (xs (iN + 2)) σ).1) :: []) hC hN hW hS hl cl_L_139 (c_L_type l hl9 D ca base ad σ (xs (iN + 1)) (xs (iN + 2)) hI.1) rfl rfl rfl ⟨Nat.le_of_ble_eq_true rfl, Nat.le_of_ble_eq_true rfl⟩ (Nat.le_of_ble_eq_true rfl) dL_law_481 ⟨by show cells + 2 ≤ 601024; omega, by show slots + 12 ≤ 7293034; omega⟩ (c2 := cells + 2) (s2 := slots + 12) rfl rfl (fun H locs hW hS => ?_)
  refine lv_istore (lv' := [(5, .int ((f_L_type (xs (iN + 1)) (xs (iN + 2)) σ).1)), (4, .int (nI iN)), (3, .ref (ad 90 0)), (2, .ref (ad 8 0)), (1, .ref (ad 7 0)), (0, .ref b)]) hx hb dL_law_484 hl (by decide) rfl (fun ls hl => ?_)
  refine lv_aload_n hx hb dL_law_486 rfl (lv_at hl 3 rfl) ?_
  refine lv_aload_n hx hb dL_law_487 rfl (lv_at hl 5 rfl) ?_
  refine lv_iload hx hb dL_law_488 (lv_at hl 1 rfl) ?_
  refine lv_iconst (v := 1) hx hb dL_law_490 (by decide) ?_
  refine lv_iadd hx hb dL_law_491 ?_
  refine va_sld hx hb hX hbl hbA hS (vp_in_addr (a := 1) (by decide) (by omega) (by omega)) dL_law_492 ?_
  rw [cl_addr (a := 1) (by decide) (by omega)]
  refine lv_aload_n hx hb dL_law_493 rfl (lv_at hl 5 rfl) ?_
  refine lv_iload hx hb dL_law_494 (lv_at hl 1 rfl) ?_
  refine lv_iconst (v := 2) hx hb dL_law_496 (by decide) ?_
  refine lv_iadd hx hb dL_law_497 ?_
  refine va_sld hx hb hX hbl hbA hS (vp_in_addr (a := 2) (by decide) (by omega) (by omega)) dL_law_498 ?_
  rw [cl_addr (a := 2) (by decide) (by omega)]
  refine w_callVL (As := [.int (xs (iN + 1)), .int (xs (iN + 2))]) (rest := []) (st2 := .int ((f_X8_type (xs (iN + 1)) (xs (iN + 2)) ((f_L_type (xs (iN + 1)) (xs (iN + 2)) σ).2)).1) :: []) hC hW hS hl cv_L_142 m_8 (by decide) rfl (c_X8_type l hl9 D ca base ad ((f_L_type (xs (iN + 1)) (xs (iN + 2)) σ).2) (xs (iN + 1)) (xs (iN + 2)) (mi_of hI.2.2.1 (by rw [fr_L_type (by decide) (by decide)]) (by rw [fr_L_type (by decide) (by decide)]) (by rw [fr_L_type (by decide) (by decide)]) (by rw [fr_L_type (by decide) (by decide)]) (by rw [fr_L_type (by decide) (by decide)]) (by rw [fr_L_type (by decide) (by decide)]) (by rw [fr_L_type (by decide) (by decide)]) (by rw [fr_L_type (by decide) (by decide)]) (by rw [fr_L_type (by decide) (by decide)]) (by rw [fr_L_type (by decide) (by decide)]) (by rw [fr_L_type (by decide) (by decide)]) (by rw [fr_L_type (by decide) (by decide)]) (by rw [fr_L_type (by decide) (by decide)]) (by rw [fr_L_type (by decide) (by decide)]) (by rw [fr_L_type (by decide) (by decide)]) (by rw [fr_L_type (by decide) (by decide)]))) rfl rfl rfl ⟨Nat.le_of_ble_eq_true rfl, Nat.le_of_ble_eq_true rfl⟩ (Nat.le_of_ble_eq_true rfl) dL_law_499 ⟨by show cells + 2 + 0 ≤ 601024; omega, by show slots + 12 + 0 ≤ 7293034; omega⟩ (c2 := cells + 2 + 0) (s2 := slots + 12 + 0) rfl rfl (fun H locs hW hS => ?_)
  refine lv_istore (lv' := [(6, .int ((f_X8_type (xs (iN + 1)) (xs (iN + 2)) ((f_L_type (xs (iN + 1)) (xs (iN + 2)) σ).2)).1)), (5, .int ((f_L_type (xs (iN + 1)) (xs (iN + 2)) σ).1)), (4, .int (nI iN)), (3, .ref (ad 90 0)), (2, .ref (ad 8 0)), (1, .ref (ad 7 0)), (0, .ref b)]) hx hb dL_law_502 hl (by decide) rfl (fun ls hl => ?_)
  refine lv_aload_n hx hb dL_law_504 rfl (lv_at hl 4 rfl) ?_
  refine w_callVL (As := []) (rest := []) (st2 := .int (f_X8_thrown ((f_X8_type (xs (iN + 1)) (xs (iN + 2)) ((f_L_type (xs (iN + 1)) (xs (iN + 2)) σ).2)).2)) :: []) hC hW hS hl cv_L_127 m_8 (by decide) rfl (c_X8_thrown l hl9 D ca base ad ((f_X8_type (xs (iN + 1)) (xs (iN + 2)) ((f_L_type (xs (iN + 1)) (xs (iN + 2)) σ).2)).2) ) rfl rfl rfl ⟨Nat.le_of_ble_eq_true rfl, Nat.le_of_ble_eq_true rfl⟩ (Nat.le_of_ble_eq_true rfl) dL_law_505 ⟨by show cells + 2 + 0 + 0 ≤ 601024; omega, by show slots + 12 + 0 + 0 ≤ 7293034; omega⟩ (c2 := cells + 2 + 0 + 0) (s2 := slots + 12 + 0 + 0) rfl rfl (fun H locs hW hS => ?_)
  refine lv_iload hx hb dL_law_508 (lv_at hl 1 rfl) ?_
  refine lv_icmp_eq (tgt := 515) hx hb dL_law_510 (by decide) (fun c_1 => ?_) (fun c_1 => ?_)
  · refine lv_iload hx hb dL_law_515 (lv_at hl 1 rfl) ?_
    refine lv_if_ne (tgt := 532) hx hb dL_law_517 (by decide) (fun c_2 => ?_) (fun c_2 => ?_)
    · refine lv_goto (tgt := 2689) hx hb dL_law_532 (by decide) ?_
      have hO : g_law_3 xs iN σ = some ((f_X8_type (xs (iN + 1)) (xs (iN + 2)) ((f_L_type (xs (iN + 1)) (xs (iN + 2)) σ).2)).2) := by rw [g_law_3, if_pos c_1, if_neg c_2]
      obtain ⟨σ9, h9, hR9⟩ := hL2
      rw [hO] at h9
      cases h9
      exact W.widen (by omega) (by omega) (kk _ _ _ _ hR9 hW hS (lv_sub hl [2, 3, 4, 5, 6] rfl))
    · refine lv_aload_n hx hb dL_law_520 rfl (lv_at hl 3 rfl) ?_
      refine lv_iconst (v := 0) hx hb dL_law_521 (by decide) ?_
      refine w_lald hC hW m_90 (vp_lit (by decide)) dL_law_522 ?_
      rw [show Int32.toNatClampNeg 0 = 0 by decide, fr_X8_type (by decide) (by decide)]
      refine lv_iload hx hb dL_law_523 (lv_at hl 0 rfl) ?_
      refine lv_i2l hx hb dL_law_525 rfl ?_
      refine W.lcmp hx hb dL_law_526 ?_
      refine lv_if_eq (tgt := 532) hx hb dL_law_527 (by decide) (fun c_3 => ?_) (fun c_3 => ?_)
      · refine lv_goto (tgt := 2689) hx hb dL_law_532 (by decide) ?_
        have hO : g_law_3 xs iN σ = some ((f_X8_type (xs (iN + 1)) (xs (iN + 2)) ((f_L_type (xs (iN + 1)) (xs (iN + 2)) σ).2)).2) := by rw [g_law_3, if_pos c_1, if_pos c_2, if_pos c_3]
        obtain ⟨σ9, h9, hR9⟩ := hL2
        rw [hO] at h9
        cases h9
        exact W.widen (by omega) (by omega) (kk _ _ _ _ hR9 hW hS (lv_sub hl [2, 3, 4, 5, 6] rfl))
      · refine lv_iconst (v := 0) hx hb dL_law_530 (by decide) ?_
        have hO : g_law_3 xs iN σ = none := by rw [g_law_3, if_pos c_1, if_pos c_2, if_neg c_3]
        obtain ⟨σ9, h9, hR9⟩ := hL2
        rw [hO] at h9
        cases h9
  · refine lv_iconst (v := 0) hx hb dL_law_513 (by decide) ?_
    have hO : g_law_3 xs iN σ = none := by rw [g_law_3, if_neg c_1]
    obtain ⟨σ9, h9, hR9⟩ := hL2
    rw [hO] at h9
    cases h9
def g_law_4 (xs : Nat → Int32) (iN : Nat) (σ : Sg) : Option Sg :=
  if (f_X8_thrown ((f_X8_mode (xs (iN + 1)) (xs (iN + 2)) (xs (iN + 3)) ((f_L_mode (xs (iN + 1)) (xs (iN + 2)) (xs (iN + 3)) σ).2)).2)) = ((f_L_mode (xs (iN + 1)) (xs (iN + 2)) (xs (iN + 3)) σ).1) then (if ((f_L_mode (xs (iN + 1)) (xs (iN + 2)) (xs (iN + 3)) σ).1) = 0 then (if (lg_cmp ((((f_L_mode (xs (iN + 1)) (xs (iN + 2)) (xs (iN + 3)) σ).2) 90 0 0).toInt64) (((f_X8_mode (xs (iN + 1)) (xs (iN + 2)) (xs (iN + 3)) ((f_L_mode (xs (iN + 1)) (xs (iN + 2)) (xs (iN + 3)) σ).2)).1).toInt64)) = 0 then some ((f_X8_mode (xs (iN + 1)) (xs (iN + 2)) (xs (iN + 3)) ((f_L_mode (xs (iN + 1)) (xs (iN + 2)) (xs (iN + 3)) σ).2)).2)
      else none)
    else some ((f_X8_mode (xs (iN + 1)) (xs (iN + 2)) (xs (iN + 3)) ((f_L_mode (xs (iN + 1)) (xs (iN + 2)) (xs (iN + 3)) σ).2)).2))
  else none
set_option maxHeartbeats 4000000 in
set_option maxRecDepth 100000 in
theorem lc_4 {p : Program} {l : Launch} (hl9 : l.stackTraces = false) {e : Env} {s : State} {m : MethodId} {below : List Frame} {meth : Method} {c : Code} {b L : Nat} {xs : Nat → Int32} {D : va_G} {ca : Nat → ClassId} {base : Nat} {ad : Adr} {Q : State → Prop} {iN : Nat} {σ : Sg} {H : Heap} {locs : List Loc} {cells slots : Nat} {ls : Array Slot} (RR : Sg → Prop) (hC : Cx p s m #[Value.ref b] meth c code 7 RL ret D ca base) (hN : Nx s) (hX : va_X b L xs s s.heap) (hbl : b < s.heap.size) (hbA : ¬ Ab base b) (hi7 : iN + 7 ≤ L) (hL9 : L ≤ 3584) (hc : cells + 40 ≤ 601024) (hs : slots + 240 ≤ 7293034) (hI : LInv σ) (hL2 : ∃ σ', g_law_4 xs iN σ = some σ' ∧ RR σ') (hW : Wd D ca (Ab base) ad ρm Lm σ H) (hS : va_S (Ab base) s.heap H locs) (hl : lv_has ls 7 [(4, .int (nI iN)), (3, .ref (ad 90 0)), (2, .ref (ad 8 0)), (1, .ref (ad 7 0)), (0, .ref b)])
    (kk : ∀ (σ' : Sg) (H1 : Heap) (locs1 : List Loc) (ls1 : Array Slot), RR σ' → Wd D ca (Ab base) ad ρm Lm σ' H1 → va_S (Ab base) s.heap H1 locs1 → lv_has ls1 7 [(4, .int (nI iN)), (3, .ref (ad 90 0)), (2, .ref (ad 8 0)), (1, .ref (ad 7 0)), (0, .ref b)] → W p l e room_1 s m #[Value.ref b] below meth c H1 locs1 (cells + 40) (slots + 240) Q (F0 m 2689 ls1 [])) : W p l e room_1 s m #[Value.ref b] below meth c H locs cells slots Q (F0 m 535 ls []) := by
  have hx := hC.1
  have hb := hC.2.1
  refine lv_aload_n hx hb dL_law_535 rfl (lv_at hl 3 rfl) ?_
  refine lv_aload_n hx hb dL_law_536 rfl (lv_at hl 4 rfl) ?_
  refine lv_iload hx hb dL_law_537 (lv_at hl 0 rfl) ?_
  refine lv_iconst (v := 1) hx hb dL_law_539 (by decide) ?_
  refine lv_iadd hx hb dL_law_540 ?_
  refine va_sld hx hb hX hbl hbA hS (vp_in_addr (a := 1) (by decide) (by omega) (by omega)) dL_law_541 ?_
  rw [cl_addr (a := 1) (by decide) (by omega)]
  refine lv_aload_n hx hb dL_law_542 rfl (lv_at hl 4 rfl) ?_
  refine lv_iload hx hb dL_law_543 (lv_at hl 0 rfl) ?_
  refine lv_iconst (v := 2) hx hb dL_law_545 (by decide) ?_
  refine lv_iadd hx hb dL_law_546 ?_
  refine va_sld hx hb hX hbl hbA hS (vp_in_addr (a := 2) (by decide) (by omega) (by omega)) dL_law_547 ?_
  rw [cl_addr (a := 2) (by decide) (by omega)]
  refine lv_aload_n hx hb dL_law_548 rfl (lv_at hl 4 rfl) ?_
  refine lv_iload hx hb dL_law_549 (lv_at hl 0 rfl) ?_
  refine lv_iconst (v := 3) hx hb dL_law_551 (by decide) ?_
  refine lv_iadd hx hb dL_law_552 ?_
  refine va_sld hx hb hX hbl hbA hS (vp_in_addr (a := 3) (by decide) (by omega) (by omega)) dL_law_553 ?_
  rw [cl_addr (a := 3) (by decide) (by omega)]
  refine lv_aload_n hx hb dL_law_554 rfl (lv_at hl 1 rfl) ?_
  refine w_callL (As := [.ref (ad 7 0), .int (xs (iN + 1)), .int (xs (iN + 2)), .int (xs (iN + 3)), .ref (ad 90 0)]) (rest := []) (st2 := .int ((f_L_mode (xs (iN + 1)) (xs (iN + 2)) (xs (iN + 3)) σ).1) :: []) hC hN hW hS hl cl_L_143 (c_L_mode l hl9 D ca base ad σ (xs (iN + 1)) (xs (iN + 2)) (xs (iN + 3)) hI.1) rfl rfl rfl ⟨Nat.le_of_ble_eq_true rfl, Nat.le_of_ble_eq_true rfl⟩ (Nat.le_of_ble_eq_true rfl) dL_law_555 ⟨by show cells + 4 ≤ 601024; omega, by show slots + 24 ≤ 7293034; omega⟩ (c2 := cells + 4) (s2 := slots + 24) rfl rfl (fun H locs hW hS => ?_)
  refine lv_istore (lv' := [(5, .int ((f_L_mode (xs (iN + 1)) (xs (iN + 2)) (xs (iN + 3)) σ).1)), (4, .int (nI iN)), (3, .ref (ad 90 0)), (2, .ref (ad 8 0)), (1, .ref (ad 7 0)), (0, .ref b)]) hx hb dL_law_558 hl (by decide) rfl (fun ls hl => ?_)
  refine lv_aload_n hx hb dL_law_560 rfl (lv_at hl 3 rfl) ?_
  refine lv_aload_n hx hb dL_law_561 rfl (lv_at hl 5 rfl) ?_
  refine lv_iload hx hb dL_law_562 (lv_at hl 1 rfl) ?_
  refine lv_iconst (v := 1) hx hb dL_law_564 (by decide) ?_
  refine lv_iadd hx hb dL_law_565 ?_
  refine va_sld hx hb hX hbl hbA hS (vp_in_addr (a := 1) (by decide) (by omega) (by omega)) dL_law_566 ?_
  rw [cl_addr (a := 1) (by decide) (by omega)]
  refine lv_aload_n hx hb dL_law_567 rfl (lv_at hl 5 rfl) ?_
  refine lv_iload hx hb dL_law_568 (lv_at hl 1 rfl) ?_
  refine lv_iconst (v := 2) hx hb dL_law_570 (by decide) ?_
  refine lv_iadd hx hb dL_law_571 ?_
  refine va_sld hx hb hX hbl hbA hS (vp_in_addr (a := 2) (by decide) (by omega) (by omega)) dL_law_572 ?_
  rw [cl_addr (a := 2) (by decide) (by omega)]
  refine lv_aload_n hx hb dL_law_573 rfl (lv_at hl 5 rfl) ?_
  refine lv_iload hx hb dL_law_574 (lv_at hl 1 rfl) ?_
  refine lv_iconst (v := 3) hx hb dL_law_576 (by decide) ?_
  refine lv_iadd hx hb dL_law_577 ?_
  refine va_sld hx hb hX hbl hbA hS (vp_in_addr (a := 3) (by decide) (by omega) (by omega)) dL_law_578 ?_
  rw [cl_addr (a := 3) (by decide) (by omega)]
  refine w_callVL (As := [.int (xs (iN + 1)), .int (xs (iN + 2)), .int (xs (iN + 3))]) (rest := []) (st2 := .int ((f_X8_mode (xs (iN + 1)) (xs (iN + 2)) (xs (iN + 3)) ((f_L_mode (xs (iN + 1)) (xs (iN + 2)) (xs (iN + 3)) σ).2)).1) :: []) hC hW hS hl cv_L_146 m_8 (by decide) rfl (c_X8_mode l hl9 D ca base ad ((f_L_mode (xs (iN + 1)) (xs (iN + 2)) (xs (iN + 3)) σ).2) (xs (iN + 1)) (xs (iN + 2)) (xs (iN + 3)) (mi_of hI.2.2.1 (by rw [fr_L_mode (by decide) (by decide)]) (by rw [fr_L_mode (by decide) (by decide)]) (by rw [fr_L_mode (by decide) (by decide)]) (by rw [fr_L_mode (by decide) (by decide)]) (by rw [fr_L_mode (by decide) (by decide)]) (by rw [fr_L_mode (by decide) (by decide)]) (by rw [fr_L_mode (by decide) (by decide)]) (by rw [fr_L_mode (by decide) (by decide)]) (by rw [fr_L_mode (by decide) (by decide)]) (by rw [fr_L_mode (by decide) (by decide)]) (by rw [fr_L_mode (by decide) (by decide)]) (by rw [fr_L_mode (by decide) (by decide)]) (by rw [fr_L_mode (by decide) (by decide)]) (by rw [fr_L_mode (by decide) (by decide)]) (by rw [fr_L_mode (by decide) (by decide)]) (by rw [fr_L_mode (by decide) (by decide)]))) rfl rfl rfl ⟨Nat.le_of_ble_eq_true rfl, Nat.le_of_ble_eq_true rfl⟩ (Nat.le_of_ble_eq_true rfl) dL_law_579 ⟨by show cells + 4 + 0 ≤ 601024; omega, by show slots + 24 + 0 ≤ 7293034; omega⟩ (c2 := cells + 4 + 0) (s2 := slots + 24 + 0) rfl rfl (fun H locs hW hS => ?_)
  refine lv_istore (lv' := [(6, .int ((f_X8_mode (xs (iN + 1)) (xs (iN + 2)) (xs (iN + 3)) ((f_L_mode (xs (iN + 1)) (xs (iN + 2)) (xs (iN + 3)) σ).2)).1)), (5, .int ((f_L_mode (xs (iN + 1)) (xs (iN + 2)) (xs (iN + 3)) σ).1)), (4, .int (nI iN)), (3, .ref (ad 90 0)), (2, .ref (ad 8 0)), (1, .ref (ad 7 0)), (0, .ref b)]) hx hb dL_law_582 hl (by decide) rfl (fun ls hl => ?_)
  refine lv_aload_n hx hb dL_law_584 rfl (lv_at hl 4 rfl) ?_
  refine w_callVL (As := []) (rest := []) (st2 := .int (f_X8_thrown ((f_X8_mode (xs (iN + 1)) (xs (iN + 2)) (xs (iN + 3)) ((f_L_mode (xs (iN + 1)) (xs (iN + 2)) (xs (iN + 3)) σ).2)).2)) :: []) hC hW hS hl cv_L_127 m_8 (by decide) rfl (c_X8_thrown l hl9 D ca base ad ((f_X8_mode (xs (iN + 1)) (xs (iN + 2)) (xs (iN + 3)) ((f_L_mode (xs (iN + 1)) (xs (iN + 2)) (xs (iN + 3)) σ).2)).2) ) rfl rfl rfl ⟨Nat.le_of_ble_eq_true rfl, Nat.le_of_ble_eq_true rfl⟩ (Nat.le_of_ble_eq_true rfl) dL_law_585 ⟨by show cells + 4 + 0 + 0 ≤ 601024; omega, by show slots + 24 + 0 + 0 ≤ 7293034; omega⟩ (c2 := cells + 4 + 0 + 0) (s2 := slots + 24 + 0 + 0) rfl rfl (fun H locs hW hS => ?_)
  refine lv_iload hx hb dL_law_588 (lv_at hl 1 rfl) ?_
  refine lv_icmp_eq (tgt := 595) hx hb dL_law_590 (by decide) (fun c_1 => ?_) (fun c_1 => ?_)
  · refine lv_iload hx hb dL_law_595 (lv_at hl 1 rfl) ?_
    refine lv_if_ne (tgt := 612) hx hb dL_law_597 (by decide) (fun c_2 => ?_) (fun c_2 => ?_)
    · refine lv_goto (tgt := 2689) hx hb dL_law_612 (by decide) ?_
      have hO : g_law_4 xs iN σ = some ((f_X8_mode (xs (iN + 1)) (xs (iN + 2)) (xs (iN + 3)) ((f_L_mode (xs (iN + 1)) (xs (iN + 2)) (xs (iN + 3)) σ).2)).2) := by rw [g_law_4, if_pos c_1, if_neg c_2]
      obtain ⟨σ9, h9, hR9⟩ := hL2
      rw [hO] at h9
      cases h9
      exact W.widen (by omega) (by omega) (kk _ _ _ _ hR9 hW hS (lv_sub hl [2, 3, 4, 5, 6] rfl))
    · refine lv_aload_n hx hb dL_law_600 rfl (lv_at hl 3 rfl) ?_
      refine lv_iconst (v := 0) hx hb dL_law_601 (by decide) ?_
      refine w_lald hC hW m_90 (vp_lit (by decide)) dL_law_602 ?_
      rw [show Int32.toNatClampNeg 0 = 0 by decide, fr_X8_mode (by decide) (by decide)]
      refine lv_iload hx hb dL_law_603 (lv_at hl 0 rfl) ?_
      refine lv_i2l hx hb dL_law_605 rfl ?_
      refine W.lcmp hx hb dL_law_606 ?_
      refine lv_if_eq (tgt := 612) hx hb dL_law_607 (by decide) (fun c_3 => ?_) (fun c_3 => ?_)
      · refine lv_goto (tgt := 2689) hx hb dL_law_612 (by decide) ?_
        have hO : g_law_4 xs iN σ = some ((f_X8_mode (xs (iN + 1)) (xs (iN + 2)) (xs (iN + 3)) ((f_L_mode (xs (iN + 1)) (xs (iN + 2)) (xs (iN + 3)) σ).2)).2) := by rw [g_law_4, if_pos c_1, if_pos c_2, if_pos c_3]
        obtain ⟨σ9, h9, hR9⟩ := hL2
        rw [hO] at h9
        cases h9
        exact W.widen (by omega) (by omega) (kk _ _ _ _ hR9 hW hS (lv_sub hl [2, 3, 4, 5, 6] rfl))
      · refine lv_iconst (v := 0) hx hb dL_law_610 (by decide) ?_
        have hO : g_law_4 xs iN σ = none := by rw [g_law_4, if_pos c_1, if_pos c_2, if_neg c_3]
        obtain ⟨σ9, h9, hR9⟩ := hL2
        rw [hO] at h9
        cases h9
  · refine lv_iconst (v := 0) hx hb dL_law_593 (by decide) ?_
    have hO : g_law_4 xs iN σ = none := by rw [g_law_4, if_neg c_1]
    obtain ⟨σ9, h9, hR9⟩ := hL2
    rw [hO] at h9
    cases h9
def g_law_5 (xs : Nat → Int32) (iN : Nat) (σ : Sg) : Option Sg :=
  if (f_X8_thrown ((f_X8_mask (xs (iN + 1)) (xs (iN + 2)) (xs (iN + 3)) ((f_L_mask (xs (iN + 1)) (xs (iN + 2)) (xs (iN + 3)) σ).2)).2)) = ((f_L_mask (xs (iN + 1)) (xs (iN + 2)) (xs (iN + 3)) σ).1) then (if ((f_L_mask (xs (iN + 1)) (xs (iN + 2)) (xs (iN + 3)) σ).1) = 0 then (if (lg_cmp ((((f_L_mask (xs (iN + 1)) (xs (iN + 2)) (xs (iN + 3)) σ).2) 90 0 0).toInt64) (((f_X8_mask (xs (iN + 1)) (xs (iN + 2)) (xs (iN + 3)) ((f_L_mask (xs (iN + 1)) (xs (iN + 2)) (xs (iN + 3)) σ).2)).1).toInt64)) = 0 then some ((f_X8_mask (xs (iN + 1)) (xs (iN + 2)) (xs (iN + 3)) ((f_L_mask (xs (iN + 1)) (xs (iN + 2)) (xs (iN + 3)) σ).2)).2)
      else none)
    else some ((f_X8_mask (xs (iN + 1)) (xs (iN + 2)) (xs (iN + 3)) ((f_L_mask (xs (iN + 1)) (xs (iN + 2)) (xs (iN + 3)) σ).2)).2))
  else none
set_option maxHeartbeats 4000000 in
set_option maxRecDepth 100000 in
theorem lc_5 {p : Program} {l : Launch} (hl9 : l.stackTraces = false) {e : Env} {s : State} {m : MethodId} {below : List Frame} {meth : Method} {c : Code} {b L : Nat} {xs : Nat → Int32} {D : va_G} {ca : Nat → ClassId} {base : Nat} {ad : Adr} {Q : State → Prop} {iN : Nat} {σ : Sg} {H : Heap} {locs : List Loc} {cells slots : Nat} {ls : Array Slot} (RR : Sg → Prop) (hC : Cx p s m #[Value.ref b] meth c code 7 RL ret D ca base) (hN : Nx s) (hX : va_X b L xs s s.heap) (hbl : b < s.heap.size) (hbA : ¬ Ab base b) (hi7 : iN + 7 ≤ L) (hL9 : L ≤ 3584) (hc : cells + 40 ≤ 601024) (hs : slots + 240 ≤ 7293034) (hI : LInv σ) (hL2 : ∃ σ', g_law_5 xs iN σ = some σ' ∧ RR σ') (hW : Wd D ca (Ab base) ad ρm Lm σ H) (hS : va_S (Ab base) s.heap H locs) (hl : lv_has ls 7 [(4, .int (nI iN)), (3, .ref (ad 90 0)), (2, .ref (ad 8 0)), (1, .ref (ad 7 0)), (0, .ref b)])
    (kk : ∀ (σ' : Sg) (H1 : Heap) (locs1 : List Loc) (ls1 : Array Slot), RR σ' → Wd D ca (Ab base) ad ρm Lm σ' H1 → va_S (Ab base) s.heap H1 locs1 → lv_has ls1 7 [(4, .int (nI iN)), (3, .ref (ad 90 0)), (2, .ref (ad 8 0)), (1, .ref (ad 7 0)), (0, .ref b)] → W p l e room_1 s m #[Value.ref b] below meth c H1 locs1 (cells + 40) (slots + 240) Q (F0 m 2689 ls1 [])) : W p l e room_1 s m #[Value.ref b] below meth c H locs cells slots Q (F0 m 615 ls []) := by
  have hx := hC.1
  have hb := hC.2.1
  refine lv_aload_n hx hb dL_law_615 rfl (lv_at hl 3 rfl) ?_
  refine lv_aload_n hx hb dL_law_616 rfl (lv_at hl 4 rfl) ?_
  refine lv_iload hx hb dL_law_617 (lv_at hl 0 rfl) ?_
  refine lv_iconst (v := 1) hx hb dL_law_619 (by decide) ?_
  refine lv_iadd hx hb dL_law_620 ?_
  refine va_sld hx hb hX hbl hbA hS (vp_in_addr (a := 1) (by decide) (by omega) (by omega)) dL_law_621 ?_
  rw [cl_addr (a := 1) (by decide) (by omega)]
  refine lv_aload_n hx hb dL_law_622 rfl (lv_at hl 4 rfl) ?_
  refine lv_iload hx hb dL_law_623 (lv_at hl 0 rfl) ?_
  refine lv_iconst (v := 2) hx hb dL_law_625 (by decide) ?_
  refine lv_iadd hx hb dL_law_626 ?_
  refine va_sld hx hb hX hbl hbA hS (vp_in_addr (a := 2) (by decide) (by omega) (by omega)) dL_law_627 ?_
  rw [cl_addr (a := 2) (by decide) (by omega)]
  refine lv_aload_n hx hb dL_law_628 rfl (lv_at hl 4 rfl) ?_
  refine lv_iload hx hb dL_law_629 (lv_at hl 0 rfl) ?_
  refine lv_iconst (v := 3) hx hb dL_law_631 (by decide) ?_
  refine lv_iadd hx hb dL_law_632 ?_
  refine va_sld hx hb hX hbl hbA hS (vp_in_addr (a := 3) (by decide) (by omega) (by omega)) dL_law_633 ?_
  rw [cl_addr (a := 3) (by decide) (by omega)]
  refine lv_aload_n hx hb dL_law_634 rfl (lv_at hl 1 rfl) ?_
  refine w_callL (As := [.ref (ad 7 0), .int (xs (iN + 1)), .int (xs (iN + 2)), .int (xs (iN + 3)), .ref (ad 90 0)]) (rest := []) (st2 := .int ((f_L_mask (xs (iN + 1)) (xs (iN + 2)) (xs (iN + 3)) σ).1) :: []) hC hN hW hS hl cl_L_147 (c_L_mask l hl9 D ca base ad σ (xs (iN + 1)) (xs (iN + 2)) (xs (iN + 3)) hI.1) rfl rfl rfl ⟨Nat.le_of_ble_eq_true rfl, Nat.le_of_ble_eq_true rfl⟩ (Nat.le_of_ble_eq_true rfl) dL_law_635 ⟨by show cells + 4 ≤ 601024; omega, by show slots + 24 ≤ 7293034; omega⟩ (c2 := cells + 4) (s2 := slots + 24) rfl rfl (fun H locs hW hS => ?_)
  refine lv_istore (lv' := [(5, .int ((f_L_mask (xs (iN + 1)) (xs (iN + 2)) (xs (iN + 3)) σ).1)), (4, .int (nI iN)), (3, .ref (ad 90 0)), (2, .ref (ad 8 0)), (1, .ref (ad 7 0)), (0, .ref b)]) hx hb dL_law_638 hl (by decide) rfl (fun ls hl => ?_)
  refine lv_aload_n hx hb dL_law_640 rfl (lv_at hl 3 rfl) ?_
  refine lv_aload_n hx hb dL_law_641 rfl (lv_at hl 5 rfl) ?_
  refine lv_iload hx hb dL_law_642 (lv_at hl 1 rfl) ?_
  refine lv_iconst (v := 1) hx hb dL_law_644 (by decide) ?_
  refine lv_iadd hx hb dL_law_645 ?_
  refine va_sld hx hb hX hbl hbA hS (vp_in_addr (a := 1) (by decide) (by omega) (by omega)) dL_law_646 ?_
  rw [cl_addr (a := 1) (by decide) (by omega)]
  refine lv_aload_n hx hb dL_law_647 rfl (lv_at hl 5 rfl) ?_
  refine lv_iload hx hb dL_law_648 (lv_at hl 1 rfl) ?_
  refine lv_iconst (v := 2) hx hb dL_law_650 (by decide) ?_
  refine lv_iadd hx hb dL_law_651 ?_
  refine va_sld hx hb hX hbl hbA hS (vp_in_addr (a := 2) (by decide) (by omega) (by omega)) dL_law_652 ?_
  rw [cl_addr (a := 2) (by decide) (by omega)]
  refine lv_aload_n hx hb dL_law_653 rfl (lv_at hl 5 rfl) ?_
  refine lv_iload hx hb dL_law_654 (lv_at hl 1 rfl) ?_
  refine lv_iconst (v := 3) hx hb dL_law_656 (by decide) ?_
  refine lv_iadd hx hb dL_law_657 ?_
  refine va_sld hx hb hX hbl hbA hS (vp_in_addr (a := 3) (by decide) (by omega) (by omega)) dL_law_658 ?_
  rw [cl_addr (a := 3) (by decide) (by omega)]
  refine w_callVL (As := [.int (xs (iN + 1)), .int (xs (iN + 2)), .int (xs (iN + 3))]) (rest := []) (st2 := .int ((f_X8_mask (xs (iN + 1)) (xs (iN + 2)) (xs (iN + 3)) ((f_L_mask (xs (iN + 1)) (xs (iN + 2)) (xs (iN + 3)) σ).2)).1) :: []) hC hW hS hl cv_L_149 m_8 (by decide) rfl (c_X8_mask l hl9 D ca base ad ((f_L_mask (xs (iN + 1)) (xs (iN + 2)) (xs (iN + 3)) σ).2) (xs (iN + 1)) (xs (iN + 2)) (xs (iN + 3)) (mi_of hI.2.2.1 (by rw [fr_L_mask (by decide) (by decide)]) (by rw [fr_L_mask (by decide) (by decide)]) (by rw [fr_L_mask (by decide) (by decide)]) (by rw [fr_L_mask (by decide) (by decide)]) (by rw [fr_L_mask (by decide) (by decide)]) (by rw [fr_L_mask (by decide) (by decide)]) (by rw [fr_L_mask (by decide) (by decide)]) (by rw [fr_L_mask (by decide) (by decide)]) (by rw [fr_L_mask (by decide) (by decide)]) (by rw [fr_L_mask (by decide) (by decide)]) (by rw [fr_L_mask (by decide) (by decide)]) (by rw [fr_L_mask (by decide) (by decide)]) (by rw [fr_L_mask (by decide) (by decide)]) (by rw [fr_L_mask (by decide) (by decide)]) (by rw [fr_L_mask (by decide) (by decide)]) (by rw [fr_L_mask (by decide) (by decide)]))) rfl rfl rfl ⟨Nat.le_of_ble_eq_true rfl, Nat.le_of_ble_eq_true rfl⟩ (Nat.le_of_ble_eq_true rfl) dL_law_659 ⟨by show cells + 4 + 0 ≤ 601024; omega, by show slots + 24 + 0 ≤ 7293034; omega⟩ (c2 := cells + 4 + 0) (s2 := slots + 24 + 0) rfl rfl (fun H locs hW hS => ?_)
  refine lv_istore (lv' := [(6, .int ((f_X8_mask (xs (iN + 1)) (xs (iN + 2)) (xs (iN + 3)) ((f_L_mask (xs (iN + 1)) (xs (iN + 2)) (xs (iN + 3)) σ).2)).1)), (5, .int ((f_L_mask (xs (iN + 1)) (xs (iN + 2)) (xs (iN + 3)) σ).1)), (4, .int (nI iN)), (3, .ref (ad 90 0)), (2, .ref (ad 8 0)), (1, .ref (ad 7 0)), (0, .ref b)]) hx hb dL_law_662 hl (by decide) rfl (fun ls hl => ?_)
  refine lv_aload_n hx hb dL_law_664 rfl (lv_at hl 4 rfl) ?_
  refine w_callVL (As := []) (rest := []) (st2 := .int (f_X8_thrown ((f_X8_mask (xs (iN + 1)) (xs (iN + 2)) (xs (iN + 3)) ((f_L_mask (xs (iN + 1)) (xs (iN + 2)) (xs (iN + 3)) σ).2)).2)) :: []) hC hW hS hl cv_L_127 m_8 (by decide) rfl (c_X8_thrown l hl9 D ca base ad ((f_X8_mask (xs (iN + 1)) (xs (iN + 2)) (xs (iN + 3)) ((f_L_mask (xs (iN + 1)) (xs (iN + 2)) (xs (iN + 3)) σ).2)).2) ) rfl rfl rfl ⟨Nat.le_of_ble_eq_true rfl, Nat.le_of_ble_eq_true rfl⟩ (Nat.le_of_ble_eq_true rfl) dL_law_665 ⟨by show cells + 4 + 0 + 0 ≤ 601024; omega, by show slots + 24 + 0 + 0 ≤ 7293034; omega⟩ (c2 := cells + 4 + 0 + 0) (s2 := slots + 24 + 0 + 0) rfl rfl (fun H locs hW hS => ?_)
  refine lv_iload hx hb dL_law_668 (lv_at hl 1 rfl) ?_
  refine lv_icmp_eq (tgt := 675) hx hb dL_law_670 (by decide) (fun c_1 => ?_) (fun c_1 => ?_)
  · refine lv_iload hx hb dL_law_675 (lv_at hl 1 rfl) ?_
    refine lv_if_ne (tgt := 692) hx hb dL_law_677 (by decide) (fun c_2 => ?_) (fun c_2 => ?_)
    · refine lv_goto (tgt := 2689) hx hb dL_law_692 (by decide) ?_
      have hO : g_law_5 xs iN σ = some ((f_X8_mask (xs (iN + 1)) (xs (iN + 2)) (xs (iN + 3)) ((f_L_mask (xs (iN + 1)) (xs (iN + 2)) (xs (iN + 3)) σ).2)).2) := by rw [g_law_5, if_pos c_1, if_neg c_2]
      obtain ⟨σ9, h9, hR9⟩ := hL2
      rw [hO] at h9
      cases h9
      exact W.widen (by omega) (by omega) (kk _ _ _ _ hR9 hW hS (lv_sub hl [2, 3, 4, 5, 6] rfl))
    · refine lv_aload_n hx hb dL_law_680 rfl (lv_at hl 3 rfl) ?_
      refine lv_iconst (v := 0) hx hb dL_law_681 (by decide) ?_
      refine w_lald hC hW m_90 (vp_lit (by decide)) dL_law_682 ?_
      rw [show Int32.toNatClampNeg 0 = 0 by decide, fr_X8_mask (by decide) (by decide)]
      refine lv_iload hx hb dL_law_683 (lv_at hl 0 rfl) ?_
      refine lv_i2l hx hb dL_law_685 rfl ?_
      refine W.lcmp hx hb dL_law_686 ?_
      refine lv_if_eq (tgt := 692) hx hb dL_law_687 (by decide) (fun c_3 => ?_) (fun c_3 => ?_)
      · refine lv_goto (tgt := 2689) hx hb dL_law_692 (by decide) ?_
        have hO : g_law_5 xs iN σ = some ((f_X8_mask (xs (iN + 1)) (xs (iN + 2)) (xs (iN + 3)) ((f_L_mask (xs (iN + 1)) (xs (iN + 2)) (xs (iN + 3)) σ).2)).2) := by rw [g_law_5, if_pos c_1, if_pos c_2, if_pos c_3]
        obtain ⟨σ9, h9, hR9⟩ := hL2
        rw [hO] at h9
        cases h9
        exact W.widen (by omega) (by omega) (kk _ _ _ _ hR9 hW hS (lv_sub hl [2, 3, 4, 5, 6] rfl))
      · refine lv_iconst (v := 0) hx hb dL_law_690 (by decide) ?_
        have hO : g_law_5 xs iN σ = none := by rw [g_law_5, if_pos c_1, if_pos c_2, if_neg c_3]
        obtain ⟨σ9, h9, hR9⟩ := hL2
        rw [hO] at h9
        cases h9
  · refine lv_iconst (v := 0) hx hb dL_law_673 (by decide) ?_
    have hO : g_law_5 xs iN σ = none := by rw [g_law_5, if_neg c_1]
    obtain ⟨σ9, h9, hR9⟩ := hL2
    rw [hO] at h9
    cases h9
def g_law_6 (xs : Nat → Int32) (iN : Nat) (σ : Sg) : Option Sg :=
  if (xs (iN + 3)) = 0 then (if (xs (iN + 6)) = 0 then (if (f_X8_thrown ((f_X8_entry (xs (iN + 1)) (xs (iN + 2)) 0 (xs (iN + 4)) (xs (iN + 5)) 0 ((f_L_entry (xs (iN + 1)) (xs (iN + 2)) 0 (xs (iN + 4)) (xs (iN + 5)) 0 σ).2)).2)) = ((f_L_entry (xs (iN + 1)) (xs (iN + 2)) 0 (xs (iN + 4)) (xs (iN + 5)) 0 σ).1) then (if ((f_L_entry (xs (iN + 1)) (xs (iN + 2)) 0 (xs (iN + 4)) (xs (iN + 5)) 0 σ).1) = 0 then (if (lg_cmp ((((f_L_entry (xs (iN + 1)) (xs (iN + 2)) 0 (xs (iN + 4)) (xs (iN + 5)) 0 σ).2) 90 0 0).toInt64) (((f_X8_entry (xs (iN + 1)) (xs (iN + 2)) 0 (xs (iN + 4)) (xs (iN + 5)) 0 ((f_L_entry (xs (iN + 1)) (xs (iN + 2)) 0 (xs (iN + 4)) (xs (iN + 5)) 0 σ).2)).1).toInt64)) = 0 then some ((f_X8_entry (xs (iN + 1)) (xs (iN + 2)) 0 (xs (iN + 4)) (xs (iN + 5)) 0 ((f_L_entry (xs (iN + 1)) (xs (iN + 2)) 0 (xs (iN + 4)) (xs (iN + 5)) 0 σ).2)).2)
          else none)
        else some ((f_X8_entry (xs (iN + 1)) (xs (iN + 2)) 0 (xs (iN + 4)) (xs (iN + 5)) 0 ((f_L_entry (xs (iN + 1)) (xs (iN + 2)) 0 (xs (iN + 4)) (xs (iN + 5)) 0 σ).2)).2))
      else none)
    else if (f_X8_thrown ((f_X8_entry (xs (iN + 1)) (xs (iN + 2)) 0 (xs (iN + 4)) (xs (iN + 5)) 1 ((f_L_entry (xs (iN + 1)) (xs (iN + 2)) 0 (xs (iN + 4)) (xs (iN + 5)) 1 σ).2)).2)) = ((f_L_entry (xs (iN + 1)) (xs (iN + 2)) 0 (xs (iN + 4)) (xs (iN + 5)) 1 σ).1) then (if ((f_L_entry (xs (iN + 1)) (xs (iN + 2)) 0 (xs (iN + 4)) (xs (iN + 5)) 1 σ).1) = 0 then (if (lg_cmp ((((f_L_entry (xs (iN + 1)) (xs (iN + 2)) 0 (xs (iN + 4)) (xs (iN + 5)) 1 σ).2) 90 0 0).toInt64) (((f_X8_entry (xs (iN + 1)) (xs (iN + 2)) 0 (xs (iN + 4)) (xs (iN + 5)) 1 ((f_L_entry (xs (iN + 1)) (xs (iN + 2)) 0 (xs (iN + 4)) (xs (iN + 5)) 1 σ).2)).1).toInt64)) = 0 then some ((f_X8_entry (xs (iN + 1)) (xs (iN + 2)) 0 (xs (iN + 4)) (xs (iN + 5)) 1 ((f_L_entry (xs (iN + 1)) (xs (iN + 2)) 0 (xs (iN + 4)) (xs (iN + 5)) 1 σ).2)).2)
        else none)
      else some ((f_X8_entry (xs (iN + 1)) (xs (iN + 2)) 0 (xs (iN + 4)) (xs (iN + 5)) 1 ((f_L_entry (xs (iN + 1)) (xs (iN + 2)) 0 (xs (iN + 4)) (xs (iN + 5)) 1 σ).2)).2))
    else none)
  else if (xs (iN + 6)) = 0 then (if (f_X8_thrown ((f_X8_entry (xs (iN + 1)) (xs (iN + 2)) 1 (xs (iN + 4)) (xs (iN + 5)) 0 ((f_L_entry (xs (iN + 1)) (xs (iN + 2)) 1 (xs (iN + 4)) (xs (iN + 5)) 0 σ).2)).2)) = ((f_L_entry (xs (iN + 1)) (xs (iN + 2)) 1 (xs (iN + 4)) (xs (iN + 5)) 0 σ).1) then (if ((f_L_entry (xs (iN + 1)) (xs (iN + 2)) 1 (xs (iN + 4)) (xs (iN + 5)) 0 σ).1) = 0 then (if (lg_cmp ((((f_L_entry (xs (iN + 1)) (xs (iN + 2)) 1 (xs (iN + 4)) (xs (iN + 5)) 0 σ).2) 90 0 0).toInt64) (((f_X8_entry (xs (iN + 1)) (xs (iN + 2)) 1 (xs (iN + 4)) (xs (iN + 5)) 0 ((f_L_entry (xs (iN + 1)) (xs (iN + 2)) 1 (xs (iN + 4)) (xs (iN + 5)) 0 σ).2)).1).toInt64)) = 0 then some ((f_X8_entry (xs (iN + 1)) (xs (iN + 2)) 1 (xs (iN + 4)) (xs (iN + 5)) 0 ((f_L_entry (xs (iN + 1)) (xs (iN + 2)) 1 (xs (iN + 4)) (xs (iN + 5)) 0 σ).2)).2)
        else none)
      else some ((f_X8_entry (xs (iN + 1)) (xs (iN + 2)) 1 (xs (iN + 4)) (xs (iN + 5)) 0 ((f_L_entry (xs (iN + 1)) (xs (iN + 2)) 1 (xs (iN + 4)) (xs (iN + 5)) 0 σ).2)).2))
    else none)
  else if (f_X8_thrown ((f_X8_entry (xs (iN + 1)) (xs (iN + 2)) 1 (xs (iN + 4)) (xs (iN + 5)) 1 ((f_L_entry (xs (iN + 1)) (xs (iN + 2)) 1 (xs (iN + 4)) (xs (iN + 5)) 1 σ).2)).2)) = ((f_L_entry (xs (iN + 1)) (xs (iN + 2)) 1 (xs (iN + 4)) (xs (iN + 5)) 1 σ).1) then (if ((f_L_entry (xs (iN + 1)) (xs (iN + 2)) 1 (xs (iN + 4)) (xs (iN + 5)) 1 σ).1) = 0 then (if (lg_cmp ((((f_L_entry (xs (iN + 1)) (xs (iN + 2)) 1 (xs (iN + 4)) (xs (iN + 5)) 1 σ).2) 90 0 0).toInt64) (((f_X8_entry (xs (iN + 1)) (xs (iN + 2)) 1 (xs (iN + 4)) (xs (iN + 5)) 1 ((f_L_entry (xs (iN + 1)) (xs (iN + 2)) 1 (xs (iN + 4)) (xs (iN + 5)) 1 σ).2)).1).toInt64)) = 0 then some ((f_X8_entry (xs (iN + 1)) (xs (iN + 2)) 1 (xs (iN + 4)) (xs (iN + 5)) 1 ((f_L_entry (xs (iN + 1)) (xs (iN + 2)) 1 (xs (iN + 4)) (xs (iN + 5)) 1 σ).2)).2)
      else none)
    else some ((f_X8_entry (xs (iN + 1)) (xs (iN + 2)) 1 (xs (iN + 4)) (xs (iN + 5)) 1 ((f_L_entry (xs (iN + 1)) (xs (iN + 2)) 1 (xs (iN + 4)) (xs (iN + 5)) 1 σ).2)).2))
  else none
set_option maxHeartbeats 4000000 in
set_option maxRecDepth 100000 in
theorem lc_6 {p : Program} {l : Launch} (hl9 : l.stackTraces = false) {e : Env} {s : State} {m : MethodId} {below : List Frame} {meth : Method} {c : Code} {b L : Nat} {xs : Nat → Int32} {D : va_G} {ca : Nat → ClassId} {base : Nat} {ad : Adr} {Q : State → Prop} {iN : Nat} {σ : Sg} {H : Heap} {locs : List Loc} {cells slots : Nat} {ls : Array Slot} (RR : Sg → Prop) (hC : Cx p s m #[Value.ref b] meth c code 7 RL ret D ca base) (hN : Nx s) (hX : va_X b L xs s s.heap) (hbl : b < s.heap.size) (hbA : ¬ Ab base b) (hi7 : iN + 7 ≤ L) (hL9 : L ≤ 3584) (hc : cells + 40 ≤ 601024) (hs : slots + 240 ≤ 7293034) (hI : LInv σ) (hL2 : ∃ σ', g_law_6 xs iN σ = some σ' ∧ RR σ') (hW : Wd D ca (Ab base) ad ρm Lm σ H) (hS : va_S (Ab base) s.heap H locs) (hl : lv_has ls 7 [(4, .int (nI iN)), (3, .ref (ad 90 0)), (2, .ref (ad 8 0)), (1, .ref (ad 7 0)), (0, .ref b)])
    (kk : ∀ (σ' : Sg) (H1 : Heap) (locs1 : List Loc) (ls1 : Array Slot), RR σ' → Wd D ca (Ab base) ad ρm Lm σ' H1 → va_S (Ab base) s.heap H1 locs1 → lv_has ls1 7 [(4, .int (nI iN)), (3, .ref (ad 90 0)), (2, .ref (ad 8 0)), (1, .ref (ad 7 0)), (0, .ref b)] → W p l e room_1 s m #[Value.ref b] below meth c H1 locs1 (cells + 40) (slots + 240) Q (F0 m 2689 ls1 [])) : W p l e room_1 s m #[Value.ref b] below meth c H locs cells slots Q (F0 m 695 ls []) := by
  have hx := hC.1
  have hb := hC.2.1
  refine lv_aload_n hx hb dL_law_695 rfl (lv_at hl 3 rfl) ?_
  refine lv_aload_n hx hb dL_law_696 rfl (lv_at hl 4 rfl) ?_
  refine lv_iload hx hb dL_law_697 (lv_at hl 0 rfl) ?_
  refine lv_iconst (v := 1) hx hb dL_law_699 (by decide) ?_
  refine lv_iadd hx hb dL_law_700 ?_
  refine va_sld hx hb hX hbl hbA hS (vp_in_addr (a := 1) (by decide) (by omega) (by omega)) dL_law_701 ?_
  rw [cl_addr (a := 1) (by decide) (by omega)]
  refine lv_aload_n hx hb dL_law_702 rfl (lv_at hl 4 rfl) ?_
  refine lv_iload hx hb dL_law_703 (lv_at hl 0 rfl) ?_
  refine lv_iconst (v := 2) hx hb dL_law_705 (by decide) ?_
  refine lv_iadd hx hb dL_law_706 ?_
  refine va_sld hx hb hX hbl hbA hS (vp_in_addr (a := 2) (by decide) (by omega) (by omega)) dL_law_707 ?_
  rw [cl_addr (a := 2) (by decide) (by omega)]
  refine lv_aload_n hx hb dL_law_708 rfl (lv_at hl 4 rfl) ?_
  refine lv_iload hx hb dL_law_709 (lv_at hl 0 rfl) ?_
  refine lv_iconst (v := 3) hx hb dL_law_711 (by decide) ?_
  refine lv_iadd hx hb dL_law_712 ?_
  refine va_sld hx hb hX hbl hbA hS (vp_in_addr (a := 3) (by decide) (by omega) (by omega)) dL_law_713 ?_
  rw [cl_addr (a := 3) (by decide) (by omega)]
  refine lv_if_eq (tgt := 721) hx hb dL_law_714 (by decide) (fun c_1 => ?_) (fun c_1 => ?_)
  · refine lv_iconst (v := 0) hx hb dL_law_721 (by decide) ?_
    refine lv_aload_n hx hb dL_law_722 rfl (lv_at hl 4 rfl) ?_
    refine lv_iload hx hb dL_law_723 (lv_at hl 0 rfl) ?_
    refine lv_iconst (v := 4) hx hb dL_law_725 (by decide) ?_
    refine lv_iadd hx hb dL_law_726 ?_
    refine va_sld hx hb hX hbl hbA hS (vp_in_addr (a := 4) (by decide) (by omega) (by omega)) dL_law_727 ?_
    rw [cl_addr (a := 4) (by decide) (by omega)]
    refine lv_aload_n hx hb dL_law_728 rfl (lv_at hl 4 rfl) ?_
    refine lv_iload hx hb dL_law_729 (lv_at hl 0 rfl) ?_
    refine lv_iconst (v := 5) hx hb dL_law_731 (by decide) ?_
    refine lv_iadd hx hb dL_law_732 ?_
    refine va_sld hx hb hX hbl hbA hS (vp_in_addr (a := 5) (by decide) (by omega) (by omega)) dL_law_733 ?_
    rw [cl_addr (a := 5) (by decide) (by omega)]
    refine lv_aload_n hx hb dL_law_734 rfl (lv_at hl 4 rfl) ?_
    refine lv_iload hx hb dL_law_735 (lv_at hl 0 rfl) ?_
    refine lv_bipush (v := 6) hx hb dL_law_737 (by decide) ?_
    refine lv_iadd hx hb dL_law_739 ?_
    refine va_sld hx hb hX hbl hbA hS (vp_in_addr (a := 6) (by decide) (by omega) (by omega)) dL_law_740 ?_
    rw [cl_addr (a := 6) (by decide) (by omega)]
    refine lv_if_eq (tgt := 748) hx hb dL_law_741 (by decide) (fun c_2 => ?_) (fun c_2 => ?_)
    · refine lv_iconst (v := 0) hx hb dL_law_748 (by decide) ?_
      refine lv_aload_n hx hb dL_law_749 rfl (lv_at hl 1 rfl) ?_
      refine w_callL (As := [.ref (ad 7 0), .int (xs (iN + 1)), .int (xs (iN + 2)), .int 0, .int (xs (iN + 4)), .int (xs (iN + 5)), .int 0, .ref (ad 90 0)]) (rest := []) (st2 := .int ((f_L_entry (xs (iN + 1)) (xs (iN + 2)) 0 (xs (iN + 4)) (xs (iN + 5)) 0 σ).1) :: []) hC hN hW hS hl cl_L_150 (c_L_entry l hl9 D ca base ad σ (xs (iN + 1)) (xs (iN + 2)) 0 (xs (iN + 4)) (xs (iN + 5)) 0 hI.1) rfl rfl rfl ⟨Nat.le_of_ble_eq_true rfl, Nat.le_of_ble_eq_true rfl⟩ (Nat.le_of_ble_eq_true rfl) dL_law_750 ⟨by show cells + 12 ≤ 601024; omega, by show slots + 72 ≤ 7293034; omega⟩ (c2 := cells + 12) (s2 := slots + 72) rfl rfl (fun H locs hW hS => ?_)
      refine lv_istore (lv' := [(5, .int ((f_L_entry (xs (iN + 1)) (xs (iN + 2)) 0 (xs (iN + 4)) (xs (iN + 5)) 0 σ).1)), (4, .int (nI iN)), (3, .ref (ad 90 0)), (2, .ref (ad 8 0)), (1, .ref (ad 7 0)), (0, .ref b)]) hx hb dL_law_753 hl (by decide) rfl (fun ls hl => ?_)
      refine lv_aload_n hx hb dL_law_755 rfl (lv_at hl 3 rfl) ?_
      refine lv_aload_n hx hb dL_law_756 rfl (lv_at hl 5 rfl) ?_
      refine lv_iload hx hb dL_law_757 (lv_at hl 1 rfl) ?_
      refine lv_iconst (v := 1) hx hb dL_law_759 (by decide) ?_
      refine lv_iadd hx hb dL_law_760 ?_
      refine va_sld hx hb hX hbl hbA hS (vp_in_addr (a := 1) (by decide) (by omega) (by omega)) dL_law_761 ?_
      rw [cl_addr (a := 1) (by decide) (by omega)]
      refine lv_aload_n hx hb dL_law_762 rfl (lv_at hl 5 rfl) ?_
      refine lv_iload hx hb dL_law_763 (lv_at hl 1 rfl) ?_
      refine lv_iconst (v := 2) hx hb dL_law_765 (by decide) ?_
      refine lv_iadd hx hb dL_law_766 ?_
      refine va_sld hx hb hX hbl hbA hS (vp_in_addr (a := 2) (by decide) (by omega) (by omega)) dL_law_767 ?_
      rw [cl_addr (a := 2) (by decide) (by omega)]
      refine lv_aload_n hx hb dL_law_768 rfl (lv_at hl 5 rfl) ?_
      refine lv_iload hx hb dL_law_769 (lv_at hl 1 rfl) ?_
      refine lv_iconst (v := 3) hx hb dL_law_771 (by decide) ?_
      refine lv_iadd hx hb dL_law_772 ?_
      refine va_sld hx hb hX hbl hbA hS (vp_in_addr (a := 3) (by decide) (by omega) (by omega)) dL_law_773 ?_
      rw [cl_addr (a := 3) (by decide) (by omega)]
      refine lv_if_eq (tgt := 781) hx hb dL_law_774 (by decide) (fun _ => ?_) (fun c => absurd c_1 c)
      refine lv_iconst (v := 0) hx hb dL_law_781 (by decide) ?_
      refine lv_aload_n hx hb dL_law_782 rfl (lv_at hl 5 rfl) ?_
      refine lv_iload hx hb dL_law_783 (lv_at hl 1 rfl) ?_
      refine lv_iconst (v := 4) hx hb dL_law_785 (by decide) ?_
      refine lv_iadd hx hb dL_law_786 ?_
      refine va_sld hx hb hX hbl hbA hS (vp_in_addr (a := 4) (by decide) (by omega) (by omega)) dL_law_787 ?_
      rw [cl_addr (a := 4) (by decide) (by omega)]
      refine lv_aload_n hx hb dL_law_788 rfl (lv_at hl 5 rfl) ?_
      refine lv_iload hx hb dL_law_789 (lv_at hl 1 rfl) ?_
      refine lv_iconst (v := 5) hx hb dL_law_791 (by decide) ?_
      refine lv_iadd hx hb dL_law_792 ?_
      refine va_sld hx hb hX hbl hbA hS (vp_in_addr (a := 5) (by decide) (by omega) (by omega)) dL_law_793 ?_
      rw [cl_addr (a := 5) (by decide) (by omega)]
      refine lv_aload_n hx hb dL_law_794 rfl (lv_at hl 5 rfl) ?_
      refine lv_iload hx hb dL_law_795 (lv_at hl 1 rfl) ?_
      refine lv_bipush (v := 6) hx hb dL_law_797 (by decide) ?_
      refine lv_iadd hx hb dL_law_799 ?_
      refine va_sld hx hb hX hbl hbA hS (vp_in_addr (a := 6) (by decide) (by omega) (by omega)) dL_law_800 ?_
      rw [cl_addr (a := 6) (by decide) (by omega)]
      refine lv_if_eq (tgt := 808) hx hb dL_law_801 (by decide) (fun _ => ?_) (fun c => absurd c_2 c)
      refine lv_iconst (v := 0) hx hb dL_law_808 (by decide) ?_
      refine w_callVL (As := [.int (xs (iN + 1)), .int (xs (iN + 2)), .int 0, .int (xs (iN + 4)), .int (xs (iN + 5)), .int 0]) (rest := []) (st2 := .int ((f_X8_entry (xs (iN + 1)) (xs (iN + 2)) 0 (xs (iN + 4)) (xs (iN + 5)) 0 ((f_L_entry (xs (iN + 1)) (xs (iN + 2)) 0 (xs (iN + 4)) (xs (iN + 5)) 0 σ).2)).1) :: []) hC hW hS hl cv_L_153 m_8 (by decide) rfl (c_X8_entry l hl9 D ca base ad ((f_L_entry (xs (iN + 1)) (xs (iN + 2)) 0 (xs (iN + 4)) (xs (iN + 5)) 0 σ).2) (xs (iN + 1)) (xs (iN + 2)) 0 (xs (iN + 4)) (xs (iN + 5)) 0 (mi_of hI.2.2.1 (by rw [fr_L_entry (by decide) (by decide) (by decide)]) (by rw [fr_L_entry (by decide) (by decide) (by decide)]) (by rw [fr_L_entry (by decide) (by decide) (by decide)]) (by rw [fr_L_entry (by decide) (by decide) (by decide)]) (by rw [fr_L_entry (by decide) (by decide) (by decide)]) (by rw [fr_L_entry (by decide) (by decide) (by decide)]) (by rw [fr_L_entry (by decide) (by decide) (by decide)]) (by rw [fr_L_entry (by decide) (by decide) (by decide)]) (by rw [fr_L_entry (by decide) (by decide) (by decide)]) (by rw [fr_L_entry (by decide) (by decide) (by decide)]) (by rw [fr_L_entry (by decide) (by decide) (by decide)]) (by rw [fr_L_entry (by decide) (by decide) (by decide)]) (by rw [fr_L_entry (by decide) (by decide) (by decide)]) (by rw [fr_L_entry (by decide) (by decide) (by decide)]) (by rw [fr_L_entry (by decide) (by decide) (by decide)]) (by rw [fr_L_entry (by decide) (by decide) (by decide)])) (bz_fr hI.2.2.2.1 (by rw [fr_L_entry (by decide) (by decide) (by decide)]) (by rw [fr_L_entry (by decide) (by decide) (by decide)])) (by decide) (by decide)) rfl rfl rfl ⟨Nat.le_of_ble_eq_true rfl, Nat.le_of_ble_eq_true rfl⟩ (Nat.le_of_ble_eq_true rfl) dL_law_809 ⟨by show cells + 12 + 0 ≤ 601024; omega, by show slots + 72 + 0 ≤ 7293034; omega⟩ (c2 := cells + 12 + 0) (s2 := slots + 72 + 0) rfl rfl (fun H locs hW hS => ?_)
      refine lv_istore (lv' := [(6, .int ((f_X8_entry (xs (iN + 1)) (xs (iN + 2)) 0 (xs (iN + 4)) (xs (iN + 5)) 0 ((f_L_entry (xs (iN + 1)) (xs (iN + 2)) 0 (xs (iN + 4)) (xs (iN + 5)) 0 σ).2)).1)), (5, .int ((f_L_entry (xs (iN + 1)) (xs (iN + 2)) 0 (xs (iN + 4)) (xs (iN + 5)) 0 σ).1)), (4, .int (nI iN)), (3, .ref (ad 90 0)), (2, .ref (ad 8 0)), (1, .ref (ad 7 0)), (0, .ref b)]) hx hb dL_law_812 hl (by decide) rfl (fun ls hl => ?_)
      refine lv_aload_n hx hb dL_law_814 rfl (lv_at hl 4 rfl) ?_
      refine w_callVL (As := []) (rest := []) (st2 := .int (f_X8_thrown ((f_X8_entry (xs (iN + 1)) (xs (iN + 2)) 0 (xs (iN + 4)) (xs (iN + 5)) 0 ((f_L_entry (xs (iN + 1)) (xs (iN + 2)) 0 (xs (iN + 4)) (xs (iN + 5)) 0 σ).2)).2)) :: []) hC hW hS hl cv_L_127 m_8 (by decide) rfl (c_X8_thrown l hl9 D ca base ad ((f_X8_entry (xs (iN + 1)) (xs (iN + 2)) 0 (xs (iN + 4)) (xs (iN + 5)) 0 ((f_L_entry (xs (iN + 1)) (xs (iN + 2)) 0 (xs (iN + 4)) (xs (iN + 5)) 0 σ).2)).2) ) rfl rfl rfl ⟨Nat.le_of_ble_eq_true rfl, Nat.le_of_ble_eq_true rfl⟩ (Nat.le_of_ble_eq_true rfl) dL_law_815 ⟨by show cells + 12 + 0 + 0 ≤ 601024; omega, by show slots + 72 + 0 + 0 ≤ 7293034; omega⟩ (c2 := cells + 12 + 0 + 0) (s2 := slots + 72 + 0 + 0) rfl rfl (fun H locs hW hS => ?_)
      refine lv_iload hx hb dL_law_818 (lv_at hl 1 rfl) ?_
      refine lv_icmp_eq (tgt := 825) hx hb dL_law_820 (by decide) (fun c_3 => ?_) (fun c_3 => ?_)
      · refine lv_iload hx hb dL_law_825 (lv_at hl 1 rfl) ?_
        refine lv_if_ne (tgt := 842) hx hb dL_law_827 (by decide) (fun c_4 => ?_) (fun c_4 => ?_)
        · refine lv_goto (tgt := 2689) hx hb dL_law_842 (by decide) ?_
          have hO : g_law_6 xs iN σ = some ((f_X8_entry (xs (iN + 1)) (xs (iN + 2)) 0 (xs (iN + 4)) (xs (iN + 5)) 0 ((f_L_entry (xs (iN + 1)) (xs (iN + 2)) 0 (xs (iN + 4)) (xs (iN + 5)) 0 σ).2)).2) := by rw [g_law_6, if_pos c_1, if_pos c_2, if_pos c_3, if_neg c_4]
          obtain ⟨σ9, h9, hR9⟩ := hL2
          rw [hO] at h9
          cases h9
          exact W.widen (by omega) (by omega) (kk _ _ _ _ hR9 hW hS (lv_sub hl [2, 3, 4, 5, 6] rfl))
        · refine lv_aload_n hx hb dL_law_830 rfl (lv_at hl 3 rfl) ?_
          refine lv_iconst (v := 0) hx hb dL_law_831 (by decide) ?_
          refine w_lald hC hW m_90 (vp_lit (by decide)) dL_law_832 ?_
          rw [show Int32.toNatClampNeg 0 = 0 by decide, fr_X8_entry (by decide) (by decide) (by decide) (by decide) (by decide) (by decide)]
          refine lv_iload hx hb dL_law_833 (lv_at hl 0 rfl) ?_
          refine lv_i2l hx hb dL_law_835 rfl ?_
          refine W.lcmp hx hb dL_law_836 ?_
          refine lv_if_eq (tgt := 842) hx hb dL_law_837 (by decide) (fun c_5 => ?_) (fun c_5 => ?_)
          · refine lv_goto (tgt := 2689) hx hb dL_law_842 (by decide) ?_
            have hO : g_law_6 xs iN σ = some ((f_X8_entry (xs (iN + 1)) (xs (iN + 2)) 0 (xs (iN + 4)) (xs (iN + 5)) 0 ((f_L_entry (xs (iN + 1)) (xs (iN + 2)) 0 (xs (iN + 4)) (xs (iN + 5)) 0 σ).2)).2) := by rw [g_law_6, if_pos c_1, if_pos c_2, if_pos c_3, if_pos c_4, if_pos c_5]
            obtain ⟨σ9, h9, hR9⟩ := hL2
            rw [hO] at h9
            cases h9
            exact W.widen (by omega) (by omega) (kk _ _ _ _ hR9 hW hS (lv_sub hl [2, 3, 4, 5, 6] rfl))
          · refine lv_iconst (v := 0) hx hb dL_law_840 (by decide) ?_
            have hO : g_law_6 xs iN σ = none := by rw [g_law_6, if_pos c_1, if_pos c_2, if_pos c_3, if_pos c_4, if_neg c_5]
            obtain ⟨σ9, h9, hR9⟩ := hL2
            rw [hO] at h9
            cases h9
      · refine lv_iconst (v := 0) hx hb dL_law_823 (by decide) ?_
        have hO : g_law_6 xs iN σ = none := by rw [g_law_6, if_pos c_1, if_pos c_2, if_neg c_3]
        obtain ⟨σ9, h9, hR9⟩ := hL2
        rw [hO] at h9
        cases h9
    · refine lv_iconst (v := 1) hx hb dL_law_744 (by decide) ?_
      refine lv_goto (tgt := 749) hx hb dL_law_745 (by decide) ?_
      refine lv_aload_n hx hb dL_law_749 rfl (lv_at hl 1 rfl) ?_
      refine w_callL (As := [.ref (ad 7 0), .int (xs (iN + 1)), .int (xs (iN + 2)), .int 0, .int (xs (iN + 4)), .int (xs (iN + 5)), .int 1, .ref (ad 90 0)]) (rest := []) (st2 := .int ((f_L_entry (xs (iN + 1)) (xs (iN + 2)) 0 (xs (iN + 4)) (xs (iN + 5)) 1 σ).1) :: []) hC hN hW hS hl cl_L_150 (c_L_entry l hl9 D ca base ad σ (xs (iN + 1)) (xs (iN + 2)) 0 (xs (iN + 4)) (xs (iN + 5)) 1 hI.1) rfl rfl rfl ⟨Nat.le_of_ble_eq_true rfl, Nat.le_of_ble_eq_true rfl⟩ (Nat.le_of_ble_eq_true rfl) dL_law_750 ⟨by show cells + 12 ≤ 601024; omega, by show slots + 72 ≤ 7293034; omega⟩ (c2 := cells + 12) (s2 := slots + 72) rfl rfl (fun H locs hW hS => ?_)
      refine lv_istore (lv' := [(5, .int ((f_L_entry (xs (iN + 1)) (xs (iN + 2)) 0 (xs (iN + 4)) (xs (iN + 5)) 1 σ).1)), (4, .int (nI iN)), (3, .ref (ad 90 0)), (2, .ref (ad 8 0)), (1, .ref (ad 7 0)), (0, .ref b)]) hx hb dL_law_753 hl (by decide) rfl (fun ls hl => ?_)
      refine lv_aload_n hx hb dL_law_755 rfl (lv_at hl 3 rfl) ?_
      refine lv_aload_n hx hb dL_law_756 rfl (lv_at hl 5 rfl) ?_
      refine lv_iload hx hb dL_law_757 (lv_at hl 1 rfl) ?_
      refine lv_iconst (v := 1) hx hb dL_law_759 (by decide) ?_
      refine lv_iadd hx hb dL_law_760 ?_
      refine va_sld hx hb hX hbl hbA hS (vp_in_addr (a := 1) (by decide) (by omega) (by omega)) dL_law_761 ?_
      rw [cl_addr (a := 1) (by decide) (by omega)]
      refine lv_aload_n hx hb dL_law_762 rfl (lv_at hl 5 rfl) ?_
      refine lv_iload hx hb dL_law_763 (lv_at hl 1 rfl) ?_
      refine lv_iconst (v := 2) hx hb dL_law_765 (by decide) ?_
      refine lv_iadd hx hb dL_law_766 ?_
      refine va_sld hx hb hX hbl hbA hS (vp_in_addr (a := 2) (by decide) (by omega) (by omega)) dL_law_767 ?_
      rw [cl_addr (a := 2) (by decide) (by omega)]
      refine lv_aload_n hx hb dL_law_768 rfl (lv_at hl 5 rfl) ?_
      refine lv_iload hx hb dL_law_769 (lv_at hl 1 rfl) ?_
      refine lv_iconst (v := 3) hx hb dL_law_771 (by decide) ?_
      refine lv_iadd hx hb dL_law_772 ?_
      refine va_sld hx hb hX hbl hbA hS (vp_in_addr (a := 3) (by decide) (by omega) (by omega)) dL_law_773 ?_
      rw [cl_addr (a := 3) (by decide) (by omega)]
      refine lv_if_eq (tgt := 781) hx hb dL_law_774 (by decide) (fun _ => ?_) (fun c => absurd c_1 c)
      refine lv_iconst (v := 0) hx hb dL_law_781 (by decide) ?_
      refine lv_aload_n hx hb dL_law_782 rfl (lv_at hl 5 rfl) ?_
      refine lv_iload hx hb dL_law_783 (lv_at hl 1 rfl) ?_
      refine lv_iconst (v := 4) hx hb dL_law_785 (by decide) ?_
      refine lv_iadd hx hb dL_law_786 ?_
      refine va_sld hx hb hX hbl hbA hS (vp_in_addr (a := 4) (by decide) (by omega) (by omega)) dL_law_787 ?_
      rw [cl_addr (a := 4) (by decide) (by omega)]
      refine lv_aload_n hx hb dL_law_788 rfl (lv_at hl 5 rfl) ?_
      refine lv_iload hx hb dL_law_789 (lv_at hl 1 rfl) ?_
      refine lv_iconst (v := 5) hx hb dL_law_791 (by decide) ?_
      refine lv_iadd hx hb dL_law_792 ?_
      refine va_sld hx hb hX hbl hbA hS (vp_in_addr (a := 5) (by decide) (by omega) (by omega)) dL_law_793 ?_
      rw [cl_addr (a := 5) (by decide) (by omega)]
      refine lv_aload_n hx hb dL_law_794 rfl (lv_at hl 5 rfl) ?_
      refine lv_iload hx hb dL_law_795 (lv_at hl 1 rfl) ?_
      refine lv_bipush (v := 6) hx hb dL_law_797 (by decide) ?_
      refine lv_iadd hx hb dL_law_799 ?_
      refine va_sld hx hb hX hbl hbA hS (vp_in_addr (a := 6) (by decide) (by omega) (by omega)) dL_law_800 ?_
      rw [cl_addr (a := 6) (by decide) (by omega)]
      refine lv_if_eq (tgt := 808) hx hb dL_law_801 (by decide) (fun c => absurd c c_2) (fun _ => ?_)
      refine lv_iconst (v := 1) hx hb dL_law_804 (by decide) ?_
      refine lv_goto (tgt := 809) hx hb dL_law_805 (by decide) ?_
      refine w_callVL (As := [.int (xs (iN + 1)), .int (xs (iN + 2)), .int 0, .int (xs (iN + 4)), .int (xs (iN + 5)), .int 1]) (rest := []) (st2 := .int ((f_X8_entry (xs (iN + 1)) (xs (iN + 2)) 0 (xs (iN + 4)) (xs (iN + 5)) 1 ((f_L_entry (xs (iN + 1)) (xs (iN + 2)) 0 (xs (iN + 4)) (xs (iN + 5)) 1 σ).2)).1) :: []) hC hW hS hl cv_L_153 m_8 (by decide) rfl (c_X8_entry l hl9 D ca base ad ((f_L_entry (xs (iN + 1)) (xs (iN + 2)) 0 (xs (iN + 4)) (xs (iN + 5)) 1 σ).2) (xs (iN + 1)) (xs (iN + 2)) 0 (xs (iN + 4)) (xs (iN + 5)) 1 (mi_of hI.2.2.1 (by rw [fr_L_entry (by decide) (by decide) (by decide)]) (by rw [fr_L_entry (by decide) (by decide) (by decide)]) (by rw [fr_L_entry (by decide) (by decide) (by decide)]) (by rw [fr_L_entry (by decide) (by decide) (by decide)]) (by rw [fr_L_entry (by decide) (by decide) (by decide)]) (by rw [fr_L_entry (by decide) (by decide) (by decide)]) (by rw [fr_L_entry (by decide) (by decide) (by decide)]) (by rw [fr_L_entry (by decide) (by decide) (by decide)]) (by rw [fr_L_entry (by decide) (by decide) (by decide)]) (by rw [fr_L_entry (by decide) (by decide) (by decide)]) (by rw [fr_L_entry (by decide) (by decide) (by decide)]) (by rw [fr_L_entry (by decide) (by decide) (by decide)]) (by rw [fr_L_entry (by decide) (by decide) (by decide)]) (by rw [fr_L_entry (by decide) (by decide) (by decide)]) (by rw [fr_L_entry (by decide) (by decide) (by decide)]) (by rw [fr_L_entry (by decide) (by decide) (by decide)])) (bz_fr hI.2.2.2.1 (by rw [fr_L_entry (by decide) (by decide) (by decide)]) (by rw [fr_L_entry (by decide) (by decide) (by decide)])) (by decide) (by decide)) rfl rfl rfl ⟨Nat.le_of_ble_eq_true rfl, Nat.le_of_ble_eq_true rfl⟩ (Nat.le_of_ble_eq_true rfl) dL_law_809 ⟨by show cells + 12 + 0 ≤ 601024; omega, by show slots + 72 + 0 ≤ 7293034; omega⟩ (c2 := cells + 12 + 0) (s2 := slots + 72 + 0) rfl rfl (fun H locs hW hS => ?_)
      refine lv_istore (lv' := [(6, .int ((f_X8_entry (xs (iN + 1)) (xs (iN + 2)) 0 (xs (iN + 4)) (xs (iN + 5)) 1 ((f_L_entry (xs (iN + 1)) (xs (iN + 2)) 0 (xs (iN + 4)) (xs (iN + 5)) 1 σ).2)).1)), (5, .int ((f_L_entry (xs (iN + 1)) (xs (iN + 2)) 0 (xs (iN + 4)) (xs (iN + 5)) 1 σ).1)), (4, .int (nI iN)), (3, .ref (ad 90 0)), (2, .ref (ad 8 0)), (1, .ref (ad 7 0)), (0, .ref b)]) hx hb dL_law_812 hl (by decide) rfl (fun ls hl => ?_)
      refine lv_aload_n hx hb dL_law_814 rfl (lv_at hl 4 rfl) ?_
      refine w_callVL (As := []) (rest := []) (st2 := .int (f_X8_thrown ((f_X8_entry (xs (iN + 1)) (xs (iN + 2)) 0 (xs (iN + 4)) (xs (iN + 5)) 1 ((f_L_entry (xs (iN + 1)) (xs (iN + 2)) 0 (xs (iN + 4)) (xs (iN + 5)) 1 σ).2)).2)) :: []) hC hW hS hl cv_L_127 m_8 (by decide) rfl (c_X8_thrown l hl9 D ca base ad ((f_X8_entry (xs (iN + 1)) (xs (iN + 2)) 0 (xs (iN + 4)) (xs (iN + 5)) 1 ((f_L_entry (xs (iN + 1)) (xs (iN + 2)) 0 (xs (iN + 4)) (xs (iN + 5)) 1 σ).2)).2) ) rfl rfl rfl ⟨Nat.le_of_ble_eq_true rfl, Nat.le_of_ble_eq_true rfl⟩ (Nat.le_of_ble_eq_true rfl) dL_law_815 ⟨by show cells + 12 + 0 + 0 ≤ 601024; omega, by show slots + 72 + 0 + 0 ≤ 7293034; omega⟩ (c2 := cells + 12 + 0 + 0) (s2 := slots + 72 + 0 + 0) rfl rfl (fun H locs hW hS => ?_)
      refine lv_iload hx hb dL_law_818 (lv_at hl 1 rfl) ?_
      refine lv_icmp_eq (tgt := 825) hx hb dL_law_820 (by decide) (fun c_6 => ?_) (fun c_6 => ?_)
      · refine lv_iload hx hb dL_law_825 (lv_at hl 1 rfl) ?_
        refine lv_if_ne (tgt := 842) hx hb dL_law_827 (by decide) (fun c_7 => ?_) (fun c_7 => ?_)
        · refine lv_goto (tgt := 2689) hx hb dL_law_842 (by decide) ?_
          have hO : g_law_6 xs iN σ = some ((f_X8_entry (xs (iN + 1)) (xs (iN + 2)) 0 (xs (iN + 4)) (xs (iN + 5)) 1 ((f_L_entry (xs (iN + 1)) (xs (iN + 2)) 0 (xs (iN + 4)) (xs (iN + 5)) 1 σ).2)).2) := by rw [g_law_6, if_pos c_1, if_neg c_2, if_pos c_6, if_neg c_7]
          obtain ⟨σ9, h9, hR9⟩ := hL2
          rw [hO] at h9
          cases h9
          exact W.widen (by omega) (by omega) (kk _ _ _ _ hR9 hW hS (lv_sub hl [2, 3, 4, 5, 6] rfl))
        · refine lv_aload_n hx hb dL_law_830 rfl (lv_at hl 3 rfl) ?_
          refine lv_iconst (v := 0) hx hb dL_law_831 (by decide) ?_
          refine w_lald hC hW m_90 (vp_lit (by decide)) dL_law_832 ?_
          rw [show Int32.toNatClampNeg 0 = 0 by decide, fr_X8_entry (by decide) (by decide) (by decide) (by decide) (by decide) (by decide)]
          refine lv_iload hx hb dL_law_833 (lv_at hl 0 rfl) ?_
          refine lv_i2l hx hb dL_law_835 rfl ?_
          refine W.lcmp hx hb dL_law_836 ?_
          refine lv_if_eq (tgt := 842) hx hb dL_law_837 (by decide) (fun c_8 => ?_) (fun c_8 => ?_)
          · refine lv_goto (tgt := 2689) hx hb dL_law_842 (by decide) ?_
            have hO : g_law_6 xs iN σ = some ((f_X8_entry (xs (iN + 1)) (xs (iN + 2)) 0 (xs (iN + 4)) (xs (iN + 5)) 1 ((f_L_entry (xs (iN + 1)) (xs (iN + 2)) 0 (xs (iN + 4)) (xs (iN + 5)) 1 σ).2)).2) := by rw [g_law_6, if_pos c_1, if_neg c_2, if_pos c_6, if_pos c_7, if_pos c_8]
            obtain ⟨σ9, h9, hR9⟩ := hL2
            rw [hO] at h9
            cases h9
            exact W.widen (by omega) (by omega) (kk _ _ _ _ hR9 hW hS (lv_sub hl [2, 3, 4, 5, 6] rfl))
          · refine lv_iconst (v := 0) hx hb dL_law_840 (by decide) ?_
            have hO : g_law_6 xs iN σ = none := by rw [g_law_6, if_pos c_1, if_neg c_2, if_pos c_6, if_pos c_7, if_neg c_8]
            obtain ⟨σ9, h9, hR9⟩ := hL2
            rw [hO] at h9
            cases h9
      · refine lv_iconst (v := 0) hx hb dL_law_823 (by decide) ?_
        have hO : g_law_6 xs iN σ = none := by rw [g_law_6, if_pos c_1, if_neg c_2, if_neg c_6]
        obtain ⟨σ9, h9, hR9⟩ := hL2
        rw [hO] at h9
        cases h9
  · refine lv_iconst (v := 1) hx hb dL_law_717 (by decide) ?_
    refine lv_goto (tgt := 722) hx hb dL_law_718 (by decide) ?_
    refine lv_aload_n hx hb dL_law_722 rfl (lv_at hl 4 rfl) ?_
    refine lv_iload hx hb dL_law_723 (lv_at hl 0 rfl) ?_
    refine lv_iconst (v := 4) hx hb dL_law_725 (by decide) ?_
    refine lv_iadd hx hb dL_law_726 ?_
    refine va_sld hx hb hX hbl hbA hS (vp_in_addr (a := 4) (by decide) (by omega) (by omega)) dL_law_727 ?_
    rw [cl_addr (a := 4) (by decide) (by omega)]
    refine lv_aload_n hx hb dL_law_728 rfl (lv_at hl 4 rfl) ?_
    refine lv_iload hx hb dL_law_729 (lv_at hl 0 rfl) ?_
    refine lv_iconst (v := 5) hx hb dL_law_731 (by decide) ?_
    refine lv_iadd hx hb dL_law_732 ?_
    refine va_sld hx hb hX hbl hbA hS (vp_in_addr (a := 5) (by decide) (by omega) (by omega)) dL_law_733 ?_
    rw [cl_addr (a := 5) (by decide) (by omega)]
    refine lv_aload_n hx hb dL_law_734 rfl (lv_at hl 4 rfl) ?_
    refine lv_iload hx hb dL_law_735 (lv_at hl 0 rfl) ?_
    refine lv_bipush (v := 6) hx hb dL_law_737 (by decide) ?_
    refine lv_iadd hx hb dL_law_739 ?_
    refine va_sld hx hb hX hbl hbA hS (vp_in_addr (a := 6) (by decide) (by omega) (by omega)) dL_law_740 ?_
    rw [cl_addr (a := 6) (by decide) (by omega)]
    refine lv_if_eq (tgt := 748) hx hb dL_law_741 (by decide) (fun c_9 => ?_) (fun c_9 => ?_)
    · refine lv_iconst (v := 0) hx hb dL_law_748 (by decide) ?_
      refine lv_aload_n hx hb dL_law_749 rfl (lv_at hl 1 rfl) ?_
      refine w_callL (As := [.ref (ad 7 0), .int (xs (iN + 1)), .int (xs (iN + 2)), .int 1, .int (xs (iN + 4)), .int (xs (iN + 5)), .int 0, .ref (ad 90 0)]) (rest := []) (st2 := .int ((f_L_entry (xs (iN + 1)) (xs (iN + 2)) 1 (xs (iN + 4)) (xs (iN + 5)) 0 σ).1) :: []) hC hN hW hS hl cl_L_150 (c_L_entry l hl9 D ca base ad σ (xs (iN + 1)) (xs (iN + 2)) 1 (xs (iN + 4)) (xs (iN + 5)) 0 hI.1) rfl rfl rfl ⟨Nat.le_of_ble_eq_true rfl, Nat.le_of_ble_eq_true rfl⟩ (Nat.le_of_ble_eq_true rfl) dL_law_750 ⟨by show cells + 12 ≤ 601024; omega, by show slots + 72 ≤ 7293034; omega⟩ (c2 := cells + 12) (s2 := slots + 72) rfl rfl (fun H locs hW hS => ?_)
      refine lv_istore (lv' := [(5, .int ((f_L_entry (xs (iN + 1)) (xs (iN + 2)) 1 (xs (iN + 4)) (xs (iN + 5)) 0 σ).1)), (4, .int (nI iN)), (3, .ref (ad 90 0)), (2, .ref (ad 8 0)), (1, .ref (ad 7 0)), (0, .ref b)]) hx hb dL_law_753 hl (by decide) rfl (fun ls hl => ?_)
      refine lv_aload_n hx hb dL_law_755 rfl (lv_at hl 3 rfl) ?_
      refine lv_aload_n hx hb dL_law_756 rfl (lv_at hl 5 rfl) ?_
      refine lv_iload hx hb dL_law_757 (lv_at hl 1 rfl) ?_
      refine lv_iconst (v := 1) hx hb dL_law_759 (by decide) ?_
      refine lv_iadd hx hb dL_law_760 ?_
      refine va_sld hx hb hX hbl hbA hS (vp_in_addr (a := 1) (by decide) (by omega) (by omega)) dL_law_761 ?_
      rw [cl_addr (a := 1) (by decide) (by omega)]
      refine lv_aload_n hx hb dL_law_762 rfl (lv_at hl 5 rfl) ?_
      refine lv_iload hx hb dL_law_763 (lv_at hl 1 rfl) ?_
      refine lv_iconst (v := 2) hx hb dL_law_765 (by decide) ?_
      refine lv_iadd hx hb dL_law_766 ?_
      refine va_sld hx hb hX hbl hbA hS (vp_in_addr (a := 2) (by decide) (by omega) (by omega)) dL_law_767 ?_
      rw [cl_addr (a := 2) (by decide) (by omega)]
      refine lv_aload_n hx hb dL_law_768 rfl (lv_at hl 5 rfl) ?_
      refine lv_iload hx hb dL_law_769 (lv_at hl 1 rfl) ?_
      refine lv_iconst (v := 3) hx hb dL_law_771 (by decide) ?_
      refine lv_iadd hx hb dL_law_772 ?_
      refine va_sld hx hb hX hbl hbA hS (vp_in_addr (a := 3) (by decide) (by omega) (by omega)) dL_law_773 ?_
      rw [cl_addr (a := 3) (by decide) (by omega)]
      refine lv_if_eq (tgt := 781) hx hb dL_law_774 (by decide) (fun c => absurd c c_1) (fun _ => ?_)
      refine lv_iconst (v := 1) hx hb dL_law_777 (by decide) ?_
      refine lv_goto (tgt := 782) hx hb dL_law_778 (by decide) ?_
      refine lv_aload_n hx hb dL_law_782 rfl (lv_at hl 5 rfl) ?_
      refine lv_iload hx hb dL_law_783 (lv_at hl 1 rfl) ?_
      refine lv_iconst (v := 4) hx hb dL_law_785 (by decide) ?_
      refine lv_iadd hx hb dL_law_786 ?_
      refine va_sld hx hb hX hbl hbA hS (vp_in_addr (a := 4) (by decide) (by omega) (by omega)) dL_law_787 ?_
      rw [cl_addr (a := 4) (by decide) (by omega)]
      refine lv_aload_n hx hb dL_law_788 rfl (lv_at hl 5 rfl) ?_
      refine lv_iload hx hb dL_law_789 (lv_at hl 1 rfl) ?_
      refine lv_iconst (v := 5) hx hb dL_law_791 (by decide) ?_
      refine lv_iadd hx hb dL_law_792 ?_
      refine va_sld hx hb hX hbl hbA hS (vp_in_addr (a := 5) (by decide) (by omega) (by omega)) dL_law_793 ?_
      rw [cl_addr (a := 5) (by decide) (by omega)]
      refine lv_aload_n hx hb dL_law_794 rfl (lv_at hl 5 rfl) ?_
      refine lv_iload hx hb dL_law_795 (lv_at hl 1 rfl) ?_
      refine lv_bipush (v := 6) hx hb dL_law_797 (by decide) ?_
      refine lv_iadd hx hb dL_law_799 ?_
      refine va_sld hx hb hX hbl hbA hS (vp_in_addr (a := 6) (by decide) (by omega) (by omega)) dL_law_800 ?_
      rw [cl_addr (a := 6) (by decide) (by omega)]
      refine lv_if_eq (tgt := 808) hx hb dL_law_801 (by decide) (fun _ => ?_) (fun c => absurd c_9 c)
      refine lv_iconst (v := 0) hx hb dL_law_808 (by decide) ?_
      refine w_callVL (As := [.int (xs (iN + 1)), .int (xs (iN + 2)), .int 1, .int (xs (iN + 4)), .int (xs (iN + 5)), .int 0]) (rest := []) (st2 := .int ((f_X8_entry (xs (iN + 1)) (xs (iN + 2)) 1 (xs (iN + 4)) (xs (iN + 5)) 0 ((f_L_entry (xs (iN + 1)) (xs (iN + 2)) 1 (xs (iN + 4)) (xs (iN + 5)) 0 σ).2)).1) :: []) hC hW hS hl cv_L_153 m_8 (by decide) rfl (c_X8_entry l hl9 D ca base ad ((f_L_entry (xs (iN + 1)) (xs (iN + 2)) 1 (xs (iN + 4)) (xs (iN + 5)) 0 σ).2) (xs (iN + 1)) (xs (iN + 2)) 1 (xs (iN + 4)) (xs (iN + 5)) 0 (mi_of hI.2.2.1 (by rw [fr_L_entry (by decide) (by decide) (by decide)]) (by rw [fr_L_entry (by decide) (by decide) (by decide)]) (by rw [fr_L_entry (by decide) (by decide) (by decide)]) (by rw [fr_L_entry (by decide) (by decide) (by decide)]) (by rw [fr_L_entry (by decide) (by decide) (by decide)]) (by rw [fr_L_entry (by decide) (by decide) (by decide)]) (by rw [fr_L_entry (by decide) (by decide) (by decide)]) (by rw [fr_L_entry (by decide) (by decide) (by decide)]) (by rw [fr_L_entry (by decide) (by decide) (by decide)]) (by rw [fr_L_entry (by decide) (by decide) (by decide)]) (by rw [fr_L_entry (by decide) (by decide) (by decide)]) (by rw [fr_L_entry (by decide) (by decide) (by decide)]) (by rw [fr_L_entry (by decide) (by decide) (by decide)]) (by rw [fr_L_entry (by decide) (by decide) (by decide)]) (by rw [fr_L_entry (by decide) (by decide) (by decide)]) (by rw [fr_L_entry (by decide) (by decide) (by decide)])) (bz_fr hI.2.2.2.1 (by rw [fr_L_entry (by decide) (by decide) (by decide)]) (by rw [fr_L_entry (by decide) (by decide) (by decide)])) (by decide) (by decide)) rfl rfl rfl ⟨Nat.le_of_ble_eq_true rfl, Nat.le_of_ble_eq_true rfl⟩ (Nat.le_of_ble_eq_true rfl) dL_law_809 ⟨by show cells + 12 + 0 ≤ 601024; omega, by show slots + 72 + 0 ≤ 7293034; omega⟩ (c2 := cells + 12 + 0) (s2 := slots + 72 + 0) rfl rfl (fun H locs hW hS => ?_)
      refine lv_istore (lv' := [(6, .int ((f_X8_entry (xs (iN + 1)) (xs (iN + 2)) 1 (xs (iN + 4)) (xs (iN + 5)) 0 ((f_L_entry (xs (iN + 1)) (xs (iN + 2)) 1 (xs (iN + 4)) (xs (iN + 5)) 0 σ).2)).1)), (5, .int ((f_L_entry (xs (iN + 1)) (xs (iN + 2)) 1 (xs (iN + 4)) (xs (iN + 5)) 0 σ).1)), (4, .int (nI iN)), (3, .ref (ad 90 0)), (2, .ref (ad 8 0)), (1, .ref (ad 7 0)), (0, .ref b)]) hx hb dL_law_812 hl (by decide) rfl (fun ls hl => ?_)
      refine lv_aload_n hx hb dL_law_814 rfl (lv_at hl 4 rfl) ?_
      refine w_callVL (As := []) (rest := []) (st2 := .int (f_X8_thrown ((f_X8_entry (xs (iN + 1)) (xs (iN + 2)) 1 (xs (iN + 4)) (xs (iN + 5)) 0 ((f_L_entry (xs (iN + 1)) (xs (iN + 2)) 1 (xs (iN + 4)) (xs (iN + 5)) 0 σ).2)).2)) :: []) hC hW hS hl cv_L_127 m_8 (by decide) rfl (c_X8_thrown l hl9 D ca base ad ((f_X8_entry (xs (iN + 1)) (xs (iN + 2)) 1 (xs (iN + 4)) (xs (iN + 5)) 0 ((f_L_entry (xs (iN + 1)) (xs (iN + 2)) 1 (xs (iN + 4)) (xs (iN + 5)) 0 σ).2)).2) ) rfl rfl rfl ⟨Nat.le_of_ble_eq_true rfl, Nat.le_of_ble_eq_true rfl⟩ (Nat.le_of_ble_eq_true rfl) dL_law_815 ⟨by show cells + 12 + 0 + 0 ≤ 601024; omega, by show slots + 72 + 0 + 0 ≤ 7293034; omega⟩ (c2 := cells + 12 + 0 + 0) (s2 := slots + 72 + 0 + 0) rfl rfl (fun H locs hW hS => ?_)
      refine lv_iload hx hb dL_law_818 (lv_at hl 1 rfl) ?_
      refine lv_icmp_eq (tgt := 825) hx hb dL_law_820 (by decide) (fun c_10 => ?_) (fun c_10 => ?_)
      · refine lv_iload hx hb dL_law_825 (lv_at hl 1 rfl) ?_
        refine lv_if_ne (tgt := 842) hx hb dL_law_827 (by decide) (fun c_11 => ?_) (fun c_11 => ?_)
        · refine lv_goto (tgt := 2689) hx hb dL_law_842 (by decide) ?_
          have hO : g_law_6 xs iN σ = some ((f_X8_entry (xs (iN + 1)) (xs (iN + 2)) 1 (xs (iN + 4)) (xs (iN + 5)) 0 ((f_L_entry (xs (iN + 1)) (xs (iN + 2)) 1 (xs (iN + 4)) (xs (iN + 5)) 0 σ).2)).2) := by rw [g_law_6, if_neg c_1, if_pos c_9, if_pos c_10, if_neg c_11]
          obtain ⟨σ9, h9, hR9⟩ := hL2
          rw [hO] at h9
          cases h9
          exact W.widen (by omega) (by omega) (kk _ _ _ _ hR9 hW hS (lv_sub hl [2, 3, 4, 5, 6] rfl))
        · refine lv_aload_n hx hb dL_law_830 rfl (lv_at hl 3 rfl) ?_
          refine lv_iconst (v := 0) hx hb dL_law_831 (by decide) ?_
          refine w_lald hC hW m_90 (vp_lit (by decide)) dL_law_832 ?_
          rw [show Int32.toNatClampNeg 0 = 0 by decide, fr_X8_entry (by decide) (by decide) (by decide) (by decide) (by decide) (by decide)]
          refine lv_iload hx hb dL_law_833 (lv_at hl 0 rfl) ?_
          refine lv_i2l hx hb dL_law_835 rfl ?_
          refine W.lcmp hx hb dL_law_836 ?_
          refine lv_if_eq (tgt := 842) hx hb dL_law_837 (by decide) (fun c_12 => ?_) (fun c_12 => ?_)
          · refine lv_goto (tgt := 2689) hx hb dL_law_842 (by decide) ?_
            have hO : g_law_6 xs iN σ = some ((f_X8_entry (xs (iN + 1)) (xs (iN + 2)) 1 (xs (iN + 4)) (xs (iN + 5)) 0 ((f_L_entry (xs (iN + 1)) (xs (iN + 2)) 1 (xs (iN + 4)) (xs (iN + 5)) 0 σ).2)).2) := by rw [g_law_6, if_neg c_1, if_pos c_9, if_pos c_10, if_pos c_11, if_pos c_12]
            obtain ⟨σ9, h9, hR9⟩ := hL2
            rw [hO] at h9
            cases h9
            exact W.widen (by omega) (by omega) (kk _ _ _ _ hR9 hW hS (lv_sub hl [2, 3, 4, 5, 6] rfl))
          · refine lv_iconst (v := 0) hx hb dL_law_840 (by decide) ?_
            have hO : g_law_6 xs iN σ = none := by rw [g_law_6, if_neg c_1, if_pos c_9, if_pos c_10, if_pos c_11, if_neg c_12]
            obtain ⟨σ9, h9, hR9⟩ := hL2
            rw [hO] at h9
            cases h9
      · refine lv_iconst (v := 0) hx hb dL_law_823 (by decide) ?_
        have hO : g_law_6 xs iN σ = none := by rw [g_law_6, if_neg c_1, if_pos c_9, if_neg c_10]
        obtain ⟨σ9, h9, hR9⟩ := hL2
        rw [hO] at h9
        cases h9
    · refine lv_iconst (v := 1) hx hb dL_law_744 (by decide) ?_
      refine lv_goto (tgt := 749) hx hb dL_law_745 (by decide) ?_
      refine lv_aload_n hx hb dL_law_749 rfl (lv_at hl 1 rfl) ?_
      refine w_callL (As := [.ref (ad 7 0), .int (xs (iN + 1)), .int (xs (iN + 2)), .int 1, .int (xs (iN + 4)), .int (xs (iN + 5)), .int 1, .ref (ad 90 0)]) (rest := []) (st2 := .int ((f_L_entry (xs (iN + 1)) (xs (iN + 2)) 1 (xs (iN + 4)) (xs (iN + 5)) 1 σ).1) :: []) hC hN hW hS hl cl_L_150 (c_L_entry l hl9 D ca base ad σ (xs (iN + 1)) (xs (iN + 2)) 1 (xs (iN + 4)) (xs (iN + 5)) 1 hI.1) rfl rfl rfl ⟨Nat.le_of_ble_eq_true rfl, Nat.le_of_ble_eq_true rfl⟩ (Nat.le_of_ble_eq_true rfl) dL_law_750 ⟨by show cells + 12 ≤ 601024; omega, by show slots + 72 ≤ 7293034; omega⟩ (c2 := cells + 12) (s2 := slots + 72) rfl rfl (fun H locs hW hS => ?_)
      refine lv_istore (lv' := [(5, .int ((f_L_entry (xs (iN + 1)) (xs (iN + 2)) 1 (xs (iN + 4)) (xs (iN + 5)) 1 σ).1)), (4, .int (nI iN)), (3, .ref (ad 90 0)), (2, .ref (ad 8 0)), (1, .ref (ad 7 0)), (0, .ref b)]) hx hb dL_law_753 hl (by decide) rfl (fun ls hl => ?_)
      refine lv_aload_n hx hb dL_law_755 rfl (lv_at hl 3 rfl) ?_
      refine lv_aload_n hx hb dL_law_756 rfl (lv_at hl 5 rfl) ?_
      refine lv_iload hx hb dL_law_757 (lv_at hl 1 rfl) ?_
      refine lv_iconst (v := 1) hx hb dL_law_759 (by decide) ?_
      refine lv_iadd hx hb dL_law_760 ?_
      refine va_sld hx hb hX hbl hbA hS (vp_in_addr (a := 1) (by decide) (by omega) (by omega)) dL_law_761 ?_
      rw [cl_addr (a := 1) (by decide) (by omega)]
      refine lv_aload_n hx hb dL_law_762 rfl (lv_at hl 5 rfl) ?_
      refine lv_iload hx hb dL_law_763 (lv_at hl 1 rfl) ?_
      refine lv_iconst (v := 2) hx hb dL_law_765 (by decide) ?_
      refine lv_iadd hx hb dL_law_766 ?_
      refine va_sld hx hb hX hbl hbA hS (vp_in_addr (a := 2) (by decide) (by omega) (by omega)) dL_law_767 ?_
      rw [cl_addr (a := 2) (by decide) (by omega)]
      refine lv_aload_n hx hb dL_law_768 rfl (lv_at hl 5 rfl) ?_
      refine lv_iload hx hb dL_law_769 (lv_at hl 1 rfl) ?_
      refine lv_iconst (v := 3) hx hb dL_law_771 (by decide) ?_
      refine lv_iadd hx hb dL_law_772 ?_
      refine va_sld hx hb hX hbl hbA hS (vp_in_addr (a := 3) (by decide) (by omega) (by omega)) dL_law_773 ?_
      rw [cl_addr (a := 3) (by decide) (by omega)]
      refine lv_if_eq (tgt := 781) hx hb dL_law_774 (by decide) (fun c => absurd c c_1) (fun _ => ?_)
      refine lv_iconst (v := 1) hx hb dL_law_777 (by decide) ?_
      refine lv_goto (tgt := 782) hx hb dL_law_778 (by decide) ?_
      refine lv_aload_n hx hb dL_law_782 rfl (lv_at hl 5 rfl) ?_
      refine lv_iload hx hb dL_law_783 (lv_at hl 1 rfl) ?_
      refine lv_iconst (v := 4) hx hb dL_law_785 (by decide) ?_
      refine lv_iadd hx hb dL_law_786 ?_
      refine va_sld hx hb hX hbl hbA hS (vp_in_addr (a := 4) (by decide) (by omega) (by omega)) dL_law_787 ?_
      rw [cl_addr (a := 4) (by decide) (by omega)]
      refine lv_aload_n hx hb dL_law_788 rfl (lv_at hl 5 rfl) ?_
      refine lv_iload hx hb dL_law_789 (lv_at hl 1 rfl) ?_
      refine lv_iconst (v := 5) hx hb dL_law_791 (by decide) ?_
      refine lv_iadd hx hb dL_law_792 ?_
      refine va_sld hx hb hX hbl hbA hS (vp_in_addr (a := 5) (by decide) (by omega) (by omega)) dL_law_793 ?_
      rw [cl_addr (a := 5) (by decide) (by omega)]
      refine lv_aload_n hx hb dL_law_794 rfl (lv_at hl 5 rfl) ?_
      refine lv_iload hx hb dL_law_795 (lv_at hl 1 rfl) ?_
      refine lv_bipush (v := 6) hx hb dL_law_797 (by decide) ?_
      refine lv_iadd hx hb dL_law_799 ?_
      refine va_sld hx hb hX hbl hbA hS (vp_in_addr (a := 6) (by decide) (by omega) (by omega)) dL_law_800 ?_
      rw [cl_addr (a := 6) (by decide) (by omega)]
      refine lv_if_eq (tgt := 808) hx hb dL_law_801 (by decide) (fun c => absurd c c_9) (fun _ => ?_)
      refine lv_iconst (v := 1) hx hb dL_law_804 (by decide) ?_
      refine lv_goto (tgt := 809) hx hb dL_law_805 (by decide) ?_
      refine w_callVL (As := [.int (xs (iN + 1)), .int (xs (iN + 2)), .int 1, .int (xs (iN + 4)), .int (xs (iN + 5)), .int 1]) (rest := []) (st2 := .int ((f_X8_entry (xs (iN + 1)) (xs (iN + 2)) 1 (xs (iN + 4)) (xs (iN + 5)) 1 ((f_L_entry (xs (iN + 1)) (xs (iN + 2)) 1 (xs (iN + 4)) (xs (iN + 5)) 1 σ).2)).1) :: []) hC hW hS hl cv_L_153 m_8 (by decide) rfl (c_X8_entry l hl9 D ca base ad ((f_L_entry (xs (iN + 1)) (xs (iN + 2)) 1 (xs (iN + 4)) (xs (iN + 5)) 1 σ).2) (xs (iN + 1)) (xs (iN + 2)) 1 (xs (iN + 4)) (xs (iN + 5)) 1 (mi_of hI.2.2.1 (by rw [fr_L_entry (by decide) (by decide) (by decide)]) (by rw [fr_L_entry (by decide) (by decide) (by decide)]) (by rw [fr_L_entry (by decide) (by decide) (by decide)]) (by rw [fr_L_entry (by decide) (by decide) (by decide)]) (by rw [fr_L_entry (by decide) (by decide) (by decide)]) (by rw [fr_L_entry (by decide) (by decide) (by decide)]) (by rw [fr_L_entry (by decide) (by decide) (by decide)]) (by rw [fr_L_entry (by decide) (by decide) (by decide)]) (by rw [fr_L_entry (by decide) (by decide) (by decide)]) (by rw [fr_L_entry (by decide) (by decide) (by decide)]) (by rw [fr_L_entry (by decide) (by decide) (by decide)]) (by rw [fr_L_entry (by decide) (by decide) (by decide)]) (by rw [fr_L_entry (by decide) (by decide) (by decide)]) (by rw [fr_L_entry (by decide) (by decide) (by decide)]) (by rw [fr_L_entry (by decide) (by decide) (by decide)]) (by rw [fr_L_entry (by decide) (by decide) (by decide)])) (bz_fr hI.2.2.2.1 (by rw [fr_L_entry (by decide) (by decide) (by decide)]) (by rw [fr_L_entry (by decide) (by decide) (by decide)])) (by decide) (by decide)) rfl rfl rfl ⟨Nat.le_of_ble_eq_true rfl, Nat.le_of_ble_eq_true rfl⟩ (Nat.le_of_ble_eq_true rfl) dL_law_809 ⟨by show cells + 12 + 0 ≤ 601024; omega, by show slots + 72 + 0 ≤ 7293034; omega⟩ (c2 := cells + 12 + 0) (s2 := slots + 72 + 0) rfl rfl (fun H locs hW hS => ?_)
      refine lv_istore (lv' := [(6, .int ((f_X8_entry (xs (iN + 1)) (xs (iN + 2)) 1 (xs (iN + 4)) (xs (iN + 5)) 1 ((f_L_entry (xs (iN + 1)) (xs (iN + 2)) 1 (xs (iN + 4)) (xs (iN + 5)) 1 σ).2)).1)), (5, .int ((f_L_entry (xs (iN + 1)) (xs (iN + 2)) 1 (xs (iN + 4)) (xs (iN + 5)) 1 σ).1)), (4, .int (nI iN)), (3, .ref (ad 90 0)), (2, .ref (ad 8 0)), (1, .ref (ad 7 0)), (0, .ref b)]) hx hb dL_law_812 hl (by decide) rfl (fun ls hl => ?_)
      refine lv_aload_n hx hb dL_law_814 rfl (lv_at hl 4 rfl) ?_
      refine w_callVL (As := []) (rest := []) (st2 := .int (f_X8_thrown ((f_X8_entry (xs (iN + 1)) (xs (iN + 2)) 1 (xs (iN + 4)) (xs (iN + 5)) 1 ((f_L_entry (xs (iN + 1)) (xs (iN + 2)) 1 (xs (iN + 4)) (xs (iN + 5)) 1 σ).2)).2)) :: []) hC hW hS hl cv_L_127 m_8 (by decide) rfl (c_X8_thrown l hl9 D ca base ad ((f_X8_entry (xs (iN + 1)) (xs (iN + 2)) 1 (xs (iN + 4)) (xs (iN + 5)) 1 ((f_L_entry (xs (iN + 1)) (xs (iN + 2)) 1 (xs (iN + 4)) (xs (iN + 5)) 1 σ).2)).2) ) rfl rfl rfl ⟨Nat.le_of_ble_eq_true rfl, Nat.le_of_ble_eq_true rfl⟩ (Nat.le_of_ble_eq_true rfl) dL_law_815 ⟨by show cells + 12 + 0 + 0 ≤ 601024; omega, by show slots + 72 + 0 + 0 ≤ 7293034; omega⟩ (c2 := cells + 12 + 0 + 0) (s2 := slots + 72 + 0 + 0) rfl rfl (fun H locs hW hS => ?_)
      refine lv_iload hx hb dL_law_818 (lv_at hl 1 rfl) ?_
      refine lv_icmp_eq (tgt := 825) hx hb dL_law_820 (by decide) (fun c_13 => ?_) (fun c_13 => ?_)
      · refine lv_iload hx hb dL_law_825 (lv_at hl 1 rfl) ?_
        refine lv_if_ne (tgt := 842) hx hb dL_law_827 (by decide) (fun c_14 => ?_) (fun c_14 => ?_)
        · refine lv_goto (tgt := 2689) hx hb dL_law_842 (by decide) ?_
          have hO : g_law_6 xs iN σ = some ((f_X8_entry (xs (iN + 1)) (xs (iN + 2)) 1 (xs (iN + 4)) (xs (iN + 5)) 1 ((f_L_entry (xs (iN + 1)) (xs (iN + 2)) 1 (xs (iN + 4)) (xs (iN + 5)) 1 σ).2)).2) := by rw [g_law_6, if_neg c_1, if_neg c_9, if_pos c_13, if_neg c_14]
          obtain ⟨σ9, h9, hR9⟩ := hL2
          rw [hO] at h9
          cases h9
          exact W.widen (by omega) (by omega) (kk _ _ _ _ hR9 hW hS (lv_sub hl [2, 3, 4, 5, 6] rfl))
        · refine lv_aload_n hx hb dL_law_830 rfl (lv_at hl 3 rfl) ?_
          refine lv_iconst (v := 0) hx hb dL_law_831 (by decide) ?_
          refine w_lald hC hW m_90 (vp_lit (by decide)) dL_law_832 ?_
          rw [show Int32.toNatClampNeg 0 = 0 by decide, fr_X8_entry (by decide) (by decide) (by decide) (by decide) (by decide) (by decide)]
          refine lv_iload hx hb dL_law_833 (lv_at hl 0 rfl) ?_
          refine lv_i2l hx hb dL_law_835 rfl ?_
          refine W.lcmp hx hb dL_law_836 ?_
          refine lv_if_eq (tgt := 842) hx hb dL_law_837 (by decide) (fun c_15 => ?_) (fun c_15 => ?_)
          · refine lv_goto (tgt := 2689) hx hb dL_law_842 (by decide) ?_
            have hO : g_law_6 xs iN σ = some ((f_X8_entry (xs (iN + 1)) (xs (iN + 2)) 1 (xs (iN + 4)) (xs (iN + 5)) 1 ((f_L_entry (xs (iN + 1)) (xs (iN + 2)) 1 (xs (iN + 4)) (xs (iN + 5)) 1 σ).2)).2) := by rw [g_law_6, if_neg c_1, if_neg c_9, if_pos c_13, if_pos c_14, if_pos c_15]
            obtain ⟨σ9, h9, hR9⟩ := hL2
            rw [hO] at h9
            cases h9
            exact W.widen (by omega) (by omega) (kk _ _ _ _ hR9 hW hS (lv_sub hl [2, 3, 4, 5, 6] rfl))
          · refine lv_iconst (v := 0) hx hb dL_law_840 (by decide) ?_
            have hO : g_law_6 xs iN σ = none := by rw [g_law_6, if_neg c_1, if_neg c_9, if_pos c_13, if_pos c_14, if_neg c_15]
            obtain ⟨σ9, h9, hR9⟩ := hL2
            rw [hO] at h9
            cases h9
      · refine lv_iconst (v := 0) hx hb dL_law_823 (by decide) ?_
        have hO : g_law_6 xs iN σ = none := by rw [g_law_6, if_neg c_1, if_neg c_9, if_neg c_13]
        obtain ⟨σ9, h9, hR9⟩ := hL2
        rw [hO] at h9
        cases h9
def g_law_7 (xs : Nat → Int32) (iN : Nat) (σ : Sg) : Option Sg :=
  if (f_X8_thrown ((f_X8_give (xs (iN + 1)) (xs (iN + 2)) (xs (iN + 3)) ((f_L_give (xs (iN + 1)) (xs (iN + 2)) (xs (iN + 3)) σ).2)).2)) = ((f_L_give (xs (iN + 1)) (xs (iN + 2)) (xs (iN + 3)) σ).1) then (if ((f_L_give (xs (iN + 1)) (xs (iN + 2)) (xs (iN + 3)) σ).1) = 0 then (if (lg_cmp ((((f_L_give (xs (iN + 1)) (xs (iN + 2)) (xs (iN + 3)) σ).2) 90 0 0).toInt64) (((f_X8_give (xs (iN + 1)) (xs (iN + 2)) (xs (iN + 3)) ((f_L_give (xs (iN + 1)) (xs (iN + 2)) (xs (iN + 3)) σ).2)).1).toInt64)) = 0 then some ((f_X8_give (xs (iN + 1)) (xs (iN + 2)) (xs (iN + 3)) ((f_L_give (xs (iN + 1)) (xs (iN + 2)) (xs (iN + 3)) σ).2)).2)
      else none)
    else some ((f_X8_give (xs (iN + 1)) (xs (iN + 2)) (xs (iN + 3)) ((f_L_give (xs (iN + 1)) (xs (iN + 2)) (xs (iN + 3)) σ).2)).2))
  else none
set_option maxHeartbeats 4000000 in
set_option maxRecDepth 100000 in
theorem lc_7 {p : Program} {l : Launch} (hl9 : l.stackTraces = false) {e : Env} {s : State} {m : MethodId} {below : List Frame} {meth : Method} {c : Code} {b L : Nat} {xs : Nat → Int32} {D : va_G} {ca : Nat → ClassId} {base : Nat} {ad : Adr} {Q : State → Prop} {iN : Nat} {σ : Sg} {H : Heap} {locs : List Loc} {cells slots : Nat} {ls : Array Slot} (RR : Sg → Prop) (hC : Cx p s m #[Value.ref b] meth c code 7 RL ret D ca base) (hN : Nx s) (hX : va_X b L xs s s.heap) (hbl : b < s.heap.size) (hbA : ¬ Ab base b) (hi7 : iN + 7 ≤ L) (hL9 : L ≤ 3584) (hc : cells + 40 ≤ 601024) (hs : slots + 240 ≤ 7293034) (hI : LInv σ) (hL2 : ∃ σ', g_law_7 xs iN σ = some σ' ∧ RR σ') (hW : Wd D ca (Ab base) ad ρm Lm σ H) (hS : va_S (Ab base) s.heap H locs) (hl : lv_has ls 7 [(4, .int (nI iN)), (3, .ref (ad 90 0)), (2, .ref (ad 8 0)), (1, .ref (ad 7 0)), (0, .ref b)])
    (kk : ∀ (σ' : Sg) (H1 : Heap) (locs1 : List Loc) (ls1 : Array Slot), RR σ' → Wd D ca (Ab base) ad ρm Lm σ' H1 → va_S (Ab base) s.heap H1 locs1 → lv_has ls1 7 [(4, .int (nI iN)), (3, .ref (ad 90 0)), (2, .ref (ad 8 0)), (1, .ref (ad 7 0)), (0, .ref b)] → W p l e room_1 s m #[Value.ref b] below meth c H1 locs1 (cells + 40) (slots + 240) Q (F0 m 2689 ls1 [])) : W p l e room_1 s m #[Value.ref b] below meth c H locs cells slots Q (F0 m 845 ls []) := by
  have hx := hC.1
  have hb := hC.2.1
  refine lv_aload_n hx hb dL_law_845 rfl (lv_at hl 3 rfl) ?_
  refine lv_aload_n hx hb dL_law_846 rfl (lv_at hl 4 rfl) ?_
  refine lv_iload hx hb dL_law_847 (lv_at hl 0 rfl) ?_
  refine lv_iconst (v := 1) hx hb dL_law_849 (by decide) ?_
  refine lv_iadd hx hb dL_law_850 ?_
  refine va_sld hx hb hX hbl hbA hS (vp_in_addr (a := 1) (by decide) (by omega) (by omega)) dL_law_851 ?_
  rw [cl_addr (a := 1) (by decide) (by omega)]
  refine lv_aload_n hx hb dL_law_852 rfl (lv_at hl 4 rfl) ?_
  refine lv_iload hx hb dL_law_853 (lv_at hl 0 rfl) ?_
  refine lv_iconst (v := 2) hx hb dL_law_855 (by decide) ?_
  refine lv_iadd hx hb dL_law_856 ?_
  refine va_sld hx hb hX hbl hbA hS (vp_in_addr (a := 2) (by decide) (by omega) (by omega)) dL_law_857 ?_
  rw [cl_addr (a := 2) (by decide) (by omega)]
  refine lv_aload_n hx hb dL_law_858 rfl (lv_at hl 4 rfl) ?_
  refine lv_iload hx hb dL_law_859 (lv_at hl 0 rfl) ?_
  refine lv_iconst (v := 3) hx hb dL_law_861 (by decide) ?_
  refine lv_iadd hx hb dL_law_862 ?_
  refine va_sld hx hb hX hbl hbA hS (vp_in_addr (a := 3) (by decide) (by omega) (by omega)) dL_law_863 ?_
  rw [cl_addr (a := 3) (by decide) (by omega)]
  refine lv_aload_n hx hb dL_law_864 rfl (lv_at hl 1 rfl) ?_
  refine w_callL (As := [.ref (ad 7 0), .int (xs (iN + 1)), .int (xs (iN + 2)), .int (xs (iN + 3)), .ref (ad 90 0)]) (rest := []) (st2 := .int ((f_L_give (xs (iN + 1)) (xs (iN + 2)) (xs (iN + 3)) σ).1) :: []) hC hN hW hS hl cl_L_154 (c_L_give l hl9 D ca base ad σ (xs (iN + 1)) (xs (iN + 2)) (xs (iN + 3)) hI.1) rfl rfl rfl ⟨Nat.le_of_ble_eq_true rfl, Nat.le_of_ble_eq_true rfl⟩ (Nat.le_of_ble_eq_true rfl) dL_law_865 ⟨by show cells + 5 ≤ 601024; omega, by show slots + 30 ≤ 7293034; omega⟩ (c2 := cells + 5) (s2 := slots + 30) rfl rfl (fun H locs hW hS => ?_)
  refine lv_istore (lv' := [(5, .int ((f_L_give (xs (iN + 1)) (xs (iN + 2)) (xs (iN + 3)) σ).1)), (4, .int (nI iN)), (3, .ref (ad 90 0)), (2, .ref (ad 8 0)), (1, .ref (ad 7 0)), (0, .ref b)]) hx hb dL_law_868 hl (by decide) rfl (fun ls hl => ?_)
  refine lv_aload_n hx hb dL_law_870 rfl (lv_at hl 3 rfl) ?_
  refine lv_aload_n hx hb dL_law_871 rfl (lv_at hl 5 rfl) ?_
  refine lv_iload hx hb dL_law_872 (lv_at hl 1 rfl) ?_
  refine lv_iconst (v := 1) hx hb dL_law_874 (by decide) ?_
  refine lv_iadd hx hb dL_law_875 ?_
  refine va_sld hx hb hX hbl hbA hS (vp_in_addr (a := 1) (by decide) (by omega) (by omega)) dL_law_876 ?_
  rw [cl_addr (a := 1) (by decide) (by omega)]
  refine lv_aload_n hx hb dL_law_877 rfl (lv_at hl 5 rfl) ?_
  refine lv_iload hx hb dL_law_878 (lv_at hl 1 rfl) ?_
  refine lv_iconst (v := 2) hx hb dL_law_880 (by decide) ?_
  refine lv_iadd hx hb dL_law_881 ?_
  refine va_sld hx hb hX hbl hbA hS (vp_in_addr (a := 2) (by decide) (by omega) (by omega)) dL_law_882 ?_
  rw [cl_addr (a := 2) (by decide) (by omega)]
  refine lv_aload_n hx hb dL_law_883 rfl (lv_at hl 5 rfl) ?_
  refine lv_iload hx hb dL_law_884 (lv_at hl 1 rfl) ?_
  refine lv_iconst (v := 3) hx hb dL_law_886 (by decide) ?_
  refine lv_iadd hx hb dL_law_887 ?_
  refine va_sld hx hb hX hbl hbA hS (vp_in_addr (a := 3) (by decide) (by omega) (by omega)) dL_law_888 ?_
  rw [cl_addr (a := 3) (by decide) (by omega)]
  refine w_callVL (As := [.int (xs (iN + 1)), .int (xs (iN + 2)), .int (xs (iN + 3))]) (rest := []) (st2 := .int ((f_X8_give (xs (iN + 1)) (xs (iN + 2)) (xs (iN + 3)) ((f_L_give (xs (iN + 1)) (xs (iN + 2)) (xs (iN + 3)) σ).2)).1) :: []) hC hW hS hl cv_L_156 m_8 (by decide) rfl (c_X8_give l hl9 D ca base ad ((f_L_give (xs (iN + 1)) (xs (iN + 2)) (xs (iN + 3)) σ).2) (xs (iN + 1)) (xs (iN + 2)) (xs (iN + 3)) (mi_of hI.2.2.1 (by rw [fr_L_give (by decide) (by decide)]) (by rw [fr_L_give (by decide) (by decide)]) (by rw [fr_L_give (by decide) (by decide)]) (by rw [fr_L_give (by decide) (by decide)]) (by rw [fr_L_give (by decide) (by decide)]) (by rw [fr_L_give (by decide) (by decide)]) (by rw [fr_L_give (by decide) (by decide)]) (by rw [fr_L_give (by decide) (by decide)]) (by rw [fr_L_give (by decide) (by decide)]) (by rw [fr_L_give (by decide) (by decide)]) (by rw [fr_L_give (by decide) (by decide)]) (by rw [fr_L_give (by decide) (by decide)]) (by rw [fr_L_give (by decide) (by decide)]) (by rw [fr_L_give (by decide) (by decide)]) (by rw [fr_L_give (by decide) (by decide)]) (by rw [fr_L_give (by decide) (by decide)]))) rfl rfl rfl ⟨Nat.le_of_ble_eq_true rfl, Nat.le_of_ble_eq_true rfl⟩ (Nat.le_of_ble_eq_true rfl) dL_law_889 ⟨by show cells + 5 + 0 ≤ 601024; omega, by show slots + 30 + 0 ≤ 7293034; omega⟩ (c2 := cells + 5 + 0) (s2 := slots + 30 + 0) rfl rfl (fun H locs hW hS => ?_)
  refine lv_istore (lv' := [(6, .int ((f_X8_give (xs (iN + 1)) (xs (iN + 2)) (xs (iN + 3)) ((f_L_give (xs (iN + 1)) (xs (iN + 2)) (xs (iN + 3)) σ).2)).1)), (5, .int ((f_L_give (xs (iN + 1)) (xs (iN + 2)) (xs (iN + 3)) σ).1)), (4, .int (nI iN)), (3, .ref (ad 90 0)), (2, .ref (ad 8 0)), (1, .ref (ad 7 0)), (0, .ref b)]) hx hb dL_law_892 hl (by decide) rfl (fun ls hl => ?_)
  refine lv_aload_n hx hb dL_law_894 rfl (lv_at hl 4 rfl) ?_
  refine w_callVL (As := []) (rest := []) (st2 := .int (f_X8_thrown ((f_X8_give (xs (iN + 1)) (xs (iN + 2)) (xs (iN + 3)) ((f_L_give (xs (iN + 1)) (xs (iN + 2)) (xs (iN + 3)) σ).2)).2)) :: []) hC hW hS hl cv_L_127 m_8 (by decide) rfl (c_X8_thrown l hl9 D ca base ad ((f_X8_give (xs (iN + 1)) (xs (iN + 2)) (xs (iN + 3)) ((f_L_give (xs (iN + 1)) (xs (iN + 2)) (xs (iN + 3)) σ).2)).2) ) rfl rfl rfl ⟨Nat.le_of_ble_eq_true rfl, Nat.le_of_ble_eq_true rfl⟩ (Nat.le_of_ble_eq_true rfl) dL_law_895 ⟨by show cells + 5 + 0 + 0 ≤ 601024; omega, by show slots + 30 + 0 + 0 ≤ 7293034; omega⟩ (c2 := cells + 5 + 0 + 0) (s2 := slots + 30 + 0 + 0) rfl rfl (fun H locs hW hS => ?_)
  refine lv_iload hx hb dL_law_898 (lv_at hl 1 rfl) ?_
  refine lv_icmp_eq (tgt := 905) hx hb dL_law_900 (by decide) (fun c_1 => ?_) (fun c_1 => ?_)
  · refine lv_iload hx hb dL_law_905 (lv_at hl 1 rfl) ?_
    refine lv_if_ne (tgt := 922) hx hb dL_law_907 (by decide) (fun c_2 => ?_) (fun c_2 => ?_)
    · refine lv_goto (tgt := 2689) hx hb dL_law_922 (by decide) ?_
      have hO : g_law_7 xs iN σ = some ((f_X8_give (xs (iN + 1)) (xs (iN + 2)) (xs (iN + 3)) ((f_L_give (xs (iN + 1)) (xs (iN + 2)) (xs (iN + 3)) σ).2)).2) := by rw [g_law_7, if_pos c_1, if_neg c_2]
      obtain ⟨σ9, h9, hR9⟩ := hL2
      rw [hO] at h9
      cases h9
      exact W.widen (by omega) (by omega) (kk _ _ _ _ hR9 hW hS (lv_sub hl [2, 3, 4, 5, 6] rfl))
    · refine lv_aload_n hx hb dL_law_910 rfl (lv_at hl 3 rfl) ?_
      refine lv_iconst (v := 0) hx hb dL_law_911 (by decide) ?_
      refine w_lald hC hW m_90 (vp_lit (by decide)) dL_law_912 ?_
      rw [show Int32.toNatClampNeg 0 = 0 by decide, fr_X8_give (by decide) (by decide)]
      refine lv_iload hx hb dL_law_913 (lv_at hl 0 rfl) ?_
      refine lv_i2l hx hb dL_law_915 rfl ?_
      refine W.lcmp hx hb dL_law_916 ?_
      refine lv_if_eq (tgt := 922) hx hb dL_law_917 (by decide) (fun c_3 => ?_) (fun c_3 => ?_)
      · refine lv_goto (tgt := 2689) hx hb dL_law_922 (by decide) ?_
        have hO : g_law_7 xs iN σ = some ((f_X8_give (xs (iN + 1)) (xs (iN + 2)) (xs (iN + 3)) ((f_L_give (xs (iN + 1)) (xs (iN + 2)) (xs (iN + 3)) σ).2)).2) := by rw [g_law_7, if_pos c_1, if_pos c_2, if_pos c_3]
        obtain ⟨σ9, h9, hR9⟩ := hL2
        rw [hO] at h9
        cases h9
        exact W.widen (by omega) (by omega) (kk _ _ _ _ hR9 hW hS (lv_sub hl [2, 3, 4, 5, 6] rfl))
      · refine lv_iconst (v := 0) hx hb dL_law_920 (by decide) ?_
        have hO : g_law_7 xs iN σ = none := by rw [g_law_7, if_pos c_1, if_pos c_2, if_neg c_3]
        obtain ⟨σ9, h9, hR9⟩ := hL2
        rw [hO] at h9
        cases h9
  · refine lv_iconst (v := 0) hx hb dL_law_903 (by decide) ?_
    have hO : g_law_7 xs iN σ = none := by rw [g_law_7, if_neg c_1]
    obtain ⟨σ9, h9, hR9⟩ := hL2
    rw [hO] at h9
    cases h9
def g_law_8 (xs : Nat → Int32) (iN : Nat) (σ : Sg) : Option Sg :=
  if (f_X8_thrown ((f_X8_label (xs (iN + 1)) (xs (iN + 2)) (xs (iN + 3)) (xs (iN + 4)) ((f_L_label (xs (iN + 1)) (xs (iN + 2)) (xs (iN + 3)) (xs (iN + 4)) σ).2)).2)) = ((f_L_label (xs (iN + 1)) (xs (iN + 2)) (xs (iN + 3)) (xs (iN + 4)) σ).1) then (if ((f_L_label (xs (iN + 1)) (xs (iN + 2)) (xs (iN + 3)) (xs (iN + 4)) σ).1) = 0 then (if (lg_cmp ((((f_L_label (xs (iN + 1)) (xs (iN + 2)) (xs (iN + 3)) (xs (iN + 4)) σ).2) 90 0 0).toInt64) (((f_X8_label (xs (iN + 1)) (xs (iN + 2)) (xs (iN + 3)) (xs (iN + 4)) ((f_L_label (xs (iN + 1)) (xs (iN + 2)) (xs (iN + 3)) (xs (iN + 4)) σ).2)).1).toInt64)) = 0 then some ((f_X8_label (xs (iN + 1)) (xs (iN + 2)) (xs (iN + 3)) (xs (iN + 4)) ((f_L_label (xs (iN + 1)) (xs (iN + 2)) (xs (iN + 3)) (xs (iN + 4)) σ).2)).2)
      else none)
    else some ((f_X8_label (xs (iN + 1)) (xs (iN + 2)) (xs (iN + 3)) (xs (iN + 4)) ((f_L_label (xs (iN + 1)) (xs (iN + 2)) (xs (iN + 3)) (xs (iN + 4)) σ).2)).2))
  else none
set_option maxHeartbeats 4000000 in
set_option maxRecDepth 100000 in
theorem lc_8 {p : Program} {l : Launch} (hl9 : l.stackTraces = false) {e : Env} {s : State} {m : MethodId} {below : List Frame} {meth : Method} {c : Code} {b L : Nat} {xs : Nat → Int32} {D : va_G} {ca : Nat → ClassId} {base : Nat} {ad : Adr} {Q : State → Prop} {iN : Nat} {σ : Sg} {H : Heap} {locs : List Loc} {cells slots : Nat} {ls : Array Slot} (RR : Sg → Prop) (hC : Cx p s m #[Value.ref b] meth c code 7 RL ret D ca base) (hN : Nx s) (hX : va_X b L xs s s.heap) (hbl : b < s.heap.size) (hbA : ¬ Ab base b) (hi7 : iN + 7 ≤ L) (hL9 : L ≤ 3584) (hc : cells + 40 ≤ 601024) (hs : slots + 240 ≤ 7293034) (hI : LInv σ) (hL2 : ∃ σ', g_law_8 xs iN σ = some σ' ∧ RR σ') (hW : Wd D ca (Ab base) ad ρm Lm σ H) (hS : va_S (Ab base) s.heap H locs) (hl : lv_has ls 7 [(4, .int (nI iN)), (3, .ref (ad 90 0)), (2, .ref (ad 8 0)), (1, .ref (ad 7 0)), (0, .ref b)])
    (kk : ∀ (σ' : Sg) (H1 : Heap) (locs1 : List Loc) (ls1 : Array Slot), RR σ' → Wd D ca (Ab base) ad ρm Lm σ' H1 → va_S (Ab base) s.heap H1 locs1 → lv_has ls1 7 [(4, .int (nI iN)), (3, .ref (ad 90 0)), (2, .ref (ad 8 0)), (1, .ref (ad 7 0)), (0, .ref b)] → W p l e room_1 s m #[Value.ref b] below meth c H1 locs1 (cells + 40) (slots + 240) Q (F0 m 2689 ls1 [])) : W p l e room_1 s m #[Value.ref b] below meth c H locs cells slots Q (F0 m 925 ls []) := by
  have hx := hC.1
  have hb := hC.2.1
  refine lv_aload_n hx hb dL_law_925 rfl (lv_at hl 3 rfl) ?_
  refine lv_aload_n hx hb dL_law_926 rfl (lv_at hl 4 rfl) ?_
  refine lv_iload hx hb dL_law_927 (lv_at hl 0 rfl) ?_
  refine lv_iconst (v := 1) hx hb dL_law_929 (by decide) ?_
  refine lv_iadd hx hb dL_law_930 ?_
  refine va_sld hx hb hX hbl hbA hS (vp_in_addr (a := 1) (by decide) (by omega) (by omega)) dL_law_931 ?_
  rw [cl_addr (a := 1) (by decide) (by omega)]
  refine lv_aload_n hx hb dL_law_932 rfl (lv_at hl 4 rfl) ?_
  refine lv_iload hx hb dL_law_933 (lv_at hl 0 rfl) ?_
  refine lv_iconst (v := 2) hx hb dL_law_935 (by decide) ?_
  refine lv_iadd hx hb dL_law_936 ?_
  refine va_sld hx hb hX hbl hbA hS (vp_in_addr (a := 2) (by decide) (by omega) (by omega)) dL_law_937 ?_
  rw [cl_addr (a := 2) (by decide) (by omega)]
  refine lv_aload_n hx hb dL_law_938 rfl (lv_at hl 4 rfl) ?_
  refine lv_iload hx hb dL_law_939 (lv_at hl 0 rfl) ?_
  refine lv_iconst (v := 3) hx hb dL_law_941 (by decide) ?_
  refine lv_iadd hx hb dL_law_942 ?_
  refine va_sld hx hb hX hbl hbA hS (vp_in_addr (a := 3) (by decide) (by omega) (by omega)) dL_law_943 ?_
  rw [cl_addr (a := 3) (by decide) (by omega)]
  refine lv_aload_n hx hb dL_law_944 rfl (lv_at hl 4 rfl) ?_
  refine lv_iload hx hb dL_law_945 (lv_at hl 0 rfl) ?_
  refine lv_iconst (v := 4) hx hb dL_law_947 (by decide) ?_
  refine lv_iadd hx hb dL_law_948 ?_
  refine va_sld hx hb hX hbl hbA hS (vp_in_addr (a := 4) (by decide) (by omega) (by omega)) dL_law_949 ?_
  rw [cl_addr (a := 4) (by decide) (by omega)]
  refine lv_aload_n hx hb dL_law_950 rfl (lv_at hl 1 rfl) ?_
  refine w_callL (As := [.ref (ad 7 0), .int (xs (iN + 1)), .int (xs (iN + 2)), .int (xs (iN + 3)), .int (xs (iN + 4)), .ref (ad 90 0)]) (rest := []) (st2 := .int ((f_L_label (xs (iN + 1)) (xs (iN + 2)) (xs (iN + 3)) (xs (iN + 4)) σ).1) :: []) hC hN hW hS hl cl_L_157 (c_L_label l hl9 D ca base ad σ (xs (iN + 1)) (xs (iN + 2)) (xs (iN + 3)) (xs (iN + 4)) hI.1) rfl rfl rfl ⟨Nat.le_of_ble_eq_true rfl, Nat.le_of_ble_eq_true rfl⟩ (Nat.le_of_ble_eq_true rfl) dL_law_951 ⟨by show cells + 7 ≤ 601024; omega, by show slots + 42 ≤ 7293034; omega⟩ (c2 := cells + 7) (s2 := slots + 42) rfl rfl (fun H locs hW hS => ?_)
  refine lv_istore (lv' := [(5, .int ((f_L_label (xs (iN + 1)) (xs (iN + 2)) (xs (iN + 3)) (xs (iN + 4)) σ).1)), (4, .int (nI iN)), (3, .ref (ad 90 0)), (2, .ref (ad 8 0)), (1, .ref (ad 7 0)), (0, .ref b)]) hx hb dL_law_954 hl (by decide) rfl (fun ls hl => ?_)
  refine lv_aload_n hx hb dL_law_956 rfl (lv_at hl 3 rfl) ?_
  refine lv_aload_n hx hb dL_law_957 rfl (lv_at hl 5 rfl) ?_
  refine lv_iload hx hb dL_law_958 (lv_at hl 1 rfl) ?_
  refine lv_iconst (v := 1) hx hb dL_law_960 (by decide) ?_
  refine lv_iadd hx hb dL_law_961 ?_
  refine va_sld hx hb hX hbl hbA hS (vp_in_addr (a := 1) (by decide) (by omega) (by omega)) dL_law_962 ?_
  rw [cl_addr (a := 1) (by decide) (by omega)]
  refine lv_aload_n hx hb dL_law_963 rfl (lv_at hl 5 rfl) ?_
  refine lv_iload hx hb dL_law_964 (lv_at hl 1 rfl) ?_
  refine lv_iconst (v := 2) hx hb dL_law_966 (by decide) ?_
  refine lv_iadd hx hb dL_law_967 ?_
  refine va_sld hx hb hX hbl hbA hS (vp_in_addr (a := 2) (by decide) (by omega) (by omega)) dL_law_968 ?_
  rw [cl_addr (a := 2) (by decide) (by omega)]
  refine lv_aload_n hx hb dL_law_969 rfl (lv_at hl 5 rfl) ?_
  refine lv_iload hx hb dL_law_970 (lv_at hl 1 rfl) ?_
  refine lv_iconst (v := 3) hx hb dL_law_972 (by decide) ?_
  refine lv_iadd hx hb dL_law_973 ?_
  refine va_sld hx hb hX hbl hbA hS (vp_in_addr (a := 3) (by decide) (by omega) (by omega)) dL_law_974 ?_
  rw [cl_addr (a := 3) (by decide) (by omega)]
  refine lv_aload_n hx hb dL_law_975 rfl (lv_at hl 5 rfl) ?_
  refine lv_iload hx hb dL_law_976 (lv_at hl 1 rfl) ?_
  refine lv_iconst (v := 4) hx hb dL_law_978 (by decide) ?_
  refine lv_iadd hx hb dL_law_979 ?_
  refine va_sld hx hb hX hbl hbA hS (vp_in_addr (a := 4) (by decide) (by omega) (by omega)) dL_law_980 ?_
  rw [cl_addr (a := 4) (by decide) (by omega)]
  refine w_callVL (As := [.int (xs (iN + 1)), .int (xs (iN + 2)), .int (xs (iN + 3)), .int (xs (iN + 4))]) (rest := []) (st2 := .int ((f_X8_label (xs (iN + 1)) (xs (iN + 2)) (xs (iN + 3)) (xs (iN + 4)) ((f_L_label (xs (iN + 1)) (xs (iN + 2)) (xs (iN + 3)) (xs (iN + 4)) σ).2)).1) :: []) hC hW hS hl cv_L_159 m_8 (by decide) rfl (c_X8_label l hl9 D ca base ad ((f_L_label (xs (iN + 1)) (xs (iN + 2)) (xs (iN + 3)) (xs (iN + 4)) σ).2) (xs (iN + 1)) (xs (iN + 2)) (xs (iN + 3)) (xs (iN + 4)) (mi_of hI.2.2.1 (by rw [fr_L_label (by decide) (by decide)]) (by rw [fr_L_label (by decide) (by decide)]) (by rw [fr_L_label (by decide) (by decide)]) (by rw [fr_L_label (by decide) (by decide)]) (by rw [fr_L_label (by decide) (by decide)]) (by rw [fr_L_label (by decide) (by decide)]) (by rw [fr_L_label (by decide) (by decide)]) (by rw [fr_L_label (by decide) (by decide)]) (by rw [fr_L_label (by decide) (by decide)]) (by rw [fr_L_label (by decide) (by decide)]) (by rw [fr_L_label (by decide) (by decide)]) (by rw [fr_L_label (by decide) (by decide)]) (by rw [fr_L_label (by decide) (by decide)]) (by rw [fr_L_label (by decide) (by decide)]) (by rw [fr_L_label (by decide) (by decide)]) (by rw [fr_L_label (by decide) (by decide)]))) rfl rfl rfl ⟨Nat.le_of_ble_eq_true rfl, Nat.le_of_ble_eq_true rfl⟩ (Nat.le_of_ble_eq_true rfl) dL_law_981 ⟨by show cells + 7 + 0 ≤ 601024; omega, by show slots + 42 + 0 ≤ 7293034; omega⟩ (c2 := cells + 7 + 0) (s2 := slots + 42 + 0) rfl rfl (fun H locs hW hS => ?_)
  refine lv_istore (lv' := [(6, .int ((f_X8_label (xs (iN + 1)) (xs (iN + 2)) (xs (iN + 3)) (xs (iN + 4)) ((f_L_label (xs (iN + 1)) (xs (iN + 2)) (xs (iN + 3)) (xs (iN + 4)) σ).2)).1)), (5, .int ((f_L_label (xs (iN + 1)) (xs (iN + 2)) (xs (iN + 3)) (xs (iN + 4)) σ).1)), (4, .int (nI iN)), (3, .ref (ad 90 0)), (2, .ref (ad 8 0)), (1, .ref (ad 7 0)), (0, .ref b)]) hx hb dL_law_984 hl (by decide) rfl (fun ls hl => ?_)
  refine lv_aload_n hx hb dL_law_986 rfl (lv_at hl 4 rfl) ?_
  refine w_callVL (As := []) (rest := []) (st2 := .int (f_X8_thrown ((f_X8_label (xs (iN + 1)) (xs (iN + 2)) (xs (iN + 3)) (xs (iN + 4)) ((f_L_label (xs (iN + 1)) (xs (iN + 2)) (xs (iN + 3)) (xs (iN + 4)) σ).2)).2)) :: []) hC hW hS hl cv_L_127 m_8 (by decide) rfl (c_X8_thrown l hl9 D ca base ad ((f_X8_label (xs (iN + 1)) (xs (iN + 2)) (xs (iN + 3)) (xs (iN + 4)) ((f_L_label (xs (iN + 1)) (xs (iN + 2)) (xs (iN + 3)) (xs (iN + 4)) σ).2)).2) ) rfl rfl rfl ⟨Nat.le_of_ble_eq_true rfl, Nat.le_of_ble_eq_true rfl⟩ (Nat.le_of_ble_eq_true rfl) dL_law_987 ⟨by show cells + 7 + 0 + 0 ≤ 601024; omega, by show slots + 42 + 0 + 0 ≤ 7293034; omega⟩ (c2 := cells + 7 + 0 + 0) (s2 := slots + 42 + 0 + 0) rfl rfl (fun H locs hW hS => ?_)
  refine lv_iload hx hb dL_law_990 (lv_at hl 1 rfl) ?_
  refine lv_icmp_eq (tgt := 997) hx hb dL_law_992 (by decide) (fun c_1 => ?_) (fun c_1 => ?_)
  · refine lv_iload hx hb dL_law_997 (lv_at hl 1 rfl) ?_
    refine lv_if_ne (tgt := 1014) hx hb dL_law_999 (by decide) (fun c_2 => ?_) (fun c_2 => ?_)
    · refine lv_goto (tgt := 2689) hx hb dL_law_1014 (by decide) ?_
      have hO : g_law_8 xs iN σ = some ((f_X8_label (xs (iN + 1)) (xs (iN + 2)) (xs (iN + 3)) (xs (iN + 4)) ((f_L_label (xs (iN + 1)) (xs (iN + 2)) (xs (iN + 3)) (xs (iN + 4)) σ).2)).2) := by rw [g_law_8, if_pos c_1, if_neg c_2]
      obtain ⟨σ9, h9, hR9⟩ := hL2
      rw [hO] at h9
      cases h9
      exact W.widen (by omega) (by omega) (kk _ _ _ _ hR9 hW hS (lv_sub hl [2, 3, 4, 5, 6] rfl))
    · refine lv_aload_n hx hb dL_law_1002 rfl (lv_at hl 3 rfl) ?_
      refine lv_iconst (v := 0) hx hb dL_law_1003 (by decide) ?_
      refine w_lald hC hW m_90 (vp_lit (by decide)) dL_law_1004 ?_
      rw [show Int32.toNatClampNeg 0 = 0 by decide, fr_X8_label (by decide) (by decide) (by decide)]
      refine lv_iload hx hb dL_law_1005 (lv_at hl 0 rfl) ?_
      refine lv_i2l hx hb dL_law_1007 rfl ?_
      refine W.lcmp hx hb dL_law_1008 ?_
      refine lv_if_eq (tgt := 1014) hx hb dL_law_1009 (by decide) (fun c_3 => ?_) (fun c_3 => ?_)
      · refine lv_goto (tgt := 2689) hx hb dL_law_1014 (by decide) ?_
        have hO : g_law_8 xs iN σ = some ((f_X8_label (xs (iN + 1)) (xs (iN + 2)) (xs (iN + 3)) (xs (iN + 4)) ((f_L_label (xs (iN + 1)) (xs (iN + 2)) (xs (iN + 3)) (xs (iN + 4)) σ).2)).2) := by rw [g_law_8, if_pos c_1, if_pos c_2, if_pos c_3]
        obtain ⟨σ9, h9, hR9⟩ := hL2
        rw [hO] at h9
        cases h9
        exact W.widen (by omega) (by omega) (kk _ _ _ _ hR9 hW hS (lv_sub hl [2, 3, 4, 5, 6] rfl))
      · refine lv_iconst (v := 0) hx hb dL_law_1012 (by decide) ?_
        have hO : g_law_8 xs iN σ = none := by rw [g_law_8, if_pos c_1, if_pos c_2, if_neg c_3]
        obtain ⟨σ9, h9, hR9⟩ := hL2
        rw [hO] at h9
        cases h9
  · refine lv_iconst (v := 0) hx hb dL_law_995 (by decide) ?_
    have hO : g_law_8 xs iN σ = none := by rw [g_law_8, if_neg c_1]
    obtain ⟨σ9, h9, hR9⟩ := hL2
    rw [hO] at h9
    cases h9
def g_law_9 (xs : Nat → Int32) (iN : Nat) (σ : Sg) : Option Sg :=
  if (f_X8_thrown ((f_X8_rule (xs (iN + 1)) (xs (iN + 2)) (xs (iN + 3)) ((f_L_rule (xs (iN + 1)) (xs (iN + 2)) (xs (iN + 3)) σ).2)).2)) = ((f_L_rule (xs (iN + 1)) (xs (iN + 2)) (xs (iN + 3)) σ).1) then (if ((f_L_rule (xs (iN + 1)) (xs (iN + 2)) (xs (iN + 3)) σ).1) = 0 then (if (lg_cmp ((((f_L_rule (xs (iN + 1)) (xs (iN + 2)) (xs (iN + 3)) σ).2) 90 0 0).toInt64) (((f_X8_rule (xs (iN + 1)) (xs (iN + 2)) (xs (iN + 3)) ((f_L_rule (xs (iN + 1)) (xs (iN + 2)) (xs (iN + 3)) σ).2)).1).toInt64)) = 0 then some ((f_X8_rule (xs (iN + 1)) (xs (iN + 2)) (xs (iN + 3)) ((f_L_rule (xs (iN + 1)) (xs (iN + 2)) (xs (iN + 3)) σ).2)).2)
      else none)
    else some ((f_X8_rule (xs (iN + 1)) (xs (iN + 2)) (xs (iN + 3)) ((f_L_rule (xs (iN + 1)) (xs (iN + 2)) (xs (iN + 3)) σ).2)).2))
  else none
set_option maxHeartbeats 4000000 in
set_option maxRecDepth 100000 in
theorem lc_9 {p : Program} {l : Launch} (hl9 : l.stackTraces = false) {e : Env} {s : State} {m : MethodId} {below : List Frame} {meth : Method} {c : Code} {b L : Nat} {xs : Nat → Int32} {D : va_G} {ca : Nat → ClassId} {base : Nat} {ad : Adr} {Q : State → Prop} {iN : Nat} {σ : Sg} {H : Heap} {locs : List Loc} {cells slots : Nat} {ls : Array Slot} (RR : Sg → Prop) (hC : Cx p s m #[Value.ref b] meth c code 7 RL ret D ca base) (hN : Nx s) (hX : va_X b L xs s s.heap) (hbl : b < s.heap.size) (hbA : ¬ Ab base b) (hi7 : iN + 7 ≤ L) (hL9 : L ≤ 3584) (hc : cells + 40 ≤ 601024) (hs : slots + 240 ≤ 7293034) (hI : LInv σ) (hL2 : ∃ σ', g_law_9 xs iN σ = some σ' ∧ RR σ') (hW : Wd D ca (Ab base) ad ρm Lm σ H) (hS : va_S (Ab base) s.heap H locs) (hl : lv_has ls 7 [(4, .int (nI iN)), (3, .ref (ad 90 0)), (2, .ref (ad 8 0)), (1, .ref (ad 7 0)), (0, .ref b)])
    (kk : ∀ (σ' : Sg) (H1 : Heap) (locs1 : List Loc) (ls1 : Array Slot), RR σ' → Wd D ca (Ab base) ad ρm Lm σ' H1 → va_S (Ab base) s.heap H1 locs1 → lv_has ls1 7 [(4, .int (nI iN)), (3, .ref (ad 90 0)), (2, .ref (ad 8 0)), (1, .ref (ad 7 0)), (0, .ref b)] → W p l e room_1 s m #[Value.ref b] below meth c H1 locs1 (cells + 40) (slots + 240) Q (F0 m 2689 ls1 [])) : W p l e room_1 s m #[Value.ref b] below meth c H locs cells slots Q (F0 m 1017 ls []) := by
  have hx := hC.1
  have hb := hC.2.1
  refine lv_aload_n hx hb dL_law_1017 rfl (lv_at hl 3 rfl) ?_
  refine lv_aload_n hx hb dL_law_1018 rfl (lv_at hl 4 rfl) ?_
  refine lv_iload hx hb dL_law_1019 (lv_at hl 0 rfl) ?_
  refine lv_iconst (v := 1) hx hb dL_law_1021 (by decide) ?_
  refine lv_iadd hx hb dL_law_1022 ?_
  refine va_sld hx hb hX hbl hbA hS (vp_in_addr (a := 1) (by decide) (by omega) (by omega)) dL_law_1023 ?_
  rw [cl_addr (a := 1) (by decide) (by omega)]
  refine lv_aload_n hx hb dL_law_1024 rfl (lv_at hl 4 rfl) ?_
  refine lv_iload hx hb dL_law_1025 (lv_at hl 0 rfl) ?_
  refine lv_iconst (v := 2) hx hb dL_law_1027 (by decide) ?_
  refine lv_iadd hx hb dL_law_1028 ?_
  refine va_sld hx hb hX hbl hbA hS (vp_in_addr (a := 2) (by decide) (by omega) (by omega)) dL_law_1029 ?_
  rw [cl_addr (a := 2) (by decide) (by omega)]
  refine lv_aload_n hx hb dL_law_1030 rfl (lv_at hl 4 rfl) ?_
  refine lv_iload hx hb dL_law_1031 (lv_at hl 0 rfl) ?_
  refine lv_iconst (v := 3) hx hb dL_law_1033 (by decide) ?_
  refine lv_iadd hx hb dL_law_1034 ?_
  refine va_sld hx hb hX hbl hbA hS (vp_in_addr (a := 3) (by decide) (by omega) (by omega)) dL_law_1035 ?_
  rw [cl_addr (a := 3) (by decide) (by omega)]
  refine lv_aload_n hx hb dL_law_1036 rfl (lv_at hl 1 rfl) ?_
  refine w_callL (As := [.ref (ad 7 0), .int (xs (iN + 1)), .int (xs (iN + 2)), .int (xs (iN + 3)), .ref (ad 90 0)]) (rest := []) (st2 := .int ((f_L_rule (xs (iN + 1)) (xs (iN + 2)) (xs (iN + 3)) σ).1) :: []) hC hN hW hS hl cl_L_160 (c_L_rule l hl9 D ca base ad σ (xs (iN + 1)) (xs (iN + 2)) (xs (iN + 3)) hI.1) rfl rfl rfl ⟨Nat.le_of_ble_eq_true rfl, Nat.le_of_ble_eq_true rfl⟩ (Nat.le_of_ble_eq_true rfl) dL_law_1037 ⟨by show cells + 3 ≤ 601024; omega, by show slots + 18 ≤ 7293034; omega⟩ (c2 := cells + 3) (s2 := slots + 18) rfl rfl (fun H locs hW hS => ?_)
  refine lv_istore (lv' := [(5, .int ((f_L_rule (xs (iN + 1)) (xs (iN + 2)) (xs (iN + 3)) σ).1)), (4, .int (nI iN)), (3, .ref (ad 90 0)), (2, .ref (ad 8 0)), (1, .ref (ad 7 0)), (0, .ref b)]) hx hb dL_law_1040 hl (by decide) rfl (fun ls hl => ?_)
  refine lv_aload_n hx hb dL_law_1042 rfl (lv_at hl 3 rfl) ?_
  refine lv_aload_n hx hb dL_law_1043 rfl (lv_at hl 5 rfl) ?_
  refine lv_iload hx hb dL_law_1044 (lv_at hl 1 rfl) ?_
  refine lv_iconst (v := 1) hx hb dL_law_1046 (by decide) ?_
  refine lv_iadd hx hb dL_law_1047 ?_
  refine va_sld hx hb hX hbl hbA hS (vp_in_addr (a := 1) (by decide) (by omega) (by omega)) dL_law_1048 ?_
  rw [cl_addr (a := 1) (by decide) (by omega)]
  refine lv_aload_n hx hb dL_law_1049 rfl (lv_at hl 5 rfl) ?_
  refine lv_iload hx hb dL_law_1050 (lv_at hl 1 rfl) ?_
  refine lv_iconst (v := 2) hx hb dL_law_1052 (by decide) ?_
  refine lv_iadd hx hb dL_law_1053 ?_
  refine va_sld hx hb hX hbl hbA hS (vp_in_addr (a := 2) (by decide) (by omega) (by omega)) dL_law_1054 ?_
  rw [cl_addr (a := 2) (by decide) (by omega)]
  refine lv_aload_n hx hb dL_law_1055 rfl (lv_at hl 5 rfl) ?_
  refine lv_iload hx hb dL_law_1056 (lv_at hl 1 rfl) ?_
  refine lv_iconst (v := 3) hx hb dL_law_1058 (by decide) ?_
  refine lv_iadd hx hb dL_law_1059 ?_
  refine va_sld hx hb hX hbl hbA hS (vp_in_addr (a := 3) (by decide) (by omega) (by omega)) dL_law_1060 ?_
  rw [cl_addr (a := 3) (by decide) (by omega)]
  refine w_callVL (As := [.int (xs (iN + 1)), .int (xs (iN + 2)), .int (xs (iN + 3))]) (rest := []) (st2 := .int ((f_X8_rule (xs (iN + 1)) (xs (iN + 2)) (xs (iN + 3)) ((f_L_rule (xs (iN + 1)) (xs (iN + 2)) (xs (iN + 3)) σ).2)).1) :: []) hC hW hS hl cv_L_162 m_8 (by decide) rfl (c_X8_rule l hl9 D ca base ad ((f_L_rule (xs (iN + 1)) (xs (iN + 2)) (xs (iN + 3)) σ).2) (xs (iN + 1)) (xs (iN + 2)) (xs (iN + 3)) (mi_of hI.2.2.1 (by rw [fr_L_rule (by decide) (by decide)]) (by rw [fr_L_rule (by decide) (by decide)]) (by rw [fr_L_rule (by decide) (by decide)]) (by rw [fr_L_rule (by decide) (by decide)]) (by rw [fr_L_rule (by decide) (by decide)]) (by rw [fr_L_rule (by decide) (by decide)]) (by rw [fr_L_rule (by decide) (by decide)]) (by rw [fr_L_rule (by decide) (by decide)]) (by rw [fr_L_rule (by decide) (by decide)]) (by rw [fr_L_rule (by decide) (by decide)]) (by rw [fr_L_rule (by decide) (by decide)]) (by rw [fr_L_rule (by decide) (by decide)]) (by rw [fr_L_rule (by decide) (by decide)]) (by rw [fr_L_rule (by decide) (by decide)]) (by rw [fr_L_rule (by decide) (by decide)]) (by rw [fr_L_rule (by decide) (by decide)]))) rfl rfl rfl ⟨Nat.le_of_ble_eq_true rfl, Nat.le_of_ble_eq_true rfl⟩ (Nat.le_of_ble_eq_true rfl) dL_law_1061 ⟨by show cells + 3 + 0 ≤ 601024; omega, by show slots + 18 + 0 ≤ 7293034; omega⟩ (c2 := cells + 3 + 0) (s2 := slots + 18 + 0) rfl rfl (fun H locs hW hS => ?_)
  refine lv_istore (lv' := [(6, .int ((f_X8_rule (xs (iN + 1)) (xs (iN + 2)) (xs (iN + 3)) ((f_L_rule (xs (iN + 1)) (xs (iN + 2)) (xs (iN + 3)) σ).2)).1)), (5, .int ((f_L_rule (xs (iN + 1)) (xs (iN + 2)) (xs (iN + 3)) σ).1)), (4, .int (nI iN)), (3, .ref (ad 90 0)), (2, .ref (ad 8 0)), (1, .ref (ad 7 0)), (0, .ref b)]) hx hb dL_law_1064 hl (by decide) rfl (fun ls hl => ?_)
  refine lv_aload_n hx hb dL_law_1066 rfl (lv_at hl 4 rfl) ?_
  refine w_callVL (As := []) (rest := []) (st2 := .int (f_X8_thrown ((f_X8_rule (xs (iN + 1)) (xs (iN + 2)) (xs (iN + 3)) ((f_L_rule (xs (iN + 1)) (xs (iN + 2)) (xs (iN + 3)) σ).2)).2)) :: []) hC hW hS hl cv_L_127 m_8 (by decide) rfl (c_X8_thrown l hl9 D ca base ad ((f_X8_rule (xs (iN + 1)) (xs (iN + 2)) (xs (iN + 3)) ((f_L_rule (xs (iN + 1)) (xs (iN + 2)) (xs (iN + 3)) σ).2)).2) ) rfl rfl rfl ⟨Nat.le_of_ble_eq_true rfl, Nat.le_of_ble_eq_true rfl⟩ (Nat.le_of_ble_eq_true rfl) dL_law_1067 ⟨by show cells + 3 + 0 + 0 ≤ 601024; omega, by show slots + 18 + 0 + 0 ≤ 7293034; omega⟩ (c2 := cells + 3 + 0 + 0) (s2 := slots + 18 + 0 + 0) rfl rfl (fun H locs hW hS => ?_)
  refine lv_iload hx hb dL_law_1070 (lv_at hl 1 rfl) ?_
  refine lv_icmp_eq (tgt := 1077) hx hb dL_law_1072 (by decide) (fun c_1 => ?_) (fun c_1 => ?_)
  · refine lv_iload hx hb dL_law_1077 (lv_at hl 1 rfl) ?_
    refine lv_if_ne (tgt := 1094) hx hb dL_law_1079 (by decide) (fun c_2 => ?_) (fun c_2 => ?_)
    · refine lv_goto (tgt := 2689) hx hb dL_law_1094 (by decide) ?_
      have hO : g_law_9 xs iN σ = some ((f_X8_rule (xs (iN + 1)) (xs (iN + 2)) (xs (iN + 3)) ((f_L_rule (xs (iN + 1)) (xs (iN + 2)) (xs (iN + 3)) σ).2)).2) := by rw [g_law_9, if_pos c_1, if_neg c_2]
      obtain ⟨σ9, h9, hR9⟩ := hL2
      rw [hO] at h9
      cases h9
      exact W.widen (by omega) (by omega) (kk _ _ _ _ hR9 hW hS (lv_sub hl [2, 3, 4, 5, 6] rfl))
    · refine lv_aload_n hx hb dL_law_1082 rfl (lv_at hl 3 rfl) ?_
      refine lv_iconst (v := 0) hx hb dL_law_1083 (by decide) ?_
      refine w_lald hC hW m_90 (vp_lit (by decide)) dL_law_1084 ?_
      rw [show Int32.toNatClampNeg 0 = 0 by decide, fr_X8_rule (by decide) (by decide)]
      refine lv_iload hx hb dL_law_1085 (lv_at hl 0 rfl) ?_
      refine lv_i2l hx hb dL_law_1087 rfl ?_
      refine W.lcmp hx hb dL_law_1088 ?_
      refine lv_if_eq (tgt := 1094) hx hb dL_law_1089 (by decide) (fun c_3 => ?_) (fun c_3 => ?_)
      · refine lv_goto (tgt := 2689) hx hb dL_law_1094 (by decide) ?_
        have hO : g_law_9 xs iN σ = some ((f_X8_rule (xs (iN + 1)) (xs (iN + 2)) (xs (iN + 3)) ((f_L_rule (xs (iN + 1)) (xs (iN + 2)) (xs (iN + 3)) σ).2)).2) := by rw [g_law_9, if_pos c_1, if_pos c_2, if_pos c_3]
        obtain ⟨σ9, h9, hR9⟩ := hL2
        rw [hO] at h9
        cases h9
        exact W.widen (by omega) (by omega) (kk _ _ _ _ hR9 hW hS (lv_sub hl [2, 3, 4, 5, 6] rfl))
      · refine lv_iconst (v := 0) hx hb dL_law_1092 (by decide) ?_
        have hO : g_law_9 xs iN σ = none := by rw [g_law_9, if_pos c_1, if_pos c_2, if_neg c_3]
        obtain ⟨σ9, h9, hR9⟩ := hL2
        rw [hO] at h9
        cases h9
  · refine lv_iconst (v := 0) hx hb dL_law_1075 (by decide) ?_
    have hO : g_law_9 xs iN σ = none := by rw [g_law_9, if_neg c_1]
    obtain ⟨σ9, h9, hR9⟩ := hL2
    rw [hO] at h9
    cases h9
def g_law_10 (xs : Nat → Int32) (iN : Nat) (σ : Sg) : Option Sg :=
  if (f_X8_thrown ((f_X8_move (xs (iN + 1)) (xs (iN + 2)) (xs (iN + 3)) ((f_L_move (xs (iN + 1)) (xs (iN + 2)) (xs (iN + 3)) σ).2)).2)) = ((f_L_move (xs (iN + 1)) (xs (iN + 2)) (xs (iN + 3)) σ).1) then (if ((f_L_move (xs (iN + 1)) (xs (iN + 2)) (xs (iN + 3)) σ).1) = 0 then (if (lg_cmp ((((f_L_move (xs (iN + 1)) (xs (iN + 2)) (xs (iN + 3)) σ).2) 90 0 0).toInt64) (((f_X8_move (xs (iN + 1)) (xs (iN + 2)) (xs (iN + 3)) ((f_L_move (xs (iN + 1)) (xs (iN + 2)) (xs (iN + 3)) σ).2)).1).toInt64)) = 0 then some ((f_X8_move (xs (iN + 1)) (xs (iN + 2)) (xs (iN + 3)) ((f_L_move (xs (iN + 1)) (xs (iN + 2)) (xs (iN + 3)) σ).2)).2)
      else none)
    else some ((f_X8_move (xs (iN + 1)) (xs (iN + 2)) (xs (iN + 3)) ((f_L_move (xs (iN + 1)) (xs (iN + 2)) (xs (iN + 3)) σ).2)).2))
  else none
set_option maxHeartbeats 4000000 in
set_option maxRecDepth 100000 in
theorem lc_10 {p : Program} {l : Launch} (hl9 : l.stackTraces = false) {e : Env} {s : State} {m : MethodId} {below : List Frame} {meth : Method} {c : Code} {b L : Nat} {xs : Nat → Int32} {D : va_G} {ca : Nat → ClassId} {base : Nat} {ad : Adr} {Q : State → Prop} {iN : Nat} {σ : Sg} {H : Heap} {locs : List Loc} {cells slots : Nat} {ls : Array Slot} (RR : Sg → Prop) (hC : Cx p s m #[Value.ref b] meth c code 7 RL ret D ca base) (hN : Nx s) (hX : va_X b L xs s s.heap) (hbl : b < s.heap.size) (hbA : ¬ Ab base b) (hi7 : iN + 7 ≤ L) (hL9 : L ≤ 3584) (hc : cells + 40 ≤ 601024) (hs : slots + 240 ≤ 7293034) (hI : LInv σ) (hL2 : ∃ σ', g_law_10 xs iN σ = some σ' ∧ RR σ') (hW : Wd D ca (Ab base) ad ρm Lm σ H) (hS : va_S (Ab base) s.heap H locs) (hl : lv_has ls 7 [(4, .int (nI iN)), (3, .ref (ad 90 0)), (2, .ref (ad 8 0)), (1, .ref (ad 7 0)), (0, .ref b)])
    (kk : ∀ (σ' : Sg) (H1 : Heap) (locs1 : List Loc) (ls1 : Array Slot), RR σ' → Wd D ca (Ab base) ad ρm Lm σ' H1 → va_S (Ab base) s.heap H1 locs1 → lv_has ls1 7 [(4, .int (nI iN)), (3, .ref (ad 90 0)), (2, .ref (ad 8 0)), (1, .ref (ad 7 0)), (0, .ref b)] → W p l e room_1 s m #[Value.ref b] below meth c H1 locs1 (cells + 40) (slots + 240) Q (F0 m 2689 ls1 [])) : W p l e room_1 s m #[Value.ref b] below meth c H locs cells slots Q (F0 m 1097 ls []) := by
  have hx := hC.1
  have hb := hC.2.1
  refine lv_aload_n hx hb dL_law_1097 rfl (lv_at hl 3 rfl) ?_
  refine lv_aload_n hx hb dL_law_1098 rfl (lv_at hl 4 rfl) ?_
  refine lv_iload hx hb dL_law_1099 (lv_at hl 0 rfl) ?_
  refine lv_iconst (v := 1) hx hb dL_law_1101 (by decide) ?_
  refine lv_iadd hx hb dL_law_1102 ?_
  refine va_sld hx hb hX hbl hbA hS (vp_in_addr (a := 1) (by decide) (by omega) (by omega)) dL_law_1103 ?_
  rw [cl_addr (a := 1) (by decide) (by omega)]
  refine lv_aload_n hx hb dL_law_1104 rfl (lv_at hl 4 rfl) ?_
  refine lv_iload hx hb dL_law_1105 (lv_at hl 0 rfl) ?_
  refine lv_iconst (v := 2) hx hb dL_law_1107 (by decide) ?_
  refine lv_iadd hx hb dL_law_1108 ?_
  refine va_sld hx hb hX hbl hbA hS (vp_in_addr (a := 2) (by decide) (by omega) (by omega)) dL_law_1109 ?_
  rw [cl_addr (a := 2) (by decide) (by omega)]
  refine lv_aload_n hx hb dL_law_1110 rfl (lv_at hl 4 rfl) ?_
  refine lv_iload hx hb dL_law_1111 (lv_at hl 0 rfl) ?_
  refine lv_iconst (v := 3) hx hb dL_law_1113 (by decide) ?_
  refine lv_iadd hx hb dL_law_1114 ?_
  refine va_sld hx hb hX hbl hbA hS (vp_in_addr (a := 3) (by decide) (by omega) (by omega)) dL_law_1115 ?_
  rw [cl_addr (a := 3) (by decide) (by omega)]
  refine lv_aload_n hx hb dL_law_1116 rfl (lv_at hl 1 rfl) ?_
  refine w_callL (As := [.ref (ad 7 0), .int (xs (iN + 1)), .int (xs (iN + 2)), .int (xs (iN + 3)), .ref (ad 90 0)]) (rest := []) (st2 := .int ((f_L_move (xs (iN + 1)) (xs (iN + 2)) (xs (iN + 3)) σ).1) :: []) hC hN hW hS hl cl_L_163 (c_L_move l hl9 D ca base ad σ (xs (iN + 1)) (xs (iN + 2)) (xs (iN + 3)) hI.1) rfl rfl rfl ⟨Nat.le_of_ble_eq_true rfl, Nat.le_of_ble_eq_true rfl⟩ (Nat.le_of_ble_eq_true rfl) dL_law_1117 ⟨by show cells + 4 ≤ 601024; omega, by show slots + 24 ≤ 7293034; omega⟩ (c2 := cells + 4) (s2 := slots + 24) rfl rfl (fun H locs hW hS => ?_)
  refine lv_istore (lv' := [(5, .int ((f_L_move (xs (iN + 1)) (xs (iN + 2)) (xs (iN + 3)) σ).1)), (4, .int (nI iN)), (3, .ref (ad 90 0)), (2, .ref (ad 8 0)), (1, .ref (ad 7 0)), (0, .ref b)]) hx hb dL_law_1120 hl (by decide) rfl (fun ls hl => ?_)
  refine lv_aload_n hx hb dL_law_1122 rfl (lv_at hl 3 rfl) ?_
  refine lv_aload_n hx hb dL_law_1123 rfl (lv_at hl 5 rfl) ?_
  refine lv_iload hx hb dL_law_1124 (lv_at hl 1 rfl) ?_
  refine lv_iconst (v := 1) hx hb dL_law_1126 (by decide) ?_
  refine lv_iadd hx hb dL_law_1127 ?_
  refine va_sld hx hb hX hbl hbA hS (vp_in_addr (a := 1) (by decide) (by omega) (by omega)) dL_law_1128 ?_
  rw [cl_addr (a := 1) (by decide) (by omega)]
  refine lv_aload_n hx hb dL_law_1129 rfl (lv_at hl 5 rfl) ?_
  refine lv_iload hx hb dL_law_1130 (lv_at hl 1 rfl) ?_
  refine lv_iconst (v := 2) hx hb dL_law_1132 (by decide) ?_
  refine lv_iadd hx hb dL_law_1133 ?_
  refine va_sld hx hb hX hbl hbA hS (vp_in_addr (a := 2) (by decide) (by omega) (by omega)) dL_law_1134 ?_
  rw [cl_addr (a := 2) (by decide) (by omega)]
  refine lv_aload_n hx hb dL_law_1135 rfl (lv_at hl 5 rfl) ?_
  refine lv_iload hx hb dL_law_1136 (lv_at hl 1 rfl) ?_
  refine lv_iconst (v := 3) hx hb dL_law_1138 (by decide) ?_
  refine lv_iadd hx hb dL_law_1139 ?_
  refine va_sld hx hb hX hbl hbA hS (vp_in_addr (a := 3) (by decide) (by omega) (by omega)) dL_law_1140 ?_
  rw [cl_addr (a := 3) (by decide) (by omega)]
  refine w_callVL (As := [.int (xs (iN + 1)), .int (xs (iN + 2)), .int (xs (iN + 3))]) (rest := []) (st2 := .int ((f_X8_move (xs (iN + 1)) (xs (iN + 2)) (xs (iN + 3)) ((f_L_move (xs (iN + 1)) (xs (iN + 2)) (xs (iN + 3)) σ).2)).1) :: []) hC hW hS hl cv_L_165 m_8 (by decide) rfl (c_X8_move l hl9 D ca base ad ((f_L_move (xs (iN + 1)) (xs (iN + 2)) (xs (iN + 3)) σ).2) (xs (iN + 1)) (xs (iN + 2)) (xs (iN + 3)) (mi_of hI.2.2.1 (by rw [fr_L_move (by decide) (by decide)]) (by rw [fr_L_move (by decide) (by decide)]) (by rw [fr_L_move (by decide) (by decide)]) (by rw [fr_L_move (by decide) (by decide)]) (by rw [fr_L_move (by decide) (by decide)]) (by rw [fr_L_move (by decide) (by decide)]) (by rw [fr_L_move (by decide) (by decide)]) (by rw [fr_L_move (by decide) (by decide)]) (by rw [fr_L_move (by decide) (by decide)]) (by rw [fr_L_move (by decide) (by decide)]) (by rw [fr_L_move (by decide) (by decide)]) (by rw [fr_L_move (by decide) (by decide)]) (by rw [fr_L_move (by decide) (by decide)]) (by rw [fr_L_move (by decide) (by decide)]) (by rw [fr_L_move (by decide) (by decide)]) (by rw [fr_L_move (by decide) (by decide)]))) rfl rfl rfl ⟨Nat.le_of_ble_eq_true rfl, Nat.le_of_ble_eq_true rfl⟩ (Nat.le_of_ble_eq_true rfl) dL_law_1141 ⟨by show cells + 4 + 0 ≤ 601024; omega, by show slots + 24 + 0 ≤ 7293034; omega⟩ (c2 := cells + 4 + 0) (s2 := slots + 24 + 0) rfl rfl (fun H locs hW hS => ?_)
  refine lv_istore (lv' := [(6, .int ((f_X8_move (xs (iN + 1)) (xs (iN + 2)) (xs (iN + 3)) ((f_L_move (xs (iN + 1)) (xs (iN + 2)) (xs (iN + 3)) σ).2)).1)), (5, .int ((f_L_move (xs (iN + 1)) (xs (iN + 2)) (xs (iN + 3)) σ).1)), (4, .int (nI iN)), (3, .ref (ad 90 0)), (2, .ref (ad 8 0)), (1, .ref (ad 7 0)), (0, .ref b)]) hx hb dL_law_1144 hl (by decide) rfl (fun ls hl => ?_)
  refine lv_aload_n hx hb dL_law_1146 rfl (lv_at hl 4 rfl) ?_
  refine w_callVL (As := []) (rest := []) (st2 := .int (f_X8_thrown ((f_X8_move (xs (iN + 1)) (xs (iN + 2)) (xs (iN + 3)) ((f_L_move (xs (iN + 1)) (xs (iN + 2)) (xs (iN + 3)) σ).2)).2)) :: []) hC hW hS hl cv_L_127 m_8 (by decide) rfl (c_X8_thrown l hl9 D ca base ad ((f_X8_move (xs (iN + 1)) (xs (iN + 2)) (xs (iN + 3)) ((f_L_move (xs (iN + 1)) (xs (iN + 2)) (xs (iN + 3)) σ).2)).2) ) rfl rfl rfl ⟨Nat.le_of_ble_eq_true rfl, Nat.le_of_ble_eq_true rfl⟩ (Nat.le_of_ble_eq_true rfl) dL_law_1147 ⟨by show cells + 4 + 0 + 0 ≤ 601024; omega, by show slots + 24 + 0 + 0 ≤ 7293034; omega⟩ (c2 := cells + 4 + 0 + 0) (s2 := slots + 24 + 0 + 0) rfl rfl (fun H locs hW hS => ?_)
  refine lv_iload hx hb dL_law_1150 (lv_at hl 1 rfl) ?_
  refine lv_icmp_eq (tgt := 1157) hx hb dL_law_1152 (by decide) (fun c_1 => ?_) (fun c_1 => ?_)
  · refine lv_iload hx hb dL_law_1157 (lv_at hl 1 rfl) ?_
    refine lv_if_ne (tgt := 1174) hx hb dL_law_1159 (by decide) (fun c_2 => ?_) (fun c_2 => ?_)
    · refine lv_goto (tgt := 2689) hx hb dL_law_1174 (by decide) ?_
      have hO : g_law_10 xs iN σ = some ((f_X8_move (xs (iN + 1)) (xs (iN + 2)) (xs (iN + 3)) ((f_L_move (xs (iN + 1)) (xs (iN + 2)) (xs (iN + 3)) σ).2)).2) := by rw [g_law_10, if_pos c_1, if_neg c_2]
      obtain ⟨σ9, h9, hR9⟩ := hL2
      rw [hO] at h9
      cases h9
      exact W.widen (by omega) (by omega) (kk _ _ _ _ hR9 hW hS (lv_sub hl [2, 3, 4, 5, 6] rfl))
    · refine lv_aload_n hx hb dL_law_1162 rfl (lv_at hl 3 rfl) ?_
      refine lv_iconst (v := 0) hx hb dL_law_1163 (by decide) ?_
      refine w_lald hC hW m_90 (vp_lit (by decide)) dL_law_1164 ?_
      rw [show Int32.toNatClampNeg 0 = 0 by decide, fr_X8_move (by decide) (by decide)]
      refine lv_iload hx hb dL_law_1165 (lv_at hl 0 rfl) ?_
      refine lv_i2l hx hb dL_law_1167 rfl ?_
      refine W.lcmp hx hb dL_law_1168 ?_
      refine lv_if_eq (tgt := 1174) hx hb dL_law_1169 (by decide) (fun c_3 => ?_) (fun c_3 => ?_)
      · refine lv_goto (tgt := 2689) hx hb dL_law_1174 (by decide) ?_
        have hO : g_law_10 xs iN σ = some ((f_X8_move (xs (iN + 1)) (xs (iN + 2)) (xs (iN + 3)) ((f_L_move (xs (iN + 1)) (xs (iN + 2)) (xs (iN + 3)) σ).2)).2) := by rw [g_law_10, if_pos c_1, if_pos c_2, if_pos c_3]
        obtain ⟨σ9, h9, hR9⟩ := hL2
        rw [hO] at h9
        cases h9
        exact W.widen (by omega) (by omega) (kk _ _ _ _ hR9 hW hS (lv_sub hl [2, 3, 4, 5, 6] rfl))
      · refine lv_iconst (v := 0) hx hb dL_law_1172 (by decide) ?_
        have hO : g_law_10 xs iN σ = none := by rw [g_law_10, if_pos c_1, if_pos c_2, if_neg c_3]
        obtain ⟨σ9, h9, hR9⟩ := hL2
        rw [hO] at h9
        cases h9
  · refine lv_iconst (v := 0) hx hb dL_law_1155 (by decide) ?_
    have hO : g_law_10 xs iN σ = none := by rw [g_law_10, if_neg c_1]
    obtain ⟨σ9, h9, hR9⟩ := hL2
    rw [hO] at h9
    cases h9
