def g_law_22 (xs : Nat → Int32) (iN : Nat) (σ : Sg) : Option Sg :=
  if (f_X7_entries σ) = ((f_X8_entries σ).1) then some ((f_X8_entries σ).2)
  else none
set_option maxHeartbeats 4000000 in
set_option maxRecDepth 100000 in
theorem lc_22 {p : Program} {l : Launch} (hl9 : l.stackTraces = false) {e : Env} {s : State} {m : MethodId} {below : List Frame} {meth : Method} {c : Code} {b L : Nat} {xs : Nat → Int32} {D : va_G} {ca : Nat → ClassId} {base : Nat} {ad : Adr} {Q : State → Prop} {iN : Nat} {σ : Sg} {H : Heap} {locs : List Loc} {cells slots : Nat} {ls : Array Slot} (RR : Sg → Prop) (hC : Cx p s m #[Value.ref b] meth c code 7 RL ret D ca base) (hN : Nx s) (hX : va_X b L xs s s.heap) (hbl : b < s.heap.size) (hbA : ¬ Ab base b) (hi7 : iN + 7 ≤ L) (hL9 : L ≤ 3584) (hc : cells + 40 ≤ 601024) (hs : slots + 240 ≤ 7293034) (hI : LInv σ) (hL2 : ∃ σ', g_law_22 xs iN σ = some σ' ∧ RR σ') (hW : Wd D ca (Ab base) ad ρm Lm σ H) (hS : va_S (Ab base) s.heap H locs) (hl : lv_has ls 7 [(4, .int (nI iN)), (3, .ref (ad 90 0)), (2, .ref (ad 8 0)), (1, .ref (ad 7 0)), (0, .ref b)])
    (kk : ∀ (σ' : Sg) (H1 : Heap) (locs1 : List Loc) (ls1 : Array Slot), RR σ' → Wd D ca (Ab base) ad ρm Lm σ' H1 → va_S (Ab base) s.heap H1 locs1 → lv_has ls1 7 [(4, .int (nI iN)), (3, .ref (ad 90 0)), (2, .ref (ad 8 0)), (1, .ref (ad 7 0)), (0, .ref b)] → W p l e room_1 s m #[Value.ref b] below meth c H1 locs1 (cells + 40) (slots + 240) Q (F0 m 2689 ls1 [])) : W p l e room_1 s m #[Value.ref b] below meth c H locs cells slots Q (F0 m 2034 ls []) := by
  have hx := hC.1
  have hb := hC.2.1
  refine lv_aload_n hx hb dL_law_2034 rfl (lv_at hl 3 rfl) ?_
  refine w_callVL (As := []) (rest := []) (st2 := .int (f_X7_entries σ) :: []) hC hW hS hl cv_L_202 m_7 (by decide) rfl (c_X7_entries l hl9 D ca base ad σ ) rfl rfl rfl ⟨Nat.le_of_ble_eq_true rfl, Nat.le_of_ble_eq_true rfl⟩ (Nat.le_of_ble_eq_true rfl) dL_law_2035 ⟨by show cells + 0 ≤ 601024; omega, by show slots + 0 ≤ 7293034; omega⟩ (c2 := cells + 0) (s2 := slots + 0) rfl rfl (fun H locs hW hS => ?_)
  refine lv_aload_n hx hb dL_law_2038 rfl (lv_at hl 2 rfl) ?_
  refine w_callVL (As := []) (rest := .int (f_X7_entries σ) :: []) (st2 := .int ((f_X8_entries σ).1) :: .int (f_X7_entries σ) :: []) hC hW hS hl cv_L_205 m_8 (by decide) rfl (c_X8_entries l hl9 D ca base ad σ hI.2.2.1) rfl rfl rfl ⟨Nat.le_of_ble_eq_true rfl, Nat.le_of_ble_eq_true rfl⟩ (Nat.le_of_ble_eq_true rfl) dL_law_2039 ⟨by show cells + 0 + 0 ≤ 601024; omega, by show slots + 0 + 0 ≤ 7293034; omega⟩ (c2 := cells + 0 + 0) (s2 := slots + 0 + 0) rfl rfl (fun H locs hW hS => ?_)
  refine lv_icmp_eq (tgt := 2689) hx hb dL_law_2042 (by decide) (fun c_1 => ?_) (fun c_1 => ?_)
  · have hO : g_law_22 xs iN σ = some ((f_X8_entries σ).2) := by rw [g_law_22, if_pos c_1]
    obtain ⟨σ9, h9, hR9⟩ := hL2
    rw [hO] at h9
    cases h9
    exact W.widen (by omega) (by omega) (kk _ _ _ _ hR9 hW hS (lv_sub hl [0, 1, 2, 3, 4] rfl))
  · refine lv_iconst (v := 0) hx hb dL_law_2045 (by decide) ?_
    have hO : g_law_22 xs iN σ = none := by rw [g_law_22, if_neg c_1]
    obtain ⟨σ9, h9, hR9⟩ := hL2
    rw [hO] at h9
    cases h9
def g_law_23 (xs : Nat → Int32) (iN : Nat) (σ : Sg) : Option Sg :=
  if (f_X7_lost σ) = ((f_X8_lost σ).1) then some ((f_X8_lost σ).2)
  else none
set_option maxHeartbeats 4000000 in
set_option maxRecDepth 100000 in
theorem lc_23 {p : Program} {l : Launch} (hl9 : l.stackTraces = false) {e : Env} {s : State} {m : MethodId} {below : List Frame} {meth : Method} {c : Code} {b L : Nat} {xs : Nat → Int32} {D : va_G} {ca : Nat → ClassId} {base : Nat} {ad : Adr} {Q : State → Prop} {iN : Nat} {σ : Sg} {H : Heap} {locs : List Loc} {cells slots : Nat} {ls : Array Slot} (RR : Sg → Prop) (hC : Cx p s m #[Value.ref b] meth c code 7 RL ret D ca base) (hN : Nx s) (hX : va_X b L xs s s.heap) (hbl : b < s.heap.size) (hbA : ¬ Ab base b) (hi7 : iN + 7 ≤ L) (hL9 : L ≤ 3584) (hc : cells + 40 ≤ 601024) (hs : slots + 240 ≤ 7293034) (hI : LInv σ) (hL2 : ∃ σ', g_law_23 xs iN σ = some σ' ∧ RR σ') (hW : Wd D ca (Ab base) ad ρm Lm σ H) (hS : va_S (Ab base) s.heap H locs) (hl : lv_has ls 7 [(4, .int (nI iN)), (3, .ref (ad 90 0)), (2, .ref (ad 8 0)), (1, .ref (ad 7 0)), (0, .ref b)])
    (kk : ∀ (σ' : Sg) (H1 : Heap) (locs1 : List Loc) (ls1 : Array Slot), RR σ' → Wd D ca (Ab base) ad ρm Lm σ' H1 → va_S (Ab base) s.heap H1 locs1 → lv_has ls1 7 [(4, .int (nI iN)), (3, .ref (ad 90 0)), (2, .ref (ad 8 0)), (1, .ref (ad 7 0)), (0, .ref b)] → W p l e room_1 s m #[Value.ref b] below meth c H1 locs1 (cells + 40) (slots + 240) Q (F0 m 2689 ls1 [])) : W p l e room_1 s m #[Value.ref b] below meth c H locs cells slots Q (F0 m 2047 ls []) := by
  have hx := hC.1
  have hb := hC.2.1
  refine lv_aload_n hx hb dL_law_2047 rfl (lv_at hl 3 rfl) ?_
  refine w_callVL (As := []) (rest := []) (st2 := .int (f_X7_lost σ) :: []) hC hW hS hl cv_L_206 m_7 (by decide) rfl (c_X7_lost l hl9 D ca base ad σ ) rfl rfl rfl ⟨Nat.le_of_ble_eq_true rfl, Nat.le_of_ble_eq_true rfl⟩ (Nat.le_of_ble_eq_true rfl) dL_law_2048 ⟨by show cells + 0 ≤ 601024; omega, by show slots + 0 ≤ 7293034; omega⟩ (c2 := cells + 0) (s2 := slots + 0) rfl rfl (fun H locs hW hS => ?_)
  refine lv_aload_n hx hb dL_law_2051 rfl (lv_at hl 2 rfl) ?_
  refine w_callVL (As := []) (rest := .int (f_X7_lost σ) :: []) (st2 := .int ((f_X8_lost σ).1) :: .int (f_X7_lost σ) :: []) hC hW hS hl cv_L_209 m_8 (by decide) rfl (c_X8_lost l hl9 D ca base ad σ hI.2.2.1) rfl rfl rfl ⟨Nat.le_of_ble_eq_true rfl, Nat.le_of_ble_eq_true rfl⟩ (Nat.le_of_ble_eq_true rfl) dL_law_2052 ⟨by show cells + 0 + 0 ≤ 601024; omega, by show slots + 0 + 0 ≤ 7293034; omega⟩ (c2 := cells + 0 + 0) (s2 := slots + 0 + 0) rfl rfl (fun H locs hW hS => ?_)
  refine lv_icmp_eq (tgt := 2689) hx hb dL_law_2055 (by decide) (fun c_1 => ?_) (fun c_1 => ?_)
  · have hO : g_law_23 xs iN σ = some ((f_X8_lost σ).2) := by rw [g_law_23, if_pos c_1]
    obtain ⟨σ9, h9, hR9⟩ := hL2
    rw [hO] at h9
    cases h9
    exact W.widen (by omega) (by omega) (kk _ _ _ _ hR9 hW hS (lv_sub hl [0, 1, 2, 3, 4] rfl))
  · refine lv_iconst (v := 0) hx hb dL_law_2058 (by decide) ?_
    have hO : g_law_23 xs iN σ = none := by rw [g_law_23, if_neg c_1]
    obtain ⟨σ9, h9, hR9⟩ := hL2
    rw [hO] at h9
    cases h9
def g_law_24 (xs : Nat → Int32) (iN : Nat) (σ : Sg) : Option Sg :=
  if (f_X8_thrown ((f_X8_logged (xs (iN + 1)) (xs (iN + 2)) ((f_L_logged (xs (iN + 1)) (xs (iN + 2)) σ).2)).2)) = ((f_L_logged (xs (iN + 1)) (xs (iN + 2)) σ).1) then (if ((f_L_logged (xs (iN + 1)) (xs (iN + 2)) σ).1) = 0 then (if (lg_cmp ((((f_L_logged (xs (iN + 1)) (xs (iN + 2)) σ).2) 90 0 0).toInt64) (((f_X8_logged (xs (iN + 1)) (xs (iN + 2)) ((f_L_logged (xs (iN + 1)) (xs (iN + 2)) σ).2)).1).toInt64)) = 0 then some ((f_X8_logged (xs (iN + 1)) (xs (iN + 2)) ((f_L_logged (xs (iN + 1)) (xs (iN + 2)) σ).2)).2)
      else none)
    else some ((f_X8_logged (xs (iN + 1)) (xs (iN + 2)) ((f_L_logged (xs (iN + 1)) (xs (iN + 2)) σ).2)).2))
  else none
set_option maxHeartbeats 4000000 in
set_option maxRecDepth 100000 in
theorem lc_24 {p : Program} {l : Launch} (hl9 : l.stackTraces = false) {e : Env} {s : State} {m : MethodId} {below : List Frame} {meth : Method} {c : Code} {b L : Nat} {xs : Nat → Int32} {D : va_G} {ca : Nat → ClassId} {base : Nat} {ad : Adr} {Q : State → Prop} {iN : Nat} {σ : Sg} {H : Heap} {locs : List Loc} {cells slots : Nat} {ls : Array Slot} (RR : Sg → Prop) (hC : Cx p s m #[Value.ref b] meth c code 7 RL ret D ca base) (hN : Nx s) (hX : va_X b L xs s s.heap) (hbl : b < s.heap.size) (hbA : ¬ Ab base b) (hi7 : iN + 7 ≤ L) (hL9 : L ≤ 3584) (hc : cells + 40 ≤ 601024) (hs : slots + 240 ≤ 7293034) (hI : LInv σ) (hL2 : ∃ σ', g_law_24 xs iN σ = some σ' ∧ RR σ') (hW : Wd D ca (Ab base) ad ρm Lm σ H) (hS : va_S (Ab base) s.heap H locs) (hl : lv_has ls 7 [(4, .int (nI iN)), (3, .ref (ad 90 0)), (2, .ref (ad 8 0)), (1, .ref (ad 7 0)), (0, .ref b)])
    (kk : ∀ (σ' : Sg) (H1 : Heap) (locs1 : List Loc) (ls1 : Array Slot), RR σ' → Wd D ca (Ab base) ad ρm Lm σ' H1 → va_S (Ab base) s.heap H1 locs1 → lv_has ls1 7 [(4, .int (nI iN)), (3, .ref (ad 90 0)), (2, .ref (ad 8 0)), (1, .ref (ad 7 0)), (0, .ref b)] → W p l e room_1 s m #[Value.ref b] below meth c H1 locs1 (cells + 40) (slots + 240) Q (F0 m 2689 ls1 [])) : W p l e room_1 s m #[Value.ref b] below meth c H locs cells slots Q (F0 m 2060 ls []) := by
  have hx := hC.1
  have hb := hC.2.1
  refine lv_aload_n hx hb dL_law_2060 rfl (lv_at hl 3 rfl) ?_
  refine lv_aload_n hx hb dL_law_2061 rfl (lv_at hl 4 rfl) ?_
  refine lv_iload hx hb dL_law_2062 (lv_at hl 0 rfl) ?_
  refine lv_iconst (v := 1) hx hb dL_law_2064 (by decide) ?_
  refine lv_iadd hx hb dL_law_2065 ?_
  refine va_sld hx hb hX hbl hbA hS (vp_in_addr (a := 1) (by decide) (by omega) (by omega)) dL_law_2066 ?_
  rw [cl_addr (a := 1) (by decide) (by omega)]
  refine lv_aload_n hx hb dL_law_2067 rfl (lv_at hl 4 rfl) ?_
  refine lv_iload hx hb dL_law_2068 (lv_at hl 0 rfl) ?_
  refine lv_iconst (v := 2) hx hb dL_law_2070 (by decide) ?_
  refine lv_iadd hx hb dL_law_2071 ?_
  refine va_sld hx hb hX hbl hbA hS (vp_in_addr (a := 2) (by decide) (by omega) (by omega)) dL_law_2072 ?_
  rw [cl_addr (a := 2) (by decide) (by omega)]
  refine lv_aload_n hx hb dL_law_2073 rfl (lv_at hl 1 rfl) ?_
  refine w_callL (As := [.ref (ad 7 0), .int (xs (iN + 1)), .int (xs (iN + 2)), .ref (ad 90 0)]) (rest := []) (st2 := .int ((f_L_logged (xs (iN + 1)) (xs (iN + 2)) σ).1) :: []) hC hN hW hS hl cl_L_210 (c_L_logged l hl9 D ca base ad σ (xs (iN + 1)) (xs (iN + 2)) hI.1) rfl rfl rfl ⟨Nat.le_of_ble_eq_true rfl, Nat.le_of_ble_eq_true rfl⟩ (Nat.le_of_ble_eq_true rfl) dL_law_2074 ⟨by show cells + 2 ≤ 601024; omega, by show slots + 12 ≤ 7293034; omega⟩ (c2 := cells + 2) (s2 := slots + 12) rfl rfl (fun H locs hW hS => ?_)
  refine lv_istore (lv' := [(5, .int ((f_L_logged (xs (iN + 1)) (xs (iN + 2)) σ).1)), (4, .int (nI iN)), (3, .ref (ad 90 0)), (2, .ref (ad 8 0)), (1, .ref (ad 7 0)), (0, .ref b)]) hx hb dL_law_2077 hl (by decide) rfl (fun ls hl => ?_)
  refine lv_aload_n hx hb dL_law_2079 rfl (lv_at hl 3 rfl) ?_
  refine lv_aload_n hx hb dL_law_2080 rfl (lv_at hl 5 rfl) ?_
  refine lv_iload hx hb dL_law_2081 (lv_at hl 1 rfl) ?_
  refine lv_iconst (v := 1) hx hb dL_law_2083 (by decide) ?_
  refine lv_iadd hx hb dL_law_2084 ?_
  refine va_sld hx hb hX hbl hbA hS (vp_in_addr (a := 1) (by decide) (by omega) (by omega)) dL_law_2085 ?_
  rw [cl_addr (a := 1) (by decide) (by omega)]
  refine lv_aload_n hx hb dL_law_2086 rfl (lv_at hl 5 rfl) ?_
  refine lv_iload hx hb dL_law_2087 (lv_at hl 1 rfl) ?_
  refine lv_iconst (v := 2) hx hb dL_law_2089 (by decide) ?_
  refine lv_iadd hx hb dL_law_2090 ?_
  refine va_sld hx hb hX hbl hbA hS (vp_in_addr (a := 2) (by decide) (by omega) (by omega)) dL_law_2091 ?_
  rw [cl_addr (a := 2) (by decide) (by omega)]
  refine w_callVL (As := [.int (xs (iN + 1)), .int (xs (iN + 2))]) (rest := []) (st2 := .int ((f_X8_logged (xs (iN + 1)) (xs (iN + 2)) ((f_L_logged (xs (iN + 1)) (xs (iN + 2)) σ).2)).1) :: []) hC hW hS hl cv_L_212 m_8 (by decide) rfl (c_X8_logged l hl9 D ca base ad ((f_L_logged (xs (iN + 1)) (xs (iN + 2)) σ).2) (xs (iN + 1)) (xs (iN + 2)) (mi_of hI.2.2.1 (by rw [fr_L_logged (by decide)]) (by rw [fr_L_logged (by decide)]) (by rw [fr_L_logged (by decide)]) (by rw [fr_L_logged (by decide)]) (by rw [fr_L_logged (by decide)]) (by rw [fr_L_logged (by decide)]) (by rw [fr_L_logged (by decide)]) (by rw [fr_L_logged (by decide)]) (by rw [fr_L_logged (by decide)]) (by rw [fr_L_logged (by decide)]) (by rw [fr_L_logged (by decide)]) (by rw [fr_L_logged (by decide)]) (by rw [fr_L_logged (by decide)]) (by rw [fr_L_logged (by decide)]) (by rw [fr_L_logged (by decide)]) (by rw [fr_L_logged (by decide)]))) rfl rfl rfl ⟨Nat.le_of_ble_eq_true rfl, Nat.le_of_ble_eq_true rfl⟩ (Nat.le_of_ble_eq_true rfl) dL_law_2092 ⟨by show cells + 2 + 0 ≤ 601024; omega, by show slots + 12 + 0 ≤ 7293034; omega⟩ (c2 := cells + 2 + 0) (s2 := slots + 12 + 0) rfl rfl (fun H locs hW hS => ?_)
  refine lv_istore (lv' := [(6, .int ((f_X8_logged (xs (iN + 1)) (xs (iN + 2)) ((f_L_logged (xs (iN + 1)) (xs (iN + 2)) σ).2)).1)), (5, .int ((f_L_logged (xs (iN + 1)) (xs (iN + 2)) σ).1)), (4, .int (nI iN)), (3, .ref (ad 90 0)), (2, .ref (ad 8 0)), (1, .ref (ad 7 0)), (0, .ref b)]) hx hb dL_law_2095 hl (by decide) rfl (fun ls hl => ?_)
  refine lv_aload_n hx hb dL_law_2097 rfl (lv_at hl 4 rfl) ?_
  refine w_callVL (As := []) (rest := []) (st2 := .int (f_X8_thrown ((f_X8_logged (xs (iN + 1)) (xs (iN + 2)) ((f_L_logged (xs (iN + 1)) (xs (iN + 2)) σ).2)).2)) :: []) hC hW hS hl cv_L_127 m_8 (by decide) rfl (c_X8_thrown l hl9 D ca base ad ((f_X8_logged (xs (iN + 1)) (xs (iN + 2)) ((f_L_logged (xs (iN + 1)) (xs (iN + 2)) σ).2)).2) ) rfl rfl rfl ⟨Nat.le_of_ble_eq_true rfl, Nat.le_of_ble_eq_true rfl⟩ (Nat.le_of_ble_eq_true rfl) dL_law_2098 ⟨by show cells + 2 + 0 + 0 ≤ 601024; omega, by show slots + 12 + 0 + 0 ≤ 7293034; omega⟩ (c2 := cells + 2 + 0 + 0) (s2 := slots + 12 + 0 + 0) rfl rfl (fun H locs hW hS => ?_)
  refine lv_iload hx hb dL_law_2101 (lv_at hl 1 rfl) ?_
  refine lv_icmp_eq (tgt := 2108) hx hb dL_law_2103 (by decide) (fun c_1 => ?_) (fun c_1 => ?_)
  · refine lv_iload hx hb dL_law_2108 (lv_at hl 1 rfl) ?_
    refine lv_if_ne (tgt := 2125) hx hb dL_law_2110 (by decide) (fun c_2 => ?_) (fun c_2 => ?_)
    · refine lv_goto (tgt := 2689) hx hb dL_law_2125 (by decide) ?_
      have hO : g_law_24 xs iN σ = some ((f_X8_logged (xs (iN + 1)) (xs (iN + 2)) ((f_L_logged (xs (iN + 1)) (xs (iN + 2)) σ).2)).2) := by rw [g_law_24, if_pos c_1, if_neg c_2]
      obtain ⟨σ9, h9, hR9⟩ := hL2
      rw [hO] at h9
      cases h9
      exact W.widen (by omega) (by omega) (kk _ _ _ _ hR9 hW hS (lv_sub hl [2, 3, 4, 5, 6] rfl))
    · refine lv_aload_n hx hb dL_law_2113 rfl (lv_at hl 3 rfl) ?_
      refine lv_iconst (v := 0) hx hb dL_law_2114 (by decide) ?_
      refine w_lald hC hW m_90 (vp_lit (by decide)) dL_law_2115 ?_
      rw [show Int32.toNatClampNeg 0 = 0 by decide, fr_X8_logged (by decide)]
      refine lv_iload hx hb dL_law_2116 (lv_at hl 0 rfl) ?_
      refine lv_i2l hx hb dL_law_2118 rfl ?_
      refine W.lcmp hx hb dL_law_2119 ?_
      refine lv_if_eq (tgt := 2125) hx hb dL_law_2120 (by decide) (fun c_3 => ?_) (fun c_3 => ?_)
      · refine lv_goto (tgt := 2689) hx hb dL_law_2125 (by decide) ?_
        have hO : g_law_24 xs iN σ = some ((f_X8_logged (xs (iN + 1)) (xs (iN + 2)) ((f_L_logged (xs (iN + 1)) (xs (iN + 2)) σ).2)).2) := by rw [g_law_24, if_pos c_1, if_pos c_2, if_pos c_3]
        obtain ⟨σ9, h9, hR9⟩ := hL2
        rw [hO] at h9
        cases h9
        exact W.widen (by omega) (by omega) (kk _ _ _ _ hR9 hW hS (lv_sub hl [2, 3, 4, 5, 6] rfl))
      · refine lv_iconst (v := 0) hx hb dL_law_2123 (by decide) ?_
        have hO : g_law_24 xs iN σ = none := by rw [g_law_24, if_pos c_1, if_pos c_2, if_neg c_3]
        obtain ⟨σ9, h9, hR9⟩ := hL2
        rw [hO] at h9
        cases h9
  · refine lv_iconst (v := 0) hx hb dL_law_2106 (by decide) ?_
    have hO : g_law_24 xs iN σ = none := by rw [g_law_24, if_neg c_1]
    obtain ⟨σ9, h9, hR9⟩ := hL2
    rw [hO] at h9
    cases h9
def g_law_25 (xs : Nat → Int32) (iN : Nat) (σ : Sg) : Option Sg :=
  if (f_X8_thrown ((f_X8_forge (xs (iN + 1)) (xs (iN + 2)) ((f_L_forge (xs (iN + 1)) (xs (iN + 2)) σ).2)).2)) = ((f_L_forge (xs (iN + 1)) (xs (iN + 2)) σ).1) then (if ((f_L_forge (xs (iN + 1)) (xs (iN + 2)) σ).1) = 0 then (if (lg_cmp ((((f_L_forge (xs (iN + 1)) (xs (iN + 2)) σ).2) 90 0 0).toInt64) (((f_X8_forge (xs (iN + 1)) (xs (iN + 2)) ((f_L_forge (xs (iN + 1)) (xs (iN + 2)) σ).2)).1).toInt64)) = 0 then some ((f_X8_forge (xs (iN + 1)) (xs (iN + 2)) ((f_L_forge (xs (iN + 1)) (xs (iN + 2)) σ).2)).2)
      else none)
    else some ((f_X8_forge (xs (iN + 1)) (xs (iN + 2)) ((f_L_forge (xs (iN + 1)) (xs (iN + 2)) σ).2)).2))
  else none
set_option maxHeartbeats 4000000 in
set_option maxRecDepth 100000 in
theorem lc_25 {p : Program} {l : Launch} (hl9 : l.stackTraces = false) {e : Env} {s : State} {m : MethodId} {below : List Frame} {meth : Method} {c : Code} {b L : Nat} {xs : Nat → Int32} {D : va_G} {ca : Nat → ClassId} {base : Nat} {ad : Adr} {Q : State → Prop} {iN : Nat} {σ : Sg} {H : Heap} {locs : List Loc} {cells slots : Nat} {ls : Array Slot} (RR : Sg → Prop) (hC : Cx p s m #[Value.ref b] meth c code 7 RL ret D ca base) (hN : Nx s) (hX : va_X b L xs s s.heap) (hbl : b < s.heap.size) (hbA : ¬ Ab base b) (hi7 : iN + 7 ≤ L) (hL9 : L ≤ 3584) (hc : cells + 40 ≤ 601024) (hs : slots + 240 ≤ 7293034) (hI : LInv σ) (hL2 : ∃ σ', g_law_25 xs iN σ = some σ' ∧ RR σ') (hW : Wd D ca (Ab base) ad ρm Lm σ H) (hS : va_S (Ab base) s.heap H locs) (hl : lv_has ls 7 [(4, .int (nI iN)), (3, .ref (ad 90 0)), (2, .ref (ad 8 0)), (1, .ref (ad 7 0)), (0, .ref b)])
    (kk : ∀ (σ' : Sg) (H1 : Heap) (locs1 : List Loc) (ls1 : Array Slot), RR σ' → Wd D ca (Ab base) ad ρm Lm σ' H1 → va_S (Ab base) s.heap H1 locs1 → lv_has ls1 7 [(4, .int (nI iN)), (3, .ref (ad 90 0)), (2, .ref (ad 8 0)), (1, .ref (ad 7 0)), (0, .ref b)] → W p l e room_1 s m #[Value.ref b] below meth c H1 locs1 (cells + 40) (slots + 240) Q (F0 m 2689 ls1 [])) : W p l e room_1 s m #[Value.ref b] below meth c H locs cells slots Q (F0 m 2128 ls []) := by
  have hx := hC.1
  have hb := hC.2.1
  refine lv_aload_n hx hb dL_law_2128 rfl (lv_at hl 3 rfl) ?_
  refine lv_aload_n hx hb dL_law_2129 rfl (lv_at hl 4 rfl) ?_
  refine lv_iload hx hb dL_law_2130 (lv_at hl 0 rfl) ?_
  refine lv_iconst (v := 1) hx hb dL_law_2132 (by decide) ?_
  refine lv_iadd hx hb dL_law_2133 ?_
  refine va_sld hx hb hX hbl hbA hS (vp_in_addr (a := 1) (by decide) (by omega) (by omega)) dL_law_2134 ?_
  rw [cl_addr (a := 1) (by decide) (by omega)]
  refine lv_aload_n hx hb dL_law_2135 rfl (lv_at hl 4 rfl) ?_
  refine lv_iload hx hb dL_law_2136 (lv_at hl 0 rfl) ?_
  refine lv_iconst (v := 2) hx hb dL_law_2138 (by decide) ?_
  refine lv_iadd hx hb dL_law_2139 ?_
  refine va_sld hx hb hX hbl hbA hS (vp_in_addr (a := 2) (by decide) (by omega) (by omega)) dL_law_2140 ?_
  rw [cl_addr (a := 2) (by decide) (by omega)]
  refine lv_aload_n hx hb dL_law_2141 rfl (lv_at hl 1 rfl) ?_
  refine w_callL (As := [.ref (ad 7 0), .int (xs (iN + 1)), .int (xs (iN + 2)), .ref (ad 90 0)]) (rest := []) (st2 := .int ((f_L_forge (xs (iN + 1)) (xs (iN + 2)) σ).1) :: []) hC hN hW hS hl cl_L_213 (c_L_forge l hl9 D ca base ad σ (xs (iN + 1)) (xs (iN + 2)) hI.1) rfl rfl rfl ⟨Nat.le_of_ble_eq_true rfl, Nat.le_of_ble_eq_true rfl⟩ (Nat.le_of_ble_eq_true rfl) dL_law_2142 ⟨by show cells + 2 ≤ 601024; omega, by show slots + 12 ≤ 7293034; omega⟩ (c2 := cells + 2) (s2 := slots + 12) rfl rfl (fun H locs hW hS => ?_)
  refine lv_istore (lv' := [(5, .int ((f_L_forge (xs (iN + 1)) (xs (iN + 2)) σ).1)), (4, .int (nI iN)), (3, .ref (ad 90 0)), (2, .ref (ad 8 0)), (1, .ref (ad 7 0)), (0, .ref b)]) hx hb dL_law_2145 hl (by decide) rfl (fun ls hl => ?_)
  refine lv_aload_n hx hb dL_law_2147 rfl (lv_at hl 3 rfl) ?_
  refine lv_aload_n hx hb dL_law_2148 rfl (lv_at hl 5 rfl) ?_
  refine lv_iload hx hb dL_law_2149 (lv_at hl 1 rfl) ?_
  refine lv_iconst (v := 1) hx hb dL_law_2151 (by decide) ?_
  refine lv_iadd hx hb dL_law_2152 ?_
  refine va_sld hx hb hX hbl hbA hS (vp_in_addr (a := 1) (by decide) (by omega) (by omega)) dL_law_2153 ?_
  rw [cl_addr (a := 1) (by decide) (by omega)]
  refine lv_aload_n hx hb dL_law_2154 rfl (lv_at hl 5 rfl) ?_
  refine lv_iload hx hb dL_law_2155 (lv_at hl 1 rfl) ?_
  refine lv_iconst (v := 2) hx hb dL_law_2157 (by decide) ?_
  refine lv_iadd hx hb dL_law_2158 ?_
  refine va_sld hx hb hX hbl hbA hS (vp_in_addr (a := 2) (by decide) (by omega) (by omega)) dL_law_2159 ?_
  rw [cl_addr (a := 2) (by decide) (by omega)]
  refine w_callVL (As := [.int (xs (iN + 1)), .int (xs (iN + 2))]) (rest := []) (st2 := .int ((f_X8_forge (xs (iN + 1)) (xs (iN + 2)) ((f_L_forge (xs (iN + 1)) (xs (iN + 2)) σ).2)).1) :: []) hC hW hS hl cv_L_215 m_8 (by decide) rfl (c_X8_forge l hl9 D ca base ad ((f_L_forge (xs (iN + 1)) (xs (iN + 2)) σ).2) (xs (iN + 1)) (xs (iN + 2)) (mi_of hI.2.2.1 (by rw [fr_L_forge (by decide) (by decide)]) (by rw [fr_L_forge (by decide) (by decide)]) (by rw [fr_L_forge (by decide) (by decide)]) (by rw [fr_L_forge (by decide) (by decide)]) (by rw [fr_L_forge (by decide) (by decide)]) (by rw [fr_L_forge (by decide) (by decide)]) (by rw [fr_L_forge (by decide) (by decide)]) (by rw [fr_L_forge (by decide) (by decide)]) (by rw [fr_L_forge (by decide) (by decide)]) (by rw [fr_L_forge (by decide) (by decide)]) (by rw [fr_L_forge (by decide) (by decide)]) (by rw [fr_L_forge (by decide) (by decide)]) (by rw [fr_L_forge (by decide) (by decide)]) (by rw [fr_L_forge (by decide) (by decide)]) (by rw [fr_L_forge (by decide) (by decide)]) (by rw [fr_L_forge (by decide) (by decide)]))) rfl rfl rfl ⟨Nat.le_of_ble_eq_true rfl, Nat.le_of_ble_eq_true rfl⟩ (Nat.le_of_ble_eq_true rfl) dL_law_2160 ⟨by show cells + 2 + 0 ≤ 601024; omega, by show slots + 12 + 0 ≤ 7293034; omega⟩ (c2 := cells + 2 + 0) (s2 := slots + 12 + 0) rfl rfl (fun H locs hW hS => ?_)
  refine lv_istore (lv' := [(6, .int ((f_X8_forge (xs (iN + 1)) (xs (iN + 2)) ((f_L_forge (xs (iN + 1)) (xs (iN + 2)) σ).2)).1)), (5, .int ((f_L_forge (xs (iN + 1)) (xs (iN + 2)) σ).1)), (4, .int (nI iN)), (3, .ref (ad 90 0)), (2, .ref (ad 8 0)), (1, .ref (ad 7 0)), (0, .ref b)]) hx hb dL_law_2163 hl (by decide) rfl (fun ls hl => ?_)
  refine lv_aload_n hx hb dL_law_2165 rfl (lv_at hl 4 rfl) ?_
  refine w_callVL (As := []) (rest := []) (st2 := .int (f_X8_thrown ((f_X8_forge (xs (iN + 1)) (xs (iN + 2)) ((f_L_forge (xs (iN + 1)) (xs (iN + 2)) σ).2)).2)) :: []) hC hW hS hl cv_L_127 m_8 (by decide) rfl (c_X8_thrown l hl9 D ca base ad ((f_X8_forge (xs (iN + 1)) (xs (iN + 2)) ((f_L_forge (xs (iN + 1)) (xs (iN + 2)) σ).2)).2) ) rfl rfl rfl ⟨Nat.le_of_ble_eq_true rfl, Nat.le_of_ble_eq_true rfl⟩ (Nat.le_of_ble_eq_true rfl) dL_law_2166 ⟨by show cells + 2 + 0 + 0 ≤ 601024; omega, by show slots + 12 + 0 + 0 ≤ 7293034; omega⟩ (c2 := cells + 2 + 0 + 0) (s2 := slots + 12 + 0 + 0) rfl rfl (fun H locs hW hS => ?_)
  refine lv_iload hx hb dL_law_2169 (lv_at hl 1 rfl) ?_
  refine lv_icmp_eq (tgt := 2176) hx hb dL_law_2171 (by decide) (fun c_1 => ?_) (fun c_1 => ?_)
  · refine lv_iload hx hb dL_law_2176 (lv_at hl 1 rfl) ?_
    refine lv_if_ne (tgt := 2193) hx hb dL_law_2178 (by decide) (fun c_2 => ?_) (fun c_2 => ?_)
    · refine lv_goto (tgt := 2689) hx hb dL_law_2193 (by decide) ?_
      have hO : g_law_25 xs iN σ = some ((f_X8_forge (xs (iN + 1)) (xs (iN + 2)) ((f_L_forge (xs (iN + 1)) (xs (iN + 2)) σ).2)).2) := by rw [g_law_25, if_pos c_1, if_neg c_2]
      obtain ⟨σ9, h9, hR9⟩ := hL2
      rw [hO] at h9
      cases h9
      exact W.widen (by omega) (by omega) (kk _ _ _ _ hR9 hW hS (lv_sub hl [2, 3, 4, 5, 6] rfl))
    · refine lv_aload_n hx hb dL_law_2181 rfl (lv_at hl 3 rfl) ?_
      refine lv_iconst (v := 0) hx hb dL_law_2182 (by decide) ?_
      refine w_lald hC hW m_90 (vp_lit (by decide)) dL_law_2183 ?_
      rw [show Int32.toNatClampNeg 0 = 0 by decide, fr_X8_forge (by decide) (by decide)]
      refine lv_iload hx hb dL_law_2184 (lv_at hl 0 rfl) ?_
      refine lv_i2l hx hb dL_law_2186 rfl ?_
      refine W.lcmp hx hb dL_law_2187 ?_
      refine lv_if_eq (tgt := 2193) hx hb dL_law_2188 (by decide) (fun c_3 => ?_) (fun c_3 => ?_)
      · refine lv_goto (tgt := 2689) hx hb dL_law_2193 (by decide) ?_
        have hO : g_law_25 xs iN σ = some ((f_X8_forge (xs (iN + 1)) (xs (iN + 2)) ((f_L_forge (xs (iN + 1)) (xs (iN + 2)) σ).2)).2) := by rw [g_law_25, if_pos c_1, if_pos c_2, if_pos c_3]
        obtain ⟨σ9, h9, hR9⟩ := hL2
        rw [hO] at h9
        cases h9
        exact W.widen (by omega) (by omega) (kk _ _ _ _ hR9 hW hS (lv_sub hl [2, 3, 4, 5, 6] rfl))
      · refine lv_iconst (v := 0) hx hb dL_law_2191 (by decide) ?_
        have hO : g_law_25 xs iN σ = none := by rw [g_law_25, if_pos c_1, if_pos c_2, if_neg c_3]
        obtain ⟨σ9, h9, hR9⟩ := hL2
        rw [hO] at h9
        cases h9
  · refine lv_iconst (v := 0) hx hb dL_law_2174 (by decide) ?_
    have hO : g_law_25 xs iN σ = none := by rw [g_law_25, if_neg c_1]
    obtain ⟨σ9, h9, hR9⟩ := hL2
    rw [hO] at h9
    cases h9
def g_law_26 (xs : Nat → Int32) (iN : Nat) (σ : Sg) : Option Sg :=
  if (f_X7_broken σ) = ((f_X8_broken σ).1) then some ((f_X8_broken σ).2)
  else none
set_option maxHeartbeats 4000000 in
set_option maxRecDepth 100000 in
theorem lc_26 {p : Program} {l : Launch} (hl9 : l.stackTraces = false) {e : Env} {s : State} {m : MethodId} {below : List Frame} {meth : Method} {c : Code} {b L : Nat} {xs : Nat → Int32} {D : va_G} {ca : Nat → ClassId} {base : Nat} {ad : Adr} {Q : State → Prop} {iN : Nat} {σ : Sg} {H : Heap} {locs : List Loc} {cells slots : Nat} {ls : Array Slot} (RR : Sg → Prop) (hC : Cx p s m #[Value.ref b] meth c code 7 RL ret D ca base) (hN : Nx s) (hX : va_X b L xs s s.heap) (hbl : b < s.heap.size) (hbA : ¬ Ab base b) (hi7 : iN + 7 ≤ L) (hL9 : L ≤ 3584) (hc : cells + 40 ≤ 601024) (hs : slots + 240 ≤ 7293034) (hI : LInv σ) (hL2 : ∃ σ', g_law_26 xs iN σ = some σ' ∧ RR σ') (hW : Wd D ca (Ab base) ad ρm Lm σ H) (hS : va_S (Ab base) s.heap H locs) (hl : lv_has ls 7 [(4, .int (nI iN)), (3, .ref (ad 90 0)), (2, .ref (ad 8 0)), (1, .ref (ad 7 0)), (0, .ref b)])
    (kk : ∀ (σ' : Sg) (H1 : Heap) (locs1 : List Loc) (ls1 : Array Slot), RR σ' → Wd D ca (Ab base) ad ρm Lm σ' H1 → va_S (Ab base) s.heap H1 locs1 → lv_has ls1 7 [(4, .int (nI iN)), (3, .ref (ad 90 0)), (2, .ref (ad 8 0)), (1, .ref (ad 7 0)), (0, .ref b)] → W p l e room_1 s m #[Value.ref b] below meth c H1 locs1 (cells + 40) (slots + 240) Q (F0 m 2689 ls1 [])) : W p l e room_1 s m #[Value.ref b] below meth c H locs cells slots Q (F0 m 2196 ls []) := by
  have hx := hC.1
  have hb := hC.2.1
  refine lv_aload_n hx hb dL_law_2196 rfl (lv_at hl 3 rfl) ?_
  refine w_callVL (As := []) (rest := []) (st2 := .int (f_X7_broken σ) :: []) hC hW hS hl cv_L_216 m_7 (by decide) rfl (c_X7_broken l hl9 D ca base ad σ hI.1) rfl rfl rfl ⟨Nat.le_of_ble_eq_true rfl, Nat.le_of_ble_eq_true rfl⟩ (Nat.le_of_ble_eq_true rfl) dL_law_2197 ⟨by show cells + 0 ≤ 601024; omega, by show slots + 0 ≤ 7293034; omega⟩ (c2 := cells + 0) (s2 := slots + 0) rfl rfl (fun H locs hW hS => ?_)
  refine lv_aload_n hx hb dL_law_2200 rfl (lv_at hl 2 rfl) ?_
  refine w_callVL (As := []) (rest := .int (f_X7_broken σ) :: []) (st2 := .int ((f_X8_broken σ).1) :: .int (f_X7_broken σ) :: []) hC hW hS hl cv_L_219 m_8 (by decide) rfl (c_X8_broken l hl9 D ca base ad σ hI.2.2.1) rfl rfl rfl ⟨Nat.le_of_ble_eq_true rfl, Nat.le_of_ble_eq_true rfl⟩ (Nat.le_of_ble_eq_true rfl) dL_law_2201 ⟨by show cells + 0 + 0 ≤ 601024; omega, by show slots + 0 + 0 ≤ 7293034; omega⟩ (c2 := cells + 0 + 0) (s2 := slots + 0 + 0) rfl rfl (fun H locs hW hS => ?_)
  refine lv_icmp_eq (tgt := 2689) hx hb dL_law_2204 (by decide) (fun c_1 => ?_) (fun c_1 => ?_)
  · have hO : g_law_26 xs iN σ = some ((f_X8_broken σ).2) := by rw [g_law_26, if_pos c_1]
    obtain ⟨σ9, h9, hR9⟩ := hL2
    rw [hO] at h9
    cases h9
    exact W.widen (by omega) (by omega) (kk _ _ _ _ hR9 hW hS (lv_sub hl [0, 1, 2, 3, 4] rfl))
  · refine lv_iconst (v := 0) hx hb dL_law_2207 (by decide) ?_
    have hO : g_law_26 xs iN σ = none := by rw [g_law_26, if_neg c_1]
    obtain ⟨σ9, h9, hR9⟩ := hL2
    rw [hO] at h9
    cases h9
def g_law_27 (xs : Nat → Int32) (iN : Nat) (σ : Sg) : Option Sg :=
  if (f_X8_thrown ((f_X8_verdict (xs (iN + 1)) (xs (iN + 2)) (xs (iN + 3)) ((f_L_verdict (xs (iN + 1)) (xs (iN + 2)) (xs (iN + 3)) σ).2)).2)) = ((f_L_verdict (xs (iN + 1)) (xs (iN + 2)) (xs (iN + 3)) σ).1) then (if ((f_L_verdict (xs (iN + 1)) (xs (iN + 2)) (xs (iN + 3)) σ).1) = 0 then (if (lg_cmp ((((f_L_verdict (xs (iN + 1)) (xs (iN + 2)) (xs (iN + 3)) σ).2) 90 0 0).toInt64) (((f_X8_verdict (xs (iN + 1)) (xs (iN + 2)) (xs (iN + 3)) ((f_L_verdict (xs (iN + 1)) (xs (iN + 2)) (xs (iN + 3)) σ).2)).1).toInt64)) = 0 then some ((f_X8_verdict (xs (iN + 1)) (xs (iN + 2)) (xs (iN + 3)) ((f_L_verdict (xs (iN + 1)) (xs (iN + 2)) (xs (iN + 3)) σ).2)).2)
      else none)
    else some ((f_X8_verdict (xs (iN + 1)) (xs (iN + 2)) (xs (iN + 3)) ((f_L_verdict (xs (iN + 1)) (xs (iN + 2)) (xs (iN + 3)) σ).2)).2))
  else none
set_option maxHeartbeats 4000000 in
set_option maxRecDepth 100000 in
theorem lc_27 {p : Program} {l : Launch} (hl9 : l.stackTraces = false) {e : Env} {s : State} {m : MethodId} {below : List Frame} {meth : Method} {c : Code} {b L : Nat} {xs : Nat → Int32} {D : va_G} {ca : Nat → ClassId} {base : Nat} {ad : Adr} {Q : State → Prop} {iN : Nat} {σ : Sg} {H : Heap} {locs : List Loc} {cells slots : Nat} {ls : Array Slot} (RR : Sg → Prop) (hC : Cx p s m #[Value.ref b] meth c code 7 RL ret D ca base) (hN : Nx s) (hX : va_X b L xs s s.heap) (hbl : b < s.heap.size) (hbA : ¬ Ab base b) (hi7 : iN + 7 ≤ L) (hL9 : L ≤ 3584) (hc : cells + 40 ≤ 601024) (hs : slots + 240 ≤ 7293034) (hI : LInv σ) (hL2 : ∃ σ', g_law_27 xs iN σ = some σ' ∧ RR σ') (hW : Wd D ca (Ab base) ad ρm Lm σ H) (hS : va_S (Ab base) s.heap H locs) (hl : lv_has ls 7 [(4, .int (nI iN)), (3, .ref (ad 90 0)), (2, .ref (ad 8 0)), (1, .ref (ad 7 0)), (0, .ref b)])
    (kk : ∀ (σ' : Sg) (H1 : Heap) (locs1 : List Loc) (ls1 : Array Slot), RR σ' → Wd D ca (Ab base) ad ρm Lm σ' H1 → va_S (Ab base) s.heap H1 locs1 → lv_has ls1 7 [(4, .int (nI iN)), (3, .ref (ad 90 0)), (2, .ref (ad 8 0)), (1, .ref (ad 7 0)), (0, .ref b)] → W p l e room_1 s m #[Value.ref b] below meth c H1 locs1 (cells + 40) (slots + 240) Q (F0 m 2689 ls1 [])) : W p l e room_1 s m #[Value.ref b] below meth c H locs cells slots Q (F0 m 2209 ls []) := by
  have hx := hC.1
  have hb := hC.2.1
  refine lv_aload_n hx hb dL_law_2209 rfl (lv_at hl 3 rfl) ?_
  refine lv_aload_n hx hb dL_law_2210 rfl (lv_at hl 4 rfl) ?_
  refine lv_iload hx hb dL_law_2211 (lv_at hl 0 rfl) ?_
  refine lv_iconst (v := 1) hx hb dL_law_2213 (by decide) ?_
  refine lv_iadd hx hb dL_law_2214 ?_
  refine va_sld hx hb hX hbl hbA hS (vp_in_addr (a := 1) (by decide) (by omega) (by omega)) dL_law_2215 ?_
  rw [cl_addr (a := 1) (by decide) (by omega)]
  refine lv_aload_n hx hb dL_law_2216 rfl (lv_at hl 4 rfl) ?_
  refine lv_iload hx hb dL_law_2217 (lv_at hl 0 rfl) ?_
  refine lv_iconst (v := 2) hx hb dL_law_2219 (by decide) ?_
  refine lv_iadd hx hb dL_law_2220 ?_
  refine va_sld hx hb hX hbl hbA hS (vp_in_addr (a := 2) (by decide) (by omega) (by omega)) dL_law_2221 ?_
  rw [cl_addr (a := 2) (by decide) (by omega)]
  refine lv_aload_n hx hb dL_law_2222 rfl (lv_at hl 4 rfl) ?_
  refine lv_iload hx hb dL_law_2223 (lv_at hl 0 rfl) ?_
  refine lv_iconst (v := 3) hx hb dL_law_2225 (by decide) ?_
  refine lv_iadd hx hb dL_law_2226 ?_
  refine va_sld hx hb hX hbl hbA hS (vp_in_addr (a := 3) (by decide) (by omega) (by omega)) dL_law_2227 ?_
  rw [cl_addr (a := 3) (by decide) (by omega)]
  refine lv_aload_n hx hb dL_law_2228 rfl (lv_at hl 1 rfl) ?_
  refine w_callL (As := [.ref (ad 7 0), .int (xs (iN + 1)), .int (xs (iN + 2)), .int (xs (iN + 3)), .ref (ad 90 0)]) (rest := []) (st2 := .int ((f_L_verdict (xs (iN + 1)) (xs (iN + 2)) (xs (iN + 3)) σ).1) :: []) hC hN hW hS hl cl_L_220 (c_L_verdict l hl9 D ca base ad σ (xs (iN + 1)) (xs (iN + 2)) (xs (iN + 3)) hI.1) rfl rfl rfl ⟨Nat.le_of_ble_eq_true rfl, Nat.le_of_ble_eq_true rfl⟩ (Nat.le_of_ble_eq_true rfl) dL_law_2229 ⟨by show cells + 3 ≤ 601024; omega, by show slots + 18 ≤ 7293034; omega⟩ (c2 := cells + 3) (s2 := slots + 18) rfl rfl (fun H locs hW hS => ?_)
  refine lv_istore (lv' := [(5, .int ((f_L_verdict (xs (iN + 1)) (xs (iN + 2)) (xs (iN + 3)) σ).1)), (4, .int (nI iN)), (3, .ref (ad 90 0)), (2, .ref (ad 8 0)), (1, .ref (ad 7 0)), (0, .ref b)]) hx hb dL_law_2232 hl (by decide) rfl (fun ls hl => ?_)
  refine lv_aload_n hx hb dL_law_2234 rfl (lv_at hl 3 rfl) ?_
  refine lv_aload_n hx hb dL_law_2235 rfl (lv_at hl 5 rfl) ?_
  refine lv_iload hx hb dL_law_2236 (lv_at hl 1 rfl) ?_
  refine lv_iconst (v := 1) hx hb dL_law_2238 (by decide) ?_
  refine lv_iadd hx hb dL_law_2239 ?_
  refine va_sld hx hb hX hbl hbA hS (vp_in_addr (a := 1) (by decide) (by omega) (by omega)) dL_law_2240 ?_
  rw [cl_addr (a := 1) (by decide) (by omega)]
  refine lv_aload_n hx hb dL_law_2241 rfl (lv_at hl 5 rfl) ?_
  refine lv_iload hx hb dL_law_2242 (lv_at hl 1 rfl) ?_
  refine lv_iconst (v := 2) hx hb dL_law_2244 (by decide) ?_
  refine lv_iadd hx hb dL_law_2245 ?_
  refine va_sld hx hb hX hbl hbA hS (vp_in_addr (a := 2) (by decide) (by omega) (by omega)) dL_law_2246 ?_
  rw [cl_addr (a := 2) (by decide) (by omega)]
  refine lv_aload_n hx hb dL_law_2247 rfl (lv_at hl 5 rfl) ?_
  refine lv_iload hx hb dL_law_2248 (lv_at hl 1 rfl) ?_
  refine lv_iconst (v := 3) hx hb dL_law_2250 (by decide) ?_
  refine lv_iadd hx hb dL_law_2251 ?_
  refine va_sld hx hb hX hbl hbA hS (vp_in_addr (a := 3) (by decide) (by omega) (by omega)) dL_law_2252 ?_
  rw [cl_addr (a := 3) (by decide) (by omega)]
  refine w_callVL (As := [.int (xs (iN + 1)), .int (xs (iN + 2)), .int (xs (iN + 3))]) (rest := []) (st2 := .int ((f_X8_verdict (xs (iN + 1)) (xs (iN + 2)) (xs (iN + 3)) ((f_L_verdict (xs (iN + 1)) (xs (iN + 2)) (xs (iN + 3)) σ).2)).1) :: []) hC hW hS hl cv_L_222 m_8 (by decide) rfl (c_X8_verdict l hl9 D ca base ad ((f_L_verdict (xs (iN + 1)) (xs (iN + 2)) (xs (iN + 3)) σ).2) (xs (iN + 1)) (xs (iN + 2)) (xs (iN + 3)) (mi_of hI.2.2.1 (by rw [fr_L_verdict (by decide)]) (by rw [fr_L_verdict (by decide)]) (by rw [fr_L_verdict (by decide)]) (by rw [fr_L_verdict (by decide)]) (by rw [fr_L_verdict (by decide)]) (by rw [fr_L_verdict (by decide)]) (by rw [fr_L_verdict (by decide)]) (by rw [fr_L_verdict (by decide)]) (by rw [fr_L_verdict (by decide)]) (by rw [fr_L_verdict (by decide)]) (by rw [fr_L_verdict (by decide)]) (by rw [fr_L_verdict (by decide)]) (by rw [fr_L_verdict (by decide)]) (by rw [fr_L_verdict (by decide)]) (by rw [fr_L_verdict (by decide)]) (by rw [fr_L_verdict (by decide)]))) rfl rfl rfl ⟨Nat.le_of_ble_eq_true rfl, Nat.le_of_ble_eq_true rfl⟩ (Nat.le_of_ble_eq_true rfl) dL_law_2253 ⟨by show cells + 3 + 0 ≤ 601024; omega, by show slots + 18 + 0 ≤ 7293034; omega⟩ (c2 := cells + 3 + 0) (s2 := slots + 18 + 0) rfl rfl (fun H locs hW hS => ?_)
  refine lv_istore (lv' := [(6, .int ((f_X8_verdict (xs (iN + 1)) (xs (iN + 2)) (xs (iN + 3)) ((f_L_verdict (xs (iN + 1)) (xs (iN + 2)) (xs (iN + 3)) σ).2)).1)), (5, .int ((f_L_verdict (xs (iN + 1)) (xs (iN + 2)) (xs (iN + 3)) σ).1)), (4, .int (nI iN)), (3, .ref (ad 90 0)), (2, .ref (ad 8 0)), (1, .ref (ad 7 0)), (0, .ref b)]) hx hb dL_law_2256 hl (by decide) rfl (fun ls hl => ?_)
  refine lv_aload_n hx hb dL_law_2258 rfl (lv_at hl 4 rfl) ?_
  refine w_callVL (As := []) (rest := []) (st2 := .int (f_X8_thrown ((f_X8_verdict (xs (iN + 1)) (xs (iN + 2)) (xs (iN + 3)) ((f_L_verdict (xs (iN + 1)) (xs (iN + 2)) (xs (iN + 3)) σ).2)).2)) :: []) hC hW hS hl cv_L_127 m_8 (by decide) rfl (c_X8_thrown l hl9 D ca base ad ((f_X8_verdict (xs (iN + 1)) (xs (iN + 2)) (xs (iN + 3)) ((f_L_verdict (xs (iN + 1)) (xs (iN + 2)) (xs (iN + 3)) σ).2)).2) ) rfl rfl rfl ⟨Nat.le_of_ble_eq_true rfl, Nat.le_of_ble_eq_true rfl⟩ (Nat.le_of_ble_eq_true rfl) dL_law_2259 ⟨by show cells + 3 + 0 + 0 ≤ 601024; omega, by show slots + 18 + 0 + 0 ≤ 7293034; omega⟩ (c2 := cells + 3 + 0 + 0) (s2 := slots + 18 + 0 + 0) rfl rfl (fun H locs hW hS => ?_)
  refine lv_iload hx hb dL_law_2262 (lv_at hl 1 rfl) ?_
  refine lv_icmp_eq (tgt := 2269) hx hb dL_law_2264 (by decide) (fun c_1 => ?_) (fun c_1 => ?_)
  · refine lv_iload hx hb dL_law_2269 (lv_at hl 1 rfl) ?_
    refine lv_if_ne (tgt := 2286) hx hb dL_law_2271 (by decide) (fun c_2 => ?_) (fun c_2 => ?_)
    · refine lv_goto (tgt := 2689) hx hb dL_law_2286 (by decide) ?_
      have hO : g_law_27 xs iN σ = some ((f_X8_verdict (xs (iN + 1)) (xs (iN + 2)) (xs (iN + 3)) ((f_L_verdict (xs (iN + 1)) (xs (iN + 2)) (xs (iN + 3)) σ).2)).2) := by rw [g_law_27, if_pos c_1, if_neg c_2]
      obtain ⟨σ9, h9, hR9⟩ := hL2
      rw [hO] at h9
      cases h9
      exact W.widen (by omega) (by omega) (kk _ _ _ _ hR9 hW hS (lv_sub hl [2, 3, 4, 5, 6] rfl))
    · refine lv_aload_n hx hb dL_law_2274 rfl (lv_at hl 3 rfl) ?_
      refine lv_iconst (v := 0) hx hb dL_law_2275 (by decide) ?_
      refine w_lald hC hW m_90 (vp_lit (by decide)) dL_law_2276 ?_
      rw [show Int32.toNatClampNeg 0 = 0 by decide, fr_X8_verdict (by decide)]
      refine lv_iload hx hb dL_law_2277 (lv_at hl 0 rfl) ?_
      refine lv_i2l hx hb dL_law_2279 rfl ?_
      refine W.lcmp hx hb dL_law_2280 ?_
      refine lv_if_eq (tgt := 2286) hx hb dL_law_2281 (by decide) (fun c_3 => ?_) (fun c_3 => ?_)
      · refine lv_goto (tgt := 2689) hx hb dL_law_2286 (by decide) ?_
        have hO : g_law_27 xs iN σ = some ((f_X8_verdict (xs (iN + 1)) (xs (iN + 2)) (xs (iN + 3)) ((f_L_verdict (xs (iN + 1)) (xs (iN + 2)) (xs (iN + 3)) σ).2)).2) := by rw [g_law_27, if_pos c_1, if_pos c_2, if_pos c_3]
        obtain ⟨σ9, h9, hR9⟩ := hL2
        rw [hO] at h9
        cases h9
        exact W.widen (by omega) (by omega) (kk _ _ _ _ hR9 hW hS (lv_sub hl [2, 3, 4, 5, 6] rfl))
      · refine lv_iconst (v := 0) hx hb dL_law_2284 (by decide) ?_
        have hO : g_law_27 xs iN σ = none := by rw [g_law_27, if_pos c_1, if_pos c_2, if_neg c_3]
        obtain ⟨σ9, h9, hR9⟩ := hL2
        rw [hO] at h9
        cases h9
  · refine lv_iconst (v := 0) hx hb dL_law_2267 (by decide) ?_
    have hO : g_law_27 xs iN σ = none := by rw [g_law_27, if_neg c_1]
    obtain ⟨σ9, h9, hR9⟩ := hL2
    rw [hO] at h9
    cases h9
def g_law_28 (xs : Nat → Int32) (iN : Nat) (σ : Sg) : Option Sg :=
  if (f_X8_thrown ((f_X8_verdictAnew (xs (iN + 1)) (xs (iN + 2)) (xs (iN + 3)) ((f_L_verdictAnew (xs (iN + 1)) (xs (iN + 2)) (xs (iN + 3)) σ).2)).2)) = ((f_L_verdictAnew (xs (iN + 1)) (xs (iN + 2)) (xs (iN + 3)) σ).1) then (if ((f_L_verdictAnew (xs (iN + 1)) (xs (iN + 2)) (xs (iN + 3)) σ).1) = 0 then (if (lg_cmp ((((f_L_verdictAnew (xs (iN + 1)) (xs (iN + 2)) (xs (iN + 3)) σ).2) 90 0 0).toInt64) (((f_X8_verdictAnew (xs (iN + 1)) (xs (iN + 2)) (xs (iN + 3)) ((f_L_verdictAnew (xs (iN + 1)) (xs (iN + 2)) (xs (iN + 3)) σ).2)).1).toInt64)) = 0 then some ((f_X8_verdictAnew (xs (iN + 1)) (xs (iN + 2)) (xs (iN + 3)) ((f_L_verdictAnew (xs (iN + 1)) (xs (iN + 2)) (xs (iN + 3)) σ).2)).2)
      else none)
    else some ((f_X8_verdictAnew (xs (iN + 1)) (xs (iN + 2)) (xs (iN + 3)) ((f_L_verdictAnew (xs (iN + 1)) (xs (iN + 2)) (xs (iN + 3)) σ).2)).2))
  else none
set_option maxHeartbeats 4000000 in
set_option maxRecDepth 100000 in
theorem lc_28 {p : Program} {l : Launch} (hl9 : l.stackTraces = false) {e : Env} {s : State} {m : MethodId} {below : List Frame} {meth : Method} {c : Code} {b L : Nat} {xs : Nat → Int32} {D : va_G} {ca : Nat → ClassId} {base : Nat} {ad : Adr} {Q : State → Prop} {iN : Nat} {σ : Sg} {H : Heap} {locs : List Loc} {cells slots : Nat} {ls : Array Slot} (RR : Sg → Prop) (hC : Cx p s m #[Value.ref b] meth c code 7 RL ret D ca base) (hN : Nx s) (hX : va_X b L xs s s.heap) (hbl : b < s.heap.size) (hbA : ¬ Ab base b) (hi7 : iN + 7 ≤ L) (hL9 : L ≤ 3584) (hc : cells + 40 ≤ 601024) (hs : slots + 240 ≤ 7293034) (hI : LInv σ) (hL2 : ∃ σ', g_law_28 xs iN σ = some σ' ∧ RR σ') (hW : Wd D ca (Ab base) ad ρm Lm σ H) (hS : va_S (Ab base) s.heap H locs) (hl : lv_has ls 7 [(4, .int (nI iN)), (3, .ref (ad 90 0)), (2, .ref (ad 8 0)), (1, .ref (ad 7 0)), (0, .ref b)])
    (kk : ∀ (σ' : Sg) (H1 : Heap) (locs1 : List Loc) (ls1 : Array Slot), RR σ' → Wd D ca (Ab base) ad ρm Lm σ' H1 → va_S (Ab base) s.heap H1 locs1 → lv_has ls1 7 [(4, .int (nI iN)), (3, .ref (ad 90 0)), (2, .ref (ad 8 0)), (1, .ref (ad 7 0)), (0, .ref b)] → W p l e room_1 s m #[Value.ref b] below meth c H1 locs1 (cells + 40) (slots + 240) Q (F0 m 2689 ls1 [])) : W p l e room_1 s m #[Value.ref b] below meth c H locs cells slots Q (F0 m 2289 ls []) := by
  have hx := hC.1
  have hb := hC.2.1
  refine lv_aload_n hx hb dL_law_2289 rfl (lv_at hl 3 rfl) ?_
  refine lv_aload_n hx hb dL_law_2290 rfl (lv_at hl 4 rfl) ?_
  refine lv_iload hx hb dL_law_2291 (lv_at hl 0 rfl) ?_
  refine lv_iconst (v := 1) hx hb dL_law_2293 (by decide) ?_
  refine lv_iadd hx hb dL_law_2294 ?_
  refine va_sld hx hb hX hbl hbA hS (vp_in_addr (a := 1) (by decide) (by omega) (by omega)) dL_law_2295 ?_
  rw [cl_addr (a := 1) (by decide) (by omega)]
  refine lv_aload_n hx hb dL_law_2296 rfl (lv_at hl 4 rfl) ?_
  refine lv_iload hx hb dL_law_2297 (lv_at hl 0 rfl) ?_
  refine lv_iconst (v := 2) hx hb dL_law_2299 (by decide) ?_
  refine lv_iadd hx hb dL_law_2300 ?_
  refine va_sld hx hb hX hbl hbA hS (vp_in_addr (a := 2) (by decide) (by omega) (by omega)) dL_law_2301 ?_
  rw [cl_addr (a := 2) (by decide) (by omega)]
  refine lv_aload_n hx hb dL_law_2302 rfl (lv_at hl 4 rfl) ?_
  refine lv_iload hx hb dL_law_2303 (lv_at hl 0 rfl) ?_
  refine lv_iconst (v := 3) hx hb dL_law_2305 (by decide) ?_
  refine lv_iadd hx hb dL_law_2306 ?_
  refine va_sld hx hb hX hbl hbA hS (vp_in_addr (a := 3) (by decide) (by omega) (by omega)) dL_law_2307 ?_
  rw [cl_addr (a := 3) (by decide) (by omega)]
  refine lv_aload_n hx hb dL_law_2308 rfl (lv_at hl 1 rfl) ?_
  refine w_callL (As := [.ref (ad 7 0), .int (xs (iN + 1)), .int (xs (iN + 2)), .int (xs (iN + 3)), .ref (ad 90 0)]) (rest := []) (st2 := .int ((f_L_verdictAnew (xs (iN + 1)) (xs (iN + 2)) (xs (iN + 3)) σ).1) :: []) hC hN hW hS hl cl_L_223 (c_L_verdictAnew l hl9 D ca base ad σ (xs (iN + 1)) (xs (iN + 2)) (xs (iN + 3)) hI.1) rfl rfl rfl ⟨Nat.le_of_ble_eq_true rfl, Nat.le_of_ble_eq_true rfl⟩ (Nat.le_of_ble_eq_true rfl) dL_law_2309 ⟨by show cells + 3 ≤ 601024; omega, by show slots + 18 ≤ 7293034; omega⟩ (c2 := cells + 3) (s2 := slots + 18) rfl rfl (fun H locs hW hS => ?_)
  refine lv_istore (lv' := [(5, .int ((f_L_verdictAnew (xs (iN + 1)) (xs (iN + 2)) (xs (iN + 3)) σ).1)), (4, .int (nI iN)), (3, .ref (ad 90 0)), (2, .ref (ad 8 0)), (1, .ref (ad 7 0)), (0, .ref b)]) hx hb dL_law_2312 hl (by decide) rfl (fun ls hl => ?_)
  refine lv_aload_n hx hb dL_law_2314 rfl (lv_at hl 3 rfl) ?_
  refine lv_aload_n hx hb dL_law_2315 rfl (lv_at hl 5 rfl) ?_
  refine lv_iload hx hb dL_law_2316 (lv_at hl 1 rfl) ?_
  refine lv_iconst (v := 1) hx hb dL_law_2318 (by decide) ?_
  refine lv_iadd hx hb dL_law_2319 ?_
  refine va_sld hx hb hX hbl hbA hS (vp_in_addr (a := 1) (by decide) (by omega) (by omega)) dL_law_2320 ?_
  rw [cl_addr (a := 1) (by decide) (by omega)]
  refine lv_aload_n hx hb dL_law_2321 rfl (lv_at hl 5 rfl) ?_
  refine lv_iload hx hb dL_law_2322 (lv_at hl 1 rfl) ?_
  refine lv_iconst (v := 2) hx hb dL_law_2324 (by decide) ?_
  refine lv_iadd hx hb dL_law_2325 ?_
  refine va_sld hx hb hX hbl hbA hS (vp_in_addr (a := 2) (by decide) (by omega) (by omega)) dL_law_2326 ?_
  rw [cl_addr (a := 2) (by decide) (by omega)]
  refine lv_aload_n hx hb dL_law_2327 rfl (lv_at hl 5 rfl) ?_
  refine lv_iload hx hb dL_law_2328 (lv_at hl 1 rfl) ?_
  refine lv_iconst (v := 3) hx hb dL_law_2330 (by decide) ?_
  refine lv_iadd hx hb dL_law_2331 ?_
  refine va_sld hx hb hX hbl hbA hS (vp_in_addr (a := 3) (by decide) (by omega) (by omega)) dL_law_2332 ?_
  rw [cl_addr (a := 3) (by decide) (by omega)]
  refine w_callVL (As := [.int (xs (iN + 1)), .int (xs (iN + 2)), .int (xs (iN + 3))]) (rest := []) (st2 := .int ((f_X8_verdictAnew (xs (iN + 1)) (xs (iN + 2)) (xs (iN + 3)) ((f_L_verdictAnew (xs (iN + 1)) (xs (iN + 2)) (xs (iN + 3)) σ).2)).1) :: []) hC hW hS hl cv_L_225 m_8 (by decide) rfl (c_X8_verdictAnew l hl9 D ca base ad ((f_L_verdictAnew (xs (iN + 1)) (xs (iN + 2)) (xs (iN + 3)) σ).2) (xs (iN + 1)) (xs (iN + 2)) (xs (iN + 3)) (mi_of hI.2.2.1 (by rw [fr_L_verdictAnew (by decide) (by decide)]) (by rw [fr_L_verdictAnew (by decide) (by decide)]) (by rw [fr_L_verdictAnew (by decide) (by decide)]) (by rw [fr_L_verdictAnew (by decide) (by decide)]) (by rw [fr_L_verdictAnew (by decide) (by decide)]) (by rw [fr_L_verdictAnew (by decide) (by decide)]) (by rw [fr_L_verdictAnew (by decide) (by decide)]) (by rw [fr_L_verdictAnew (by decide) (by decide)]) (by rw [fr_L_verdictAnew (by decide) (by decide)]) (by rw [fr_L_verdictAnew (by decide) (by decide)]) (by rw [fr_L_verdictAnew (by decide) (by decide)]) (by rw [fr_L_verdictAnew (by decide) (by decide)]) (by rw [fr_L_verdictAnew (by decide) (by decide)]) (by rw [fr_L_verdictAnew (by decide) (by decide)]) (by rw [fr_L_verdictAnew (by decide) (by decide)]) (by rw [fr_L_verdictAnew (by decide) (by decide)]))) rfl rfl rfl ⟨Nat.le_of_ble_eq_true rfl, Nat.le_of_ble_eq_true rfl⟩ (Nat.le_of_ble_eq_true rfl) dL_law_2333 ⟨by show cells + 3 + 0 ≤ 601024; omega, by show slots + 18 + 0 ≤ 7293034; omega⟩ (c2 := cells + 3 + 0) (s2 := slots + 18 + 0) rfl rfl (fun H locs hW hS => ?_)
  refine lv_istore (lv' := [(6, .int ((f_X8_verdictAnew (xs (iN + 1)) (xs (iN + 2)) (xs (iN + 3)) ((f_L_verdictAnew (xs (iN + 1)) (xs (iN + 2)) (xs (iN + 3)) σ).2)).1)), (5, .int ((f_L_verdictAnew (xs (iN + 1)) (xs (iN + 2)) (xs (iN + 3)) σ).1)), (4, .int (nI iN)), (3, .ref (ad 90 0)), (2, .ref (ad 8 0)), (1, .ref (ad 7 0)), (0, .ref b)]) hx hb dL_law_2336 hl (by decide) rfl (fun ls hl => ?_)
  refine lv_aload_n hx hb dL_law_2338 rfl (lv_at hl 4 rfl) ?_
  refine w_callVL (As := []) (rest := []) (st2 := .int (f_X8_thrown ((f_X8_verdictAnew (xs (iN + 1)) (xs (iN + 2)) (xs (iN + 3)) ((f_L_verdictAnew (xs (iN + 1)) (xs (iN + 2)) (xs (iN + 3)) σ).2)).2)) :: []) hC hW hS hl cv_L_127 m_8 (by decide) rfl (c_X8_thrown l hl9 D ca base ad ((f_X8_verdictAnew (xs (iN + 1)) (xs (iN + 2)) (xs (iN + 3)) ((f_L_verdictAnew (xs (iN + 1)) (xs (iN + 2)) (xs (iN + 3)) σ).2)).2) ) rfl rfl rfl ⟨Nat.le_of_ble_eq_true rfl, Nat.le_of_ble_eq_true rfl⟩ (Nat.le_of_ble_eq_true rfl) dL_law_2339 ⟨by show cells + 3 + 0 + 0 ≤ 601024; omega, by show slots + 18 + 0 + 0 ≤ 7293034; omega⟩ (c2 := cells + 3 + 0 + 0) (s2 := slots + 18 + 0 + 0) rfl rfl (fun H locs hW hS => ?_)
  refine lv_iload hx hb dL_law_2342 (lv_at hl 1 rfl) ?_
  refine lv_icmp_eq (tgt := 2349) hx hb dL_law_2344 (by decide) (fun c_1 => ?_) (fun c_1 => ?_)
  · refine lv_iload hx hb dL_law_2349 (lv_at hl 1 rfl) ?_
    refine lv_if_ne (tgt := 2366) hx hb dL_law_2351 (by decide) (fun c_2 => ?_) (fun c_2 => ?_)
    · refine lv_goto (tgt := 2689) hx hb dL_law_2366 (by decide) ?_
      have hO : g_law_28 xs iN σ = some ((f_X8_verdictAnew (xs (iN + 1)) (xs (iN + 2)) (xs (iN + 3)) ((f_L_verdictAnew (xs (iN + 1)) (xs (iN + 2)) (xs (iN + 3)) σ).2)).2) := by rw [g_law_28, if_pos c_1, if_neg c_2]
      obtain ⟨σ9, h9, hR9⟩ := hL2
      rw [hO] at h9
      cases h9
      exact W.widen (by omega) (by omega) (kk _ _ _ _ hR9 hW hS (lv_sub hl [2, 3, 4, 5, 6] rfl))
    · refine lv_aload_n hx hb dL_law_2354 rfl (lv_at hl 3 rfl) ?_
      refine lv_iconst (v := 0) hx hb dL_law_2355 (by decide) ?_
      refine w_lald hC hW m_90 (vp_lit (by decide)) dL_law_2356 ?_
      rw [show Int32.toNatClampNeg 0 = 0 by decide, fr_X8_verdictAnew (by decide)]
      refine lv_iload hx hb dL_law_2357 (lv_at hl 0 rfl) ?_
      refine lv_i2l hx hb dL_law_2359 rfl ?_
      refine W.lcmp hx hb dL_law_2360 ?_
      refine lv_if_eq (tgt := 2366) hx hb dL_law_2361 (by decide) (fun c_3 => ?_) (fun c_3 => ?_)
      · refine lv_goto (tgt := 2689) hx hb dL_law_2366 (by decide) ?_
        have hO : g_law_28 xs iN σ = some ((f_X8_verdictAnew (xs (iN + 1)) (xs (iN + 2)) (xs (iN + 3)) ((f_L_verdictAnew (xs (iN + 1)) (xs (iN + 2)) (xs (iN + 3)) σ).2)).2) := by rw [g_law_28, if_pos c_1, if_pos c_2, if_pos c_3]
        obtain ⟨σ9, h9, hR9⟩ := hL2
        rw [hO] at h9
        cases h9
        exact W.widen (by omega) (by omega) (kk _ _ _ _ hR9 hW hS (lv_sub hl [2, 3, 4, 5, 6] rfl))
      · refine lv_iconst (v := 0) hx hb dL_law_2364 (by decide) ?_
        have hO : g_law_28 xs iN σ = none := by rw [g_law_28, if_pos c_1, if_pos c_2, if_neg c_3]
        obtain ⟨σ9, h9, hR9⟩ := hL2
        rw [hO] at h9
        cases h9
  · refine lv_iconst (v := 0) hx hb dL_law_2347 (by decide) ?_
    have hO : g_law_28 xs iN σ = none := by rw [g_law_28, if_neg c_1]
    obtain ⟨σ9, h9, hR9⟩ := hL2
    rw [hO] at h9
    cases h9
def g_law_29 (xs : Nat → Int32) (iN : Nat) (σ : Sg) : Option Sg :=
  if (f_X8_thrown ((f_X8_reach (xs (iN + 1)) (xs (iN + 2)) (xs (iN + 3)) ((f_L_reach (xs (iN + 1)) (xs (iN + 2)) (xs (iN + 3)) σ).2)).2)) = ((f_L_reach (xs (iN + 1)) (xs (iN + 2)) (xs (iN + 3)) σ).1) then (if ((f_L_reach (xs (iN + 1)) (xs (iN + 2)) (xs (iN + 3)) σ).1) = 0 then (if (lg_cmp ((((f_L_reach (xs (iN + 1)) (xs (iN + 2)) (xs (iN + 3)) σ).2) 90 0 0).toInt64) (((f_X8_reach (xs (iN + 1)) (xs (iN + 2)) (xs (iN + 3)) ((f_L_reach (xs (iN + 1)) (xs (iN + 2)) (xs (iN + 3)) σ).2)).1).toInt64)) = 0 then some ((f_X8_reach (xs (iN + 1)) (xs (iN + 2)) (xs (iN + 3)) ((f_L_reach (xs (iN + 1)) (xs (iN + 2)) (xs (iN + 3)) σ).2)).2)
      else none)
    else some ((f_X8_reach (xs (iN + 1)) (xs (iN + 2)) (xs (iN + 3)) ((f_L_reach (xs (iN + 1)) (xs (iN + 2)) (xs (iN + 3)) σ).2)).2))
  else none
set_option maxHeartbeats 4000000 in
set_option maxRecDepth 100000 in
theorem lc_29 {p : Program} {l : Launch} (hl9 : l.stackTraces = false) {e : Env} {s : State} {m : MethodId} {below : List Frame} {meth : Method} {c : Code} {b L : Nat} {xs : Nat → Int32} {D : va_G} {ca : Nat → ClassId} {base : Nat} {ad : Adr} {Q : State → Prop} {iN : Nat} {σ : Sg} {H : Heap} {locs : List Loc} {cells slots : Nat} {ls : Array Slot} (RR : Sg → Prop) (hC : Cx p s m #[Value.ref b] meth c code 7 RL ret D ca base) (hN : Nx s) (hX : va_X b L xs s s.heap) (hbl : b < s.heap.size) (hbA : ¬ Ab base b) (hi7 : iN + 7 ≤ L) (hL9 : L ≤ 3584) (hc : cells + 40 ≤ 601024) (hs : slots + 240 ≤ 7293034) (hI : LInv σ) (hL2 : ∃ σ', g_law_29 xs iN σ = some σ' ∧ RR σ') (hW : Wd D ca (Ab base) ad ρm Lm σ H) (hS : va_S (Ab base) s.heap H locs) (hl : lv_has ls 7 [(4, .int (nI iN)), (3, .ref (ad 90 0)), (2, .ref (ad 8 0)), (1, .ref (ad 7 0)), (0, .ref b)])
    (kk : ∀ (σ' : Sg) (H1 : Heap) (locs1 : List Loc) (ls1 : Array Slot), RR σ' → Wd D ca (Ab base) ad ρm Lm σ' H1 → va_S (Ab base) s.heap H1 locs1 → lv_has ls1 7 [(4, .int (nI iN)), (3, .ref (ad 90 0)), (2, .ref (ad 8 0)), (1, .ref (ad 7 0)), (0, .ref b)] → W p l e room_1 s m #[Value.ref b] below meth c H1 locs1 (cells + 40) (slots + 240) Q (F0 m 2689 ls1 [])) : W p l e room_1 s m #[Value.ref b] below meth c H locs cells slots Q (F0 m 2369 ls []) := by
  have hx := hC.1
  have hb := hC.2.1
  refine lv_aload_n hx hb dL_law_2369 rfl (lv_at hl 3 rfl) ?_
  refine lv_aload_n hx hb dL_law_2370 rfl (lv_at hl 4 rfl) ?_
  refine lv_iload hx hb dL_law_2371 (lv_at hl 0 rfl) ?_
  refine lv_iconst (v := 1) hx hb dL_law_2373 (by decide) ?_
  refine lv_iadd hx hb dL_law_2374 ?_
  refine va_sld hx hb hX hbl hbA hS (vp_in_addr (a := 1) (by decide) (by omega) (by omega)) dL_law_2375 ?_
  rw [cl_addr (a := 1) (by decide) (by omega)]
  refine lv_aload_n hx hb dL_law_2376 rfl (lv_at hl 4 rfl) ?_
  refine lv_iload hx hb dL_law_2377 (lv_at hl 0 rfl) ?_
  refine lv_iconst (v := 2) hx hb dL_law_2379 (by decide) ?_
  refine lv_iadd hx hb dL_law_2380 ?_
  refine va_sld hx hb hX hbl hbA hS (vp_in_addr (a := 2) (by decide) (by omega) (by omega)) dL_law_2381 ?_
  rw [cl_addr (a := 2) (by decide) (by omega)]
  refine lv_aload_n hx hb dL_law_2382 rfl (lv_at hl 4 rfl) ?_
  refine lv_iload hx hb dL_law_2383 (lv_at hl 0 rfl) ?_
  refine lv_iconst (v := 3) hx hb dL_law_2385 (by decide) ?_
  refine lv_iadd hx hb dL_law_2386 ?_
  refine va_sld hx hb hX hbl hbA hS (vp_in_addr (a := 3) (by decide) (by omega) (by omega)) dL_law_2387 ?_
  rw [cl_addr (a := 3) (by decide) (by omega)]
  refine lv_aload_n hx hb dL_law_2388 rfl (lv_at hl 1 rfl) ?_
  refine w_callL (As := [.ref (ad 7 0), .int (xs (iN + 1)), .int (xs (iN + 2)), .int (xs (iN + 3)), .ref (ad 90 0)]) (rest := []) (st2 := .int ((f_L_reach (xs (iN + 1)) (xs (iN + 2)) (xs (iN + 3)) σ).1) :: []) hC hN hW hS hl cl_L_226 (c_L_reach l hl9 D ca base ad σ (xs (iN + 1)) (xs (iN + 2)) (xs (iN + 3)) hI.1) rfl rfl rfl ⟨Nat.le_of_ble_eq_true rfl, Nat.le_of_ble_eq_true rfl⟩ (Nat.le_of_ble_eq_true rfl) dL_law_2389 ⟨by show cells + 3 ≤ 601024; omega, by show slots + 18 ≤ 7293034; omega⟩ (c2 := cells + 3) (s2 := slots + 18) rfl rfl (fun H locs hW hS => ?_)
  refine lv_istore (lv' := [(5, .int ((f_L_reach (xs (iN + 1)) (xs (iN + 2)) (xs (iN + 3)) σ).1)), (4, .int (nI iN)), (3, .ref (ad 90 0)), (2, .ref (ad 8 0)), (1, .ref (ad 7 0)), (0, .ref b)]) hx hb dL_law_2392 hl (by decide) rfl (fun ls hl => ?_)
  refine lv_aload_n hx hb dL_law_2394 rfl (lv_at hl 3 rfl) ?_
  refine lv_aload_n hx hb dL_law_2395 rfl (lv_at hl 5 rfl) ?_
  refine lv_iload hx hb dL_law_2396 (lv_at hl 1 rfl) ?_
  refine lv_iconst (v := 1) hx hb dL_law_2398 (by decide) ?_
  refine lv_iadd hx hb dL_law_2399 ?_
  refine va_sld hx hb hX hbl hbA hS (vp_in_addr (a := 1) (by decide) (by omega) (by omega)) dL_law_2400 ?_
  rw [cl_addr (a := 1) (by decide) (by omega)]
  refine lv_aload_n hx hb dL_law_2401 rfl (lv_at hl 5 rfl) ?_
  refine lv_iload hx hb dL_law_2402 (lv_at hl 1 rfl) ?_
  refine lv_iconst (v := 2) hx hb dL_law_2404 (by decide) ?_
  refine lv_iadd hx hb dL_law_2405 ?_
  refine va_sld hx hb hX hbl hbA hS (vp_in_addr (a := 2) (by decide) (by omega) (by omega)) dL_law_2406 ?_
  rw [cl_addr (a := 2) (by decide) (by omega)]
  refine lv_aload_n hx hb dL_law_2407 rfl (lv_at hl 5 rfl) ?_
  refine lv_iload hx hb dL_law_2408 (lv_at hl 1 rfl) ?_
  refine lv_iconst (v := 3) hx hb dL_law_2410 (by decide) ?_
  refine lv_iadd hx hb dL_law_2411 ?_
  refine va_sld hx hb hX hbl hbA hS (vp_in_addr (a := 3) (by decide) (by omega) (by omega)) dL_law_2412 ?_
  rw [cl_addr (a := 3) (by decide) (by omega)]
  refine w_callVL (As := [.int (xs (iN + 1)), .int (xs (iN + 2)), .int (xs (iN + 3))]) (rest := []) (st2 := .int ((f_X8_reach (xs (iN + 1)) (xs (iN + 2)) (xs (iN + 3)) ((f_L_reach (xs (iN + 1)) (xs (iN + 2)) (xs (iN + 3)) σ).2)).1) :: []) hC hW hS hl cv_L_228 m_8 (by decide) rfl (c_X8_reach l hl9 D ca base ad ((f_L_reach (xs (iN + 1)) (xs (iN + 2)) (xs (iN + 3)) σ).2) (xs (iN + 1)) (xs (iN + 2)) (xs (iN + 3)) (mi_of hI.2.2.1 (by rw [fr_L_reach (by decide) (by decide) (by decide) (by decide) (by decide) (by decide)]) (by rw [fr_L_reach (by decide) (by decide) (by decide) (by decide) (by decide) (by decide)]) (by rw [fr_L_reach (by decide) (by decide) (by decide) (by decide) (by decide) (by decide)]) (by rw [fr_L_reach (by decide) (by decide) (by decide) (by decide) (by decide) (by decide)]) (by rw [fr_L_reach (by decide) (by decide) (by decide) (by decide) (by decide) (by decide)]) (by rw [fr_L_reach (by decide) (by decide) (by decide) (by decide) (by decide) (by decide)]) (by rw [fr_L_reach (by decide) (by decide) (by decide) (by decide) (by decide) (by decide)]) (by rw [fr_L_reach (by decide) (by decide) (by decide) (by decide) (by decide) (by decide)]) (by rw [fr_L_reach (by decide) (by decide) (by decide) (by decide) (by decide) (by decide)]) (by rw [fr_L_reach (by decide) (by decide) (by decide) (by decide) (by decide) (by decide)]) (by rw [fr_L_reach (by decide) (by decide) (by decide) (by decide) (by decide) (by decide)]) (by rw [fr_L_reach (by decide) (by decide) (by decide) (by decide) (by decide) (by decide)]) (by rw [fr_L_reach (by decide) (by decide) (by decide) (by decide) (by decide) (by decide)]) (by rw [fr_L_reach (by decide) (by decide) (by decide) (by decide) (by decide) (by decide)]) (by rw [fr_L_reach (by decide) (by decide) (by decide) (by decide) (by decide) (by decide)]) (by rw [fr_L_reach (by decide) (by decide) (by decide) (by decide) (by decide) (by decide)]))) rfl rfl rfl ⟨Nat.le_of_ble_eq_true rfl, Nat.le_of_ble_eq_true rfl⟩ (Nat.le_of_ble_eq_true rfl) dL_law_2413 ⟨by show cells + 3 + 0 ≤ 601024; omega, by show slots + 18 + 0 ≤ 7293034; omega⟩ (c2 := cells + 3 + 0) (s2 := slots + 18 + 0) rfl rfl (fun H locs hW hS => ?_)
  refine lv_istore (lv' := [(6, .int ((f_X8_reach (xs (iN + 1)) (xs (iN + 2)) (xs (iN + 3)) ((f_L_reach (xs (iN + 1)) (xs (iN + 2)) (xs (iN + 3)) σ).2)).1)), (5, .int ((f_L_reach (xs (iN + 1)) (xs (iN + 2)) (xs (iN + 3)) σ).1)), (4, .int (nI iN)), (3, .ref (ad 90 0)), (2, .ref (ad 8 0)), (1, .ref (ad 7 0)), (0, .ref b)]) hx hb dL_law_2416 hl (by decide) rfl (fun ls hl => ?_)
  refine lv_aload_n hx hb dL_law_2418 rfl (lv_at hl 4 rfl) ?_
  refine w_callVL (As := []) (rest := []) (st2 := .int (f_X8_thrown ((f_X8_reach (xs (iN + 1)) (xs (iN + 2)) (xs (iN + 3)) ((f_L_reach (xs (iN + 1)) (xs (iN + 2)) (xs (iN + 3)) σ).2)).2)) :: []) hC hW hS hl cv_L_127 m_8 (by decide) rfl (c_X8_thrown l hl9 D ca base ad ((f_X8_reach (xs (iN + 1)) (xs (iN + 2)) (xs (iN + 3)) ((f_L_reach (xs (iN + 1)) (xs (iN + 2)) (xs (iN + 3)) σ).2)).2) ) rfl rfl rfl ⟨Nat.le_of_ble_eq_true rfl, Nat.le_of_ble_eq_true rfl⟩ (Nat.le_of_ble_eq_true rfl) dL_law_2419 ⟨by show cells + 3 + 0 + 0 ≤ 601024; omega, by show slots + 18 + 0 + 0 ≤ 7293034; omega⟩ (c2 := cells + 3 + 0 + 0) (s2 := slots + 18 + 0 + 0) rfl rfl (fun H locs hW hS => ?_)
  refine lv_iload hx hb dL_law_2422 (lv_at hl 1 rfl) ?_
  refine lv_icmp_eq (tgt := 2429) hx hb dL_law_2424 (by decide) (fun c_1 => ?_) (fun c_1 => ?_)
  · refine lv_iload hx hb dL_law_2429 (lv_at hl 1 rfl) ?_
    refine lv_if_ne (tgt := 2446) hx hb dL_law_2431 (by decide) (fun c_2 => ?_) (fun c_2 => ?_)
    · refine lv_goto (tgt := 2689) hx hb dL_law_2446 (by decide) ?_
      have hO : g_law_29 xs iN σ = some ((f_X8_reach (xs (iN + 1)) (xs (iN + 2)) (xs (iN + 3)) ((f_L_reach (xs (iN + 1)) (xs (iN + 2)) (xs (iN + 3)) σ).2)).2) := by rw [g_law_29, if_pos c_1, if_neg c_2]
      obtain ⟨σ9, h9, hR9⟩ := hL2
      rw [hO] at h9
      cases h9
      exact W.widen (by omega) (by omega) (kk _ _ _ _ hR9 hW hS (lv_sub hl [2, 3, 4, 5, 6] rfl))
    · refine lv_aload_n hx hb dL_law_2434 rfl (lv_at hl 3 rfl) ?_
      refine lv_iconst (v := 0) hx hb dL_law_2435 (by decide) ?_
      refine w_lald hC hW m_90 (vp_lit (by decide)) dL_law_2436 ?_
      rw [show Int32.toNatClampNeg 0 = 0 by decide, fr_X8_reach (by decide) (by decide)]
      refine lv_iload hx hb dL_law_2437 (lv_at hl 0 rfl) ?_
      refine lv_i2l hx hb dL_law_2439 rfl ?_
      refine W.lcmp hx hb dL_law_2440 ?_
      refine lv_if_eq (tgt := 2446) hx hb dL_law_2441 (by decide) (fun c_3 => ?_) (fun c_3 => ?_)
      · refine lv_goto (tgt := 2689) hx hb dL_law_2446 (by decide) ?_
        have hO : g_law_29 xs iN σ = some ((f_X8_reach (xs (iN + 1)) (xs (iN + 2)) (xs (iN + 3)) ((f_L_reach (xs (iN + 1)) (xs (iN + 2)) (xs (iN + 3)) σ).2)).2) := by rw [g_law_29, if_pos c_1, if_pos c_2, if_pos c_3]
        obtain ⟨σ9, h9, hR9⟩ := hL2
        rw [hO] at h9
        cases h9
        exact W.widen (by omega) (by omega) (kk _ _ _ _ hR9 hW hS (lv_sub hl [2, 3, 4, 5, 6] rfl))
      · refine lv_iconst (v := 0) hx hb dL_law_2444 (by decide) ?_
        have hO : g_law_29 xs iN σ = none := by rw [g_law_29, if_pos c_1, if_pos c_2, if_neg c_3]
        obtain ⟨σ9, h9, hR9⟩ := hL2
        rw [hO] at h9
        cases h9
  · refine lv_iconst (v := 0) hx hb dL_law_2427 (by decide) ?_
    have hO : g_law_29 xs iN σ = none := by rw [g_law_29, if_neg c_1]
    obtain ⟨σ9, h9, hR9⟩ := hL2
    rw [hO] at h9
    cases h9
def g_law_30 (xs : Nat → Int32) (iN : Nat) (σ : Sg) : Option Sg :=
  if (f_X8_thrown ((f_X8_reachAnew (xs (iN + 1)) (xs (iN + 2)) (xs (iN + 3)) ((f_L_reachAnew (xs (iN + 1)) (xs (iN + 2)) (xs (iN + 3)) σ).2)).2)) = ((f_L_reachAnew (xs (iN + 1)) (xs (iN + 2)) (xs (iN + 3)) σ).1) then (if ((f_L_reachAnew (xs (iN + 1)) (xs (iN + 2)) (xs (iN + 3)) σ).1) = 0 then (if (lg_cmp ((((f_L_reachAnew (xs (iN + 1)) (xs (iN + 2)) (xs (iN + 3)) σ).2) 90 0 0).toInt64) (((f_X8_reachAnew (xs (iN + 1)) (xs (iN + 2)) (xs (iN + 3)) ((f_L_reachAnew (xs (iN + 1)) (xs (iN + 2)) (xs (iN + 3)) σ).2)).1).toInt64)) = 0 then some ((f_X8_reachAnew (xs (iN + 1)) (xs (iN + 2)) (xs (iN + 3)) ((f_L_reachAnew (xs (iN + 1)) (xs (iN + 2)) (xs (iN + 3)) σ).2)).2)
      else none)
    else some ((f_X8_reachAnew (xs (iN + 1)) (xs (iN + 2)) (xs (iN + 3)) ((f_L_reachAnew (xs (iN + 1)) (xs (iN + 2)) (xs (iN + 3)) σ).2)).2))
  else none
set_option maxHeartbeats 4000000 in
set_option maxRecDepth 100000 in
theorem lc_30 {p : Program} {l : Launch} (hl9 : l.stackTraces = false) {e : Env} {s : State} {m : MethodId} {below : List Frame} {meth : Method} {c : Code} {b L : Nat} {xs : Nat → Int32} {D : va_G} {ca : Nat → ClassId} {base : Nat} {ad : Adr} {Q : State → Prop} {iN : Nat} {σ : Sg} {H : Heap} {locs : List Loc} {cells slots : Nat} {ls : Array Slot} (RR : Sg → Prop) (hC : Cx p s m #[Value.ref b] meth c code 7 RL ret D ca base) (hN : Nx s) (hX : va_X b L xs s s.heap) (hbl : b < s.heap.size) (hbA : ¬ Ab base b) (hi7 : iN + 7 ≤ L) (hL9 : L ≤ 3584) (hc : cells + 40 ≤ 601024) (hs : slots + 240 ≤ 7293034) (hI : LInv σ) (hL2 : ∃ σ', g_law_30 xs iN σ = some σ' ∧ RR σ') (hW : Wd D ca (Ab base) ad ρm Lm σ H) (hS : va_S (Ab base) s.heap H locs) (hl : lv_has ls 7 [(4, .int (nI iN)), (3, .ref (ad 90 0)), (2, .ref (ad 8 0)), (1, .ref (ad 7 0)), (0, .ref b)])
    (kk : ∀ (σ' : Sg) (H1 : Heap) (locs1 : List Loc) (ls1 : Array Slot), RR σ' → Wd D ca (Ab base) ad ρm Lm σ' H1 → va_S (Ab base) s.heap H1 locs1 → lv_has ls1 7 [(4, .int (nI iN)), (3, .ref (ad 90 0)), (2, .ref (ad 8 0)), (1, .ref (ad 7 0)), (0, .ref b)] → W p l e room_1 s m #[Value.ref b] below meth c H1 locs1 (cells + 40) (slots + 240) Q (F0 m 2689 ls1 [])) : W p l e room_1 s m #[Value.ref b] below meth c H locs cells slots Q (F0 m 2449 ls []) := by
  have hx := hC.1
  have hb := hC.2.1
  refine lv_aload_n hx hb dL_law_2449 rfl (lv_at hl 3 rfl) ?_
  refine lv_aload_n hx hb dL_law_2450 rfl (lv_at hl 4 rfl) ?_
  refine lv_iload hx hb dL_law_2451 (lv_at hl 0 rfl) ?_
  refine lv_iconst (v := 1) hx hb dL_law_2453 (by decide) ?_
  refine lv_iadd hx hb dL_law_2454 ?_
  refine va_sld hx hb hX hbl hbA hS (vp_in_addr (a := 1) (by decide) (by omega) (by omega)) dL_law_2455 ?_
  rw [cl_addr (a := 1) (by decide) (by omega)]
  refine lv_aload_n hx hb dL_law_2456 rfl (lv_at hl 4 rfl) ?_
  refine lv_iload hx hb dL_law_2457 (lv_at hl 0 rfl) ?_
  refine lv_iconst (v := 2) hx hb dL_law_2459 (by decide) ?_
  refine lv_iadd hx hb dL_law_2460 ?_
  refine va_sld hx hb hX hbl hbA hS (vp_in_addr (a := 2) (by decide) (by omega) (by omega)) dL_law_2461 ?_
  rw [cl_addr (a := 2) (by decide) (by omega)]
  refine lv_aload_n hx hb dL_law_2462 rfl (lv_at hl 4 rfl) ?_
  refine lv_iload hx hb dL_law_2463 (lv_at hl 0 rfl) ?_
  refine lv_iconst (v := 3) hx hb dL_law_2465 (by decide) ?_
  refine lv_iadd hx hb dL_law_2466 ?_
  refine va_sld hx hb hX hbl hbA hS (vp_in_addr (a := 3) (by decide) (by omega) (by omega)) dL_law_2467 ?_
  rw [cl_addr (a := 3) (by decide) (by omega)]
  refine lv_aload_n hx hb dL_law_2468 rfl (lv_at hl 1 rfl) ?_
  refine w_callL (As := [.ref (ad 7 0), .int (xs (iN + 1)), .int (xs (iN + 2)), .int (xs (iN + 3)), .ref (ad 90 0)]) (rest := []) (st2 := .int ((f_L_reachAnew (xs (iN + 1)) (xs (iN + 2)) (xs (iN + 3)) σ).1) :: []) hC hN hW hS hl cl_L_229 (c_L_reachAnew l hl9 D ca base ad σ (xs (iN + 1)) (xs (iN + 2)) (xs (iN + 3)) hI.1) rfl rfl rfl ⟨Nat.le_of_ble_eq_true rfl, Nat.le_of_ble_eq_true rfl⟩ (Nat.le_of_ble_eq_true rfl) dL_law_2469 ⟨by show cells + 3 ≤ 601024; omega, by show slots + 18 ≤ 7293034; omega⟩ (c2 := cells + 3) (s2 := slots + 18) rfl rfl (fun H locs hW hS => ?_)
  refine lv_istore (lv' := [(5, .int ((f_L_reachAnew (xs (iN + 1)) (xs (iN + 2)) (xs (iN + 3)) σ).1)), (4, .int (nI iN)), (3, .ref (ad 90 0)), (2, .ref (ad 8 0)), (1, .ref (ad 7 0)), (0, .ref b)]) hx hb dL_law_2472 hl (by decide) rfl (fun ls hl => ?_)
  refine lv_aload_n hx hb dL_law_2474 rfl (lv_at hl 3 rfl) ?_
  refine lv_aload_n hx hb dL_law_2475 rfl (lv_at hl 5 rfl) ?_
  refine lv_iload hx hb dL_law_2476 (lv_at hl 1 rfl) ?_
  refine lv_iconst (v := 1) hx hb dL_law_2478 (by decide) ?_
  refine lv_iadd hx hb dL_law_2479 ?_
  refine va_sld hx hb hX hbl hbA hS (vp_in_addr (a := 1) (by decide) (by omega) (by omega)) dL_law_2480 ?_
  rw [cl_addr (a := 1) (by decide) (by omega)]
  refine lv_aload_n hx hb dL_law_2481 rfl (lv_at hl 5 rfl) ?_
  refine lv_iload hx hb dL_law_2482 (lv_at hl 1 rfl) ?_
  refine lv_iconst (v := 2) hx hb dL_law_2484 (by decide) ?_
  refine lv_iadd hx hb dL_law_2485 ?_
  refine va_sld hx hb hX hbl hbA hS (vp_in_addr (a := 2) (by decide) (by omega) (by omega)) dL_law_2486 ?_
  rw [cl_addr (a := 2) (by decide) (by omega)]
  refine lv_aload_n hx hb dL_law_2487 rfl (lv_at hl 5 rfl) ?_
  refine lv_iload hx hb dL_law_2488 (lv_at hl 1 rfl) ?_
  refine lv_iconst (v := 3) hx hb dL_law_2490 (by decide) ?_
  refine lv_iadd hx hb dL_law_2491 ?_
  refine va_sld hx hb hX hbl hbA hS (vp_in_addr (a := 3) (by decide) (by omega) (by omega)) dL_law_2492 ?_
  rw [cl_addr (a := 3) (by decide) (by omega)]
  refine w_callVL (As := [.int (xs (iN + 1)), .int (xs (iN + 2)), .int (xs (iN + 3))]) (rest := []) (st2 := .int ((f_X8_reachAnew (xs (iN + 1)) (xs (iN + 2)) (xs (iN + 3)) ((f_L_reachAnew (xs (iN + 1)) (xs (iN + 2)) (xs (iN + 3)) σ).2)).1) :: []) hC hW hS hl cv_L_231 m_8 (by decide) rfl (c_X8_reachAnew l hl9 D ca base ad ((f_L_reachAnew (xs (iN + 1)) (xs (iN + 2)) (xs (iN + 3)) σ).2) (xs (iN + 1)) (xs (iN + 2)) (xs (iN + 3)) (mi_of hI.2.2.1 (by rw [fr_L_reachAnew (by decide) (by decide) (by decide) (by decide)]) (by rw [fr_L_reachAnew (by decide) (by decide) (by decide) (by decide)]) (by rw [fr_L_reachAnew (by decide) (by decide) (by decide) (by decide)]) (by rw [fr_L_reachAnew (by decide) (by decide) (by decide) (by decide)]) (by rw [fr_L_reachAnew (by decide) (by decide) (by decide) (by decide)]) (by rw [fr_L_reachAnew (by decide) (by decide) (by decide) (by decide)]) (by rw [fr_L_reachAnew (by decide) (by decide) (by decide) (by decide)]) (by rw [fr_L_reachAnew (by decide) (by decide) (by decide) (by decide)]) (by rw [fr_L_reachAnew (by decide) (by decide) (by decide) (by decide)]) (by rw [fr_L_reachAnew (by decide) (by decide) (by decide) (by decide)]) (by rw [fr_L_reachAnew (by decide) (by decide) (by decide) (by decide)]) (by rw [fr_L_reachAnew (by decide) (by decide) (by decide) (by decide)]) (by rw [fr_L_reachAnew (by decide) (by decide) (by decide) (by decide)]) (by rw [fr_L_reachAnew (by decide) (by decide) (by decide) (by decide)]) (by rw [fr_L_reachAnew (by decide) (by decide) (by decide) (by decide)]) (by rw [fr_L_reachAnew (by decide) (by decide) (by decide) (by decide)]))) rfl rfl rfl ⟨Nat.le_of_ble_eq_true rfl, Nat.le_of_ble_eq_true rfl⟩ (Nat.le_of_ble_eq_true rfl) dL_law_2493 ⟨by show cells + 3 + 0 ≤ 601024; omega, by show slots + 18 + 0 ≤ 7293034; omega⟩ (c2 := cells + 3 + 0) (s2 := slots + 18 + 0) rfl rfl (fun H locs hW hS => ?_)
  refine lv_istore (lv' := [(6, .int ((f_X8_reachAnew (xs (iN + 1)) (xs (iN + 2)) (xs (iN + 3)) ((f_L_reachAnew (xs (iN + 1)) (xs (iN + 2)) (xs (iN + 3)) σ).2)).1)), (5, .int ((f_L_reachAnew (xs (iN + 1)) (xs (iN + 2)) (xs (iN + 3)) σ).1)), (4, .int (nI iN)), (3, .ref (ad 90 0)), (2, .ref (ad 8 0)), (1, .ref (ad 7 0)), (0, .ref b)]) hx hb dL_law_2496 hl (by decide) rfl (fun ls hl => ?_)
  refine lv_aload_n hx hb dL_law_2498 rfl (lv_at hl 4 rfl) ?_
  refine w_callVL (As := []) (rest := []) (st2 := .int (f_X8_thrown ((f_X8_reachAnew (xs (iN + 1)) (xs (iN + 2)) (xs (iN + 3)) ((f_L_reachAnew (xs (iN + 1)) (xs (iN + 2)) (xs (iN + 3)) σ).2)).2)) :: []) hC hW hS hl cv_L_127 m_8 (by decide) rfl (c_X8_thrown l hl9 D ca base ad ((f_X8_reachAnew (xs (iN + 1)) (xs (iN + 2)) (xs (iN + 3)) ((f_L_reachAnew (xs (iN + 1)) (xs (iN + 2)) (xs (iN + 3)) σ).2)).2) ) rfl rfl rfl ⟨Nat.le_of_ble_eq_true rfl, Nat.le_of_ble_eq_true rfl⟩ (Nat.le_of_ble_eq_true rfl) dL_law_2499 ⟨by show cells + 3 + 0 + 0 ≤ 601024; omega, by show slots + 18 + 0 + 0 ≤ 7293034; omega⟩ (c2 := cells + 3 + 0 + 0) (s2 := slots + 18 + 0 + 0) rfl rfl (fun H locs hW hS => ?_)
  refine lv_iload hx hb dL_law_2502 (lv_at hl 1 rfl) ?_
  refine lv_icmp_eq (tgt := 2509) hx hb dL_law_2504 (by decide) (fun c_1 => ?_) (fun c_1 => ?_)
  · refine lv_iload hx hb dL_law_2509 (lv_at hl 1 rfl) ?_
    refine lv_if_ne (tgt := 2526) hx hb dL_law_2511 (by decide) (fun c_2 => ?_) (fun c_2 => ?_)
    · refine lv_goto (tgt := 2689) hx hb dL_law_2526 (by decide) ?_
      have hO : g_law_30 xs iN σ = some ((f_X8_reachAnew (xs (iN + 1)) (xs (iN + 2)) (xs (iN + 3)) ((f_L_reachAnew (xs (iN + 1)) (xs (iN + 2)) (xs (iN + 3)) σ).2)).2) := by rw [g_law_30, if_pos c_1, if_neg c_2]
      obtain ⟨σ9, h9, hR9⟩ := hL2
      rw [hO] at h9
      cases h9
      exact W.widen (by omega) (by omega) (kk _ _ _ _ hR9 hW hS (lv_sub hl [2, 3, 4, 5, 6] rfl))
    · refine lv_aload_n hx hb dL_law_2514 rfl (lv_at hl 3 rfl) ?_
      refine lv_iconst (v := 0) hx hb dL_law_2515 (by decide) ?_
      refine w_lald hC hW m_90 (vp_lit (by decide)) dL_law_2516 ?_
      rw [show Int32.toNatClampNeg 0 = 0 by decide, fr_X8_reachAnew (by decide) (by decide)]
      refine lv_iload hx hb dL_law_2517 (lv_at hl 0 rfl) ?_
      refine lv_i2l hx hb dL_law_2519 rfl ?_
      refine W.lcmp hx hb dL_law_2520 ?_
      refine lv_if_eq (tgt := 2526) hx hb dL_law_2521 (by decide) (fun c_3 => ?_) (fun c_3 => ?_)
      · refine lv_goto (tgt := 2689) hx hb dL_law_2526 (by decide) ?_
        have hO : g_law_30 xs iN σ = some ((f_X8_reachAnew (xs (iN + 1)) (xs (iN + 2)) (xs (iN + 3)) ((f_L_reachAnew (xs (iN + 1)) (xs (iN + 2)) (xs (iN + 3)) σ).2)).2) := by rw [g_law_30, if_pos c_1, if_pos c_2, if_pos c_3]
        obtain ⟨σ9, h9, hR9⟩ := hL2
        rw [hO] at h9
        cases h9
        exact W.widen (by omega) (by omega) (kk _ _ _ _ hR9 hW hS (lv_sub hl [2, 3, 4, 5, 6] rfl))
      · refine lv_iconst (v := 0) hx hb dL_law_2524 (by decide) ?_
        have hO : g_law_30 xs iN σ = none := by rw [g_law_30, if_pos c_1, if_pos c_2, if_neg c_3]
        obtain ⟨σ9, h9, hR9⟩ := hL2
        rw [hO] at h9
        cases h9
  · refine lv_iconst (v := 0) hx hb dL_law_2507 (by decide) ?_
    have hO : g_law_30 xs iN σ = none := by rw [g_law_30, if_neg c_1]
    obtain ⟨σ9, h9, hR9⟩ := hL2
    rw [hO] at h9
    cases h9
def g_law_31 (xs : Nat → Int32) (iN : Nat) (σ : Sg) : Option Sg :=
  if (f_X8_thrown ((f_X8_least (xs (iN + 1)) (xs (iN + 2)) (xs (iN + 3)) ((f_L_least (xs (iN + 1)) (xs (iN + 2)) (xs (iN + 3)) σ).2)).2)) = ((f_L_least (xs (iN + 1)) (xs (iN + 2)) (xs (iN + 3)) σ).1) then (if ((f_L_least (xs (iN + 1)) (xs (iN + 2)) (xs (iN + 3)) σ).1) = 0 then (if (lg_cmp ((((f_L_least (xs (iN + 1)) (xs (iN + 2)) (xs (iN + 3)) σ).2) 90 0 0).toInt64) (((f_X8_least (xs (iN + 1)) (xs (iN + 2)) (xs (iN + 3)) ((f_L_least (xs (iN + 1)) (xs (iN + 2)) (xs (iN + 3)) σ).2)).1).toInt64)) = 0 then some ((f_X8_least (xs (iN + 1)) (xs (iN + 2)) (xs (iN + 3)) ((f_L_least (xs (iN + 1)) (xs (iN + 2)) (xs (iN + 3)) σ).2)).2)
      else none)
    else some ((f_X8_least (xs (iN + 1)) (xs (iN + 2)) (xs (iN + 3)) ((f_L_least (xs (iN + 1)) (xs (iN + 2)) (xs (iN + 3)) σ).2)).2))
  else none
set_option maxHeartbeats 4000000 in
set_option maxRecDepth 100000 in
theorem lc_31 {p : Program} {l : Launch} (hl9 : l.stackTraces = false) {e : Env} {s : State} {m : MethodId} {below : List Frame} {meth : Method} {c : Code} {b L : Nat} {xs : Nat → Int32} {D : va_G} {ca : Nat → ClassId} {base : Nat} {ad : Adr} {Q : State → Prop} {iN : Nat} {σ : Sg} {H : Heap} {locs : List Loc} {cells slots : Nat} {ls : Array Slot} (RR : Sg → Prop) (hC : Cx p s m #[Value.ref b] meth c code 7 RL ret D ca base) (hN : Nx s) (hX : va_X b L xs s s.heap) (hbl : b < s.heap.size) (hbA : ¬ Ab base b) (hi7 : iN + 7 ≤ L) (hL9 : L ≤ 3584) (hc : cells + 40 ≤ 601024) (hs : slots + 240 ≤ 7293034) (hI : LInv σ) (hL2 : ∃ σ', g_law_31 xs iN σ = some σ' ∧ RR σ') (hW : Wd D ca (Ab base) ad ρm Lm σ H) (hS : va_S (Ab base) s.heap H locs) (hl : lv_has ls 7 [(4, .int (nI iN)), (3, .ref (ad 90 0)), (2, .ref (ad 8 0)), (1, .ref (ad 7 0)), (0, .ref b)])
    (kk : ∀ (σ' : Sg) (H1 : Heap) (locs1 : List Loc) (ls1 : Array Slot), RR σ' → Wd D ca (Ab base) ad ρm Lm σ' H1 → va_S (Ab base) s.heap H1 locs1 → lv_has ls1 7 [(4, .int (nI iN)), (3, .ref (ad 90 0)), (2, .ref (ad 8 0)), (1, .ref (ad 7 0)), (0, .ref b)] → W p l e room_1 s m #[Value.ref b] below meth c H1 locs1 (cells + 40) (slots + 240) Q (F0 m 2689 ls1 [])) : W p l e room_1 s m #[Value.ref b] below meth c H locs cells slots Q (F0 m 2529 ls []) := by
  have hx := hC.1
  have hb := hC.2.1
  refine lv_aload_n hx hb dL_law_2529 rfl (lv_at hl 3 rfl) ?_
  refine lv_aload_n hx hb dL_law_2530 rfl (lv_at hl 4 rfl) ?_
  refine lv_iload hx hb dL_law_2531 (lv_at hl 0 rfl) ?_
  refine lv_iconst (v := 1) hx hb dL_law_2533 (by decide) ?_
  refine lv_iadd hx hb dL_law_2534 ?_
  refine va_sld hx hb hX hbl hbA hS (vp_in_addr (a := 1) (by decide) (by omega) (by omega)) dL_law_2535 ?_
  rw [cl_addr (a := 1) (by decide) (by omega)]
  refine lv_aload_n hx hb dL_law_2536 rfl (lv_at hl 4 rfl) ?_
  refine lv_iload hx hb dL_law_2537 (lv_at hl 0 rfl) ?_
  refine lv_iconst (v := 2) hx hb dL_law_2539 (by decide) ?_
  refine lv_iadd hx hb dL_law_2540 ?_
  refine va_sld hx hb hX hbl hbA hS (vp_in_addr (a := 2) (by decide) (by omega) (by omega)) dL_law_2541 ?_
  rw [cl_addr (a := 2) (by decide) (by omega)]
  refine lv_aload_n hx hb dL_law_2542 rfl (lv_at hl 4 rfl) ?_
  refine lv_iload hx hb dL_law_2543 (lv_at hl 0 rfl) ?_
  refine lv_iconst (v := 3) hx hb dL_law_2545 (by decide) ?_
  refine lv_iadd hx hb dL_law_2546 ?_
  refine va_sld hx hb hX hbl hbA hS (vp_in_addr (a := 3) (by decide) (by omega) (by omega)) dL_law_2547 ?_
  rw [cl_addr (a := 3) (by decide) (by omega)]
  refine lv_aload_n hx hb dL_law_2548 rfl (lv_at hl 1 rfl) ?_
  refine w_callL (As := [.ref (ad 7 0), .int (xs (iN + 1)), .int (xs (iN + 2)), .int (xs (iN + 3)), .ref (ad 90 0)]) (rest := []) (st2 := .int ((f_L_least (xs (iN + 1)) (xs (iN + 2)) (xs (iN + 3)) σ).1) :: []) hC hN hW hS hl cl_L_232 (c_L_least l hl9 D ca base ad σ (xs (iN + 1)) (xs (iN + 2)) (xs (iN + 3)) hI.1) rfl rfl rfl ⟨Nat.le_of_ble_eq_true rfl, Nat.le_of_ble_eq_true rfl⟩ (Nat.le_of_ble_eq_true rfl) dL_law_2549 ⟨by show cells + 3 ≤ 601024; omega, by show slots + 18 ≤ 7293034; omega⟩ (c2 := cells + 3) (s2 := slots + 18) rfl rfl (fun H locs hW hS => ?_)
  refine lv_istore (lv' := [(5, .int ((f_L_least (xs (iN + 1)) (xs (iN + 2)) (xs (iN + 3)) σ).1)), (4, .int (nI iN)), (3, .ref (ad 90 0)), (2, .ref (ad 8 0)), (1, .ref (ad 7 0)), (0, .ref b)]) hx hb dL_law_2552 hl (by decide) rfl (fun ls hl => ?_)
  refine lv_aload_n hx hb dL_law_2554 rfl (lv_at hl 3 rfl) ?_
  refine lv_aload_n hx hb dL_law_2555 rfl (lv_at hl 5 rfl) ?_
  refine lv_iload hx hb dL_law_2556 (lv_at hl 1 rfl) ?_
  refine lv_iconst (v := 1) hx hb dL_law_2558 (by decide) ?_
  refine lv_iadd hx hb dL_law_2559 ?_
  refine va_sld hx hb hX hbl hbA hS (vp_in_addr (a := 1) (by decide) (by omega) (by omega)) dL_law_2560 ?_
  rw [cl_addr (a := 1) (by decide) (by omega)]
  refine lv_aload_n hx hb dL_law_2561 rfl (lv_at hl 5 rfl) ?_
  refine lv_iload hx hb dL_law_2562 (lv_at hl 1 rfl) ?_
  refine lv_iconst (v := 2) hx hb dL_law_2564 (by decide) ?_
  refine lv_iadd hx hb dL_law_2565 ?_
  refine va_sld hx hb hX hbl hbA hS (vp_in_addr (a := 2) (by decide) (by omega) (by omega)) dL_law_2566 ?_
  rw [cl_addr (a := 2) (by decide) (by omega)]
  refine lv_aload_n hx hb dL_law_2567 rfl (lv_at hl 5 rfl) ?_
  refine lv_iload hx hb dL_law_2568 (lv_at hl 1 rfl) ?_
  refine lv_iconst (v := 3) hx hb dL_law_2570 (by decide) ?_
  refine lv_iadd hx hb dL_law_2571 ?_
  refine va_sld hx hb hX hbl hbA hS (vp_in_addr (a := 3) (by decide) (by omega) (by omega)) dL_law_2572 ?_
  rw [cl_addr (a := 3) (by decide) (by omega)]
  refine w_callVL (As := [.int (xs (iN + 1)), .int (xs (iN + 2)), .int (xs (iN + 3))]) (rest := []) (st2 := .int ((f_X8_least (xs (iN + 1)) (xs (iN + 2)) (xs (iN + 3)) ((f_L_least (xs (iN + 1)) (xs (iN + 2)) (xs (iN + 3)) σ).2)).1) :: []) hC hW hS hl cv_L_234 m_8 (by decide) rfl (c_X8_least l hl9 D ca base ad ((f_L_least (xs (iN + 1)) (xs (iN + 2)) (xs (iN + 3)) σ).2) (xs (iN + 1)) (xs (iN + 2)) (xs (iN + 3)) (mi_of hI.2.2.1 (by rw [fr_L_least (by decide)]) (by rw [fr_L_least (by decide)]) (by rw [fr_L_least (by decide)]) (by rw [fr_L_least (by decide)]) (by rw [fr_L_least (by decide)]) (by rw [fr_L_least (by decide)]) (by rw [fr_L_least (by decide)]) (by rw [fr_L_least (by decide)]) (by rw [fr_L_least (by decide)]) (by rw [fr_L_least (by decide)]) (by rw [fr_L_least (by decide)]) (by rw [fr_L_least (by decide)]) (by rw [fr_L_least (by decide)]) (by rw [fr_L_least (by decide)]) (by rw [fr_L_least (by decide)]) (by rw [fr_L_least (by decide)]))) rfl rfl rfl ⟨Nat.le_of_ble_eq_true rfl, Nat.le_of_ble_eq_true rfl⟩ (Nat.le_of_ble_eq_true rfl) dL_law_2573 ⟨by show cells + 3 + 0 ≤ 601024; omega, by show slots + 18 + 0 ≤ 7293034; omega⟩ (c2 := cells + 3 + 0) (s2 := slots + 18 + 0) rfl rfl (fun H locs hW hS => ?_)
  refine lv_istore (lv' := [(6, .int ((f_X8_least (xs (iN + 1)) (xs (iN + 2)) (xs (iN + 3)) ((f_L_least (xs (iN + 1)) (xs (iN + 2)) (xs (iN + 3)) σ).2)).1)), (5, .int ((f_L_least (xs (iN + 1)) (xs (iN + 2)) (xs (iN + 3)) σ).1)), (4, .int (nI iN)), (3, .ref (ad 90 0)), (2, .ref (ad 8 0)), (1, .ref (ad 7 0)), (0, .ref b)]) hx hb dL_law_2576 hl (by decide) rfl (fun ls hl => ?_)
  refine lv_aload_n hx hb dL_law_2578 rfl (lv_at hl 4 rfl) ?_
  refine w_callVL (As := []) (rest := []) (st2 := .int (f_X8_thrown ((f_X8_least (xs (iN + 1)) (xs (iN + 2)) (xs (iN + 3)) ((f_L_least (xs (iN + 1)) (xs (iN + 2)) (xs (iN + 3)) σ).2)).2)) :: []) hC hW hS hl cv_L_127 m_8 (by decide) rfl (c_X8_thrown l hl9 D ca base ad ((f_X8_least (xs (iN + 1)) (xs (iN + 2)) (xs (iN + 3)) ((f_L_least (xs (iN + 1)) (xs (iN + 2)) (xs (iN + 3)) σ).2)).2) ) rfl rfl rfl ⟨Nat.le_of_ble_eq_true rfl, Nat.le_of_ble_eq_true rfl⟩ (Nat.le_of_ble_eq_true rfl) dL_law_2579 ⟨by show cells + 3 + 0 + 0 ≤ 601024; omega, by show slots + 18 + 0 + 0 ≤ 7293034; omega⟩ (c2 := cells + 3 + 0 + 0) (s2 := slots + 18 + 0 + 0) rfl rfl (fun H locs hW hS => ?_)
  refine lv_iload hx hb dL_law_2582 (lv_at hl 1 rfl) ?_
  refine lv_icmp_eq (tgt := 2589) hx hb dL_law_2584 (by decide) (fun c_1 => ?_) (fun c_1 => ?_)
  · refine lv_iload hx hb dL_law_2589 (lv_at hl 1 rfl) ?_
    refine lv_if_ne (tgt := 2606) hx hb dL_law_2591 (by decide) (fun c_2 => ?_) (fun c_2 => ?_)
    · refine lv_goto (tgt := 2689) hx hb dL_law_2606 (by decide) ?_
      have hO : g_law_31 xs iN σ = some ((f_X8_least (xs (iN + 1)) (xs (iN + 2)) (xs (iN + 3)) ((f_L_least (xs (iN + 1)) (xs (iN + 2)) (xs (iN + 3)) σ).2)).2) := by rw [g_law_31, if_pos c_1, if_neg c_2]
      obtain ⟨σ9, h9, hR9⟩ := hL2
      rw [hO] at h9
      cases h9
      exact W.widen (by omega) (by omega) (kk _ _ _ _ hR9 hW hS (lv_sub hl [2, 3, 4, 5, 6] rfl))
    · refine lv_aload_n hx hb dL_law_2594 rfl (lv_at hl 3 rfl) ?_
      refine lv_iconst (v := 0) hx hb dL_law_2595 (by decide) ?_
      refine w_lald hC hW m_90 (vp_lit (by decide)) dL_law_2596 ?_
      rw [show Int32.toNatClampNeg 0 = 0 by decide, fr_X8_least (by decide)]
      refine lv_iload hx hb dL_law_2597 (lv_at hl 0 rfl) ?_
      refine lv_i2l hx hb dL_law_2599 rfl ?_
      refine W.lcmp hx hb dL_law_2600 ?_
      refine lv_if_eq (tgt := 2606) hx hb dL_law_2601 (by decide) (fun c_3 => ?_) (fun c_3 => ?_)
      · refine lv_goto (tgt := 2689) hx hb dL_law_2606 (by decide) ?_
        have hO : g_law_31 xs iN σ = some ((f_X8_least (xs (iN + 1)) (xs (iN + 2)) (xs (iN + 3)) ((f_L_least (xs (iN + 1)) (xs (iN + 2)) (xs (iN + 3)) σ).2)).2) := by rw [g_law_31, if_pos c_1, if_pos c_2, if_pos c_3]
        obtain ⟨σ9, h9, hR9⟩ := hL2
        rw [hO] at h9
        cases h9
        exact W.widen (by omega) (by omega) (kk _ _ _ _ hR9 hW hS (lv_sub hl [2, 3, 4, 5, 6] rfl))
      · refine lv_iconst (v := 0) hx hb dL_law_2604 (by decide) ?_
        have hO : g_law_31 xs iN σ = none := by rw [g_law_31, if_pos c_1, if_pos c_2, if_neg c_3]
        obtain ⟨σ9, h9, hR9⟩ := hL2
        rw [hO] at h9
        cases h9
  · refine lv_iconst (v := 0) hx hb dL_law_2587 (by decide) ?_
    have hO : g_law_31 xs iN σ = none := by rw [g_law_31, if_neg c_1]
    obtain ⟨σ9, h9, hR9⟩ := hL2
    rw [hO] at h9
    cases h9
def g_law_32 (xs : Nat → Int32) (iN : Nat) (σ : Sg) : Option Sg :=
  if (f_X8_thrown ((f_X8_leastAnew (xs (iN + 1)) (xs (iN + 2)) (xs (iN + 3)) ((f_L_leastAnew (xs (iN + 1)) (xs (iN + 2)) (xs (iN + 3)) σ).2)).2)) = ((f_L_leastAnew (xs (iN + 1)) (xs (iN + 2)) (xs (iN + 3)) σ).1) then (if ((f_L_leastAnew (xs (iN + 1)) (xs (iN + 2)) (xs (iN + 3)) σ).1) = 0 then (if (lg_cmp ((((f_L_leastAnew (xs (iN + 1)) (xs (iN + 2)) (xs (iN + 3)) σ).2) 90 0 0).toInt64) (((f_X8_leastAnew (xs (iN + 1)) (xs (iN + 2)) (xs (iN + 3)) ((f_L_leastAnew (xs (iN + 1)) (xs (iN + 2)) (xs (iN + 3)) σ).2)).1).toInt64)) = 0 then some ((f_X8_leastAnew (xs (iN + 1)) (xs (iN + 2)) (xs (iN + 3)) ((f_L_leastAnew (xs (iN + 1)) (xs (iN + 2)) (xs (iN + 3)) σ).2)).2)
      else none)
    else some ((f_X8_leastAnew (xs (iN + 1)) (xs (iN + 2)) (xs (iN + 3)) ((f_L_leastAnew (xs (iN + 1)) (xs (iN + 2)) (xs (iN + 3)) σ).2)).2))
  else none
set_option maxHeartbeats 4000000 in
set_option maxRecDepth 100000 in
theorem lc_32 {p : Program} {l : Launch} (hl9 : l.stackTraces = false) {e : Env} {s : State} {m : MethodId} {below : List Frame} {meth : Method} {c : Code} {b L : Nat} {xs : Nat → Int32} {D : va_G} {ca : Nat → ClassId} {base : Nat} {ad : Adr} {Q : State → Prop} {iN : Nat} {σ : Sg} {H : Heap} {locs : List Loc} {cells slots : Nat} {ls : Array Slot} (RR : Sg → Prop) (hC : Cx p s m #[Value.ref b] meth c code 7 RL ret D ca base) (hN : Nx s) (hX : va_X b L xs s s.heap) (hbl : b < s.heap.size) (hbA : ¬ Ab base b) (hi7 : iN + 7 ≤ L) (hL9 : L ≤ 3584) (hc : cells + 40 ≤ 601024) (hs : slots + 240 ≤ 7293034) (hI : LInv σ) (hL2 : ∃ σ', g_law_32 xs iN σ = some σ' ∧ RR σ') (hW : Wd D ca (Ab base) ad ρm Lm σ H) (hS : va_S (Ab base) s.heap H locs) (hl : lv_has ls 7 [(4, .int (nI iN)), (3, .ref (ad 90 0)), (2, .ref (ad 8 0)), (1, .ref (ad 7 0)), (0, .ref b)])
    (kk : ∀ (σ' : Sg) (H1 : Heap) (locs1 : List Loc) (ls1 : Array Slot), RR σ' → Wd D ca (Ab base) ad ρm Lm σ' H1 → va_S (Ab base) s.heap H1 locs1 → lv_has ls1 7 [(4, .int (nI iN)), (3, .ref (ad 90 0)), (2, .ref (ad 8 0)), (1, .ref (ad 7 0)), (0, .ref b)] → W p l e room_1 s m #[Value.ref b] below meth c H1 locs1 (cells + 40) (slots + 240) Q (F0 m 2689 ls1 [])) : W p l e room_1 s m #[Value.ref b] below meth c H locs cells slots Q (F0 m 2609 ls []) := by
  have hx := hC.1
  have hb := hC.2.1
  refine lv_aload_n hx hb dL_law_2609 rfl (lv_at hl 3 rfl) ?_
  refine lv_aload_n hx hb dL_law_2610 rfl (lv_at hl 4 rfl) ?_
  refine lv_iload hx hb dL_law_2611 (lv_at hl 0 rfl) ?_
  refine lv_iconst (v := 1) hx hb dL_law_2613 (by decide) ?_
  refine lv_iadd hx hb dL_law_2614 ?_
  refine va_sld hx hb hX hbl hbA hS (vp_in_addr (a := 1) (by decide) (by omega) (by omega)) dL_law_2615 ?_
  rw [cl_addr (a := 1) (by decide) (by omega)]
  refine lv_aload_n hx hb dL_law_2616 rfl (lv_at hl 4 rfl) ?_
  refine lv_iload hx hb dL_law_2617 (lv_at hl 0 rfl) ?_
  refine lv_iconst (v := 2) hx hb dL_law_2619 (by decide) ?_
  refine lv_iadd hx hb dL_law_2620 ?_
  refine va_sld hx hb hX hbl hbA hS (vp_in_addr (a := 2) (by decide) (by omega) (by omega)) dL_law_2621 ?_
  rw [cl_addr (a := 2) (by decide) (by omega)]
  refine lv_aload_n hx hb dL_law_2622 rfl (lv_at hl 4 rfl) ?_
  refine lv_iload hx hb dL_law_2623 (lv_at hl 0 rfl) ?_
  refine lv_iconst (v := 3) hx hb dL_law_2625 (by decide) ?_
  refine lv_iadd hx hb dL_law_2626 ?_
  refine va_sld hx hb hX hbl hbA hS (vp_in_addr (a := 3) (by decide) (by omega) (by omega)) dL_law_2627 ?_
  rw [cl_addr (a := 3) (by decide) (by omega)]
  refine lv_aload_n hx hb dL_law_2628 rfl (lv_at hl 1 rfl) ?_
  refine w_callL (As := [.ref (ad 7 0), .int (xs (iN + 1)), .int (xs (iN + 2)), .int (xs (iN + 3)), .ref (ad 90 0)]) (rest := []) (st2 := .int ((f_L_leastAnew (xs (iN + 1)) (xs (iN + 2)) (xs (iN + 3)) σ).1) :: []) hC hN hW hS hl cl_L_235 (c_L_leastAnew l hl9 D ca base ad σ (xs (iN + 1)) (xs (iN + 2)) (xs (iN + 3)) hI.1) rfl rfl rfl ⟨Nat.le_of_ble_eq_true rfl, Nat.le_of_ble_eq_true rfl⟩ (Nat.le_of_ble_eq_true rfl) dL_law_2629 ⟨by show cells + 3 ≤ 601024; omega, by show slots + 18 ≤ 7293034; omega⟩ (c2 := cells + 3) (s2 := slots + 18) rfl rfl (fun H locs hW hS => ?_)
  refine lv_istore (lv' := [(5, .int ((f_L_leastAnew (xs (iN + 1)) (xs (iN + 2)) (xs (iN + 3)) σ).1)), (4, .int (nI iN)), (3, .ref (ad 90 0)), (2, .ref (ad 8 0)), (1, .ref (ad 7 0)), (0, .ref b)]) hx hb dL_law_2632 hl (by decide) rfl (fun ls hl => ?_)
  refine lv_aload_n hx hb dL_law_2634 rfl (lv_at hl 3 rfl) ?_
  refine lv_aload_n hx hb dL_law_2635 rfl (lv_at hl 5 rfl) ?_
  refine lv_iload hx hb dL_law_2636 (lv_at hl 1 rfl) ?_
  refine lv_iconst (v := 1) hx hb dL_law_2638 (by decide) ?_
  refine lv_iadd hx hb dL_law_2639 ?_
  refine va_sld hx hb hX hbl hbA hS (vp_in_addr (a := 1) (by decide) (by omega) (by omega)) dL_law_2640 ?_
  rw [cl_addr (a := 1) (by decide) (by omega)]
  refine lv_aload_n hx hb dL_law_2641 rfl (lv_at hl 5 rfl) ?_
  refine lv_iload hx hb dL_law_2642 (lv_at hl 1 rfl) ?_
  refine lv_iconst (v := 2) hx hb dL_law_2644 (by decide) ?_
  refine lv_iadd hx hb dL_law_2645 ?_
  refine va_sld hx hb hX hbl hbA hS (vp_in_addr (a := 2) (by decide) (by omega) (by omega)) dL_law_2646 ?_
  rw [cl_addr (a := 2) (by decide) (by omega)]
  refine lv_aload_n hx hb dL_law_2647 rfl (lv_at hl 5 rfl) ?_
  refine lv_iload hx hb dL_law_2648 (lv_at hl 1 rfl) ?_
  refine lv_iconst (v := 3) hx hb dL_law_2650 (by decide) ?_
  refine lv_iadd hx hb dL_law_2651 ?_
  refine va_sld hx hb hX hbl hbA hS (vp_in_addr (a := 3) (by decide) (by omega) (by omega)) dL_law_2652 ?_
  rw [cl_addr (a := 3) (by decide) (by omega)]
  refine w_callVL (As := [.int (xs (iN + 1)), .int (xs (iN + 2)), .int (xs (iN + 3))]) (rest := []) (st2 := .int ((f_X8_leastAnew (xs (iN + 1)) (xs (iN + 2)) (xs (iN + 3)) ((f_L_leastAnew (xs (iN + 1)) (xs (iN + 2)) (xs (iN + 3)) σ).2)).1) :: []) hC hW hS hl cv_L_237 m_8 (by decide) rfl (c_X8_leastAnew l hl9 D ca base ad ((f_L_leastAnew (xs (iN + 1)) (xs (iN + 2)) (xs (iN + 3)) σ).2) (xs (iN + 1)) (xs (iN + 2)) (xs (iN + 3)) (mi_of hI.2.2.1 (by rw [fr_L_leastAnew (by decide) (by decide) (by decide) (by decide) (by decide)]) (by rw [fr_L_leastAnew (by decide) (by decide) (by decide) (by decide) (by decide)]) (by rw [fr_L_leastAnew (by decide) (by decide) (by decide) (by decide) (by decide)]) (by rw [fr_L_leastAnew (by decide) (by decide) (by decide) (by decide) (by decide)]) (by rw [fr_L_leastAnew (by decide) (by decide) (by decide) (by decide) (by decide)]) (by rw [fr_L_leastAnew (by decide) (by decide) (by decide) (by decide) (by decide)]) (by rw [fr_L_leastAnew (by decide) (by decide) (by decide) (by decide) (by decide)]) (by rw [fr_L_leastAnew (by decide) (by decide) (by decide) (by decide) (by decide)]) (by rw [fr_L_leastAnew (by decide) (by decide) (by decide) (by decide) (by decide)]) (by rw [fr_L_leastAnew (by decide) (by decide) (by decide) (by decide) (by decide)]) (by rw [fr_L_leastAnew (by decide) (by decide) (by decide) (by decide) (by decide)]) (by rw [fr_L_leastAnew (by decide) (by decide) (by decide) (by decide) (by decide)]) (by rw [fr_L_leastAnew (by decide) (by decide) (by decide) (by decide) (by decide)]) (by rw [fr_L_leastAnew (by decide) (by decide) (by decide) (by decide) (by decide)]) (by rw [fr_L_leastAnew (by decide) (by decide) (by decide) (by decide) (by decide)]) (by rw [fr_L_leastAnew (by decide) (by decide) (by decide) (by decide) (by decide)]))) rfl rfl rfl ⟨Nat.le_of_ble_eq_true rfl, Nat.le_of_ble_eq_true rfl⟩ (Nat.le_of_ble_eq_true rfl) dL_law_2653 ⟨by show cells + 3 + 0 ≤ 601024; omega, by show slots + 18 + 0 ≤ 7293034; omega⟩ (c2 := cells + 3 + 0) (s2 := slots + 18 + 0) rfl rfl (fun H locs hW hS => ?_)
  refine lv_istore (lv' := [(6, .int ((f_X8_leastAnew (xs (iN + 1)) (xs (iN + 2)) (xs (iN + 3)) ((f_L_leastAnew (xs (iN + 1)) (xs (iN + 2)) (xs (iN + 3)) σ).2)).1)), (5, .int ((f_L_leastAnew (xs (iN + 1)) (xs (iN + 2)) (xs (iN + 3)) σ).1)), (4, .int (nI iN)), (3, .ref (ad 90 0)), (2, .ref (ad 8 0)), (1, .ref (ad 7 0)), (0, .ref b)]) hx hb dL_law_2656 hl (by decide) rfl (fun ls hl => ?_)
  refine lv_aload_n hx hb dL_law_2658 rfl (lv_at hl 4 rfl) ?_
  refine w_callVL (As := []) (rest := []) (st2 := .int (f_X8_thrown ((f_X8_leastAnew (xs (iN + 1)) (xs (iN + 2)) (xs (iN + 3)) ((f_L_leastAnew (xs (iN + 1)) (xs (iN + 2)) (xs (iN + 3)) σ).2)).2)) :: []) hC hW hS hl cv_L_127 m_8 (by decide) rfl (c_X8_thrown l hl9 D ca base ad ((f_X8_leastAnew (xs (iN + 1)) (xs (iN + 2)) (xs (iN + 3)) ((f_L_leastAnew (xs (iN + 1)) (xs (iN + 2)) (xs (iN + 3)) σ).2)).2) ) rfl rfl rfl ⟨Nat.le_of_ble_eq_true rfl, Nat.le_of_ble_eq_true rfl⟩ (Nat.le_of_ble_eq_true rfl) dL_law_2659 ⟨by show cells + 3 + 0 + 0 ≤ 601024; omega, by show slots + 18 + 0 + 0 ≤ 7293034; omega⟩ (c2 := cells + 3 + 0 + 0) (s2 := slots + 18 + 0 + 0) rfl rfl (fun H locs hW hS => ?_)
  refine lv_iload hx hb dL_law_2662 (lv_at hl 1 rfl) ?_
  refine lv_icmp_eq (tgt := 2669) hx hb dL_law_2664 (by decide) (fun c_1 => ?_) (fun c_1 => ?_)
  · refine lv_iload hx hb dL_law_2669 (lv_at hl 1 rfl) ?_
    refine lv_if_ne (tgt := 2686) hx hb dL_law_2671 (by decide) (fun c_2 => ?_) (fun c_2 => ?_)
    · refine lv_goto (tgt := 2689) hx hb dL_law_2686 (by decide) ?_
      have hO : g_law_32 xs iN σ = some ((f_X8_leastAnew (xs (iN + 1)) (xs (iN + 2)) (xs (iN + 3)) ((f_L_leastAnew (xs (iN + 1)) (xs (iN + 2)) (xs (iN + 3)) σ).2)).2) := by rw [g_law_32, if_pos c_1, if_neg c_2]
      obtain ⟨σ9, h9, hR9⟩ := hL2
      rw [hO] at h9
      cases h9
      exact W.widen (by omega) (by omega) (kk _ _ _ _ hR9 hW hS (lv_sub hl [2, 3, 4, 5, 6] rfl))
    · refine lv_aload_n hx hb dL_law_2674 rfl (lv_at hl 3 rfl) ?_
      refine lv_iconst (v := 0) hx hb dL_law_2675 (by decide) ?_
      refine w_lald hC hW m_90 (vp_lit (by decide)) dL_law_2676 ?_
      rw [show Int32.toNatClampNeg 0 = 0 by decide, fr_X8_leastAnew (by decide)]
      refine lv_iload hx hb dL_law_2677 (lv_at hl 0 rfl) ?_
      refine lv_i2l hx hb dL_law_2679 rfl ?_
      refine W.lcmp hx hb dL_law_2680 ?_
      refine lv_if_eq (tgt := 2686) hx hb dL_law_2681 (by decide) (fun c_3 => ?_) (fun c_3 => ?_)
      · refine lv_goto (tgt := 2689) hx hb dL_law_2686 (by decide) ?_
        have hO : g_law_32 xs iN σ = some ((f_X8_leastAnew (xs (iN + 1)) (xs (iN + 2)) (xs (iN + 3)) ((f_L_leastAnew (xs (iN + 1)) (xs (iN + 2)) (xs (iN + 3)) σ).2)).2) := by rw [g_law_32, if_pos c_1, if_pos c_2, if_pos c_3]
        obtain ⟨σ9, h9, hR9⟩ := hL2
        rw [hO] at h9
        cases h9
        exact W.widen (by omega) (by omega) (kk _ _ _ _ hR9 hW hS (lv_sub hl [2, 3, 4, 5, 6] rfl))
      · refine lv_iconst (v := 0) hx hb dL_law_2684 (by decide) ?_
        have hO : g_law_32 xs iN σ = none := by rw [g_law_32, if_pos c_1, if_pos c_2, if_neg c_3]
        obtain ⟨σ9, h9, hR9⟩ := hL2
        rw [hO] at h9
        cases h9
  · refine lv_iconst (v := 0) hx hb dL_law_2667 (by decide) ?_
    have hO : g_law_32 xs iN σ = none := by rw [g_law_32, if_neg c_1]
    obtain ⟨σ9, h9, hR9⟩ := hL2
    rw [hO] at h9
    cases h9
