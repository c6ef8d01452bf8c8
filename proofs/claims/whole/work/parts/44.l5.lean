/-- the step of one row of the script -/
def g_law (k : Nat) (xs : Nat → Int32) (iN : Nat) (σ : Sg) : Option Sg := match k with
  | 0 => g_law_0 xs iN σ
  | 1 => g_law_1 xs iN σ
  | 2 => g_law_2 xs iN σ
  | 3 => g_law_3 xs iN σ
  | 4 => g_law_4 xs iN σ
  | 5 => g_law_5 xs iN σ
  | 6 => g_law_6 xs iN σ
  | 7 => g_law_7 xs iN σ
  | 8 => g_law_8 xs iN σ
  | 9 => g_law_9 xs iN σ
  | 10 => g_law_10 xs iN σ
  | 11 => g_law_11 xs iN σ
  | 12 => g_law_12 xs iN σ
  | 13 => g_law_13 xs iN σ
  | 14 => g_law_14 xs iN σ
  | 15 => g_law_15 xs iN σ
  | 16 => g_law_16 xs iN σ
  | 17 => g_law_17 xs iN σ
  | 18 => g_law_18 xs iN σ
  | 19 => g_law_19 xs iN σ
  | 20 => g_law_20 xs iN σ
  | 21 => g_law_21 xs iN σ
  | 22 => g_law_22 xs iN σ
  | 23 => g_law_23 xs iN σ
  | 24 => g_law_24 xs iN σ
  | 25 => g_law_25 xs iN σ
  | 26 => g_law_26 xs iN σ
  | 27 => g_law_27 xs iN σ
  | 28 => g_law_28 xs iN σ
  | 29 => g_law_29 xs iN σ
  | 30 => g_law_30 xs iN σ
  | 31 => g_law_31 xs iN σ
  | 32 => g_law_32 xs iN σ
  | _ => some σ
theorem g_law_e0 (xs : Nat → Int32) (iN : Nat) (σ : Sg) : g_law 0 xs iN σ = g_law_0 xs iN σ := rfl
theorem g_law_e1 (xs : Nat → Int32) (iN : Nat) (σ : Sg) : g_law 1 xs iN σ = g_law_1 xs iN σ := rfl
theorem g_law_e2 (xs : Nat → Int32) (iN : Nat) (σ : Sg) : g_law 2 xs iN σ = g_law_2 xs iN σ := rfl
theorem g_law_e3 (xs : Nat → Int32) (iN : Nat) (σ : Sg) : g_law 3 xs iN σ = g_law_3 xs iN σ := rfl
theorem g_law_e4 (xs : Nat → Int32) (iN : Nat) (σ : Sg) : g_law 4 xs iN σ = g_law_4 xs iN σ := rfl
theorem g_law_e5 (xs : Nat → Int32) (iN : Nat) (σ : Sg) : g_law 5 xs iN σ = g_law_5 xs iN σ := rfl
theorem g_law_e6 (xs : Nat → Int32) (iN : Nat) (σ : Sg) : g_law 6 xs iN σ = g_law_6 xs iN σ := rfl
theorem g_law_e7 (xs : Nat → Int32) (iN : Nat) (σ : Sg) : g_law 7 xs iN σ = g_law_7 xs iN σ := rfl
theorem g_law_e8 (xs : Nat → Int32) (iN : Nat) (σ : Sg) : g_law 8 xs iN σ = g_law_8 xs iN σ := rfl
theorem g_law_e9 (xs : Nat → Int32) (iN : Nat) (σ : Sg) : g_law 9 xs iN σ = g_law_9 xs iN σ := rfl
theorem g_law_e10 (xs : Nat → Int32) (iN : Nat) (σ : Sg) : g_law 10 xs iN σ = g_law_10 xs iN σ := rfl
theorem g_law_e11 (xs : Nat → Int32) (iN : Nat) (σ : Sg) : g_law 11 xs iN σ = g_law_11 xs iN σ := rfl
theorem g_law_e12 (xs : Nat → Int32) (iN : Nat) (σ : Sg) : g_law 12 xs iN σ = g_law_12 xs iN σ := rfl
theorem g_law_e13 (xs : Nat → Int32) (iN : Nat) (σ : Sg) : g_law 13 xs iN σ = g_law_13 xs iN σ := rfl
theorem g_law_e14 (xs : Nat → Int32) (iN : Nat) (σ : Sg) : g_law 14 xs iN σ = g_law_14 xs iN σ := rfl
theorem g_law_e15 (xs : Nat → Int32) (iN : Nat) (σ : Sg) : g_law 15 xs iN σ = g_law_15 xs iN σ := rfl
theorem g_law_e16 (xs : Nat → Int32) (iN : Nat) (σ : Sg) : g_law 16 xs iN σ = g_law_16 xs iN σ := rfl
theorem g_law_e17 (xs : Nat → Int32) (iN : Nat) (σ : Sg) : g_law 17 xs iN σ = g_law_17 xs iN σ := rfl
theorem g_law_e18 (xs : Nat → Int32) (iN : Nat) (σ : Sg) : g_law 18 xs iN σ = g_law_18 xs iN σ := rfl
theorem g_law_e19 (xs : Nat → Int32) (iN : Nat) (σ : Sg) : g_law 19 xs iN σ = g_law_19 xs iN σ := rfl
theorem g_law_e20 (xs : Nat → Int32) (iN : Nat) (σ : Sg) : g_law 20 xs iN σ = g_law_20 xs iN σ := rfl
theorem g_law_e21 (xs : Nat → Int32) (iN : Nat) (σ : Sg) : g_law 21 xs iN σ = g_law_21 xs iN σ := rfl
theorem g_law_e22 (xs : Nat → Int32) (iN : Nat) (σ : Sg) : g_law 22 xs iN σ = g_law_22 xs iN σ := rfl
theorem g_law_e23 (xs : Nat → Int32) (iN : Nat) (σ : Sg) : g_law 23 xs iN σ = g_law_23 xs iN σ := rfl
theorem g_law_e24 (xs : Nat → Int32) (iN : Nat) (σ : Sg) : g_law 24 xs iN σ = g_law_24 xs iN σ := rfl
theorem g_law_e25 (xs : Nat → Int32) (iN : Nat) (σ : Sg) : g_law 25 xs iN σ = g_law_25 xs iN σ := rfl
theorem g_law_e26 (xs : Nat → Int32) (iN : Nat) (σ : Sg) : g_law 26 xs iN σ = g_law_26 xs iN σ := rfl
theorem g_law_e27 (xs : Nat → Int32) (iN : Nat) (σ : Sg) : g_law 27 xs iN σ = g_law_27 xs iN σ := rfl
theorem g_law_e28 (xs : Nat → Int32) (iN : Nat) (σ : Sg) : g_law 28 xs iN σ = g_law_28 xs iN σ := rfl
theorem g_law_e29 (xs : Nat → Int32) (iN : Nat) (σ : Sg) : g_law 29 xs iN σ = g_law_29 xs iN σ := rfl
theorem g_law_e30 (xs : Nat → Int32) (iN : Nat) (σ : Sg) : g_law 30 xs iN σ = g_law_30 xs iN σ := rfl
theorem g_law_e31 (xs : Nat → Int32) (iN : Nat) (σ : Sg) : g_law 31 xs iN σ = g_law_31 xs iN σ := rfl
theorem g_law_e32 (xs : Nat → Int32) (iN : Nat) (σ : Sg) : g_law 32 xs iN σ = g_law_32 xs iN σ := rfl
theorem law_i0 (L : Nat) (hL : L ≤ 3584) (iN : Nat) (hi : iN ≤ 3584) (h : ¬ Int32.ofNat L - 7 < nI iN) : iN + 7 ≤ L := by
  have e1 : (Int32.ofNat L - 7).toInt = (L : Int) - 7 := by
    rw [Int32.toInt_sub, Int32.toInt_ofNat_of_lt (by omega)]
    rw [show (7 : Int32).toInt = 7 by decide]
    rw [Int.bmod_eq_of_le (by omega) (by omega)]
  have e2 : (nI iN).toInt = (iN : Int) := Int32.toInt_ofNat_of_lt (by omega)
  rw [Int32.lt_iff_toInt_lt, e1, e2] at h
  omega
theorem law_i7 (iN : Nat) : nI iN + Int32.ofInt 7 = nI (iN + 7) := nI_add iN 7
set_option maxHeartbeats 4000000 in
set_option maxRecDepth 100000 in
theorem law_loop {p : Program} {l : Launch} (hl9 : l.stackTraces = false) {e : Env} {s : State} {m : MethodId} {below : List Frame} {meth : Method} {c : Code} {b L : Nat} {xs : Nat → Int32} {D : va_G} {ca : Nat → ClassId} {base : Nat} {ad : Adr} {Q : State → Prop} (RR : Sg → Prop) (hRI : ∀ σ, RR σ → LInv σ) (hR : ∀ (k iN : Nat) (σ : Sg), k < 33 → RR σ → ∃ σ', g_law k xs iN σ = some σ' ∧ RR σ') (hC : Cx p s m #[Value.ref b] meth c code 7 RL ret D ca base) (hN : Nx s) (hX : va_X b L xs s s.heap) (hbl : b < s.heap.size) (hbA : ¬ Ab base b) (hL9 : L ≤ 3584)
    (hend : ∀ (σ' : Sg) (H1 : Heap) (locs1 : List Loc) (ls1 : Array Slot), va_S (Ab base) s.heap H1 locs1 → W p l e room_1 s m #[Value.ref b] below meth c H1 locs1 601024 7293034 Q (F0 m 2695 ls1 [])) :
    ∀ (n iN : Nat) (σ : Sg) (H : Heap) (locs : List Loc) (cells slots : Nat) (ls : Array Slot), L ≤ iN + 7 * n + 6 → iN ≤ L → cells + 40 * n ≤ 601024 → slots + 240 * n ≤ 7293034 → RR σ → Wd D ca (Ab base) ad ρm Lm σ H → va_S (Ab base) s.heap H locs → lv_has ls 7 [(4, .int (nI iN)), (3, .ref (ad 90 0)), (2, .ref (ad 8 0)), (1, .ref (ad 7 0)), (0, .ref b)] → W p l e room_1 s m #[Value.ref b] below meth c H locs cells slots Q (F0 m 23 ls []) := by
  have hx := hC.1
  have hb := hC.2.1
  intro n
  induction n with
  | zero =>
    intro iN σ H locs cells slots ls h1 h2 h3 h4 hRR hW hS hl
    refine lv_iload hx hb dL_law_23 (lv_at hl 0 rfl) ?_
    refine lv_aload_n hx hb dL_law_25 rfl (lv_at hl 4 rfl) ?_
    refine va_slen hx hb hX hbl hbA hS dL_law_26 ?_
    refine lv_bipush (v := 7) hx hb dL_law_27 (by decide) ?_
    refine lv_isub hx hb dL_law_29 ?_
    refine lv_icmp_gt (tgt := 2695) hx hb dL_law_30 (by decide) (fun c_10 => ?_) (fun c_10 => ?_)
    · exact W.widen (by omega) (by omega) (hend σ H locs ls hS)
    · exact absurd (law_i0 L hL9 iN (by omega) c_10) (by omega)
  | succ n ih =>
    intro iN σ H locs cells slots ls h1 h2 h3 h4 hRR hW hS hl
    refine lv_iload hx hb dL_law_23 (lv_at hl 0 rfl) ?_
    refine lv_aload_n hx hb dL_law_25 rfl (lv_at hl 4 rfl) ?_
    refine va_slen hx hb hX hbl hbA hS dL_law_26 ?_
    refine lv_bipush (v := 7) hx hb dL_law_27 (by decide) ?_
    refine lv_isub hx hb dL_law_29 ?_
    refine lv_icmp_gt (tgt := 2695) hx hb dL_law_30 (by decide) (fun c_10 => ?_) (fun c_10 => ?_)
    · exact W.widen (by omega) (by omega) (hend σ H locs ls hS)
    · have hi7 := law_i0 L hL9 iN (by omega) c_10
      have kk : ∀ (σ' : Sg) (H1 : Heap) (locs1 : List Loc) (ls1 : Array Slot), RR σ' → Wd D ca (Ab base) ad ρm Lm σ' H1 → va_S (Ab base) s.heap H1 locs1 → lv_has ls1 7 [(4, .int (nI iN)), (3, .ref (ad 90 0)), (2, .ref (ad 8 0)), (1, .ref (ad 7 0)), (0, .ref b)] → W p l e room_1 s m #[Value.ref b] below meth c H1 locs1 (cells + 40) (slots + 240) Q (F0 m 2689 ls1 []) := by
        intro σ' H1 locs1 ls1 hR1 hW1 hS1 hl1
        refine lv_iinc (v := nI (iN + 7)) (lv' := [(4, .int (nI (iN + 7))), (3, .ref (ad 90 0)), (2, .ref (ad 8 0)), (1, .ref (ad 7 0)), (0, .ref b)]) hx hb dL_law_2689 hl1 (k := 0) rfl (law_i7 iN) (by decide) rfl (fun ls hl => ?_)
        refine lv_goto (tgt := 23) hx hb dL_law_2692 (by decide) ?_
        exact ih (iN + 7) σ' H1 locs1 _ _ ls (by omega) (by omega) (by omega) (by omega) hR1 hW1 hS1 hl
      refine lv_aload_n hx hb dL_law_33 rfl (lv_at hl 4 rfl) ?_
      refine lv_iload hx hb dL_law_34 (lv_at hl 0 rfl) ?_
      refine va_sld hx hb hX hbl hbA hS (vp_in_nI (by omega) (by omega)) dL_law_36 ?_
      refine lv_bipush (v := 63) hx hb dL_law_37 (by decide) ?_
      refine lv_iand hx hb dL_law_39 ?_
      refine lv_topi (fun v hv => ?_)
      by_cases h0 : v.toInt < 0 ∨ 32 < v.toInt
      · refine lv_tableOut (tgt := 2689) hx hb dL_law_40 h0 (by decide) ?_
        exact W.widen (by omega) (by omega) (kk σ H locs ls hRR hW hS hl)
      · obtain ⟨k, hk⟩ : ∃ k : Nat, v.toInt = (k : Int) := ⟨v.toInt.toNat, by omega⟩
        have hk9 : k < 33 := by omega
        have hI := hRI σ hRR
        have h9 := hR k iN σ hk9 hRR
        have hlo : ¬ v.toInt < 0 := by omega
        have hhi : ¬ 32 < v.toInt := by omega
        by_cases e0 : k = 0
        · subst e0
          rw [g_law_e0] at h9
          exact lv_tableIn (off := 148) (tgt := 188) hx hb dL_law_40 hlo hhi (by rw [hk]; rfl) (by decide) (lc_0 hl9 RR hC hN hX hbl hbA hi7 hL9 (by omega) (by omega) hI h9 hW hS hl kk)
        by_cases e1 : k = 1
        · subst e1
          rw [g_law_e1] at h9
          exact lv_tableIn (off := 279) (tgt := 319) hx hb dL_law_40 hlo hhi (by rw [hk]; rfl) (by decide) (lc_1 hl9 RR hC hN hX hbl hbA hi7 hL9 (by omega) (by omega) hI h9 hW hS hl kk)
        by_cases e2 : k = 2
        · subst e2
          rw [g_law_e2] at h9
          exact lv_tableIn (off := 335) (tgt := 375) hx hb dL_law_40 hlo hhi (by rw [hk]; rfl) (by decide) (lc_2 hl9 RR hC hN hX hbl hbA hi7 hL9 (by omega) (by omega) hI h9 hW hS hl kk)
        by_cases e3 : k = 3
        · subst e3
          rw [g_law_e3] at h9
          exact lv_tableIn (off := 427) (tgt := 467) hx hb dL_law_40 hlo hhi (by rw [hk]; rfl) (by decide) (lc_3 hl9 RR hC hN hX hbl hbA hi7 hL9 (by omega) (by omega) hI h9 hW hS hl kk)
        by_cases e4 : k = 4
        · subst e4
          rw [g_law_e4] at h9
          exact lv_tableIn (off := 495) (tgt := 535) hx hb dL_law_40 hlo hhi (by rw [hk]; rfl) (by decide) (lc_4 hl9 RR hC hN hX hbl hbA hi7 hL9 (by omega) (by omega) hI h9 hW hS hl kk)
        by_cases e5 : k = 5
        · subst e5
          rw [g_law_e5] at h9
          exact lv_tableIn (off := 575) (tgt := 615) hx hb dL_law_40 hlo hhi (by rw [hk]; rfl) (by decide) (lc_5 hl9 RR hC hN hX hbl hbA hi7 hL9 (by omega) (by omega) hI h9 hW hS hl kk)
        by_cases e6 : k = 6
        · subst e6
          rw [g_law_e6] at h9
          exact lv_tableIn (off := 655) (tgt := 695) hx hb dL_law_40 hlo hhi (by rw [hk]; rfl) (by decide) (lc_6 hl9 RR hC hN hX hbl hbA hi7 hL9 (by omega) (by omega) hI h9 hW hS hl kk)
        by_cases e7 : k = 7
        · subst e7
          rw [g_law_e7] at h9
          exact lv_tableIn (off := 805) (tgt := 845) hx hb dL_law_40 hlo hhi (by rw [hk]; rfl) (by decide) (lc_7 hl9 RR hC hN hX hbl hbA hi7 hL9 (by omega) (by omega) hI h9 hW hS hl kk)
        by_cases e8 : k = 8
        · subst e8
          rw [g_law_e8] at h9
          exact lv_tableIn (off := 885) (tgt := 925) hx hb dL_law_40 hlo hhi (by rw [hk]; rfl) (by decide) (lc_8 hl9 RR hC hN hX hbl hbA hi7 hL9 (by omega) (by omega) hI h9 hW hS hl kk)
        by_cases e9 : k = 9
        · subst e9
          rw [g_law_e9] at h9
          exact lv_tableIn (off := 977) (tgt := 1017) hx hb dL_law_40 hlo hhi (by rw [hk]; rfl) (by decide) (lc_9 hl9 RR hC hN hX hbl hbA hi7 hL9 (by omega) (by omega) hI h9 hW hS hl kk)
        by_cases e10 : k = 10
        · subst e10
          rw [g_law_e10] at h9
          exact lv_tableIn (off := 1057) (tgt := 1097) hx hb dL_law_40 hlo hhi (by rw [hk]; rfl) (by decide) (lc_10 hl9 RR hC hN hX hbl hbA hi7 hL9 (by omega) (by omega) hI h9 hW hS hl kk)
        by_cases e11 : k = 11
        · subst e11
          rw [g_law_e11] at h9
          exact lv_tableIn (off := 1137) (tgt := 1177) hx hb dL_law_40 hlo hhi (by rw [hk]; rfl) (by decide) (lc_11 hl9 RR hC hN hX hbl hbA hi7 hL9 (by omega) (by omega) hI h9 hW hS hl kk)
        by_cases e12 : k = 12
        · subst e12
          rw [g_law_e12] at h9
          exact lv_tableIn (off := 1255) (tgt := 1295) hx hb dL_law_40 hlo hhi (by rw [hk]; rfl) (by decide) (lc_12 hl9 RR hC hN hX hbl hbA hi7 hL9 (by omega) (by omega) hI h9 hW hS hl kk)
        by_cases e13 : k = 13
        · subst e13
          rw [g_law_e13] at h9
          exact lv_tableIn (off := 1323) (tgt := 1363) hx hb dL_law_40 hlo hhi (by rw [hk]; rfl) (by decide) (lc_13 hl9 RR hC hN hX hbl hbA hi7 hL9 (by omega) (by omega) hI h9 hW hS hl kk)
        by_cases e14 : k = 14
        · subst e14
          rw [g_law_e14] at h9
          exact lv_tableIn (off := 1391) (tgt := 1431) hx hb dL_law_40 hlo hhi (by rw [hk]; rfl) (by decide) (lc_14 hl9 RR hC hN hX hbl hbA hi7 hL9 (by omega) (by omega) hI h9 hW hS hl kk)
        by_cases e15 : k = 15
        · subst e15
          rw [g_law_e15] at h9
          exact lv_tableIn (off := 1459) (tgt := 1499) hx hb dL_law_40 hlo hhi (by rw [hk]; rfl) (by decide) (lc_15 hl9 RR hC hN hX hbl hbA hi7 hL9 (by omega) (by omega) hI h9 hW hS hl kk)
        by_cases e16 : k = 16
        · subst e16
          rw [g_law_e16] at h9
          exact lv_tableIn (off := 1539) (tgt := 1579) hx hb dL_law_40 hlo hhi (by rw [hk]; rfl) (by decide) (lc_16 hl9 RR hC hN hX hbl hbA hi7 hL9 (by omega) (by omega) hI h9 hW hS hl kk)
        by_cases e17 : k = 17
        · subst e17
          rw [g_law_e17] at h9
          exact lv_tableIn (off := 1619) (tgt := 1659) hx hb dL_law_40 hlo hhi (by rw [hk]; rfl) (by decide) (lc_17 hl9 RR hC hN hX hbl hbA hi7 hL9 (by omega) (by omega) hI h9 hW hS hl kk)
        by_cases e18 : k = 18
        · subst e18
          rw [g_law_e18] at h9
          exact lv_tableIn (off := 1711) (tgt := 1751) hx hb dL_law_40 hlo hhi (by rw [hk]; rfl) (by decide) (lc_18 hl9 RR hC hN hX hbl hbA hi7 hL9 (by omega) (by omega) hI h9 hW hS hl kk)
        by_cases e19 : k = 19
        · subst e19
          rw [g_law_e19] at h9
          exact lv_tableIn (off := 1815) (tgt := 1855) hx hb dL_law_40 hlo hhi (by rw [hk]; rfl) (by decide) (lc_19 hl9 RR hC hN hX hbl hbA hi7 hL9 (by omega) (by omega) hI h9 hW hS hl kk)
        by_cases e20 : k = 20
        · subst e20
          rw [g_law_e20] at h9
          exact lv_tableIn (off := 1890) (tgt := 1930) hx hb dL_law_40 hlo hhi (by rw [hk]; rfl) (by decide) (lc_20 hl9 RR hC hN hX hbl hbA hi7 hL9 (by omega) (by omega) hI h9 hW hS hl kk)
        by_cases e21 : k = 21
        · subst e21
          rw [g_law_e21] at h9
          exact lv_tableIn (off := 1946) (tgt := 1986) hx hb dL_law_40 hlo hhi (by rw [hk]; rfl) (by decide) (lc_21 hl9 RR hC hN hX hbl hbA hi7 hL9 (by omega) (by omega) hI h9 hW hS hl kk)
        by_cases e22 : k = 22
        · subst e22
          rw [g_law_e22] at h9
          exact lv_tableIn (off := 1994) (tgt := 2034) hx hb dL_law_40 hlo hhi (by rw [hk]; rfl) (by decide) (lc_22 hl9 RR hC hN hX hbl hbA hi7 hL9 (by omega) (by omega) hI h9 hW hS hl kk)
        by_cases e23 : k = 23
        · subst e23
          rw [g_law_e23] at h9
          exact lv_tableIn (off := 2007) (tgt := 2047) hx hb dL_law_40 hlo hhi (by rw [hk]; rfl) (by decide) (lc_23 hl9 RR hC hN hX hbl hbA hi7 hL9 (by omega) (by omega) hI h9 hW hS hl kk)
        by_cases e24 : k = 24
        · subst e24
          rw [g_law_e24] at h9
          exact lv_tableIn (off := 2020) (tgt := 2060) hx hb dL_law_40 hlo hhi (by rw [hk]; rfl) (by decide) (lc_24 hl9 RR hC hN hX hbl hbA hi7 hL9 (by omega) (by omega) hI h9 hW hS hl kk)
        by_cases e25 : k = 25
        · subst e25
          rw [g_law_e25] at h9
          exact lv_tableIn (off := 2088) (tgt := 2128) hx hb dL_law_40 hlo hhi (by rw [hk]; rfl) (by decide) (lc_25 hl9 RR hC hN hX hbl hbA hi7 hL9 (by omega) (by omega) hI h9 hW hS hl kk)
        by_cases e26 : k = 26
        · subst e26
          rw [g_law_e26] at h9
          exact lv_tableIn (off := 2156) (tgt := 2196) hx hb dL_law_40 hlo hhi (by rw [hk]; rfl) (by decide) (lc_26 hl9 RR hC hN hX hbl hbA hi7 hL9 (by omega) (by omega) hI h9 hW hS hl kk)
        by_cases e27 : k = 27
        · subst e27
          rw [g_law_e27] at h9
          exact lv_tableIn (off := 2169) (tgt := 2209) hx hb dL_law_40 hlo hhi (by rw [hk]; rfl) (by decide) (lc_27 hl9 RR hC hN hX hbl hbA hi7 hL9 (by omega) (by omega) hI h9 hW hS hl kk)
        by_cases e28 : k = 28
        · subst e28
          rw [g_law_e28] at h9
          exact lv_tableIn (off := 2249) (tgt := 2289) hx hb dL_law_40 hlo hhi (by rw [hk]; rfl) (by decide) (lc_28 hl9 RR hC hN hX hbl hbA hi7 hL9 (by omega) (by omega) hI h9 hW hS hl kk)
        by_cases e29 : k = 29
        · subst e29
          rw [g_law_e29] at h9
          exact lv_tableIn (off := 2329) (tgt := 2369) hx hb dL_law_40 hlo hhi (by rw [hk]; rfl) (by decide) (lc_29 hl9 RR hC hN hX hbl hbA hi7 hL9 (by omega) (by omega) hI h9 hW hS hl kk)
        by_cases e30 : k = 30
        · subst e30
          rw [g_law_e30] at h9
          exact lv_tableIn (off := 2409) (tgt := 2449) hx hb dL_law_40 hlo hhi (by rw [hk]; rfl) (by decide) (lc_30 hl9 RR hC hN hX hbl hbA hi7 hL9 (by omega) (by omega) hI h9 hW hS hl kk)
        by_cases e31 : k = 31
        · subst e31
          rw [g_law_e31] at h9
          exact lv_tableIn (off := 2489) (tgt := 2529) hx hb dL_law_40 hlo hhi (by rw [hk]; rfl) (by decide) (lc_31 hl9 RR hC hN hX hbl hbA hi7 hL9 (by omega) (by omega) hI h9 hW hS hl kk)
        by_cases e32 : k = 32
        · subst e32
          rw [g_law_e32] at h9
          exact lv_tableIn (off := 2569) (tgt := 2609) hx hb dL_law_40 hlo hhi (by rw [hk]; rfl) (by decide) (lc_32 hl9 RR hC hN hX hbl hbA hi7 hL9 (by omega) (by omega) hI h9 hW hS hl kk)
        exact absurd hk9 (by omega)
