def f_X7_listRemovable_L5 (o : Nat) (r : Int32) : Nat → Nat → Int32 → Sg → Int32 × Sg
  | 0, _, v3_5, σ5 => (v3_5, σ5)
  | n5 + 1, k5, v3_5, σ5 => if 15 ≤ (nI k5) then (v3_5, σ5)
    else if (f_X5_holdsRight o (nI k5) r σ5) = 0 then f_X7_listRemovable_L5 o r n5 (k5 + 1) v3_5 σ5
    else f_X7_listRemovable_L5 o r n5 (k5 + 1) (v3_5 + 1) (us σ5 21 0 v3_5.toNatClampNeg (nI k5))
def f_X7_listRemovable (o : Nat) (r : Int32) (σ : Sg) : Int32 × Sg :=
  ((f_X7_listRemovable_L5 o r 16 0 0 σ).1, (f_X7_listRemovable_L5 o r 16 0 0 σ).2)
theorem lr_cnt_L {o : Nat} {r : Int32} : ∀ (n k : Nat) (v : Int32) (σ : Sg), k + n = 16 → k ≤ 15 → (∃ c0 : Nat, c0 ≤ k ∧ v = nI c0) → ∃ c0 : Nat, c0 ≤ 15 ∧ (f_X7_listRemovable_L5 o r n k v σ).1 = nI c0 := by
  intro n
  induction n with
  | zero => intro k v σ h1 h2; omega
  | succ n ih =>
    intro k v σ h1 h2 h3
    obtain ⟨c0, hc, hv⟩ := h3
    rw [f_X7_listRemovable_L5]
    split
    · exact ⟨c0, by omega, hv⟩
    · rename_i hk
      have hk2 : k < 15 := idx_lt hk (by decide) (by decide) (by omega)
      split
      · exact ih _ _ _ (by omega) (by omega) ⟨c0, by omega, hv⟩
      · exact ih _ _ _ (by omega) (by omega) ⟨c0 + 1, by omega, by rw [hv]; exact nI_1 c0⟩
theorem lr_cnt {o : Nat} {r : Int32} {σ : Sg} : ∃ c0 : Nat, c0 ≤ 15 ∧ (f_X7_listRemovable o r σ).1 = nI c0 := by
  unfold f_X7_listRemovable
  exact lr_cnt_L 16 0 0 σ (by decide) (by decide) ⟨0, by decide, rfl⟩
theorem shl_cnt {w : Int32} {k : Nat} (h : ∃ c0 : Nat, c0 ≤ 15 ∧ w = nI c0) (hk : k ≤ 32768) (c : ¬ (1 : Int32) <<< (w &&& 31) ≤ nI k) : k < 32768 := by
  obtain ⟨c0, h1, rfl⟩ := h
  have e : ∀ c0 : Nat, c0 ≤ 15 → (1 : Int32) <<< (nI c0 &&& 31) = nI (2 ^ c0) := by decide
  rw [e c0 h1] at c
  have h2 : 2 ^ c0 ≤ 2 ^ 15 := Nat.pow_le_pow_right (by decide) h1
  exact idx_lt4 c rfl h2 (by decide) hk
theorem cnt_lt {w : Int32} {k : Nat} (h : ∃ c0 : Nat, c0 ≤ 15 ∧ w = nI c0) (hk : k ≤ 15) (c : ¬ w ≤ nI k) : k < 15 := by
  obtain ⟨c0, h1, rfl⟩ := h
  exact idx_lt4 c rfl h1 (by decide) hk
set_option maxHeartbeats 4000000 in
set_option maxRecDepth 100000 in
theorem c_X7_listRemovable (l : Launch) (hl9 : l.stackTraces = false) (D : va_G) (ca : Nat → ClassId) (base : Nat) (ad : Adr) (σ : Sg) (o : Nat) (r : Int32) (ho : o < 13) : Mt l yX7_listRemovable cX7_listRemovable 5 (some .int) { frames := 2, cells := 0, slots := 0, locals := 44 } D ca base ad ρm Lm [.ref (ad 7 0), .ref (ad 5 o), .int r] σ (some (.int (f_X7_listRemovable o r σ).1)) (f_X7_listRemovable o r σ).2 := by
  refine w_ofW (by decide) (Nat.le_of_ble_eq_true rfl) rfl ?_
  intro p e s m args below meth c hC hW hS ls hl hin
  have hx := hC.1
  have hb := hC.2.1
  refine lv_iconst (v := 0) hx hb dX7_listRemovable_0 (by decide) ?_
  refine lv_istore_n (lv' := [(3, .int 0), (0, .ref (ad 7 0)), (1, .ref (ad 5 o)), (2, .int r)]) hx hb dX7_listRemovable_1 rfl hl (by decide) rfl (fun ls hl => ?_)
  refine lv_iconst (v := 0) hx hb dX7_listRemovable_2 (by decide) ?_
  refine lv_istore (lv' := [(4, .int 0), (3, .int 0), (0, .ref (ad 7 0)), (1, .ref (ad 5 o)), (2, .int r)]) hx hb dX7_listRemovable_3 hl (by decide) rfl (fun ls hl => ?_)
  have h_5 : ∀ (n5 k5 : Nat) (v3_5 : Int32) (σ5 : Sg) (H : Heap) (locs : List Loc) (ls : Array Slot), 16 ≤ k5 + n5 → k5 ≤ 15 → (∃ c0 : Nat, c0 ≤ k5 ∧ v3_5 = nI c0) → Wd D ca (Ab base) ad ρm Lm σ5 H → va_S (Ab base) s.heap H locs → lv_has ls 5 [(4, .int (nI k5)), (3, .int v3_5), (0, .ref (ad 7 0)), (1, .ref (ad 5 o)), (2, .int r)] → f_X7_listRemovable o r σ = (((f_X7_listRemovable_L5 o r n5 k5 v3_5 σ5).1, (f_X7_listRemovable_L5 o r n5 k5 v3_5 σ5).2)) → W p l e ({ frames := 2, cells := 0, slots := 0, locals := 44 } : Room) s m args below meth c H locs 0 0 (MQ below (Rt D ca base ad ρm Lm (f_X7_listRemovable o r σ).2 (some (.int (f_X7_listRemovable o r σ).1))) args s 0 0 (Ab base)) (F0 m 5 ls []) := by
    intro n5
    induction n5 with
    | zero =>
      intro k5 v3_5 σ5 H locs ls hk1_5 hk2_5 hv hW hS hl hO
      exact absurd hk1_5 (by omega)
    | succ n5 ih_5 =>
      intro k5 v3_5 σ5 H locs ls hk1_5 hk2_5 hv hW hS hl hO
      refine lv_iload hx hb dX7_listRemovable_5 (lv_at hl 0 rfl) ?_
      refine lv_aload_n hx hb dX7_listRemovable_7 rfl (lv_at hl 2 rfl) ?_
      refine gf_X7_58 hC hW m_7 rfl dX7_listRemovable_8 ?_
      refine w_alen hC hW m_21 0 (v := 15) rfl rfl rfl dX7_listRemovable_11 ?_
      refine lv_icmp_ge (tgt := 42) hx hb dX7_listRemovable_12 (by decide) (fun c_1 => ?_) (fun c_1 => ?_)
      · replace hl := lv_sub hl [1, 2, 3, 4] (l' := [(3, .int v3_5), (0, .ref (ad 7 0)), (1, .ref (ad 5 o)), (2, .int r)]) rfl
        refine lv_iload_n hx hb dX7_listRemovable_42 rfl (lv_at hl 0 rfl) ?_
        have hO : f_X7_listRemovable o r σ = (v3_5, σ5) := by rw [hO, f_X7_listRemovable_L5, if_pos c_1]
        exact w_iretS hC hW hS hO (Nat.le_of_ble_eq_true rfl) (Nat.le_of_ble_eq_true rfl) dX7_listRemovable_43
      · have hi_c_1 : k5 < 15 := idx_lt c_1 (by decide) (by decide) (by omega)
        refine lv_aload_n hx hb dX7_listRemovable_15 rfl (lv_at hl 3 rfl) ?_
        refine lv_iload hx hb dX7_listRemovable_16 (lv_at hl 0 rfl) ?_
        refine lv_iload_n hx hb dX7_listRemovable_18 rfl (lv_at hl 4 rfl) ?_
        refine w_callV (As := [.int (nI k5), .int r]) (rest := []) (st2 := .int (f_X5_holdsRight o (nI k5) r σ5) :: []) hC hW hS hl cv_X7_392 (mm_5 ho) (by decide) rfl (c_X5_holdsRight l hl9 D ca base ad σ5 o (nI k5) r ho) rfl rfl rfl ⟨Nat.le_of_ble_eq_true rfl, Nat.le_of_ble_eq_true rfl⟩ (Nat.le_of_ble_eq_true rfl) dX7_listRemovable_19 ⟨Nat.le_of_ble_eq_true rfl, Nat.le_of_ble_eq_true rfl⟩ (fun H locs hW hS => ?_)
        refine lv_if_eq (tgt := 36) hx hb dX7_listRemovable_22 (by decide) (fun c_2 => ?_) (fun c_2 => ?_)
        · refine lv_iinc (v := nI (k5 + 1)) (lv' := [(4, .int (nI (k5 + 1))), (3, .int v3_5), (0, .ref (ad 7 0)), (1, .ref (ad 5 o)), (2, .int r)]) hx hb dX7_listRemovable_36 hl (k := 0) rfl (nI_1 _) (by decide) rfl (fun ls hl => ?_)
          refine lv_goto (tgt := 5) hx hb dX7_listRemovable_39 (by decide) ?_
          refine ih_5 (k5 + 1) v3_5 σ5 _ _ _ (by omega) (by omega) (by obtain ⟨c0, h1, h2⟩ := hv; first | exact ⟨c0, by omega, h2⟩ | exact ⟨c0 + 1, by omega, by rw [h2]; exact nI_1 c0⟩) hW hS (lv_sub hl [0, 1, 2, 3, 4] rfl) ?_
          rw [hO, f_X7_listRemovable_L5, if_neg c_1, if_pos c_2]
        · refine lv_aload_n hx hb dX7_listRemovable_25 rfl (lv_at hl 2 rfl) ?_
          refine gf_X7_58 hC hW m_7 rfl dX7_listRemovable_26 ?_
          refine lv_iload_n hx hb dX7_listRemovable_29 rfl (lv_at hl 1 rfl) ?_
          refine lv_iload hx hb dX7_listRemovable_30 (lv_at hl 0 rfl) ?_
          refine w_iast hC hW hS m_21 (n := 15) (fun _ => rfl) (by obtain ⟨c0, h1, h2⟩ := hv; rw [h2]; exact vp_in_nI (by omega) (by decide)) dX7_listRemovable_32 (fun H locs hW hS => ?_)
          refine lv_iinc (v := v3_5 + 1) (lv' := [(3, .int (v3_5 + 1)), (4, .int (nI k5)), (0, .ref (ad 7 0)), (1, .ref (ad 5 o)), (2, .int r)]) hx hb dX7_listRemovable_33 hl (k := 1) rfl rfl (by decide) rfl (fun ls hl => ?_)
          refine lv_iinc (v := nI (k5 + 1)) (lv' := [(4, .int (nI (k5 + 1))), (3, .int (v3_5 + 1)), (0, .ref (ad 7 0)), (1, .ref (ad 5 o)), (2, .int r)]) hx hb dX7_listRemovable_36 hl (k := 1) rfl (nI_1 _) (by decide) rfl (fun ls hl => ?_)
          refine lv_goto (tgt := 5) hx hb dX7_listRemovable_39 (by decide) ?_
          refine ih_5 (k5 + 1) (v3_5 + 1) (us σ5 21 0 v3_5.toNatClampNeg (nI k5)) _ _ _ (by omega) (by omega) (by obtain ⟨c0, h1, h2⟩ := hv; first | exact ⟨c0, by omega, h2⟩ | exact ⟨c0 + 1, by omega, by rw [h2]; exact nI_1 c0⟩) hW hS (lv_sub hl [0, 1, 2, 3, 4] rfl) ?_
          rw [hO, f_X7_listRemovable_L5, if_neg c_1, if_neg c_2]
  refine h_5 16 0 0 σ _ _ _ (by omega) (by omega) ⟨0, Nat.le_refl _, rfl⟩ hW hS (lv_sub hl [0, 1, 2, 3, 4] rfl) ?_
  rw [f_X7_listRemovable]
theorem fr_f_X7_listRemovable_L5 {kk : Nat}  (o : Nat) (r : Int32) (h21 : kk ≠ 21) : ∀ (y0 : Nat) (y1 : Nat) (y2 : Int32) (σ : Sg), (f_X7_listRemovable_L5 o r y0 y1 y2 σ).2 kk = σ kk := by
  intro y0
  induction y0 with
  | zero => intros; rfl
  | succ n ih =>
    intros
    rw [f_X7_listRemovable_L5]
    repeat' split
    all_goals (first | (simp only [ih, us_kk, ne_eq, not_false_eq_true, h21]; done) | with_reducible rfl | (simp only [ih, us_kk, ne_eq, not_false_eq_true, h21]; with_reducible rfl))
theorem fr_X7_listRemovable {kk : Nat}  {o : Nat} {r : Int32} {σ : Sg} (h21 : kk ≠ 21) : (f_X7_listRemovable o r σ).2 kk = σ kk := by
  rw [f_X7_listRemovable]
  repeat' split
  all_goals (first | (simp only [us_kk, ne_eq, not_false_eq_true, h21, fr_f_X7_listRemovable_L5]; done) | with_reducible rfl | (simp only [us_kk, ne_eq, not_false_eq_true, h21, fr_f_X7_listRemovable_L5]; with_reducible rfl))
def f_J6_bitCount_0f7a4 (x : Int32) : Int32 :=
  (((((((x - (((x.toUInt32 >>> ((1 : Int32).toUInt32 &&& Int32.toUInt32 31)).toInt32) &&& (1431655765 : Int32))) &&& (858993459 : Int32)) + ((((x - (((x.toUInt32 >>> ((1 : Int32).toUInt32 &&& Int32.toUInt32 31)).toInt32) &&& (1431655765 : Int32))).toUInt32 >>> ((2 : Int32).toUInt32 &&& Int32.toUInt32 31)).toInt32) &&& (858993459 : Int32))) + (((((x - (((x.toUInt32 >>> ((1 : Int32).toUInt32 &&& Int32.toUInt32 31)).toInt32) &&& (1431655765 : Int32))) &&& (858993459 : Int32)) + ((((x - (((x.toUInt32 >>> ((1 : Int32).toUInt32 &&& Int32.toUInt32 31)).toInt32) &&& (1431655765 : Int32))).toUInt32 >>> ((2 : Int32).toUInt32 &&& Int32.toUInt32 31)).toInt32) &&& (858993459 : Int32))).toUInt32 >>> ((4 : Int32).toUInt32 &&& Int32.toUInt32 31)).toInt32)) &&& (252645135 : Int32)) + (((((((x - (((x.toUInt32 >>> ((1 : Int32).toUInt32 &&& Int32.toUInt32 31)).toInt32) &&& (1431655765 : Int32))) &&& (858993459 : Int32)) + ((((x - (((x.toUInt32 >>> ((1 : Int32).toUInt32 &&& Int32.toUInt32 31)).toInt32) &&& (1431655765 : Int32))).toUInt32 >>> ((2 : Int32).toUInt32 &&& Int32.toUInt32 31)).toInt32) &&& (858993459 : Int32))) + (((((x - (((x.toUInt32 >>> ((1 : Int32).toUInt32 &&& Int32.toUInt32 31)).toInt32) &&& (1431655765 : Int32))) &&& (858993459 : Int32)) + ((((x - (((x.toUInt32 >>> ((1 : Int32).toUInt32 &&& Int32.toUInt32 31)).toInt32) &&& (1431655765 : Int32))).toUInt32 >>> ((2 : Int32).toUInt32 &&& Int32.toUInt32 31)).toInt32) &&& (858993459 : Int32))).toUInt32 >>> ((4 : Int32).toUInt32 &&& Int32.toUInt32 31)).toInt32)) &&& (252645135 : Int32)).toUInt32 >>> ((8 : Int32).toUInt32 &&& Int32.toUInt32 31)).toInt32)) + ((((((((x - (((x.toUInt32 >>> ((1 : Int32).toUInt32 &&& Int32.toUInt32 31)).toInt32) &&& (1431655765 : Int32))) &&& (858993459 : Int32)) + ((((x - (((x.toUInt32 >>> ((1 : Int32).toUInt32 &&& Int32.toUInt32 31)).toInt32) &&& (1431655765 : Int32))).toUInt32 >>> ((2 : Int32).toUInt32 &&& Int32.toUInt32 31)).toInt32) &&& (858993459 : Int32))) + (((((x - (((x.toUInt32 >>> ((1 : Int32).toUInt32 &&& Int32.toUInt32 31)).toInt32) &&& (1431655765 : Int32))) &&& (858993459 : Int32)) + ((((x - (((x.toUInt32 >>> ((1 : Int32).toUInt32 &&& Int32.toUInt32 31)).toInt32) &&& (1431655765 : Int32))).toUInt32 >>> ((2 : Int32).toUInt32 &&& Int32.toUInt32 31)).toInt32) &&& (858993459 : Int32))).toUInt32 >>> ((4 : Int32).toUInt32 &&& Int32.toUInt32 31)).toInt32)) &&& (252645135 : Int32)) + (((((((x - (((x.toUInt32 >>> ((1 : Int32).toUInt32 &&& Int32.toUInt32 31)).toInt32) &&& (1431655765 : Int32))) &&& (858993459 : Int32)) + ((((x - (((x.toUInt32 >>> ((1 : Int32).toUInt32 &&& Int32.toUInt32 31)).toInt32) &&& (1431655765 : Int32))).toUInt32 >>> ((2 : Int32).toUInt32 &&& Int32.toUInt32 31)).toInt32) &&& (858993459 : Int32))) + (((((x - (((x.toUInt32 >>> ((1 : Int32).toUInt32 &&& Int32.toUInt32 31)).toInt32) &&& (1431655765 : Int32))) &&& (858993459 : Int32)) + ((((x - (((x.toUInt32 >>> ((1 : Int32).toUInt32 &&& Int32.toUInt32 31)).toInt32) &&& (1431655765 : Int32))).toUInt32 >>> ((2 : Int32).toUInt32 &&& Int32.toUInt32 31)).toInt32) &&& (858993459 : Int32))).toUInt32 >>> ((4 : Int32).toUInt32 &&& Int32.toUInt32 31)).toInt32)) &&& (252645135 : Int32)).toUInt32 >>> ((8 : Int32).toUInt32 &&& Int32.toUInt32 31)).toInt32)).toUInt32 >>> ((16 : Int32).toUInt32 &&& Int32.toUInt32 31)).toInt32)) &&& (63 : Int32)
set_option maxHeartbeats 4000000 in
set_option maxRecDepth 100000 in
theorem c_J6_bitCount_0f7a4 (l : Launch) (hl9 : l.stackTraces = false) (D : va_G) (ca : Nat → ClassId) (base : Nat) (ad : Adr) (σ : Sg) (x : Int32)  : Mt l yJ6_bitCount_0f7a4 cJ6_bitCount_0f7a4 1 (some .int) { frames := 0, cells := 0, slots := 0, locals := 0 } D ca base ad ρm Lm [.int x] σ (some (.int (f_J6_bitCount_0f7a4 x))) σ := by
  refine w_ofW (by decide) (Nat.le_of_ble_eq_true rfl) rfl ?_
  intro p e s m args below meth c hC hW hS ls hl hin
  have hx := hC.1
  have hb := hC.2.1
  refine lv_iload_n hx hb dJ6_bitCount_0f7a4_0 rfl (lv_at hl 0 rfl) ?_
  refine lv_iload_n hx hb dJ6_bitCount_0f7a4_1 rfl (lv_at hl 0 rfl) ?_
  refine lv_iconst (v := 1) hx hb dJ6_bitCount_0f7a4_2 (by decide) ?_
  refine lv_iushr hx hb dJ6_bitCount_0f7a4_3 rfl ?_
  refine lv_ldcw (v := 1431655765) hx hb hC.2.2.2.1 (hC.2.2.2.2.1 _ q_905) dJ6_bitCount_0f7a4_4 ?_
  refine lv_iand hx hb dJ6_bitCount_0f7a4_7 ?_
  refine lv_isub hx hb dJ6_bitCount_0f7a4_8 ?_
  refine lv_istore_n (lv' := [(0, .int (x - (((x.toUInt32 >>> ((1 : Int32).toUInt32 &&& Int32.toUInt32 31)).toInt32) &&& (1431655765 : Int32))))]) hx hb dJ6_bitCount_0f7a4_9 rfl hl (by decide) rfl (fun ls hl => ?_)
  refine lv_iload_n hx hb dJ6_bitCount_0f7a4_10 rfl (lv_at hl 0 rfl) ?_
  refine lv_ldcw (v := 858993459) hx hb hC.2.2.2.1 (hC.2.2.2.2.1 _ q_906) dJ6_bitCount_0f7a4_11 ?_
  refine lv_iand hx hb dJ6_bitCount_0f7a4_14 ?_
  refine lv_iload_n hx hb dJ6_bitCount_0f7a4_15 rfl (lv_at hl 0 rfl) ?_
  refine lv_iconst (v := 2) hx hb dJ6_bitCount_0f7a4_16 (by decide) ?_
  refine lv_iushr hx hb dJ6_bitCount_0f7a4_17 rfl ?_
  refine lv_ldcw (v := 858993459) hx hb hC.2.2.2.1 (hC.2.2.2.2.1 _ q_906) dJ6_bitCount_0f7a4_18 ?_
  refine lv_iand hx hb dJ6_bitCount_0f7a4_21 ?_
  refine lv_iadd hx hb dJ6_bitCount_0f7a4_22 ?_
  refine lv_istore_n (lv' := [(0, .int (((x - (((x.toUInt32 >>> ((1 : Int32).toUInt32 &&& Int32.toUInt32 31)).toInt32) &&& (1431655765 : Int32))) &&& (858993459 : Int32)) + ((((x - (((x.toUInt32 >>> ((1 : Int32).toUInt32 &&& Int32.toUInt32 31)).toInt32) &&& (1431655765 : Int32))).toUInt32 >>> ((2 : Int32).toUInt32 &&& Int32.toUInt32 31)).toInt32) &&& (858993459 : Int32))))]) hx hb dJ6_bitCount_0f7a4_23 rfl hl (by decide) rfl (fun ls hl => ?_)
  refine lv_iload_n hx hb dJ6_bitCount_0f7a4_24 rfl (lv_at hl 0 rfl) ?_
  refine lv_iload_n hx hb dJ6_bitCount_0f7a4_25 rfl (lv_at hl 0 rfl) ?_
  refine lv_iconst (v := 4) hx hb dJ6_bitCount_0f7a4_26 (by decide) ?_
  refine lv_iushr hx hb dJ6_bitCount_0f7a4_27 rfl ?_
  refine lv_iadd hx hb dJ6_bitCount_0f7a4_28 ?_
  refine lv_ldcw (v := 252645135) hx hb hC.2.2.2.1 (hC.2.2.2.2.1 _ q_907) dJ6_bitCount_0f7a4_29 ?_
  refine lv_iand hx hb dJ6_bitCount_0f7a4_32 ?_
  refine lv_istore_n (lv' := [(0, .int (((((x - (((x.toUInt32 >>> ((1 : Int32).toUInt32 &&& Int32.toUInt32 31)).toInt32) &&& (1431655765 : Int32))) &&& (858993459 : Int32)) + ((((x - (((x.toUInt32 >>> ((1 : Int32).toUInt32 &&& Int32.toUInt32 31)).toInt32) &&& (1431655765 : Int32))).toUInt32 >>> ((2 : Int32).toUInt32 &&& Int32.toUInt32 31)).toInt32) &&& (858993459 : Int32))) + (((((x - (((x.toUInt32 >>> ((1 : Int32).toUInt32 &&& Int32.toUInt32 31)).toInt32) &&& (1431655765 : Int32))) &&& (858993459 : Int32)) + ((((x - (((x.toUInt32 >>> ((1 : Int32).toUInt32 &&& Int32.toUInt32 31)).toInt32) &&& (1431655765 : Int32))).toUInt32 >>> ((2 : Int32).toUInt32 &&& Int32.toUInt32 31)).toInt32) &&& (858993459 : Int32))).toUInt32 >>> ((4 : Int32).toUInt32 &&& Int32.toUInt32 31)).toInt32)) &&& (252645135 : Int32)))]) hx hb dJ6_bitCount_0f7a4_33 rfl hl (by decide) rfl (fun ls hl => ?_)
  refine lv_iload_n hx hb dJ6_bitCount_0f7a4_34 rfl (lv_at hl 0 rfl) ?_
  refine lv_iload_n hx hb dJ6_bitCount_0f7a4_35 rfl (lv_at hl 0 rfl) ?_
  refine lv_bipush (v := 8) hx hb dJ6_bitCount_0f7a4_36 (by decide) ?_
  refine lv_iushr hx hb dJ6_bitCount_0f7a4_38 rfl ?_
  refine lv_iadd hx hb dJ6_bitCount_0f7a4_39 ?_
  refine lv_istore_n (lv' := [(0, .int ((((((x - (((x.toUInt32 >>> ((1 : Int32).toUInt32 &&& Int32.toUInt32 31)).toInt32) &&& (1431655765 : Int32))) &&& (858993459 : Int32)) + ((((x - (((x.toUInt32 >>> ((1 : Int32).toUInt32 &&& Int32.toUInt32 31)).toInt32) &&& (1431655765 : Int32))).toUInt32 >>> ((2 : Int32).toUInt32 &&& Int32.toUInt32 31)).toInt32) &&& (858993459 : Int32))) + (((((x - (((x.toUInt32 >>> ((1 : Int32).toUInt32 &&& Int32.toUInt32 31)).toInt32) &&& (1431655765 : Int32))) &&& (858993459 : Int32)) + ((((x - (((x.toUInt32 >>> ((1 : Int32).toUInt32 &&& Int32.toUInt32 31)).toInt32) &&& (1431655765 : Int32))).toUInt32 >>> ((2 : Int32).toUInt32 &&& Int32.toUInt32 31)).toInt32) &&& (858993459 : Int32))).toUInt32 >>> ((4 : Int32).toUInt32 &&& Int32.toUInt32 31)).toInt32)) &&& (252645135 : Int32)) + (((((((x - (((x.toUInt32 >>> ((1 : Int32).toUInt32 &&& Int32.toUInt32 31)).toInt32) &&& (1431655765 : Int32))) &&& (858993459 : Int32)) + ((((x - (((x.toUInt32 >>> ((1 : Int32).toUInt32 &&& Int32.toUInt32 31)).toInt32) &&& (1431655765 : Int32))).toUInt32 >>> ((2 : Int32).toUInt32 &&& Int32.toUInt32 31)).toInt32) &&& (858993459 : Int32))) + (((((x - (((x.toUInt32 >>> ((1 : Int32).toUInt32 &&& Int32.toUInt32 31)).toInt32) &&& (1431655765 : Int32))) &&& (858993459 : Int32)) + ((((x - (((x.toUInt32 >>> ((1 : Int32).toUInt32 &&& Int32.toUInt32 31)).toInt32) &&& (1431655765 : Int32))).toUInt32 >>> ((2 : Int32).toUInt32 &&& Int32.toUInt32 31)).toInt32) &&& (858993459 : Int32))).toUInt32 >>> ((4 : Int32).toUInt32 &&& Int32.toUInt32 31)).toInt32)) &&& (252645135 : Int32)).toUInt32 >>> ((8 : Int32).toUInt32 &&& Int32.toUInt32 31)).toInt32)))]) hx hb dJ6_bitCount_0f7a4_40 rfl hl (by decide) rfl (fun ls hl => ?_)
  refine lv_iload_n hx hb dJ6_bitCount_0f7a4_41 rfl (lv_at hl 0 rfl) ?_
  refine lv_iload_n hx hb dJ6_bitCount_0f7a4_42 rfl (lv_at hl 0 rfl) ?_
  refine lv_bipush (v := 16) hx hb dJ6_bitCount_0f7a4_43 (by decide) ?_
  refine lv_iushr hx hb dJ6_bitCount_0f7a4_45 rfl ?_
  refine lv_iadd hx hb dJ6_bitCount_0f7a4_46 ?_
  refine lv_istore_n (lv' := [(0, .int (((((((x - (((x.toUInt32 >>> ((1 : Int32).toUInt32 &&& Int32.toUInt32 31)).toInt32) &&& (1431655765 : Int32))) &&& (858993459 : Int32)) + ((((x - (((x.toUInt32 >>> ((1 : Int32).toUInt32 &&& Int32.toUInt32 31)).toInt32) &&& (1431655765 : Int32))).toUInt32 >>> ((2 : Int32).toUInt32 &&& Int32.toUInt32 31)).toInt32) &&& (858993459 : Int32))) + (((((x - (((x.toUInt32 >>> ((1 : Int32).toUInt32 &&& Int32.toUInt32 31)).toInt32) &&& (1431655765 : Int32))) &&& (858993459 : Int32)) + ((((x - (((x.toUInt32 >>> ((1 : Int32).toUInt32 &&& Int32.toUInt32 31)).toInt32) &&& (1431655765 : Int32))).toUInt32 >>> ((2 : Int32).toUInt32 &&& Int32.toUInt32 31)).toInt32) &&& (858993459 : Int32))).toUInt32 >>> ((4 : Int32).toUInt32 &&& Int32.toUInt32 31)).toInt32)) &&& (252645135 : Int32)) + (((((((x - (((x.toUInt32 >>> ((1 : Int32).toUInt32 &&& Int32.toUInt32 31)).toInt32) &&& (1431655765 : Int32))) &&& (858993459 : Int32)) + ((((x - (((x.toUInt32 >>> ((1 : Int32).toUInt32 &&& Int32.toUInt32 31)).toInt32) &&& (1431655765 : Int32))).toUInt32 >>> ((2 : Int32).toUInt32 &&& Int32.toUInt32 31)).toInt32) &&& (858993459 : Int32))) + (((((x - (((x.toUInt32 >>> ((1 : Int32).toUInt32 &&& Int32.toUInt32 31)).toInt32) &&& (1431655765 : Int32))) &&& (858993459 : Int32)) + ((((x - (((x.toUInt32 >>> ((1 : Int32).toUInt32 &&& Int32.toUInt32 31)).toInt32) &&& (1431655765 : Int32))).toUInt32 >>> ((2 : Int32).toUInt32 &&& Int32.toUInt32 31)).toInt32) &&& (858993459 : Int32))).toUInt32 >>> ((4 : Int32).toUInt32 &&& Int32.toUInt32 31)).toInt32)) &&& (252645135 : Int32)).toUInt32 >>> ((8 : Int32).toUInt32 &&& Int32.toUInt32 31)).toInt32)) + ((((((((x - (((x.toUInt32 >>> ((1 : Int32).toUInt32 &&& Int32.toUInt32 31)).toInt32) &&& (1431655765 : Int32))) &&& (858993459 : Int32)) + ((((x - (((x.toUInt32 >>> ((1 : Int32).toUInt32 &&& Int32.toUInt32 31)).toInt32) &&& (1431655765 : Int32))).toUInt32 >>> ((2 : Int32).toUInt32 &&& Int32.toUInt32 31)).toInt32) &&& (858993459 : Int32))) + (((((x - (((x.toUInt32 >>> ((1 : Int32).toUInt32 &&& Int32.toUInt32 31)).toInt32) &&& (1431655765 : Int32))) &&& (858993459 : Int32)) + ((((x - (((x.toUInt32 >>> ((1 : Int32).toUInt32 &&& Int32.toUInt32 31)).toInt32) &&& (1431655765 : Int32))).toUInt32 >>> ((2 : Int32).toUInt32 &&& Int32.toUInt32 31)).toInt32) &&& (858993459 : Int32))).toUInt32 >>> ((4 : Int32).toUInt32 &&& Int32.toUInt32 31)).toInt32)) &&& (252645135 : Int32)) + (((((((x - (((x.toUInt32 >>> ((1 : Int32).toUInt32 &&& Int32.toUInt32 31)).toInt32) &&& (1431655765 : Int32))) &&& (858993459 : Int32)) + ((((x - (((x.toUInt32 >>> ((1 : Int32).toUInt32 &&& Int32.toUInt32 31)).toInt32) &&& (1431655765 : Int32))).toUInt32 >>> ((2 : Int32).toUInt32 &&& Int32.toUInt32 31)).toInt32) &&& (858993459 : Int32))) + (((((x - (((x.toUInt32 >>> ((1 : Int32).toUInt32 &&& Int32.toUInt32 31)).toInt32) &&& (1431655765 : Int32))) &&& (858993459 : Int32)) + ((((x - (((x.toUInt32 >>> ((1 : Int32).toUInt32 &&& Int32.toUInt32 31)).toInt32) &&& (1431655765 : Int32))).toUInt32 >>> ((2 : Int32).toUInt32 &&& Int32.toUInt32 31)).toInt32) &&& (858993459 : Int32))).toUInt32 >>> ((4 : Int32).toUInt32 &&& Int32.toUInt32 31)).toInt32)) &&& (252645135 : Int32)).toUInt32 >>> ((8 : Int32).toUInt32 &&& Int32.toUInt32 31)).toInt32)).toUInt32 >>> ((16 : Int32).toUInt32 &&& Int32.toUInt32 31)).toInt32)))]) hx hb dJ6_bitCount_0f7a4_47 rfl hl (by decide) rfl (fun ls hl => ?_)
  refine lv_iload_n hx hb dJ6_bitCount_0f7a4_48 rfl (lv_at hl 0 rfl) ?_
  refine lv_bipush (v := 63) hx hb dJ6_bitCount_0f7a4_49 (by decide) ?_
  refine lv_iand hx hb dJ6_bitCount_0f7a4_51 ?_
  have hO : f_J6_bitCount_0f7a4 x = (((((((x - (((x.toUInt32 >>> ((1 : Int32).toUInt32 &&& Int32.toUInt32 31)).toInt32) &&& (1431655765 : Int32))) &&& (858993459 : Int32)) + ((((x - (((x.toUInt32 >>> ((1 : Int32).toUInt32 &&& Int32.toUInt32 31)).toInt32) &&& (1431655765 : Int32))).toUInt32 >>> ((2 : Int32).toUInt32 &&& Int32.toUInt32 31)).toInt32) &&& (858993459 : Int32))) + (((((x - (((x.toUInt32 >>> ((1 : Int32).toUInt32 &&& Int32.toUInt32 31)).toInt32) &&& (1431655765 : Int32))) &&& (858993459 : Int32)) + ((((x - (((x.toUInt32 >>> ((1 : Int32).toUInt32 &&& Int32.toUInt32 31)).toInt32) &&& (1431655765 : Int32))).toUInt32 >>> ((2 : Int32).toUInt32 &&& Int32.toUInt32 31)).toInt32) &&& (858993459 : Int32))).toUInt32 >>> ((4 : Int32).toUInt32 &&& Int32.toUInt32 31)).toInt32)) &&& (252645135 : Int32)) + (((((((x - (((x.toUInt32 >>> ((1 : Int32).toUInt32 &&& Int32.toUInt32 31)).toInt32) &&& (1431655765 : Int32))) &&& (858993459 : Int32)) + ((((x - (((x.toUInt32 >>> ((1 : Int32).toUInt32 &&& Int32.toUInt32 31)).toInt32) &&& (1431655765 : Int32))).toUInt32 >>> ((2 : Int32).toUInt32 &&& Int32.toUInt32 31)).toInt32) &&& (858993459 : Int32))) + (((((x - (((x.toUInt32 >>> ((1 : Int32).toUInt32 &&& Int32.toUInt32 31)).toInt32) &&& (1431655765 : Int32))) &&& (858993459 : Int32)) + ((((x - (((x.toUInt32 >>> ((1 : Int32).toUInt32 &&& Int32.toUInt32 31)).toInt32) &&& (1431655765 : Int32))).toUInt32 >>> ((2 : Int32).toUInt32 &&& Int32.toUInt32 31)).toInt32) &&& (858993459 : Int32))).toUInt32 >>> ((4 : Int32).toUInt32 &&& Int32.toUInt32 31)).toInt32)) &&& (252645135 : Int32)).toUInt32 >>> ((8 : Int32).toUInt32 &&& Int32.toUInt32 31)).toInt32)) + ((((((((x - (((x.toUInt32 >>> ((1 : Int32).toUInt32 &&& Int32.toUInt32 31)).toInt32) &&& (1431655765 : Int32))) &&& (858993459 : Int32)) + ((((x - (((x.toUInt32 >>> ((1 : Int32).toUInt32 &&& Int32.toUInt32 31)).toInt32) &&& (1431655765 : Int32))).toUInt32 >>> ((2 : Int32).toUInt32 &&& Int32.toUInt32 31)).toInt32) &&& (858993459 : Int32))) + (((((x - (((x.toUInt32 >>> ((1 : Int32).toUInt32 &&& Int32.toUInt32 31)).toInt32) &&& (1431655765 : Int32))) &&& (858993459 : Int32)) + ((((x - (((x.toUInt32 >>> ((1 : Int32).toUInt32 &&& Int32.toUInt32 31)).toInt32) &&& (1431655765 : Int32))).toUInt32 >>> ((2 : Int32).toUInt32 &&& Int32.toUInt32 31)).toInt32) &&& (858993459 : Int32))).toUInt32 >>> ((4 : Int32).toUInt32 &&& Int32.toUInt32 31)).toInt32)) &&& (252645135 : Int32)) + (((((((x - (((x.toUInt32 >>> ((1 : Int32).toUInt32 &&& Int32.toUInt32 31)).toInt32) &&& (1431655765 : Int32))) &&& (858993459 : Int32)) + ((((x - (((x.toUInt32 >>> ((1 : Int32).toUInt32 &&& Int32.toUInt32 31)).toInt32) &&& (1431655765 : Int32))).toUInt32 >>> ((2 : Int32).toUInt32 &&& Int32.toUInt32 31)).toInt32) &&& (858993459 : Int32))) + (((((x - (((x.toUInt32 >>> ((1 : Int32).toUInt32 &&& Int32.toUInt32 31)).toInt32) &&& (1431655765 : Int32))) &&& (858993459 : Int32)) + ((((x - (((x.toUInt32 >>> ((1 : Int32).toUInt32 &&& Int32.toUInt32 31)).toInt32) &&& (1431655765 : Int32))).toUInt32 >>> ((2 : Int32).toUInt32 &&& Int32.toUInt32 31)).toInt32) &&& (858993459 : Int32))).toUInt32 >>> ((4 : Int32).toUInt32 &&& Int32.toUInt32 31)).toInt32)) &&& (252645135 : Int32)).toUInt32 >>> ((8 : Int32).toUInt32 &&& Int32.toUInt32 31)).toInt32)).toUInt32 >>> ((16 : Int32).toUInt32 &&& Int32.toUInt32 31)).toInt32)) &&& (63 : Int32) := by rw [f_J6_bitCount_0f7a4]
  exact w_iretP hC hW hS hO (Nat.le_of_ble_eq_true rfl) (Nat.le_of_ble_eq_true rfl) dJ6_bitCount_0f7a4_52

def f_X7_smallestSet_L59 (o : Nat) (u : Int32) (r : Int32) (k25 : Nat) : Nat → Nat → Int32 → Sg → Sg
  | 0, _, _, σ59 => σ59
  | n59 + 1, k59, w5_59, σ59 => if w5_59 ≤ (nI k59) then σ59
    else if (((nI k25) >>> ((nI k59) &&& 31)) &&& (1 : Int32)) = 0 then f_X7_smallestSet_L59 o u r k25 n59 (k59 + 1) w5_59 σ59
    else f_X7_smallestSet_L59 o u r k25 n59 (k59 + 1) w5_59 (s_X5_takeRight 12 (σ59 21 0 k59) r σ59)
def f_X7_smallestSet_L25 (o : Nat) (u : Int32) (r : Int32) : Nat → Nat → Int32 → Int32 → Int32 → Sg → Int32 × Sg
  | 0, _, v6_25, _, _, σ25 => (v6_25, σ25)
  | n25 + 1, k25, v6_25, w5_25, w4_25, σ25 => if ((1 : Int32) <<< (w5_25 &&& 31)) ≤ (nI k25) then (v6_25, σ25)
    else if v6_25 ≤ (f_J6_bitCount_0f7a4 (nI k25)) then f_X7_smallestSet_L25 o u r n25 (k25 + 1) v6_25 w5_25 w4_25 σ25
    else if (f_X5_allowsAnew 12 u w4_25 r (f_X7_smallestSet_L59 o u r k25 16 0 w5_25 (s_X5_copyFrom 12 o σ25))) = 0 then f_X7_smallestSet_L25 o u r n25 (k25 + 1) (f_J6_bitCount_0f7a4 (nI k25)) w5_25 w4_25 (f_X7_smallestSet_L59 o u r k25 16 0 w5_25 (s_X5_copyFrom 12 o σ25))
  else f_X7_smallestSet_L25 o u r n25 (k25 + 1) v6_25 w5_25 w4_25 (f_X7_smallestSet_L59 o u r k25 16 0 w5_25 (s_X5_copyFrom 12 o σ25))
def f_X7_smallestSet (o : Nat) (u : Int32) (r : Int32) (σ : Sg) : Int32 × Sg :=
  ((f_X7_smallestSet_L25 o u r 32769 0 ((f_X7_listRemovable o r σ).1) ((f_X7_listRemovable o r σ).1) (f_X2_groupsFoundAnew u σ) ((f_X7_listRemovable o r σ).2)).1, (f_X7_smallestSet_L25 o u r 32769 0 ((f_X7_listRemovable o r σ).1) ((f_X7_listRemovable o r σ).1) (f_X2_groupsFoundAnew u σ) ((f_X7_listRemovable o r σ).2)).2)
set_option maxHeartbeats 4000000 in
set_option maxRecDepth 100000 in
theorem c_X7_smallestSet (l : Launch) (hl9 : l.stackTraces = false) (D : va_G) (ca : Nat → ClassId) (base : Nat) (ad : Adr) (σ : Sg) (o : Nat) (u : Int32) (r : Int32) (ho : o < 13) : Mt l yX7_smallestSet cX7_smallestSet 10 (some .int) { frames := 3, cells := 0, slots := 0, locals := 68 } D ca base ad ρm Lm [.ref (ad 7 0), .ref (ad 5 o), .int u, .int r] σ (some (.int (f_X7_smallestSet o u r σ).1)) (f_X7_smallestSet o u r σ).2 := by
  refine w_ofW (by decide) (Nat.le_of_ble_eq_true rfl) rfl ?_
  intro p e s m args below meth c hC hW hS ls hl hin
  have hx := hC.1
  have hb := hC.2.1
  refine lv_aload_n hx hb dX7_smallestSet_0 rfl (lv_at hl 0 rfl) ?_
  refine gf_X7_12 hC hW m_7 rfl dX7_smallestSet_1 ?_
  refine lv_iload_n hx hb dX7_smallestSet_4 rfl (lv_at hl 2 rfl) ?_
  refine w_callV (As := [.int u]) (rest := []) (st2 := .int (f_X2_groupsFoundAnew u σ) :: []) hC hW hS hl cv_X7_346 m_2 (by decide) rfl (c_X2_groupsFoundAnew l hl9 D ca base ad σ u ) rfl rfl rfl ⟨Nat.le_of_ble_eq_true rfl, Nat.le_of_ble_eq_true rfl⟩ (Nat.le_of_ble_eq_true rfl) dX7_smallestSet_5 ⟨Nat.le_of_ble_eq_true rfl, Nat.le_of_ble_eq_true rfl⟩ (fun H locs hW hS => ?_)
  refine lv_istore (lv' := [(4, .int (f_X2_groupsFoundAnew u σ)), (0, .ref (ad 7 0)), (1, .ref (ad 5 o)), (2, .int u), (3, .int r)]) hx hb dX7_smallestSet_8 hl (by decide) rfl (fun ls hl => ?_)
  refine lv_aload_n hx hb dX7_smallestSet_10 rfl (lv_at hl 1 rfl) ?_
  refine lv_aload_n hx hb dX7_smallestSet_11 rfl (lv_at hl 2 rfl) ?_
  refine lv_iload_n hx hb dX7_smallestSet_12 rfl (lv_at hl 4 rfl) ?_
  refine w_callV (As := [.ref (ad 5 o), .int r]) (rest := []) (st2 := .int ((f_X7_listRemovable o r σ).1) :: []) hC hW hS hl cv_X7_378 m_7 (by decide) rfl (c_X7_listRemovable l hl9 D ca base ad σ o r ho) rfl rfl rfl ⟨Nat.le_of_ble_eq_true rfl, Nat.le_of_ble_eq_true rfl⟩ (Nat.le_of_ble_eq_true rfl) dX7_smallestSet_13 ⟨Nat.le_of_ble_eq_true rfl, Nat.le_of_ble_eq_true rfl⟩ (fun H locs hW hS => ?_)
  refine lv_istore (lv' := [(5, .int ((f_X7_listRemovable o r σ).1)), (4, .int (f_X2_groupsFoundAnew u σ)), (0, .ref (ad 7 0)), (1, .ref (ad 5 o)), (2, .int u), (3, .int r)]) hx hb dX7_smallestSet_16 hl (by decide) rfl (fun ls hl => ?_)
  refine lv_iload hx hb dX7_smallestSet_18 (lv_at hl 0 rfl) ?_
  refine lv_istore (lv' := [(6, .int ((f_X7_listRemovable o r σ).1)), (5, .int ((f_X7_listRemovable o r σ).1)), (4, .int (f_X2_groupsFoundAnew u σ)), (0, .ref (ad 7 0)), (1, .ref (ad 5 o)), (2, .int u), (3, .int r)]) hx hb dX7_smallestSet_20 hl (by decide) rfl (fun ls hl => ?_)
  refine lv_iconst (v := 0) hx hb dX7_smallestSet_22 (by decide) ?_
  refine lv_istore (lv' := [(7, .int 0), (6, .int ((f_X7_listRemovable o r σ).1)), (5, .int ((f_X7_listRemovable o r σ).1)), (4, .int (f_X2_groupsFoundAnew u σ)), (0, .ref (ad 7 0)), (1, .ref (ad 5 o)), (2, .int u), (3, .int r)]) hx hb dX7_smallestSet_23 hl (by decide) rfl (fun ls hl => ?_)
  have h_25 : ∀ (n25 k25 : Nat) (v6_25 : Int32) (σ25 : Sg) (H : Heap) (locs : List Loc) (ls : Array Slot), 32769 ≤ k25 + n25 → k25 ≤ 32768 → Wd D ca (Ab base) ad ρm Lm σ25 H → va_S (Ab base) s.heap H locs → lv_has ls 10 [(7, .int (nI k25)), (6, .int v6_25), (5, .int ((f_X7_listRemovable o r σ).1)), (4, .int (f_X2_groupsFoundAnew u σ)), (0, .ref (ad 7 0)), (1, .ref (ad 5 o)), (2, .int u), (3, .int r)] → f_X7_smallestSet o u r σ = (((f_X7_smallestSet_L25 o u r n25 k25 v6_25 ((f_X7_listRemovable o r σ).1) (f_X2_groupsFoundAnew u σ) σ25).1, (f_X7_smallestSet_L25 o u r n25 k25 v6_25 ((f_X7_listRemovable o r σ).1) (f_X2_groupsFoundAnew u σ) σ25).2)) → W p l e ({ frames := 3, cells := 0, slots := 0, locals := 68 } : Room) s m args below meth c H locs 0 0 (MQ below (Rt D ca base ad ρm Lm (f_X7_smallestSet o u r σ).2 (some (.int (f_X7_smallestSet o u r σ).1))) args s 0 0 (Ab base)) (F0 m 25 ls []) := by
    intro n25
    induction n25 with
    | zero =>
      intro k25 v6_25 σ25 H locs ls hk1_25 hk2_25 hW hS hl hO
      exact absurd hk1_25 (by omega)
    | succ n25 ih_25 =>
      intro k25 v6_25 σ25 H locs ls hk1_25 hk2_25 hW hS hl hO
      refine lv_iload hx hb dX7_smallestSet_25 (lv_at hl 0 rfl) ?_
      refine lv_iconst (v := 1) hx hb dX7_smallestSet_27 (by decide) ?_
      refine lv_iload hx hb dX7_smallestSet_28 (lv_at hl 2 rfl) ?_
      refine lv_ishl hx hb dX7_smallestSet_30 ?_
      refine lv_icmp_ge (tgt := 121) hx hb dX7_smallestSet_31 (by decide) (fun c_1 => ?_) (fun c_1 => ?_)
      · replace hl := lv_sub hl [1, 2, 3, 4, 5, 6, 7] (l' := [(6, .int v6_25), (5, .int ((f_X7_listRemovable o r σ).1)), (4, .int (f_X2_groupsFoundAnew u σ)), (0, .ref (ad 7 0)), (1, .ref (ad 5 o)), (2, .int u), (3, .int r)]) rfl
        refine lv_iload hx hb dX7_smallestSet_121 (lv_at hl 0 rfl) ?_
        have hO : f_X7_smallestSet o u r σ = (v6_25, σ25) := by rw [hO, f_X7_smallestSet_L25, if_pos c_1]
        exact w_iretS hC hW hS hO (Nat.le_of_ble_eq_true rfl) (Nat.le_of_ble_eq_true rfl) dX7_smallestSet_123
      · have hi_c_1 : k25 < 32768 := shl_cnt lr_cnt (by omega) c_1
        refine lv_iload hx hb dX7_smallestSet_34 (lv_at hl 0 rfl) ?_
        refine w_callS (As := [.int (nI k25)]) (rest := []) (st2 := .int (f_J6_bitCount_0f7a4 (nI k25)) :: []) hC hW hS hl cs_X7_382 (c_J6_bitCount_0f7a4 l hl9 D ca base ad σ25 (nI k25) ) rfl rfl rfl ⟨Nat.le_of_ble_eq_true rfl, Nat.le_of_ble_eq_true rfl⟩ (Nat.le_of_ble_eq_true rfl) dX7_smallestSet_36 ⟨Nat.le_of_ble_eq_true rfl, Nat.le_of_ble_eq_true rfl⟩ (fun H locs hW hS => ?_)
        refine lv_istore (lv' := [(8, .int (f_J6_bitCount_0f7a4 (nI k25))), (7, .int (nI k25)), (6, .int v6_25), (5, .int ((f_X7_listRemovable o r σ).1)), (4, .int (f_X2_groupsFoundAnew u σ)), (0, .ref (ad 7 0)), (1, .ref (ad 5 o)), (2, .int u), (3, .int r)]) hx hb dX7_smallestSet_39 hl (by decide) rfl (fun ls hl => ?_)
        refine lv_iload hx hb dX7_smallestSet_41 (lv_at hl 0 rfl) ?_
        refine lv_iload hx hb dX7_smallestSet_43 (lv_at hl 2 rfl) ?_
        refine lv_icmp_ge (tgt := 115) hx hb dX7_smallestSet_45 (by decide) (fun c_2 => ?_) (fun c_2 => ?_)
        · refine lv_iinc (v := nI (k25 + 1)) (lv' := [(7, .int (nI (k25 + 1))), (8, .int (f_J6_bitCount_0f7a4 (nI k25))), (6, .int v6_25), (5, .int ((f_X7_listRemovable o r σ).1)), (4, .int (f_X2_groupsFoundAnew u σ)), (0, .ref (ad 7 0)), (1, .ref (ad 5 o)), (2, .int u), (3, .int r)]) hx hb dX7_smallestSet_115 hl (k := 1) rfl (nI_1 _) (by decide) rfl (fun ls hl => ?_)
          refine lv_goto (tgt := 25) hx hb dX7_smallestSet_118 (by decide) ?_
          refine ih_25 (k25 + 1) v6_25 σ25 _ _ _ (by omega) (by omega)  hW hS (lv_sub hl [0, 2, 3, 4, 5, 6, 7, 8] rfl) ?_
          rw [hO, f_X7_smallestSet_L25, if_neg c_1, if_pos c_2]
        · refine lv_aload_n hx hb dX7_smallestSet_48 rfl (lv_at hl 5 rfl) ?_
          refine gf_X7_54 hC hW m_7 rfl dX7_smallestSet_49 ?_
          refine lv_aload_n hx hb dX7_smallestSet_52 rfl (lv_at hl 6 rfl) ?_
          refine w_callV (As := [.ref (ad 5 o)]) (rest := []) (st2 := []) hC hW hS hl cv_X7_387 (mm_5 (by decide)) (by decide) rfl (c_X5_copyFrom l hl9 D ca base ad σ25 12 o (by decide) ho) rfl rfl rfl ⟨Nat.le_of_ble_eq_true rfl, Nat.le_of_ble_eq_true rfl⟩ (Nat.le_of_ble_eq_true rfl) dX7_smallestSet_53 ⟨Nat.le_of_ble_eq_true rfl, Nat.le_of_ble_eq_true rfl⟩ (fun H locs hW hS => ?_)
          refine lv_iconst (v := 0) hx hb dX7_smallestSet_56 (by decide) ?_
          refine lv_istore (lv' := [(9, .int 0), (8, .int (f_J6_bitCount_0f7a4 (nI k25))), (7, .int (nI k25)), (6, .int v6_25), (5, .int ((f_X7_listRemovable o r σ).1)), (4, .int (f_X2_groupsFoundAnew u σ)), (0, .ref (ad 7 0)), (1, .ref (ad 5 o)), (2, .int u), (3, .int r)]) hx hb dX7_smallestSet_57 hl (by decide) rfl (fun ls hl => ?_)
          have h_59 : ∀ (n59 k59 : Nat) (σ59 : Sg) (H : Heap) (locs : List Loc) (ls : Array Slot), 16 ≤ k59 + n59 → k59 ≤ 15 → Wd D ca (Ab base) ad ρm Lm σ59 H → va_S (Ab base) s.heap H locs → lv_has ls 10 [(9, .int (nI k59)), (8, .int (f_J6_bitCount_0f7a4 (nI k25))), (7, .int (nI k25)), (6, .int v6_25), (5, .int ((f_X7_listRemovable o r σ).1)), (4, .int (f_X2_groupsFoundAnew u σ)), (0, .ref (ad 7 0)), (1, .ref (ad 5 o)), (2, .int u), (3, .int r)] → f_X7_smallestSet o u r σ = (((if (f_X5_allowsAnew 12 u (f_X2_groupsFoundAnew u σ) r (f_X7_smallestSet_L59 o u r k25 n59 k59 ((f_X7_listRemovable o r σ).1) σ59)) = 0 then f_X7_smallestSet_L25 o u r n25 (k25 + 1) (f_J6_bitCount_0f7a4 (nI k25)) ((f_X7_listRemovable o r σ).1) (f_X2_groupsFoundAnew u σ) (f_X7_smallestSet_L59 o u r k25 n59 k59 ((f_X7_listRemovable o r σ).1) σ59)
  else f_X7_smallestSet_L25 o u r n25 (k25 + 1) v6_25 ((f_X7_listRemovable o r σ).1) (f_X2_groupsFoundAnew u σ) (f_X7_smallestSet_L59 o u r k25 n59 k59 ((f_X7_listRemovable o r σ).1) σ59)).1, (if (f_X5_allowsAnew 12 u (f_X2_groupsFoundAnew u σ) r (f_X7_smallestSet_L59 o u r k25 n59 k59 ((f_X7_listRemovable o r σ).1) σ59)) = 0 then f_X7_smallestSet_L25 o u r n25 (k25 + 1) (f_J6_bitCount_0f7a4 (nI k25)) ((f_X7_listRemovable o r σ).1) (f_X2_groupsFoundAnew u σ) (f_X7_smallestSet_L59 o u r k25 n59 k59 ((f_X7_listRemovable o r σ).1) σ59)
  else f_X7_smallestSet_L25 o u r n25 (k25 + 1) v6_25 ((f_X7_listRemovable o r σ).1) (f_X2_groupsFoundAnew u σ) (f_X7_smallestSet_L59 o u r k25 n59 k59 ((f_X7_listRemovable o r σ).1) σ59)).2)) → W p l e ({ frames := 3, cells := 0, slots := 0, locals := 68 } : Room) s m args below meth c H locs 0 0 (MQ below (Rt D ca base ad ρm Lm (f_X7_smallestSet o u r σ).2 (some (.int (f_X7_smallestSet o u r σ).1))) args s 0 0 (Ab base)) (F0 m 59 ls []) := by
            intro n59
            induction n59 with
            | zero =>
              intro k59 σ59 H locs ls hk1_59 hk2_59 hW hS hl hO
              exact absurd hk1_59 (by omega)
            | succ n59 ih_59 =>
              intro k59 σ59 H locs ls hk1_59 hk2_59 hW hS hl hO
              refine lv_iload hx hb dX7_smallestSet_59 (lv_at hl 0 rfl) ?_
              refine lv_iload hx hb dX7_smallestSet_61 (lv_at hl 4 rfl) ?_
              refine lv_icmp_ge (tgt := 97) hx hb dX7_smallestSet_63 (by decide) (fun c_3 => ?_) (fun c_3 => ?_)
              · replace hl := lv_sub hl [1, 2, 3, 4, 5, 6, 7, 8, 9] (l' := [(8, .int (f_J6_bitCount_0f7a4 (nI k25))), (7, .int (nI k25)), (6, .int v6_25), (5, .int ((f_X7_listRemovable o r σ).1)), (4, .int (f_X2_groupsFoundAnew u σ)), (0, .ref (ad 7 0)), (1, .ref (ad 5 o)), (2, .int u), (3, .int r)]) rfl
                refine lv_aload_n hx hb dX7_smallestSet_97 rfl (lv_at hl 5 rfl) ?_
                refine gf_X7_54 hC hW m_7 rfl dX7_smallestSet_98 ?_
                refine lv_iload_n hx hb dX7_smallestSet_101 rfl (lv_at hl 7 rfl) ?_
                refine lv_iload hx hb dX7_smallestSet_102 (lv_at hl 4 rfl) ?_
                refine lv_iload_n hx hb dX7_smallestSet_104 rfl (lv_at hl 8 rfl) ?_
                refine w_callV (As := [.int u, .int (f_X2_groupsFoundAnew u σ), .int r]) (rest := []) (st2 := .int (f_X5_allowsAnew 12 u (f_X2_groupsFoundAnew u σ) r σ59) :: []) hC hW hS hl cv_X7_349 (mm_5 (by decide)) (by decide) rfl (c_X5_allowsAnew l hl9 D ca base ad σ59 12 u (f_X2_groupsFoundAnew u σ) r (by decide)) rfl rfl rfl ⟨Nat.le_of_ble_eq_true rfl, Nat.le_of_ble_eq_true rfl⟩ (Nat.le_of_ble_eq_true rfl) dX7_smallestSet_105 ⟨Nat.le_of_ble_eq_true rfl, Nat.le_of_ble_eq_true rfl⟩ (fun H locs hW hS => ?_)
                refine lv_if_ne (tgt := 115) hx hb dX7_smallestSet_108 (by decide) (fun c_4 => ?_) (fun c_4 => ?_)
                · refine lv_iinc (v := nI (k25 + 1)) (lv' := [(7, .int (nI (k25 + 1))), (8, .int (f_J6_bitCount_0f7a4 (nI k25))), (6, .int v6_25), (5, .int ((f_X7_listRemovable o r σ).1)), (4, .int (f_X2_groupsFoundAnew u σ)), (0, .ref (ad 7 0)), (1, .ref (ad 5 o)), (2, .int u), (3, .int r)]) hx hb dX7_smallestSet_115 hl (k := 1) rfl (nI_1 _) (by decide) rfl (fun ls hl => ?_)
                  refine lv_goto (tgt := 25) hx hb dX7_smallestSet_118 (by decide) ?_
                  refine ih_25 (k25 + 1) v6_25 σ59 _ _ _ (by omega) (by omega)  hW hS (lv_sub hl [0, 2, 3, 4, 5, 6, 7, 8] rfl) ?_
                  rw [hO, f_X7_smallestSet_L59, if_pos c_3, if_neg c_4]
                · refine lv_iload hx hb dX7_smallestSet_111 (lv_at hl 0 rfl) ?_
                  refine lv_istore (lv' := [(6, .int (f_J6_bitCount_0f7a4 (nI k25))), (8, .int (f_J6_bitCount_0f7a4 (nI k25))), (7, .int (nI k25)), (5, .int ((f_X7_listRemovable o r σ).1)), (4, .int (f_X2_groupsFoundAnew u σ)), (0, .ref (ad 7 0)), (1, .ref (ad 5 o)), (2, .int u), (3, .int r)]) hx hb dX7_smallestSet_113 hl (by decide) rfl (fun ls hl => ?_)
                  refine lv_iinc (v := nI (k25 + 1)) (lv' := [(7, .int (nI (k25 + 1))), (6, .int (f_J6_bitCount_0f7a4 (nI k25))), (8, .int (f_J6_bitCount_0f7a4 (nI k25))), (5, .int ((f_X7_listRemovable o r σ).1)), (4, .int (f_X2_groupsFoundAnew u σ)), (0, .ref (ad 7 0)), (1, .ref (ad 5 o)), (2, .int u), (3, .int r)]) hx hb dX7_smallestSet_115 hl (k := 2) rfl (nI_1 _) (by decide) rfl (fun ls hl => ?_)
                  refine lv_goto (tgt := 25) hx hb dX7_smallestSet_118 (by decide) ?_
                  refine ih_25 (k25 + 1) (f_J6_bitCount_0f7a4 (nI k25)) σ59 _ _ _ (by omega) (by omega)  hW hS (lv_sub hl [0, 1, 3, 4, 5, 6, 7, 8] rfl) ?_
                  rw [hO, f_X7_smallestSet_L59, if_pos c_3, if_pos c_4]
              · have hi_c_3 : k59 < 15 := cnt_lt lr_cnt (by omega) c_3
                refine lv_iload hx hb dX7_smallestSet_66 (lv_at hl 2 rfl) ?_
                refine lv_iload hx hb dX7_smallestSet_68 (lv_at hl 0 rfl) ?_
                refine lv_ishr hx hb dX7_smallestSet_70 ?_
                refine lv_iconst (v := 1) hx hb dX7_smallestSet_71 (by decide) ?_
                refine lv_iand hx hb dX7_smallestSet_72 ?_
                refine lv_if_eq (tgt := 91) hx hb dX7_smallestSet_73 (by decide) (fun c_5 => ?_) (fun c_5 => ?_)
                · refine lv_iinc (v := nI (k59 + 1)) (lv' := [(9, .int (nI (k59 + 1))), (8, .int (f_J6_bitCount_0f7a4 (nI k25))), (7, .int (nI k25)), (6, .int v6_25), (5, .int ((f_X7_listRemovable o r σ).1)), (4, .int (f_X2_groupsFoundAnew u σ)), (0, .ref (ad 7 0)), (1, .ref (ad 5 o)), (2, .int u), (3, .int r)]) hx hb dX7_smallestSet_91 hl (k := 0) rfl (nI_1 _) (by decide) rfl (fun ls hl => ?_)
                  refine lv_goto (tgt := 59) hx hb dX7_smallestSet_94 (by decide) ?_
                  refine ih_59 (k59 + 1) σ59 _ _ _ (by omega) (by omega)  hW hS (lv_sub hl [0, 1, 2, 3, 4, 5, 6, 7, 8, 9] rfl) ?_
                  rw [hO, f_X7_smallestSet_L59, if_neg c_3, if_pos c_5]
                · refine lv_aload_n hx hb dX7_smallestSet_76 rfl (lv_at hl 6 rfl) ?_
                  refine gf_X7_54 hC hW m_7 rfl dX7_smallestSet_77 ?_
                  refine lv_aload_n hx hb dX7_smallestSet_80 rfl (lv_at hl 6 rfl) ?_
                  refine gf_X7_58 hC hW m_7 rfl dX7_smallestSet_81 ?_
                  refine lv_iload hx hb dX7_smallestSet_84 (lv_at hl 0 rfl) ?_
                  refine w_iald hC hW m_21 (n := 15) rfl (vp_in_nI (by omega) (by omega)) dX7_smallestSet_86 ?_
                  refine lv_eqi (y := σ59 21 0 k59) (by rw [nI_clamp (by omega)]) ?_
                  refine lv_iload_n hx hb dX7_smallestSet_87 rfl (lv_at hl 9 rfl) ?_
                  refine w_callV (As := [.int (σ59 21 0 k59), .int r]) (rest := []) (st2 := []) hC hW hS hl cv_X7_389 (mm_5 (by decide)) (by decide) rfl (c_X5_takeRight l hl9 D ca base ad σ59 12 (σ59 21 0 k59) r (by decide)) rfl rfl rfl ⟨Nat.le_of_ble_eq_true rfl, Nat.le_of_ble_eq_true rfl⟩ (Nat.le_of_ble_eq_true rfl) dX7_smallestSet_88 ⟨Nat.le_of_ble_eq_true rfl, Nat.le_of_ble_eq_true rfl⟩ (fun H locs hW hS => ?_)
                  refine lv_iinc (v := nI (k59 + 1)) (lv' := [(9, .int (nI (k59 + 1))), (8, .int (f_J6_bitCount_0f7a4 (nI k25))), (7, .int (nI k25)), (6, .int v6_25), (5, .int ((f_X7_listRemovable o r σ).1)), (4, .int (f_X2_groupsFoundAnew u σ)), (0, .ref (ad 7 0)), (1, .ref (ad 5 o)), (2, .int u), (3, .int r)]) hx hb dX7_smallestSet_91 hl (k := 0) rfl (nI_1 _) (by decide) rfl (fun ls hl => ?_)
                  refine lv_goto (tgt := 59) hx hb dX7_smallestSet_94 (by decide) ?_
                  refine ih_59 (k59 + 1) (s_X5_takeRight 12 (σ59 21 0 k59) r σ59) _ _ _ (by omega) (by omega)  hW hS (lv_sub hl [0, 1, 2, 3, 4, 5, 6, 7, 8, 9] rfl) ?_
                  rw [hO, f_X7_smallestSet_L59, if_neg c_3, if_neg c_5]
          refine h_59 16 0 (s_X5_copyFrom 12 o σ25) _ _ _ (by omega) (by omega)  hW hS (lv_sub hl [0, 1, 2, 3, 4, 5, 6, 7, 8, 9] rfl) ?_
          rw [hO, f_X7_smallestSet_L25, if_neg c_1, if_neg c_2]
  refine h_25 32769 0 ((f_X7_listRemovable o r σ).1) ((f_X7_listRemovable o r σ).2) _ _ _ (by omega) (by omega)  hW hS (lv_sub hl [0, 1, 2, 3, 4, 5, 6, 7] rfl) ?_
  rw [f_X7_smallestSet]
theorem fr_f_X7_smallestSet_L59 {kk : Nat}  (o : Nat) (u : Int32) (r : Int32) (k25 : Nat) (h5 : kk ≠ 5) (h20 : kk ≠ 20) (h21 : kk ≠ 21) : ∀ (y0 : Nat) (y1 : Nat) (y2 : Int32) (σ : Sg), (f_X7_smallestSet_L59 o u r k25 y0 y1 y2 σ) kk = σ kk := by
  intro y0
  induction y0 with
  | zero => intros; rfl
  | succ n ih =>
    intros
    rw [f_X7_smallestSet_L59]
    repeat' split
    all_goals (first | (simp only [ih, us_kk, ne_eq, not_false_eq_true, h5, h20, h21, fr_X7_listRemovable, fr_X5_copyFrom, fr_X5_takeRight]; done) | with_reducible rfl | (simp only [ih, us_kk, ne_eq, not_false_eq_true, h5, h20, h21, fr_X7_listRemovable, fr_X5_copyFrom, fr_X5_takeRight]; with_reducible rfl))
theorem fr_f_X7_smallestSet_L25 {kk : Nat}  (o : Nat) (u : Int32) (r : Int32) (h5 : kk ≠ 5) (h20 : kk ≠ 20) (h21 : kk ≠ 21) : ∀ (y0 : Nat) (y1 : Nat) (y2 : Int32) (y3 : Int32) (y4 : Int32) (σ : Sg), (f_X7_smallestSet_L25 o u r y0 y1 y2 y3 y4 σ).2 kk = σ kk := by
  intro y0
  induction y0 with
  | zero => intros; rfl
  | succ n ih =>
    intros
    rw [f_X7_smallestSet_L25]
    repeat' split
    all_goals (first | (simp only [ih, us_kk, ne_eq, not_false_eq_true, h5, h20, h21, fr_f_X7_smallestSet_L59, fr_X7_listRemovable, fr_X5_copyFrom, fr_X5_takeRight]; done) | with_reducible rfl | (simp only [ih, us_kk, ne_eq, not_false_eq_true, h5, h20, h21, fr_f_X7_smallestSet_L59, fr_X7_listRemovable, fr_X5_copyFrom, fr_X5_takeRight]; with_reducible rfl))
theorem fr_X7_smallestSet {kk : Nat}  {o : Nat} {u : Int32} {r : Int32} {σ : Sg} (h5 : kk ≠ 5) (h20 : kk ≠ 20) (h21 : kk ≠ 21) : (f_X7_smallestSet o u r σ).2 kk = σ kk := by
  rw [f_X7_smallestSet]
  repeat' split
  all_goals (first | (simp only [us_kk, ne_eq, not_false_eq_true, h5, h20, h21, fr_f_X7_smallestSet_L59, fr_f_X7_smallestSet_L25, fr_X7_listRemovable, fr_X5_copyFrom, fr_X5_takeRight]; done) | with_reducible rfl | (simp only [us_kk, ne_eq, not_false_eq_true, h5, h20, h21, fr_f_X7_smallestSet_L59, fr_f_X7_smallestSet_L25, fr_X7_listRemovable, fr_X5_copyFrom, fr_X5_takeRight]; with_reducible rfl))
