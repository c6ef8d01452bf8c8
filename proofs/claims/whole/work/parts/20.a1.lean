def f_X0_isFine (i : Nat) (r : Int32) (σ : Sg) : Int32 :=
  if ((σ 0 i 4) &&& r) = 0 then 0
  else 1
set_option maxHeartbeats 4000000 in
set_option maxRecDepth 100000 in
theorem c_X0_isFine (l : Launch) (hl9 : l.stackTraces = false) (D : va_G) (ca : Nat → ClassId) (base : Nat) (ad : Adr) (σ : Sg) (i : Nat) (r : Int32) (hi : i < 12) : Mt l yX0_isFine cX0_isFine 2 (some .boolean) { frames := 0, cells := 0, slots := 0, locals := 0 } D ca base ad ρm Lm [.ref (ad 0 i), .int r] σ (some (.int (f_X0_isFine i r σ))) σ := by
  refine w_ofW (by decide) (Nat.le_of_ble_eq_true rfl) rfl ?_
  intro p e s m args below meth c hC hW hS ls hl hin
  have hx := hC.1
  have hb := hC.2.1
  refine lv_aload_n hx hb dX0_isFine_0 rfl (lv_at hl 0 rfl) ?_
  refine gf_X0_19 hC hW (mm_0 hi) dX0_isFine_1 ?_
  refine lv_iload_n hx hb dX0_isFine_4 rfl (lv_at hl 1 rfl) ?_
  refine lv_iand hx hb dX0_isFine_5 ?_
  refine lv_if_eq (tgt := 13) hx hb dX0_isFine_6 (by decide) (fun c_1 => ?_) (fun c_1 => ?_)
  · refine lv_iconst (v := 0) hx hb dX0_isFine_13 (by decide) ?_
    have hO : f_X0_isFine i r σ = 0 := by rw [f_X0_isFine, if_pos c_1]
    exact w_zretP hC hW hS (by decide) hO (Nat.le_of_ble_eq_true rfl) (Nat.le_of_ble_eq_true rfl) dX0_isFine_14
  · refine lv_iconst (v := 1) hx hb dX0_isFine_9 (by decide) ?_
    refine lv_goto (tgt := 14) hx hb dX0_isFine_10 (by decide) ?_
    have hO : f_X0_isFine i r σ = 1 := by rw [f_X0_isFine, if_neg c_1]
    exact w_zretP hC hW hS (by decide) hO (Nat.le_of_ble_eq_true rfl) (Nat.le_of_ble_eq_true rfl) dX0_isFine_14
theorem bb_X0_isFine {i : Nat} {r : Int32} {σ : Sg} : f_X0_isFine i r σ &&& 1 = f_X0_isFine i r σ := by
  rw [f_X0_isFine]
  repeat' split
  all_goals first | decide

def s_X0_addFilter (i : Nat) (r : Int32) (σ : Sg) : Sg :=
  if (σ 0 i 6) < 0 then σ
  else if 3 ≤ (σ 0 i 6) then σ
  else us (us (us σ 10 i ((σ 0 i 6).toNatClampNeg) r) 0 i 6 ((σ 0 i 6) + (1 : Int32))) 0 i 7 ((σ 0 i 7) &&& r)
set_option maxHeartbeats 4000000 in
set_option maxRecDepth 100000 in
theorem c_X0_addFilter (l : Launch) (hl9 : l.stackTraces = false) (D : va_G) (ca : Nat → ClassId) (base : Nat) (ad : Adr) (σ : Sg) (i : Nat) (r : Int32) (hi : i < 12) : Mt l yX0_addFilter cX0_addFilter 2 none { frames := 0, cells := 0, slots := 0, locals := 0 } D ca base ad ρm Lm [.ref (ad 0 i), .int r] σ none (s_X0_addFilter i r σ) := by
  refine w_ofW (by decide) (Nat.le_of_ble_eq_true rfl) rfl ?_
  intro p e s m args below meth c hC hW hS ls hl hin
  have hx := hC.1
  have hb := hC.2.1
  refine lv_aload_n hx hb dX0_addFilter_0 rfl (lv_at hl 0 rfl) ?_
  refine gf_X0_22 hC hW (mm_0 hi) dX0_addFilter_1 ?_
  refine lv_if_lt (tgt := 45) hx hb dX0_addFilter_4 (by decide) (fun c_1 => ?_) (fun c_1 => ?_)
  · have hO : s_X0_addFilter i r σ = σ := by rw [s_X0_addFilter, if_pos c_1]
    exact w_vretV hC hW hS hO (Nat.le_of_ble_eq_true rfl) (Nat.le_of_ble_eq_true rfl) dX0_addFilter_45
  · refine lv_aload_n hx hb dX0_addFilter_7 rfl (lv_at hl 0 rfl) ?_
    refine gf_X0_22 hC hW (mm_0 hi) dX0_addFilter_8 ?_
    refine lv_iconst (v := 3) hx hb dX0_addFilter_11 (by decide) ?_
    refine lv_icmp_ge (tgt := 45) hx hb dX0_addFilter_12 (by decide) (fun c_2 => ?_) (fun c_2 => ?_)
    · have hO : s_X0_addFilter i r σ = σ := by rw [s_X0_addFilter, if_neg c_1, if_pos c_2]
      exact w_vretV hC hW hS hO (Nat.le_of_ble_eq_true rfl) (Nat.le_of_ble_eq_true rfl) dX0_addFilter_45
    · refine lv_aload_n hx hb dX0_addFilter_15 rfl (lv_at hl 0 rfl) ?_
      refine gf_X0_15 hC hW (mm_0 hi) rfl dX0_addFilter_16 ?_
      refine lv_aload_n hx hb dX0_addFilter_19 rfl (lv_at hl 0 rfl) ?_
      refine gf_X0_22 hC hW (mm_0 hi) dX0_addFilter_20 ?_
      refine lv_iload_n hx hb dX0_addFilter_23 rfl (lv_at hl 1 rfl) ?_
      refine w_iast hC hW hS (mm_10 hi) (n := 3) (fun _ => rfl) (by first | assumption | exact vp_in_c (y := 3) (by decide) (by decide) (by assumption) (by assumption) | exact vp_in_d (y := 3) (by decide) (by decide) (by assumption) (by assumption)) dX0_addFilter_24 (fun H locs hW hS => ?_)
      refine lv_aload_n hx hb dX0_addFilter_25 rfl (lv_at hl 0 rfl) ?_
      refine lv_dup hx hb dX0_addFilter_26 rfl ?_
      refine gf_X0_22 hC hW (mm_0 hi) dX0_addFilter_27 ?_
      refine lv_eqi (y := σ 0 i 6) (by rw [us_k (by decide)]) ?_
      refine lv_iconst (v := 1) hx hb dX0_addFilter_30 (by decide) ?_
      refine lv_iadd hx hb dX0_addFilter_31 ?_
      refine pf_X0_22 hC hW (mm_0 hi) hS dX0_addFilter_32 (fun H locs hW hS => ?_)
      refine lv_aload_n hx hb dX0_addFilter_35 rfl (lv_at hl 0 rfl) ?_
      refine lv_dup hx hb dX0_addFilter_36 rfl ?_
      refine gf_X0_9 hC hW (mm_0 hi) dX0_addFilter_37 ?_
      refine lv_eqi (y := σ 0 i 7) (by rw [us_j (by decide), us_k (by decide)]) ?_
      refine lv_iload_n hx hb dX0_addFilter_40 rfl (lv_at hl 1 rfl) ?_
      refine lv_iand hx hb dX0_addFilter_41 ?_
      refine pf_X0_9 hC hW (mm_0 hi) hS dX0_addFilter_42 (fun H locs hW hS => ?_)
      have hO : s_X0_addFilter i r σ = us (us (us σ 10 i ((σ 0 i 6).toNatClampNeg) r) 0 i 6 ((σ 0 i 6) + (1 : Int32))) 0 i 7 ((σ 0 i 7) &&& r) := by rw [s_X0_addFilter, if_neg c_1, if_neg c_2]
      exact w_vretV hC hW hS hO (Nat.le_of_ble_eq_true rfl) (Nat.le_of_ble_eq_true rfl) dX0_addFilter_45
theorem fr_X0_addFilter {kk : Nat}  {i : Nat} {r : Int32} {σ : Sg} (h0 : kk ≠ 0) (h10 : kk ≠ 10) : (s_X0_addFilter i r σ) kk = σ kk := by
  rw [s_X0_addFilter]
  repeat' split
  all_goals (first | (simp only [us_kk, ne_eq, not_false_eq_true, h0, h10]; done) | with_reducible rfl | (simp only [us_kk, ne_eq, not_false_eq_true, h0, h10]; with_reducible rfl))

def f_X0_letPassAnew_L5 (i : Nat) : Nat → Nat → Int32 → Sg → Int32
  | 0, _, v1_5, _ => v1_5
  | n5 + 1, k5, v1_5, σ => if 3 ≤ (nI k5) then v1_5
    else if (σ 0 i 6) ≤ (nI k5) then v1_5
    else f_X0_letPassAnew_L5 i n5 (k5 + 1) (v1_5 &&& (σ 10 i k5)) σ
def f_X0_letPassAnew (i : Nat) (σ : Sg) : Int32 :=
  (f_X0_letPassAnew_L5 i 4 0 7 σ)
set_option maxHeartbeats 4000000 in
set_option maxRecDepth 100000 in
theorem c_X0_letPassAnew (l : Launch) (hl9 : l.stackTraces = false) (D : va_G) (ca : Nat → ClassId) (base : Nat) (ad : Adr) (σ : Sg) (i : Nat) (hi : i < 12) : Mt l yX0_letPassAnew cX0_letPassAnew 3 (some .int) { frames := 0, cells := 0, slots := 0, locals := 0 } D ca base ad ρm Lm [.ref (ad 0 i)] σ (some (.int (f_X0_letPassAnew i σ))) σ := by
  refine w_ofW (by decide) (Nat.le_of_ble_eq_true rfl) rfl ?_
  intro p e s m args below meth c hC hW hS ls hl hin
  have hx := hC.1
  have hb := hC.2.1
  refine lv_bipush (v := 7) hx hb dX0_letPassAnew_0 (by decide) ?_
  refine lv_istore_n (lv' := [(1, .int 7), (0, .ref (ad 0 i))]) hx hb dX0_letPassAnew_2 rfl hl (by decide) rfl (fun ls hl => ?_)
  refine lv_iconst (v := 0) hx hb dX0_letPassAnew_3 (by decide) ?_
  refine lv_istore_n (lv' := [(2, .int 0), (1, .int 7), (0, .ref (ad 0 i))]) hx hb dX0_letPassAnew_4 rfl hl (by decide) rfl (fun ls hl => ?_)
  have h_5 : ∀ (n5 k5 : Nat) (v1_5 : Int32) (H : Heap) (locs : List Loc) (ls : Array Slot), 4 ≤ k5 + n5 → k5 ≤ 3 → Wd D ca (Ab base) ad ρm Lm σ H → va_S (Ab base) s.heap H locs → lv_has ls 3 [(2, .int (nI k5)), (1, .int v1_5), (0, .ref (ad 0 i))] → f_X0_letPassAnew i σ = ((f_X0_letPassAnew_L5 i n5 k5 v1_5 σ)) → W p l e ({ frames := 0, cells := 0, slots := 0, locals := 0 } : Room) s m args below meth c H locs 0 0 (MQ below (Rt D ca base ad ρm Lm σ (some (.int (f_X0_letPassAnew i σ)))) args s 0 0 (Ab base)) (F0 m 5 ls []) := by
    intro n5
    induction n5 with
    | zero =>
      intro k5 v1_5 H locs ls hk1_5 hk2_5 hW hS hl hO
      exact absurd hk1_5 (by omega)
    | succ n5 ih_5 =>
      intro k5 v1_5 H locs ls hk1_5 hk2_5 hW hS hl hO
      refine lv_iload_n hx hb dX0_letPassAnew_5 rfl (lv_at hl 0 rfl) ?_
      refine lv_iconst (v := 3) hx hb dX0_letPassAnew_6 (by decide) ?_
      refine lv_icmp_ge (tgt := 33) hx hb dX0_letPassAnew_7 (by decide) (fun c_1 => ?_) (fun c_1 => ?_)
      · replace hl := lv_sub hl [1, 2] (l' := [(1, .int v1_5), (0, .ref (ad 0 i))]) rfl
        refine lv_iload_n hx hb dX0_letPassAnew_33 rfl (lv_at hl 0 rfl) ?_
        have hO : f_X0_letPassAnew i σ = v1_5 := by rw [hO, f_X0_letPassAnew_L5, if_pos c_1]
        exact w_iretP hC hW hS hO (Nat.le_of_ble_eq_true rfl) (Nat.le_of_ble_eq_true rfl) dX0_letPassAnew_34
      · have hi_c_1 : k5 < 3 := idx_lt c_1 (by decide) (by decide) (by omega)
        refine lv_iload_n hx hb dX0_letPassAnew_10 rfl (lv_at hl 0 rfl) ?_
        refine lv_aload_n hx hb dX0_letPassAnew_11 rfl (lv_at hl 2 rfl) ?_
        refine gf_X0_22 hC hW (mm_0 hi) dX0_letPassAnew_12 ?_
        refine lv_icmp_ge (tgt := 33) hx hb dX0_letPassAnew_15 (by decide) (fun c_2 => ?_) (fun c_2 => ?_)
        · replace hl := lv_sub hl [1, 2] (l' := [(1, .int v1_5), (0, .ref (ad 0 i))]) rfl
          refine lv_iload_n hx hb dX0_letPassAnew_33 rfl (lv_at hl 0 rfl) ?_
          have hO : f_X0_letPassAnew i σ = v1_5 := by rw [hO, f_X0_letPassAnew_L5, if_neg c_1, if_pos c_2]
          exact w_iretP hC hW hS hO (Nat.le_of_ble_eq_true rfl) (Nat.le_of_ble_eq_true rfl) dX0_letPassAnew_34
        · refine lv_iload_n hx hb dX0_letPassAnew_18 rfl (lv_at hl 1 rfl) ?_
          refine lv_aload_n hx hb dX0_letPassAnew_19 rfl (lv_at hl 2 rfl) ?_
          refine gf_X0_15 hC hW (mm_0 hi) rfl dX0_letPassAnew_20 ?_
          refine lv_iload_n hx hb dX0_letPassAnew_23 rfl (lv_at hl 0 rfl) ?_
          refine w_iald hC hW (mm_10 hi) (n := 3) rfl (vp_in_nI (by omega) (by omega)) dX0_letPassAnew_24 ?_
          refine lv_eqi (y := σ 10 i k5) (by rw [nI_clamp (by omega)]) ?_
          refine lv_iand hx hb dX0_letPassAnew_25 ?_
          refine lv_istore_n (lv' := [(1, .int (v1_5 &&& (σ 10 i k5))), (2, .int (nI k5)), (0, .ref (ad 0 i))]) hx hb dX0_letPassAnew_26 rfl hl (by decide) rfl (fun ls hl => ?_)
          refine lv_iinc (v := nI (k5 + 1)) (lv' := [(2, .int (nI (k5 + 1))), (1, .int (v1_5 &&& (σ 10 i k5))), (0, .ref (ad 0 i))]) hx hb dX0_letPassAnew_27 hl (k := 1) rfl (nI_1 _) (by decide) rfl (fun ls hl => ?_)
          refine lv_goto (tgt := 5) hx hb dX0_letPassAnew_30 (by decide) ?_
          refine ih_5 (k5 + 1) (v1_5 &&& (σ 10 i k5)) _ _ _ (by omega) (by omega)  hW hS (lv_sub hl [0, 1, 2] rfl) ?_
          rw [hO, f_X0_letPassAnew_L5, if_neg c_1, if_neg c_2]
  refine h_5 4 0 7 _ _ _ (by omega) (by omega)  hW hS (lv_sub hl [0, 1, 2] rfl) ?_
  rw [f_X0_letPassAnew]

def s_X0_copyFrom_L66 (i : Nat) (o : Nat) : Nat → Nat → Sg → Sg
  | 0, _, σ66 => σ66
  | n66 + 1, k66, σ66 => if 3 ≤ (nI k66) then σ66
    else s_X0_copyFrom_L66 i o n66 (k66 + 1) (us σ66 10 i k66 (σ66 10 o k66))
def s_X0_copyFrom (i : Nat) (o : Nat) (σ : Sg) : Sg :=
  (s_X0_copyFrom_L66 i o 4 0 (us (us (us (us (us (us (us (us σ 0 i 0 (σ 0 o 0)) 0 i 1 (σ 0 o 1)) 0 i 2 (σ 0 o 2)) 0 i 3 (σ 0 o 3)) 0 i 4 (σ 0 o 4)) 0 i 5 (σ 0 o 5)) 0 i 6 (σ 0 o 6)) 0 i 7 (σ 0 o 7)))
set_option maxHeartbeats 4000000 in
set_option maxRecDepth 100000 in
theorem c_X0_copyFrom (l : Launch) (hl9 : l.stackTraces = false) (D : va_G) (ca : Nat → ClassId) (base : Nat) (ad : Adr) (σ : Sg) (i : Nat) (o : Nat) (hi : i < 12) (ho : o < 12) : Mt l yX0_copyFrom cX0_copyFrom 3 none { frames := 0, cells := 0, slots := 0, locals := 0 } D ca base ad ρm Lm [.ref (ad 0 i), .ref (ad 0 o)] σ none (s_X0_copyFrom i o σ) := by
  refine w_ofW (by decide) (Nat.le_of_ble_eq_true rfl) rfl ?_
  intro p e s m args below meth c hC hW hS ls hl hin
  have hx := hC.1
  have hb := hC.2.1
  refine lv_aload_n hx hb dX0_copyFrom_0 rfl (lv_at hl 0 rfl) ?_
  refine lv_aload_n hx hb dX0_copyFrom_1 rfl (lv_at hl 1 rfl) ?_
  refine gf_X0_25 hC hW (mm_0 ho) dX0_copyFrom_2 ?_
  refine pf_X0_25 hC hW (mm_0 hi) hS dX0_copyFrom_5 (fun H locs hW hS => ?_)
  refine lv_aload_n hx hb dX0_copyFrom_8 rfl (lv_at hl 0 rfl) ?_
  refine lv_aload_n hx hb dX0_copyFrom_9 rfl (lv_at hl 1 rfl) ?_
  refine gf_X0_28 hC hW (mm_0 ho) dX0_copyFrom_10 ?_
  refine lv_eqi (y := σ 0 o 1) (by rw [us_j (by decide)]) ?_
  refine pf_X0_28 hC hW (mm_0 hi) hS dX0_copyFrom_13 (fun H locs hW hS => ?_)
  refine lv_aload_n hx hb dX0_copyFrom_16 rfl (lv_at hl 0 rfl) ?_
  refine lv_aload_n hx hb dX0_copyFrom_17 rfl (lv_at hl 1 rfl) ?_
  refine gf_X0_31 hC hW (mm_0 ho) dX0_copyFrom_18 ?_
  refine lv_eqi (y := σ 0 o 2) (by rw [us_j (by decide), us_j (by decide)]) ?_
  refine pf_X0_31 hC hW (mm_0 hi) hS dX0_copyFrom_21 (fun H locs hW hS => ?_)
  refine lv_aload_n hx hb dX0_copyFrom_24 rfl (lv_at hl 0 rfl) ?_
  refine lv_aload_n hx hb dX0_copyFrom_25 rfl (lv_at hl 1 rfl) ?_
  refine gf_X0_34 hC hW (mm_0 ho) dX0_copyFrom_26 ?_
  refine lv_eqi (y := σ 0 o 3) (by rw [us_j (by decide), us_j (by decide), us_j (by decide)]) ?_
  refine pf_X0_34 hC hW (mm_0 hi) hS dX0_copyFrom_29 (fun H locs hW hS => ?_)
  refine lv_aload_n hx hb dX0_copyFrom_32 rfl (lv_at hl 0 rfl) ?_
  refine lv_aload_n hx hb dX0_copyFrom_33 rfl (lv_at hl 1 rfl) ?_
  refine gf_X0_19 hC hW (mm_0 ho) dX0_copyFrom_34 ?_
  refine lv_eqi (y := σ 0 o 4) (by rw [us_j (by decide), us_j (by decide), us_j (by decide), us_j (by decide)]) ?_
  refine pf_X0_19 hC hW (mm_0 hi) hS dX0_copyFrom_37 (fun H locs hW hS => ?_)
  refine lv_aload_n hx hb dX0_copyFrom_40 rfl (lv_at hl 0 rfl) ?_
  refine lv_aload_n hx hb dX0_copyFrom_41 rfl (lv_at hl 1 rfl) ?_
  refine gf_X0_37 hC hW (mm_0 ho) dX0_copyFrom_42 ?_
  refine lv_eqi (y := σ 0 o 5) (by rw [us_j (by decide), us_j (by decide), us_j (by decide), us_j (by decide), us_j (by decide)]) ?_
  refine pf_X0_37 hC hW (mm_0 hi) hS dX0_copyFrom_45 (fun H locs hW hS => ?_)
  refine lv_aload_n hx hb dX0_copyFrom_48 rfl (lv_at hl 0 rfl) ?_
  refine lv_aload_n hx hb dX0_copyFrom_49 rfl (lv_at hl 1 rfl) ?_
  refine gf_X0_22 hC hW (mm_0 ho) dX0_copyFrom_50 ?_
  refine lv_eqi (y := σ 0 o 6) (by rw [us_j (by decide), us_j (by decide), us_j (by decide), us_j (by decide), us_j (by decide), us_j (by decide)]) ?_
  refine pf_X0_22 hC hW (mm_0 hi) hS dX0_copyFrom_53 (fun H locs hW hS => ?_)
  refine lv_aload_n hx hb dX0_copyFrom_56 rfl (lv_at hl 0 rfl) ?_
  refine lv_aload_n hx hb dX0_copyFrom_57 rfl (lv_at hl 1 rfl) ?_
  refine gf_X0_9 hC hW (mm_0 ho) dX0_copyFrom_58 ?_
  refine lv_eqi (y := σ 0 o 7) (by rw [us_j (by decide), us_j (by decide), us_j (by decide), us_j (by decide), us_j (by decide), us_j (by decide), us_j (by decide)]) ?_
  refine pf_X0_9 hC hW (mm_0 hi) hS dX0_copyFrom_61 (fun H locs hW hS => ?_)
  refine lv_iconst (v := 0) hx hb dX0_copyFrom_64 (by decide) ?_
  refine lv_istore_n (lv' := [(2, .int 0), (0, .ref (ad 0 i)), (1, .ref (ad 0 o))]) hx hb dX0_copyFrom_65 rfl hl (by decide) rfl (fun ls hl => ?_)
  have h_66 : ∀ (n66 k66 : Nat) (σ66 : Sg) (H : Heap) (locs : List Loc) (ls : Array Slot), 4 ≤ k66 + n66 → k66 ≤ 3 → Wd D ca (Ab base) ad ρm Lm σ66 H → va_S (Ab base) s.heap H locs → lv_has ls 3 [(2, .int (nI k66)), (0, .ref (ad 0 i)), (1, .ref (ad 0 o))] → s_X0_copyFrom i o σ = ((s_X0_copyFrom_L66 i o n66 k66 σ66)) → W p l e ({ frames := 0, cells := 0, slots := 0, locals := 0 } : Room) s m args below meth c H locs 0 0 (MQ below (Rt D ca base ad ρm Lm (s_X0_copyFrom i o σ) none) args s 0 0 (Ab base)) (F0 m 66 ls []) := by
    intro n66
    induction n66 with
    | zero =>
      intro k66 σ66 H locs ls hk1_66 hk2_66 hW hS hl hO
      exact absurd hk1_66 (by omega)
    | succ n66 ih_66 =>
      intro k66 σ66 H locs ls hk1_66 hk2_66 hW hS hl hO
      refine lv_iload_n hx hb dX0_copyFrom_66 rfl (lv_at hl 0 rfl) ?_
      refine lv_iconst (v := 3) hx hb dX0_copyFrom_67 (by decide) ?_
      refine lv_icmp_ge (tgt := 89) hx hb dX0_copyFrom_68 (by decide) (fun c_1 => ?_) (fun c_1 => ?_)
      · replace hl := lv_sub hl [1, 2] (l' := [(0, .ref (ad 0 i)), (1, .ref (ad 0 o))]) rfl
        have hO : s_X0_copyFrom i o σ = σ66 := by rw [hO, s_X0_copyFrom_L66, if_pos c_1]
        exact w_vretV hC hW hS hO (Nat.le_of_ble_eq_true rfl) (Nat.le_of_ble_eq_true rfl) dX0_copyFrom_89
      · have hi_c_1 : k66 < 3 := idx_lt c_1 (by decide) (by decide) (by omega)
        refine lv_aload_n hx hb dX0_copyFrom_71 rfl (lv_at hl 1 rfl) ?_
        refine gf_X0_15 hC hW (mm_0 hi) rfl dX0_copyFrom_72 ?_
        refine lv_iload_n hx hb dX0_copyFrom_75 rfl (lv_at hl 0 rfl) ?_
        refine lv_aload_n hx hb dX0_copyFrom_76 rfl (lv_at hl 2 rfl) ?_
        refine gf_X0_15 hC hW (mm_0 ho) rfl dX0_copyFrom_77 ?_
        refine lv_iload_n hx hb dX0_copyFrom_80 rfl (lv_at hl 0 rfl) ?_
        refine w_iald hC hW (mm_10 ho) (n := 3) rfl (vp_in_nI (by omega) (by omega)) dX0_copyFrom_81 ?_
        refine lv_eqi (y := σ66 10 o k66) (by rw [nI_clamp (by omega)]) ?_
        refine w_iast hC hW hS (mm_10 hi) (n := 3) (fun _ => rfl) (vp_in_nI (by omega) (by omega)) dX0_copyFrom_82 (fun H locs hW hS => ?_)
        rw [nI_clamp (by omega)] at hW
        refine lv_iinc (v := nI (k66 + 1)) (lv' := [(2, .int (nI (k66 + 1))), (0, .ref (ad 0 i)), (1, .ref (ad 0 o))]) hx hb dX0_copyFrom_83 hl (k := 0) rfl (nI_1 _) (by decide) rfl (fun ls hl => ?_)
        refine lv_goto (tgt := 66) hx hb dX0_copyFrom_86 (by decide) ?_
        refine ih_66 (k66 + 1) (us σ66 10 i k66 (σ66 10 o k66)) _ _ _ (by omega) (by omega)  hW hS (lv_sub hl [0, 1, 2] rfl) ?_
        rw [hO, s_X0_copyFrom_L66, if_neg c_1]
  refine h_66 4 0 (us (us (us (us (us (us (us (us σ 0 i 0 (σ 0 o 0)) 0 i 1 (σ 0 o 1)) 0 i 2 (σ 0 o 2)) 0 i 3 (σ 0 o 3)) 0 i 4 (σ 0 o 4)) 0 i 5 (σ 0 o 5)) 0 i 6 (σ 0 o 6)) 0 i 7 (σ 0 o 7)) _ _ _ (by omega) (by omega)  hW hS (lv_sub hl [0, 1, 2] rfl) ?_
  rw [s_X0_copyFrom]
theorem fr_s_X0_copyFrom_L66 {kk : Nat}  (i : Nat) (o : Nat) (h0 : kk ≠ 0) (h10 : kk ≠ 10) : ∀ (y0 : Nat) (y1 : Nat) (σ : Sg), (s_X0_copyFrom_L66 i o y0 y1 σ) kk = σ kk := by
  intro y0
  induction y0 with
  | zero => intros; rfl
  | succ n ih =>
    intros
    rw [s_X0_copyFrom_L66]
    repeat' split
    all_goals (first | (simp only [ih, us_kk, ne_eq, not_false_eq_true, h0, h10]; done) | with_reducible rfl | (simp only [ih, us_kk, ne_eq, not_false_eq_true, h0, h10]; with_reducible rfl))
theorem fr_X0_copyFrom {kk : Nat}  {i : Nat} {o : Nat} {σ : Sg} (h0 : kk ≠ 0) (h10 : kk ≠ 10) : (s_X0_copyFrom i o σ) kk = σ kk := by
  rw [s_X0_copyFrom]
  repeat' split
  all_goals (first | (simp only [us_kk, ne_eq, not_false_eq_true, h0, h10, fr_s_X0_copyFrom_L66]; done) | with_reducible rfl | (simp only [us_kk, ne_eq, not_false_eq_true, h0, h10, fr_s_X0_copyFrom_L66]; with_reducible rfl))

def f_X3_isCell (d : Int32) (t : Int32) : Int32 :=
  if d < 0 then 0
  else if 4 ≤ d then 0
  else if t < 0 then 0
  else if 4 ≤ t then 0
  else 1
set_option maxHeartbeats 4000000 in
set_option maxRecDepth 100000 in
theorem c_X3_isCell (l : Launch) (hl9 : l.stackTraces = false) (D : va_G) (ca : Nat → ClassId) (base : Nat) (ad : Adr) (σ : Sg) (d : Int32) (t : Int32)  : Mt l yX3_isCell cX3_isCell 2 (some .boolean) { frames := 0, cells := 0, slots := 0, locals := 0 } D ca base ad ρm Lm [.int d, .int t] σ (some (.int (f_X3_isCell d t))) σ := by
  refine w_ofW (by decide) (Nat.le_of_ble_eq_true rfl) rfl ?_
  intro p e s m args below meth c hC hW hS ls hl hin
  have hx := hC.1
  have hb := hC.2.1
  refine lv_iload_n hx hb dX3_isCell_0 rfl (lv_at hl 0 rfl) ?_
  refine lv_if_lt (tgt := 22) hx hb dX3_isCell_1 (by decide) (fun c_1 => ?_) (fun c_1 => ?_)
  · refine lv_iconst (v := 0) hx hb dX3_isCell_22 (by decide) ?_
    have hO : f_X3_isCell d t = 0 := by rw [f_X3_isCell, if_pos c_1]
    exact w_zretP hC hW hS (by decide) hO (Nat.le_of_ble_eq_true rfl) (Nat.le_of_ble_eq_true rfl) dX3_isCell_23
  · refine lv_iload_n hx hb dX3_isCell_4 rfl (lv_at hl 0 rfl) ?_
    refine lv_iconst (v := 4) hx hb dX3_isCell_5 (by decide) ?_
    refine lv_icmp_ge (tgt := 22) hx hb dX3_isCell_6 (by decide) (fun c_2 => ?_) (fun c_2 => ?_)
    · refine lv_iconst (v := 0) hx hb dX3_isCell_22 (by decide) ?_
      have hO : f_X3_isCell d t = 0 := by rw [f_X3_isCell, if_neg c_1, if_pos c_2]
      exact w_zretP hC hW hS (by decide) hO (Nat.le_of_ble_eq_true rfl) (Nat.le_of_ble_eq_true rfl) dX3_isCell_23
    · refine lv_iload_n hx hb dX3_isCell_9 rfl (lv_at hl 1 rfl) ?_
      refine lv_if_lt (tgt := 22) hx hb dX3_isCell_10 (by decide) (fun c_3 => ?_) (fun c_3 => ?_)
      · refine lv_iconst (v := 0) hx hb dX3_isCell_22 (by decide) ?_
        have hO : f_X3_isCell d t = 0 := by rw [f_X3_isCell, if_neg c_1, if_neg c_2, if_pos c_3]
        exact w_zretP hC hW hS (by decide) hO (Nat.le_of_ble_eq_true rfl) (Nat.le_of_ble_eq_true rfl) dX3_isCell_23
      · refine lv_iload_n hx hb dX3_isCell_13 rfl (lv_at hl 1 rfl) ?_
        refine lv_iconst (v := 4) hx hb dX3_isCell_14 (by decide) ?_
        refine lv_icmp_ge (tgt := 22) hx hb dX3_isCell_15 (by decide) (fun c_4 => ?_) (fun c_4 => ?_)
        · refine lv_iconst (v := 0) hx hb dX3_isCell_22 (by decide) ?_
          have hO : f_X3_isCell d t = 0 := by rw [f_X3_isCell, if_neg c_1, if_neg c_2, if_neg c_3, if_pos c_4]
          exact w_zretP hC hW hS (by decide) hO (Nat.le_of_ble_eq_true rfl) (Nat.le_of_ble_eq_true rfl) dX3_isCell_23
        · refine lv_iconst (v := 1) hx hb dX3_isCell_18 (by decide) ?_
          refine lv_goto (tgt := 23) hx hb dX3_isCell_19 (by decide) ?_
          have hO : f_X3_isCell d t = 1 := by rw [f_X3_isCell, if_neg c_1, if_neg c_2, if_neg c_3, if_neg c_4]
          exact w_zretP hC hW hS (by decide) hO (Nat.le_of_ble_eq_true rfl) (Nat.le_of_ble_eq_true rfl) dX3_isCell_23
theorem bb_X3_isCell {d : Int32} {t : Int32} : f_X3_isCell d t &&& 1 = f_X3_isCell d t := by
  rw [f_X3_isCell]
  repeat' split
  all_goals first | decide

def e_X7_needPlace (x : Int32) (n : Int32) : Option String :=
  if x < 0 then some "java/lang/IndexOutOfBoundsException"
  else if x < n then none
  else some "java/lang/IndexOutOfBoundsException"
set_option maxHeartbeats 4000000 in
set_option maxRecDepth 100000 in
theorem c_X7_needPlace (l : Launch) (hl9 : l.stackTraces = false) (D : va_G) (ca : Nat → ClassId) (base : Nat) (ad : Adr) (σ : Sg) (x : Int32) (n : Int32)  : Mx l yX7_needPlace cX7_needPlace 2 none { frames := 6, cells := 1, slots := 6, locals := 100 } D ca base ad ρm Lm [.int x, .int n] σ (e_X7_needPlace x n) none σ := by
  refine w_ofX (by decide) (Nat.le_of_ble_eq_true rfl) rfl ?_
  intro p e s m args below meth c hC hW hS hout ls hl
  have hx := hC.1
  have hb := hC.2.1
  refine lv_iload_n hx hb dX7_needPlace_0 rfl (lv_at hl 0 rfl) ?_
  refine lv_if_lt (tgt := 9) hx hb dX7_needPlace_1 (by decide) (fun c_1 => ?_) (fun c_1 => ?_)
  · have hO : e_X7_needPlace x n = some "java/lang/IndexOutOfBoundsException" := by rw [e_X7_needPlace, if_pos c_1]
    exact w_throw hl9 hC hW hS hout hl th_317_319_321 hO dX7_needPlace_9 dX7_needPlace_12 dX7_needPlace_13 dX7_needPlace_16 dX7_needPlace_19 (Nat.le_of_ble_eq_true rfl) (Nat.le_of_ble_eq_true rfl) (Nat.le_of_ble_eq_true rfl) (Nat.le_of_ble_eq_true rfl) (Nat.le_of_ble_eq_true rfl) (Nat.le_of_ble_eq_true rfl)
  · refine lv_iload_n hx hb dX7_needPlace_4 rfl (lv_at hl 0 rfl) ?_
    refine lv_iload_n hx hb dX7_needPlace_5 rfl (lv_at hl 1 rfl) ?_
    refine lv_icmp_lt (tgt := 20) hx hb dX7_needPlace_6 (by decide) (fun c_2 => ?_) (fun c_2 => ?_)
    · have hO : e_X7_needPlace x n = none := by rw [e_X7_needPlace, if_neg c_1, if_pos c_2]
      exact w_vretX hC hW hS hO rfl (Nat.le_of_ble_eq_true rfl) (Nat.le_of_ble_eq_true rfl) dX7_needPlace_20
    · have hO : e_X7_needPlace x n = some "java/lang/IndexOutOfBoundsException" := by rw [e_X7_needPlace, if_neg c_1, if_neg c_2]
      exact w_throw hl9 hC hW hS hout hl th_317_319_321 hO dX7_needPlace_9 dX7_needPlace_12 dX7_needPlace_13 dX7_needPlace_16 dX7_needPlace_19 (Nat.le_of_ble_eq_true rfl) (Nat.le_of_ble_eq_true rfl) (Nat.le_of_ble_eq_true rfl) (Nat.le_of_ble_eq_true rfl) (Nat.le_of_ble_eq_true rfl) (Nat.le_of_ble_eq_true rfl)

def e_X7_needRange (x : Int32) (lo : Int32) (hi : Int32) : Option String :=
  if x < lo then some "java/lang/IllegalArgumentException"
  else if x ≤ hi then none
  else some "java/lang/IllegalArgumentException"
set_option maxHeartbeats 4000000 in
set_option maxRecDepth 100000 in
theorem c_X7_needRange (l : Launch) (hl9 : l.stackTraces = false) (D : va_G) (ca : Nat → ClassId) (base : Nat) (ad : Adr) (σ : Sg) (x : Int32) (lo : Int32) (hi : Int32)  : Mx l yX7_needRange cX7_needRange 3 none { frames := 6, cells := 1, slots := 6, locals := 100 } D ca base ad ρm Lm [.int x, .int lo, .int hi] σ (e_X7_needRange x lo hi) none σ := by
  refine w_ofX (by decide) (Nat.le_of_ble_eq_true rfl) rfl ?_
  intro p e s m args below meth c hC hW hS hout ls hl
  have hx := hC.1
  have hb := hC.2.1
  refine lv_iload_n hx hb dX7_needRange_0 rfl (lv_at hl 0 rfl) ?_
  refine lv_iload_n hx hb dX7_needRange_1 rfl (lv_at hl 1 rfl) ?_
  refine lv_icmp_lt (tgt := 10) hx hb dX7_needRange_2 (by decide) (fun c_1 => ?_) (fun c_1 => ?_)
  · have hO : e_X7_needRange x lo hi = some "java/lang/IllegalArgumentException" := by rw [e_X7_needRange, if_pos c_1]
    exact w_throw hl9 hC hW hS hout hl th_322_324_326 hO dX7_needRange_10 dX7_needRange_13 dX7_needRange_14 dX7_needRange_17 dX7_needRange_20 (Nat.le_of_ble_eq_true rfl) (Nat.le_of_ble_eq_true rfl) (Nat.le_of_ble_eq_true rfl) (Nat.le_of_ble_eq_true rfl) (Nat.le_of_ble_eq_true rfl) (Nat.le_of_ble_eq_true rfl)
  · refine lv_iload_n hx hb dX7_needRange_5 rfl (lv_at hl 0 rfl) ?_
    refine lv_iload_n hx hb dX7_needRange_6 rfl (lv_at hl 2 rfl) ?_
    refine lv_icmp_le (tgt := 21) hx hb dX7_needRange_7 (by decide) (fun c_2 => ?_) (fun c_2 => ?_)
    · have hO : e_X7_needRange x lo hi = none := by rw [e_X7_needRange, if_neg c_1, if_pos c_2]
      exact w_vretX hC hW hS hO rfl (Nat.le_of_ble_eq_true rfl) (Nat.le_of_ble_eq_true rfl) dX7_needRange_21
    · have hO : e_X7_needRange x lo hi = some "java/lang/IllegalArgumentException" := by rw [e_X7_needRange, if_neg c_1, if_neg c_2]
      exact w_throw hl9 hC hW hS hout hl th_322_324_326 hO dX7_needRange_10 dX7_needRange_13 dX7_needRange_14 dX7_needRange_17 dX7_needRange_20 (Nat.le_of_ble_eq_true rfl) (Nat.le_of_ble_eq_true rfl) (Nat.le_of_ble_eq_true rfl) (Nat.le_of_ble_eq_true rfl) (Nat.le_of_ble_eq_true rfl) (Nat.le_of_ble_eq_true rfl)

def e_X7_needSubset (x : Int32) (y : Int32) : Option String :=
  if (x &&& (y ^^^ (-1 : Int32))) = 0 then none
  else some "java/lang/IllegalArgumentException"
set_option maxHeartbeats 4000000 in
set_option maxRecDepth 100000 in
theorem c_X7_needSubset (l : Launch) (hl9 : l.stackTraces = false) (D : va_G) (ca : Nat → ClassId) (base : Nat) (ad : Adr) (σ : Sg) (x : Int32) (y : Int32)  : Mx l yX7_needSubset cX7_needSubset 2 none { frames := 6, cells := 1, slots := 6, locals := 100 } D ca base ad ρm Lm [.int x, .int y] σ (e_X7_needSubset x y) none σ := by
  refine w_ofX (by decide) (Nat.le_of_ble_eq_true rfl) rfl ?_
  intro p e s m args below meth c hC hW hS hout ls hl
  have hx := hC.1
  have hb := hC.2.1
  refine lv_iload_n hx hb dX7_needSubset_0 rfl (lv_at hl 0 rfl) ?_
  refine lv_iload_n hx hb dX7_needSubset_1 rfl (lv_at hl 1 rfl) ?_
  refine lv_iconst (v := (-1)) hx hb dX7_needSubset_2 (by decide) ?_
  refine lv_ixor hx hb dX7_needSubset_3 ?_
  refine lv_iand hx hb dX7_needSubset_4 ?_
  refine lv_if_eq (tgt := 19) hx hb dX7_needSubset_5 (by decide) (fun c_1 => ?_) (fun c_1 => ?_)
  · have hO : e_X7_needSubset x y = none := by rw [e_X7_needSubset, if_pos c_1]
    exact w_vretX hC hW hS hO rfl (Nat.le_of_ble_eq_true rfl) (Nat.le_of_ble_eq_true rfl) dX7_needSubset_19
  · have hO : e_X7_needSubset x y = some "java/lang/IllegalArgumentException" := by rw [e_X7_needSubset, if_neg c_1]
    exact w_throw hl9 hC hW hS hout hl th_322_327_326 hO dX7_needSubset_8 dX7_needSubset_11 dX7_needSubset_12 dX7_needSubset_15 dX7_needSubset_18 (Nat.le_of_ble_eq_true rfl) (Nat.le_of_ble_eq_true rfl) (Nat.le_of_ble_eq_true rfl) (Nat.le_of_ble_eq_true rfl) (Nat.le_of_ble_eq_true rfl) (Nat.le_of_ble_eq_true rfl)

def e_X7_needRight (r : Int32) : Option String :=
  if r = 1 then none
  else if r = 2 then none
  else if r = 4 then none
  else some "java/lang/IllegalArgumentException"
set_option maxHeartbeats 4000000 in
set_option maxRecDepth 100000 in
theorem c_X7_needRight (l : Launch) (hl9 : l.stackTraces = false) (D : va_G) (ca : Nat → ClassId) (base : Nat) (ad : Adr) (σ : Sg) (r : Int32)  : Mx l yX7_needRight cX7_needRight 1 none { frames := 6, cells := 1, slots := 6, locals := 100 } D ca base ad ρm Lm [.int r] σ (e_X7_needRight r) none σ := by
  refine w_ofX (by decide) (Nat.le_of_ble_eq_true rfl) rfl ?_
  intro p e s m args below meth c hC hW hS hout ls hl
  have hx := hC.1
  have hb := hC.2.1
  refine lv_iload_n hx hb dX7_needRight_0 rfl (lv_at hl 0 rfl) ?_
  refine lv_iconst (v := 1) hx hb dX7_needRight_1 (by decide) ?_
  refine lv_icmp_eq (tgt := 26) hx hb dX7_needRight_2 (by decide) (fun c_1 => ?_) (fun c_1 => ?_)
  · have hO : e_X7_needRight r = none := by rw [e_X7_needRight, if_pos c_1]
    exact w_vretX hC hW hS hO rfl (Nat.le_of_ble_eq_true rfl) (Nat.le_of_ble_eq_true rfl) dX7_needRight_26
  · refine lv_iload_n hx hb dX7_needRight_5 rfl (lv_at hl 0 rfl) ?_
    refine lv_iconst (v := 2) hx hb dX7_needRight_6 (by decide) ?_
    refine lv_icmp_eq (tgt := 26) hx hb dX7_needRight_7 (by decide) (fun c_2 => ?_) (fun c_2 => ?_)
    · have hO : e_X7_needRight r = none := by rw [e_X7_needRight, if_neg c_1, if_pos c_2]
      exact w_vretX hC hW hS hO rfl (Nat.le_of_ble_eq_true rfl) (Nat.le_of_ble_eq_true rfl) dX7_needRight_26
    · refine lv_iload_n hx hb dX7_needRight_10 rfl (lv_at hl 0 rfl) ?_
      refine lv_iconst (v := 4) hx hb dX7_needRight_11 (by decide) ?_
      refine lv_icmp_eq (tgt := 26) hx hb dX7_needRight_12 (by decide) (fun c_3 => ?_) (fun c_3 => ?_)
      · have hO : e_X7_needRight r = none := by rw [e_X7_needRight, if_neg c_1, if_neg c_2, if_pos c_3]
        exact w_vretX hC hW hS hO rfl (Nat.le_of_ble_eq_true rfl) (Nat.le_of_ble_eq_true rfl) dX7_needRight_26
      · have hO : e_X7_needRight r = some "java/lang/IllegalArgumentException" := by rw [e_X7_needRight, if_neg c_1, if_neg c_2, if_neg c_3]
        exact w_throw hl9 hC hW hS hout hl th_322_329_326 hO dX7_needRight_15 dX7_needRight_18 dX7_needRight_19 dX7_needRight_22 dX7_needRight_25 (Nat.le_of_ble_eq_true rfl) (Nat.le_of_ble_eq_true rfl) (Nat.le_of_ble_eq_true rfl) (Nat.le_of_ble_eq_true rfl) (Nat.le_of_ble_eq_true rfl) (Nat.le_of_ble_eq_true rfl)

def e_X7_needPower (b : Int32) : Option String :=
  if b = 0 then some "java/lang/UnsupportedOperationException"
  else none
set_option maxHeartbeats 4000000 in
set_option maxRecDepth 100000 in
theorem c_X7_needPower (l : Launch) (hl9 : l.stackTraces = false) (D : va_G) (ca : Nat → ClassId) (base : Nat) (ad : Adr) (σ : Sg) (b : Int32)  : Mx l yX7_needPower cX7_needPower 1 none { frames := 6, cells := 1, slots := 6, locals := 100 } D ca base ad ρm Lm [.int b] σ (e_X7_needPower b) none σ := by
  refine w_ofX (by decide) (Nat.le_of_ble_eq_true rfl) rfl ?_
  intro p e s m args below meth c hC hW hS hout ls hl
  have hx := hC.1
  have hb := hC.2.1
  refine lv_iload_n hx hb dX7_needPower_0 rfl (lv_at hl 0 rfl) ?_
  refine lv_if_ne (tgt := 15) hx hb dX7_needPower_1 (by decide) (fun c_1 => ?_) (fun c_1 => ?_)
  · have hO : e_X7_needPower b = none := by rw [e_X7_needPower, if_neg c_1]
    exact w_vretX hC hW hS hO rfl (Nat.le_of_ble_eq_true rfl) (Nat.le_of_ble_eq_true rfl) dX7_needPower_15
  · have hO : e_X7_needPower b = some "java/lang/UnsupportedOperationException" := by rw [e_X7_needPower, if_pos c_1]
    exact w_throw hl9 hC hW hS hout hl th_331_333_335 hO dX7_needPower_4 dX7_needPower_7 dX7_needPower_8 dX7_needPower_11 dX7_needPower_14 (Nat.le_of_ble_eq_true rfl) (Nat.le_of_ble_eq_true rfl) (Nat.le_of_ble_eq_true rfl) (Nat.le_of_ble_eq_true rfl) (Nat.le_of_ble_eq_true rfl) (Nat.le_of_ble_eq_true rfl)

def e_X7_needRoom (x : Int32) (y : Int32) : Option String :=
  if x < y then none
  else some "java/lang/IllegalStateException"
set_option maxHeartbeats 4000000 in
set_option maxRecDepth 100000 in
theorem c_X7_needRoom (l : Launch) (hl9 : l.stackTraces = false) (D : va_G) (ca : Nat → ClassId) (base : Nat) (ad : Adr) (σ : Sg) (x : Int32) (y : Int32)  : Mx l yX7_needRoom cX7_needRoom 2 none { frames := 6, cells := 1, slots := 6, locals := 100 } D ca base ad ρm Lm [.int x, .int y] σ (e_X7_needRoom x y) none σ := by
  refine w_ofX (by decide) (Nat.le_of_ble_eq_true rfl) rfl ?_
  intro p e s m args below meth c hC hW hS hout ls hl
  have hx := hC.1
  have hb := hC.2.1
  refine lv_iload_n hx hb dX7_needRoom_0 rfl (lv_at hl 0 rfl) ?_
  refine lv_iload_n hx hb dX7_needRoom_1 rfl (lv_at hl 1 rfl) ?_
  refine lv_icmp_lt (tgt := 16) hx hb dX7_needRoom_2 (by decide) (fun c_1 => ?_) (fun c_1 => ?_)
  · have hO : e_X7_needRoom x y = none := by rw [e_X7_needRoom, if_pos c_1]
    exact w_vretX hC hW hS hO rfl (Nat.le_of_ble_eq_true rfl) (Nat.le_of_ble_eq_true rfl) dX7_needRoom_16
  · have hO : e_X7_needRoom x y = some "java/lang/IllegalStateException" := by rw [e_X7_needRoom, if_neg c_1]
    exact w_throw hl9 hC hW hS hout hl th_84_336_88 hO dX7_needRoom_5 dX7_needRoom_8 dX7_needRoom_9 dX7_needRoom_12 dX7_needRoom_15 (Nat.le_of_ble_eq_true rfl) (Nat.le_of_ble_eq_true rfl) (Nat.le_of_ble_eq_true rfl) (Nat.le_of_ble_eq_true rfl) (Nat.le_of_ble_eq_true rfl) (Nat.le_of_ble_eq_true rfl)

def f_X2_isTold (g : Int32) (b : Int32) (x : Int32) (σ : Sg) : Int32 :=
  if g < 0 then 0
  else if g < 6 then (if b = 0 then (if (((σ 12 0 g.toNatClampNeg) >>> (x &&& 31)) &&& (1 : Int32)) = 0 then 0
      else 1)
    else if (((σ 13 0 g.toNatClampNeg) >>> (x &&& 31)) &&& (1 : Int32)) = 0 then 0
    else 1)
  else 0
set_option maxHeartbeats 4000000 in
set_option maxRecDepth 100000 in
theorem c_X2_isTold (l : Launch) (hl9 : l.stackTraces = false) (D : va_G) (ca : Nat → ClassId) (base : Nat) (ad : Adr) (σ : Sg) (g : Int32) (b : Int32) (x : Int32)  : Mt l yX2_isTold cX2_isTold 5 (some .boolean) { frames := 0, cells := 0, slots := 0, locals := 0 } D ca base ad ρm Lm [.ref (ad 2 0), .int g, .int b, .int x] σ (some (.int (f_X2_isTold g b x σ))) σ := by
  refine w_ofW (by decide) (Nat.le_of_ble_eq_true rfl) rfl ?_
  intro p e s m args below meth c hC hW hS ls hl hin
  have hx := hC.1
  have hb := hC.2.1
  refine lv_iload_n hx hb dX2_isTold_0 rfl (lv_at hl 1 rfl) ?_
  refine lv_if_lt (tgt := 10) hx hb dX2_isTold_1 (by decide) (fun c_1 => ?_) (fun c_1 => ?_)
  · refine lv_iconst (v := 0) hx hb dX2_isTold_10 (by decide) ?_
    have hO : f_X2_isTold g b x σ = 0 := by rw [f_X2_isTold, if_pos c_1]
    exact w_zretP hC hW hS (by decide) hO (Nat.le_of_ble_eq_true rfl) (Nat.le_of_ble_eq_true rfl) dX2_isTold_11
  · refine lv_iload_n hx hb dX2_isTold_4 rfl (lv_at hl 1 rfl) ?_
    refine lv_bipush (v := 6) hx hb dX2_isTold_5 (by decide) ?_
    refine lv_icmp_lt (tgt := 12) hx hb dX2_isTold_7 (by decide) (fun c_2 => ?_) (fun c_2 => ?_)
    · refine lv_iload_n hx hb dX2_isTold_12 rfl (lv_at hl 2 rfl) ?_
      refine lv_if_eq (tgt := 25) hx hb dX2_isTold_13 (by decide) (fun c_3 => ?_) (fun c_3 => ?_)
      · refine lv_aload_n hx hb dX2_isTold_25 rfl (lv_at hl 0 rfl) ?_
        refine gf_X2_9 hC hW m_2 rfl dX2_isTold_26 ?_
        refine lv_iload_n hx hb dX2_isTold_29 rfl (lv_at hl 1 rfl) ?_
        refine w_iald hC hW m_12 (n := 6) rfl (by first | assumption | exact vp_in_c (y := 6) (by decide) (by decide) (by assumption) (by assumption) | exact vp_in_d (y := 6) (by decide) (by decide) (by assumption) (by assumption)) dX2_isTold_30 ?_
        refine lv_istore (lv' := [(4, .int (σ 12 0 g.toNatClampNeg)), (0, .ref (ad 2 0)), (1, .int g), (2, .int b), (3, .int x)]) hx hb dX2_isTold_31 hl (by decide) rfl (fun ls hl => ?_)
        refine lv_iload hx hb dX2_isTold_33 (lv_at hl 0 rfl) ?_
        refine lv_iload_n hx hb dX2_isTold_35 rfl (lv_at hl 4 rfl) ?_
        refine lv_ishr hx hb dX2_isTold_36 ?_
        refine lv_iconst (v := 1) hx hb dX2_isTold_37 (by decide) ?_
        refine lv_iand hx hb dX2_isTold_38 ?_
        refine lv_if_eq (tgt := 46) hx hb dX2_isTold_39 (by decide) (fun c_4 => ?_) (fun c_4 => ?_)
        · refine lv_iconst (v := 0) hx hb dX2_isTold_46 (by decide) ?_
          have hO : f_X2_isTold g b x σ = 0 := by rw [f_X2_isTold, if_neg c_1, if_pos c_2, if_pos c_3, if_pos c_4]
          exact w_zretP hC hW hS (by decide) hO (Nat.le_of_ble_eq_true rfl) (Nat.le_of_ble_eq_true rfl) dX2_isTold_47
        · refine lv_iconst (v := 1) hx hb dX2_isTold_42 (by decide) ?_
          refine lv_goto (tgt := 47) hx hb dX2_isTold_43 (by decide) ?_
          have hO : f_X2_isTold g b x σ = 1 := by rw [f_X2_isTold, if_neg c_1, if_pos c_2, if_pos c_3, if_neg c_4]
          exact w_zretP hC hW hS (by decide) hO (Nat.le_of_ble_eq_true rfl) (Nat.le_of_ble_eq_true rfl) dX2_isTold_47
      · refine lv_aload_n hx hb dX2_isTold_16 rfl (lv_at hl 0 rfl) ?_
        refine gf_X2_15 hC hW m_2 rfl dX2_isTold_17 ?_
        refine lv_iload_n hx hb dX2_isTold_20 rfl (lv_at hl 1 rfl) ?_
        refine w_iald hC hW m_13 (n := 6) rfl (by first | assumption | exact vp_in_c (y := 6) (by decide) (by decide) (by assumption) (by assumption) | exact vp_in_d (y := 6) (by decide) (by decide) (by assumption) (by assumption)) dX2_isTold_21 ?_
        refine lv_goto (tgt := 31) hx hb dX2_isTold_22 (by decide) ?_
        refine lv_istore (lv' := [(4, .int (σ 13 0 g.toNatClampNeg)), (0, .ref (ad 2 0)), (1, .int g), (2, .int b), (3, .int x)]) hx hb dX2_isTold_31 hl (by decide) rfl (fun ls hl => ?_)
        refine lv_iload hx hb dX2_isTold_33 (lv_at hl 0 rfl) ?_
        refine lv_iload_n hx hb dX2_isTold_35 rfl (lv_at hl 4 rfl) ?_
        refine lv_ishr hx hb dX2_isTold_36 ?_
        refine lv_iconst (v := 1) hx hb dX2_isTold_37 (by decide) ?_
        refine lv_iand hx hb dX2_isTold_38 ?_
        refine lv_if_eq (tgt := 46) hx hb dX2_isTold_39 (by decide) (fun c_5 => ?_) (fun c_5 => ?_)
        · refine lv_iconst (v := 0) hx hb dX2_isTold_46 (by decide) ?_
          have hO : f_X2_isTold g b x σ = 0 := by rw [f_X2_isTold, if_neg c_1, if_pos c_2, if_neg c_3, if_pos c_5]
          exact w_zretP hC hW hS (by decide) hO (Nat.le_of_ble_eq_true rfl) (Nat.le_of_ble_eq_true rfl) dX2_isTold_47
        · refine lv_iconst (v := 1) hx hb dX2_isTold_42 (by decide) ?_
          refine lv_goto (tgt := 47) hx hb dX2_isTold_43 (by decide) ?_
          have hO : f_X2_isTold g b x σ = 1 := by rw [f_X2_isTold, if_neg c_1, if_pos c_2, if_neg c_3, if_neg c_5]
          exact w_zretP hC hW hS (by decide) hO (Nat.le_of_ble_eq_true rfl) (Nat.le_of_ble_eq_true rfl) dX2_isTold_47
    · refine lv_iconst (v := 0) hx hb dX2_isTold_10 (by decide) ?_
      have hO : f_X2_isTold g b x σ = 0 := by rw [f_X2_isTold, if_neg c_1, if_neg c_2]
      exact w_zretP hC hW hS (by decide) hO (Nat.le_of_ble_eq_true rfl) (Nat.le_of_ble_eq_true rfl) dX2_isTold_11
theorem bb_X2_isTold {g : Int32} {b : Int32} {x : Int32} {σ : Sg} : f_X2_isTold g b x σ &&& 1 = f_X2_isTold g b x σ := by
  rw [f_X2_isTold]
  repeat' split
  all_goals first | decide

def f_X2_groupsUpFrom_L42 (u : Int32) : Nat → Nat → Int32 → Sg → Int32
  | 0, _, v2_42, _ => v2_42
  | n42 + 1, k42, v2_42, σ => if 6 ≤ (nI k42) then v2_42
    else if ((σ 13 0 k42) &&& v2_42) = 0 then f_X2_groupsUpFrom_L42 u n42 (k42 + 1) v2_42 σ
    else f_X2_groupsUpFrom_L42 u n42 (k42 + 1) (v2_42 ||| ((1 : Int32) <<< ((nI k42) &&& 31))) σ
def f_X2_groupsUpFrom_L33 (u : Int32) : Nat → Nat → Int32 → Sg → Int32
  | 0, _, v2_33, _ => v2_33
  | n33 + 1, k33, v2_33, σ => if 6 ≤ (nI k33) then v2_33
    else f_X2_groupsUpFrom_L33 u n33 (k33 + 1) (f_X2_groupsUpFrom_L42 u 7 0 v2_33 σ) σ
def f_X2_groupsUpFrom_L4 (u : Int32) : Nat → Nat → Int32 → Sg → Int32
  | 0, _, v2_4, _ => v2_4
  | n4 + 1, k4, v2_4, σ => if 6 ≤ (nI k4) then v2_4
    else f_X2_groupsUpFrom_L4 u n4 (k4 + 1) (v2_4 ||| ((((σ 12 0 k4) >>> (u &&& 31)) &&& (1 : Int32)) <<< ((nI k4) &&& 31))) σ
def f_X2_groupsUpFrom (u : Int32) (σ : Sg) : Int32 :=
  (f_X2_groupsUpFrom_L33 u 7 0 (f_X2_groupsUpFrom_L4 u 7 0 0 σ) σ)
set_option maxHeartbeats 4000000 in
set_option maxRecDepth 100000 in
theorem c_X2_groupsUpFrom (l : Launch) (hl9 : l.stackTraces = false) (D : va_G) (ca : Nat → ClassId) (base : Nat) (ad : Adr) (σ : Sg) (u : Int32)  : Mt l yX2_groupsUpFrom cX2_groupsUpFrom 5 (some .int) { frames := 0, cells := 0, slots := 0, locals := 0 } D ca base ad ρm Lm [.ref (ad 2 0), .int u] σ (some (.int (f_X2_groupsUpFrom u σ))) σ := by
  refine w_ofW (by decide) (Nat.le_of_ble_eq_true rfl) rfl ?_
  intro p e s m args below meth c hC hW hS ls hl hin
  have hx := hC.1
  have hb := hC.2.1
  refine lv_iconst (v := 0) hx hb dX2_groupsUpFrom_0 (by decide) ?_
  refine lv_istore_n (lv' := [(2, .int 0), (0, .ref (ad 2 0)), (1, .int u)]) hx hb dX2_groupsUpFrom_1 rfl hl (by decide) rfl (fun ls hl => ?_)
  refine lv_iconst (v := 0) hx hb dX2_groupsUpFrom_2 (by decide) ?_
  refine lv_istore_n (lv' := [(3, .int 0), (2, .int 0), (0, .ref (ad 2 0)), (1, .int u)]) hx hb dX2_groupsUpFrom_3 rfl hl (by decide) rfl (fun ls hl => ?_)
  have h_4 : ∀ (n4 k4 : Nat) (v2_4 : Int32) (H : Heap) (locs : List Loc) (ls : Array Slot), 7 ≤ k4 + n4 → k4 ≤ 6 → Wd D ca (Ab base) ad ρm Lm σ H → va_S (Ab base) s.heap H locs → lv_has ls 5 [(3, .int (nI k4)), (2, .int v2_4), (0, .ref (ad 2 0)), (1, .int u)] → f_X2_groupsUpFrom u σ = ((f_X2_groupsUpFrom_L33 u 7 0 (f_X2_groupsUpFrom_L4 u n4 k4 v2_4 σ) σ)) → W p l e ({ frames := 0, cells := 0, slots := 0, locals := 0 } : Room) s m args below meth c H locs 0 0 (MQ below (Rt D ca base ad ρm Lm σ (some (.int (f_X2_groupsUpFrom u σ)))) args s 0 0 (Ab base)) (F0 m 4 ls []) := by
    intro n4
    induction n4 with
    | zero =>
      intro k4 v2_4 H locs ls hk1_4 hk2_4 hW hS hl hO
      exact absurd hk1_4 (by omega)
    | succ n4 ih_4 =>
      intro k4 v2_4 H locs ls hk1_4 hk2_4 hW hS hl hO
      refine lv_iload_n hx hb dX2_groupsUpFrom_4 rfl (lv_at hl 0 rfl) ?_
      refine lv_bipush (v := 6) hx hb dX2_groupsUpFrom_5 (by decide) ?_
      refine lv_icmp_ge (tgt := 31) hx hb dX2_groupsUpFrom_7 (by decide) (fun c_1 => ?_) (fun c_1 => ?_)
      · replace hl := lv_sub hl [1, 2, 3] (l' := [(2, .int v2_4), (0, .ref (ad 2 0)), (1, .int u)]) rfl
        refine lv_iconst (v := 0) hx hb dX2_groupsUpFrom_31 (by decide) ?_
        refine lv_istore_n (lv' := [(3, .int 0), (2, .int v2_4), (0, .ref (ad 2 0)), (1, .int u)]) hx hb dX2_groupsUpFrom_32 rfl hl (by decide) rfl (fun ls hl => ?_)
        have h_33 : ∀ (n33 k33 : Nat) (v2_33 : Int32) (H : Heap) (locs : List Loc) (ls : Array Slot), 7 ≤ k33 + n33 → k33 ≤ 6 → Wd D ca (Ab base) ad ρm Lm σ H → va_S (Ab base) s.heap H locs → lv_has ls 5 [(3, .int (nI k33)), (2, .int v2_33), (0, .ref (ad 2 0))] → f_X2_groupsUpFrom u σ = ((f_X2_groupsUpFrom_L33 u n33 k33 v2_33 σ)) → W p l e ({ frames := 0, cells := 0, slots := 0, locals := 0 } : Room) s m args below meth c H locs 0 0 (MQ below (Rt D ca base ad ρm Lm σ (some (.int (f_X2_groupsUpFrom u σ)))) args s 0 0 (Ab base)) (F0 m 33 ls []) := by
          intro n33
          induction n33 with
          | zero =>
            intro k33 v2_33 H locs ls hk1_33 hk2_33 hW hS hl hO
            exact absurd hk1_33 (by omega)
          | succ n33 ih_33 =>
            intro k33 v2_33 H locs ls hk1_33 hk2_33 hW hS hl hO
            refine lv_iload_n hx hb dX2_groupsUpFrom_33 rfl (lv_at hl 0 rfl) ?_
            refine lv_bipush (v := 6) hx hb dX2_groupsUpFrom_34 (by decide) ?_
            refine lv_icmp_ge (tgt := 80) hx hb dX2_groupsUpFrom_36 (by decide) (fun c_2 => ?_) (fun c_2 => ?_)
            · replace hl := lv_sub hl [1, 2] (l' := [(2, .int v2_33), (0, .ref (ad 2 0))]) rfl
              refine lv_iload_n hx hb dX2_groupsUpFrom_80 rfl (lv_at hl 0 rfl) ?_
              have hO : f_X2_groupsUpFrom u σ = v2_33 := by rw [hO, f_X2_groupsUpFrom_L33, if_pos c_2]
              exact w_iretP hC hW hS hO (Nat.le_of_ble_eq_true rfl) (Nat.le_of_ble_eq_true rfl) dX2_groupsUpFrom_81
            · have hi_c_2 : k33 < 6 := idx_lt c_2 (by decide) (by decide) (by omega)
              refine lv_iconst (v := 0) hx hb dX2_groupsUpFrom_39 (by decide) ?_
              refine lv_istore (lv' := [(4, .int 0), (3, .int (nI k33)), (2, .int v2_33), (0, .ref (ad 2 0))]) hx hb dX2_groupsUpFrom_40 hl (by decide) rfl (fun ls hl => ?_)
              have h_42 : ∀ (n42 k42 : Nat) (v2_42 : Int32) (H : Heap) (locs : List Loc) (ls : Array Slot), 7 ≤ k42 + n42 → k42 ≤ 6 → Wd D ca (Ab base) ad ρm Lm σ H → va_S (Ab base) s.heap H locs → lv_has ls 5 [(4, .int (nI k42)), (3, .int (nI k33)), (2, .int v2_42), (0, .ref (ad 2 0))] → f_X2_groupsUpFrom u σ = ((f_X2_groupsUpFrom_L33 u n33 (k33 + 1) (f_X2_groupsUpFrom_L42 u n42 k42 v2_42 σ) σ)) → W p l e ({ frames := 0, cells := 0, slots := 0, locals := 0 } : Room) s m args below meth c H locs 0 0 (MQ below (Rt D ca base ad ρm Lm σ (some (.int (f_X2_groupsUpFrom u σ)))) args s 0 0 (Ab base)) (F0 m 42 ls []) := by
                intro n42
                induction n42 with
                | zero =>
                  intro k42 v2_42 H locs ls hk1_42 hk2_42 hW hS hl hO
                  exact absurd hk1_42 (by omega)
                | succ n42 ih_42 =>
                  intro k42 v2_42 H locs ls hk1_42 hk2_42 hW hS hl hO
                  refine lv_iload hx hb dX2_groupsUpFrom_42 (lv_at hl 0 rfl) ?_
                  refine lv_bipush (v := 6) hx hb dX2_groupsUpFrom_44 (by decide) ?_
                  refine lv_icmp_ge (tgt := 74) hx hb dX2_groupsUpFrom_46 (by decide) (fun c_3 => ?_) (fun c_3 => ?_)
                  · replace hl := lv_sub hl [1, 2, 3] (l' := [(3, .int (nI k33)), (2, .int v2_42), (0, .ref (ad 2 0))]) rfl
                    refine lv_iinc (v := nI (k33 + 1)) (lv' := [(3, .int (nI (k33 + 1))), (2, .int v2_42), (0, .ref (ad 2 0))]) hx hb dX2_groupsUpFrom_74 hl (k := 0) rfl (nI_1 _) (by decide) rfl (fun ls hl => ?_)
                    refine lv_goto (tgt := 33) hx hb dX2_groupsUpFrom_77 (by decide) ?_
                    refine ih_33 (k33 + 1) v2_42 _ _ _ (by omega) (by omega)  hW hS (lv_sub hl [0, 1, 2] rfl) ?_
                    rw [hO, f_X2_groupsUpFrom_L42, if_pos c_3]
                  · have hi_c_3 : k42 < 6 := idx_lt c_3 (by decide) (by decide) (by omega)
                    refine lv_aload_n hx hb dX2_groupsUpFrom_49 rfl (lv_at hl 3 rfl) ?_
                    refine gf_X2_15 hC hW m_2 rfl dX2_groupsUpFrom_50 ?_
                    refine lv_iload hx hb dX2_groupsUpFrom_53 (lv_at hl 0 rfl) ?_
                    refine w_iald hC hW m_13 (n := 6) rfl (vp_in_nI (by omega) (by omega)) dX2_groupsUpFrom_55 ?_
                    refine lv_eqi (y := σ 13 0 k42) (by rw [nI_clamp (by omega)]) ?_
                    refine lv_iload_n hx hb dX2_groupsUpFrom_56 rfl (lv_at hl 2 rfl) ?_
                    refine lv_iand hx hb dX2_groupsUpFrom_57 ?_
                    refine lv_if_eq (tgt := 68) hx hb dX2_groupsUpFrom_58 (by decide) (fun c_4 => ?_) (fun c_4 => ?_)
                    · refine lv_iinc (v := nI (k42 + 1)) (lv' := [(4, .int (nI (k42 + 1))), (3, .int (nI k33)), (2, .int v2_42), (0, .ref (ad 2 0))]) hx hb dX2_groupsUpFrom_68 hl (k := 0) rfl (nI_1 _) (by decide) rfl (fun ls hl => ?_)
                      refine lv_goto (tgt := 42) hx hb dX2_groupsUpFrom_71 (by decide) ?_
                      refine ih_42 (k42 + 1) v2_42 _ _ _ (by omega) (by omega)  hW hS (lv_sub hl [0, 1, 2, 3] rfl) ?_
                      rw [hO, f_X2_groupsUpFrom_L42, if_neg c_3, if_pos c_4]
                    · refine lv_iload_n hx hb dX2_groupsUpFrom_61 rfl (lv_at hl 2 rfl) ?_
                      refine lv_iconst (v := 1) hx hb dX2_groupsUpFrom_62 (by decide) ?_
                      refine lv_iload hx hb dX2_groupsUpFrom_63 (lv_at hl 0 rfl) ?_
                      refine lv_ishl hx hb dX2_groupsUpFrom_65 ?_
                      refine lv_ior hx hb dX2_groupsUpFrom_66 ?_
                      refine lv_istore_n (lv' := [(2, .int (v2_42 ||| ((1 : Int32) <<< ((nI k42) &&& 31)))), (4, .int (nI k42)), (3, .int (nI k33)), (0, .ref (ad 2 0))]) hx hb dX2_groupsUpFrom_67 rfl hl (by decide) rfl (fun ls hl => ?_)
                      refine lv_iinc (v := nI (k42 + 1)) (lv' := [(4, .int (nI (k42 + 1))), (2, .int (v2_42 ||| ((1 : Int32) <<< ((nI k42) &&& 31)))), (3, .int (nI k33)), (0, .ref (ad 2 0))]) hx hb dX2_groupsUpFrom_68 hl (k := 1) rfl (nI_1 _) (by decide) rfl (fun ls hl => ?_)
                      refine lv_goto (tgt := 42) hx hb dX2_groupsUpFrom_71 (by decide) ?_
                      refine ih_42 (k42 + 1) (v2_42 ||| ((1 : Int32) <<< ((nI k42) &&& 31))) _ _ _ (by omega) (by omega)  hW hS (lv_sub hl [0, 2, 1, 3] rfl) ?_
                      rw [hO, f_X2_groupsUpFrom_L42, if_neg c_3, if_neg c_4]
              refine h_42 7 0 v2_33 _ _ _ (by omega) (by omega)  hW hS (lv_sub hl [0, 1, 2, 3] rfl) ?_
              rw [hO, f_X2_groupsUpFrom_L33, if_neg c_2]
        refine h_33 7 0 v2_4 _ _ _ (by omega) (by omega)  hW hS (lv_sub hl [0, 1, 2] rfl) ?_
        rw [hO, f_X2_groupsUpFrom_L4, if_pos c_1]
      · have hi_c_1 : k4 < 6 := idx_lt c_1 (by decide) (by decide) (by omega)
        refine lv_iload_n hx hb dX2_groupsUpFrom_10 rfl (lv_at hl 1 rfl) ?_
        refine lv_aload_n hx hb dX2_groupsUpFrom_11 rfl (lv_at hl 2 rfl) ?_
        refine gf_X2_9 hC hW m_2 rfl dX2_groupsUpFrom_12 ?_
        refine lv_iload_n hx hb dX2_groupsUpFrom_15 rfl (lv_at hl 0 rfl) ?_
        refine w_iald hC hW m_12 (n := 6) rfl (vp_in_nI (by omega) (by omega)) dX2_groupsUpFrom_16 ?_
        refine lv_eqi (y := σ 12 0 k4) (by rw [nI_clamp (by omega)]) ?_
        refine lv_iload_n hx hb dX2_groupsUpFrom_17 rfl (lv_at hl 3 rfl) ?_
        refine lv_ishr hx hb dX2_groupsUpFrom_18 ?_
        refine lv_iconst (v := 1) hx hb dX2_groupsUpFrom_19 (by decide) ?_
        refine lv_iand hx hb dX2_groupsUpFrom_20 ?_
        refine lv_iload_n hx hb dX2_groupsUpFrom_21 rfl (lv_at hl 0 rfl) ?_
        refine lv_ishl hx hb dX2_groupsUpFrom_22 ?_
        refine lv_ior hx hb dX2_groupsUpFrom_23 ?_
        refine lv_istore_n (lv' := [(2, .int (v2_4 ||| ((((σ 12 0 k4) >>> (u &&& 31)) &&& (1 : Int32)) <<< ((nI k4) &&& 31)))), (3, .int (nI k4)), (0, .ref (ad 2 0)), (1, .int u)]) hx hb dX2_groupsUpFrom_24 rfl hl (by decide) rfl (fun ls hl => ?_)
        refine lv_iinc (v := nI (k4 + 1)) (lv' := [(3, .int (nI (k4 + 1))), (2, .int (v2_4 ||| ((((σ 12 0 k4) >>> (u &&& 31)) &&& (1 : Int32)) <<< ((nI k4) &&& 31)))), (0, .ref (ad 2 0)), (1, .int u)]) hx hb dX2_groupsUpFrom_25 hl (k := 1) rfl (nI_1 _) (by decide) rfl (fun ls hl => ?_)
        refine lv_goto (tgt := 4) hx hb dX2_groupsUpFrom_28 (by decide) ?_
        refine ih_4 (k4 + 1) (v2_4 ||| ((((σ 12 0 k4) >>> (u &&& 31)) &&& (1 : Int32)) <<< ((nI k4) &&& 31))) _ _ _ (by omega) (by omega)  hW hS (lv_sub hl [0, 1, 2, 3] rfl) ?_
        rw [hO, f_X2_groupsUpFrom_L4, if_neg c_1]
  refine h_4 7 0 0 _ _ _ (by omega) (by omega)  hW hS (lv_sub hl [0, 1, 2, 3] rfl) ?_
  rw [f_X2_groupsUpFrom]

def f_X2_groupsDownFrom_L15 (g : Int32) : Nat → Nat → Int32 → Sg → Int32
  | 0, _, v2_15, _ => v2_15
  | n15 + 1, k15, v2_15, σ => if 6 ≤ (nI k15) then v2_15
    else if ((v2_15 >>> ((nI k15) &&& 31)) &&& (1 : Int32)) = 0 then f_X2_groupsDownFrom_L15 g n15 (k15 + 1) v2_15 σ
    else f_X2_groupsDownFrom_L15 g n15 (k15 + 1) (v2_15 ||| (σ 13 0 k15)) σ
def f_X2_groupsDownFrom_L6 (g : Int32) : Nat → Nat → Int32 → Sg → Int32
  | 0, _, v2_6, _ => v2_6
  | n6 + 1, k6, v2_6, σ => if 6 ≤ (nI k6) then v2_6
    else f_X2_groupsDownFrom_L6 g n6 (k6 + 1) (f_X2_groupsDownFrom_L15 g 7 0 v2_6 σ) σ
def f_X2_groupsDownFrom (g : Int32) (σ : Sg) : Int32 :=
  (f_X2_groupsDownFrom_L6 g 7 0 ((1 : Int32) <<< (g &&& 31)) σ)
set_option maxHeartbeats 4000000 in
set_option maxRecDepth 100000 in
theorem c_X2_groupsDownFrom (l : Launch) (hl9 : l.stackTraces = false) (D : va_G) (ca : Nat → ClassId) (base : Nat) (ad : Adr) (σ : Sg) (g : Int32)  : Mt l yX2_groupsDownFrom cX2_groupsDownFrom 5 (some .int) { frames := 0, cells := 0, slots := 0, locals := 0 } D ca base ad ρm Lm [.ref (ad 2 0), .int g] σ (some (.int (f_X2_groupsDownFrom g σ))) σ := by
  refine w_ofW (by decide) (Nat.le_of_ble_eq_true rfl) rfl ?_
  intro p e s m args below meth c hC hW hS ls hl hin
  have hx := hC.1
  have hb := hC.2.1
  refine lv_iconst (v := 1) hx hb dX2_groupsDownFrom_0 (by decide) ?_
  refine lv_iload_n hx hb dX2_groupsDownFrom_1 rfl (lv_at hl 1 rfl) ?_
  refine lv_ishl hx hb dX2_groupsDownFrom_2 ?_
  refine lv_istore_n (lv' := [(2, .int ((1 : Int32) <<< (g &&& 31))), (0, .ref (ad 2 0)), (1, .int g)]) hx hb dX2_groupsDownFrom_3 rfl hl (by decide) rfl (fun ls hl => ?_)
  refine lv_iconst (v := 0) hx hb dX2_groupsDownFrom_4 (by decide) ?_
  refine lv_istore_n (lv' := [(3, .int 0), (2, .int ((1 : Int32) <<< (g &&& 31))), (0, .ref (ad 2 0)), (1, .int g)]) hx hb dX2_groupsDownFrom_5 rfl hl (by decide) rfl (fun ls hl => ?_)
  have h_6 : ∀ (n6 k6 : Nat) (v2_6 : Int32) (H : Heap) (locs : List Loc) (ls : Array Slot), 7 ≤ k6 + n6 → k6 ≤ 6 → Wd D ca (Ab base) ad ρm Lm σ H → va_S (Ab base) s.heap H locs → lv_has ls 5 [(3, .int (nI k6)), (2, .int v2_6), (0, .ref (ad 2 0))] → f_X2_groupsDownFrom g σ = ((f_X2_groupsDownFrom_L6 g n6 k6 v2_6 σ)) → W p l e ({ frames := 0, cells := 0, slots := 0, locals := 0 } : Room) s m args below meth c H locs 0 0 (MQ below (Rt D ca base ad ρm Lm σ (some (.int (f_X2_groupsDownFrom g σ)))) args s 0 0 (Ab base)) (F0 m 6 ls []) := by
    intro n6
    induction n6 with
    | zero =>
      intro k6 v2_6 H locs ls hk1_6 hk2_6 hW hS hl hO
      exact absurd hk1_6 (by omega)
    | succ n6 ih_6 =>
      intro k6 v2_6 H locs ls hk1_6 hk2_6 hW hS hl hO
      refine lv_iload_n hx hb dX2_groupsDownFrom_6 rfl (lv_at hl 0 rfl) ?_
      refine lv_bipush (v := 6) hx hb dX2_groupsDownFrom_7 (by decide) ?_
      refine lv_icmp_ge (tgt := 53) hx hb dX2_groupsDownFrom_9 (by decide) (fun c_1 => ?_) (fun c_1 => ?_)
      · replace hl := lv_sub hl [1, 2] (l' := [(2, .int v2_6), (0, .ref (ad 2 0))]) rfl
        refine lv_iload_n hx hb dX2_groupsDownFrom_53 rfl (lv_at hl 0 rfl) ?_
        have hO : f_X2_groupsDownFrom g σ = v2_6 := by rw [hO, f_X2_groupsDownFrom_L6, if_pos c_1]
        exact w_iretP hC hW hS hO (Nat.le_of_ble_eq_true rfl) (Nat.le_of_ble_eq_true rfl) dX2_groupsDownFrom_54
      · have hi_c_1 : k6 < 6 := idx_lt c_1 (by decide) (by decide) (by omega)
        refine lv_iconst (v := 0) hx hb dX2_groupsDownFrom_12 (by decide) ?_
        refine lv_istore (lv' := [(4, .int 0), (3, .int (nI k6)), (2, .int v2_6), (0, .ref (ad 2 0))]) hx hb dX2_groupsDownFrom_13 hl (by decide) rfl (fun ls hl => ?_)
        have h_15 : ∀ (n15 k15 : Nat) (v2_15 : Int32) (H : Heap) (locs : List Loc) (ls : Array Slot), 7 ≤ k15 + n15 → k15 ≤ 6 → Wd D ca (Ab base) ad ρm Lm σ H → va_S (Ab base) s.heap H locs → lv_has ls 5 [(4, .int (nI k15)), (3, .int (nI k6)), (2, .int v2_15), (0, .ref (ad 2 0))] → f_X2_groupsDownFrom g σ = ((f_X2_groupsDownFrom_L6 g n6 (k6 + 1) (f_X2_groupsDownFrom_L15 g n15 k15 v2_15 σ) σ)) → W p l e ({ frames := 0, cells := 0, slots := 0, locals := 0 } : Room) s m args below meth c H locs 0 0 (MQ below (Rt D ca base ad ρm Lm σ (some (.int (f_X2_groupsDownFrom g σ)))) args s 0 0 (Ab base)) (F0 m 15 ls []) := by
          intro n15
          induction n15 with
          | zero =>
            intro k15 v2_15 H locs ls hk1_15 hk2_15 hW hS hl hO
            exact absurd hk1_15 (by omega)
          | succ n15 ih_15 =>
            intro k15 v2_15 H locs ls hk1_15 hk2_15 hW hS hl hO
            refine lv_iload hx hb dX2_groupsDownFrom_15 (lv_at hl 0 rfl) ?_
            refine lv_bipush (v := 6) hx hb dX2_groupsDownFrom_17 (by decide) ?_
            refine lv_icmp_ge (tgt := 47) hx hb dX2_groupsDownFrom_19 (by decide) (fun c_2 => ?_) (fun c_2 => ?_)
            · replace hl := lv_sub hl [1, 2, 3] (l' := [(3, .int (nI k6)), (2, .int v2_15), (0, .ref (ad 2 0))]) rfl
              refine lv_iinc (v := nI (k6 + 1)) (lv' := [(3, .int (nI (k6 + 1))), (2, .int v2_15), (0, .ref (ad 2 0))]) hx hb dX2_groupsDownFrom_47 hl (k := 0) rfl (nI_1 _) (by decide) rfl (fun ls hl => ?_)
              refine lv_goto (tgt := 6) hx hb dX2_groupsDownFrom_50 (by decide) ?_
              refine ih_6 (k6 + 1) v2_15 _ _ _ (by omega) (by omega)  hW hS (lv_sub hl [0, 1, 2] rfl) ?_
              rw [hO, f_X2_groupsDownFrom_L15, if_pos c_2]
            · have hi_c_2 : k15 < 6 := idx_lt c_2 (by decide) (by decide) (by omega)
              refine lv_iload_n hx hb dX2_groupsDownFrom_22 rfl (lv_at hl 2 rfl) ?_
              refine lv_iload hx hb dX2_groupsDownFrom_23 (lv_at hl 0 rfl) ?_
              refine lv_ishr hx hb dX2_groupsDownFrom_25 ?_
              refine lv_iconst (v := 1) hx hb dX2_groupsDownFrom_26 (by decide) ?_
              refine lv_iand hx hb dX2_groupsDownFrom_27 ?_
              refine lv_if_eq (tgt := 41) hx hb dX2_groupsDownFrom_28 (by decide) (fun c_3 => ?_) (fun c_3 => ?_)
              · refine lv_iinc (v := nI (k15 + 1)) (lv' := [(4, .int (nI (k15 + 1))), (3, .int (nI k6)), (2, .int v2_15), (0, .ref (ad 2 0))]) hx hb dX2_groupsDownFrom_41 hl (k := 0) rfl (nI_1 _) (by decide) rfl (fun ls hl => ?_)
                refine lv_goto (tgt := 15) hx hb dX2_groupsDownFrom_44 (by decide) ?_
                refine ih_15 (k15 + 1) v2_15 _ _ _ (by omega) (by omega)  hW hS (lv_sub hl [0, 1, 2, 3] rfl) ?_
                rw [hO, f_X2_groupsDownFrom_L15, if_neg c_2, if_pos c_3]
              · refine lv_iload_n hx hb dX2_groupsDownFrom_31 rfl (lv_at hl 2 rfl) ?_
                refine lv_aload_n hx hb dX2_groupsDownFrom_32 rfl (lv_at hl 3 rfl) ?_
                refine gf_X2_15 hC hW m_2 rfl dX2_groupsDownFrom_33 ?_
                refine lv_iload hx hb dX2_groupsDownFrom_36 (lv_at hl 0 rfl) ?_
                refine w_iald hC hW m_13 (n := 6) rfl (vp_in_nI (by omega) (by omega)) dX2_groupsDownFrom_38 ?_
                refine lv_eqi (y := σ 13 0 k15) (by rw [nI_clamp (by omega)]) ?_
                refine lv_ior hx hb dX2_groupsDownFrom_39 ?_
                refine lv_istore_n (lv' := [(2, .int (v2_15 ||| (σ 13 0 k15))), (4, .int (nI k15)), (3, .int (nI k6)), (0, .ref (ad 2 0))]) hx hb dX2_groupsDownFrom_40 rfl hl (by decide) rfl (fun ls hl => ?_)
                refine lv_iinc (v := nI (k15 + 1)) (lv' := [(4, .int (nI (k15 + 1))), (2, .int (v2_15 ||| (σ 13 0 k15))), (3, .int (nI k6)), (0, .ref (ad 2 0))]) hx hb dX2_groupsDownFrom_41 hl (k := 1) rfl (nI_1 _) (by decide) rfl (fun ls hl => ?_)
                refine lv_goto (tgt := 15) hx hb dX2_groupsDownFrom_44 (by decide) ?_
                refine ih_15 (k15 + 1) (v2_15 ||| (σ 13 0 k15)) _ _ _ (by omega) (by omega)  hW hS (lv_sub hl [0, 2, 1, 3] rfl) ?_
                rw [hO, f_X2_groupsDownFrom_L15, if_neg c_2, if_neg c_3]
        refine h_15 7 0 v2_6 _ _ _ (by omega) (by omega)  hW hS (lv_sub hl [0, 1, 2, 3] rfl) ?_
        rw [hO, f_X2_groupsDownFrom_L6, if_neg c_1]
  refine h_6 7 0 ((1 : Int32) <<< (g &&& 31)) _ _ _ (by omega) (by omega)  hW hS (lv_sub hl [0, 1, 2] rfl) ?_
  rw [f_X2_groupsDownFrom]

def s_X2_tell_L64 (g : Int32) (b : Int32) (x : Int32) (is : Int32) : Nat → Nat → Sg → Sg
  | 0, _, σ64 => σ64
  | n64 + 1, k64, σ64 => if 6 ≤ (nI k64) then σ64
    else s_X2_tell_L64 g b x is n64 (k64 + 1) (us σ64 14 0 k64 (f_X2_groupsUpFrom (nI k64) σ64))
def s_X2_tell (g : Int32) (b : Int32) (x : Int32) (is : Int32) (σ : Sg) : Sg :=
  if g < 0 then σ
  else if g < 6 then (if b = 0 then (if is = 0 then (s_X2_tell_L64 g b x is 7 0 (us σ 12 0 g.toNatClampNeg ((σ 12 0 g.toNatClampNeg) &&& (((1 : Int32) <<< (x &&& 31)) ^^^ (-1 : Int32)))))
      else (s_X2_tell_L64 g b x is 7 0 (us σ 12 0 g.toNatClampNeg ((σ 12 0 g.toNatClampNeg) ||| ((1 : Int32) <<< (x &&& 31))))))
    else if is = 0 then (s_X2_tell_L64 g b x is 7 0 (us σ 13 0 g.toNatClampNeg ((σ 13 0 g.toNatClampNeg) &&& (((1 : Int32) <<< (x &&& 31)) ^^^ (-1 : Int32)))))
    else (s_X2_tell_L64 g b x is 7 0 (us σ 13 0 g.toNatClampNeg ((σ 13 0 g.toNatClampNeg) ||| ((1 : Int32) <<< (x &&& 31))))))
  else σ
set_option maxHeartbeats 4000000 in
set_option maxRecDepth 100000 in
theorem c_X2_tell (l : Launch) (hl9 : l.stackTraces = false) (D : va_G) (ca : Nat → ClassId) (base : Nat) (ad : Adr) (σ : Sg) (g : Int32) (b : Int32) (x : Int32) (is : Int32)  : Mt l yX2_tell cX2_tell 8 none { frames := 1, cells := 0, slots := 0, locals := 24 } D ca base ad ρm Lm [.ref (ad 2 0), .int g, .int b, .int x, .int is] σ none (s_X2_tell g b x is σ) := by
  refine w_ofW (by decide) (Nat.le_of_ble_eq_true rfl) rfl ?_
  intro p e s m args below meth c hC hW hS ls hl hin
  have hx := hC.1
  have hb := hC.2.1
  refine lv_iload_n hx hb dX2_tell_0 rfl (lv_at hl 1 rfl) ?_
  refine lv_if_lt (tgt := 10) hx hb dX2_tell_1 (by decide) (fun c_1 => ?_) (fun c_1 => ?_)
  · have hO : s_X2_tell g b x is σ = σ := by rw [s_X2_tell, if_pos c_1]
    exact w_vretV hC hW hS hO (Nat.le_of_ble_eq_true rfl) (Nat.le_of_ble_eq_true rfl) dX2_tell_10
  · refine lv_iload_n hx hb dX2_tell_4 rfl (lv_at hl 1 rfl) ?_
    refine lv_bipush (v := 6) hx hb dX2_tell_5 (by decide) ?_
    refine lv_icmp_lt (tgt := 11) hx hb dX2_tell_7 (by decide) (fun c_2 => ?_) (fun c_2 => ?_)
    · refine lv_iload_n hx hb dX2_tell_11 rfl (lv_at hl 2 rfl) ?_
      refine lv_if_eq (tgt := 22) hx hb dX2_tell_12 (by decide) (fun c_3 => ?_) (fun c_3 => ?_)
      · refine lv_aload_n hx hb dX2_tell_22 rfl (lv_at hl 0 rfl) ?_
        refine gf_X2_9 hC hW m_2 rfl dX2_tell_23 ?_
        refine lv_astore (lv' := [(5, .ref (ad 12 0)), (0, .ref (ad 2 0)), (1, .int g), (2, .int b), (3, .int x), (4, .int is)]) hx hb dX2_tell_26 hl (by decide) rfl (fun ls hl => ?_)
        refine lv_iconst (v := 1) hx hb dX2_tell_28 (by decide) ?_
        refine lv_iload_n hx hb dX2_tell_29 rfl (lv_at hl 4 rfl) ?_
        refine lv_ishl hx hb dX2_tell_30 ?_
        refine lv_istore (lv' := [(6, .int ((1 : Int32) <<< (x &&& 31))), (5, .ref (ad 12 0)), (0, .ref (ad 2 0)), (1, .int g), (2, .int b), (3, .int x), (4, .int is)]) hx hb dX2_tell_31 hl (by decide) rfl (fun ls hl => ?_)
        refine lv_aload hx hb dX2_tell_33 (lv_at hl 1 rfl) ?_
        refine lv_iload_n hx hb dX2_tell_35 rfl (lv_at hl 3 rfl) ?_
        refine lv_iload hx hb dX2_tell_36 (lv_at hl 6 rfl) ?_
        refine lv_if_eq (tgt := 51) hx hb dX2_tell_38 (by decide) (fun c_4 => ?_) (fun c_4 => ?_)
        · refine lv_aload hx hb dX2_tell_51 (lv_at hl 1 rfl) ?_
          refine lv_iload_n hx hb dX2_tell_53 rfl (lv_at hl 3 rfl) ?_
          refine w_iald hC hW m_12 (n := 6) rfl (by first | assumption | exact vp_in_c (y := 6) (by decide) (by decide) (by assumption) (by assumption) | exact vp_in_d (y := 6) (by decide) (by decide) (by assumption) (by assumption)) dX2_tell_54 ?_
          refine lv_iload hx hb dX2_tell_55 (lv_at hl 0 rfl) ?_
          refine lv_iconst (v := (-1)) hx hb dX2_tell_57 (by decide) ?_
          refine lv_ixor hx hb dX2_tell_58 ?_
          refine lv_iand hx hb dX2_tell_59 ?_
          refine w_iast hC hW hS m_12 (n := 6) (fun _ => rfl) (by first | assumption | exact vp_in_c (y := 6) (by decide) (by decide) (by assumption) (by assumption) | exact vp_in_d (y := 6) (by decide) (by decide) (by assumption) (by assumption)) dX2_tell_60 (fun H locs hW hS => ?_)
          refine lv_iconst (v := 0) hx hb dX2_tell_61 (by decide) ?_
          refine lv_istore (lv' := [(7, .int 0), (6, .int ((1 : Int32) <<< (x &&& 31))), (5, .ref (ad 12 0)), (0, .ref (ad 2 0)), (1, .int g), (2, .int b), (3, .int x), (4, .int is)]) hx hb dX2_tell_62 hl (by decide) rfl (fun ls hl => ?_)
          have h_64 : ∀ (n64 k64 : Nat) (σ64 : Sg) (H : Heap) (locs : List Loc) (ls : Array Slot), 7 ≤ k64 + n64 → k64 ≤ 6 → Wd D ca (Ab base) ad ρm Lm σ64 H → va_S (Ab base) s.heap H locs → lv_has ls 8 [(7, .int (nI k64)), (0, .ref (ad 2 0))] → s_X2_tell g b x is σ = ((s_X2_tell_L64 g b x is n64 k64 σ64)) → W p l e ({ frames := 1, cells := 0, slots := 0, locals := 24 } : Room) s m args below meth c H locs 0 0 (MQ below (Rt D ca base ad ρm Lm (s_X2_tell g b x is σ) none) args s 0 0 (Ab base)) (F0 m 64 ls []) := by
            intro n64
            induction n64 with
            | zero =>
              intro k64 σ64 H locs ls hk1_64 hk2_64 hW hS hl hO
              exact absurd hk1_64 (by omega)
            | succ n64 ih_64 =>
              intro k64 σ64 H locs ls hk1_64 hk2_64 hW hS hl hO
              refine lv_iload hx hb dX2_tell_64 (lv_at hl 0 rfl) ?_
              refine lv_bipush (v := 6) hx hb dX2_tell_66 (by decide) ?_
              refine lv_icmp_ge (tgt := 90) hx hb dX2_tell_68 (by decide) (fun c_5 => ?_) (fun c_5 => ?_)
              · replace hl := lv_sub hl [1] (l' := [(0, .ref (ad 2 0))]) rfl
                have hO : s_X2_tell g b x is σ = σ64 := by rw [hO, s_X2_tell_L64, if_pos c_5]
                exact w_vretV hC hW hS hO (Nat.le_of_ble_eq_true rfl) (Nat.le_of_ble_eq_true rfl) dX2_tell_90
              · have hi_c_5 : k64 < 6 := idx_lt c_5 (by decide) (by decide) (by omega)
                refine lv_aload_n hx hb dX2_tell_71 rfl (lv_at hl 1 rfl) ?_
                refine gf_X2_18 hC hW m_2 rfl dX2_tell_72 ?_
                refine lv_iload hx hb dX2_tell_75 (lv_at hl 0 rfl) ?_
                refine lv_aload_n hx hb dX2_tell_77 rfl (lv_at hl 1 rfl) ?_
                refine lv_iload hx hb dX2_tell_78 (lv_at hl 0 rfl) ?_
                refine w_callV (As := [.int (nI k64)]) (rest := .int (nI k64) :: .ref (ad 14 0) :: []) (st2 := .int (f_X2_groupsUpFrom (nI k64) σ64) :: .int (nI k64) :: .ref (ad 14 0) :: []) hC hW hS hl cv_X2_24 m_2 (by decide) rfl (c_X2_groupsUpFrom l hl9 D ca base ad σ64 (nI k64) ) rfl rfl rfl ⟨Nat.le_of_ble_eq_true rfl, Nat.le_of_ble_eq_true rfl⟩ (Nat.le_of_ble_eq_true rfl) dX2_tell_80 ⟨Nat.le_of_ble_eq_true rfl, Nat.le_of_ble_eq_true rfl⟩ (fun H locs hW hS => ?_)
                refine w_iast hC hW hS m_14 (n := 6) (fun _ => rfl) (vp_in_nI (by omega) (by omega)) dX2_tell_83 (fun H locs hW hS => ?_)
                rw [nI_clamp (by omega)] at hW
                refine lv_iinc (v := nI (k64 + 1)) (lv' := [(7, .int (nI (k64 + 1))), (0, .ref (ad 2 0))]) hx hb dX2_tell_84 hl (k := 0) rfl (nI_1 _) (by decide) rfl (fun ls hl => ?_)
                refine lv_goto (tgt := 64) hx hb dX2_tell_87 (by decide) ?_
                refine ih_64 (k64 + 1) (us σ64 14 0 k64 (f_X2_groupsUpFrom (nI k64) σ64)) _ _ _ (by omega) (by omega)  hW hS (lv_sub hl [0, 1] rfl) ?_
                rw [hO, s_X2_tell_L64, if_neg c_5]
          refine h_64 7 0 (us σ 12 0 g.toNatClampNeg ((σ 12 0 g.toNatClampNeg) &&& (((1 : Int32) <<< (x &&& 31)) ^^^ (-1 : Int32)))) _ _ _ (by omega) (by omega)  hW hS (lv_sub hl [0, 3] rfl) ?_
          rw [s_X2_tell, if_neg c_1, if_pos c_2, if_pos c_3, if_pos c_4]
        · refine lv_aload hx hb dX2_tell_41 (lv_at hl 1 rfl) ?_
          refine lv_iload_n hx hb dX2_tell_43 rfl (lv_at hl 3 rfl) ?_
          refine w_iald hC hW m_12 (n := 6) rfl (by first | assumption | exact vp_in_c (y := 6) (by decide) (by decide) (by assumption) (by assumption) | exact vp_in_d (y := 6) (by decide) (by decide) (by assumption) (by assumption)) dX2_tell_44 ?_
          refine lv_iload hx hb dX2_tell_45 (lv_at hl 0 rfl) ?_
          refine lv_ior hx hb dX2_tell_47 ?_
          refine lv_goto (tgt := 60) hx hb dX2_tell_48 (by decide) ?_
          refine w_iast hC hW hS m_12 (n := 6) (fun _ => rfl) (by first | assumption | exact vp_in_c (y := 6) (by decide) (by decide) (by assumption) (by assumption) | exact vp_in_d (y := 6) (by decide) (by decide) (by assumption) (by assumption)) dX2_tell_60 (fun H locs hW hS => ?_)
          refine lv_iconst (v := 0) hx hb dX2_tell_61 (by decide) ?_
          refine lv_istore (lv' := [(7, .int 0), (6, .int ((1 : Int32) <<< (x &&& 31))), (5, .ref (ad 12 0)), (0, .ref (ad 2 0)), (1, .int g), (2, .int b), (3, .int x), (4, .int is)]) hx hb dX2_tell_62 hl (by decide) rfl (fun ls hl => ?_)
          have h_64 : ∀ (n64 k64 : Nat) (σ64 : Sg) (H : Heap) (locs : List Loc) (ls : Array Slot), 7 ≤ k64 + n64 → k64 ≤ 6 → Wd D ca (Ab base) ad ρm Lm σ64 H → va_S (Ab base) s.heap H locs → lv_has ls 8 [(7, .int (nI k64)), (0, .ref (ad 2 0))] → s_X2_tell g b x is σ = ((s_X2_tell_L64 g b x is n64 k64 σ64)) → W p l e ({ frames := 1, cells := 0, slots := 0, locals := 24 } : Room) s m args below meth c H locs 0 0 (MQ below (Rt D ca base ad ρm Lm (s_X2_tell g b x is σ) none) args s 0 0 (Ab base)) (F0 m 64 ls []) := by
            intro n64
            induction n64 with
            | zero =>
              intro k64 σ64 H locs ls hk1_64 hk2_64 hW hS hl hO
              exact absurd hk1_64 (by omega)
            | succ n64 ih_64 =>
              intro k64 σ64 H locs ls hk1_64 hk2_64 hW hS hl hO
              refine lv_iload hx hb dX2_tell_64 (lv_at hl 0 rfl) ?_
              refine lv_bipush (v := 6) hx hb dX2_tell_66 (by decide) ?_
              refine lv_icmp_ge (tgt := 90) hx hb dX2_tell_68 (by decide) (fun c_6 => ?_) (fun c_6 => ?_)
              · replace hl := lv_sub hl [1] (l' := [(0, .ref (ad 2 0))]) rfl
                have hO : s_X2_tell g b x is σ = σ64 := by rw [hO, s_X2_tell_L64, if_pos c_6]
                exact w_vretV hC hW hS hO (Nat.le_of_ble_eq_true rfl) (Nat.le_of_ble_eq_true rfl) dX2_tell_90
              · have hi_c_6 : k64 < 6 := idx_lt c_6 (by decide) (by decide) (by omega)
                refine lv_aload_n hx hb dX2_tell_71 rfl (lv_at hl 1 rfl) ?_
                refine gf_X2_18 hC hW m_2 rfl dX2_tell_72 ?_
                refine lv_iload hx hb dX2_tell_75 (lv_at hl 0 rfl) ?_
                refine lv_aload_n hx hb dX2_tell_77 rfl (lv_at hl 1 rfl) ?_
                refine lv_iload hx hb dX2_tell_78 (lv_at hl 0 rfl) ?_
                refine w_callV (As := [.int (nI k64)]) (rest := .int (nI k64) :: .ref (ad 14 0) :: []) (st2 := .int (f_X2_groupsUpFrom (nI k64) σ64) :: .int (nI k64) :: .ref (ad 14 0) :: []) hC hW hS hl cv_X2_24 m_2 (by decide) rfl (c_X2_groupsUpFrom l hl9 D ca base ad σ64 (nI k64) ) rfl rfl rfl ⟨Nat.le_of_ble_eq_true rfl, Nat.le_of_ble_eq_true rfl⟩ (Nat.le_of_ble_eq_true rfl) dX2_tell_80 ⟨Nat.le_of_ble_eq_true rfl, Nat.le_of_ble_eq_true rfl⟩ (fun H locs hW hS => ?_)
                refine w_iast hC hW hS m_14 (n := 6) (fun _ => rfl) (vp_in_nI (by omega) (by omega)) dX2_tell_83 (fun H locs hW hS => ?_)
                rw [nI_clamp (by omega)] at hW
                refine lv_iinc (v := nI (k64 + 1)) (lv' := [(7, .int (nI (k64 + 1))), (0, .ref (ad 2 0))]) hx hb dX2_tell_84 hl (k := 0) rfl (nI_1 _) (by decide) rfl (fun ls hl => ?_)
                refine lv_goto (tgt := 64) hx hb dX2_tell_87 (by decide) ?_
                refine ih_64 (k64 + 1) (us σ64 14 0 k64 (f_X2_groupsUpFrom (nI k64) σ64)) _ _ _ (by omega) (by omega)  hW hS (lv_sub hl [0, 1] rfl) ?_
                rw [hO, s_X2_tell_L64, if_neg c_6]
          refine h_64 7 0 (us σ 12 0 g.toNatClampNeg ((σ 12 0 g.toNatClampNeg) ||| ((1 : Int32) <<< (x &&& 31)))) _ _ _ (by omega) (by omega)  hW hS (lv_sub hl [0, 3] rfl) ?_
          rw [s_X2_tell, if_neg c_1, if_pos c_2, if_pos c_3, if_neg c_4]
      · refine lv_aload_n hx hb dX2_tell_15 rfl (lv_at hl 0 rfl) ?_
        refine gf_X2_15 hC hW m_2 rfl dX2_tell_16 ?_
        refine lv_goto (tgt := 26) hx hb dX2_tell_19 (by decide) ?_
        refine lv_astore (lv' := [(5, .ref (ad 13 0)), (0, .ref (ad 2 0)), (1, .int g), (2, .int b), (3, .int x), (4, .int is)]) hx hb dX2_tell_26 hl (by decide) rfl (fun ls hl => ?_)
        refine lv_iconst (v := 1) hx hb dX2_tell_28 (by decide) ?_
        refine lv_iload_n hx hb dX2_tell_29 rfl (lv_at hl 4 rfl) ?_
        refine lv_ishl hx hb dX2_tell_30 ?_
        refine lv_istore (lv' := [(6, .int ((1 : Int32) <<< (x &&& 31))), (5, .ref (ad 13 0)), (0, .ref (ad 2 0)), (1, .int g), (2, .int b), (3, .int x), (4, .int is)]) hx hb dX2_tell_31 hl (by decide) rfl (fun ls hl => ?_)
        refine lv_aload hx hb dX2_tell_33 (lv_at hl 1 rfl) ?_
        refine lv_iload_n hx hb dX2_tell_35 rfl (lv_at hl 3 rfl) ?_
        refine lv_iload hx hb dX2_tell_36 (lv_at hl 6 rfl) ?_
        refine lv_if_eq (tgt := 51) hx hb dX2_tell_38 (by decide) (fun c_7 => ?_) (fun c_7 => ?_)
        · refine lv_aload hx hb dX2_tell_51 (lv_at hl 1 rfl) ?_
          refine lv_iload_n hx hb dX2_tell_53 rfl (lv_at hl 3 rfl) ?_
          refine w_iald hC hW m_13 (n := 6) rfl (by first | assumption | exact vp_in_c (y := 6) (by decide) (by decide) (by assumption) (by assumption) | exact vp_in_d (y := 6) (by decide) (by decide) (by assumption) (by assumption)) dX2_tell_54 ?_
          refine lv_iload hx hb dX2_tell_55 (lv_at hl 0 rfl) ?_
          refine lv_iconst (v := (-1)) hx hb dX2_tell_57 (by decide) ?_
          refine lv_ixor hx hb dX2_tell_58 ?_
          refine lv_iand hx hb dX2_tell_59 ?_
          refine w_iast hC hW hS m_13 (n := 6) (fun _ => rfl) (by first | assumption | exact vp_in_c (y := 6) (by decide) (by decide) (by assumption) (by assumption) | exact vp_in_d (y := 6) (by decide) (by decide) (by assumption) (by assumption)) dX2_tell_60 (fun H locs hW hS => ?_)
          refine lv_iconst (v := 0) hx hb dX2_tell_61 (by decide) ?_
          refine lv_istore (lv' := [(7, .int 0), (6, .int ((1 : Int32) <<< (x &&& 31))), (5, .ref (ad 13 0)), (0, .ref (ad 2 0)), (1, .int g), (2, .int b), (3, .int x), (4, .int is)]) hx hb dX2_tell_62 hl (by decide) rfl (fun ls hl => ?_)
          have h_64 : ∀ (n64 k64 : Nat) (σ64 : Sg) (H : Heap) (locs : List Loc) (ls : Array Slot), 7 ≤ k64 + n64 → k64 ≤ 6 → Wd D ca (Ab base) ad ρm Lm σ64 H → va_S (Ab base) s.heap H locs → lv_has ls 8 [(7, .int (nI k64)), (0, .ref (ad 2 0))] → s_X2_tell g b x is σ = ((s_X2_tell_L64 g b x is n64 k64 σ64)) → W p l e ({ frames := 1, cells := 0, slots := 0, locals := 24 } : Room) s m args below meth c H locs 0 0 (MQ below (Rt D ca base ad ρm Lm (s_X2_tell g b x is σ) none) args s 0 0 (Ab base)) (F0 m 64 ls []) := by
            intro n64
            induction n64 with
            | zero =>
              intro k64 σ64 H locs ls hk1_64 hk2_64 hW hS hl hO
              exact absurd hk1_64 (by omega)
            | succ n64 ih_64 =>
              intro k64 σ64 H locs ls hk1_64 hk2_64 hW hS hl hO
              refine lv_iload hx hb dX2_tell_64 (lv_at hl 0 rfl) ?_
              refine lv_bipush (v := 6) hx hb dX2_tell_66 (by decide) ?_
              refine lv_icmp_ge (tgt := 90) hx hb dX2_tell_68 (by decide) (fun c_8 => ?_) (fun c_8 => ?_)
              · replace hl := lv_sub hl [1] (l' := [(0, .ref (ad 2 0))]) rfl
                have hO : s_X2_tell g b x is σ = σ64 := by rw [hO, s_X2_tell_L64, if_pos c_8]
                exact w_vretV hC hW hS hO (Nat.le_of_ble_eq_true rfl) (Nat.le_of_ble_eq_true rfl) dX2_tell_90
              · have hi_c_8 : k64 < 6 := idx_lt c_8 (by decide) (by decide) (by omega)
                refine lv_aload_n hx hb dX2_tell_71 rfl (lv_at hl 1 rfl) ?_
                refine gf_X2_18 hC hW m_2 rfl dX2_tell_72 ?_
                refine lv_iload hx hb dX2_tell_75 (lv_at hl 0 rfl) ?_
                refine lv_aload_n hx hb dX2_tell_77 rfl (lv_at hl 1 rfl) ?_
                refine lv_iload hx hb dX2_tell_78 (lv_at hl 0 rfl) ?_
                refine w_callV (As := [.int (nI k64)]) (rest := .int (nI k64) :: .ref (ad 14 0) :: []) (st2 := .int (f_X2_groupsUpFrom (nI k64) σ64) :: .int (nI k64) :: .ref (ad 14 0) :: []) hC hW hS hl cv_X2_24 m_2 (by decide) rfl (c_X2_groupsUpFrom l hl9 D ca base ad σ64 (nI k64) ) rfl rfl rfl ⟨Nat.le_of_ble_eq_true rfl, Nat.le_of_ble_eq_true rfl⟩ (Nat.le_of_ble_eq_true rfl) dX2_tell_80 ⟨Nat.le_of_ble_eq_true rfl, Nat.le_of_ble_eq_true rfl⟩ (fun H locs hW hS => ?_)
                refine w_iast hC hW hS m_14 (n := 6) (fun _ => rfl) (vp_in_nI (by omega) (by omega)) dX2_tell_83 (fun H locs hW hS => ?_)
                rw [nI_clamp (by omega)] at hW
                refine lv_iinc (v := nI (k64 + 1)) (lv' := [(7, .int (nI (k64 + 1))), (0, .ref (ad 2 0))]) hx hb dX2_tell_84 hl (k := 0) rfl (nI_1 _) (by decide) rfl (fun ls hl => ?_)
                refine lv_goto (tgt := 64) hx hb dX2_tell_87 (by decide) ?_
                refine ih_64 (k64 + 1) (us σ64 14 0 k64 (f_X2_groupsUpFrom (nI k64) σ64)) _ _ _ (by omega) (by omega)  hW hS (lv_sub hl [0, 1] rfl) ?_
                rw [hO, s_X2_tell_L64, if_neg c_8]
          refine h_64 7 0 (us σ 13 0 g.toNatClampNeg ((σ 13 0 g.toNatClampNeg) &&& (((1 : Int32) <<< (x &&& 31)) ^^^ (-1 : Int32)))) _ _ _ (by omega) (by omega)  hW hS (lv_sub hl [0, 3] rfl) ?_
          rw [s_X2_tell, if_neg c_1, if_pos c_2, if_neg c_3, if_pos c_7]
        · refine lv_aload hx hb dX2_tell_41 (lv_at hl 1 rfl) ?_
          refine lv_iload_n hx hb dX2_tell_43 rfl (lv_at hl 3 rfl) ?_
          refine w_iald hC hW m_13 (n := 6) rfl (by first | assumption | exact vp_in_c (y := 6) (by decide) (by decide) (by assumption) (by assumption) | exact vp_in_d (y := 6) (by decide) (by decide) (by assumption) (by assumption)) dX2_tell_44 ?_
          refine lv_iload hx hb dX2_tell_45 (lv_at hl 0 rfl) ?_
          refine lv_ior hx hb dX2_tell_47 ?_
          refine lv_goto (tgt := 60) hx hb dX2_tell_48 (by decide) ?_
          refine w_iast hC hW hS m_13 (n := 6) (fun _ => rfl) (by first | assumption | exact vp_in_c (y := 6) (by decide) (by decide) (by assumption) (by assumption) | exact vp_in_d (y := 6) (by decide) (by decide) (by assumption) (by assumption)) dX2_tell_60 (fun H locs hW hS => ?_)
          refine lv_iconst (v := 0) hx hb dX2_tell_61 (by decide) ?_
          refine lv_istore (lv' := [(7, .int 0), (6, .int ((1 : Int32) <<< (x &&& 31))), (5, .ref (ad 13 0)), (0, .ref (ad 2 0)), (1, .int g), (2, .int b), (3, .int x), (4, .int is)]) hx hb dX2_tell_62 hl (by decide) rfl (fun ls hl => ?_)
          have h_64 : ∀ (n64 k64 : Nat) (σ64 : Sg) (H : Heap) (locs : List Loc) (ls : Array Slot), 7 ≤ k64 + n64 → k64 ≤ 6 → Wd D ca (Ab base) ad ρm Lm σ64 H → va_S (Ab base) s.heap H locs → lv_has ls 8 [(7, .int (nI k64)), (0, .ref (ad 2 0))] → s_X2_tell g b x is σ = ((s_X2_tell_L64 g b x is n64 k64 σ64)) → W p l e ({ frames := 1, cells := 0, slots := 0, locals := 24 } : Room) s m args below meth c H locs 0 0 (MQ below (Rt D ca base ad ρm Lm (s_X2_tell g b x is σ) none) args s 0 0 (Ab base)) (F0 m 64 ls []) := by
            intro n64
            induction n64 with
            | zero =>
              intro k64 σ64 H locs ls hk1_64 hk2_64 hW hS hl hO
              exact absurd hk1_64 (by omega)
            | succ n64 ih_64 =>
              intro k64 σ64 H locs ls hk1_64 hk2_64 hW hS hl hO
              refine lv_iload hx hb dX2_tell_64 (lv_at hl 0 rfl) ?_
              refine lv_bipush (v := 6) hx hb dX2_tell_66 (by decide) ?_
              refine lv_icmp_ge (tgt := 90) hx hb dX2_tell_68 (by decide) (fun c_9 => ?_) (fun c_9 => ?_)
              · replace hl := lv_sub hl [1] (l' := [(0, .ref (ad 2 0))]) rfl
                have hO : s_X2_tell g b x is σ = σ64 := by rw [hO, s_X2_tell_L64, if_pos c_9]
                exact w_vretV hC hW hS hO (Nat.le_of_ble_eq_true rfl) (Nat.le_of_ble_eq_true rfl) dX2_tell_90
              · have hi_c_9 : k64 < 6 := idx_lt c_9 (by decide) (by decide) (by omega)
                refine lv_aload_n hx hb dX2_tell_71 rfl (lv_at hl 1 rfl) ?_
                refine gf_X2_18 hC hW m_2 rfl dX2_tell_72 ?_
                refine lv_iload hx hb dX2_tell_75 (lv_at hl 0 rfl) ?_
                refine lv_aload_n hx hb dX2_tell_77 rfl (lv_at hl 1 rfl) ?_
                refine lv_iload hx hb dX2_tell_78 (lv_at hl 0 rfl) ?_
                refine w_callV (As := [.int (nI k64)]) (rest := .int (nI k64) :: .ref (ad 14 0) :: []) (st2 := .int (f_X2_groupsUpFrom (nI k64) σ64) :: .int (nI k64) :: .ref (ad 14 0) :: []) hC hW hS hl cv_X2_24 m_2 (by decide) rfl (c_X2_groupsUpFrom l hl9 D ca base ad σ64 (nI k64) ) rfl rfl rfl ⟨Nat.le_of_ble_eq_true rfl, Nat.le_of_ble_eq_true rfl⟩ (Nat.le_of_ble_eq_true rfl) dX2_tell_80 ⟨Nat.le_of_ble_eq_true rfl, Nat.le_of_ble_eq_true rfl⟩ (fun H locs hW hS => ?_)
                refine w_iast hC hW hS m_14 (n := 6) (fun _ => rfl) (vp_in_nI (by omega) (by omega)) dX2_tell_83 (fun H locs hW hS => ?_)
                rw [nI_clamp (by omega)] at hW
                refine lv_iinc (v := nI (k64 + 1)) (lv' := [(7, .int (nI (k64 + 1))), (0, .ref (ad 2 0))]) hx hb dX2_tell_84 hl (k := 0) rfl (nI_1 _) (by decide) rfl (fun ls hl => ?_)
                refine lv_goto (tgt := 64) hx hb dX2_tell_87 (by decide) ?_
                refine ih_64 (k64 + 1) (us σ64 14 0 k64 (f_X2_groupsUpFrom (nI k64) σ64)) _ _ _ (by omega) (by omega)  hW hS (lv_sub hl [0, 1] rfl) ?_
                rw [hO, s_X2_tell_L64, if_neg c_9]
          refine h_64 7 0 (us σ 13 0 g.toNatClampNeg ((σ 13 0 g.toNatClampNeg) ||| ((1 : Int32) <<< (x &&& 31)))) _ _ _ (by omega) (by omega)  hW hS (lv_sub hl [0, 3] rfl) ?_
          rw [s_X2_tell, if_neg c_1, if_pos c_2, if_neg c_3, if_neg c_7]
    · have hO : s_X2_tell g b x is σ = σ := by rw [s_X2_tell, if_neg c_1, if_neg c_2]
      exact w_vretV hC hW hS hO (Nat.le_of_ble_eq_true rfl) (Nat.le_of_ble_eq_true rfl) dX2_tell_10
theorem fr_s_X2_tell_L64 {kk : Nat}  (g : Int32) (b : Int32) (x : Int32) (is : Int32) (h12 : kk ≠ 12) (h13 : kk ≠ 13) (h14 : kk ≠ 14) : ∀ (y0 : Nat) (y1 : Nat) (σ : Sg), (s_X2_tell_L64 g b x is y0 y1 σ) kk = σ kk := by
  intro y0
  induction y0 with
  | zero => intros; rfl
  | succ n ih =>
    intros
    rw [s_X2_tell_L64]
    repeat' split
    all_goals (first | (simp only [ih, us_kk, ne_eq, not_false_eq_true, h12, h13, h14]; done) | with_reducible rfl | (simp only [ih, us_kk, ne_eq, not_false_eq_true, h12, h13, h14]; with_reducible rfl))
theorem fr_X2_tell {kk : Nat}  {g : Int32} {b : Int32} {x : Int32} {is : Int32} {σ : Sg} (h12 : kk ≠ 12) (h13 : kk ≠ 13) (h14 : kk ≠ 14) : (s_X2_tell g b x is σ) kk = σ kk := by
  rw [s_X2_tell]
  repeat' split
  all_goals (first | (simp only [us_kk, ne_eq, not_false_eq_true, h12, h13, h14, fr_s_X2_tell_L64]; done) | with_reducible rfl | (simp only [us_kk, ne_eq, not_false_eq_true, h12, h13, h14, fr_s_X2_tell_L64]; with_reducible rfl))

def f_X2_groupsOf (u : Int32) (σ : Sg) : Int32 :=
  if u < 0 then 0
  else if u < 6 then σ 14 0 u.toNatClampNeg
  else 0
set_option maxHeartbeats 4000000 in
set_option maxRecDepth 100000 in
theorem c_X2_groupsOf (l : Launch) (hl9 : l.stackTraces = false) (D : va_G) (ca : Nat → ClassId) (base : Nat) (ad : Adr) (σ : Sg) (u : Int32)  : Mt l yX2_groupsOf cX2_groupsOf 2 (some .int) { frames := 0, cells := 0, slots := 0, locals := 0 } D ca base ad ρm Lm [.ref (ad 2 0), .int u] σ (some (.int (f_X2_groupsOf u σ))) σ := by
  refine w_ofW (by decide) (Nat.le_of_ble_eq_true rfl) rfl ?_
  intro p e s m args below meth c hC hW hS ls hl hin
  have hx := hC.1
  have hb := hC.2.1
  refine lv_iload_n hx hb dX2_groupsOf_0 rfl (lv_at hl 1 rfl) ?_
  refine lv_if_lt (tgt := 10) hx hb dX2_groupsOf_1 (by decide) (fun c_1 => ?_) (fun c_1 => ?_)
  · refine lv_iconst (v := 0) hx hb dX2_groupsOf_10 (by decide) ?_
    refine lv_goto (tgt := 20) hx hb dX2_groupsOf_11 (by decide) ?_
    have hO : f_X2_groupsOf u σ = 0 := by rw [f_X2_groupsOf, if_pos c_1]
    exact w_iretP hC hW hS hO (Nat.le_of_ble_eq_true rfl) (Nat.le_of_ble_eq_true rfl) dX2_groupsOf_20
  · refine lv_iload_n hx hb dX2_groupsOf_4 rfl (lv_at hl 1 rfl) ?_
    refine lv_bipush (v := 6) hx hb dX2_groupsOf_5 (by decide) ?_
    refine lv_icmp_lt (tgt := 14) hx hb dX2_groupsOf_7 (by decide) (fun c_2 => ?_) (fun c_2 => ?_)
    · refine lv_aload_n hx hb dX2_groupsOf_14 rfl (lv_at hl 0 rfl) ?_
      refine gf_X2_18 hC hW m_2 rfl dX2_groupsOf_15 ?_
      refine lv_iload_n hx hb dX2_groupsOf_18 rfl (lv_at hl 1 rfl) ?_
      refine w_iald hC hW m_14 (n := 6) rfl (by first | assumption | exact vp_in_c (y := 6) (by decide) (by decide) (by assumption) (by assumption) | exact vp_in_d (y := 6) (by decide) (by decide) (by assumption) (by assumption)) dX2_groupsOf_19 ?_
      have hO : f_X2_groupsOf u σ = σ 14 0 u.toNatClampNeg := by rw [f_X2_groupsOf, if_neg c_1, if_pos c_2]
      exact w_iretP hC hW hS hO (Nat.le_of_ble_eq_true rfl) (Nat.le_of_ble_eq_true rfl) dX2_groupsOf_20
    · refine lv_iconst (v := 0) hx hb dX2_groupsOf_10 (by decide) ?_
      refine lv_goto (tgt := 20) hx hb dX2_groupsOf_11 (by decide) ?_
      have hO : f_X2_groupsOf u σ = 0 := by rw [f_X2_groupsOf, if_neg c_1, if_neg c_2]
      exact w_iretP hC hW hS hO (Nat.le_of_ble_eq_true rfl) (Nat.le_of_ble_eq_true rfl) dX2_groupsOf_20

def f_X2_groupsFoundAnew (u : Int32) (σ : Sg) : Int32 :=
  if u < 0 then 0
  else if u < 6 then σ 15 0 u.toNatClampNeg
  else 0
set_option maxHeartbeats 4000000 in
set_option maxRecDepth 100000 in
theorem c_X2_groupsFoundAnew (l : Launch) (hl9 : l.stackTraces = false) (D : va_G) (ca : Nat → ClassId) (base : Nat) (ad : Adr) (σ : Sg) (u : Int32)  : Mt l yX2_groupsFoundAnew cX2_groupsFoundAnew 2 (some .int) { frames := 0, cells := 0, slots := 0, locals := 0 } D ca base ad ρm Lm [.ref (ad 2 0), .int u] σ (some (.int (f_X2_groupsFoundAnew u σ))) σ := by
  refine w_ofW (by decide) (Nat.le_of_ble_eq_true rfl) rfl ?_
  intro p e s m args below meth c hC hW hS ls hl hin
  have hx := hC.1
  have hb := hC.2.1
  refine lv_iload_n hx hb dX2_groupsFoundAnew_0 rfl (lv_at hl 1 rfl) ?_
  refine lv_if_lt (tgt := 10) hx hb dX2_groupsFoundAnew_1 (by decide) (fun c_1 => ?_) (fun c_1 => ?_)
  · refine lv_iconst (v := 0) hx hb dX2_groupsFoundAnew_10 (by decide) ?_
    refine lv_goto (tgt := 20) hx hb dX2_groupsFoundAnew_11 (by decide) ?_
    have hO : f_X2_groupsFoundAnew u σ = 0 := by rw [f_X2_groupsFoundAnew, if_pos c_1]
    exact w_iretP hC hW hS hO (Nat.le_of_ble_eq_true rfl) (Nat.le_of_ble_eq_true rfl) dX2_groupsFoundAnew_20
  · refine lv_iload_n hx hb dX2_groupsFoundAnew_4 rfl (lv_at hl 1 rfl) ?_
    refine lv_bipush (v := 6) hx hb dX2_groupsFoundAnew_5 (by decide) ?_
    refine lv_icmp_lt (tgt := 14) hx hb dX2_groupsFoundAnew_7 (by decide) (fun c_2 => ?_) (fun c_2 => ?_)
    · refine lv_aload_n hx hb dX2_groupsFoundAnew_14 rfl (lv_at hl 0 rfl) ?_
      refine gf_X2_21 hC hW m_2 rfl dX2_groupsFoundAnew_15 ?_
      refine lv_iload_n hx hb dX2_groupsFoundAnew_18 rfl (lv_at hl 1 rfl) ?_
      refine w_iald hC hW m_15 (n := 6) rfl (by first | assumption | exact vp_in_c (y := 6) (by decide) (by decide) (by assumption) (by assumption) | exact vp_in_d (y := 6) (by decide) (by decide) (by assumption) (by assumption)) dX2_groupsFoundAnew_19 ?_
      have hO : f_X2_groupsFoundAnew u σ = σ 15 0 u.toNatClampNeg := by rw [f_X2_groupsFoundAnew, if_neg c_1, if_pos c_2]
      exact w_iretP hC hW hS hO (Nat.le_of_ble_eq_true rfl) (Nat.le_of_ble_eq_true rfl) dX2_groupsFoundAnew_20
    · refine lv_iconst (v := 0) hx hb dX2_groupsFoundAnew_10 (by decide) ?_
      refine lv_goto (tgt := 20) hx hb dX2_groupsFoundAnew_11 (by decide) ?_
      have hO : f_X2_groupsFoundAnew u σ = 0 := by rw [f_X2_groupsFoundAnew, if_neg c_1, if_neg c_2]
      exact w_iretP hC hW hS hO (Nat.le_of_ble_eq_true rfl) (Nat.le_of_ble_eq_true rfl) dX2_groupsFoundAnew_20

def f_X2_isWithin (a : Int32) (b : Int32) (σ : Sg) : Int32 :=
  if (((f_X2_groupsDownFrom b σ) >>> (a &&& 31)) &&& (1 : Int32)) = 0 then 0
  else 1
set_option maxHeartbeats 4000000 in
set_option maxRecDepth 100000 in
theorem c_X2_isWithin (l : Launch) (hl9 : l.stackTraces = false) (D : va_G) (ca : Nat → ClassId) (base : Nat) (ad : Adr) (σ : Sg) (a : Int32) (b : Int32)  : Mt l yX2_isWithin cX2_isWithin 3 (some .boolean) { frames := 1, cells := 0, slots := 0, locals := 24 } D ca base ad ρm Lm [.ref (ad 2 0), .int a, .int b] σ (some (.int (f_X2_isWithin a b σ))) σ := by
  refine w_ofW (by decide) (Nat.le_of_ble_eq_true rfl) rfl ?_
  intro p e s m args below meth c hC hW hS ls hl hin
  have hx := hC.1
  have hb := hC.2.1
  refine lv_aload_n hx hb dX2_isWithin_0 rfl (lv_at hl 0 rfl) ?_
  refine lv_iload_n hx hb dX2_isWithin_1 rfl (lv_at hl 2 rfl) ?_
  refine w_callV (As := [.int b]) (rest := []) (st2 := .int (f_X2_groupsDownFrom b σ) :: []) hC hW hS hl cv_X2_28 m_2 (by decide) rfl (c_X2_groupsDownFrom l hl9 D ca base ad σ b ) rfl rfl rfl ⟨Nat.le_of_ble_eq_true rfl, Nat.le_of_ble_eq_true rfl⟩ (Nat.le_of_ble_eq_true rfl) dX2_isWithin_2 ⟨Nat.le_of_ble_eq_true rfl, Nat.le_of_ble_eq_true rfl⟩ (fun H locs hW hS => ?_)
  refine lv_iload_n hx hb dX2_isWithin_5 rfl (lv_at hl 1 rfl) ?_
  refine lv_ishr hx hb dX2_isWithin_6 ?_
  refine lv_iconst (v := 1) hx hb dX2_isWithin_7 (by decide) ?_
  refine lv_iand hx hb dX2_isWithin_8 ?_
  refine lv_if_eq (tgt := 16) hx hb dX2_isWithin_9 (by decide) (fun c_1 => ?_) (fun c_1 => ?_)
  · refine lv_iconst (v := 0) hx hb dX2_isWithin_16 (by decide) ?_
    have hO : f_X2_isWithin a b σ = 0 := by rw [f_X2_isWithin, if_pos c_1]
    exact w_zretP hC hW hS (by decide) hO (Nat.le_of_ble_eq_true rfl) (Nat.le_of_ble_eq_true rfl) dX2_isWithin_17
  · refine lv_iconst (v := 1) hx hb dX2_isWithin_12 (by decide) ?_
    refine lv_goto (tgt := 17) hx hb dX2_isWithin_13 (by decide) ?_
    have hO : f_X2_isWithin a b σ = 1 := by rw [f_X2_isWithin, if_neg c_1]
    exact w_zretP hC hW hS (by decide) hO (Nat.le_of_ble_eq_true rfl) (Nat.le_of_ble_eq_true rfl) dX2_isWithin_17
theorem bb_X2_isWithin {a : Int32} {b : Int32} {σ : Sg} : f_X2_isWithin a b σ &&& 1 = f_X2_isWithin a b σ := by
  rw [f_X2_isWithin]
  repeat' split
  all_goals first | decide

def s_X2_findAnew_L46 (k23 : Nat) (k37 : Nat) : Nat → Nat → Int32 → Sg → Sg
  | 0, _, _, σ46 => σ46
  | n46 + 1, k46, w2_46, σ46 => if 6 ≤ (nI k46) then σ46
    else if ((w2_46 >>> ((nI k37) &&& 31)) &&& (1 : Int32)) = 0 then s_X2_findAnew_L46 k23 k37 n46 (k46 + 1) w2_46 σ46
    else if (((σ46 12 0 k37) >>> ((nI k46) &&& 31)) &&& (1 : Int32)) = 0 then s_X2_findAnew_L46 k23 k37 n46 (k46 + 1) w2_46 σ46
    else s_X2_findAnew_L46 k23 k37 n46 (k46 + 1) w2_46 (us σ46 15 0 k46 ((σ46 15 0 k46) ||| ((1 : Int32) <<< ((nI k23) &&& 31))))
def s_X2_findAnew_L37 (k23 : Nat) : Nat → Nat → Int32 → Sg → Sg
  | 0, _, _, σ37 => σ37
  | n37 + 1, k37, w2_37, σ37 => if 6 ≤ (nI k37) then σ37
    else s_X2_findAnew_L37 k23 n37 (k37 + 1) w2_37 (s_X2_findAnew_L46 k23 k37 7 0 w2_37 σ37)
def s_X2_findAnew_L23  : Nat → Nat → Sg → Sg
  | 0, _, σ23 => σ23
  | n23 + 1, k23, σ23 => if 6 ≤ (nI k23) then σ23
    else s_X2_findAnew_L23 n23 (k23 + 1) (s_X2_findAnew_L37 k23 7 0 (f_X2_groupsDownFrom (nI k23) σ23) σ23)
def s_X2_findAnew_L2  : Nat → Nat → Sg → Sg
  | 0, _, σ2 => σ2
  | n2 + 1, k2, σ2 => if 6 ≤ (nI k2) then σ2
    else s_X2_findAnew_L2 n2 (k2 + 1) (us σ2 15 0 k2 0)
def s_X2_findAnew  (σ : Sg) : Sg :=
  (s_X2_findAnew_L23 7 0 (s_X2_findAnew_L2 7 0 σ))
set_option maxHeartbeats 4000000 in
set_option maxRecDepth 100000 in
theorem c_X2_findAnew (l : Launch) (hl9 : l.stackTraces = false) (D : va_G) (ca : Nat → ClassId) (base : Nat) (ad : Adr) (σ : Sg)   : Mt l yX2_findAnew cX2_findAnew 5 none { frames := 1, cells := 0, slots := 0, locals := 24 } D ca base ad ρm Lm [.ref (ad 2 0)] σ none (s_X2_findAnew σ) := by
  refine w_ofW (by decide) (Nat.le_of_ble_eq_true rfl) rfl ?_
  intro p e s m args below meth c hC hW hS ls hl hin
  have hx := hC.1
  have hb := hC.2.1
  refine lv_iconst (v := 0) hx hb dX2_findAnew_0 (by decide) ?_
  refine lv_istore_n (lv' := [(1, .int 0), (0, .ref (ad 2 0))]) hx hb dX2_findAnew_1 rfl hl (by decide) rfl (fun ls hl => ?_)
  have h_2 : ∀ (n2 k2 : Nat) (σ2 : Sg) (H : Heap) (locs : List Loc) (ls : Array Slot), 7 ≤ k2 + n2 → k2 ≤ 6 → Wd D ca (Ab base) ad ρm Lm σ2 H → va_S (Ab base) s.heap H locs → lv_has ls 5 [(1, .int (nI k2)), (0, .ref (ad 2 0))] → s_X2_findAnew σ = ((s_X2_findAnew_L23 7 0 (s_X2_findAnew_L2 n2 k2 σ2))) → W p l e ({ frames := 1, cells := 0, slots := 0, locals := 24 } : Room) s m args below meth c H locs 0 0 (MQ below (Rt D ca base ad ρm Lm (s_X2_findAnew σ) none) args s 0 0 (Ab base)) (F0 m 2 ls []) := by
    intro n2
    induction n2 with
    | zero =>
      intro k2 σ2 H locs ls hk1_2 hk2_2 hW hS hl hO
      exact absurd hk1_2 (by omega)
    | succ n2 ih_2 =>
      intro k2 σ2 H locs ls hk1_2 hk2_2 hW hS hl hO
      refine lv_iload_n hx hb dX2_findAnew_2 rfl (lv_at hl 0 rfl) ?_
      refine lv_bipush (v := 6) hx hb dX2_findAnew_3 (by decide) ?_
      refine lv_icmp_ge (tgt := 21) hx hb dX2_findAnew_5 (by decide) (fun c_1 => ?_) (fun c_1 => ?_)
      · replace hl := lv_sub hl [1] (l' := [(0, .ref (ad 2 0))]) rfl
        refine lv_iconst (v := 0) hx hb dX2_findAnew_21 (by decide) ?_
        refine lv_istore_n (lv' := [(1, .int 0), (0, .ref (ad 2 0))]) hx hb dX2_findAnew_22 rfl hl (by decide) rfl (fun ls hl => ?_)
        have h_23 : ∀ (n23 k23 : Nat) (σ23 : Sg) (H : Heap) (locs : List Loc) (ls : Array Slot), 7 ≤ k23 + n23 → k23 ≤ 6 → Wd D ca (Ab base) ad ρm Lm σ23 H → va_S (Ab base) s.heap H locs → lv_has ls 5 [(1, .int (nI k23)), (0, .ref (ad 2 0))] → s_X2_findAnew σ = ((s_X2_findAnew_L23 n23 k23 σ23)) → W p l e ({ frames := 1, cells := 0, slots := 0, locals := 24 } : Room) s m args below meth c H locs 0 0 (MQ below (Rt D ca base ad ρm Lm (s_X2_findAnew σ) none) args s 0 0 (Ab base)) (F0 m 23 ls []) := by
          intro n23
          induction n23 with
          | zero =>
            intro k23 σ23 H locs ls hk1_23 hk2_23 hW hS hl hO
            exact absurd hk1_23 (by omega)
          | succ n23 ih_23 =>
            intro k23 σ23 H locs ls hk1_23 hk2_23 hW hS hl hO
            refine lv_iload_n hx hb dX2_findAnew_23 rfl (lv_at hl 0 rfl) ?_
            refine lv_bipush (v := 6) hx hb dX2_findAnew_24 (by decide) ?_
            refine lv_icmp_ge (tgt := 106) hx hb dX2_findAnew_26 (by decide) (fun c_2 => ?_) (fun c_2 => ?_)
            · replace hl := lv_sub hl [1] (l' := [(0, .ref (ad 2 0))]) rfl
              have hO : s_X2_findAnew σ = σ23 := by rw [hO, s_X2_findAnew_L23, if_pos c_2]
              exact w_vretV hC hW hS hO (Nat.le_of_ble_eq_true rfl) (Nat.le_of_ble_eq_true rfl) dX2_findAnew_106
            · have hi_c_2 : k23 < 6 := idx_lt c_2 (by decide) (by decide) (by omega)
              refine lv_aload_n hx hb dX2_findAnew_29 rfl (lv_at hl 1 rfl) ?_
              refine lv_iload_n hx hb dX2_findAnew_30 rfl (lv_at hl 0 rfl) ?_
              refine w_callV (As := [.int (nI k23)]) (rest := []) (st2 := .int (f_X2_groupsDownFrom (nI k23) σ23) :: []) hC hW hS hl cv_X2_28 m_2 (by decide) rfl (c_X2_groupsDownFrom l hl9 D ca base ad σ23 (nI k23) ) rfl rfl rfl ⟨Nat.le_of_ble_eq_true rfl, Nat.le_of_ble_eq_true rfl⟩ (Nat.le_of_ble_eq_true rfl) dX2_findAnew_31 ⟨Nat.le_of_ble_eq_true rfl, Nat.le_of_ble_eq_true rfl⟩ (fun H locs hW hS => ?_)
              refine lv_istore_n (lv' := [(2, .int (f_X2_groupsDownFrom (nI k23) σ23)), (1, .int (nI k23)), (0, .ref (ad 2 0))]) hx hb dX2_findAnew_34 rfl hl (by decide) rfl (fun ls hl => ?_)
              refine lv_iconst (v := 0) hx hb dX2_findAnew_35 (by decide) ?_
              refine lv_istore_n (lv' := [(3, .int 0), (2, .int (f_X2_groupsDownFrom (nI k23) σ23)), (1, .int (nI k23)), (0, .ref (ad 2 0))]) hx hb dX2_findAnew_36 rfl hl (by decide) rfl (fun ls hl => ?_)
              have h_37 : ∀ (n37 k37 : Nat) (σ37 : Sg) (H : Heap) (locs : List Loc) (ls : Array Slot), 7 ≤ k37 + n37 → k37 ≤ 6 → Wd D ca (Ab base) ad ρm Lm σ37 H → va_S (Ab base) s.heap H locs → lv_has ls 5 [(3, .int (nI k37)), (2, .int (f_X2_groupsDownFrom (nI k23) σ23)), (1, .int (nI k23)), (0, .ref (ad 2 0))] → s_X2_findAnew σ = ((s_X2_findAnew_L23 n23 (k23 + 1) (s_X2_findAnew_L37 k23 n37 k37 (f_X2_groupsDownFrom (nI k23) σ23) σ37))) → W p l e ({ frames := 1, cells := 0, slots := 0, locals := 24 } : Room) s m args below meth c H locs 0 0 (MQ below (Rt D ca base ad ρm Lm (s_X2_findAnew σ) none) args s 0 0 (Ab base)) (F0 m 37 ls []) := by
                intro n37
                induction n37 with
                | zero =>
                  intro k37 σ37 H locs ls hk1_37 hk2_37 hW hS hl hO
                  exact absurd hk1_37 (by omega)
                | succ n37 ih_37 =>
                  intro k37 σ37 H locs ls hk1_37 hk2_37 hW hS hl hO
                  refine lv_iload_n hx hb dX2_findAnew_37 rfl (lv_at hl 0 rfl) ?_
                  refine lv_bipush (v := 6) hx hb dX2_findAnew_38 (by decide) ?_
                  refine lv_icmp_ge (tgt := 100) hx hb dX2_findAnew_40 (by decide) (fun c_3 => ?_) (fun c_3 => ?_)
                  · replace hl := lv_sub hl [1, 2, 3] (l' := [(2, .int (f_X2_groupsDownFrom (nI k23) σ23)), (1, .int (nI k23)), (0, .ref (ad 2 0))]) rfl
                    refine lv_iinc (v := nI (k23 + 1)) (lv' := [(1, .int (nI (k23 + 1))), (2, .int (f_X2_groupsDownFrom (nI k23) σ23)), (0, .ref (ad 2 0))]) hx hb dX2_findAnew_100 hl (k := 1) rfl (nI_1 _) (by decide) rfl (fun ls hl => ?_)
                    refine lv_goto (tgt := 23) hx hb dX2_findAnew_103 (by decide) ?_
                    refine ih_23 (k23 + 1) σ37 _ _ _ (by omega) (by omega)  hW hS (lv_sub hl [0, 2] rfl) ?_
                    rw [hO, s_X2_findAnew_L37, if_pos c_3]
                  · have hi_c_3 : k37 < 6 := idx_lt c_3 (by decide) (by decide) (by omega)
                    refine lv_iconst (v := 0) hx hb dX2_findAnew_43 (by decide) ?_
                    refine lv_istore (lv' := [(4, .int 0), (3, .int (nI k37)), (2, .int (f_X2_groupsDownFrom (nI k23) σ23)), (1, .int (nI k23)), (0, .ref (ad 2 0))]) hx hb dX2_findAnew_44 hl (by decide) rfl (fun ls hl => ?_)
                    have h_46 : ∀ (n46 k46 : Nat) (σ46 : Sg) (H : Heap) (locs : List Loc) (ls : Array Slot), 7 ≤ k46 + n46 → k46 ≤ 6 → Wd D ca (Ab base) ad ρm Lm σ46 H → va_S (Ab base) s.heap H locs → lv_has ls 5 [(4, .int (nI k46)), (3, .int (nI k37)), (2, .int (f_X2_groupsDownFrom (nI k23) σ23)), (1, .int (nI k23)), (0, .ref (ad 2 0))] → s_X2_findAnew σ = ((s_X2_findAnew_L23 n23 (k23 + 1) (s_X2_findAnew_L37 k23 n37 (k37 + 1) (f_X2_groupsDownFrom (nI k23) σ23) (s_X2_findAnew_L46 k23 k37 n46 k46 (f_X2_groupsDownFrom (nI k23) σ23) σ46)))) → W p l e ({ frames := 1, cells := 0, slots := 0, locals := 24 } : Room) s m args below meth c H locs 0 0 (MQ below (Rt D ca base ad ρm Lm (s_X2_findAnew σ) none) args s 0 0 (Ab base)) (F0 m 46 ls []) := by
                      intro n46
                      induction n46 with
                      | zero =>
                        intro k46 σ46 H locs ls hk1_46 hk2_46 hW hS hl hO
                        exact absurd hk1_46 (by omega)
                      | succ n46 ih_46 =>
                        intro k46 σ46 H locs ls hk1_46 hk2_46 hW hS hl hO
                        refine lv_iload hx hb dX2_findAnew_46 (lv_at hl 0 rfl) ?_
                        refine lv_bipush (v := 6) hx hb dX2_findAnew_48 (by decide) ?_
                        refine lv_icmp_ge (tgt := 94) hx hb dX2_findAnew_50 (by decide) (fun c_4 => ?_) (fun c_4 => ?_)
                        · replace hl := lv_sub hl [1, 2, 3, 4] (l' := [(3, .int (nI k37)), (2, .int (f_X2_groupsDownFrom (nI k23) σ23)), (1, .int (nI k23)), (0, .ref (ad 2 0))]) rfl
                          refine lv_iinc (v := nI (k37 + 1)) (lv' := [(3, .int (nI (k37 + 1))), (2, .int (f_X2_groupsDownFrom (nI k23) σ23)), (1, .int (nI k23)), (0, .ref (ad 2 0))]) hx hb dX2_findAnew_94 hl (k := 0) rfl (nI_1 _) (by decide) rfl (fun ls hl => ?_)
                          refine lv_goto (tgt := 37) hx hb dX2_findAnew_97 (by decide) ?_
                          refine ih_37 (k37 + 1) σ46 _ _ _ (by omega) (by omega)  hW hS (lv_sub hl [0, 1, 2, 3] rfl) ?_
                          rw [hO, s_X2_findAnew_L46, if_pos c_4]
                        · have hi_c_4 : k46 < 6 := idx_lt c_4 (by decide) (by decide) (by omega)
                          refine lv_iload_n hx hb dX2_findAnew_53 rfl (lv_at hl 2 rfl) ?_
                          refine lv_iload_n hx hb dX2_findAnew_54 rfl (lv_at hl 1 rfl) ?_
                          refine lv_ishr hx hb dX2_findAnew_55 ?_
                          refine lv_iconst (v := 1) hx hb dX2_findAnew_56 (by decide) ?_
                          refine lv_iand hx hb dX2_findAnew_57 ?_
                          refine lv_if_eq (tgt := 88) hx hb dX2_findAnew_58 (by decide) (fun c_5 => ?_) (fun c_5 => ?_)
                          · refine lv_iinc (v := nI (k46 + 1)) (lv' := [(4, .int (nI (k46 + 1))), (3, .int (nI k37)), (2, .int (f_X2_groupsDownFrom (nI k23) σ23)), (1, .int (nI k23)), (0, .ref (ad 2 0))]) hx hb dX2_findAnew_88 hl (k := 0) rfl (nI_1 _) (by decide) rfl (fun ls hl => ?_)
                            refine lv_goto (tgt := 46) hx hb dX2_findAnew_91 (by decide) ?_
                            refine ih_46 (k46 + 1) σ46 _ _ _ (by omega) (by omega)  hW hS (lv_sub hl [0, 1, 2, 3, 4] rfl) ?_
                            rw [hO, s_X2_findAnew_L46, if_neg c_4, if_pos c_5]
                          · refine lv_aload_n hx hb dX2_findAnew_61 rfl (lv_at hl 4 rfl) ?_
                            refine gf_X2_9 hC hW m_2 rfl dX2_findAnew_62 ?_
                            refine lv_iload_n hx hb dX2_findAnew_65 rfl (lv_at hl 1 rfl) ?_
                            refine w_iald hC hW m_12 (n := 6) rfl (vp_in_nI (by omega) (by omega)) dX2_findAnew_66 ?_
                            refine lv_eqi (y := σ46 12 0 k37) (by rw [nI_clamp (by omega)]) ?_
                            refine lv_iload hx hb dX2_findAnew_67 (lv_at hl 0 rfl) ?_
                            refine lv_ishr hx hb dX2_findAnew_69 ?_
                            refine lv_iconst (v := 1) hx hb dX2_findAnew_70 (by decide) ?_
                            refine lv_iand hx hb dX2_findAnew_71 ?_
                            refine lv_if_eq (tgt := 88) hx hb dX2_findAnew_72 (by decide) (fun c_6 => ?_) (fun c_6 => ?_)
                            · refine lv_iinc (v := nI (k46 + 1)) (lv' := [(4, .int (nI (k46 + 1))), (3, .int (nI k37)), (2, .int (f_X2_groupsDownFrom (nI k23) σ23)), (1, .int (nI k23)), (0, .ref (ad 2 0))]) hx hb dX2_findAnew_88 hl (k := 0) rfl (nI_1 _) (by decide) rfl (fun ls hl => ?_)
                              refine lv_goto (tgt := 46) hx hb dX2_findAnew_91 (by decide) ?_
                              refine ih_46 (k46 + 1) σ46 _ _ _ (by omega) (by omega)  hW hS (lv_sub hl [0, 1, 2, 3, 4] rfl) ?_
                              rw [hO, s_X2_findAnew_L46, if_neg c_4, if_neg c_5, if_pos c_6]
                            · refine lv_aload_n hx hb dX2_findAnew_75 rfl (lv_at hl 4 rfl) ?_
                              refine gf_X2_21 hC hW m_2 rfl dX2_findAnew_76 ?_
                              refine lv_iload hx hb dX2_findAnew_79 (lv_at hl 0 rfl) ?_
                              refine lv_dup2_11 hx hb dX2_findAnew_81 rfl rfl ?_
                              refine w_iald hC hW m_15 (n := 6) rfl (vp_in_nI (by omega) (by omega)) dX2_findAnew_82 ?_
                              refine lv_eqi (y := σ46 15 0 k46) (by rw [nI_clamp (by omega)]) ?_
                              refine lv_iconst (v := 1) hx hb dX2_findAnew_83 (by decide) ?_
                              refine lv_iload_n hx hb dX2_findAnew_84 rfl (lv_at hl 3 rfl) ?_
                              refine lv_ishl hx hb dX2_findAnew_85 ?_
                              refine lv_ior hx hb dX2_findAnew_86 ?_
                              refine w_iast hC hW hS m_15 (n := 6) (fun _ => rfl) (vp_in_nI (by omega) (by omega)) dX2_findAnew_87 (fun H locs hW hS => ?_)
                              rw [nI_clamp (by omega)] at hW
                              refine lv_iinc (v := nI (k46 + 1)) (lv' := [(4, .int (nI (k46 + 1))), (3, .int (nI k37)), (2, .int (f_X2_groupsDownFrom (nI k23) σ23)), (1, .int (nI k23)), (0, .ref (ad 2 0))]) hx hb dX2_findAnew_88 hl (k := 0) rfl (nI_1 _) (by decide) rfl (fun ls hl => ?_)
                              refine lv_goto (tgt := 46) hx hb dX2_findAnew_91 (by decide) ?_
                              refine ih_46 (k46 + 1) (us σ46 15 0 k46 ((σ46 15 0 k46) ||| ((1 : Int32) <<< ((nI k23) &&& 31)))) _ _ _ (by omega) (by omega)  hW hS (lv_sub hl [0, 1, 2, 3, 4] rfl) ?_
                              rw [hO, s_X2_findAnew_L46, if_neg c_4, if_neg c_5, if_neg c_6]
                    refine h_46 7 0 σ37 _ _ _ (by omega) (by omega)  hW hS (lv_sub hl [0, 1, 2, 3, 4] rfl) ?_
                    rw [hO, s_X2_findAnew_L37, if_neg c_3]
              refine h_37 7 0 σ23 _ _ _ (by omega) (by omega)  hW hS (lv_sub hl [0, 1, 2, 3] rfl) ?_
              rw [hO, s_X2_findAnew_L23, if_neg c_2]
        refine h_23 7 0 σ2 _ _ _ (by omega) (by omega)  hW hS (lv_sub hl [0, 1] rfl) ?_
        rw [hO, s_X2_findAnew_L2, if_pos c_1]
      · have hi_c_1 : k2 < 6 := idx_lt c_1 (by decide) (by decide) (by omega)
        refine lv_aload_n hx hb dX2_findAnew_8 rfl (lv_at hl 1 rfl) ?_
        refine gf_X2_21 hC hW m_2 rfl dX2_findAnew_9 ?_
        refine lv_iload_n hx hb dX2_findAnew_12 rfl (lv_at hl 0 rfl) ?_
        refine lv_iconst (v := 0) hx hb dX2_findAnew_13 (by decide) ?_
        refine w_iast hC hW hS m_15 (n := 6) (fun _ => rfl) (vp_in_nI (by omega) (by omega)) dX2_findAnew_14 (fun H locs hW hS => ?_)
        rw [nI_clamp (by omega)] at hW
        refine lv_iinc (v := nI (k2 + 1)) (lv' := [(1, .int (nI (k2 + 1))), (0, .ref (ad 2 0))]) hx hb dX2_findAnew_15 hl (k := 0) rfl (nI_1 _) (by decide) rfl (fun ls hl => ?_)
        refine lv_goto (tgt := 2) hx hb dX2_findAnew_18 (by decide) ?_
        refine ih_2 (k2 + 1) (us σ2 15 0 k2 0) _ _ _ (by omega) (by omega)  hW hS (lv_sub hl [0, 1] rfl) ?_
        rw [hO, s_X2_findAnew_L2, if_neg c_1]
  refine h_2 7 0 σ _ _ _ (by omega) (by omega)  hW hS (lv_sub hl [0, 1] rfl) ?_
  rw [s_X2_findAnew]
theorem fr_s_X2_findAnew_L46 {kk : Nat}  (k23 : Nat) (k37 : Nat) (h15 : kk ≠ 15) : ∀ (y0 : Nat) (y1 : Nat) (y2 : Int32) (σ : Sg), (s_X2_findAnew_L46 k23 k37 y0 y1 y2 σ) kk = σ kk := by
  intro y0
  induction y0 with
  | zero => intros; rfl
  | succ n ih =>
    intros
    rw [s_X2_findAnew_L46]
    repeat' split
    all_goals (first | (simp only [ih, us_kk, ne_eq, not_false_eq_true, h15]; done) | with_reducible rfl | (simp only [ih, us_kk, ne_eq, not_false_eq_true, h15]; with_reducible rfl))
theorem fr_s_X2_findAnew_L37 {kk : Nat}  (k23 : Nat) (h15 : kk ≠ 15) : ∀ (y0 : Nat) (y1 : Nat) (y2 : Int32) (σ : Sg), (s_X2_findAnew_L37 k23 y0 y1 y2 σ) kk = σ kk := by
  intro y0
  induction y0 with
  | zero => intros; rfl
  | succ n ih =>
    intros
    rw [s_X2_findAnew_L37]
    repeat' split
    all_goals (first | (simp only [ih, us_kk, ne_eq, not_false_eq_true, h15, fr_s_X2_findAnew_L46]; done) | with_reducible rfl | (simp only [ih, us_kk, ne_eq, not_false_eq_true, h15, fr_s_X2_findAnew_L46]; with_reducible rfl))
theorem fr_s_X2_findAnew_L23 {kk : Nat}  (h15 : kk ≠ 15) : ∀ (y0 : Nat) (y1 : Nat) (σ : Sg), (s_X2_findAnew_L23 y0 y1 σ) kk = σ kk := by
  intro y0
  induction y0 with
  | zero => intros; rfl
  | succ n ih =>
    intros
    rw [s_X2_findAnew_L23]
    repeat' split
    all_goals (first | (simp only [ih, us_kk, ne_eq, not_false_eq_true, h15, fr_s_X2_findAnew_L46, fr_s_X2_findAnew_L37]; done) | with_reducible rfl | (simp only [ih, us_kk, ne_eq, not_false_eq_true, h15, fr_s_X2_findAnew_L46, fr_s_X2_findAnew_L37]; with_reducible rfl))
theorem fr_s_X2_findAnew_L2 {kk : Nat}  (h15 : kk ≠ 15) : ∀ (y0 : Nat) (y1 : Nat) (σ : Sg), (s_X2_findAnew_L2 y0 y1 σ) kk = σ kk := by
  intro y0
  induction y0 with
  | zero => intros; rfl
  | succ n ih =>
    intros
    rw [s_X2_findAnew_L2]
    repeat' split
    all_goals (first | (simp only [ih, us_kk, ne_eq, not_false_eq_true, h15, fr_s_X2_findAnew_L46, fr_s_X2_findAnew_L37, fr_s_X2_findAnew_L23]; done) | with_reducible rfl | (simp only [ih, us_kk, ne_eq, not_false_eq_true, h15, fr_s_X2_findAnew_L46, fr_s_X2_findAnew_L37, fr_s_X2_findAnew_L23]; with_reducible rfl))
theorem fr_X2_findAnew {kk : Nat}   {σ : Sg} (h15 : kk ≠ 15) : (s_X2_findAnew σ) kk = σ kk := by
  rw [s_X2_findAnew]
  repeat' split
  all_goals (first | (simp only [us_kk, ne_eq, not_false_eq_true, h15, fr_s_X2_findAnew_L46, fr_s_X2_findAnew_L37, fr_s_X2_findAnew_L23, fr_s_X2_findAnew_L2]; done) | with_reducible rfl | (simp only [us_kk, ne_eq, not_false_eq_true, h15, fr_s_X2_findAnew_L46, fr_s_X2_findAnew_L37, fr_s_X2_findAnew_L23, fr_s_X2_findAnew_L2]; with_reducible rfl))
