def W4 (σ : Sg) : Prop := ¬ σ 4 0 2 < 0
theorem w4_fr {σ σ' : Sg} (h : W4 σ) (e : σ' 4 = σ 4) : W4 σ' := by
  unfold W4 at h ⊢
  rw [e]
  exact h
theorem w4_nn {x : Int32} (h : ¬ x < 0) (h2 : ¬ 192 ≤ x) : ¬ x + 1 < 0 := by
  obtain ⟨j, hj, rfl⟩ := vp_in_of (vp_in_c (y := 192) (n := 192) (by decide) (by decide) h h2) (by decide)
  rw [nI_1]
  exact nI_pos (by omega)
theorem w4_add {σ : Sg} {i : Nat} {a : Int32} (h : W4 σ) : W4 (s_X4_add i a σ) := by
  unfold s_X4_add
  repeat' split
  all_goals first | exact h | skip
  all_goals (unfold W4 at h ⊢; rw [us_h]; exact w4_nn h (by assumption))
theorem w4_clear_L {n k : Nat} : ∀ σ : Sg, (s_X4_clear_L7 n k σ) 4 = σ 4 := by
  induction n generalizing k with
  | zero => intro σ; rfl
  | succ n ih =>
    intro σ
    rw [s_X4_clear_L7]
    split
    · rfl
    · rw [ih, us_kk (by decide)]
theorem w4_clear {σ : Sg} : W4 (s_X4_clear σ) := by
  unfold W4 s_X4_clear
  rw [w4_clear_L, us_h]
  decide
def s_X7_addRunsFrom_L20 (x : Int32) (a : Int32) : Nat → Nat → Sg → Sg
  | 0, _, σ20 => σ20
  | n20 + 1, k20, σ20 => if (σ20 7 0 6) ≤ (nI k20) then σ20
    else if (f_X7_judge 9 k20 4 ((f_X4_restore 9 x σ20).2)) = 0 then s_X7_addRunsFrom_L20 x a n20 (k20 + 1) (s_X4_add 9 a (s_X7_carryOutRun 9 k20 ((f_X4_restore 9 x σ20).2)))
    else s_X7_addRunsFrom_L20 x a n20 (k20 + 1) ((f_X4_restore 9 x σ20).2)
def s_X7_addRunsFrom (x : Int32) (a : Int32) (σ : Sg) : Sg :=
  (s_X7_addRunsFrom_L20 x a 13 0 (s_X0_copyFrom 9 8 σ))
set_option maxHeartbeats 4000000 in
set_option maxRecDepth 100000 in
theorem c_X7_addRunsFrom (l : Launch) (hl9 : l.stackTraces = false) (D : va_G) (ca : Nat → ClassId) (base : Nat) (ad : Adr) (σ : Sg) (x : Int32) (a : Int32) (hT : TC σ) (hV : W4 σ) : Mt l yX7_addRunsFrom cX7_addRunsFrom 5 none { frames := 4, cells := 0, slots := 0, locals := 92 } D ca base ad ρm Lm [.ref (ad 7 0), .int x, .int a] σ none (s_X7_addRunsFrom x a σ) := by
  refine w_ofW (by decide) (Nat.le_of_ble_eq_true rfl) rfl ?_
  intro p e s m args below meth c hC hW hS ls hl hin
  have hx := hC.1
  have hb := hC.2.1
  refine lv_aload_n hx hb dX7_addRunsFrom_0 rfl (lv_at hl 0 rfl) ?_
  refine gf_X7_51 hC hW m_7 rfl dX7_addRunsFrom_1 ?_
  refine lv_iconst (v := 1) hx hb dX7_addRunsFrom_4 (by decide) ?_
  have h_1 : vp_in (1 : Int32) 4 := (vp_lit (by decide))
  refine w_aald hC hW m_25 4 (n := 4) rfl rfl h_1 (by rfl) dX7_addRunsFrom_5 ?_
  refine W.eq (g2 := F0 m 6 ls (.ref (ad 0 9) :: [])) rfl ?_
  refine lv_astore_n (lv' := [(3, .ref (ad 0 9)), (0, .ref (ad 7 0)), (1, .int x), (2, .int a)]) hx hb dX7_addRunsFrom_6 rfl hl (by decide) rfl (fun ls hl => ?_)
  refine lv_aload_n hx hb dX7_addRunsFrom_7 rfl (lv_at hl 0 rfl) ?_
  refine lv_aload_n hx hb dX7_addRunsFrom_8 rfl (lv_at hl 1 rfl) ?_
  refine gf_X7_51 hC hW m_7 rfl dX7_addRunsFrom_9 ?_
  refine lv_iconst (v := 0) hx hb dX7_addRunsFrom_12 (by decide) ?_
  have h_2 : vp_in (0 : Int32) 4 := (vp_lit (by decide))
  refine w_aald hC hW m_25 4 (n := 4) rfl rfl h_2 (by rfl) dX7_addRunsFrom_13 ?_
  refine W.eq (g2 := F0 m 14 ls (.ref (ad 0 8) :: .ref (ad 0 9) :: [])) rfl ?_
  refine w_callV (As := [.ref (ad 0 8)]) (rest := []) (st2 := []) hC hW hS hl cv_X7_301 (mm_0 (by decide)) (by decide) rfl (c_X0_copyFrom l hl9 D ca base ad σ 9 8 (by decide) (by decide)) rfl rfl rfl ⟨Nat.le_of_ble_eq_true rfl, Nat.le_of_ble_eq_true rfl⟩ (Nat.le_of_ble_eq_true rfl) dX7_addRunsFrom_14 ⟨Nat.le_of_ble_eq_true rfl, Nat.le_of_ble_eq_true rfl⟩ (fun H locs hW hS => ?_)
  refine lv_iconst (v := 0) hx hb dX7_addRunsFrom_17 (by decide) ?_
  refine lv_istore (lv' := [(4, .int 0), (3, .ref (ad 0 9)), (0, .ref (ad 7 0)), (1, .int x), (2, .int a)]) hx hb dX7_addRunsFrom_18 hl (by decide) rfl (fun ls hl => ?_)
  have h_20 : ∀ (n20 k20 : Nat) (σ20 : Sg) (H : Heap) (locs : List Loc) (ls : Array Slot), 13 ≤ k20 + n20 → k20 ≤ 12 → (TC σ20) → (W4 σ20) → Wd D ca (Ab base) ad ρm Lm σ20 H → va_S (Ab base) s.heap H locs → lv_has ls 5 [(4, .int (nI k20)), (3, .ref (ad 0 9)), (0, .ref (ad 7 0)), (1, .int x), (2, .int a)] → s_X7_addRunsFrom x a σ = ((s_X7_addRunsFrom_L20 x a n20 k20 σ20)) → W p l e ({ frames := 4, cells := 0, slots := 0, locals := 92 } : Room) s m args below meth c H locs 0 0 (MQ below (Rt D ca base ad ρm Lm (s_X7_addRunsFrom x a σ) none) args s 0 0 (Ab base)) (F0 m 20 ls []) := by
    intro n20
    induction n20 with
    | zero =>
      intro k20 σ20 H locs ls hk1_20 hk2_20 hT hV hW hS hl hO
      exact absurd hk1_20 (by omega)
    | succ n20 ih_20 =>
      intro k20 σ20 H locs ls hk1_20 hk2_20 hT hV hW hS hl hO
      refine lv_iload hx hb dX7_addRunsFrom_20 (lv_at hl 0 rfl) ?_
      refine lv_aload_n hx hb dX7_addRunsFrom_22 rfl (lv_at hl 2 rfl) ?_
      refine gf_X7_111 hC hW m_7 dX7_addRunsFrom_23 ?_
      refine lv_icmp_ge (tgt := 82) hx hb dX7_addRunsFrom_26 (by decide) (fun c_3 => ?_) (fun c_3 => ?_)
      · replace hl := lv_sub hl [1, 2, 3, 4] (l' := [(3, .ref (ad 0 9)), (0, .ref (ad 7 0)), (1, .int x), (2, .int a)]) rfl
        have hO : s_X7_addRunsFrom x a σ = σ20 := by rw [hO, s_X7_addRunsFrom_L20, if_pos c_3]
        exact w_vretV hC hW hS hO (Nat.le_of_ble_eq_true rfl) (Nat.le_of_ble_eq_true rfl) dX7_addRunsFrom_82
      · have hi_c_3 : k20 < 12 := tc_cnt hT (by omega) c_3
        refine lv_aload_n hx hb dX7_addRunsFrom_29 rfl (lv_at hl 2 rfl) ?_
        refine gf_X7_65 hC hW m_7 rfl dX7_addRunsFrom_30 ?_
        refine lv_aload_n hx hb dX7_addRunsFrom_33 rfl (lv_at hl 1 rfl) ?_
        refine lv_iload_n hx hb dX7_addRunsFrom_34 rfl (lv_at hl 3 rfl) ?_
        refine w_callV (As := [.ref (ad 0 9), .int x]) (rest := []) (st2 := .int ((f_X4_restore 9 x σ20).1) :: []) hC hW hS hl cv_X7_367 m_4 (by decide) rfl (c_X4_restore l hl9 D ca base ad σ20 9 x (by decide)) rfl rfl rfl ⟨Nat.le_of_ble_eq_true rfl, Nat.le_of_ble_eq_true rfl⟩ (Nat.le_of_ble_eq_true rfl) dX7_addRunsFrom_35 ⟨Nat.le_of_ble_eq_true rfl, Nat.le_of_ble_eq_true rfl⟩ (fun H locs hW hS => ?_)
        refine lv_pop hx hb dX7_addRunsFrom_38 rfl ?_
        refine lv_aload_n hx hb dX7_addRunsFrom_39 rfl (lv_at hl 2 rfl) ?_
        refine lv_aload_n hx hb dX7_addRunsFrom_40 rfl (lv_at hl 1 rfl) ?_
        refine lv_aload_n hx hb dX7_addRunsFrom_41 rfl (lv_at hl 2 rfl) ?_
        refine gf_X7_32 hC hW m_7 rfl dX7_addRunsFrom_42 ?_
        refine lv_iload hx hb dX7_addRunsFrom_45 (lv_at hl 0 rfl) ?_
        have h_4 : vp_in (nI k20) 12 := (vp_in_nI (by omega) (by omega))
        refine w_aald hC hW m_22 3 (n := 12) rfl rfl h_4 (by rfl) dX7_addRunsFrom_47 ?_
        rw [nI_clamp (by omega)]
        refine lv_iconst (v := 4) hx hb dX7_addRunsFrom_48 (by decide) ?_
        refine w_callV (As := [.ref (ad 0 9), .ref (ad 5 k20), .int 4]) (rest := []) (st2 := .int (f_X7_judge 9 k20 4 ((f_X4_restore 9 x σ20).2)) :: []) hC hW hS hl cv_X7_217 m_7 (by decide) rfl (c_X7_judge l hl9 D ca base ad ((f_X4_restore 9 x σ20).2) 9 k20 4 (by decide) (by omega)) rfl rfl rfl ⟨Nat.le_of_ble_eq_true rfl, Nat.le_of_ble_eq_true rfl⟩ (Nat.le_of_ble_eq_true rfl) dX7_addRunsFrom_49 ⟨Nat.le_of_ble_eq_true rfl, Nat.le_of_ble_eq_true rfl⟩ (fun H locs hW hS => ?_)
        refine lv_if_ne (tgt := 76) hx hb dX7_addRunsFrom_52 (by decide) (fun c_5 => ?_) (fun c_5 => ?_)
        · refine lv_iinc (v := nI (k20 + 1)) (lv' := [(4, .int (nI (k20 + 1))), (3, .ref (ad 0 9)), (0, .ref (ad 7 0)), (1, .int x), (2, .int a)]) hx hb dX7_addRunsFrom_76 hl (k := 0) rfl (nI_1 _) (by decide) rfl (fun ls hl => ?_)
          refine lv_goto (tgt := 20) hx hb dX7_addRunsFrom_79 (by decide) ?_
          refine ih_20 (k20 + 1) ((f_X4_restore 9 x σ20).2) _ _ _ (by omega) (by omega) (tc_fr hT (by rw [fr_X4_restore (by decide)])) (w4_fr hV (fr_X4_restore (by decide))) hW hS (lv_sub hl [0, 1, 2, 3, 4] rfl) ?_
          rw [hO, s_X7_addRunsFrom_L20, if_neg c_3, if_neg c_5]
        · refine lv_aload_n hx hb dX7_addRunsFrom_55 rfl (lv_at hl 2 rfl) ?_
          refine lv_aload_n hx hb dX7_addRunsFrom_56 rfl (lv_at hl 1 rfl) ?_
          refine lv_aload_n hx hb dX7_addRunsFrom_57 rfl (lv_at hl 2 rfl) ?_
          refine gf_X7_32 hC hW m_7 rfl dX7_addRunsFrom_58 ?_
          refine lv_iload hx hb dX7_addRunsFrom_61 (lv_at hl 0 rfl) ?_
          have h_6 : vp_in (nI k20) 12 := (vp_in_nI (by omega) (by omega))
          refine w_aald hC hW m_22 3 (n := 12) rfl rfl h_6 (by rfl) dX7_addRunsFrom_63 ?_
          rw [nI_clamp (by omega)]
          refine w_callV (As := [.ref (ad 0 9), .ref (ad 5 k20)]) (rest := []) (st2 := []) hC hW hS hl cv_X7_225 m_7 (by decide) rfl (c_X7_carryOutRun l hl9 D ca base ad ((f_X4_restore 9 x σ20).2) 9 k20 (by decide) (by omega)) rfl rfl rfl ⟨Nat.le_of_ble_eq_true rfl, Nat.le_of_ble_eq_true rfl⟩ (Nat.le_of_ble_eq_true rfl) dX7_addRunsFrom_64 ⟨Nat.le_of_ble_eq_true rfl, Nat.le_of_ble_eq_true rfl⟩ (fun H locs hW hS => ?_)
          refine lv_aload_n hx hb dX7_addRunsFrom_67 rfl (lv_at hl 2 rfl) ?_
          refine gf_X7_65 hC hW m_7 rfl dX7_addRunsFrom_68 ?_
          refine lv_aload_n hx hb dX7_addRunsFrom_71 rfl (lv_at hl 1 rfl) ?_
          refine lv_iload_n hx hb dX7_addRunsFrom_72 rfl (lv_at hl 4 rfl) ?_
          refine w_callV (As := [.ref (ad 0 9), .int a]) (rest := []) (st2 := []) hC hW hS hl cv_X7_363 m_4 (by decide) rfl (c_X4_add l hl9 D ca base ad (s_X7_carryOutRun 9 k20 ((f_X4_restore 9 x σ20).2)) 9 a (by decide) (w4_fr (w4_fr hV (fr_X4_restore (by decide))) (fr_X7_carryOutRun (by decide)))) rfl rfl rfl ⟨Nat.le_of_ble_eq_true rfl, Nat.le_of_ble_eq_true rfl⟩ (Nat.le_of_ble_eq_true rfl) dX7_addRunsFrom_73 ⟨Nat.le_of_ble_eq_true rfl, Nat.le_of_ble_eq_true rfl⟩ (fun H locs hW hS => ?_)
          refine lv_iinc (v := nI (k20 + 1)) (lv' := [(4, .int (nI (k20 + 1))), (3, .ref (ad 0 9)), (0, .ref (ad 7 0)), (1, .int x), (2, .int a)]) hx hb dX7_addRunsFrom_76 hl (k := 0) rfl (nI_1 _) (by decide) rfl (fun ls hl => ?_)
          refine lv_goto (tgt := 20) hx hb dX7_addRunsFrom_79 (by decide) ?_
          refine ih_20 (k20 + 1) (s_X4_add 9 a (s_X7_carryOutRun 9 k20 ((f_X4_restore 9 x σ20).2))) _ _ _ (by omega) (by omega) (tc_fr hT (by rw [fr_X4_add (by decide) (by decide) (by decide), fr_X7_carryOutRun (by decide), fr_X4_restore (by decide)])) (w4_add (w4_fr (w4_fr hV (fr_X4_restore (by decide))) (fr_X7_carryOutRun (by decide)))) hW hS (lv_sub hl [0, 1, 2, 3, 4] rfl) ?_
          rw [hO, s_X7_addRunsFrom_L20, if_neg c_3, if_pos c_5]
  refine h_20 13 0 (s_X0_copyFrom 9 8 σ) _ _ _ (by omega) (by omega) (tc_fr hT (by rw [fr_X0_copyFrom (by decide) (by decide)])) (w4_fr hV (fr_X0_copyFrom (by decide) (by decide))) hW hS (lv_sub hl [0, 1, 2, 3, 4] rfl) ?_
  rw [s_X7_addRunsFrom]
theorem fr_s_X7_addRunsFrom_L20 {kk : Nat}  (x : Int32) (a : Int32) (h0 : kk ≠ 0) (h4 : kk ≠ 4) (h10 : kk ≠ 10) (h18 : kk ≠ 18) (h19 : kk ≠ 19) : ∀ (y0 : Nat) (y1 : Nat) (σ : Sg), (s_X7_addRunsFrom_L20 x a y0 y1 σ) kk = σ kk := by
  intro y0
  induction y0 with
  | zero => intros; rfl
  | succ n ih =>
    intros
    rw [s_X7_addRunsFrom_L20]
    repeat' split
    all_goals (first | (simp only [ih, us_kk, ne_eq, not_false_eq_true, h0, h4, h10, h18, h19, fr_X0_copyFrom, fr_X4_restore, fr_X7_carryOutRun, fr_X4_add]; done) | with_reducible rfl | (simp only [ih, us_kk, ne_eq, not_false_eq_true, h0, h4, h10, h18, h19, fr_X0_copyFrom, fr_X4_restore, fr_X7_carryOutRun, fr_X4_add]; with_reducible rfl))
theorem fr_X7_addRunsFrom {kk : Nat}  {x : Int32} {a : Int32} {σ : Sg} (h0 : kk ≠ 0) (h4 : kk ≠ 4) (h10 : kk ≠ 10) (h18 : kk ≠ 18) (h19 : kk ≠ 19) : (s_X7_addRunsFrom x a σ) kk = σ kk := by
  rw [s_X7_addRunsFrom]
  repeat' split
  all_goals (first | (simp only [us_kk, ne_eq, not_false_eq_true, h0, h4, h10, h18, h19, fr_s_X7_addRunsFrom_L20, fr_X0_copyFrom, fr_X4_restore, fr_X7_carryOutRun, fr_X4_add]; done) | with_reducible rfl | (simp only [us_kk, ne_eq, not_false_eq_true, h0, h4, h10, h18, h19, fr_s_X7_addRunsFrom_L20, fr_X0_copyFrom, fr_X4_restore, fr_X7_carryOutRun, fr_X4_add]; with_reducible rfl))
theorem w4_arf_L {x a : Int32} : ∀ (n k : Nat) (σ : Sg), W4 σ → W4 (s_X7_addRunsFrom_L20 x a n k σ) := by
  intro n
  induction n with
  | zero => intro k σ h; exact h
  | succ n ih =>
    intro k σ h
    rw [s_X7_addRunsFrom_L20]
    have h1 : W4 (f_X4_restore 9 x σ).2 := w4_fr h (fr_X4_restore (by decide))
    repeat' split
    · exact h
    · exact ih _ _ (w4_add (w4_fr h1 (fr_X7_carryOutRun (by decide))))
    · exact ih _ _ h1
theorem w4_arf {x a : Int32} {σ : Sg} (hT : TC σ) (h : W4 σ) : W4 (s_X7_addRunsFrom x a σ) := by
  unfold s_X7_addRunsFrom
  exact w4_arf_L _ _ _ (w4_fr h (fr_X0_copyFrom (by decide) (by decide)))
def f_X7_fewestRuns_L34 (i : Nat) (o : Nat) (r : Int32) : Nat → Nat → Sg → Int32 × Sg
  | 0, _, σ34 => (0, σ34)
  | n34 + 1, k34, σ34 => if 192 ≤ (nI k34) then ((-1), σ34)
    else if (σ34 4 0 2) ≤ (nI k34) then ((-1), σ34)
    else if (f_X7_judge 8 o r ((f_X4_restore 8 (nI k34) σ34).2)) = 0 then ((f_X4_restore 8 (nI k34) σ34).1, (f_X4_restore 8 (nI k34) σ34).2)
    else if 3 ≤ ((f_X4_restore 8 (nI k34) σ34).1) then f_X7_fewestRuns_L34 i o r n34 (k34 + 1) ((f_X4_restore 8 (nI k34) σ34).2)
    else f_X7_fewestRuns_L34 i o r n34 (k34 + 1) (s_X7_addRunsFrom (nI k34) (((f_X4_restore 8 (nI k34) σ34).1) + (1 : Int32)) ((f_X4_restore 8 (nI k34) σ34).2))
def f_X7_fewestRuns (i : Nat) (o : Nat) (r : Int32) (σ : Sg) : Int32 × Sg :=
  f_X7_fewestRuns_L34 i o r 193 0 (s_X4_add 8 0 (s_X4_clear (s_X0_copyFrom 8 i σ)))
set_option maxHeartbeats 4000000 in
set_option maxRecDepth 100000 in
theorem c_X7_fewestRuns (l : Launch) (hl9 : l.stackTraces = false) (D : va_G) (ca : Nat → ClassId) (base : Nat) (ad : Adr) (σ : Sg) (i : Nat) (o : Nat) (r : Int32) (hi : i < 12) (ho : o < 13) (hT : TC σ) : Mt l yX7_fewestRuns cX7_fewestRuns 7 (some .int) { frames := 5, cells := 0, slots := 0, locals := 116 } D ca base ad ρm Lm [.ref (ad 7 0), .ref (ad 0 i), .ref (ad 5 o), .int r] σ (some (.int (f_X7_fewestRuns i o r σ).1)) (f_X7_fewestRuns i o r σ).2 := by
  refine w_ofW (by decide) (Nat.le_of_ble_eq_true rfl) rfl ?_
  intro p e s m args below meth c hC hW hS ls hl hin
  have hx := hC.1
  have hb := hC.2.1
  refine lv_aload_n hx hb dX7_fewestRuns_0 rfl (lv_at hl 0 rfl) ?_
  refine gf_X7_51 hC hW m_7 rfl dX7_fewestRuns_1 ?_
  refine lv_iconst (v := 0) hx hb dX7_fewestRuns_4 (by decide) ?_
  have h_1 : vp_in (0 : Int32) 4 := (vp_lit (by decide))
  refine w_aald hC hW m_25 4 (n := 4) rfl rfl h_1 (by rfl) dX7_fewestRuns_5 ?_
  refine W.eq (g2 := F0 m 6 ls (.ref (ad 0 8) :: [])) rfl ?_
  refine lv_astore (lv' := [(4, .ref (ad 0 8)), (0, .ref (ad 7 0)), (1, .ref (ad 0 i)), (2, .ref (ad 5 o)), (3, .int r)]) hx hb dX7_fewestRuns_6 hl (by decide) rfl (fun ls hl => ?_)
  refine lv_aload hx hb dX7_fewestRuns_8 (lv_at hl 0 rfl) ?_
  refine lv_aload_n hx hb dX7_fewestRuns_10 rfl (lv_at hl 2 rfl) ?_
  refine w_callV (As := [.ref (ad 0 i)]) (rest := []) (st2 := []) hC hW hS hl cv_X7_301 (mm_0 (by decide)) (by decide) rfl (c_X0_copyFrom l hl9 D ca base ad σ 8 i (by decide) hi) rfl rfl rfl ⟨Nat.le_of_ble_eq_true rfl, Nat.le_of_ble_eq_true rfl⟩ (Nat.le_of_ble_eq_true rfl) dX7_fewestRuns_11 ⟨Nat.le_of_ble_eq_true rfl, Nat.le_of_ble_eq_true rfl⟩ (fun H locs hW hS => ?_)
  refine lv_aload_n hx hb dX7_fewestRuns_14 rfl (lv_at hl 1 rfl) ?_
  refine gf_X7_65 hC hW m_7 rfl dX7_fewestRuns_15 ?_
  refine w_callV (As := []) (rest := []) (st2 := []) hC hW hS hl cv_X7_360 m_4 (by decide) rfl (c_X4_clear l hl9 D ca base ad (s_X0_copyFrom 8 i σ) ) rfl rfl rfl ⟨Nat.le_of_ble_eq_true rfl, Nat.le_of_ble_eq_true rfl⟩ (Nat.le_of_ble_eq_true rfl) dX7_fewestRuns_18 ⟨Nat.le_of_ble_eq_true rfl, Nat.le_of_ble_eq_true rfl⟩ (fun H locs hW hS => ?_)
  refine lv_aload_n hx hb dX7_fewestRuns_21 rfl (lv_at hl 1 rfl) ?_
  refine gf_X7_65 hC hW m_7 rfl dX7_fewestRuns_22 ?_
  refine lv_aload hx hb dX7_fewestRuns_25 (lv_at hl 0 rfl) ?_
  refine lv_iconst (v := 0) hx hb dX7_fewestRuns_27 (by decide) ?_
  refine w_callV (As := [.ref (ad 0 8), .int 0]) (rest := []) (st2 := []) hC hW hS hl cv_X7_363 m_4 (by decide) rfl (c_X4_add l hl9 D ca base ad (s_X4_clear (s_X0_copyFrom 8 i σ)) 8 0 (by decide) w4_clear) rfl rfl rfl ⟨Nat.le_of_ble_eq_true rfl, Nat.le_of_ble_eq_true rfl⟩ (Nat.le_of_ble_eq_true rfl) dX7_fewestRuns_28 ⟨Nat.le_of_ble_eq_true rfl, Nat.le_of_ble_eq_true rfl⟩ (fun H locs hW hS => ?_)
  refine lv_iconst (v := 0) hx hb dX7_fewestRuns_31 (by decide) ?_
  refine lv_istore (lv' := [(5, .int 0), (4, .ref (ad 0 8)), (0, .ref (ad 7 0)), (1, .ref (ad 0 i)), (2, .ref (ad 5 o)), (3, .int r)]) hx hb dX7_fewestRuns_32 hl (by decide) rfl (fun ls hl => ?_)
  have h_34 : ∀ (n34 k34 : Nat) (σ34 : Sg) (H : Heap) (locs : List Loc) (ls : Array Slot), 193 ≤ k34 + n34 → k34 ≤ 192 → (TC σ34) → (W4 σ34) → Wd D ca (Ab base) ad ρm Lm σ34 H → va_S (Ab base) s.heap H locs → lv_has ls 7 [(5, .int (nI k34)), (4, .ref (ad 0 8)), (0, .ref (ad 7 0)), (2, .ref (ad 5 o)), (3, .int r)] → f_X7_fewestRuns i o r σ = (f_X7_fewestRuns_L34 i o r n34 k34 σ34) → W p l e ({ frames := 5, cells := 0, slots := 0, locals := 116 } : Room) s m args below meth c H locs 0 0 (MQ below (Rt D ca base ad ρm Lm (f_X7_fewestRuns i o r σ).2 (some (.int (f_X7_fewestRuns i o r σ).1))) args s 0 0 (Ab base)) (F0 m 34 ls []) := by
    intro n34
    induction n34 with
    | zero =>
      intro k34 σ34 H locs ls hk1_34 hk2_34 hT hV hW hS hl hO
      exact absurd hk1_34 (by omega)
    | succ n34 ih_34 =>
      intro k34 σ34 H locs ls hk1_34 hk2_34 hT hV hW hS hl hO
      refine lv_iload hx hb dX7_fewestRuns_34 (lv_at hl 0 rfl) ?_
      refine lv_sipush (v := 192) hx hb dX7_fewestRuns_36 (by decide) ?_
      refine lv_icmp_ge (tgt := 103) hx hb dX7_fewestRuns_39 (by decide) (fun c_2 => ?_) (fun c_2 => ?_)
      · refine lv_iconst (v := (-1)) hx hb dX7_fewestRuns_103 (by decide) ?_
        have hO : f_X7_fewestRuns i o r σ = ((-1), σ34) := by rw [hO, f_X7_fewestRuns_L34, if_pos c_2]
        exact w_iretS hC hW hS hO (Nat.le_of_ble_eq_true rfl) (Nat.le_of_ble_eq_true rfl) dX7_fewestRuns_104
      · have hi_c_2 : k34 < 192 := idx_lt c_2 (by decide) (by decide) (by omega)
        refine lv_iload hx hb dX7_fewestRuns_42 (lv_at hl 0 rfl) ?_
        refine lv_aload_n hx hb dX7_fewestRuns_44 rfl (lv_at hl 2 rfl) ?_
        refine gf_X7_65 hC hW m_7 rfl dX7_fewestRuns_45 ?_
        refine gf_X7_366 hC hW m_4 dX7_fewestRuns_48 ?_
        refine lv_icmp_ge (tgt := 103) hx hb dX7_fewestRuns_51 (by decide) (fun c_3 => ?_) (fun c_3 => ?_)
        · refine lv_iconst (v := (-1)) hx hb dX7_fewestRuns_103 (by decide) ?_
          have hO : f_X7_fewestRuns i o r σ = ((-1), σ34) := by rw [hO, f_X7_fewestRuns_L34, if_neg c_2, if_pos c_3]
          exact w_iretS hC hW hS hO (Nat.le_of_ble_eq_true rfl) (Nat.le_of_ble_eq_true rfl) dX7_fewestRuns_104
        · refine lv_aload_n hx hb dX7_fewestRuns_54 rfl (lv_at hl 2 rfl) ?_
          refine gf_X7_65 hC hW m_7 rfl dX7_fewestRuns_55 ?_
          refine lv_aload hx hb dX7_fewestRuns_58 (lv_at hl 1 rfl) ?_
          refine lv_iload hx hb dX7_fewestRuns_60 (lv_at hl 0 rfl) ?_
          refine w_callV (As := [.ref (ad 0 8), .int (nI k34)]) (rest := []) (st2 := .int ((f_X4_restore 8 (nI k34) σ34).1) :: []) hC hW hS hl cv_X7_367 m_4 (by decide) rfl (c_X4_restore l hl9 D ca base ad σ34 8 (nI k34) (by decide)) rfl rfl rfl ⟨Nat.le_of_ble_eq_true rfl, Nat.le_of_ble_eq_true rfl⟩ (Nat.le_of_ble_eq_true rfl) dX7_fewestRuns_62 ⟨Nat.le_of_ble_eq_true rfl, Nat.le_of_ble_eq_true rfl⟩ (fun H locs hW hS => ?_)
          refine lv_istore (lv' := [(6, .int ((f_X4_restore 8 (nI k34) σ34).1)), (5, .int (nI k34)), (4, .ref (ad 0 8)), (0, .ref (ad 7 0)), (2, .ref (ad 5 o)), (3, .int r)]) hx hb dX7_fewestRuns_65 hl (by decide) rfl (fun ls hl => ?_)
          refine lv_aload_n hx hb dX7_fewestRuns_67 rfl (lv_at hl 3 rfl) ?_
          refine lv_aload hx hb dX7_fewestRuns_68 (lv_at hl 2 rfl) ?_
          refine lv_aload_n hx hb dX7_fewestRuns_70 rfl (lv_at hl 4 rfl) ?_
          refine lv_iload_n hx hb dX7_fewestRuns_71 rfl (lv_at hl 5 rfl) ?_
          refine w_callV (As := [.ref (ad 0 8), .ref (ad 5 o), .int r]) (rest := []) (st2 := .int (f_X7_judge 8 o r ((f_X4_restore 8 (nI k34) σ34).2)) :: []) hC hW hS hl cv_X7_217 m_7 (by decide) rfl (c_X7_judge l hl9 D ca base ad ((f_X4_restore 8 (nI k34) σ34).2) 8 o r (by decide) ho) rfl rfl rfl ⟨Nat.le_of_ble_eq_true rfl, Nat.le_of_ble_eq_true rfl⟩ (Nat.le_of_ble_eq_true rfl) dX7_fewestRuns_72 ⟨Nat.le_of_ble_eq_true rfl, Nat.le_of_ble_eq_true rfl⟩ (fun H locs hW hS => ?_)
          refine lv_if_ne (tgt := 81) hx hb dX7_fewestRuns_75 (by decide) (fun c_4 => ?_) (fun c_4 => ?_)
          · refine lv_iload hx hb dX7_fewestRuns_81 (lv_at hl 0 rfl) ?_
            refine lv_iconst (v := 3) hx hb dX7_fewestRuns_83 (by decide) ?_
            refine lv_icmp_ge (tgt := 97) hx hb dX7_fewestRuns_84 (by decide) (fun c_5 => ?_) (fun c_5 => ?_)
            · refine lv_iinc (v := nI (k34 + 1)) (lv' := [(5, .int (nI (k34 + 1))), (6, .int ((f_X4_restore 8 (nI k34) σ34).1)), (4, .ref (ad 0 8)), (0, .ref (ad 7 0)), (2, .ref (ad 5 o)), (3, .int r)]) hx hb dX7_fewestRuns_97 hl (k := 1) rfl (nI_1 _) (by decide) rfl (fun ls hl => ?_)
              refine lv_goto (tgt := 34) hx hb dX7_fewestRuns_100 (by decide) ?_
              refine ih_34 (k34 + 1) ((f_X4_restore 8 (nI k34) σ34).2) _ _ _ (by omega) (by omega) (tc_fr hT (by rw [fr_X4_restore (by decide)])) (w4_fr hV (fr_X4_restore (by decide))) hW hS (lv_sub hl [0, 2, 3, 4, 5] rfl) ?_
              rw [hO, f_X7_fewestRuns_L34, if_neg c_2, if_neg c_3, if_neg c_4, if_pos c_5]
            · refine lv_aload_n hx hb dX7_fewestRuns_87 rfl (lv_at hl 3 rfl) ?_
              refine lv_iload hx hb dX7_fewestRuns_88 (lv_at hl 1 rfl) ?_
              refine lv_iload hx hb dX7_fewestRuns_90 (lv_at hl 0 rfl) ?_
              refine lv_iconst (v := 1) hx hb dX7_fewestRuns_92 (by decide) ?_
              refine lv_iadd hx hb dX7_fewestRuns_93 ?_
              refine w_callV (As := [.int (nI k34), .int (((f_X4_restore 8 (nI k34) σ34).1) + (1 : Int32))]) (rest := []) (st2 := []) hC hW hS hl cv_X7_371 m_7 (by decide) rfl (c_X7_addRunsFrom l hl9 D ca base ad ((f_X4_restore 8 (nI k34) σ34).2) (nI k34) (((f_X4_restore 8 (nI k34) σ34).1) + (1 : Int32)) (tc_fr hT (by rw [fr_X4_restore (by decide)])) (w4_fr hV (fr_X4_restore (by decide)))) rfl rfl rfl ⟨Nat.le_of_ble_eq_true rfl, Nat.le_of_ble_eq_true rfl⟩ (Nat.le_of_ble_eq_true rfl) dX7_fewestRuns_94 ⟨Nat.le_of_ble_eq_true rfl, Nat.le_of_ble_eq_true rfl⟩ (fun H locs hW hS => ?_)
              refine lv_iinc (v := nI (k34 + 1)) (lv' := [(5, .int (nI (k34 + 1))), (6, .int ((f_X4_restore 8 (nI k34) σ34).1)), (4, .ref (ad 0 8)), (0, .ref (ad 7 0)), (2, .ref (ad 5 o)), (3, .int r)]) hx hb dX7_fewestRuns_97 hl (k := 1) rfl (nI_1 _) (by decide) rfl (fun ls hl => ?_)
              refine lv_goto (tgt := 34) hx hb dX7_fewestRuns_100 (by decide) ?_
              refine ih_34 (k34 + 1) (s_X7_addRunsFrom (nI k34) (((f_X4_restore 8 (nI k34) σ34).1) + (1 : Int32)) ((f_X4_restore 8 (nI k34) σ34).2)) _ _ _ (by omega) (by omega) (tc_fr hT (by rw [fr_X7_addRunsFrom (by decide) (by decide) (by decide) (by decide) (by decide), fr_X4_restore (by decide)])) (w4_arf (tc_fr hT (by rw [fr_X4_restore (by decide)])) (w4_fr hV (fr_X4_restore (by decide)))) hW hS (lv_sub hl [0, 2, 3, 4, 5] rfl) ?_
              rw [hO, f_X7_fewestRuns_L34, if_neg c_2, if_neg c_3, if_neg c_4, if_neg c_5]
          · refine lv_iload hx hb dX7_fewestRuns_78 (lv_at hl 0 rfl) ?_
            have hO : f_X7_fewestRuns i o r σ = ((f_X4_restore 8 (nI k34) σ34).1, (f_X4_restore 8 (nI k34) σ34).2) := by rw [hO, f_X7_fewestRuns_L34, if_neg c_2, if_neg c_3, if_pos c_4]
            exact w_iretS hC hW hS hO (Nat.le_of_ble_eq_true rfl) (Nat.le_of_ble_eq_true rfl) dX7_fewestRuns_80
  refine h_34 193 0 (s_X4_add 8 0 (s_X4_clear (s_X0_copyFrom 8 i σ))) _ _ _ (by omega) (by omega) (tc_fr hT (by rw [fr_X4_add (by decide) (by decide) (by decide), fr_X4_clear (by decide) (by decide), fr_X0_copyFrom (by decide) (by decide)])) (w4_add w4_clear) hW hS (lv_sub hl [0, 1, 2, 4, 5] rfl) ?_
  rw [f_X7_fewestRuns]
theorem fr_f_X7_fewestRuns_L34 {kk : Nat}  (i : Nat) (o : Nat) (r : Int32) (h0 : kk ≠ 0) (h4 : kk ≠ 4) (h10 : kk ≠ 10) (h18 : kk ≠ 18) (h19 : kk ≠ 19) : ∀ (y0 : Nat) (y1 : Nat) (σ : Sg), (f_X7_fewestRuns_L34 i o r y0 y1 σ).2 kk = σ kk := by
  intro y0
  induction y0 with
  | zero => intros; rfl
  | succ n ih =>
    intros
    rw [f_X7_fewestRuns_L34]
    repeat' split
    all_goals (first | (simp only [ih, us_kk, ne_eq, not_false_eq_true, h0, h4, h10, h18, h19, fr_X0_copyFrom, fr_X4_clear, fr_X4_add, fr_X4_restore, fr_X7_addRunsFrom]; done) | with_reducible rfl | (simp only [ih, us_kk, ne_eq, not_false_eq_true, h0, h4, h10, h18, h19, fr_X0_copyFrom, fr_X4_clear, fr_X4_add, fr_X4_restore, fr_X7_addRunsFrom]; with_reducible rfl))
theorem fr_X7_fewestRuns {kk : Nat}  {i : Nat} {o : Nat} {r : Int32} {σ : Sg} (h0 : kk ≠ 0) (h4 : kk ≠ 4) (h10 : kk ≠ 10) (h18 : kk ≠ 18) (h19 : kk ≠ 19) : (f_X7_fewestRuns i o r σ).2 kk = σ kk := by
  rw [f_X7_fewestRuns]
  repeat' split
  all_goals (first | (simp only [us_kk, ne_eq, not_false_eq_true, h0, h4, h10, h18, h19, fr_f_X7_fewestRuns_L34, fr_X0_copyFrom, fr_X4_clear, fr_X4_add, fr_X4_restore, fr_X7_addRunsFrom]; done) | with_reducible rfl | (simp only [us_kk, ne_eq, not_false_eq_true, h0, h4, h10, h18, h19, fr_f_X7_fewestRuns_L34, fr_X0_copyFrom, fr_X4_clear, fr_X4_add, fr_X4_restore, fr_X7_addRunsFrom]; with_reducible rfl))
def f_X7_fewestBehind_3 (t : Nat) (o : Nat) (r : Int32) (σ : Sg) : Int32 × Sg :=
  ((-1), σ)
set_option maxHeartbeats 4000000 in
set_option maxRecDepth 100000 in
theorem c_X7_fewestBehind_3 (l : Launch) (hl9 : l.stackTraces = false) (D : va_G) (ca : Nat → ClassId) (base : Nat) (ad : Adr) (σ : Sg) (t : Nat) (o : Nat) (r : Int32) (ht : t < 13) (ho : o < 13) (hT : TC σ) : Mt l yX7_fewestBehind cX7_fewestBehind 6 (some .int) { frames := 0, cells := 0, slots := 0, locals := 0 } D ca base ad ρm Lm [.ref (ad 7 0), .int 3, .ref (ad 5 t), .ref (ad 5 o), .int r] σ (some (.int (f_X7_fewestBehind_3 t o r σ).1)) (f_X7_fewestBehind_3 t o r σ).2 := by
  refine w_ofW (by decide) (Nat.le_of_ble_eq_true rfl) rfl ?_
  intro p e s m args below meth c hC hW hS ls hl hin
  have hx := hC.1
  have hb := hC.2.1
  refine lv_iload_n hx hb dX7_fewestBehind_0 rfl (lv_at hl 1 rfl) ?_
  refine lv_if_lt (tgt := 24) hx hb dX7_fewestBehind_1 (by decide) (fun c => absurd c (by decide)) (fun _ => ?_)
  refine lv_iload_n hx hb dX7_fewestBehind_4 rfl (lv_at hl 1 rfl) ?_
  refine lv_iconst (v := 3) hx hb dX7_fewestBehind_5 (by decide) ?_
  refine lv_icmp_ge (tgt := 24) hx hb dX7_fewestBehind_6 (by decide) (fun _ => ?_) (fun c => absurd (by decide) c)
  refine lv_iconst (v := (-1)) hx hb dX7_fewestBehind_24 (by decide) ?_
  have hO : f_X7_fewestBehind_3 t o r σ = ((-1), σ) := by rw [f_X7_fewestBehind_3]
  exact w_iretS hC hW hS hO (Nat.le_of_ble_eq_true rfl) (Nat.le_of_ble_eq_true rfl) dX7_fewestBehind_25
theorem fr_X7_fewestBehind_3 {kk : Nat}  {t : Nat} {o : Nat} {r : Int32} {σ : Sg}  : (f_X7_fewestBehind_3 t o r σ).2 kk = σ kk := by
  rw [f_X7_fewestBehind_3]
  repeat' split
  all_goals (first | (simp only [us_kk, ne_eq, not_false_eq_true]; done) | with_reducible rfl | (simp only [us_kk, ne_eq, not_false_eq_true]; with_reducible rfl))

def f_X7_fewestOfRows_3_L34 (o : Nat) (r : Int32) : Nat → Nat → Int32 → Sg → Int32 × Sg
  | 0, _, v4_34, σ34 => (v4_34, σ34)
  | n34 + 1, k34, v4_34, σ34 => if (σ34 7 0 6) ≤ (nI k34) then (v4_34, σ34)
    else if ((f_X7_fewestBehind_3 k34 o r σ34).1) = (-1) then f_X7_fewestOfRows_3_L34 o r n34 (k34 + 1) v4_34 ((f_X7_fewestBehind_3 k34 o r σ34).2)
    else if v4_34 = (-1) then f_X7_fewestOfRows_3_L34 o r n34 (k34 + 1) ((f_X7_fewestBehind_3 k34 o r σ34).1) ((f_X7_fewestBehind_3 k34 o r σ34).2)
    else if v4_34 ≤ ((f_X7_fewestBehind_3 k34 o r σ34).1) then f_X7_fewestOfRows_3_L34 o r n34 (k34 + 1) v4_34 ((f_X7_fewestBehind_3 k34 o r σ34).2)
    else f_X7_fewestOfRows_3_L34 o r n34 (k34 + 1) ((f_X7_fewestBehind_3 k34 o r σ34).1) ((f_X7_fewestBehind_3 k34 o r σ34).2)
def f_X7_fewestOfRows_3 (o : Nat) (r : Int32) (σ : Sg) : Int32 × Sg :=
  if (f_X7_judgeAnew 11 o r σ) = 0 then (3, σ)
  else ((f_X7_fewestOfRows_3_L34 o r 13 0 (-1) σ).1, (f_X7_fewestOfRows_3_L34 o r 13 0 (-1) σ).2)
set_option maxHeartbeats 4000000 in
set_option maxRecDepth 100000 in
theorem c_X7_fewestOfRows_3 (l : Launch) (hl9 : l.stackTraces = false) (D : va_G) (ca : Nat → ClassId) (base : Nat) (ad : Adr) (σ : Sg) (o : Nat) (r : Int32) (ho : o < 13) (hT : TC σ) : Mt l yX7_fewestOfRows cX7_fewestOfRows 7 (some .int) { frames := 4, cells := 0, slots := 0, locals := 92 } D ca base ad ρm Lm [.ref (ad 7 0), .int 3, .ref (ad 5 o), .int r] σ (some (.int (f_X7_fewestOfRows_3 o r σ).1)) (f_X7_fewestOfRows_3 o r σ).2 := by
  refine w_ofW (by decide) (Nat.le_of_ble_eq_true rfl) rfl ?_
  intro p e s m args below meth c hC hW hS ls hl hin
  have hx := hC.1
  have hb := hC.2.1
  refine lv_iload_n hx hb dX7_fewestOfRows_0 rfl (lv_at hl 1 rfl) ?_
  refine lv_if_lt (tgt := 9) hx hb dX7_fewestOfRows_1 (by decide) (fun c => absurd c (by decide)) (fun _ => ?_)
  refine lv_iload_n hx hb dX7_fewestOfRows_4 rfl (lv_at hl 1 rfl) ?_
  refine lv_iconst (v := 3) hx hb dX7_fewestOfRows_5 (by decide) ?_
  refine lv_icmp_le (tgt := 11) hx hb dX7_fewestOfRows_6 (by decide) (fun _ => ?_) (fun c => absurd (by decide) c)
  refine lv_aload_n hx hb dX7_fewestOfRows_11 rfl (lv_at hl 0 rfl) ?_
  refine lv_aload_n hx hb dX7_fewestOfRows_12 rfl (lv_at hl 0 rfl) ?_
  refine gf_X7_51 hC hW m_7 rfl dX7_fewestOfRows_13 ?_
  refine lv_iload_n hx hb dX7_fewestOfRows_16 rfl (lv_at hl 1 rfl) ?_
  have h_1 : vp_in (3 : Int32) 4 := (vp_lit (by decide))
  refine w_aald hC hW m_25 4 (n := 4) rfl rfl h_1 (by rfl) dX7_fewestOfRows_17 ?_
  refine W.eq (g2 := F0 m 18 ls (.ref (ad 0 11) :: .ref (ad 7 0) :: [])) rfl ?_
  refine lv_aload_n hx hb dX7_fewestOfRows_18 rfl (lv_at hl 2 rfl) ?_
  refine lv_iload_n hx hb dX7_fewestOfRows_19 rfl (lv_at hl 3 rfl) ?_
  refine w_callV (As := [.ref (ad 0 11), .ref (ad 5 o), .int r]) (rest := []) (st2 := .int (f_X7_judgeAnew 11 o r σ) :: []) hC hW hS hl cv_X7_295 m_7 (by decide) rfl (c_X7_judgeAnew l hl9 D ca base ad σ 11 o r (by decide) ho) rfl rfl rfl ⟨Nat.le_of_ble_eq_true rfl, Nat.le_of_ble_eq_true rfl⟩ (Nat.le_of_ble_eq_true rfl) dX7_fewestOfRows_20 ⟨Nat.le_of_ble_eq_true rfl, Nat.le_of_ble_eq_true rfl⟩ (fun H locs hW hS => ?_)
  refine lv_if_ne (tgt := 28) hx hb dX7_fewestOfRows_23 (by decide) (fun c_2 => ?_) (fun c_2 => ?_)
  · refine lv_iconst (v := (-1)) hx hb dX7_fewestOfRows_28 (by decide) ?_
    refine lv_istore (lv' := [(4, .int (-1)), (0, .ref (ad 7 0)), (1, .int 3), (2, .ref (ad 5 o)), (3, .int r)]) hx hb dX7_fewestOfRows_29 hl (by decide) rfl (fun ls hl => ?_)
    refine lv_iconst (v := 0) hx hb dX7_fewestOfRows_31 (by decide) ?_
    refine lv_istore (lv' := [(5, .int 0), (4, .int (-1)), (0, .ref (ad 7 0)), (1, .int 3), (2, .ref (ad 5 o)), (3, .int r)]) hx hb dX7_fewestOfRows_32 hl (by decide) rfl (fun ls hl => ?_)
    have h_34 : ∀ (n34 k34 : Nat) (v4_34 : Int32) (σ34 : Sg) (H : Heap) (locs : List Loc) (ls : Array Slot), 13 ≤ k34 + n34 → k34 ≤ 12 → (TC σ34) → Wd D ca (Ab base) ad ρm Lm σ34 H → va_S (Ab base) s.heap H locs → lv_has ls 7 [(5, .int (nI k34)), (4, .int v4_34), (0, .ref (ad 7 0)), (1, .int 3), (2, .ref (ad 5 o)), (3, .int r)] → f_X7_fewestOfRows_3 o r σ = (((f_X7_fewestOfRows_3_L34 o r n34 k34 v4_34 σ34).1, (f_X7_fewestOfRows_3_L34 o r n34 k34 v4_34 σ34).2)) → W p l e ({ frames := 4, cells := 0, slots := 0, locals := 92 } : Room) s m args below meth c H locs 0 0 (MQ below (Rt D ca base ad ρm Lm (f_X7_fewestOfRows_3 o r σ).2 (some (.int (f_X7_fewestOfRows_3 o r σ).1))) args s 0 0 (Ab base)) (F0 m 34 ls []) := by
      intro n34
      induction n34 with
      | zero =>
        intro k34 v4_34 σ34 H locs ls hk1_34 hk2_34 hT hW hS hl hO
        exact absurd hk1_34 (by omega)
      | succ n34 ih_34 =>
        intro k34 v4_34 σ34 H locs ls hk1_34 hk2_34 hT hW hS hl hO
        refine lv_iload hx hb dX7_fewestOfRows_34 (lv_at hl 0 rfl) ?_
        refine lv_aload_n hx hb dX7_fewestOfRows_36 rfl (lv_at hl 2 rfl) ?_
        refine gf_X7_111 hC hW m_7 dX7_fewestOfRows_37 ?_
        refine lv_icmp_ge (tgt := 88) hx hb dX7_fewestOfRows_40 (by decide) (fun c_3 => ?_) (fun c_3 => ?_)
        · replace hl := lv_sub hl [1, 2, 3, 4, 5] (l' := [(4, .int v4_34), (0, .ref (ad 7 0)), (1, .int 3), (2, .ref (ad 5 o)), (3, .int r)]) rfl
          refine lv_iload hx hb dX7_fewestOfRows_88 (lv_at hl 0 rfl) ?_
          have hO : f_X7_fewestOfRows_3 o r σ = (v4_34, σ34) := by rw [hO, f_X7_fewestOfRows_3_L34, if_pos c_3]
          exact w_iretS hC hW hS hO (Nat.le_of_ble_eq_true rfl) (Nat.le_of_ble_eq_true rfl) dX7_fewestOfRows_90
        · have hi_c_3 : k34 < 12 := tc_cnt hT (by omega) c_3
          refine lv_aload_n hx hb dX7_fewestOfRows_43 rfl (lv_at hl 2 rfl) ?_
          refine lv_iload_n hx hb dX7_fewestOfRows_44 rfl (lv_at hl 3 rfl) ?_
          refine lv_aload_n hx hb dX7_fewestOfRows_45 rfl (lv_at hl 2 rfl) ?_
          refine gf_X7_32 hC hW m_7 rfl dX7_fewestOfRows_46 ?_
          refine lv_iload hx hb dX7_fewestOfRows_49 (lv_at hl 0 rfl) ?_
          have h_4 : vp_in (nI k34) 12 := (vp_in_nI (by omega) (by omega))
          refine w_aald hC hW m_22 3 (n := 12) rfl rfl h_4 (by rfl) dX7_fewestOfRows_51 ?_
          rw [nI_clamp (by omega)]
          refine lv_aload_n hx hb dX7_fewestOfRows_52 rfl (lv_at hl 4 rfl) ?_
          refine lv_iload_n hx hb dX7_fewestOfRows_53 rfl (lv_at hl 5 rfl) ?_
          refine w_callV (As := [.int 3, .ref (ad 5 k34), .ref (ad 5 o), .int r]) (rest := []) (st2 := .int ((f_X7_fewestBehind_3 k34 o r σ34).1) :: []) hC hW hS hl cv_X7_374 m_7 (by decide) rfl (c_X7_fewestBehind_3 l hl9 D ca base ad σ34 k34 o r (by omega) ho (by first | assumption | decide | omega)) rfl rfl rfl ⟨Nat.le_of_ble_eq_true rfl, Nat.le_of_ble_eq_true rfl⟩ (Nat.le_of_ble_eq_true rfl) dX7_fewestOfRows_54 ⟨Nat.le_of_ble_eq_true rfl, Nat.le_of_ble_eq_true rfl⟩ (fun H locs hW hS => ?_)
          refine lv_istore (lv' := [(6, .int ((f_X7_fewestBehind_3 k34 o r σ34).1)), (5, .int (nI k34)), (4, .int v4_34), (0, .ref (ad 7 0)), (1, .int 3), (2, .ref (ad 5 o)), (3, .int r)]) hx hb dX7_fewestOfRows_57 hl (by decide) rfl (fun ls hl => ?_)
          refine lv_iload hx hb dX7_fewestOfRows_59 (lv_at hl 0 rfl) ?_
          refine lv_iconst (v := (-1)) hx hb dX7_fewestOfRows_61 (by decide) ?_
          refine lv_icmp_eq (tgt := 82) hx hb dX7_fewestOfRows_62 (by decide) (fun c_5 => ?_) (fun c_5 => ?_)
          · refine lv_iinc (v := nI (k34 + 1)) (lv' := [(5, .int (nI (k34 + 1))), (6, .int ((f_X7_fewestBehind_3 k34 o r σ34).1)), (4, .int v4_34), (0, .ref (ad 7 0)), (1, .int 3), (2, .ref (ad 5 o)), (3, .int r)]) hx hb dX7_fewestOfRows_82 hl (k := 1) rfl (nI_1 _) (by decide) rfl (fun ls hl => ?_)
            refine lv_goto (tgt := 34) hx hb dX7_fewestOfRows_85 (by decide) ?_
            refine ih_34 (k34 + 1) v4_34 ((f_X7_fewestBehind_3 k34 o r σ34).2) _ _ _ (by omega) (by omega) (tc_fr hT (by rw [fr_X7_fewestBehind_3])) hW hS (lv_sub hl [0, 2, 3, 4, 5, 6] rfl) ?_
            rw [hO, f_X7_fewestOfRows_3_L34, if_neg c_3, if_pos c_5]
          · refine lv_iload hx hb dX7_fewestOfRows_65 (lv_at hl 2 rfl) ?_
            refine lv_iconst (v := (-1)) hx hb dX7_fewestOfRows_67 (by decide) ?_
            refine lv_icmp_eq (tgt := 78) hx hb dX7_fewestOfRows_68 (by decide) (fun c_6 => ?_) (fun c_6 => ?_)
            · refine lv_iload hx hb dX7_fewestOfRows_78 (lv_at hl 0 rfl) ?_
              refine lv_istore (lv' := [(4, .int ((f_X7_fewestBehind_3 k34 o r σ34).1)), (6, .int ((f_X7_fewestBehind_3 k34 o r σ34).1)), (5, .int (nI k34)), (0, .ref (ad 7 0)), (1, .int 3), (2, .ref (ad 5 o)), (3, .int r)]) hx hb dX7_fewestOfRows_80 hl (by decide) rfl (fun ls hl => ?_)
              refine lv_iinc (v := nI (k34 + 1)) (lv' := [(5, .int (nI (k34 + 1))), (4, .int ((f_X7_fewestBehind_3 k34 o r σ34).1)), (6, .int ((f_X7_fewestBehind_3 k34 o r σ34).1)), (0, .ref (ad 7 0)), (1, .int 3), (2, .ref (ad 5 o)), (3, .int r)]) hx hb dX7_fewestOfRows_82 hl (k := 2) rfl (nI_1 _) (by decide) rfl (fun ls hl => ?_)
              refine lv_goto (tgt := 34) hx hb dX7_fewestOfRows_85 (by decide) ?_
              refine ih_34 (k34 + 1) ((f_X7_fewestBehind_3 k34 o r σ34).1) ((f_X7_fewestBehind_3 k34 o r σ34).2) _ _ _ (by omega) (by omega) (tc_fr hT (by rw [fr_X7_fewestBehind_3])) hW hS (lv_sub hl [0, 1, 3, 4, 5, 6] rfl) ?_
              rw [hO, f_X7_fewestOfRows_3_L34, if_neg c_3, if_neg c_5, if_pos c_6]
            · refine lv_iload hx hb dX7_fewestOfRows_71 (lv_at hl 0 rfl) ?_
              refine lv_iload hx hb dX7_fewestOfRows_73 (lv_at hl 2 rfl) ?_
              refine lv_icmp_ge (tgt := 82) hx hb dX7_fewestOfRows_75 (by decide) (fun c_7 => ?_) (fun c_7 => ?_)
              · refine lv_iinc (v := nI (k34 + 1)) (lv' := [(5, .int (nI (k34 + 1))), (6, .int ((f_X7_fewestBehind_3 k34 o r σ34).1)), (4, .int v4_34), (0, .ref (ad 7 0)), (1, .int 3), (2, .ref (ad 5 o)), (3, .int r)]) hx hb dX7_fewestOfRows_82 hl (k := 1) rfl (nI_1 _) (by decide) rfl (fun ls hl => ?_)
                refine lv_goto (tgt := 34) hx hb dX7_fewestOfRows_85 (by decide) ?_
                refine ih_34 (k34 + 1) v4_34 ((f_X7_fewestBehind_3 k34 o r σ34).2) _ _ _ (by omega) (by omega) (tc_fr hT (by rw [fr_X7_fewestBehind_3])) hW hS (lv_sub hl [0, 2, 3, 4, 5, 6] rfl) ?_
                rw [hO, f_X7_fewestOfRows_3_L34, if_neg c_3, if_neg c_5, if_neg c_6, if_pos c_7]
              · refine lv_iload hx hb dX7_fewestOfRows_78 (lv_at hl 0 rfl) ?_
                refine lv_istore (lv' := [(4, .int ((f_X7_fewestBehind_3 k34 o r σ34).1)), (6, .int ((f_X7_fewestBehind_3 k34 o r σ34).1)), (5, .int (nI k34)), (0, .ref (ad 7 0)), (1, .int 3), (2, .ref (ad 5 o)), (3, .int r)]) hx hb dX7_fewestOfRows_80 hl (by decide) rfl (fun ls hl => ?_)
                refine lv_iinc (v := nI (k34 + 1)) (lv' := [(5, .int (nI (k34 + 1))), (4, .int ((f_X7_fewestBehind_3 k34 o r σ34).1)), (6, .int ((f_X7_fewestBehind_3 k34 o r σ34).1)), (0, .ref (ad 7 0)), (1, .int 3), (2, .ref (ad 5 o)), (3, .int r)]) hx hb dX7_fewestOfRows_82 hl (k := 2) rfl (nI_1 _) (by decide) rfl (fun ls hl => ?_)
                refine lv_goto (tgt := 34) hx hb dX7_fewestOfRows_85 (by decide) ?_
                refine ih_34 (k34 + 1) ((f_X7_fewestBehind_3 k34 o r σ34).1) ((f_X7_fewestBehind_3 k34 o r σ34).2) _ _ _ (by omega) (by omega) (tc_fr hT (by rw [fr_X7_fewestBehind_3])) hW hS (lv_sub hl [0, 1, 3, 4, 5, 6] rfl) ?_
                rw [hO, f_X7_fewestOfRows_3_L34, if_neg c_3, if_neg c_5, if_neg c_6, if_neg c_7]
    refine h_34 13 0 (-1) σ _ _ _ (by omega) (by omega) (tc_fr hT rfl) hW hS (lv_sub hl [0, 1, 2, 3, 4, 5] rfl) ?_
    rw [f_X7_fewestOfRows_3, if_neg c_2]
  · refine lv_iload_n hx hb dX7_fewestOfRows_26 rfl (lv_at hl 1 rfl) ?_
    have hO : f_X7_fewestOfRows_3 o r σ = (3, σ) := by rw [f_X7_fewestOfRows_3, if_pos c_2]
    exact w_iretS hC hW hS hO (Nat.le_of_ble_eq_true rfl) (Nat.le_of_ble_eq_true rfl) dX7_fewestOfRows_27
theorem fr_f_X7_fewestOfRows_3_L34 {kk : Nat}  (o : Nat) (r : Int32)  : ∀ (y0 : Nat) (y1 : Nat) (y2 : Int32) (σ : Sg), (f_X7_fewestOfRows_3_L34 o r y0 y1 y2 σ).2 kk = σ kk := by
  intro y0
  induction y0 with
  | zero => intros; rfl
  | succ n ih =>
    intros
    rw [f_X7_fewestOfRows_3_L34]
    repeat' split
    all_goals (first | (simp only [ih, us_kk, ne_eq, not_false_eq_true, fr_X7_fewestBehind_3]; done) | with_reducible rfl | (simp only [ih, us_kk, ne_eq, not_false_eq_true, fr_X7_fewestBehind_3]; with_reducible rfl))
theorem fr_X7_fewestOfRows_3 {kk : Nat}  {o : Nat} {r : Int32} {σ : Sg}  : (f_X7_fewestOfRows_3 o r σ).2 kk = σ kk := by
  rw [f_X7_fewestOfRows_3]
  repeat' split
  all_goals (first | (simp only [us_kk, ne_eq, not_false_eq_true, fr_f_X7_fewestOfRows_3_L34, fr_X7_fewestBehind_3]; done) | with_reducible rfl | (simp only [us_kk, ne_eq, not_false_eq_true, fr_f_X7_fewestOfRows_3_L34, fr_X7_fewestBehind_3]; with_reducible rfl))
def f_X7_fewestBehind_2 (t : Nat) (o : Nat) (r : Int32) (σ : Sg) : Int32 × Sg :=
  if (f_X7_judgeAnew 10 t 4 σ) = 0 then ((f_X7_fewestOfRows_3 o r (s_X7_carryOutRun 11 t (s_X0_copyFrom 11 10 σ))).1, (f_X7_fewestOfRows_3 o r (s_X7_carryOutRun 11 t (s_X0_copyFrom 11 10 σ))).2)
  else ((-1), σ)
set_option maxHeartbeats 4000000 in
set_option maxRecDepth 100000 in
theorem c_X7_fewestBehind_2 (l : Launch) (hl9 : l.stackTraces = false) (D : va_G) (ca : Nat → ClassId) (base : Nat) (ad : Adr) (σ : Sg) (t : Nat) (o : Nat) (r : Int32) (ht : t < 13) (ho : o < 13) (hT : TC σ) : Mt l yX7_fewestBehind cX7_fewestBehind 6 (some .int) { frames := 5, cells := 0, slots := 0, locals := 118 } D ca base ad ρm Lm [.ref (ad 7 0), .int 2, .ref (ad 5 t), .ref (ad 5 o), .int r] σ (some (.int (f_X7_fewestBehind_2 t o r σ).1)) (f_X7_fewestBehind_2 t o r σ).2 := by
  refine w_ofW (by decide) (Nat.le_of_ble_eq_true rfl) rfl ?_
  intro p e s m args below meth c hC hW hS ls hl hin
  have hx := hC.1
  have hb := hC.2.1
  refine lv_iload_n hx hb dX7_fewestBehind_0 rfl (lv_at hl 1 rfl) ?_
  refine lv_if_lt (tgt := 24) hx hb dX7_fewestBehind_1 (by decide) (fun c => absurd c (by decide)) (fun _ => ?_)
  refine lv_iload_n hx hb dX7_fewestBehind_4 rfl (lv_at hl 1 rfl) ?_
  refine lv_iconst (v := 3) hx hb dX7_fewestBehind_5 (by decide) ?_
  refine lv_icmp_ge (tgt := 24) hx hb dX7_fewestBehind_6 (by decide) (fun c => absurd c (by decide)) (fun _ => ?_)
  refine lv_aload_n hx hb dX7_fewestBehind_9 rfl (lv_at hl 0 rfl) ?_
  refine lv_aload_n hx hb dX7_fewestBehind_10 rfl (lv_at hl 0 rfl) ?_
  refine gf_X7_51 hC hW m_7 rfl dX7_fewestBehind_11 ?_
  refine lv_iload_n hx hb dX7_fewestBehind_14 rfl (lv_at hl 1 rfl) ?_
  have h_1 : vp_in (2 : Int32) 4 := (vp_lit (by decide))
  refine w_aald hC hW m_25 4 (n := 4) rfl rfl h_1 (by rfl) dX7_fewestBehind_15 ?_
  refine W.eq (g2 := F0 m 16 ls (.ref (ad 0 10) :: .ref (ad 7 0) :: [])) rfl ?_
  refine lv_aload_n hx hb dX7_fewestBehind_16 rfl (lv_at hl 2 rfl) ?_
  refine lv_iconst (v := 4) hx hb dX7_fewestBehind_17 (by decide) ?_
  refine w_callV (As := [.ref (ad 0 10), .ref (ad 5 t), .int 4]) (rest := []) (st2 := .int (f_X7_judgeAnew 10 t 4 σ) :: []) hC hW hS hl cv_X7_295 m_7 (by decide) rfl (c_X7_judgeAnew l hl9 D ca base ad σ 10 t 4 (by decide) ht) rfl rfl rfl ⟨Nat.le_of_ble_eq_true rfl, Nat.le_of_ble_eq_true rfl⟩ (Nat.le_of_ble_eq_true rfl) dX7_fewestBehind_18 ⟨Nat.le_of_ble_eq_true rfl, Nat.le_of_ble_eq_true rfl⟩ (fun H locs hW hS => ?_)
  refine lv_if_eq (tgt := 26) hx hb dX7_fewestBehind_21 (by decide) (fun c_2 => ?_) (fun c_2 => ?_)
  · refine lv_aload_n hx hb dX7_fewestBehind_26 rfl (lv_at hl 0 rfl) ?_
    refine gf_X7_51 hC hW m_7 rfl dX7_fewestBehind_27 ?_
    refine lv_iload_n hx hb dX7_fewestBehind_30 rfl (lv_at hl 1 rfl) ?_
    refine lv_iconst (v := 1) hx hb dX7_fewestBehind_31 (by decide) ?_
    refine lv_iadd hx hb dX7_fewestBehind_32 ?_
    refine lv_eqi (y := 3) (by decide) ?_
    have h_3 : vp_in (3 : Int32) 4 := (vp_lit (by decide))
    refine w_aald hC hW m_25 4 (n := 4) rfl rfl h_3 (by rfl) dX7_fewestBehind_33 ?_
    refine W.eq (g2 := F0 m 34 ls (.ref (ad 0 11) :: [])) rfl ?_
    refine lv_astore (lv' := [(5, .ref (ad 0 11)), (0, .ref (ad 7 0)), (1, .int 2), (2, .ref (ad 5 t)), (3, .ref (ad 5 o)), (4, .int r)]) hx hb dX7_fewestBehind_34 hl (by decide) rfl (fun ls hl => ?_)
    refine lv_aload hx hb dX7_fewestBehind_36 (lv_at hl 0 rfl) ?_
    refine lv_aload_n hx hb dX7_fewestBehind_38 rfl (lv_at hl 1 rfl) ?_
    refine gf_X7_51 hC hW m_7 rfl dX7_fewestBehind_39 ?_
    refine lv_iload_n hx hb dX7_fewestBehind_42 rfl (lv_at hl 2 rfl) ?_
    have h_4 : vp_in (2 : Int32) 4 := (vp_lit (by decide))
    refine w_aald hC hW m_25 4 (n := 4) rfl rfl h_4 (by rfl) dX7_fewestBehind_43 ?_
    refine W.eq (g2 := F0 m 44 ls (.ref (ad 0 10) :: .ref (ad 0 11) :: [])) rfl ?_
    refine w_callV (As := [.ref (ad 0 10)]) (rest := []) (st2 := []) hC hW hS hl cv_X7_301 (mm_0 (by decide)) (by decide) rfl (c_X0_copyFrom l hl9 D ca base ad σ 11 10 (by decide) (by decide)) rfl rfl rfl ⟨Nat.le_of_ble_eq_true rfl, Nat.le_of_ble_eq_true rfl⟩ (Nat.le_of_ble_eq_true rfl) dX7_fewestBehind_44 ⟨Nat.le_of_ble_eq_true rfl, Nat.le_of_ble_eq_true rfl⟩ (fun H locs hW hS => ?_)
    refine lv_aload_n hx hb dX7_fewestBehind_47 rfl (lv_at hl 1 rfl) ?_
    refine lv_aload hx hb dX7_fewestBehind_48 (lv_at hl 0 rfl) ?_
    refine lv_aload_n hx hb dX7_fewestBehind_50 rfl (lv_at hl 3 rfl) ?_
    refine w_callV (As := [.ref (ad 0 11), .ref (ad 5 t)]) (rest := []) (st2 := []) hC hW hS hl cv_X7_225 m_7 (by decide) rfl (c_X7_carryOutRun l hl9 D ca base ad (s_X0_copyFrom 11 10 σ) 11 t (by decide) ht) rfl rfl rfl ⟨Nat.le_of_ble_eq_true rfl, Nat.le_of_ble_eq_true rfl⟩ (Nat.le_of_ble_eq_true rfl) dX7_fewestBehind_51 ⟨Nat.le_of_ble_eq_true rfl, Nat.le_of_ble_eq_true rfl⟩ (fun H locs hW hS => ?_)
    refine lv_aload_n hx hb dX7_fewestBehind_54 rfl (lv_at hl 1 rfl) ?_
    refine lv_iload_n hx hb dX7_fewestBehind_55 rfl (lv_at hl 2 rfl) ?_
    refine lv_iconst (v := 1) hx hb dX7_fewestBehind_56 (by decide) ?_
    refine lv_iadd hx hb dX7_fewestBehind_57 ?_
    refine lv_eqi (y := 3) (by decide) ?_
    refine lv_aload_n hx hb dX7_fewestBehind_58 rfl (lv_at hl 4 rfl) ?_
    refine lv_iload hx hb dX7_fewestBehind_59 (lv_at hl 5 rfl) ?_
    refine w_callV (As := [.int 3, .ref (ad 5 o), .int r]) (rest := []) (st2 := .int ((f_X7_fewestOfRows_3 o r (s_X7_carryOutRun 11 t (s_X0_copyFrom 11 10 σ))).1) :: []) hC hW hS hl cv_X7_305 m_7 (by decide) rfl (c_X7_fewestOfRows_3 l hl9 D ca base ad (s_X7_carryOutRun 11 t (s_X0_copyFrom 11 10 σ)) o r ho (tc_fr hT (by rw [fr_X7_carryOutRun (by decide), fr_X0_copyFrom (by decide) (by decide)]))) rfl rfl rfl ⟨Nat.le_of_ble_eq_true rfl, Nat.le_of_ble_eq_true rfl⟩ (Nat.le_of_ble_eq_true rfl) dX7_fewestBehind_61 ⟨Nat.le_of_ble_eq_true rfl, Nat.le_of_ble_eq_true rfl⟩ (fun H locs hW hS => ?_)
    have hO : f_X7_fewestBehind_2 t o r σ = ((f_X7_fewestOfRows_3 o r (s_X7_carryOutRun 11 t (s_X0_copyFrom 11 10 σ))).1, (f_X7_fewestOfRows_3 o r (s_X7_carryOutRun 11 t (s_X0_copyFrom 11 10 σ))).2) := by rw [f_X7_fewestBehind_2, if_pos c_2]
    exact w_iretS hC hW hS hO (Nat.le_of_ble_eq_true rfl) (Nat.le_of_ble_eq_true rfl) dX7_fewestBehind_64
  · refine lv_iconst (v := (-1)) hx hb dX7_fewestBehind_24 (by decide) ?_
    have hO : f_X7_fewestBehind_2 t o r σ = ((-1), σ) := by rw [f_X7_fewestBehind_2, if_neg c_2]
    exact w_iretS hC hW hS hO (Nat.le_of_ble_eq_true rfl) (Nat.le_of_ble_eq_true rfl) dX7_fewestBehind_25
theorem fr_X7_fewestBehind_2 {kk : Nat}  {t : Nat} {o : Nat} {r : Int32} {σ : Sg} (h0 : kk ≠ 0) (h10 : kk ≠ 10) : (f_X7_fewestBehind_2 t o r σ).2 kk = σ kk := by
  rw [f_X7_fewestBehind_2]
  repeat' split
  all_goals (first | (simp only [us_kk, ne_eq, not_false_eq_true, h0, h10, fr_X0_copyFrom, fr_X7_carryOutRun, fr_X7_fewestOfRows_3]; done) | with_reducible rfl | (simp only [us_kk, ne_eq, not_false_eq_true, h0, h10, fr_X0_copyFrom, fr_X7_carryOutRun, fr_X7_fewestOfRows_3]; with_reducible rfl))

def f_X7_fewestOfRows_2_L34 (o : Nat) (r : Int32) : Nat → Nat → Int32 → Sg → Int32 × Sg
  | 0, _, v4_34, σ34 => (v4_34, σ34)
  | n34 + 1, k34, v4_34, σ34 => if (σ34 7 0 6) ≤ (nI k34) then (v4_34, σ34)
    else if ((f_X7_fewestBehind_2 k34 o r σ34).1) = (-1) then f_X7_fewestOfRows_2_L34 o r n34 (k34 + 1) v4_34 ((f_X7_fewestBehind_2 k34 o r σ34).2)
    else if v4_34 = (-1) then f_X7_fewestOfRows_2_L34 o r n34 (k34 + 1) ((f_X7_fewestBehind_2 k34 o r σ34).1) ((f_X7_fewestBehind_2 k34 o r σ34).2)
    else if v4_34 ≤ ((f_X7_fewestBehind_2 k34 o r σ34).1) then f_X7_fewestOfRows_2_L34 o r n34 (k34 + 1) v4_34 ((f_X7_fewestBehind_2 k34 o r σ34).2)
    else f_X7_fewestOfRows_2_L34 o r n34 (k34 + 1) ((f_X7_fewestBehind_2 k34 o r σ34).1) ((f_X7_fewestBehind_2 k34 o r σ34).2)
def f_X7_fewestOfRows_2 (o : Nat) (r : Int32) (σ : Sg) : Int32 × Sg :=
  if (f_X7_judgeAnew 10 o r σ) = 0 then (2, σ)
  else ((f_X7_fewestOfRows_2_L34 o r 13 0 (-1) σ).1, (f_X7_fewestOfRows_2_L34 o r 13 0 (-1) σ).2)
set_option maxHeartbeats 4000000 in
set_option maxRecDepth 100000 in
theorem c_X7_fewestOfRows_2 (l : Launch) (hl9 : l.stackTraces = false) (D : va_G) (ca : Nat → ClassId) (base : Nat) (ad : Adr) (σ : Sg) (o : Nat) (r : Int32) (ho : o < 13) (hT : TC σ) : Mt l yX7_fewestOfRows cX7_fewestOfRows 7 (some .int) { frames := 6, cells := 0, slots := 0, locals := 143 } D ca base ad ρm Lm [.ref (ad 7 0), .int 2, .ref (ad 5 o), .int r] σ (some (.int (f_X7_fewestOfRows_2 o r σ).1)) (f_X7_fewestOfRows_2 o r σ).2 := by
  refine w_ofW (by decide) (Nat.le_of_ble_eq_true rfl) rfl ?_
  intro p e s m args below meth c hC hW hS ls hl hin
  have hx := hC.1
  have hb := hC.2.1
  refine lv_iload_n hx hb dX7_fewestOfRows_0 rfl (lv_at hl 1 rfl) ?_
  refine lv_if_lt (tgt := 9) hx hb dX7_fewestOfRows_1 (by decide) (fun c => absurd c (by decide)) (fun _ => ?_)
  refine lv_iload_n hx hb dX7_fewestOfRows_4 rfl (lv_at hl 1 rfl) ?_
  refine lv_iconst (v := 3) hx hb dX7_fewestOfRows_5 (by decide) ?_
  refine lv_icmp_le (tgt := 11) hx hb dX7_fewestOfRows_6 (by decide) (fun _ => ?_) (fun c => absurd (by decide) c)
  refine lv_aload_n hx hb dX7_fewestOfRows_11 rfl (lv_at hl 0 rfl) ?_
  refine lv_aload_n hx hb dX7_fewestOfRows_12 rfl (lv_at hl 0 rfl) ?_
  refine gf_X7_51 hC hW m_7 rfl dX7_fewestOfRows_13 ?_
  refine lv_iload_n hx hb dX7_fewestOfRows_16 rfl (lv_at hl 1 rfl) ?_
  have h_1 : vp_in (2 : Int32) 4 := (vp_lit (by decide))
  refine w_aald hC hW m_25 4 (n := 4) rfl rfl h_1 (by rfl) dX7_fewestOfRows_17 ?_
  refine W.eq (g2 := F0 m 18 ls (.ref (ad 0 10) :: .ref (ad 7 0) :: [])) rfl ?_
  refine lv_aload_n hx hb dX7_fewestOfRows_18 rfl (lv_at hl 2 rfl) ?_
  refine lv_iload_n hx hb dX7_fewestOfRows_19 rfl (lv_at hl 3 rfl) ?_
  refine w_callV (As := [.ref (ad 0 10), .ref (ad 5 o), .int r]) (rest := []) (st2 := .int (f_X7_judgeAnew 10 o r σ) :: []) hC hW hS hl cv_X7_295 m_7 (by decide) rfl (c_X7_judgeAnew l hl9 D ca base ad σ 10 o r (by decide) ho) rfl rfl rfl ⟨Nat.le_of_ble_eq_true rfl, Nat.le_of_ble_eq_true rfl⟩ (Nat.le_of_ble_eq_true rfl) dX7_fewestOfRows_20 ⟨Nat.le_of_ble_eq_true rfl, Nat.le_of_ble_eq_true rfl⟩ (fun H locs hW hS => ?_)
  refine lv_if_ne (tgt := 28) hx hb dX7_fewestOfRows_23 (by decide) (fun c_2 => ?_) (fun c_2 => ?_)
  · refine lv_iconst (v := (-1)) hx hb dX7_fewestOfRows_28 (by decide) ?_
    refine lv_istore (lv' := [(4, .int (-1)), (0, .ref (ad 7 0)), (1, .int 2), (2, .ref (ad 5 o)), (3, .int r)]) hx hb dX7_fewestOfRows_29 hl (by decide) rfl (fun ls hl => ?_)
    refine lv_iconst (v := 0) hx hb dX7_fewestOfRows_31 (by decide) ?_
    refine lv_istore (lv' := [(5, .int 0), (4, .int (-1)), (0, .ref (ad 7 0)), (1, .int 2), (2, .ref (ad 5 o)), (3, .int r)]) hx hb dX7_fewestOfRows_32 hl (by decide) rfl (fun ls hl => ?_)
    have h_34 : ∀ (n34 k34 : Nat) (v4_34 : Int32) (σ34 : Sg) (H : Heap) (locs : List Loc) (ls : Array Slot), 13 ≤ k34 + n34 → k34 ≤ 12 → (TC σ34) → Wd D ca (Ab base) ad ρm Lm σ34 H → va_S (Ab base) s.heap H locs → lv_has ls 7 [(5, .int (nI k34)), (4, .int v4_34), (0, .ref (ad 7 0)), (1, .int 2), (2, .ref (ad 5 o)), (3, .int r)] → f_X7_fewestOfRows_2 o r σ = (((f_X7_fewestOfRows_2_L34 o r n34 k34 v4_34 σ34).1, (f_X7_fewestOfRows_2_L34 o r n34 k34 v4_34 σ34).2)) → W p l e ({ frames := 6, cells := 0, slots := 0, locals := 143 } : Room) s m args below meth c H locs 0 0 (MQ below (Rt D ca base ad ρm Lm (f_X7_fewestOfRows_2 o r σ).2 (some (.int (f_X7_fewestOfRows_2 o r σ).1))) args s 0 0 (Ab base)) (F0 m 34 ls []) := by
      intro n34
      induction n34 with
      | zero =>
        intro k34 v4_34 σ34 H locs ls hk1_34 hk2_34 hT hW hS hl hO
        exact absurd hk1_34 (by omega)
      | succ n34 ih_34 =>
        intro k34 v4_34 σ34 H locs ls hk1_34 hk2_34 hT hW hS hl hO
        refine lv_iload hx hb dX7_fewestOfRows_34 (lv_at hl 0 rfl) ?_
        refine lv_aload_n hx hb dX7_fewestOfRows_36 rfl (lv_at hl 2 rfl) ?_
        refine gf_X7_111 hC hW m_7 dX7_fewestOfRows_37 ?_
        refine lv_icmp_ge (tgt := 88) hx hb dX7_fewestOfRows_40 (by decide) (fun c_3 => ?_) (fun c_3 => ?_)
        · replace hl := lv_sub hl [1, 2, 3, 4, 5] (l' := [(4, .int v4_34), (0, .ref (ad 7 0)), (1, .int 2), (2, .ref (ad 5 o)), (3, .int r)]) rfl
          refine lv_iload hx hb dX7_fewestOfRows_88 (lv_at hl 0 rfl) ?_
          have hO : f_X7_fewestOfRows_2 o r σ = (v4_34, σ34) := by rw [hO, f_X7_fewestOfRows_2_L34, if_pos c_3]
          exact w_iretS hC hW hS hO (Nat.le_of_ble_eq_true rfl) (Nat.le_of_ble_eq_true rfl) dX7_fewestOfRows_90
        · have hi_c_3 : k34 < 12 := tc_cnt hT (by omega) c_3
          refine lv_aload_n hx hb dX7_fewestOfRows_43 rfl (lv_at hl 2 rfl) ?_
          refine lv_iload_n hx hb dX7_fewestOfRows_44 rfl (lv_at hl 3 rfl) ?_
          refine lv_aload_n hx hb dX7_fewestOfRows_45 rfl (lv_at hl 2 rfl) ?_
          refine gf_X7_32 hC hW m_7 rfl dX7_fewestOfRows_46 ?_
          refine lv_iload hx hb dX7_fewestOfRows_49 (lv_at hl 0 rfl) ?_
          have h_4 : vp_in (nI k34) 12 := (vp_in_nI (by omega) (by omega))
          refine w_aald hC hW m_22 3 (n := 12) rfl rfl h_4 (by rfl) dX7_fewestOfRows_51 ?_
          rw [nI_clamp (by omega)]
          refine lv_aload_n hx hb dX7_fewestOfRows_52 rfl (lv_at hl 4 rfl) ?_
          refine lv_iload_n hx hb dX7_fewestOfRows_53 rfl (lv_at hl 5 rfl) ?_
          refine w_callV (As := [.int 2, .ref (ad 5 k34), .ref (ad 5 o), .int r]) (rest := []) (st2 := .int ((f_X7_fewestBehind_2 k34 o r σ34).1) :: []) hC hW hS hl cv_X7_374 m_7 (by decide) rfl (c_X7_fewestBehind_2 l hl9 D ca base ad σ34 k34 o r (by omega) ho (by first | assumption | decide | omega)) rfl rfl rfl ⟨Nat.le_of_ble_eq_true rfl, Nat.le_of_ble_eq_true rfl⟩ (Nat.le_of_ble_eq_true rfl) dX7_fewestOfRows_54 ⟨Nat.le_of_ble_eq_true rfl, Nat.le_of_ble_eq_true rfl⟩ (fun H locs hW hS => ?_)
          refine lv_istore (lv' := [(6, .int ((f_X7_fewestBehind_2 k34 o r σ34).1)), (5, .int (nI k34)), (4, .int v4_34), (0, .ref (ad 7 0)), (1, .int 2), (2, .ref (ad 5 o)), (3, .int r)]) hx hb dX7_fewestOfRows_57 hl (by decide) rfl (fun ls hl => ?_)
          refine lv_iload hx hb dX7_fewestOfRows_59 (lv_at hl 0 rfl) ?_
          refine lv_iconst (v := (-1)) hx hb dX7_fewestOfRows_61 (by decide) ?_
          refine lv_icmp_eq (tgt := 82) hx hb dX7_fewestOfRows_62 (by decide) (fun c_5 => ?_) (fun c_5 => ?_)
          · refine lv_iinc (v := nI (k34 + 1)) (lv' := [(5, .int (nI (k34 + 1))), (6, .int ((f_X7_fewestBehind_2 k34 o r σ34).1)), (4, .int v4_34), (0, .ref (ad 7 0)), (1, .int 2), (2, .ref (ad 5 o)), (3, .int r)]) hx hb dX7_fewestOfRows_82 hl (k := 1) rfl (nI_1 _) (by decide) rfl (fun ls hl => ?_)
            refine lv_goto (tgt := 34) hx hb dX7_fewestOfRows_85 (by decide) ?_
            refine ih_34 (k34 + 1) v4_34 ((f_X7_fewestBehind_2 k34 o r σ34).2) _ _ _ (by omega) (by omega) (tc_fr hT (by rw [fr_X7_fewestBehind_2 (by decide) (by decide)])) hW hS (lv_sub hl [0, 2, 3, 4, 5, 6] rfl) ?_
            rw [hO, f_X7_fewestOfRows_2_L34, if_neg c_3, if_pos c_5]
          · refine lv_iload hx hb dX7_fewestOfRows_65 (lv_at hl 2 rfl) ?_
            refine lv_iconst (v := (-1)) hx hb dX7_fewestOfRows_67 (by decide) ?_
            refine lv_icmp_eq (tgt := 78) hx hb dX7_fewestOfRows_68 (by decide) (fun c_6 => ?_) (fun c_6 => ?_)
            · refine lv_iload hx hb dX7_fewestOfRows_78 (lv_at hl 0 rfl) ?_
              refine lv_istore (lv' := [(4, .int ((f_X7_fewestBehind_2 k34 o r σ34).1)), (6, .int ((f_X7_fewestBehind_2 k34 o r σ34).1)), (5, .int (nI k34)), (0, .ref (ad 7 0)), (1, .int 2), (2, .ref (ad 5 o)), (3, .int r)]) hx hb dX7_fewestOfRows_80 hl (by decide) rfl (fun ls hl => ?_)
              refine lv_iinc (v := nI (k34 + 1)) (lv' := [(5, .int (nI (k34 + 1))), (4, .int ((f_X7_fewestBehind_2 k34 o r σ34).1)), (6, .int ((f_X7_fewestBehind_2 k34 o r σ34).1)), (0, .ref (ad 7 0)), (1, .int 2), (2, .ref (ad 5 o)), (3, .int r)]) hx hb dX7_fewestOfRows_82 hl (k := 2) rfl (nI_1 _) (by decide) rfl (fun ls hl => ?_)
              refine lv_goto (tgt := 34) hx hb dX7_fewestOfRows_85 (by decide) ?_
              refine ih_34 (k34 + 1) ((f_X7_fewestBehind_2 k34 o r σ34).1) ((f_X7_fewestBehind_2 k34 o r σ34).2) _ _ _ (by omega) (by omega) (tc_fr hT (by rw [fr_X7_fewestBehind_2 (by decide) (by decide)])) hW hS (lv_sub hl [0, 1, 3, 4, 5, 6] rfl) ?_
              rw [hO, f_X7_fewestOfRows_2_L34, if_neg c_3, if_neg c_5, if_pos c_6]
            · refine lv_iload hx hb dX7_fewestOfRows_71 (lv_at hl 0 rfl) ?_
              refine lv_iload hx hb dX7_fewestOfRows_73 (lv_at hl 2 rfl) ?_
              refine lv_icmp_ge (tgt := 82) hx hb dX7_fewestOfRows_75 (by decide) (fun c_7 => ?_) (fun c_7 => ?_)
              · refine lv_iinc (v := nI (k34 + 1)) (lv' := [(5, .int (nI (k34 + 1))), (6, .int ((f_X7_fewestBehind_2 k34 o r σ34).1)), (4, .int v4_34), (0, .ref (ad 7 0)), (1, .int 2), (2, .ref (ad 5 o)), (3, .int r)]) hx hb dX7_fewestOfRows_82 hl (k := 1) rfl (nI_1 _) (by decide) rfl (fun ls hl => ?_)
                refine lv_goto (tgt := 34) hx hb dX7_fewestOfRows_85 (by decide) ?_
                refine ih_34 (k34 + 1) v4_34 ((f_X7_fewestBehind_2 k34 o r σ34).2) _ _ _ (by omega) (by omega) (tc_fr hT (by rw [fr_X7_fewestBehind_2 (by decide) (by decide)])) hW hS (lv_sub hl [0, 2, 3, 4, 5, 6] rfl) ?_
                rw [hO, f_X7_fewestOfRows_2_L34, if_neg c_3, if_neg c_5, if_neg c_6, if_pos c_7]
              · refine lv_iload hx hb dX7_fewestOfRows_78 (lv_at hl 0 rfl) ?_
                refine lv_istore (lv' := [(4, .int ((f_X7_fewestBehind_2 k34 o r σ34).1)), (6, .int ((f_X7_fewestBehind_2 k34 o r σ34).1)), (5, .int (nI k34)), (0, .ref (ad 7 0)), (1, .int 2), (2, .ref (ad 5 o)), (3, .int r)]) hx hb dX7_fewestOfRows_80 hl (by decide) rfl (fun ls hl => ?_)
                refine lv_iinc (v := nI (k34 + 1)) (lv' := [(5, .int (nI (k34 + 1))), (4, .int ((f_X7_fewestBehind_2 k34 o r σ34).1)), (6, .int ((f_X7_fewestBehind_2 k34 o r σ34).1)), (0, .ref (ad 7 0)), (1, .int 2), (2, .ref (ad 5 o)), (3, .int r)]) hx hb dX7_fewestOfRows_82 hl (k := 2) rfl (nI_1 _) (by decide) rfl (fun ls hl => ?_)
                refine lv_goto (tgt := 34) hx hb dX7_fewestOfRows_85 (by decide) ?_
                refine ih_34 (k34 + 1) ((f_X7_fewestBehind_2 k34 o r σ34).1) ((f_X7_fewestBehind_2 k34 o r σ34).2) _ _ _ (by omega) (by omega) (tc_fr hT (by rw [fr_X7_fewestBehind_2 (by decide) (by decide)])) hW hS (lv_sub hl [0, 1, 3, 4, 5, 6] rfl) ?_
                rw [hO, f_X7_fewestOfRows_2_L34, if_neg c_3, if_neg c_5, if_neg c_6, if_neg c_7]
    refine h_34 13 0 (-1) σ _ _ _ (by omega) (by omega) (tc_fr hT rfl) hW hS (lv_sub hl [0, 1, 2, 3, 4, 5] rfl) ?_
    rw [f_X7_fewestOfRows_2, if_neg c_2]
  · refine lv_iload_n hx hb dX7_fewestOfRows_26 rfl (lv_at hl 1 rfl) ?_
    have hO : f_X7_fewestOfRows_2 o r σ = (2, σ) := by rw [f_X7_fewestOfRows_2, if_pos c_2]
    exact w_iretS hC hW hS hO (Nat.le_of_ble_eq_true rfl) (Nat.le_of_ble_eq_true rfl) dX7_fewestOfRows_27
theorem fr_f_X7_fewestOfRows_2_L34 {kk : Nat}  (o : Nat) (r : Int32) (h0 : kk ≠ 0) (h10 : kk ≠ 10) : ∀ (y0 : Nat) (y1 : Nat) (y2 : Int32) (σ : Sg), (f_X7_fewestOfRows_2_L34 o r y0 y1 y2 σ).2 kk = σ kk := by
  intro y0
  induction y0 with
  | zero => intros; rfl
  | succ n ih =>
    intros
    rw [f_X7_fewestOfRows_2_L34]
    repeat' split
    all_goals (first | (simp only [ih, us_kk, ne_eq, not_false_eq_true, h0, h10, fr_X7_fewestBehind_2]; done) | with_reducible rfl | (simp only [ih, us_kk, ne_eq, not_false_eq_true, h0, h10, fr_X7_fewestBehind_2]; with_reducible rfl))
theorem fr_X7_fewestOfRows_2 {kk : Nat}  {o : Nat} {r : Int32} {σ : Sg} (h0 : kk ≠ 0) (h10 : kk ≠ 10) : (f_X7_fewestOfRows_2 o r σ).2 kk = σ kk := by
  rw [f_X7_fewestOfRows_2]
  repeat' split
  all_goals (first | (simp only [us_kk, ne_eq, not_false_eq_true, h0, h10, fr_f_X7_fewestOfRows_2_L34, fr_X7_fewestBehind_2]; done) | with_reducible rfl | (simp only [us_kk, ne_eq, not_false_eq_true, h0, h10, fr_f_X7_fewestOfRows_2_L34, fr_X7_fewestBehind_2]; with_reducible rfl))
def f_X7_fewestBehind_1 (t : Nat) (o : Nat) (r : Int32) (σ : Sg) : Int32 × Sg :=
  if (f_X7_judgeAnew 9 t 4 σ) = 0 then ((f_X7_fewestOfRows_2 o r (s_X7_carryOutRun 10 t (s_X0_copyFrom 10 9 σ))).1, (f_X7_fewestOfRows_2 o r (s_X7_carryOutRun 10 t (s_X0_copyFrom 10 9 σ))).2)
  else ((-1), σ)
set_option maxHeartbeats 4000000 in
set_option maxRecDepth 100000 in
theorem c_X7_fewestBehind_1 (l : Launch) (hl9 : l.stackTraces = false) (D : va_G) (ca : Nat → ClassId) (base : Nat) (ad : Adr) (σ : Sg) (t : Nat) (o : Nat) (r : Int32) (ht : t < 13) (ho : o < 13) (hT : TC σ) : Mt l yX7_fewestBehind cX7_fewestBehind 6 (some .int) { frames := 7, cells := 0, slots := 0, locals := 169 } D ca base ad ρm Lm [.ref (ad 7 0), .int 1, .ref (ad 5 t), .ref (ad 5 o), .int r] σ (some (.int (f_X7_fewestBehind_1 t o r σ).1)) (f_X7_fewestBehind_1 t o r σ).2 := by
  refine w_ofW (by decide) (Nat.le_of_ble_eq_true rfl) rfl ?_
  intro p e s m args below meth c hC hW hS ls hl hin
  have hx := hC.1
  have hb := hC.2.1
  refine lv_iload_n hx hb dX7_fewestBehind_0 rfl (lv_at hl 1 rfl) ?_
  refine lv_if_lt (tgt := 24) hx hb dX7_fewestBehind_1 (by decide) (fun c => absurd c (by decide)) (fun _ => ?_)
  refine lv_iload_n hx hb dX7_fewestBehind_4 rfl (lv_at hl 1 rfl) ?_
  refine lv_iconst (v := 3) hx hb dX7_fewestBehind_5 (by decide) ?_
  refine lv_icmp_ge (tgt := 24) hx hb dX7_fewestBehind_6 (by decide) (fun c => absurd c (by decide)) (fun _ => ?_)
  refine lv_aload_n hx hb dX7_fewestBehind_9 rfl (lv_at hl 0 rfl) ?_
  refine lv_aload_n hx hb dX7_fewestBehind_10 rfl (lv_at hl 0 rfl) ?_
  refine gf_X7_51 hC hW m_7 rfl dX7_fewestBehind_11 ?_
  refine lv_iload_n hx hb dX7_fewestBehind_14 rfl (lv_at hl 1 rfl) ?_
  have h_1 : vp_in (1 : Int32) 4 := (vp_lit (by decide))
  refine w_aald hC hW m_25 4 (n := 4) rfl rfl h_1 (by rfl) dX7_fewestBehind_15 ?_
  refine W.eq (g2 := F0 m 16 ls (.ref (ad 0 9) :: .ref (ad 7 0) :: [])) rfl ?_
  refine lv_aload_n hx hb dX7_fewestBehind_16 rfl (lv_at hl 2 rfl) ?_
  refine lv_iconst (v := 4) hx hb dX7_fewestBehind_17 (by decide) ?_
  refine w_callV (As := [.ref (ad 0 9), .ref (ad 5 t), .int 4]) (rest := []) (st2 := .int (f_X7_judgeAnew 9 t 4 σ) :: []) hC hW hS hl cv_X7_295 m_7 (by decide) rfl (c_X7_judgeAnew l hl9 D ca base ad σ 9 t 4 (by decide) ht) rfl rfl rfl ⟨Nat.le_of_ble_eq_true rfl, Nat.le_of_ble_eq_true rfl⟩ (Nat.le_of_ble_eq_true rfl) dX7_fewestBehind_18 ⟨Nat.le_of_ble_eq_true rfl, Nat.le_of_ble_eq_true rfl⟩ (fun H locs hW hS => ?_)
  refine lv_if_eq (tgt := 26) hx hb dX7_fewestBehind_21 (by decide) (fun c_2 => ?_) (fun c_2 => ?_)
  · refine lv_aload_n hx hb dX7_fewestBehind_26 rfl (lv_at hl 0 rfl) ?_
    refine gf_X7_51 hC hW m_7 rfl dX7_fewestBehind_27 ?_
    refine lv_iload_n hx hb dX7_fewestBehind_30 rfl (lv_at hl 1 rfl) ?_
    refine lv_iconst (v := 1) hx hb dX7_fewestBehind_31 (by decide) ?_
    refine lv_iadd hx hb dX7_fewestBehind_32 ?_
    refine lv_eqi (y := 2) (by decide) ?_
    have h_3 : vp_in (2 : Int32) 4 := (vp_lit (by decide))
    refine w_aald hC hW m_25 4 (n := 4) rfl rfl h_3 (by rfl) dX7_fewestBehind_33 ?_
    refine W.eq (g2 := F0 m 34 ls (.ref (ad 0 10) :: [])) rfl ?_
    refine lv_astore (lv' := [(5, .ref (ad 0 10)), (0, .ref (ad 7 0)), (1, .int 1), (2, .ref (ad 5 t)), (3, .ref (ad 5 o)), (4, .int r)]) hx hb dX7_fewestBehind_34 hl (by decide) rfl (fun ls hl => ?_)
    refine lv_aload hx hb dX7_fewestBehind_36 (lv_at hl 0 rfl) ?_
    refine lv_aload_n hx hb dX7_fewestBehind_38 rfl (lv_at hl 1 rfl) ?_
    refine gf_X7_51 hC hW m_7 rfl dX7_fewestBehind_39 ?_
    refine lv_iload_n hx hb dX7_fewestBehind_42 rfl (lv_at hl 2 rfl) ?_
    have h_4 : vp_in (1 : Int32) 4 := (vp_lit (by decide))
    refine w_aald hC hW m_25 4 (n := 4) rfl rfl h_4 (by rfl) dX7_fewestBehind_43 ?_
    refine W.eq (g2 := F0 m 44 ls (.ref (ad 0 9) :: .ref (ad 0 10) :: [])) rfl ?_
    refine w_callV (As := [.ref (ad 0 9)]) (rest := []) (st2 := []) hC hW hS hl cv_X7_301 (mm_0 (by decide)) (by decide) rfl (c_X0_copyFrom l hl9 D ca base ad σ 10 9 (by decide) (by decide)) rfl rfl rfl ⟨Nat.le_of_ble_eq_true rfl, Nat.le_of_ble_eq_true rfl⟩ (Nat.le_of_ble_eq_true rfl) dX7_fewestBehind_44 ⟨Nat.le_of_ble_eq_true rfl, Nat.le_of_ble_eq_true rfl⟩ (fun H locs hW hS => ?_)
    refine lv_aload_n hx hb dX7_fewestBehind_47 rfl (lv_at hl 1 rfl) ?_
    refine lv_aload hx hb dX7_fewestBehind_48 (lv_at hl 0 rfl) ?_
    refine lv_aload_n hx hb dX7_fewestBehind_50 rfl (lv_at hl 3 rfl) ?_
    refine w_callV (As := [.ref (ad 0 10), .ref (ad 5 t)]) (rest := []) (st2 := []) hC hW hS hl cv_X7_225 m_7 (by decide) rfl (c_X7_carryOutRun l hl9 D ca base ad (s_X0_copyFrom 10 9 σ) 10 t (by decide) ht) rfl rfl rfl ⟨Nat.le_of_ble_eq_true rfl, Nat.le_of_ble_eq_true rfl⟩ (Nat.le_of_ble_eq_true rfl) dX7_fewestBehind_51 ⟨Nat.le_of_ble_eq_true rfl, Nat.le_of_ble_eq_true rfl⟩ (fun H locs hW hS => ?_)
    refine lv_aload_n hx hb dX7_fewestBehind_54 rfl (lv_at hl 1 rfl) ?_
    refine lv_iload_n hx hb dX7_fewestBehind_55 rfl (lv_at hl 2 rfl) ?_
    refine lv_iconst (v := 1) hx hb dX7_fewestBehind_56 (by decide) ?_
    refine lv_iadd hx hb dX7_fewestBehind_57 ?_
    refine lv_eqi (y := 2) (by decide) ?_
    refine lv_aload_n hx hb dX7_fewestBehind_58 rfl (lv_at hl 4 rfl) ?_
    refine lv_iload hx hb dX7_fewestBehind_59 (lv_at hl 5 rfl) ?_
    refine w_callV (As := [.int 2, .ref (ad 5 o), .int r]) (rest := []) (st2 := .int ((f_X7_fewestOfRows_2 o r (s_X7_carryOutRun 10 t (s_X0_copyFrom 10 9 σ))).1) :: []) hC hW hS hl cv_X7_305 m_7 (by decide) rfl (c_X7_fewestOfRows_2 l hl9 D ca base ad (s_X7_carryOutRun 10 t (s_X0_copyFrom 10 9 σ)) o r ho (tc_fr hT (by rw [fr_X7_carryOutRun (by decide), fr_X0_copyFrom (by decide) (by decide)]))) rfl rfl rfl ⟨Nat.le_of_ble_eq_true rfl, Nat.le_of_ble_eq_true rfl⟩ (Nat.le_of_ble_eq_true rfl) dX7_fewestBehind_61 ⟨Nat.le_of_ble_eq_true rfl, Nat.le_of_ble_eq_true rfl⟩ (fun H locs hW hS => ?_)
    have hO : f_X7_fewestBehind_1 t o r σ = ((f_X7_fewestOfRows_2 o r (s_X7_carryOutRun 10 t (s_X0_copyFrom 10 9 σ))).1, (f_X7_fewestOfRows_2 o r (s_X7_carryOutRun 10 t (s_X0_copyFrom 10 9 σ))).2) := by rw [f_X7_fewestBehind_1, if_pos c_2]
    exact w_iretS hC hW hS hO (Nat.le_of_ble_eq_true rfl) (Nat.le_of_ble_eq_true rfl) dX7_fewestBehind_64
  · refine lv_iconst (v := (-1)) hx hb dX7_fewestBehind_24 (by decide) ?_
    have hO : f_X7_fewestBehind_1 t o r σ = ((-1), σ) := by rw [f_X7_fewestBehind_1, if_neg c_2]
    exact w_iretS hC hW hS hO (Nat.le_of_ble_eq_true rfl) (Nat.le_of_ble_eq_true rfl) dX7_fewestBehind_25
theorem fr_X7_fewestBehind_1 {kk : Nat}  {t : Nat} {o : Nat} {r : Int32} {σ : Sg} (h0 : kk ≠ 0) (h10 : kk ≠ 10) : (f_X7_fewestBehind_1 t o r σ).2 kk = σ kk := by
  rw [f_X7_fewestBehind_1]
  repeat' split
  all_goals (first | (simp only [us_kk, ne_eq, not_false_eq_true, h0, h10, fr_X0_copyFrom, fr_X7_carryOutRun, fr_X7_fewestOfRows_2]; done) | with_reducible rfl | (simp only [us_kk, ne_eq, not_false_eq_true, h0, h10, fr_X0_copyFrom, fr_X7_carryOutRun, fr_X7_fewestOfRows_2]; with_reducible rfl))

def f_X7_fewestOfRows_1_L34 (o : Nat) (r : Int32) : Nat → Nat → Int32 → Sg → Int32 × Sg
  | 0, _, v4_34, σ34 => (v4_34, σ34)
  | n34 + 1, k34, v4_34, σ34 => if (σ34 7 0 6) ≤ (nI k34) then (v4_34, σ34)
    else if ((f_X7_fewestBehind_1 k34 o r σ34).1) = (-1) then f_X7_fewestOfRows_1_L34 o r n34 (k34 + 1) v4_34 ((f_X7_fewestBehind_1 k34 o r σ34).2)
    else if v4_34 = (-1) then f_X7_fewestOfRows_1_L34 o r n34 (k34 + 1) ((f_X7_fewestBehind_1 k34 o r σ34).1) ((f_X7_fewestBehind_1 k34 o r σ34).2)
    else if v4_34 ≤ ((f_X7_fewestBehind_1 k34 o r σ34).1) then f_X7_fewestOfRows_1_L34 o r n34 (k34 + 1) v4_34 ((f_X7_fewestBehind_1 k34 o r σ34).2)
    else f_X7_fewestOfRows_1_L34 o r n34 (k34 + 1) ((f_X7_fewestBehind_1 k34 o r σ34).1) ((f_X7_fewestBehind_1 k34 o r σ34).2)
def f_X7_fewestOfRows_1 (o : Nat) (r : Int32) (σ : Sg) : Int32 × Sg :=
  if (f_X7_judgeAnew 9 o r σ) = 0 then (1, σ)
  else ((f_X7_fewestOfRows_1_L34 o r 13 0 (-1) σ).1, (f_X7_fewestOfRows_1_L34 o r 13 0 (-1) σ).2)
set_option maxHeartbeats 4000000 in
set_option maxRecDepth 100000 in
theorem c_X7_fewestOfRows_1 (l : Launch) (hl9 : l.stackTraces = false) (D : va_G) (ca : Nat → ClassId) (base : Nat) (ad : Adr) (σ : Sg) (o : Nat) (r : Int32) (ho : o < 13) (hT : TC σ) : Mt l yX7_fewestOfRows cX7_fewestOfRows 7 (some .int) { frames := 8, cells := 0, slots := 0, locals := 194 } D ca base ad ρm Lm [.ref (ad 7 0), .int 1, .ref (ad 5 o), .int r] σ (some (.int (f_X7_fewestOfRows_1 o r σ).1)) (f_X7_fewestOfRows_1 o r σ).2 := by
  refine w_ofW (by decide) (Nat.le_of_ble_eq_true rfl) rfl ?_
  intro p e s m args below meth c hC hW hS ls hl hin
  have hx := hC.1
  have hb := hC.2.1
  refine lv_iload_n hx hb dX7_fewestOfRows_0 rfl (lv_at hl 1 rfl) ?_
  refine lv_if_lt (tgt := 9) hx hb dX7_fewestOfRows_1 (by decide) (fun c => absurd c (by decide)) (fun _ => ?_)
  refine lv_iload_n hx hb dX7_fewestOfRows_4 rfl (lv_at hl 1 rfl) ?_
  refine lv_iconst (v := 3) hx hb dX7_fewestOfRows_5 (by decide) ?_
  refine lv_icmp_le (tgt := 11) hx hb dX7_fewestOfRows_6 (by decide) (fun _ => ?_) (fun c => absurd (by decide) c)
  refine lv_aload_n hx hb dX7_fewestOfRows_11 rfl (lv_at hl 0 rfl) ?_
  refine lv_aload_n hx hb dX7_fewestOfRows_12 rfl (lv_at hl 0 rfl) ?_
  refine gf_X7_51 hC hW m_7 rfl dX7_fewestOfRows_13 ?_
  refine lv_iload_n hx hb dX7_fewestOfRows_16 rfl (lv_at hl 1 rfl) ?_
  have h_1 : vp_in (1 : Int32) 4 := (vp_lit (by decide))
  refine w_aald hC hW m_25 4 (n := 4) rfl rfl h_1 (by rfl) dX7_fewestOfRows_17 ?_
  refine W.eq (g2 := F0 m 18 ls (.ref (ad 0 9) :: .ref (ad 7 0) :: [])) rfl ?_
  refine lv_aload_n hx hb dX7_fewestOfRows_18 rfl (lv_at hl 2 rfl) ?_
  refine lv_iload_n hx hb dX7_fewestOfRows_19 rfl (lv_at hl 3 rfl) ?_
  refine w_callV (As := [.ref (ad 0 9), .ref (ad 5 o), .int r]) (rest := []) (st2 := .int (f_X7_judgeAnew 9 o r σ) :: []) hC hW hS hl cv_X7_295 m_7 (by decide) rfl (c_X7_judgeAnew l hl9 D ca base ad σ 9 o r (by decide) ho) rfl rfl rfl ⟨Nat.le_of_ble_eq_true rfl, Nat.le_of_ble_eq_true rfl⟩ (Nat.le_of_ble_eq_true rfl) dX7_fewestOfRows_20 ⟨Nat.le_of_ble_eq_true rfl, Nat.le_of_ble_eq_true rfl⟩ (fun H locs hW hS => ?_)
  refine lv_if_ne (tgt := 28) hx hb dX7_fewestOfRows_23 (by decide) (fun c_2 => ?_) (fun c_2 => ?_)
  · refine lv_iconst (v := (-1)) hx hb dX7_fewestOfRows_28 (by decide) ?_
    refine lv_istore (lv' := [(4, .int (-1)), (0, .ref (ad 7 0)), (1, .int 1), (2, .ref (ad 5 o)), (3, .int r)]) hx hb dX7_fewestOfRows_29 hl (by decide) rfl (fun ls hl => ?_)
    refine lv_iconst (v := 0) hx hb dX7_fewestOfRows_31 (by decide) ?_
    refine lv_istore (lv' := [(5, .int 0), (4, .int (-1)), (0, .ref (ad 7 0)), (1, .int 1), (2, .ref (ad 5 o)), (3, .int r)]) hx hb dX7_fewestOfRows_32 hl (by decide) rfl (fun ls hl => ?_)
    have h_34 : ∀ (n34 k34 : Nat) (v4_34 : Int32) (σ34 : Sg) (H : Heap) (locs : List Loc) (ls : Array Slot), 13 ≤ k34 + n34 → k34 ≤ 12 → (TC σ34) → Wd D ca (Ab base) ad ρm Lm σ34 H → va_S (Ab base) s.heap H locs → lv_has ls 7 [(5, .int (nI k34)), (4, .int v4_34), (0, .ref (ad 7 0)), (1, .int 1), (2, .ref (ad 5 o)), (3, .int r)] → f_X7_fewestOfRows_1 o r σ = (((f_X7_fewestOfRows_1_L34 o r n34 k34 v4_34 σ34).1, (f_X7_fewestOfRows_1_L34 o r n34 k34 v4_34 σ34).2)) → W p l e ({ frames := 8, cells := 0, slots := 0, locals := 194 } : Room) s m args below meth c H locs 0 0 (MQ below (Rt D ca base ad ρm Lm (f_X7_fewestOfRows_1 o r σ).2 (some (.int (f_X7_fewestOfRows_1 o r σ).1))) args s 0 0 (Ab base)) (F0 m 34 ls []) := by
      intro n34
      induction n34 with
      | zero =>
        intro k34 v4_34 σ34 H locs ls hk1_34 hk2_34 hT hW hS hl hO
        exact absurd hk1_34 (by omega)
      | succ n34 ih_34 =>
        intro k34 v4_34 σ34 H locs ls hk1_34 hk2_34 hT hW hS hl hO
        refine lv_iload hx hb dX7_fewestOfRows_34 (lv_at hl 0 rfl) ?_
        refine lv_aload_n hx hb dX7_fewestOfRows_36 rfl (lv_at hl 2 rfl) ?_
        refine gf_X7_111 hC hW m_7 dX7_fewestOfRows_37 ?_
        refine lv_icmp_ge (tgt := 88) hx hb dX7_fewestOfRows_40 (by decide) (fun c_3 => ?_) (fun c_3 => ?_)
        · replace hl := lv_sub hl [1, 2, 3, 4, 5] (l' := [(4, .int v4_34), (0, .ref (ad 7 0)), (1, .int 1), (2, .ref (ad 5 o)), (3, .int r)]) rfl
          refine lv_iload hx hb dX7_fewestOfRows_88 (lv_at hl 0 rfl) ?_
          have hO : f_X7_fewestOfRows_1 o r σ = (v4_34, σ34) := by rw [hO, f_X7_fewestOfRows_1_L34, if_pos c_3]
          exact w_iretS hC hW hS hO (Nat.le_of_ble_eq_true rfl) (Nat.le_of_ble_eq_true rfl) dX7_fewestOfRows_90
        · have hi_c_3 : k34 < 12 := tc_cnt hT (by omega) c_3
          refine lv_aload_n hx hb dX7_fewestOfRows_43 rfl (lv_at hl 2 rfl) ?_
          refine lv_iload_n hx hb dX7_fewestOfRows_44 rfl (lv_at hl 3 rfl) ?_
          refine lv_aload_n hx hb dX7_fewestOfRows_45 rfl (lv_at hl 2 rfl) ?_
          refine gf_X7_32 hC hW m_7 rfl dX7_fewestOfRows_46 ?_
          refine lv_iload hx hb dX7_fewestOfRows_49 (lv_at hl 0 rfl) ?_
          have h_4 : vp_in (nI k34) 12 := (vp_in_nI (by omega) (by omega))
          refine w_aald hC hW m_22 3 (n := 12) rfl rfl h_4 (by rfl) dX7_fewestOfRows_51 ?_
          rw [nI_clamp (by omega)]
          refine lv_aload_n hx hb dX7_fewestOfRows_52 rfl (lv_at hl 4 rfl) ?_
          refine lv_iload_n hx hb dX7_fewestOfRows_53 rfl (lv_at hl 5 rfl) ?_
          refine w_callV (As := [.int 1, .ref (ad 5 k34), .ref (ad 5 o), .int r]) (rest := []) (st2 := .int ((f_X7_fewestBehind_1 k34 o r σ34).1) :: []) hC hW hS hl cv_X7_374 m_7 (by decide) rfl (c_X7_fewestBehind_1 l hl9 D ca base ad σ34 k34 o r (by omega) ho (by first | assumption | decide | omega)) rfl rfl rfl ⟨Nat.le_of_ble_eq_true rfl, Nat.le_of_ble_eq_true rfl⟩ (Nat.le_of_ble_eq_true rfl) dX7_fewestOfRows_54 ⟨Nat.le_of_ble_eq_true rfl, Nat.le_of_ble_eq_true rfl⟩ (fun H locs hW hS => ?_)
          refine lv_istore (lv' := [(6, .int ((f_X7_fewestBehind_1 k34 o r σ34).1)), (5, .int (nI k34)), (4, .int v4_34), (0, .ref (ad 7 0)), (1, .int 1), (2, .ref (ad 5 o)), (3, .int r)]) hx hb dX7_fewestOfRows_57 hl (by decide) rfl (fun ls hl => ?_)
          refine lv_iload hx hb dX7_fewestOfRows_59 (lv_at hl 0 rfl) ?_
          refine lv_iconst (v := (-1)) hx hb dX7_fewestOfRows_61 (by decide) ?_
          refine lv_icmp_eq (tgt := 82) hx hb dX7_fewestOfRows_62 (by decide) (fun c_5 => ?_) (fun c_5 => ?_)
          · refine lv_iinc (v := nI (k34 + 1)) (lv' := [(5, .int (nI (k34 + 1))), (6, .int ((f_X7_fewestBehind_1 k34 o r σ34).1)), (4, .int v4_34), (0, .ref (ad 7 0)), (1, .int 1), (2, .ref (ad 5 o)), (3, .int r)]) hx hb dX7_fewestOfRows_82 hl (k := 1) rfl (nI_1 _) (by decide) rfl (fun ls hl => ?_)
            refine lv_goto (tgt := 34) hx hb dX7_fewestOfRows_85 (by decide) ?_
            refine ih_34 (k34 + 1) v4_34 ((f_X7_fewestBehind_1 k34 o r σ34).2) _ _ _ (by omega) (by omega) (tc_fr hT (by rw [fr_X7_fewestBehind_1 (by decide) (by decide)])) hW hS (lv_sub hl [0, 2, 3, 4, 5, 6] rfl) ?_
            rw [hO, f_X7_fewestOfRows_1_L34, if_neg c_3, if_pos c_5]
          · refine lv_iload hx hb dX7_fewestOfRows_65 (lv_at hl 2 rfl) ?_
            refine lv_iconst (v := (-1)) hx hb dX7_fewestOfRows_67 (by decide) ?_
            refine lv_icmp_eq (tgt := 78) hx hb dX7_fewestOfRows_68 (by decide) (fun c_6 => ?_) (fun c_6 => ?_)
            · refine lv_iload hx hb dX7_fewestOfRows_78 (lv_at hl 0 rfl) ?_
              refine lv_istore (lv' := [(4, .int ((f_X7_fewestBehind_1 k34 o r σ34).1)), (6, .int ((f_X7_fewestBehind_1 k34 o r σ34).1)), (5, .int (nI k34)), (0, .ref (ad 7 0)), (1, .int 1), (2, .ref (ad 5 o)), (3, .int r)]) hx hb dX7_fewestOfRows_80 hl (by decide) rfl (fun ls hl => ?_)
              refine lv_iinc (v := nI (k34 + 1)) (lv' := [(5, .int (nI (k34 + 1))), (4, .int ((f_X7_fewestBehind_1 k34 o r σ34).1)), (6, .int ((f_X7_fewestBehind_1 k34 o r σ34).1)), (0, .ref (ad 7 0)), (1, .int 1), (2, .ref (ad 5 o)), (3, .int r)]) hx hb dX7_fewestOfRows_82 hl (k := 2) rfl (nI_1 _) (by decide) rfl (fun ls hl => ?_)
              refine lv_goto (tgt := 34) hx hb dX7_fewestOfRows_85 (by decide) ?_
              refine ih_34 (k34 + 1) ((f_X7_fewestBehind_1 k34 o r σ34).1) ((f_X7_fewestBehind_1 k34 o r σ34).2) _ _ _ (by omega) (by omega) (tc_fr hT (by rw [fr_X7_fewestBehind_1 (by decide) (by decide)])) hW hS (lv_sub hl [0, 1, 3, 4, 5, 6] rfl) ?_
              rw [hO, f_X7_fewestOfRows_1_L34, if_neg c_3, if_neg c_5, if_pos c_6]
            · refine lv_iload hx hb dX7_fewestOfRows_71 (lv_at hl 0 rfl) ?_
              refine lv_iload hx hb dX7_fewestOfRows_73 (lv_at hl 2 rfl) ?_
              refine lv_icmp_ge (tgt := 82) hx hb dX7_fewestOfRows_75 (by decide) (fun c_7 => ?_) (fun c_7 => ?_)
              · refine lv_iinc (v := nI (k34 + 1)) (lv' := [(5, .int (nI (k34 + 1))), (6, .int ((f_X7_fewestBehind_1 k34 o r σ34).1)), (4, .int v4_34), (0, .ref (ad 7 0)), (1, .int 1), (2, .ref (ad 5 o)), (3, .int r)]) hx hb dX7_fewestOfRows_82 hl (k := 1) rfl (nI_1 _) (by decide) rfl (fun ls hl => ?_)
                refine lv_goto (tgt := 34) hx hb dX7_fewestOfRows_85 (by decide) ?_
                refine ih_34 (k34 + 1) v4_34 ((f_X7_fewestBehind_1 k34 o r σ34).2) _ _ _ (by omega) (by omega) (tc_fr hT (by rw [fr_X7_fewestBehind_1 (by decide) (by decide)])) hW hS (lv_sub hl [0, 2, 3, 4, 5, 6] rfl) ?_
                rw [hO, f_X7_fewestOfRows_1_L34, if_neg c_3, if_neg c_5, if_neg c_6, if_pos c_7]
              · refine lv_iload hx hb dX7_fewestOfRows_78 (lv_at hl 0 rfl) ?_
                refine lv_istore (lv' := [(4, .int ((f_X7_fewestBehind_1 k34 o r σ34).1)), (6, .int ((f_X7_fewestBehind_1 k34 o r σ34).1)), (5, .int (nI k34)), (0, .ref (ad 7 0)), (1, .int 1), (2, .ref (ad 5 o)), (3, .int r)]) hx hb dX7_fewestOfRows_80 hl (by decide) rfl (fun ls hl => ?_)
                refine lv_iinc (v := nI (k34 + 1)) (lv' := [(5, .int (nI (k34 + 1))), (4, .int ((f_X7_fewestBehind_1 k34 o r σ34).1)), (6, .int ((f_X7_fewestBehind_1 k34 o r σ34).1)), (0, .ref (ad 7 0)), (1, .int 1), (2, .ref (ad 5 o)), (3, .int r)]) hx hb dX7_fewestOfRows_82 hl (k := 2) rfl (nI_1 _) (by decide) rfl (fun ls hl => ?_)
                refine lv_goto (tgt := 34) hx hb dX7_fewestOfRows_85 (by decide) ?_
                refine ih_34 (k34 + 1) ((f_X7_fewestBehind_1 k34 o r σ34).1) ((f_X7_fewestBehind_1 k34 o r σ34).2) _ _ _ (by omega) (by omega) (tc_fr hT (by rw [fr_X7_fewestBehind_1 (by decide) (by decide)])) hW hS (lv_sub hl [0, 1, 3, 4, 5, 6] rfl) ?_
                rw [hO, f_X7_fewestOfRows_1_L34, if_neg c_3, if_neg c_5, if_neg c_6, if_neg c_7]
    refine h_34 13 0 (-1) σ _ _ _ (by omega) (by omega) (tc_fr hT rfl) hW hS (lv_sub hl [0, 1, 2, 3, 4, 5] rfl) ?_
    rw [f_X7_fewestOfRows_1, if_neg c_2]
  · refine lv_iload_n hx hb dX7_fewestOfRows_26 rfl (lv_at hl 1 rfl) ?_
    have hO : f_X7_fewestOfRows_1 o r σ = (1, σ) := by rw [f_X7_fewestOfRows_1, if_pos c_2]
    exact w_iretS hC hW hS hO (Nat.le_of_ble_eq_true rfl) (Nat.le_of_ble_eq_true rfl) dX7_fewestOfRows_27
theorem fr_f_X7_fewestOfRows_1_L34 {kk : Nat}  (o : Nat) (r : Int32) (h0 : kk ≠ 0) (h10 : kk ≠ 10) : ∀ (y0 : Nat) (y1 : Nat) (y2 : Int32) (σ : Sg), (f_X7_fewestOfRows_1_L34 o r y0 y1 y2 σ).2 kk = σ kk := by
  intro y0
  induction y0 with
  | zero => intros; rfl
  | succ n ih =>
    intros
    rw [f_X7_fewestOfRows_1_L34]
    repeat' split
    all_goals (first | (simp only [ih, us_kk, ne_eq, not_false_eq_true, h0, h10, fr_X7_fewestBehind_1]; done) | with_reducible rfl | (simp only [ih, us_kk, ne_eq, not_false_eq_true, h0, h10, fr_X7_fewestBehind_1]; with_reducible rfl))
theorem fr_X7_fewestOfRows_1 {kk : Nat}  {o : Nat} {r : Int32} {σ : Sg} (h0 : kk ≠ 0) (h10 : kk ≠ 10) : (f_X7_fewestOfRows_1 o r σ).2 kk = σ kk := by
  rw [f_X7_fewestOfRows_1]
  repeat' split
  all_goals (first | (simp only [us_kk, ne_eq, not_false_eq_true, h0, h10, fr_f_X7_fewestOfRows_1_L34, fr_X7_fewestBehind_1]; done) | with_reducible rfl | (simp only [us_kk, ne_eq, not_false_eq_true, h0, h10, fr_f_X7_fewestOfRows_1_L34, fr_X7_fewestBehind_1]; with_reducible rfl))
def f_X7_fewestBehind_0 (t : Nat) (o : Nat) (r : Int32) (σ : Sg) : Int32 × Sg :=
  if (f_X7_judgeAnew 8 t 4 σ) = 0 then ((f_X7_fewestOfRows_1 o r (s_X7_carryOutRun 9 t (s_X0_copyFrom 9 8 σ))).1, (f_X7_fewestOfRows_1 o r (s_X7_carryOutRun 9 t (s_X0_copyFrom 9 8 σ))).2)
  else ((-1), σ)
set_option maxHeartbeats 4000000 in
set_option maxRecDepth 100000 in
theorem c_X7_fewestBehind_0 (l : Launch) (hl9 : l.stackTraces = false) (D : va_G) (ca : Nat → ClassId) (base : Nat) (ad : Adr) (σ : Sg) (t : Nat) (o : Nat) (r : Int32) (ht : t < 13) (ho : o < 13) (hT : TC σ) : Mt l yX7_fewestBehind cX7_fewestBehind 6 (some .int) { frames := 9, cells := 0, slots := 0, locals := 220 } D ca base ad ρm Lm [.ref (ad 7 0), .int 0, .ref (ad 5 t), .ref (ad 5 o), .int r] σ (some (.int (f_X7_fewestBehind_0 t o r σ).1)) (f_X7_fewestBehind_0 t o r σ).2 := by
  refine w_ofW (by decide) (Nat.le_of_ble_eq_true rfl) rfl ?_
  intro p e s m args below meth c hC hW hS ls hl hin
  have hx := hC.1
  have hb := hC.2.1
  refine lv_iload_n hx hb dX7_fewestBehind_0 rfl (lv_at hl 1 rfl) ?_
  refine lv_if_lt (tgt := 24) hx hb dX7_fewestBehind_1 (by decide) (fun c => absurd c (by decide)) (fun _ => ?_)
  refine lv_iload_n hx hb dX7_fewestBehind_4 rfl (lv_at hl 1 rfl) ?_
  refine lv_iconst (v := 3) hx hb dX7_fewestBehind_5 (by decide) ?_
  refine lv_icmp_ge (tgt := 24) hx hb dX7_fewestBehind_6 (by decide) (fun c => absurd c (by decide)) (fun _ => ?_)
  refine lv_aload_n hx hb dX7_fewestBehind_9 rfl (lv_at hl 0 rfl) ?_
  refine lv_aload_n hx hb dX7_fewestBehind_10 rfl (lv_at hl 0 rfl) ?_
  refine gf_X7_51 hC hW m_7 rfl dX7_fewestBehind_11 ?_
  refine lv_iload_n hx hb dX7_fewestBehind_14 rfl (lv_at hl 1 rfl) ?_
  have h_1 : vp_in (0 : Int32) 4 := (vp_lit (by decide))
  refine w_aald hC hW m_25 4 (n := 4) rfl rfl h_1 (by rfl) dX7_fewestBehind_15 ?_
  refine W.eq (g2 := F0 m 16 ls (.ref (ad 0 8) :: .ref (ad 7 0) :: [])) rfl ?_
  refine lv_aload_n hx hb dX7_fewestBehind_16 rfl (lv_at hl 2 rfl) ?_
  refine lv_iconst (v := 4) hx hb dX7_fewestBehind_17 (by decide) ?_
  refine w_callV (As := [.ref (ad 0 8), .ref (ad 5 t), .int 4]) (rest := []) (st2 := .int (f_X7_judgeAnew 8 t 4 σ) :: []) hC hW hS hl cv_X7_295 m_7 (by decide) rfl (c_X7_judgeAnew l hl9 D ca base ad σ 8 t 4 (by decide) ht) rfl rfl rfl ⟨Nat.le_of_ble_eq_true rfl, Nat.le_of_ble_eq_true rfl⟩ (Nat.le_of_ble_eq_true rfl) dX7_fewestBehind_18 ⟨Nat.le_of_ble_eq_true rfl, Nat.le_of_ble_eq_true rfl⟩ (fun H locs hW hS => ?_)
  refine lv_if_eq (tgt := 26) hx hb dX7_fewestBehind_21 (by decide) (fun c_2 => ?_) (fun c_2 => ?_)
  · refine lv_aload_n hx hb dX7_fewestBehind_26 rfl (lv_at hl 0 rfl) ?_
    refine gf_X7_51 hC hW m_7 rfl dX7_fewestBehind_27 ?_
    refine lv_iload_n hx hb dX7_fewestBehind_30 rfl (lv_at hl 1 rfl) ?_
    refine lv_iconst (v := 1) hx hb dX7_fewestBehind_31 (by decide) ?_
    refine lv_iadd hx hb dX7_fewestBehind_32 ?_
    refine lv_eqi (y := 1) (by decide) ?_
    have h_3 : vp_in (1 : Int32) 4 := (vp_lit (by decide))
    refine w_aald hC hW m_25 4 (n := 4) rfl rfl h_3 (by rfl) dX7_fewestBehind_33 ?_
    refine W.eq (g2 := F0 m 34 ls (.ref (ad 0 9) :: [])) rfl ?_
    refine lv_astore (lv' := [(5, .ref (ad 0 9)), (0, .ref (ad 7 0)), (1, .int 0), (2, .ref (ad 5 t)), (3, .ref (ad 5 o)), (4, .int r)]) hx hb dX7_fewestBehind_34 hl (by decide) rfl (fun ls hl => ?_)
    refine lv_aload hx hb dX7_fewestBehind_36 (lv_at hl 0 rfl) ?_
    refine lv_aload_n hx hb dX7_fewestBehind_38 rfl (lv_at hl 1 rfl) ?_
    refine gf_X7_51 hC hW m_7 rfl dX7_fewestBehind_39 ?_
    refine lv_iload_n hx hb dX7_fewestBehind_42 rfl (lv_at hl 2 rfl) ?_
    have h_4 : vp_in (0 : Int32) 4 := (vp_lit (by decide))
    refine w_aald hC hW m_25 4 (n := 4) rfl rfl h_4 (by rfl) dX7_fewestBehind_43 ?_
    refine W.eq (g2 := F0 m 44 ls (.ref (ad 0 8) :: .ref (ad 0 9) :: [])) rfl ?_
    refine w_callV (As := [.ref (ad 0 8)]) (rest := []) (st2 := []) hC hW hS hl cv_X7_301 (mm_0 (by decide)) (by decide) rfl (c_X0_copyFrom l hl9 D ca base ad σ 9 8 (by decide) (by decide)) rfl rfl rfl ⟨Nat.le_of_ble_eq_true rfl, Nat.le_of_ble_eq_true rfl⟩ (Nat.le_of_ble_eq_true rfl) dX7_fewestBehind_44 ⟨Nat.le_of_ble_eq_true rfl, Nat.le_of_ble_eq_true rfl⟩ (fun H locs hW hS => ?_)
    refine lv_aload_n hx hb dX7_fewestBehind_47 rfl (lv_at hl 1 rfl) ?_
    refine lv_aload hx hb dX7_fewestBehind_48 (lv_at hl 0 rfl) ?_
    refine lv_aload_n hx hb dX7_fewestBehind_50 rfl (lv_at hl 3 rfl) ?_
    refine w_callV (As := [.ref (ad 0 9), .ref (ad 5 t)]) (rest := []) (st2 := []) hC hW hS hl cv_X7_225 m_7 (by decide) rfl (c_X7_carryOutRun l hl9 D ca base ad (s_X0_copyFrom 9 8 σ) 9 t (by decide) ht) rfl rfl rfl ⟨Nat.le_of_ble_eq_true rfl, Nat.le_of_ble_eq_true rfl⟩ (Nat.le_of_ble_eq_true rfl) dX7_fewestBehind_51 ⟨Nat.le_of_ble_eq_true rfl, Nat.le_of_ble_eq_true rfl⟩ (fun H locs hW hS => ?_)
    refine lv_aload_n hx hb dX7_fewestBehind_54 rfl (lv_at hl 1 rfl) ?_
    refine lv_iload_n hx hb dX7_fewestBehind_55 rfl (lv_at hl 2 rfl) ?_
    refine lv_iconst (v := 1) hx hb dX7_fewestBehind_56 (by decide) ?_
    refine lv_iadd hx hb dX7_fewestBehind_57 ?_
    refine lv_eqi (y := 1) (by decide) ?_
    refine lv_aload_n hx hb dX7_fewestBehind_58 rfl (lv_at hl 4 rfl) ?_
    refine lv_iload hx hb dX7_fewestBehind_59 (lv_at hl 5 rfl) ?_
    refine w_callV (As := [.int 1, .ref (ad 5 o), .int r]) (rest := []) (st2 := .int ((f_X7_fewestOfRows_1 o r (s_X7_carryOutRun 9 t (s_X0_copyFrom 9 8 σ))).1) :: []) hC hW hS hl cv_X7_305 m_7 (by decide) rfl (c_X7_fewestOfRows_1 l hl9 D ca base ad (s_X7_carryOutRun 9 t (s_X0_copyFrom 9 8 σ)) o r ho (tc_fr hT (by rw [fr_X7_carryOutRun (by decide), fr_X0_copyFrom (by decide) (by decide)]))) rfl rfl rfl ⟨Nat.le_of_ble_eq_true rfl, Nat.le_of_ble_eq_true rfl⟩ (Nat.le_of_ble_eq_true rfl) dX7_fewestBehind_61 ⟨Nat.le_of_ble_eq_true rfl, Nat.le_of_ble_eq_true rfl⟩ (fun H locs hW hS => ?_)
    have hO : f_X7_fewestBehind_0 t o r σ = ((f_X7_fewestOfRows_1 o r (s_X7_carryOutRun 9 t (s_X0_copyFrom 9 8 σ))).1, (f_X7_fewestOfRows_1 o r (s_X7_carryOutRun 9 t (s_X0_copyFrom 9 8 σ))).2) := by rw [f_X7_fewestBehind_0, if_pos c_2]
    exact w_iretS hC hW hS hO (Nat.le_of_ble_eq_true rfl) (Nat.le_of_ble_eq_true rfl) dX7_fewestBehind_64
  · refine lv_iconst (v := (-1)) hx hb dX7_fewestBehind_24 (by decide) ?_
    have hO : f_X7_fewestBehind_0 t o r σ = ((-1), σ) := by rw [f_X7_fewestBehind_0, if_neg c_2]
    exact w_iretS hC hW hS hO (Nat.le_of_ble_eq_true rfl) (Nat.le_of_ble_eq_true rfl) dX7_fewestBehind_25
theorem fr_X7_fewestBehind_0 {kk : Nat}  {t : Nat} {o : Nat} {r : Int32} {σ : Sg} (h0 : kk ≠ 0) (h10 : kk ≠ 10) : (f_X7_fewestBehind_0 t o r σ).2 kk = σ kk := by
  rw [f_X7_fewestBehind_0]
  repeat' split
  all_goals (first | (simp only [us_kk, ne_eq, not_false_eq_true, h0, h10, fr_X0_copyFrom, fr_X7_carryOutRun, fr_X7_fewestOfRows_1]; done) | with_reducible rfl | (simp only [us_kk, ne_eq, not_false_eq_true, h0, h10, fr_X0_copyFrom, fr_X7_carryOutRun, fr_X7_fewestOfRows_1]; with_reducible rfl))

def f_X7_fewestOfRows_0_L34 (o : Nat) (r : Int32) : Nat → Nat → Int32 → Sg → Int32 × Sg
  | 0, _, v4_34, σ34 => (v4_34, σ34)
  | n34 + 1, k34, v4_34, σ34 => if (σ34 7 0 6) ≤ (nI k34) then (v4_34, σ34)
    else if ((f_X7_fewestBehind_0 k34 o r σ34).1) = (-1) then f_X7_fewestOfRows_0_L34 o r n34 (k34 + 1) v4_34 ((f_X7_fewestBehind_0 k34 o r σ34).2)
    else if v4_34 = (-1) then f_X7_fewestOfRows_0_L34 o r n34 (k34 + 1) ((f_X7_fewestBehind_0 k34 o r σ34).1) ((f_X7_fewestBehind_0 k34 o r σ34).2)
    else if v4_34 ≤ ((f_X7_fewestBehind_0 k34 o r σ34).1) then f_X7_fewestOfRows_0_L34 o r n34 (k34 + 1) v4_34 ((f_X7_fewestBehind_0 k34 o r σ34).2)
    else f_X7_fewestOfRows_0_L34 o r n34 (k34 + 1) ((f_X7_fewestBehind_0 k34 o r σ34).1) ((f_X7_fewestBehind_0 k34 o r σ34).2)
def f_X7_fewestOfRows_0 (o : Nat) (r : Int32) (σ : Sg) : Int32 × Sg :=
  if (f_X7_judgeAnew 8 o r σ) = 0 then (0, σ)
  else ((f_X7_fewestOfRows_0_L34 o r 13 0 (-1) σ).1, (f_X7_fewestOfRows_0_L34 o r 13 0 (-1) σ).2)
set_option maxHeartbeats 4000000 in
set_option maxRecDepth 100000 in
theorem c_X7_fewestOfRows_0 (l : Launch) (hl9 : l.stackTraces = false) (D : va_G) (ca : Nat → ClassId) (base : Nat) (ad : Adr) (σ : Sg) (o : Nat) (r : Int32) (ho : o < 13) (hT : TC σ) : Mt l yX7_fewestOfRows cX7_fewestOfRows 7 (some .int) { frames := 10, cells := 0, slots := 0, locals := 245 } D ca base ad ρm Lm [.ref (ad 7 0), .int 0, .ref (ad 5 o), .int r] σ (some (.int (f_X7_fewestOfRows_0 o r σ).1)) (f_X7_fewestOfRows_0 o r σ).2 := by
  refine w_ofW (by decide) (Nat.le_of_ble_eq_true rfl) rfl ?_
  intro p e s m args below meth c hC hW hS ls hl hin
  have hx := hC.1
  have hb := hC.2.1
  refine lv_iload_n hx hb dX7_fewestOfRows_0 rfl (lv_at hl 1 rfl) ?_
  refine lv_if_lt (tgt := 9) hx hb dX7_fewestOfRows_1 (by decide) (fun c => absurd c (by decide)) (fun _ => ?_)
  refine lv_iload_n hx hb dX7_fewestOfRows_4 rfl (lv_at hl 1 rfl) ?_
  refine lv_iconst (v := 3) hx hb dX7_fewestOfRows_5 (by decide) ?_
  refine lv_icmp_le (tgt := 11) hx hb dX7_fewestOfRows_6 (by decide) (fun _ => ?_) (fun c => absurd (by decide) c)
  refine lv_aload_n hx hb dX7_fewestOfRows_11 rfl (lv_at hl 0 rfl) ?_
  refine lv_aload_n hx hb dX7_fewestOfRows_12 rfl (lv_at hl 0 rfl) ?_
  refine gf_X7_51 hC hW m_7 rfl dX7_fewestOfRows_13 ?_
  refine lv_iload_n hx hb dX7_fewestOfRows_16 rfl (lv_at hl 1 rfl) ?_
  have h_1 : vp_in (0 : Int32) 4 := (vp_lit (by decide))
  refine w_aald hC hW m_25 4 (n := 4) rfl rfl h_1 (by rfl) dX7_fewestOfRows_17 ?_
  refine W.eq (g2 := F0 m 18 ls (.ref (ad 0 8) :: .ref (ad 7 0) :: [])) rfl ?_
  refine lv_aload_n hx hb dX7_fewestOfRows_18 rfl (lv_at hl 2 rfl) ?_
  refine lv_iload_n hx hb dX7_fewestOfRows_19 rfl (lv_at hl 3 rfl) ?_
  refine w_callV (As := [.ref (ad 0 8), .ref (ad 5 o), .int r]) (rest := []) (st2 := .int (f_X7_judgeAnew 8 o r σ) :: []) hC hW hS hl cv_X7_295 m_7 (by decide) rfl (c_X7_judgeAnew l hl9 D ca base ad σ 8 o r (by decide) ho) rfl rfl rfl ⟨Nat.le_of_ble_eq_true rfl, Nat.le_of_ble_eq_true rfl⟩ (Nat.le_of_ble_eq_true rfl) dX7_fewestOfRows_20 ⟨Nat.le_of_ble_eq_true rfl, Nat.le_of_ble_eq_true rfl⟩ (fun H locs hW hS => ?_)
  refine lv_if_ne (tgt := 28) hx hb dX7_fewestOfRows_23 (by decide) (fun c_2 => ?_) (fun c_2 => ?_)
  · refine lv_iconst (v := (-1)) hx hb dX7_fewestOfRows_28 (by decide) ?_
    refine lv_istore (lv' := [(4, .int (-1)), (0, .ref (ad 7 0)), (1, .int 0), (2, .ref (ad 5 o)), (3, .int r)]) hx hb dX7_fewestOfRows_29 hl (by decide) rfl (fun ls hl => ?_)
    refine lv_iconst (v := 0) hx hb dX7_fewestOfRows_31 (by decide) ?_
    refine lv_istore (lv' := [(5, .int 0), (4, .int (-1)), (0, .ref (ad 7 0)), (1, .int 0), (2, .ref (ad 5 o)), (3, .int r)]) hx hb dX7_fewestOfRows_32 hl (by decide) rfl (fun ls hl => ?_)
    have h_34 : ∀ (n34 k34 : Nat) (v4_34 : Int32) (σ34 : Sg) (H : Heap) (locs : List Loc) (ls : Array Slot), 13 ≤ k34 + n34 → k34 ≤ 12 → (TC σ34) → Wd D ca (Ab base) ad ρm Lm σ34 H → va_S (Ab base) s.heap H locs → lv_has ls 7 [(5, .int (nI k34)), (4, .int v4_34), (0, .ref (ad 7 0)), (1, .int 0), (2, .ref (ad 5 o)), (3, .int r)] → f_X7_fewestOfRows_0 o r σ = (((f_X7_fewestOfRows_0_L34 o r n34 k34 v4_34 σ34).1, (f_X7_fewestOfRows_0_L34 o r n34 k34 v4_34 σ34).2)) → W p l e ({ frames := 10, cells := 0, slots := 0, locals := 245 } : Room) s m args below meth c H locs 0 0 (MQ below (Rt D ca base ad ρm Lm (f_X7_fewestOfRows_0 o r σ).2 (some (.int (f_X7_fewestOfRows_0 o r σ).1))) args s 0 0 (Ab base)) (F0 m 34 ls []) := by
      intro n34
      induction n34 with
      | zero =>
        intro k34 v4_34 σ34 H locs ls hk1_34 hk2_34 hT hW hS hl hO
        exact absurd hk1_34 (by omega)
      | succ n34 ih_34 =>
        intro k34 v4_34 σ34 H locs ls hk1_34 hk2_34 hT hW hS hl hO
        refine lv_iload hx hb dX7_fewestOfRows_34 (lv_at hl 0 rfl) ?_
        refine lv_aload_n hx hb dX7_fewestOfRows_36 rfl (lv_at hl 2 rfl) ?_
        refine gf_X7_111 hC hW m_7 dX7_fewestOfRows_37 ?_
        refine lv_icmp_ge (tgt := 88) hx hb dX7_fewestOfRows_40 (by decide) (fun c_3 => ?_) (fun c_3 => ?_)
        · replace hl := lv_sub hl [1, 2, 3, 4, 5] (l' := [(4, .int v4_34), (0, .ref (ad 7 0)), (1, .int 0), (2, .ref (ad 5 o)), (3, .int r)]) rfl
          refine lv_iload hx hb dX7_fewestOfRows_88 (lv_at hl 0 rfl) ?_
          have hO : f_X7_fewestOfRows_0 o r σ = (v4_34, σ34) := by rw [hO, f_X7_fewestOfRows_0_L34, if_pos c_3]
          exact w_iretS hC hW hS hO (Nat.le_of_ble_eq_true rfl) (Nat.le_of_ble_eq_true rfl) dX7_fewestOfRows_90
        · have hi_c_3 : k34 < 12 := tc_cnt hT (by omega) c_3
          refine lv_aload_n hx hb dX7_fewestOfRows_43 rfl (lv_at hl 2 rfl) ?_
          refine lv_iload_n hx hb dX7_fewestOfRows_44 rfl (lv_at hl 3 rfl) ?_
          refine lv_aload_n hx hb dX7_fewestOfRows_45 rfl (lv_at hl 2 rfl) ?_
          refine gf_X7_32 hC hW m_7 rfl dX7_fewestOfRows_46 ?_
          refine lv_iload hx hb dX7_fewestOfRows_49 (lv_at hl 0 rfl) ?_
          have h_4 : vp_in (nI k34) 12 := (vp_in_nI (by omega) (by omega))
          refine w_aald hC hW m_22 3 (n := 12) rfl rfl h_4 (by rfl) dX7_fewestOfRows_51 ?_
          rw [nI_clamp (by omega)]
          refine lv_aload_n hx hb dX7_fewestOfRows_52 rfl (lv_at hl 4 rfl) ?_
          refine lv_iload_n hx hb dX7_fewestOfRows_53 rfl (lv_at hl 5 rfl) ?_
          refine w_callV (As := [.int 0, .ref (ad 5 k34), .ref (ad 5 o), .int r]) (rest := []) (st2 := .int ((f_X7_fewestBehind_0 k34 o r σ34).1) :: []) hC hW hS hl cv_X7_374 m_7 (by decide) rfl (c_X7_fewestBehind_0 l hl9 D ca base ad σ34 k34 o r (by omega) ho (by first | assumption | decide | omega)) rfl rfl rfl ⟨Nat.le_of_ble_eq_true rfl, Nat.le_of_ble_eq_true rfl⟩ (Nat.le_of_ble_eq_true rfl) dX7_fewestOfRows_54 ⟨Nat.le_of_ble_eq_true rfl, Nat.le_of_ble_eq_true rfl⟩ (fun H locs hW hS => ?_)
          refine lv_istore (lv' := [(6, .int ((f_X7_fewestBehind_0 k34 o r σ34).1)), (5, .int (nI k34)), (4, .int v4_34), (0, .ref (ad 7 0)), (1, .int 0), (2, .ref (ad 5 o)), (3, .int r)]) hx hb dX7_fewestOfRows_57 hl (by decide) rfl (fun ls hl => ?_)
          refine lv_iload hx hb dX7_fewestOfRows_59 (lv_at hl 0 rfl) ?_
          refine lv_iconst (v := (-1)) hx hb dX7_fewestOfRows_61 (by decide) ?_
          refine lv_icmp_eq (tgt := 82) hx hb dX7_fewestOfRows_62 (by decide) (fun c_5 => ?_) (fun c_5 => ?_)
          · refine lv_iinc (v := nI (k34 + 1)) (lv' := [(5, .int (nI (k34 + 1))), (6, .int ((f_X7_fewestBehind_0 k34 o r σ34).1)), (4, .int v4_34), (0, .ref (ad 7 0)), (1, .int 0), (2, .ref (ad 5 o)), (3, .int r)]) hx hb dX7_fewestOfRows_82 hl (k := 1) rfl (nI_1 _) (by decide) rfl (fun ls hl => ?_)
            refine lv_goto (tgt := 34) hx hb dX7_fewestOfRows_85 (by decide) ?_
            refine ih_34 (k34 + 1) v4_34 ((f_X7_fewestBehind_0 k34 o r σ34).2) _ _ _ (by omega) (by omega) (tc_fr hT (by rw [fr_X7_fewestBehind_0 (by decide) (by decide)])) hW hS (lv_sub hl [0, 2, 3, 4, 5, 6] rfl) ?_
            rw [hO, f_X7_fewestOfRows_0_L34, if_neg c_3, if_pos c_5]
          · refine lv_iload hx hb dX7_fewestOfRows_65 (lv_at hl 2 rfl) ?_
            refine lv_iconst (v := (-1)) hx hb dX7_fewestOfRows_67 (by decide) ?_
            refine lv_icmp_eq (tgt := 78) hx hb dX7_fewestOfRows_68 (by decide) (fun c_6 => ?_) (fun c_6 => ?_)
            · refine lv_iload hx hb dX7_fewestOfRows_78 (lv_at hl 0 rfl) ?_
              refine lv_istore (lv' := [(4, .int ((f_X7_fewestBehind_0 k34 o r σ34).1)), (6, .int ((f_X7_fewestBehind_0 k34 o r σ34).1)), (5, .int (nI k34)), (0, .ref (ad 7 0)), (1, .int 0), (2, .ref (ad 5 o)), (3, .int r)]) hx hb dX7_fewestOfRows_80 hl (by decide) rfl (fun ls hl => ?_)
              refine lv_iinc (v := nI (k34 + 1)) (lv' := [(5, .int (nI (k34 + 1))), (4, .int ((f_X7_fewestBehind_0 k34 o r σ34).1)), (6, .int ((f_X7_fewestBehind_0 k34 o r σ34).1)), (0, .ref (ad 7 0)), (1, .int 0), (2, .ref (ad 5 o)), (3, .int r)]) hx hb dX7_fewestOfRows_82 hl (k := 2) rfl (nI_1 _) (by decide) rfl (fun ls hl => ?_)
              refine lv_goto (tgt := 34) hx hb dX7_fewestOfRows_85 (by decide) ?_
              refine ih_34 (k34 + 1) ((f_X7_fewestBehind_0 k34 o r σ34).1) ((f_X7_fewestBehind_0 k34 o r σ34).2) _ _ _ (by omega) (by omega) (tc_fr hT (by rw [fr_X7_fewestBehind_0 (by decide) (by decide)])) hW hS (lv_sub hl [0, 1, 3, 4, 5, 6] rfl) ?_
              rw [hO, f_X7_fewestOfRows_0_L34, if_neg c_3, if_neg c_5, if_pos c_6]
            · refine lv_iload hx hb dX7_fewestOfRows_71 (lv_at hl 0 rfl) ?_
              refine lv_iload hx hb dX7_fewestOfRows_73 (lv_at hl 2 rfl) ?_
              refine lv_icmp_ge (tgt := 82) hx hb dX7_fewestOfRows_75 (by decide) (fun c_7 => ?_) (fun c_7 => ?_)
              · refine lv_iinc (v := nI (k34 + 1)) (lv' := [(5, .int (nI (k34 + 1))), (6, .int ((f_X7_fewestBehind_0 k34 o r σ34).1)), (4, .int v4_34), (0, .ref (ad 7 0)), (1, .int 0), (2, .ref (ad 5 o)), (3, .int r)]) hx hb dX7_fewestOfRows_82 hl (k := 1) rfl (nI_1 _) (by decide) rfl (fun ls hl => ?_)
                refine lv_goto (tgt := 34) hx hb dX7_fewestOfRows_85 (by decide) ?_
                refine ih_34 (k34 + 1) v4_34 ((f_X7_fewestBehind_0 k34 o r σ34).2) _ _ _ (by omega) (by omega) (tc_fr hT (by rw [fr_X7_fewestBehind_0 (by decide) (by decide)])) hW hS (lv_sub hl [0, 2, 3, 4, 5, 6] rfl) ?_
                rw [hO, f_X7_fewestOfRows_0_L34, if_neg c_3, if_neg c_5, if_neg c_6, if_pos c_7]
              · refine lv_iload hx hb dX7_fewestOfRows_78 (lv_at hl 0 rfl) ?_
                refine lv_istore (lv' := [(4, .int ((f_X7_fewestBehind_0 k34 o r σ34).1)), (6, .int ((f_X7_fewestBehind_0 k34 o r σ34).1)), (5, .int (nI k34)), (0, .ref (ad 7 0)), (1, .int 0), (2, .ref (ad 5 o)), (3, .int r)]) hx hb dX7_fewestOfRows_80 hl (by decide) rfl (fun ls hl => ?_)
                refine lv_iinc (v := nI (k34 + 1)) (lv' := [(5, .int (nI (k34 + 1))), (4, .int ((f_X7_fewestBehind_0 k34 o r σ34).1)), (6, .int ((f_X7_fewestBehind_0 k34 o r σ34).1)), (0, .ref (ad 7 0)), (1, .int 0), (2, .ref (ad 5 o)), (3, .int r)]) hx hb dX7_fewestOfRows_82 hl (k := 2) rfl (nI_1 _) (by decide) rfl (fun ls hl => ?_)
                refine lv_goto (tgt := 34) hx hb dX7_fewestOfRows_85 (by decide) ?_
                refine ih_34 (k34 + 1) ((f_X7_fewestBehind_0 k34 o r σ34).1) ((f_X7_fewestBehind_0 k34 o r σ34).2) _ _ _ (by omega) (by omega) (tc_fr hT (by rw [fr_X7_fewestBehind_0 (by decide) (by decide)])) hW hS (lv_sub hl [0, 1, 3, 4, 5, 6] rfl) ?_
                rw [hO, f_X7_fewestOfRows_0_L34, if_neg c_3, if_neg c_5, if_neg c_6, if_neg c_7]
    refine h_34 13 0 (-1) σ _ _ _ (by omega) (by omega) (tc_fr hT rfl) hW hS (lv_sub hl [0, 1, 2, 3, 4, 5] rfl) ?_
    rw [f_X7_fewestOfRows_0, if_neg c_2]
  · refine lv_iload_n hx hb dX7_fewestOfRows_26 rfl (lv_at hl 1 rfl) ?_
    have hO : f_X7_fewestOfRows_0 o r σ = (0, σ) := by rw [f_X7_fewestOfRows_0, if_pos c_2]
    exact w_iretS hC hW hS hO (Nat.le_of_ble_eq_true rfl) (Nat.le_of_ble_eq_true rfl) dX7_fewestOfRows_27
theorem fr_f_X7_fewestOfRows_0_L34 {kk : Nat}  (o : Nat) (r : Int32) (h0 : kk ≠ 0) (h10 : kk ≠ 10) : ∀ (y0 : Nat) (y1 : Nat) (y2 : Int32) (σ : Sg), (f_X7_fewestOfRows_0_L34 o r y0 y1 y2 σ).2 kk = σ kk := by
  intro y0
  induction y0 with
  | zero => intros; rfl
  | succ n ih =>
    intros
    rw [f_X7_fewestOfRows_0_L34]
    repeat' split
    all_goals (first | (simp only [ih, us_kk, ne_eq, not_false_eq_true, h0, h10, fr_X7_fewestBehind_0]; done) | with_reducible rfl | (simp only [ih, us_kk, ne_eq, not_false_eq_true, h0, h10, fr_X7_fewestBehind_0]; with_reducible rfl))
theorem fr_X7_fewestOfRows_0 {kk : Nat}  {o : Nat} {r : Int32} {σ : Sg} (h0 : kk ≠ 0) (h10 : kk ≠ 10) : (f_X7_fewestOfRows_0 o r σ).2 kk = σ kk := by
  rw [f_X7_fewestOfRows_0]
  repeat' split
  all_goals (first | (simp only [us_kk, ne_eq, not_false_eq_true, h0, h10, fr_f_X7_fewestOfRows_0_L34, fr_X7_fewestBehind_0]; done) | with_reducible rfl | (simp only [us_kk, ne_eq, not_false_eq_true, h0, h10, fr_f_X7_fewestOfRows_0_L34, fr_X7_fewestBehind_0]; with_reducible rfl))
