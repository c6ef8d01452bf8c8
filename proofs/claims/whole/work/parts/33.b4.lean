theorem ck_in {a : Int32} {k : Nat} (ha : ∃ n : Nat, n < 20 ∧ a = (6 : Int32) * nI n) (hk : k < 6) : vp_in (a + nI k) 120 := by
  obtain ⟨n, h1, rfl⟩ := ha
  rw [show (6 : Int32) = nI 6 from rfl, pk_mul, nI_add]
  exact vp_in_nI (by omega) (by decide)
theorem rw_in0 {x : Int32} (h : ∃ n : Nat, n < 20 ∧ x = nI n) : vp_in ((6 : Int32) * x) 120 := by
  obtain ⟨n, h1, rfl⟩ := h
  rw [show (6 : Int32) = nI 6 from rfl, pk_mul]
  exact vp_in_nI (by omega) (by decide)
theorem rw_in {x y : Int32} {j : Nat} (h : ∃ n : Nat, n < 20 ∧ x = nI n) (hy : y = nI j) (hj : j < 6) : vp_in ((6 : Int32) * x + y) 120 := by
  obtain ⟨n, h1, rfl⟩ := h
  rw [hy]
  exact ck_in ⟨n, h1, rfl⟩ hj
theorem rw_m {x : Int32} (h : ∃ n : Nat, n < 20 ∧ x = nI n) (h0 : ¬ x = 0) : vp_in ((6 : Int32) * x - 1) 120 := by
  obtain ⟨n, h1, rfl⟩ := h
  have : n ≠ 0 := fun q => h0 (by rw [q]; rfl)
  rw [show (6 : Int32) = nI 6 from rfl, pk_mul, show (1 : Int32) = nI 1 from rfl, pk_sub (by omega)]
  exact vp_in_nI (by omega) (by decide)
theorem lg_a {σ : Sg} (hM : MInv σ) (h : ¬ σ 8 0 40 = 20) : ∃ n : Nat, n < 20 ∧ σ 8 0 40 = nI n := by
  obtain ⟨n, h1, h2⟩ := hM.2.2.2.1
  have : n ≠ 20 := fun q => h (by rw [h2, q]; rfl)
  exact ⟨n, by omega, h2⟩
theorem lgd_in {σ : Sg} {x v : Int32} {b : Nat} {y : Int32} (hM : MInv σ) (h : ¬ f_X8_within x 0 (σ 8 0 40 - 1) = 0) (h2 : ¬ f_X8_within v 0 y = 0) (hy : y + 1 = nI b) (hb : b ≤ 6) (hb0 : 0 < b) : vp_in ((6 : Int32) * x + v) 120 := by
  obtain ⟨n, h3, h4⟩ := hM.2.2.2.1
  obtain ⟨-, j, hj, rfl⟩ := wi_n h h4 h3 (by decide)
  obtain ⟨k, hk, rfl⟩ := vp_in_of (wi_in (a := 0) (b := b) (n := 6) h2 rfl hy (by decide) hb hb0 (by decide)) (by decide)
  exact ck_in ⟨j, by omega, rfl⟩ hk
theorem fg_in {σ : Sg} {x : Int32} (hM : MInv σ) (h : ¬ f_X8_within x 0 (σ 8 0 40 - 1) = 0) : vp_in ((6 : Int32) * x + 4) 120 := by
  obtain ⟨n, h3, h4⟩ := hM.2.2.2.1
  obtain ⟨-, j, hj, rfl⟩ := wi_n h h4 h3 (by decide)
  exact ck_in (k := 4) ⟨j, by omega, rfl⟩ (by decide)
/-- where a chain of tokens stands, with n steps left -/
def StM (σ : Sg) (v : Int32) (n : Nat) : Prop := (v = -1 ∧ 1 ≤ n) ∨ ∃ j T : Nat, v = nI j ∧ j + 2 ≤ n ∧ j < T ∧ T ≤ 10 ∧ σ 8 0 27 = nI T
theorem st_0 {σ : Sg} {v : Int32} (h : StM σ v 0) : False := by
  rcases h with ⟨-, h⟩ | ⟨j, T, -, h, -⟩ <;> omega
theorem st_start {σ : Sg} {k : Int32} (hM : MInv σ) (h : ¬ f_X8_isToken k σ = 0) : StM σ k 12 := by
  obtain ⟨n, h1, h2, -⟩ := hM.2.2.1
  obtain ⟨-, j, hj, rfl⟩ := wi_n h h2 h1 (by decide)
  exact Or.inr ⟨j, n, rfl, by omega, hj, h1, h2⟩
theorem st_in {σ : Sg} {v : Int32} {n : Nat} (h : StM σ v n) (c : ¬ v = -1) : vp_in v 10 := by
  rcases h with ⟨h, -⟩ | ⟨j, T, rfl, -, h1, h2, -⟩
  · exact absurd h c
  · exact vp_in_nI (by omega) (by decide)
theorem st_step {σ : Sg} {v : Int32} {n : Nat} (hM : MInv σ) (h : StM σ v (n + 1)) (c : ¬ v = -1) : StM σ (σ 65 0 v.toNatClampNeg) n := by
  rcases h with ⟨h, -⟩ | ⟨j, T, rfl, h0, h1, h2, h3⟩
  · exact absurd h c
  · obtain ⟨T', h4, h5, h6⟩ := hM.2.2.1
    have : T = T' := (nI_eq (by omega) (by omega)).mp (h3.symm.trans h5)
    subst this
    rw [nI_clamp (by omega)]
    rcases h6 j h1 with q | ⟨i, q1, q2⟩
    · exact Or.inl ⟨q, by omega⟩
    · exact Or.inr ⟨i, T, q2, by omega, by omega, h2, h3⟩
theorem itk_fr {σ σ' : Sg} {t : Int32} (e : σ' 8 0 27 = σ 8 0 27) (h : ¬ f_X8_isToken t σ = 0) : ¬ f_X8_isToken t σ' = 0 := by
  unfold f_X8_isToken at h ⊢
  rw [e]
  exact h
def f_X8_checked_L8 (a : Int32) (g : Int32) : Nat → Nat → Int32 → Sg → Int32
  | 0, _, v3_8, _ => v3_8
  | n8 + 1, k8, v3_8, σ => if 5 ≤ (nI k8) then v3_8
    else f_X8_checked_L8 a g n8 (k8 + 1) (((31 : Int32) * v3_8) + (σ 73 0 ((a + (nI k8)).toNatClampNeg))) σ
def f_X8_checked (a : Int32) (g : Int32) (σ : Sg) : Int32 :=
  (f_X8_checked_L8 a g 6 0 ((31 : Int32) * g) σ)
set_option maxHeartbeats 4000000 in
set_option maxRecDepth 100000 in
theorem c_X8_checked (l : Launch) (hl9 : l.stackTraces = false) (D : va_G) (ca : Nat → ClassId) (base : Nat) (ad : Adr) (σ : Sg) (a : Int32) (g : Int32) (ha : ∃ n : Nat, n < 20 ∧ a = (6 : Int32) * nI n) : Mt l yX8_checked cX8_checked 5 (some .int) { frames := 0, cells := 0, slots := 0, locals := 0 } D ca base ad ρm Lm [.ref (ad 73 0), .int a, .int g] σ (some (.int (f_X8_checked a g σ))) σ := by
  refine w_ofW (by decide) (Nat.le_of_ble_eq_true rfl) rfl ?_
  intro p e s m args below meth c hC hW hS ls hl hin
  have hx := hC.1
  have hb := hC.2.1
  refine lv_bipush (v := 31) hx hb dX8_checked_0 (by decide) ?_
  refine lv_iload_n hx hb dX8_checked_2 rfl (lv_at hl 2 rfl) ?_
  refine lv_imul hx hb dX8_checked_3 ?_
  refine lv_istore_n (lv' := [(3, .int ((31 : Int32) * g)), (0, .ref (ad 73 0)), (1, .int a), (2, .int g)]) hx hb dX8_checked_4 rfl hl (by decide) rfl (fun ls hl => ?_)
  refine lv_iconst (v := 0) hx hb dX8_checked_5 (by decide) ?_
  refine lv_istore (lv' := [(4, .int 0), (3, .int ((31 : Int32) * g)), (0, .ref (ad 73 0)), (1, .int a), (2, .int g)]) hx hb dX8_checked_6 hl (by decide) rfl (fun ls hl => ?_)
  have h_8 : ∀ (n8 k8 : Nat) (v3_8 : Int32) (H : Heap) (locs : List Loc) (ls : Array Slot), 6 ≤ k8 + n8 → k8 ≤ 5 → Wd D ca (Ab base) ad ρm Lm σ H → va_S (Ab base) s.heap H locs → lv_has ls 5 [(4, .int (nI k8)), (3, .int v3_8), (0, .ref (ad 73 0)), (1, .int a)] → f_X8_checked a g σ = ((f_X8_checked_L8 a g n8 k8 v3_8 σ)) → W p l e ({ frames := 0, cells := 0, slots := 0, locals := 0 } : Room) s m args below meth c H locs 0 0 (MQ below (Rt D ca base ad ρm Lm σ (some (.int (f_X8_checked a g σ)))) args s 0 0 (Ab base)) (F0 m 8 ls []) := by
    intro n8
    induction n8 with
    | zero =>
      intro k8 v3_8 H locs ls hk1_8 hk2_8 hW hS hl hO
      exact absurd hk1_8 (by omega)
    | succ n8 ih_8 =>
      intro k8 v3_8 H locs ls hk1_8 hk2_8 hW hS hl hO
      refine lv_iload hx hb dX8_checked_8 (lv_at hl 0 rfl) ?_
      refine lv_iconst (v := 5) hx hb dX8_checked_10 (by decide) ?_
      refine lv_icmp_ge (tgt := 32) hx hb dX8_checked_11 (by decide) (fun c_1 => ?_) (fun c_1 => ?_)
      · replace hl := lv_sub hl [1, 2, 3] (l' := [(3, .int v3_8), (0, .ref (ad 73 0)), (1, .int a)]) rfl
        refine lv_iload_n hx hb dX8_checked_32 rfl (lv_at hl 0 rfl) ?_
        have hO : f_X8_checked a g σ = v3_8 := by rw [hO, f_X8_checked_L8, if_pos c_1]
        exact w_iretP hC hW hS hO (Nat.le_of_ble_eq_true rfl) (Nat.le_of_ble_eq_true rfl) dX8_checked_33
      · have hi_c_1 : k8 < 5 := idx_lt c_1 (by decide) (by decide) (by omega)
        refine lv_bipush (v := 31) hx hb dX8_checked_14 (by decide) ?_
        refine lv_iload_n hx hb dX8_checked_16 rfl (lv_at hl 1 rfl) ?_
        refine lv_imul hx hb dX8_checked_17 ?_
        refine lv_aload_n hx hb dX8_checked_18 rfl (lv_at hl 2 rfl) ?_
        refine lv_iload_n hx hb dX8_checked_19 rfl (lv_at hl 3 rfl) ?_
        refine lv_iload hx hb dX8_checked_20 (lv_at hl 0 rfl) ?_
        refine lv_iadd hx hb dX8_checked_22 ?_
        refine w_iald hC hW m_73 (n := 120) rfl (ck_in ha (by omega)) dX8_checked_23 ?_
        refine lv_iadd hx hb dX8_checked_24 ?_
        refine lv_istore_n (lv' := [(3, .int (((31 : Int32) * v3_8) + (σ 73 0 ((a + (nI k8)).toNatClampNeg)))), (4, .int (nI k8)), (0, .ref (ad 73 0)), (1, .int a)]) hx hb dX8_checked_25 rfl hl (by decide) rfl (fun ls hl => ?_)
        refine lv_iinc (v := nI (k8 + 1)) (lv' := [(4, .int (nI (k8 + 1))), (3, .int (((31 : Int32) * v3_8) + (σ 73 0 ((a + (nI k8)).toNatClampNeg)))), (0, .ref (ad 73 0)), (1, .int a)]) hx hb dX8_checked_26 hl (k := 1) rfl (nI_1 _) (by decide) rfl (fun ls hl => ?_)
        refine lv_goto (tgt := 8) hx hb dX8_checked_29 (by decide) ?_
        refine ih_8 (k8 + 1) (((31 : Int32) * v3_8) + (σ 73 0 ((a + (nI k8)).toNatClampNeg))) _ _ _ (by omega) (by omega)  hW hS (lv_sub hl [0, 1, 2, 3] rfl) ?_
        rw [hO, f_X8_checked_L8, if_neg c_1]
  refine h_8 6 0 ((31 : Int32) * g) _ _ _ (by omega) (by omega)  hW hS (lv_sub hl [0, 1, 2, 3] rfl) ?_
  rw [f_X8_checked]

def f_X8_isStill_L21 (k : Int32) : Nat → Int32 → Int32 → Sg → Int32
  | 0, v2_21, _, _ => v2_21
  | n21 + 1, v2_21, v3_21, σ => if v3_21 = (-1) then v2_21
    else if v2_21 = 0 then f_X8_isStill_L21 k n21 0 (σ 65 0 v3_21.toNatClampNeg) σ
    else if (σ 66 0 v3_21.toNatClampNeg) = 0 then f_X8_isStill_L21 k n21 0 (σ 65 0 v3_21.toNatClampNeg) σ
    else f_X8_isStill_L21 k n21 1 (σ 65 0 v3_21.toNatClampNeg) σ
def f_X8_isStill (k : Int32) (σ : Sg) : Int32 :=
  if (σ 60 0 k.toNatClampNeg) < (σ 8 0 37) then (f_X8_isStill_L21 k 12 0 k σ)
  else (f_X8_isStill_L21 k 12 1 k σ)
set_option maxHeartbeats 4000000 in
set_option maxRecDepth 100000 in
theorem c_X8_isStill (l : Launch) (hl9 : l.stackTraces = false) (D : va_G) (ca : Nat → ClassId) (base : Nat) (ad : Adr) (σ : Sg) (k : Int32) (hM : MInv σ) (hk9 : ¬ f_X8_isToken k σ = 0) : Mt l yX8_isStill cX8_isStill 4 (some .boolean) { frames := 0, cells := 0, slots := 0, locals := 0 } D ca base ad ρm Lm [.ref (ad 8 0), .int k] σ (some (.int (f_X8_isStill k σ))) σ := by
  refine w_ofW (by decide) (Nat.le_of_ble_eq_true rfl) rfl ?_
  intro p e s m args below meth c hC hW hS ls hl hin
  have hx := hC.1
  have hb := hC.2.1
  refine lv_aload_n hx hb dX8_isStill_0 rfl (lv_at hl 0 rfl) ?_
  refine gf_X8_223 hC hW m_8 dX8_isStill_1 ?_
  refine lv_aload_n hx hb dX8_isStill_4 rfl (lv_at hl 0 rfl) ?_
  refine gf_X8_89 hC hW m_8 rfl dX8_isStill_5 ?_
  refine lv_iload_n hx hb dX8_isStill_8 rfl (lv_at hl 1 rfl) ?_
  refine w_iald hC hW m_60 (n := 10) rfl (by first | assumption | exact ik_in hM (by assumption) | exact vp_in_c (y := 10) (by decide) (by decide) (by assumption) (by assumption) | (exfalso; contradiction)) dX8_isStill_9 ?_
  refine lv_icmp_gt (tgt := 17) hx hb dX8_isStill_10 (by decide) (fun c_1 => ?_) (fun c_1 => ?_)
  · refine lv_iconst (v := 0) hx hb dX8_isStill_17 (by decide) ?_
    refine lv_istore_n (lv' := [(2, .int 0), (0, .ref (ad 8 0)), (1, .int k)]) hx hb dX8_isStill_18 rfl hl (by decide) rfl (fun ls hl => ?_)
    refine lv_iload_n hx hb dX8_isStill_19 rfl (lv_at hl 2 rfl) ?_
    refine lv_istore_n (lv' := [(3, .int k), (2, .int 0), (0, .ref (ad 8 0)), (1, .int k)]) hx hb dX8_isStill_20 rfl hl (by decide) rfl (fun ls hl => ?_)
    have h_21 : ∀ (n21 : Nat) (v2_21 v3_21 : Int32) (H : Heap) (locs : List Loc) (ls : Array Slot), StM σ v3_21 n21 → (v2_21 &&& 1 = v2_21) → Wd D ca (Ab base) ad ρm Lm σ H → va_S (Ab base) s.heap H locs → lv_has ls 4 [(3, .int v3_21), (2, .int v2_21), (0, .ref (ad 8 0))] → f_X8_isStill k σ = ((f_X8_isStill_L21 k n21 v2_21 v3_21 σ)) → W p l e ({ frames := 0, cells := 0, slots := 0, locals := 0 } : Room) s m args below meth c H locs 0 0 (MQ below (Rt D ca base ad ρm Lm σ (some (.int (f_X8_isStill k σ)))) args s 0 0 (Ab base)) (F0 m 21 ls []) := by
      intro n21
      induction n21 with
      | zero =>
        intro v2_21 v3_21 H locs ls hm_21 hb9 hW hS hl hO
        exact (st_0 hm_21).elim
      | succ n21 ih_21 =>
        intro v2_21 v3_21 H locs ls hm_21 hb9 hW hS hl hO
        refine lv_iload_n hx hb dX8_isStill_21 rfl (lv_at hl 0 rfl) ?_
        refine lv_iconst (v := (-1)) hx hb dX8_isStill_22 (by decide) ?_
        refine lv_icmp_eq (tgt := 55) hx hb dX8_isStill_23 (by decide) (fun c_2 => ?_) (fun c_2 => ?_)
        · replace hl := lv_sub hl [0, 1, 2] (l' := [(3, .int v3_21), (2, .int v2_21), (0, .ref (ad 8 0))]) rfl
          refine lv_iload_n hx hb dX8_isStill_55 rfl (lv_at hl 1 rfl) ?_
          have hO : f_X8_isStill k σ = v2_21 := by rw [hO, f_X8_isStill_L21, if_pos c_2]
          exact w_zretP hC hW hS (by assumption) hO (Nat.le_of_ble_eq_true rfl) (Nat.le_of_ble_eq_true rfl) dX8_isStill_56
        · refine lv_iload_n hx hb dX8_isStill_26 rfl (lv_at hl 1 rfl) ?_
          refine lv_if_eq (tgt := 43) hx hb dX8_isStill_27 (by decide) (fun c_3 => ?_) (fun c_3 => ?_)
          · refine lv_iconst (v := 0) hx hb dX8_isStill_43 (by decide) ?_
            refine lv_istore_n (lv' := [(2, .int 0), (3, .int v3_21), (0, .ref (ad 8 0))]) hx hb dX8_isStill_44 rfl hl (by decide) rfl (fun ls hl => ?_)
            refine lv_aload_n hx hb dX8_isStill_45 rfl (lv_at hl 2 rfl) ?_
            refine gf_X8_104 hC hW m_8 rfl dX8_isStill_46 ?_
            refine lv_iload_n hx hb dX8_isStill_49 rfl (lv_at hl 1 rfl) ?_
            refine w_iald hC hW m_65 (n := 10) rfl (st_in hm_21 (by assumption)) dX8_isStill_50 ?_
            refine lv_istore_n (lv' := [(3, .int (σ 65 0 v3_21.toNatClampNeg)), (2, .int 0), (0, .ref (ad 8 0))]) hx hb dX8_isStill_51 rfl hl (by decide) rfl (fun ls hl => ?_)
            refine lv_goto (tgt := 21) hx hb dX8_isStill_52 (by decide) ?_
            refine ih_21 0 (σ 65 0 v3_21.toNatClampNeg) _ _ _ (st_step hM hm_21 (by assumption)) (by first | assumption | omega | decide) hW hS (lv_sub hl [0, 1, 2] rfl) ?_
            rw [hO, f_X8_isStill_L21, if_neg c_2, if_pos c_3]
          · refine lv_aload_n hx hb dX8_isStill_30 rfl (lv_at hl 2 rfl) ?_
            refine gf_X8_107 hC hW m_8 rfl dX8_isStill_31 ?_
            refine lv_iload_n hx hb dX8_isStill_34 rfl (lv_at hl 0 rfl) ?_
            refine w_zald hC hW m_66 (n := 10) rfl (st_in hm_21 (by assumption)) dX8_isStill_35 ?_
            refine lv_if_eq (tgt := 43) hx hb dX8_isStill_36 (by decide) (fun c_4 => ?_) (fun c_4 => ?_)
            · refine lv_iconst (v := 0) hx hb dX8_isStill_43 (by decide) ?_
              refine lv_istore_n (lv' := [(2, .int 0), (3, .int v3_21), (0, .ref (ad 8 0))]) hx hb dX8_isStill_44 rfl hl (by decide) rfl (fun ls hl => ?_)
              refine lv_aload_n hx hb dX8_isStill_45 rfl (lv_at hl 2 rfl) ?_
              refine gf_X8_104 hC hW m_8 rfl dX8_isStill_46 ?_
              refine lv_iload_n hx hb dX8_isStill_49 rfl (lv_at hl 1 rfl) ?_
              refine w_iald hC hW m_65 (n := 10) rfl (st_in hm_21 (by assumption)) dX8_isStill_50 ?_
              refine lv_istore_n (lv' := [(3, .int (σ 65 0 v3_21.toNatClampNeg)), (2, .int 0), (0, .ref (ad 8 0))]) hx hb dX8_isStill_51 rfl hl (by decide) rfl (fun ls hl => ?_)
              refine lv_goto (tgt := 21) hx hb dX8_isStill_52 (by decide) ?_
              refine ih_21 0 (σ 65 0 v3_21.toNatClampNeg) _ _ _ (st_step hM hm_21 (by assumption)) (by first | assumption | omega | decide) hW hS (lv_sub hl [0, 1, 2] rfl) ?_
              rw [hO, f_X8_isStill_L21, if_neg c_2, if_neg c_3, if_pos c_4]
            · refine lv_iconst (v := 1) hx hb dX8_isStill_39 (by decide) ?_
              refine lv_goto (tgt := 44) hx hb dX8_isStill_40 (by decide) ?_
              refine lv_istore_n (lv' := [(2, .int 1), (3, .int v3_21), (0, .ref (ad 8 0))]) hx hb dX8_isStill_44 rfl hl (by decide) rfl (fun ls hl => ?_)
              refine lv_aload_n hx hb dX8_isStill_45 rfl (lv_at hl 2 rfl) ?_
              refine gf_X8_104 hC hW m_8 rfl dX8_isStill_46 ?_
              refine lv_iload_n hx hb dX8_isStill_49 rfl (lv_at hl 1 rfl) ?_
              refine w_iald hC hW m_65 (n := 10) rfl (st_in hm_21 (by assumption)) dX8_isStill_50 ?_
              refine lv_istore_n (lv' := [(3, .int (σ 65 0 v3_21.toNatClampNeg)), (2, .int 1), (0, .ref (ad 8 0))]) hx hb dX8_isStill_51 rfl hl (by decide) rfl (fun ls hl => ?_)
              refine lv_goto (tgt := 21) hx hb dX8_isStill_52 (by decide) ?_
              refine ih_21 1 (σ 65 0 v3_21.toNatClampNeg) _ _ _ (st_step hM hm_21 (by assumption)) (by first | assumption | omega | decide) hW hS (lv_sub hl [0, 1, 2] rfl) ?_
              rw [hO, f_X8_isStill_L21, if_neg c_2, if_neg c_3, if_neg c_4]
    refine h_21 12 0 k _ _ _ (st_start hM hk9) (by first | assumption | omega | decide) hW hS (lv_sub hl [0, 1, 2] rfl) ?_
    rw [f_X8_isStill, if_pos c_1]
  · refine lv_iconst (v := 1) hx hb dX8_isStill_13 (by decide) ?_
    refine lv_goto (tgt := 18) hx hb dX8_isStill_14 (by decide) ?_
    refine lv_istore_n (lv' := [(2, .int 1), (0, .ref (ad 8 0)), (1, .int k)]) hx hb dX8_isStill_18 rfl hl (by decide) rfl (fun ls hl => ?_)
    refine lv_iload_n hx hb dX8_isStill_19 rfl (lv_at hl 2 rfl) ?_
    refine lv_istore_n (lv' := [(3, .int k), (2, .int 1), (0, .ref (ad 8 0)), (1, .int k)]) hx hb dX8_isStill_20 rfl hl (by decide) rfl (fun ls hl => ?_)
    have h_21 : ∀ (n21 : Nat) (v2_21 v3_21 : Int32) (H : Heap) (locs : List Loc) (ls : Array Slot), StM σ v3_21 n21 → (v2_21 &&& 1 = v2_21) → Wd D ca (Ab base) ad ρm Lm σ H → va_S (Ab base) s.heap H locs → lv_has ls 4 [(3, .int v3_21), (2, .int v2_21), (0, .ref (ad 8 0))] → f_X8_isStill k σ = ((f_X8_isStill_L21 k n21 v2_21 v3_21 σ)) → W p l e ({ frames := 0, cells := 0, slots := 0, locals := 0 } : Room) s m args below meth c H locs 0 0 (MQ below (Rt D ca base ad ρm Lm σ (some (.int (f_X8_isStill k σ)))) args s 0 0 (Ab base)) (F0 m 21 ls []) := by
      intro n21
      induction n21 with
      | zero =>
        intro v2_21 v3_21 H locs ls hm_21 hb9 hW hS hl hO
        exact (st_0 hm_21).elim
      | succ n21 ih_21 =>
        intro v2_21 v3_21 H locs ls hm_21 hb9 hW hS hl hO
        refine lv_iload_n hx hb dX8_isStill_21 rfl (lv_at hl 0 rfl) ?_
        refine lv_iconst (v := (-1)) hx hb dX8_isStill_22 (by decide) ?_
        refine lv_icmp_eq (tgt := 55) hx hb dX8_isStill_23 (by decide) (fun c_5 => ?_) (fun c_5 => ?_)
        · replace hl := lv_sub hl [0, 1, 2] (l' := [(3, .int v3_21), (2, .int v2_21), (0, .ref (ad 8 0))]) rfl
          refine lv_iload_n hx hb dX8_isStill_55 rfl (lv_at hl 1 rfl) ?_
          have hO : f_X8_isStill k σ = v2_21 := by rw [hO, f_X8_isStill_L21, if_pos c_5]
          exact w_zretP hC hW hS (by assumption) hO (Nat.le_of_ble_eq_true rfl) (Nat.le_of_ble_eq_true rfl) dX8_isStill_56
        · refine lv_iload_n hx hb dX8_isStill_26 rfl (lv_at hl 1 rfl) ?_
          refine lv_if_eq (tgt := 43) hx hb dX8_isStill_27 (by decide) (fun c_6 => ?_) (fun c_6 => ?_)
          · refine lv_iconst (v := 0) hx hb dX8_isStill_43 (by decide) ?_
            refine lv_istore_n (lv' := [(2, .int 0), (3, .int v3_21), (0, .ref (ad 8 0))]) hx hb dX8_isStill_44 rfl hl (by decide) rfl (fun ls hl => ?_)
            refine lv_aload_n hx hb dX8_isStill_45 rfl (lv_at hl 2 rfl) ?_
            refine gf_X8_104 hC hW m_8 rfl dX8_isStill_46 ?_
            refine lv_iload_n hx hb dX8_isStill_49 rfl (lv_at hl 1 rfl) ?_
            refine w_iald hC hW m_65 (n := 10) rfl (st_in hm_21 (by assumption)) dX8_isStill_50 ?_
            refine lv_istore_n (lv' := [(3, .int (σ 65 0 v3_21.toNatClampNeg)), (2, .int 0), (0, .ref (ad 8 0))]) hx hb dX8_isStill_51 rfl hl (by decide) rfl (fun ls hl => ?_)
            refine lv_goto (tgt := 21) hx hb dX8_isStill_52 (by decide) ?_
            refine ih_21 0 (σ 65 0 v3_21.toNatClampNeg) _ _ _ (st_step hM hm_21 (by assumption)) (by first | assumption | omega | decide) hW hS (lv_sub hl [0, 1, 2] rfl) ?_
            rw [hO, f_X8_isStill_L21, if_neg c_5, if_pos c_6]
          · refine lv_aload_n hx hb dX8_isStill_30 rfl (lv_at hl 2 rfl) ?_
            refine gf_X8_107 hC hW m_8 rfl dX8_isStill_31 ?_
            refine lv_iload_n hx hb dX8_isStill_34 rfl (lv_at hl 0 rfl) ?_
            refine w_zald hC hW m_66 (n := 10) rfl (st_in hm_21 (by assumption)) dX8_isStill_35 ?_
            refine lv_if_eq (tgt := 43) hx hb dX8_isStill_36 (by decide) (fun c_7 => ?_) (fun c_7 => ?_)
            · refine lv_iconst (v := 0) hx hb dX8_isStill_43 (by decide) ?_
              refine lv_istore_n (lv' := [(2, .int 0), (3, .int v3_21), (0, .ref (ad 8 0))]) hx hb dX8_isStill_44 rfl hl (by decide) rfl (fun ls hl => ?_)
              refine lv_aload_n hx hb dX8_isStill_45 rfl (lv_at hl 2 rfl) ?_
              refine gf_X8_104 hC hW m_8 rfl dX8_isStill_46 ?_
              refine lv_iload_n hx hb dX8_isStill_49 rfl (lv_at hl 1 rfl) ?_
              refine w_iald hC hW m_65 (n := 10) rfl (st_in hm_21 (by assumption)) dX8_isStill_50 ?_
              refine lv_istore_n (lv' := [(3, .int (σ 65 0 v3_21.toNatClampNeg)), (2, .int 0), (0, .ref (ad 8 0))]) hx hb dX8_isStill_51 rfl hl (by decide) rfl (fun ls hl => ?_)
              refine lv_goto (tgt := 21) hx hb dX8_isStill_52 (by decide) ?_
              refine ih_21 0 (σ 65 0 v3_21.toNatClampNeg) _ _ _ (st_step hM hm_21 (by assumption)) (by first | assumption | omega | decide) hW hS (lv_sub hl [0, 1, 2] rfl) ?_
              rw [hO, f_X8_isStill_L21, if_neg c_5, if_neg c_6, if_pos c_7]
            · refine lv_iconst (v := 1) hx hb dX8_isStill_39 (by decide) ?_
              refine lv_goto (tgt := 44) hx hb dX8_isStill_40 (by decide) ?_
              refine lv_istore_n (lv' := [(2, .int 1), (3, .int v3_21), (0, .ref (ad 8 0))]) hx hb dX8_isStill_44 rfl hl (by decide) rfl (fun ls hl => ?_)
              refine lv_aload_n hx hb dX8_isStill_45 rfl (lv_at hl 2 rfl) ?_
              refine gf_X8_104 hC hW m_8 rfl dX8_isStill_46 ?_
              refine lv_iload_n hx hb dX8_isStill_49 rfl (lv_at hl 1 rfl) ?_
              refine w_iald hC hW m_65 (n := 10) rfl (st_in hm_21 (by assumption)) dX8_isStill_50 ?_
              refine lv_istore_n (lv' := [(3, .int (σ 65 0 v3_21.toNatClampNeg)), (2, .int 1), (0, .ref (ad 8 0))]) hx hb dX8_isStill_51 rfl hl (by decide) rfl (fun ls hl => ?_)
              refine lv_goto (tgt := 21) hx hb dX8_isStill_52 (by decide) ?_
              refine ih_21 1 (σ 65 0 v3_21.toNatClampNeg) _ _ _ (st_step hM hm_21 (by assumption)) (by first | assumption | omega | decide) hW hS (lv_sub hl [0, 1, 2] rfl) ?_
              rw [hO, f_X8_isStill_L21, if_neg c_5, if_neg c_6, if_neg c_7]
    refine h_21 12 1 k _ _ _ (st_start hM hk9) (by first | assumption | omega | decide) hW hS (lv_sub hl [0, 1, 2] rfl) ?_
    rw [f_X8_isStill, if_neg c_1]
theorem bb_X8_isStill_L {k : Int32} : ∀ (n : Nat) (v w : Int32) (σ : Sg), v &&& 1 = v → f_X8_isStill_L21 k n v w σ &&& 1 = f_X8_isStill_L21 k n v w σ := by
  intro n
  induction n with
  | zero => intro v w σ h; exact h
  | succ n ih =>
    intro v w σ h
    rw [f_X8_isStill_L21]
    repeat' split
    all_goals first | exact h | exact ih _ _ _ (by decide)
theorem bb_X8_isStill {k : Int32} {σ : Sg} : f_X8_isStill k σ &&& 1 = f_X8_isStill k σ := by
  unfold f_X8_isStill
  repeat' split
  all_goals exact bb_X8_isStill_L _ _ _ _ (by decide)
def f_X8_lets (k : Int32) (r : Int32) (σ : Sg) : Int32 :=
  if ((σ 59 0 k.toNatClampNeg) &&& r) = 0 then 0
  else if (f_X8_isStill k σ) = 0 then 0
  else 1
set_option maxHeartbeats 4000000 in
set_option maxRecDepth 100000 in
theorem c_X8_lets (l : Launch) (hl9 : l.stackTraces = false) (D : va_G) (ca : Nat → ClassId) (base : Nat) (ad : Adr) (σ : Sg) (k : Int32) (r : Int32) (hM : MInv σ) (hk9 : ¬ f_X8_isToken k σ = 0) : Mt l yX8_lets cX8_lets 3 (some .boolean) { frames := 1, cells := 0, slots := 0, locals := 23 } D ca base ad ρm Lm [.ref (ad 8 0), .int k, .int r] σ (some (.int (f_X8_lets k r σ))) σ := by
  refine w_ofW (by decide) (Nat.le_of_ble_eq_true rfl) rfl ?_
  intro p e s m args below meth c hC hW hS ls hl hin
  have hx := hC.1
  have hb := hC.2.1
  refine lv_aload_n hx hb dX8_lets_0 rfl (lv_at hl 0 rfl) ?_
  refine gf_X8_86 hC hW m_8 rfl dX8_lets_1 ?_
  refine lv_iload_n hx hb dX8_lets_4 rfl (lv_at hl 1 rfl) ?_
  refine w_iald hC hW m_59 (n := 10) rfl (ik_in hM hk9) dX8_lets_5 ?_
  refine lv_iload_n hx hb dX8_lets_6 rfl (lv_at hl 2 rfl) ?_
  refine lv_iand hx hb dX8_lets_7 ?_
  refine lv_if_eq (tgt := 23) hx hb dX8_lets_8 (by decide) (fun c_1 => ?_) (fun c_1 => ?_)
  · refine lv_iconst (v := 0) hx hb dX8_lets_23 (by decide) ?_
    have hO : f_X8_lets k r σ = 0 := by rw [f_X8_lets, if_pos c_1]
    exact w_zretP hC hW hS (by decide) hO (Nat.le_of_ble_eq_true rfl) (Nat.le_of_ble_eq_true rfl) dX8_lets_24
  · refine lv_aload_n hx hb dX8_lets_11 rfl (lv_at hl 0 rfl) ?_
    refine lv_iload_n hx hb dX8_lets_12 rfl (lv_at hl 1 rfl) ?_
    refine w_callV (As := [.int k]) (rest := []) (st2 := .int (f_X8_isStill k σ) :: []) hC hW hS hl cv_X8_226 m_8 (by decide) rfl (c_X8_isStill l hl9 D ca base ad σ k hM (by assumption)) rfl rfl rfl ⟨Nat.le_of_ble_eq_true rfl, Nat.le_of_ble_eq_true rfl⟩ (Nat.le_of_ble_eq_true rfl) dX8_lets_13 ⟨Nat.le_of_ble_eq_true rfl, Nat.le_of_ble_eq_true rfl⟩ (fun H locs hW hS => ?_)
    refine lv_if_eq (tgt := 23) hx hb dX8_lets_16 (by decide) (fun c_2 => ?_) (fun c_2 => ?_)
    · refine lv_iconst (v := 0) hx hb dX8_lets_23 (by decide) ?_
      have hO : f_X8_lets k r σ = 0 := by rw [f_X8_lets, if_neg c_1, if_pos c_2]
      exact w_zretP hC hW hS (by decide) hO (Nat.le_of_ble_eq_true rfl) (Nat.le_of_ble_eq_true rfl) dX8_lets_24
    · refine lv_iconst (v := 1) hx hb dX8_lets_19 (by decide) ?_
      refine lv_goto (tgt := 24) hx hb dX8_lets_20 (by decide) ?_
      have hO : f_X8_lets k r σ = 1 := by rw [f_X8_lets, if_neg c_1, if_neg c_2]
      exact w_zretP hC hW hS (by decide) hO (Nat.le_of_ble_eq_true rfl) (Nat.le_of_ble_eq_true rfl) dX8_lets_24
theorem bb_X8_lets {k : Int32} {r : Int32} {σ : Sg} : f_X8_lets k r σ &&& 1 = f_X8_lets k r σ := by
  rw [f_X8_lets]
  repeat' split
  all_goals first | decide | exact bb_X8_isStill

def s_X8_log_K54 (a : Int32) (t : Int32) (r : Int32) (v : Int32) (τ54 : Sg) : Sg :=
  if ((τ54 8 0 40) - (1 : Int32)) = 0 then us (us (us (us (us (us (us (us τ54 8 0 40 ((τ54 8 0 40) - (1 : Int32))) 73 0 (((6 : Int32) * ((τ54 8 0 40) - (1 : Int32))).toNatClampNeg) (τ54 8 0 37)) 73 0 ((((6 : Int32) * ((τ54 8 0 40) - (1 : Int32))) + (1 : Int32)).toNatClampNeg) a) 73 0 ((((6 : Int32) * ((τ54 8 0 40) - (1 : Int32))) + (2 : Int32)).toNatClampNeg) t) 73 0 ((((6 : Int32) * ((τ54 8 0 40) - (1 : Int32))) + (3 : Int32)).toNatClampNeg) r) 73 0 ((((6 : Int32) * ((τ54 8 0 40) - (1 : Int32))) + (4 : Int32)).toNatClampNeg) v) 73 0 ((((6 : Int32) * ((τ54 8 0 40) - (1 : Int32))) + (5 : Int32)).toNatClampNeg) (f_X8_checked ((6 : Int32) * ((τ54 8 0 40) - (1 : Int32))) (τ54 8 0 42) (us (us (us (us (us (us τ54 8 0 40 ((τ54 8 0 40) - (1 : Int32))) 73 0 (((6 : Int32) * ((τ54 8 0 40) - (1 : Int32))).toNatClampNeg) (τ54 8 0 37)) 73 0 ((((6 : Int32) * ((τ54 8 0 40) - (1 : Int32))) + (1 : Int32)).toNatClampNeg) a) 73 0 ((((6 : Int32) * ((τ54 8 0 40) - (1 : Int32))) + (2 : Int32)).toNatClampNeg) t) 73 0 ((((6 : Int32) * ((τ54 8 0 40) - (1 : Int32))) + (3 : Int32)).toNatClampNeg) r) 73 0 ((((6 : Int32) * ((τ54 8 0 40) - (1 : Int32))) + (4 : Int32)).toNatClampNeg) v))) 8 0 40 (((τ54 8 0 40) - (1 : Int32)) + (1 : Int32))
  else us (us (us (us (us (us (us (us τ54 8 0 40 ((τ54 8 0 40) - (1 : Int32))) 73 0 (((6 : Int32) * ((τ54 8 0 40) - (1 : Int32))).toNatClampNeg) (τ54 8 0 37)) 73 0 ((((6 : Int32) * ((τ54 8 0 40) - (1 : Int32))) + (1 : Int32)).toNatClampNeg) a) 73 0 ((((6 : Int32) * ((τ54 8 0 40) - (1 : Int32))) + (2 : Int32)).toNatClampNeg) t) 73 0 ((((6 : Int32) * ((τ54 8 0 40) - (1 : Int32))) + (3 : Int32)).toNatClampNeg) r) 73 0 ((((6 : Int32) * ((τ54 8 0 40) - (1 : Int32))) + (4 : Int32)).toNatClampNeg) v) 73 0 ((((6 : Int32) * ((τ54 8 0 40) - (1 : Int32))) + (5 : Int32)).toNatClampNeg) (f_X8_checked ((6 : Int32) * ((τ54 8 0 40) - (1 : Int32))) ((us (us (us (us (us (us τ54 8 0 40 ((τ54 8 0 40) - (1 : Int32))) 73 0 (((6 : Int32) * ((τ54 8 0 40) - (1 : Int32))).toNatClampNeg) (τ54 8 0 37)) 73 0 ((((6 : Int32) * ((τ54 8 0 40) - (1 : Int32))) + (1 : Int32)).toNatClampNeg) a) 73 0 ((((6 : Int32) * ((τ54 8 0 40) - (1 : Int32))) + (2 : Int32)).toNatClampNeg) t) 73 0 ((((6 : Int32) * ((τ54 8 0 40) - (1 : Int32))) + (3 : Int32)).toNatClampNeg) r) 73 0 ((((6 : Int32) * ((τ54 8 0 40) - (1 : Int32))) + (4 : Int32)).toNatClampNeg) v) 73 0 ((((6 : Int32) * ((τ54 8 0 40) - (1 : Int32))) - (1 : Int32)).toNatClampNeg)) (us (us (us (us (us (us τ54 8 0 40 ((τ54 8 0 40) - (1 : Int32))) 73 0 (((6 : Int32) * ((τ54 8 0 40) - (1 : Int32))).toNatClampNeg) (τ54 8 0 37)) 73 0 ((((6 : Int32) * ((τ54 8 0 40) - (1 : Int32))) + (1 : Int32)).toNatClampNeg) a) 73 0 ((((6 : Int32) * ((τ54 8 0 40) - (1 : Int32))) + (2 : Int32)).toNatClampNeg) t) 73 0 ((((6 : Int32) * ((τ54 8 0 40) - (1 : Int32))) + (3 : Int32)).toNatClampNeg) r) 73 0 ((((6 : Int32) * ((τ54 8 0 40) - (1 : Int32))) + (4 : Int32)).toNatClampNeg) v))) 8 0 40 (((τ54 8 0 40) - (1 : Int32)) + (1 : Int32))
def s_X8_log_L54 (a : Int32) (t : Int32) (r : Int32) (v : Int32) : Nat → Nat → Sg → Sg
  | 0, _, σ54 => σ54
  | n54 + 1, k54, σ54 => if 114 ≤ (nI k54) then σ54
    else s_X8_log_L54 a t r v n54 (k54 + 1) (us σ54 73 0 k54 (σ54 73 0 (k54 + 6)))
def s_X8_log (a : Int32) (t : Int32) (r : Int32) (v : Int32) (σ : Sg) : Sg :=
  if v = 0 then (if ((σ 8 0 38) &&& r) = 0 then σ
    else if (σ 8 0 40) = 20 then s_X8_log_K54 a t r v (s_X8_log_L54 a t r v 115 0 (us (us σ 8 0 42 (σ 73 0 5)) 8 0 41 ((σ 8 0 41) + (1 : Int32))))
    else if (σ 8 0 40) = 0 then us (us (us (us (us (us (us σ 73 0 (((6 : Int32) * (σ 8 0 40)).toNatClampNeg) (σ 8 0 37)) 73 0 ((((6 : Int32) * (σ 8 0 40)) + (1 : Int32)).toNatClampNeg) a) 73 0 ((((6 : Int32) * (σ 8 0 40)) + (2 : Int32)).toNatClampNeg) t) 73 0 ((((6 : Int32) * (σ 8 0 40)) + (3 : Int32)).toNatClampNeg) r) 73 0 ((((6 : Int32) * (σ 8 0 40)) + (4 : Int32)).toNatClampNeg) v) 73 0 ((((6 : Int32) * (σ 8 0 40)) + (5 : Int32)).toNatClampNeg) (f_X8_checked ((6 : Int32) * (σ 8 0 40)) (σ 8 0 42) (us (us (us (us (us σ 73 0 (((6 : Int32) * (σ 8 0 40)).toNatClampNeg) (σ 8 0 37)) 73 0 ((((6 : Int32) * (σ 8 0 40)) + (1 : Int32)).toNatClampNeg) a) 73 0 ((((6 : Int32) * (σ 8 0 40)) + (2 : Int32)).toNatClampNeg) t) 73 0 ((((6 : Int32) * (σ 8 0 40)) + (3 : Int32)).toNatClampNeg) r) 73 0 ((((6 : Int32) * (σ 8 0 40)) + (4 : Int32)).toNatClampNeg) v))) 8 0 40 ((σ 8 0 40) + (1 : Int32))
    else us (us (us (us (us (us (us σ 73 0 (((6 : Int32) * (σ 8 0 40)).toNatClampNeg) (σ 8 0 37)) 73 0 ((((6 : Int32) * (σ 8 0 40)) + (1 : Int32)).toNatClampNeg) a) 73 0 ((((6 : Int32) * (σ 8 0 40)) + (2 : Int32)).toNatClampNeg) t) 73 0 ((((6 : Int32) * (σ 8 0 40)) + (3 : Int32)).toNatClampNeg) r) 73 0 ((((6 : Int32) * (σ 8 0 40)) + (4 : Int32)).toNatClampNeg) v) 73 0 ((((6 : Int32) * (σ 8 0 40)) + (5 : Int32)).toNatClampNeg) (f_X8_checked ((6 : Int32) * (σ 8 0 40)) ((us (us (us (us (us σ 73 0 (((6 : Int32) * (σ 8 0 40)).toNatClampNeg) (σ 8 0 37)) 73 0 ((((6 : Int32) * (σ 8 0 40)) + (1 : Int32)).toNatClampNeg) a) 73 0 ((((6 : Int32) * (σ 8 0 40)) + (2 : Int32)).toNatClampNeg) t) 73 0 ((((6 : Int32) * (σ 8 0 40)) + (3 : Int32)).toNatClampNeg) r) 73 0 ((((6 : Int32) * (σ 8 0 40)) + (4 : Int32)).toNatClampNeg) v) 73 0 ((((6 : Int32) * (σ 8 0 40)) - (1 : Int32)).toNatClampNeg)) (us (us (us (us (us σ 73 0 (((6 : Int32) * (σ 8 0 40)).toNatClampNeg) (σ 8 0 37)) 73 0 ((((6 : Int32) * (σ 8 0 40)) + (1 : Int32)).toNatClampNeg) a) 73 0 ((((6 : Int32) * (σ 8 0 40)) + (2 : Int32)).toNatClampNeg) t) 73 0 ((((6 : Int32) * (σ 8 0 40)) + (3 : Int32)).toNatClampNeg) r) 73 0 ((((6 : Int32) * (σ 8 0 40)) + (4 : Int32)).toNatClampNeg) v))) 8 0 40 ((σ 8 0 40) + (1 : Int32)))
  else if ((σ 8 0 39) &&& r) = 0 then σ
  else if (σ 8 0 40) = 20 then s_X8_log_K54 a t r v (s_X8_log_L54 a t r v 115 0 (us (us σ 8 0 42 (σ 73 0 5)) 8 0 41 ((σ 8 0 41) + (1 : Int32))))
  else if (σ 8 0 40) = 0 then us (us (us (us (us (us (us σ 73 0 (((6 : Int32) * (σ 8 0 40)).toNatClampNeg) (σ 8 0 37)) 73 0 ((((6 : Int32) * (σ 8 0 40)) + (1 : Int32)).toNatClampNeg) a) 73 0 ((((6 : Int32) * (σ 8 0 40)) + (2 : Int32)).toNatClampNeg) t) 73 0 ((((6 : Int32) * (σ 8 0 40)) + (3 : Int32)).toNatClampNeg) r) 73 0 ((((6 : Int32) * (σ 8 0 40)) + (4 : Int32)).toNatClampNeg) v) 73 0 ((((6 : Int32) * (σ 8 0 40)) + (5 : Int32)).toNatClampNeg) (f_X8_checked ((6 : Int32) * (σ 8 0 40)) (σ 8 0 42) (us (us (us (us (us σ 73 0 (((6 : Int32) * (σ 8 0 40)).toNatClampNeg) (σ 8 0 37)) 73 0 ((((6 : Int32) * (σ 8 0 40)) + (1 : Int32)).toNatClampNeg) a) 73 0 ((((6 : Int32) * (σ 8 0 40)) + (2 : Int32)).toNatClampNeg) t) 73 0 ((((6 : Int32) * (σ 8 0 40)) + (3 : Int32)).toNatClampNeg) r) 73 0 ((((6 : Int32) * (σ 8 0 40)) + (4 : Int32)).toNatClampNeg) v))) 8 0 40 ((σ 8 0 40) + (1 : Int32))
  else us (us (us (us (us (us (us σ 73 0 (((6 : Int32) * (σ 8 0 40)).toNatClampNeg) (σ 8 0 37)) 73 0 ((((6 : Int32) * (σ 8 0 40)) + (1 : Int32)).toNatClampNeg) a) 73 0 ((((6 : Int32) * (σ 8 0 40)) + (2 : Int32)).toNatClampNeg) t) 73 0 ((((6 : Int32) * (σ 8 0 40)) + (3 : Int32)).toNatClampNeg) r) 73 0 ((((6 : Int32) * (σ 8 0 40)) + (4 : Int32)).toNatClampNeg) v) 73 0 ((((6 : Int32) * (σ 8 0 40)) + (5 : Int32)).toNatClampNeg) (f_X8_checked ((6 : Int32) * (σ 8 0 40)) ((us (us (us (us (us σ 73 0 (((6 : Int32) * (σ 8 0 40)).toNatClampNeg) (σ 8 0 37)) 73 0 ((((6 : Int32) * (σ 8 0 40)) + (1 : Int32)).toNatClampNeg) a) 73 0 ((((6 : Int32) * (σ 8 0 40)) + (2 : Int32)).toNatClampNeg) t) 73 0 ((((6 : Int32) * (σ 8 0 40)) + (3 : Int32)).toNatClampNeg) r) 73 0 ((((6 : Int32) * (σ 8 0 40)) + (4 : Int32)).toNatClampNeg) v) 73 0 ((((6 : Int32) * (σ 8 0 40)) - (1 : Int32)).toNatClampNeg)) (us (us (us (us (us σ 73 0 (((6 : Int32) * (σ 8 0 40)).toNatClampNeg) (σ 8 0 37)) 73 0 ((((6 : Int32) * (σ 8 0 40)) + (1 : Int32)).toNatClampNeg) a) 73 0 ((((6 : Int32) * (σ 8 0 40)) + (2 : Int32)).toNatClampNeg) t) 73 0 ((((6 : Int32) * (σ 8 0 40)) + (3 : Int32)).toNatClampNeg) r) 73 0 ((((6 : Int32) * (σ 8 0 40)) + (4 : Int32)).toNatClampNeg) v))) 8 0 40 ((σ 8 0 40) + (1 : Int32))
set_option maxHeartbeats 4000000 in
set_option maxRecDepth 100000 in
theorem c_X8_log (l : Launch) (hl9 : l.stackTraces = false) (D : va_G) (ca : Nat → ClassId) (base : Nat) (ad : Adr) (σ : Sg) (a : Int32) (t : Int32) (r : Int32) (v : Int32) (hM : MInv σ) : Mt l yX8_log cX8_log 6 none { frames := 1, cells := 0, slots := 0, locals := 24 } D ca base ad ρm Lm [.ref (ad 8 0), .int a, .int t, .int r, .int v] σ none (s_X8_log a t r v σ) := by
  refine w_ofW (by decide) (Nat.le_of_ble_eq_true rfl) rfl ?_
  intro p e s m args below meth c hC hW hS ls hl hin
  have hx := hC.1
  have hb := hC.2.1
  refine lv_iload hx hb dX8_log_0 (lv_at hl 4 rfl) ?_
  refine lv_if_ne (tgt := 12) hx hb dX8_log_2 (by decide) (fun c_1 => ?_) (fun c_1 => ?_)
  · refine lv_aload_n hx hb dX8_log_12 rfl (lv_at hl 0 rfl) ?_
    refine gf_X8_114 hC hW m_8 dX8_log_13 ?_
    refine lv_iload_n hx hb dX8_log_16 rfl (lv_at hl 3 rfl) ?_
    refine lv_iand hx hb dX8_log_17 ?_
    refine lv_if_ne (tgt := 22) hx hb dX8_log_18 (by decide) (fun c_2 => ?_) (fun c_2 => ?_)
    · refine lv_aload_n hx hb dX8_log_22 rfl (lv_at hl 0 rfl) ?_
      refine gf_X8_238 hC hW m_8 dX8_log_23 ?_
      refine lv_bipush (v := 20) hx hb dX8_log_26 (by decide) ?_
      refine lv_icmp_ne (tgt := 94) hx hb dX8_log_28 (by decide) (fun c_3 => ?_) (fun c_3 => ?_)
      · have hL : ∃ n : Nat, n < 20 ∧ σ 8 0 40 = nI n := lg_a hM (by assumption)
        refine lv_bipush (v := 6) hx hb dX8_log_94 (by decide) ?_
        refine lv_aload_n hx hb dX8_log_96 rfl (lv_at hl 0 rfl) ?_
        refine gf_X8_238 hC hW m_8 dX8_log_97 ?_
        refine lv_imul hx hb dX8_log_100 ?_
        refine lv_istore (lv' := [(5, .int ((6 : Int32) * (σ 8 0 40))), (0, .ref (ad 8 0)), (1, .int a), (2, .int t), (3, .int r), (4, .int v)]) hx hb dX8_log_101 hl (by decide) rfl (fun ls hl => ?_)
        refine lv_aload_n hx hb dX8_log_103 rfl (lv_at hl 1 rfl) ?_
        refine gf_X8_120 hC hW m_8 rfl dX8_log_104 ?_
        refine lv_iload hx hb dX8_log_107 (lv_at hl 0 rfl) ?_
        refine lv_aload_n hx hb dX8_log_109 rfl (lv_at hl 1 rfl) ?_
        refine gf_X8_223 hC hW m_8 dX8_log_110 ?_
        refine w_iast hC hW hS m_73 (n := 120) (fun _ => rfl) (rw_in0 hL) dX8_log_113 (fun H locs hW hS => ?_)
        refine lv_aload_n hx hb dX8_log_114 rfl (lv_at hl 1 rfl) ?_
        refine gf_X8_120 hC hW m_8 rfl dX8_log_115 ?_
        refine lv_iload hx hb dX8_log_118 (lv_at hl 0 rfl) ?_
        refine lv_iconst (v := 1) hx hb dX8_log_120 (by decide) ?_
        refine lv_iadd hx hb dX8_log_121 ?_
        refine lv_iload_n hx hb dX8_log_122 rfl (lv_at hl 2 rfl) ?_
        refine w_iast hC hW hS m_73 (n := 120) (fun _ => rfl) (rw_in (j := 1) hL rfl (by decide)) dX8_log_123 (fun H locs hW hS => ?_)
        refine lv_aload_n hx hb dX8_log_124 rfl (lv_at hl 1 rfl) ?_
        refine gf_X8_120 hC hW m_8 rfl dX8_log_125 ?_
        refine lv_iload hx hb dX8_log_128 (lv_at hl 0 rfl) ?_
        refine lv_iconst (v := 2) hx hb dX8_log_130 (by decide) ?_
        refine lv_iadd hx hb dX8_log_131 ?_
        refine lv_iload_n hx hb dX8_log_132 rfl (lv_at hl 3 rfl) ?_
        refine w_iast hC hW hS m_73 (n := 120) (fun _ => rfl) (rw_in (j := 2) hL rfl (by decide)) dX8_log_133 (fun H locs hW hS => ?_)
        refine lv_aload_n hx hb dX8_log_134 rfl (lv_at hl 1 rfl) ?_
        refine gf_X8_120 hC hW m_8 rfl dX8_log_135 ?_
        refine lv_iload hx hb dX8_log_138 (lv_at hl 0 rfl) ?_
        refine lv_iconst (v := 3) hx hb dX8_log_140 (by decide) ?_
        refine lv_iadd hx hb dX8_log_141 ?_
        refine lv_iload_n hx hb dX8_log_142 rfl (lv_at hl 4 rfl) ?_
        refine w_iast hC hW hS m_73 (n := 120) (fun _ => rfl) (rw_in (j := 3) hL rfl (by decide)) dX8_log_143 (fun H locs hW hS => ?_)
        refine lv_aload_n hx hb dX8_log_144 rfl (lv_at hl 1 rfl) ?_
        refine gf_X8_120 hC hW m_8 rfl dX8_log_145 ?_
        refine lv_iload hx hb dX8_log_148 (lv_at hl 0 rfl) ?_
        refine lv_iconst (v := 4) hx hb dX8_log_150 (by decide) ?_
        refine lv_iadd hx hb dX8_log_151 ?_
        refine lv_iload hx hb dX8_log_152 (lv_at hl 5 rfl) ?_
        refine w_iast hC hW hS m_73 (n := 120) (fun _ => rfl) (rw_in (j := 4) hL rfl (by decide)) dX8_log_154 (fun H locs hW hS => ?_)
        refine lv_aload_n hx hb dX8_log_155 rfl (lv_at hl 1 rfl) ?_
        refine gf_X8_120 hC hW m_8 rfl dX8_log_156 ?_
        refine lv_iload hx hb dX8_log_159 (lv_at hl 0 rfl) ?_
        refine lv_iconst (v := 5) hx hb dX8_log_161 (by decide) ?_
        refine lv_iadd hx hb dX8_log_162 ?_
        refine lv_aload_n hx hb dX8_log_163 rfl (lv_at hl 1 rfl) ?_
        refine gf_X8_120 hC hW m_8 rfl dX8_log_164 ?_
        refine lv_iload hx hb dX8_log_167 (lv_at hl 0 rfl) ?_
        refine lv_aload_n hx hb dX8_log_169 rfl (lv_at hl 1 rfl) ?_
        refine gf_X8_238 hC hW m_8 dX8_log_170 ?_
        refine lv_eqi (y := σ 8 0 40) (by rw [us_k (by decide), us_k (by decide), us_k (by decide), us_k (by decide), us_k (by decide)]) ?_
        refine lv_if_ne (tgt := 183) hx hb dX8_log_173 (by decide) (fun c_4 => ?_) (fun c_4 => ?_)
        · refine lv_aload_n hx hb dX8_log_183 rfl (lv_at hl 1 rfl) ?_
          refine gf_X8_120 hC hW m_8 rfl dX8_log_184 ?_
          refine lv_iload hx hb dX8_log_187 (lv_at hl 0 rfl) ?_
          refine lv_iconst (v := 1) hx hb dX8_log_189 (by decide) ?_
          refine lv_isub hx hb dX8_log_190 ?_
          refine w_iald hC hW m_73 (n := 120) rfl (rw_m hL (by assumption)) dX8_log_191 ?_
          refine w_callS (As := [.ref (ad 73 0), .int ((6 : Int32) * (σ 8 0 40)), .int ((us (us (us (us (us σ 73 0 (((6 : Int32) * (σ 8 0 40)).toNatClampNeg) (σ 8 0 37)) 73 0 ((((6 : Int32) * (σ 8 0 40)) + (1 : Int32)).toNatClampNeg) a) 73 0 ((((6 : Int32) * (σ 8 0 40)) + (2 : Int32)).toNatClampNeg) t) 73 0 ((((6 : Int32) * (σ 8 0 40)) + (3 : Int32)).toNatClampNeg) r) 73 0 ((((6 : Int32) * (σ 8 0 40)) + (4 : Int32)).toNatClampNeg) v) 73 0 ((((6 : Int32) * (σ 8 0 40)) - (1 : Int32)).toNatClampNeg))]) (rest := .int (((6 : Int32) * (σ 8 0 40)) + (5 : Int32)) :: .ref (ad 73 0) :: []) (st2 := .int (f_X8_checked ((6 : Int32) * (σ 8 0 40)) ((us (us (us (us (us σ 73 0 (((6 : Int32) * (σ 8 0 40)).toNatClampNeg) (σ 8 0 37)) 73 0 ((((6 : Int32) * (σ 8 0 40)) + (1 : Int32)).toNatClampNeg) a) 73 0 ((((6 : Int32) * (σ 8 0 40)) + (2 : Int32)).toNatClampNeg) t) 73 0 ((((6 : Int32) * (σ 8 0 40)) + (3 : Int32)).toNatClampNeg) r) 73 0 ((((6 : Int32) * (σ 8 0 40)) + (4 : Int32)).toNatClampNeg) v) 73 0 ((((6 : Int32) * (σ 8 0 40)) - (1 : Int32)).toNatClampNeg)) (us (us (us (us (us σ 73 0 (((6 : Int32) * (σ 8 0 40)).toNatClampNeg) (σ 8 0 37)) 73 0 ((((6 : Int32) * (σ 8 0 40)) + (1 : Int32)).toNatClampNeg) a) 73 0 ((((6 : Int32) * (σ 8 0 40)) + (2 : Int32)).toNatClampNeg) t) 73 0 ((((6 : Int32) * (σ 8 0 40)) + (3 : Int32)).toNatClampNeg) r) 73 0 ((((6 : Int32) * (σ 8 0 40)) + (4 : Int32)).toNatClampNeg) v)) :: .int (((6 : Int32) * (σ 8 0 40)) + (5 : Int32)) :: .ref (ad 73 0) :: []) hC hW hS hl cs_X8_244 (c_X8_checked l hl9 D ca base ad (us (us (us (us (us σ 73 0 (((6 : Int32) * (σ 8 0 40)).toNatClampNeg) (σ 8 0 37)) 73 0 ((((6 : Int32) * (σ 8 0 40)) + (1 : Int32)).toNatClampNeg) a) 73 0 ((((6 : Int32) * (σ 8 0 40)) + (2 : Int32)).toNatClampNeg) t) 73 0 ((((6 : Int32) * (σ 8 0 40)) + (3 : Int32)).toNatClampNeg) r) 73 0 ((((6 : Int32) * (σ 8 0 40)) + (4 : Int32)).toNatClampNeg) v) ((6 : Int32) * (σ 8 0 40)) ((us (us (us (us (us σ 73 0 (((6 : Int32) * (σ 8 0 40)).toNatClampNeg) (σ 8 0 37)) 73 0 ((((6 : Int32) * (σ 8 0 40)) + (1 : Int32)).toNatClampNeg) a) 73 0 ((((6 : Int32) * (σ 8 0 40)) + (2 : Int32)).toNatClampNeg) t) 73 0 ((((6 : Int32) * (σ 8 0 40)) + (3 : Int32)).toNatClampNeg) r) 73 0 ((((6 : Int32) * (σ 8 0 40)) + (4 : Int32)).toNatClampNeg) v) 73 0 ((((6 : Int32) * (σ 8 0 40)) - (1 : Int32)).toNatClampNeg)) (by obtain ⟨n9, h8, h9⟩ := hL; exact ⟨n9, h8, by rw [h9]⟩)) rfl rfl rfl ⟨Nat.le_of_ble_eq_true rfl, Nat.le_of_ble_eq_true rfl⟩ (Nat.le_of_ble_eq_true rfl) dX8_log_192 ⟨Nat.le_of_ble_eq_true rfl, Nat.le_of_ble_eq_true rfl⟩ (fun H locs hW hS => ?_)
          refine w_iast hC hW hS m_73 (n := 120) (fun _ => rfl) (rw_in (j := 5) hL rfl (by decide)) dX8_log_195 (fun H locs hW hS => ?_)
          refine lv_aload_n hx hb dX8_log_196 rfl (lv_at hl 1 rfl) ?_
          refine lv_dup hx hb dX8_log_197 rfl ?_
          refine gf_X8_238 hC hW m_8 dX8_log_198 ?_
          refine lv_eqi (y := σ 8 0 40) (by rw [us_k (by decide), us_k (by decide), us_k (by decide), us_k (by decide), us_k (by decide), us_k (by decide)]) ?_
          refine lv_iconst (v := 1) hx hb dX8_log_201 (by decide) ?_
          refine lv_iadd hx hb dX8_log_202 ?_
          refine pf_X8_238 hC hW m_8 hS dX8_log_203 (fun H locs hW hS => ?_)
          have hO : s_X8_log a t r v σ = us (us (us (us (us (us (us σ 73 0 (((6 : Int32) * (σ 8 0 40)).toNatClampNeg) (σ 8 0 37)) 73 0 ((((6 : Int32) * (σ 8 0 40)) + (1 : Int32)).toNatClampNeg) a) 73 0 ((((6 : Int32) * (σ 8 0 40)) + (2 : Int32)).toNatClampNeg) t) 73 0 ((((6 : Int32) * (σ 8 0 40)) + (3 : Int32)).toNatClampNeg) r) 73 0 ((((6 : Int32) * (σ 8 0 40)) + (4 : Int32)).toNatClampNeg) v) 73 0 ((((6 : Int32) * (σ 8 0 40)) + (5 : Int32)).toNatClampNeg) (f_X8_checked ((6 : Int32) * (σ 8 0 40)) ((us (us (us (us (us σ 73 0 (((6 : Int32) * (σ 8 0 40)).toNatClampNeg) (σ 8 0 37)) 73 0 ((((6 : Int32) * (σ 8 0 40)) + (1 : Int32)).toNatClampNeg) a) 73 0 ((((6 : Int32) * (σ 8 0 40)) + (2 : Int32)).toNatClampNeg) t) 73 0 ((((6 : Int32) * (σ 8 0 40)) + (3 : Int32)).toNatClampNeg) r) 73 0 ((((6 : Int32) * (σ 8 0 40)) + (4 : Int32)).toNatClampNeg) v) 73 0 ((((6 : Int32) * (σ 8 0 40)) - (1 : Int32)).toNatClampNeg)) (us (us (us (us (us σ 73 0 (((6 : Int32) * (σ 8 0 40)).toNatClampNeg) (σ 8 0 37)) 73 0 ((((6 : Int32) * (σ 8 0 40)) + (1 : Int32)).toNatClampNeg) a) 73 0 ((((6 : Int32) * (σ 8 0 40)) + (2 : Int32)).toNatClampNeg) t) 73 0 ((((6 : Int32) * (σ 8 0 40)) + (3 : Int32)).toNatClampNeg) r) 73 0 ((((6 : Int32) * (σ 8 0 40)) + (4 : Int32)).toNatClampNeg) v))) 8 0 40 ((σ 8 0 40) + (1 : Int32)) := by rw [s_X8_log, if_neg c_1, if_neg c_2, if_neg c_3, if_neg c_4]
          exact w_vretV hC hW hS hO (Nat.le_of_ble_eq_true rfl) (Nat.le_of_ble_eq_true rfl) dX8_log_206
        · refine lv_aload_n hx hb dX8_log_176 rfl (lv_at hl 1 rfl) ?_
          refine gf_X8_117 hC hW m_8 dX8_log_177 ?_
          refine lv_eqi (y := σ 8 0 42) (by rw [us_k (by decide), us_k (by decide), us_k (by decide), us_k (by decide), us_k (by decide)]) ?_
          refine lv_goto (tgt := 192) hx hb dX8_log_180 (by decide) ?_
          refine w_callS (As := [.ref (ad 73 0), .int ((6 : Int32) * (σ 8 0 40)), .int (σ 8 0 42)]) (rest := .int (((6 : Int32) * (σ 8 0 40)) + (5 : Int32)) :: .ref (ad 73 0) :: []) (st2 := .int (f_X8_checked ((6 : Int32) * (σ 8 0 40)) (σ 8 0 42) (us (us (us (us (us σ 73 0 (((6 : Int32) * (σ 8 0 40)).toNatClampNeg) (σ 8 0 37)) 73 0 ((((6 : Int32) * (σ 8 0 40)) + (1 : Int32)).toNatClampNeg) a) 73 0 ((((6 : Int32) * (σ 8 0 40)) + (2 : Int32)).toNatClampNeg) t) 73 0 ((((6 : Int32) * (σ 8 0 40)) + (3 : Int32)).toNatClampNeg) r) 73 0 ((((6 : Int32) * (σ 8 0 40)) + (4 : Int32)).toNatClampNeg) v)) :: .int (((6 : Int32) * (σ 8 0 40)) + (5 : Int32)) :: .ref (ad 73 0) :: []) hC hW hS hl cs_X8_244 (c_X8_checked l hl9 D ca base ad (us (us (us (us (us σ 73 0 (((6 : Int32) * (σ 8 0 40)).toNatClampNeg) (σ 8 0 37)) 73 0 ((((6 : Int32) * (σ 8 0 40)) + (1 : Int32)).toNatClampNeg) a) 73 0 ((((6 : Int32) * (σ 8 0 40)) + (2 : Int32)).toNatClampNeg) t) 73 0 ((((6 : Int32) * (σ 8 0 40)) + (3 : Int32)).toNatClampNeg) r) 73 0 ((((6 : Int32) * (σ 8 0 40)) + (4 : Int32)).toNatClampNeg) v) ((6 : Int32) * (σ 8 0 40)) (σ 8 0 42) (by obtain ⟨n9, h8, h9⟩ := hL; exact ⟨n9, h8, by rw [h9]⟩)) rfl rfl rfl ⟨Nat.le_of_ble_eq_true rfl, Nat.le_of_ble_eq_true rfl⟩ (Nat.le_of_ble_eq_true rfl) dX8_log_192 ⟨Nat.le_of_ble_eq_true rfl, Nat.le_of_ble_eq_true rfl⟩ (fun H locs hW hS => ?_)
          refine w_iast hC hW hS m_73 (n := 120) (fun _ => rfl) (rw_in (j := 5) hL rfl (by decide)) dX8_log_195 (fun H locs hW hS => ?_)
          refine lv_aload_n hx hb dX8_log_196 rfl (lv_at hl 1 rfl) ?_
          refine lv_dup hx hb dX8_log_197 rfl ?_
          refine gf_X8_238 hC hW m_8 dX8_log_198 ?_
          refine lv_eqi (y := σ 8 0 40) (by rw [us_k (by decide), us_k (by decide), us_k (by decide), us_k (by decide), us_k (by decide), us_k (by decide)]) ?_
          refine lv_iconst (v := 1) hx hb dX8_log_201 (by decide) ?_
          refine lv_iadd hx hb dX8_log_202 ?_
          refine pf_X8_238 hC hW m_8 hS dX8_log_203 (fun H locs hW hS => ?_)
          have hO : s_X8_log a t r v σ = us (us (us (us (us (us (us σ 73 0 (((6 : Int32) * (σ 8 0 40)).toNatClampNeg) (σ 8 0 37)) 73 0 ((((6 : Int32) * (σ 8 0 40)) + (1 : Int32)).toNatClampNeg) a) 73 0 ((((6 : Int32) * (σ 8 0 40)) + (2 : Int32)).toNatClampNeg) t) 73 0 ((((6 : Int32) * (σ 8 0 40)) + (3 : Int32)).toNatClampNeg) r) 73 0 ((((6 : Int32) * (σ 8 0 40)) + (4 : Int32)).toNatClampNeg) v) 73 0 ((((6 : Int32) * (σ 8 0 40)) + (5 : Int32)).toNatClampNeg) (f_X8_checked ((6 : Int32) * (σ 8 0 40)) (σ 8 0 42) (us (us (us (us (us σ 73 0 (((6 : Int32) * (σ 8 0 40)).toNatClampNeg) (σ 8 0 37)) 73 0 ((((6 : Int32) * (σ 8 0 40)) + (1 : Int32)).toNatClampNeg) a) 73 0 ((((6 : Int32) * (σ 8 0 40)) + (2 : Int32)).toNatClampNeg) t) 73 0 ((((6 : Int32) * (σ 8 0 40)) + (3 : Int32)).toNatClampNeg) r) 73 0 ((((6 : Int32) * (σ 8 0 40)) + (4 : Int32)).toNatClampNeg) v))) 8 0 40 ((σ 8 0 40) + (1 : Int32)) := by rw [s_X8_log, if_neg c_1, if_neg c_2, if_neg c_3, if_pos c_4]
          exact w_vretV hC hW hS hO (Nat.le_of_ble_eq_true rfl) (Nat.le_of_ble_eq_true rfl) dX8_log_206
      · refine lv_aload_n hx hb dX8_log_31 rfl (lv_at hl 0 rfl) ?_
        refine lv_aload_n hx hb dX8_log_32 rfl (lv_at hl 0 rfl) ?_
        refine gf_X8_120 hC hW m_8 rfl dX8_log_33 ?_
        refine lv_iconst (v := 5) hx hb dX8_log_36 (by decide) ?_
        refine w_iald hC hW m_73 (n := 120) rfl (vp_lit (by decide)) dX8_log_37 ?_
        refine lv_eqi (y := σ 73 0 5) (by rw [show Int32.toNatClampNeg 5 = 5 by decide]) ?_
        refine pf_X8_117 hC hW m_8 hS dX8_log_38 (fun H locs hW hS => ?_)
        refine lv_aload_n hx hb dX8_log_41 rfl (lv_at hl 0 rfl) ?_
        refine lv_dup hx hb dX8_log_42 rfl ?_
        refine gf_X8_241 hC hW m_8 dX8_log_43 ?_
        refine lv_eqi (y := σ 8 0 41) (by rw [us_j (by decide)]) ?_
        refine lv_iconst (v := 1) hx hb dX8_log_46 (by decide) ?_
        refine lv_iadd hx hb dX8_log_47 ?_
        refine pf_X8_241 hC hW m_8 hS dX8_log_48 (fun H locs hW hS => ?_)
        refine lv_iconst (v := 0) hx hb dX8_log_51 (by decide) ?_
        refine lv_istore (lv' := [(5, .int 0), (0, .ref (ad 8 0)), (1, .int a), (2, .int t), (3, .int r), (4, .int v)]) hx hb dX8_log_52 hl (by decide) rfl (fun ls hl => ?_)
        have h_54 : ∀ (n54 k54 : Nat) (σ54 : Sg) (H : Heap) (locs : List Loc) (ls : Array Slot), 115 ≤ k54 + n54 → k54 ≤ 114 → (σ54 8 = (us (us σ 8 0 42 (σ 73 0 5)) 8 0 41 ((σ 8 0 41) + (1 : Int32))) 8) → Wd D ca (Ab base) ad ρm Lm σ54 H → va_S (Ab base) s.heap H locs → lv_has ls 6 [(5, .int (nI k54)), (0, .ref (ad 8 0)), (1, .int a), (2, .int t), (3, .int r), (4, .int v)] → s_X8_log a t r v σ = (s_X8_log_K54 a t r v (s_X8_log_L54 a t r v n54 k54 σ54)) → W p l e ({ frames := 1, cells := 0, slots := 0, locals := 24 } : Room) s m args below meth c H locs 0 0 (MQ below (Rt D ca base ad ρm Lm (s_X8_log a t r v σ) none) args s 0 0 (Ab base)) (F0 m 54 ls []) := by
          intro n54
          induction n54 with
          | zero =>
            intro k54 σ54 H locs ls hk1_54 hk2_54 hk8_54 hW hS hl hO
            exact absurd hk1_54 (by omega)
          | succ n54 ih_54 =>
            intro k54 σ54 H locs ls hk1_54 hk2_54 hk8_54 hW hS hl hO
            refine lv_iload hx hb dX8_log_54 (lv_at hl 0 rfl) ?_
            refine lv_bipush (v := 114) hx hb dX8_log_56 (by decide) ?_
            refine lv_icmp_ge (tgt := 84) hx hb dX8_log_58 (by decide) (fun c_5 => ?_) (fun c_5 => ?_)
            · replace hl := lv_sub hl [1, 2, 3, 4, 5] (l' := [(0, .ref (ad 8 0)), (1, .int a), (2, .int t), (3, .int r), (4, .int v)]) rfl
              refine lv_aload_n hx hb dX8_log_84 rfl (lv_at hl 0 rfl) ?_
              refine lv_dup hx hb dX8_log_85 rfl ?_
              refine gf_X8_238 hC hW m_8 dX8_log_86 ?_
              refine lv_iconst (v := 1) hx hb dX8_log_89 (by decide) ?_
              refine lv_isub hx hb dX8_log_90 ?_
              refine pf_X8_238 hC hW m_8 hS dX8_log_91 (fun H locs hW hS => ?_)
              have hL : ∃ n : Nat, n < 20 ∧ (σ54 8 0 40) - (1 : Int32) = nI n := by
                have e9 : σ54 8 0 40 = 20 := by
                  rw [hk8_54, us_j (by decide), us_j (by decide)]
                  assumption
                exact ⟨19, by decide, by rw [e9]; decide⟩
              refine lv_bipush (v := 6) hx hb dX8_log_94 (by decide) ?_
              refine lv_aload_n hx hb dX8_log_96 rfl (lv_at hl 0 rfl) ?_
              refine gf_X8_238 hC hW m_8 dX8_log_97 ?_
              refine lv_eqi (y := (σ54 8 0 40) - (1 : Int32)) (by rw [us_h]) ?_
              refine lv_imul hx hb dX8_log_100 ?_
              refine lv_istore (lv' := [(5, .int ((6 : Int32) * ((σ54 8 0 40) - (1 : Int32)))), (0, .ref (ad 8 0)), (1, .int a), (2, .int t), (3, .int r), (4, .int v)]) hx hb dX8_log_101 hl (by decide) rfl (fun ls hl => ?_)
              refine lv_aload_n hx hb dX8_log_103 rfl (lv_at hl 1 rfl) ?_
              refine gf_X8_120 hC hW m_8 rfl dX8_log_104 ?_
              refine lv_iload hx hb dX8_log_107 (lv_at hl 0 rfl) ?_
              refine lv_aload_n hx hb dX8_log_109 rfl (lv_at hl 1 rfl) ?_
              refine gf_X8_223 hC hW m_8 dX8_log_110 ?_
              refine lv_eqi (y := σ54 8 0 37) (by rw [us_j (by decide)]) ?_
              refine w_iast hC hW hS m_73 (n := 120) (fun _ => rfl) (rw_in0 hL) dX8_log_113 (fun H locs hW hS => ?_)
              refine lv_aload_n hx hb dX8_log_114 rfl (lv_at hl 1 rfl) ?_
              refine gf_X8_120 hC hW m_8 rfl dX8_log_115 ?_
              refine lv_iload hx hb dX8_log_118 (lv_at hl 0 rfl) ?_
              refine lv_iconst (v := 1) hx hb dX8_log_120 (by decide) ?_
              refine lv_iadd hx hb dX8_log_121 ?_
              refine lv_iload_n hx hb dX8_log_122 rfl (lv_at hl 2 rfl) ?_
              refine w_iast hC hW hS m_73 (n := 120) (fun _ => rfl) (rw_in (j := 1) hL rfl (by decide)) dX8_log_123 (fun H locs hW hS => ?_)
              refine lv_aload_n hx hb dX8_log_124 rfl (lv_at hl 1 rfl) ?_
              refine gf_X8_120 hC hW m_8 rfl dX8_log_125 ?_
              refine lv_iload hx hb dX8_log_128 (lv_at hl 0 rfl) ?_
              refine lv_iconst (v := 2) hx hb dX8_log_130 (by decide) ?_
              refine lv_iadd hx hb dX8_log_131 ?_
              refine lv_iload_n hx hb dX8_log_132 rfl (lv_at hl 3 rfl) ?_
              refine w_iast hC hW hS m_73 (n := 120) (fun _ => rfl) (rw_in (j := 2) hL rfl (by decide)) dX8_log_133 (fun H locs hW hS => ?_)
              refine lv_aload_n hx hb dX8_log_134 rfl (lv_at hl 1 rfl) ?_
              refine gf_X8_120 hC hW m_8 rfl dX8_log_135 ?_
              refine lv_iload hx hb dX8_log_138 (lv_at hl 0 rfl) ?_
              refine lv_iconst (v := 3) hx hb dX8_log_140 (by decide) ?_
              refine lv_iadd hx hb dX8_log_141 ?_
              refine lv_iload_n hx hb dX8_log_142 rfl (lv_at hl 4 rfl) ?_
              refine w_iast hC hW hS m_73 (n := 120) (fun _ => rfl) (rw_in (j := 3) hL rfl (by decide)) dX8_log_143 (fun H locs hW hS => ?_)
              refine lv_aload_n hx hb dX8_log_144 rfl (lv_at hl 1 rfl) ?_
              refine gf_X8_120 hC hW m_8 rfl dX8_log_145 ?_
              refine lv_iload hx hb dX8_log_148 (lv_at hl 0 rfl) ?_
              refine lv_iconst (v := 4) hx hb dX8_log_150 (by decide) ?_
              refine lv_iadd hx hb dX8_log_151 ?_
              refine lv_iload hx hb dX8_log_152 (lv_at hl 5 rfl) ?_
              refine w_iast hC hW hS m_73 (n := 120) (fun _ => rfl) (rw_in (j := 4) hL rfl (by decide)) dX8_log_154 (fun H locs hW hS => ?_)
              refine lv_aload_n hx hb dX8_log_155 rfl (lv_at hl 1 rfl) ?_
              refine gf_X8_120 hC hW m_8 rfl dX8_log_156 ?_
              refine lv_iload hx hb dX8_log_159 (lv_at hl 0 rfl) ?_
              refine lv_iconst (v := 5) hx hb dX8_log_161 (by decide) ?_
              refine lv_iadd hx hb dX8_log_162 ?_
              refine lv_aload_n hx hb dX8_log_163 rfl (lv_at hl 1 rfl) ?_
              refine gf_X8_120 hC hW m_8 rfl dX8_log_164 ?_
              refine lv_iload hx hb dX8_log_167 (lv_at hl 0 rfl) ?_
              refine lv_aload_n hx hb dX8_log_169 rfl (lv_at hl 1 rfl) ?_
              refine gf_X8_238 hC hW m_8 dX8_log_170 ?_
              refine lv_eqi (y := (σ54 8 0 40) - (1 : Int32)) (by rw [us_k (by decide), us_k (by decide), us_k (by decide), us_k (by decide), us_k (by decide), us_h]) ?_
              refine lv_if_ne (tgt := 183) hx hb dX8_log_173 (by decide) (fun c_6 => ?_) (fun c_6 => ?_)
              · refine lv_aload_n hx hb dX8_log_183 rfl (lv_at hl 1 rfl) ?_
                refine gf_X8_120 hC hW m_8 rfl dX8_log_184 ?_
                refine lv_iload hx hb dX8_log_187 (lv_at hl 0 rfl) ?_
                refine lv_iconst (v := 1) hx hb dX8_log_189 (by decide) ?_
                refine lv_isub hx hb dX8_log_190 ?_
                refine w_iald hC hW m_73 (n := 120) rfl (rw_m hL (by assumption)) dX8_log_191 ?_
                refine w_callS (As := [.ref (ad 73 0), .int ((6 : Int32) * ((σ54 8 0 40) - (1 : Int32))), .int ((us (us (us (us (us (us σ54 8 0 40 ((σ54 8 0 40) - (1 : Int32))) 73 0 (((6 : Int32) * ((σ54 8 0 40) - (1 : Int32))).toNatClampNeg) (σ54 8 0 37)) 73 0 ((((6 : Int32) * ((σ54 8 0 40) - (1 : Int32))) + (1 : Int32)).toNatClampNeg) a) 73 0 ((((6 : Int32) * ((σ54 8 0 40) - (1 : Int32))) + (2 : Int32)).toNatClampNeg) t) 73 0 ((((6 : Int32) * ((σ54 8 0 40) - (1 : Int32))) + (3 : Int32)).toNatClampNeg) r) 73 0 ((((6 : Int32) * ((σ54 8 0 40) - (1 : Int32))) + (4 : Int32)).toNatClampNeg) v) 73 0 ((((6 : Int32) * ((σ54 8 0 40) - (1 : Int32))) - (1 : Int32)).toNatClampNeg))]) (rest := .int (((6 : Int32) * ((σ54 8 0 40) - (1 : Int32))) + (5 : Int32)) :: .ref (ad 73 0) :: []) (st2 := .int (f_X8_checked ((6 : Int32) * ((σ54 8 0 40) - (1 : Int32))) ((us (us (us (us (us (us σ54 8 0 40 ((σ54 8 0 40) - (1 : Int32))) 73 0 (((6 : Int32) * ((σ54 8 0 40) - (1 : Int32))).toNatClampNeg) (σ54 8 0 37)) 73 0 ((((6 : Int32) * ((σ54 8 0 40) - (1 : Int32))) + (1 : Int32)).toNatClampNeg) a) 73 0 ((((6 : Int32) * ((σ54 8 0 40) - (1 : Int32))) + (2 : Int32)).toNatClampNeg) t) 73 0 ((((6 : Int32) * ((σ54 8 0 40) - (1 : Int32))) + (3 : Int32)).toNatClampNeg) r) 73 0 ((((6 : Int32) * ((σ54 8 0 40) - (1 : Int32))) + (4 : Int32)).toNatClampNeg) v) 73 0 ((((6 : Int32) * ((σ54 8 0 40) - (1 : Int32))) - (1 : Int32)).toNatClampNeg)) (us (us (us (us (us (us σ54 8 0 40 ((σ54 8 0 40) - (1 : Int32))) 73 0 (((6 : Int32) * ((σ54 8 0 40) - (1 : Int32))).toNatClampNeg) (σ54 8 0 37)) 73 0 ((((6 : Int32) * ((σ54 8 0 40) - (1 : Int32))) + (1 : Int32)).toNatClampNeg) a) 73 0 ((((6 : Int32) * ((σ54 8 0 40) - (1 : Int32))) + (2 : Int32)).toNatClampNeg) t) 73 0 ((((6 : Int32) * ((σ54 8 0 40) - (1 : Int32))) + (3 : Int32)).toNatClampNeg) r) 73 0 ((((6 : Int32) * ((σ54 8 0 40) - (1 : Int32))) + (4 : Int32)).toNatClampNeg) v)) :: .int (((6 : Int32) * ((σ54 8 0 40) - (1 : Int32))) + (5 : Int32)) :: .ref (ad 73 0) :: []) hC hW hS hl cs_X8_244 (c_X8_checked l hl9 D ca base ad (us (us (us (us (us (us σ54 8 0 40 ((σ54 8 0 40) - (1 : Int32))) 73 0 (((6 : Int32) * ((σ54 8 0 40) - (1 : Int32))).toNatClampNeg) (σ54 8 0 37)) 73 0 ((((6 : Int32) * ((σ54 8 0 40) - (1 : Int32))) + (1 : Int32)).toNatClampNeg) a) 73 0 ((((6 : Int32) * ((σ54 8 0 40) - (1 : Int32))) + (2 : Int32)).toNatClampNeg) t) 73 0 ((((6 : Int32) * ((σ54 8 0 40) - (1 : Int32))) + (3 : Int32)).toNatClampNeg) r) 73 0 ((((6 : Int32) * ((σ54 8 0 40) - (1 : Int32))) + (4 : Int32)).toNatClampNeg) v) ((6 : Int32) * ((σ54 8 0 40) - (1 : Int32))) ((us (us (us (us (us (us σ54 8 0 40 ((σ54 8 0 40) - (1 : Int32))) 73 0 (((6 : Int32) * ((σ54 8 0 40) - (1 : Int32))).toNatClampNeg) (σ54 8 0 37)) 73 0 ((((6 : Int32) * ((σ54 8 0 40) - (1 : Int32))) + (1 : Int32)).toNatClampNeg) a) 73 0 ((((6 : Int32) * ((σ54 8 0 40) - (1 : Int32))) + (2 : Int32)).toNatClampNeg) t) 73 0 ((((6 : Int32) * ((σ54 8 0 40) - (1 : Int32))) + (3 : Int32)).toNatClampNeg) r) 73 0 ((((6 : Int32) * ((σ54 8 0 40) - (1 : Int32))) + (4 : Int32)).toNatClampNeg) v) 73 0 ((((6 : Int32) * ((σ54 8 0 40) - (1 : Int32))) - (1 : Int32)).toNatClampNeg)) (by obtain ⟨n9, h8, h9⟩ := hL; exact ⟨n9, h8, by rw [h9]⟩)) rfl rfl rfl ⟨Nat.le_of_ble_eq_true rfl, Nat.le_of_ble_eq_true rfl⟩ (Nat.le_of_ble_eq_true rfl) dX8_log_192 ⟨Nat.le_of_ble_eq_true rfl, Nat.le_of_ble_eq_true rfl⟩ (fun H locs hW hS => ?_)
                refine w_iast hC hW hS m_73 (n := 120) (fun _ => rfl) (rw_in (j := 5) hL rfl (by decide)) dX8_log_195 (fun H locs hW hS => ?_)
                refine lv_aload_n hx hb dX8_log_196 rfl (lv_at hl 1 rfl) ?_
                refine lv_dup hx hb dX8_log_197 rfl ?_
                refine gf_X8_238 hC hW m_8 dX8_log_198 ?_
                refine lv_eqi (y := (σ54 8 0 40) - (1 : Int32)) (by rw [us_k (by decide), us_k (by decide), us_k (by decide), us_k (by decide), us_k (by decide), us_k (by decide), us_h]) ?_
                refine lv_iconst (v := 1) hx hb dX8_log_201 (by decide) ?_
                refine lv_iadd hx hb dX8_log_202 ?_
                refine pf_X8_238 hC hW m_8 hS dX8_log_203 (fun H locs hW hS => ?_)
                have hO : s_X8_log a t r v σ = us (us (us (us (us (us (us (us σ54 8 0 40 ((σ54 8 0 40) - (1 : Int32))) 73 0 (((6 : Int32) * ((σ54 8 0 40) - (1 : Int32))).toNatClampNeg) (σ54 8 0 37)) 73 0 ((((6 : Int32) * ((σ54 8 0 40) - (1 : Int32))) + (1 : Int32)).toNatClampNeg) a) 73 0 ((((6 : Int32) * ((σ54 8 0 40) - (1 : Int32))) + (2 : Int32)).toNatClampNeg) t) 73 0 ((((6 : Int32) * ((σ54 8 0 40) - (1 : Int32))) + (3 : Int32)).toNatClampNeg) r) 73 0 ((((6 : Int32) * ((σ54 8 0 40) - (1 : Int32))) + (4 : Int32)).toNatClampNeg) v) 73 0 ((((6 : Int32) * ((σ54 8 0 40) - (1 : Int32))) + (5 : Int32)).toNatClampNeg) (f_X8_checked ((6 : Int32) * ((σ54 8 0 40) - (1 : Int32))) ((us (us (us (us (us (us σ54 8 0 40 ((σ54 8 0 40) - (1 : Int32))) 73 0 (((6 : Int32) * ((σ54 8 0 40) - (1 : Int32))).toNatClampNeg) (σ54 8 0 37)) 73 0 ((((6 : Int32) * ((σ54 8 0 40) - (1 : Int32))) + (1 : Int32)).toNatClampNeg) a) 73 0 ((((6 : Int32) * ((σ54 8 0 40) - (1 : Int32))) + (2 : Int32)).toNatClampNeg) t) 73 0 ((((6 : Int32) * ((σ54 8 0 40) - (1 : Int32))) + (3 : Int32)).toNatClampNeg) r) 73 0 ((((6 : Int32) * ((σ54 8 0 40) - (1 : Int32))) + (4 : Int32)).toNatClampNeg) v) 73 0 ((((6 : Int32) * ((σ54 8 0 40) - (1 : Int32))) - (1 : Int32)).toNatClampNeg)) (us (us (us (us (us (us σ54 8 0 40 ((σ54 8 0 40) - (1 : Int32))) 73 0 (((6 : Int32) * ((σ54 8 0 40) - (1 : Int32))).toNatClampNeg) (σ54 8 0 37)) 73 0 ((((6 : Int32) * ((σ54 8 0 40) - (1 : Int32))) + (1 : Int32)).toNatClampNeg) a) 73 0 ((((6 : Int32) * ((σ54 8 0 40) - (1 : Int32))) + (2 : Int32)).toNatClampNeg) t) 73 0 ((((6 : Int32) * ((σ54 8 0 40) - (1 : Int32))) + (3 : Int32)).toNatClampNeg) r) 73 0 ((((6 : Int32) * ((σ54 8 0 40) - (1 : Int32))) + (4 : Int32)).toNatClampNeg) v))) 8 0 40 (((σ54 8 0 40) - (1 : Int32)) + (1 : Int32)) := by rw [hO, s_X8_log_L54, if_pos c_5, s_X8_log_K54, if_neg c_6]
                exact w_vretV hC hW hS hO (Nat.le_of_ble_eq_true rfl) (Nat.le_of_ble_eq_true rfl) dX8_log_206
              · refine lv_aload_n hx hb dX8_log_176 rfl (lv_at hl 1 rfl) ?_
                refine gf_X8_117 hC hW m_8 dX8_log_177 ?_
                refine lv_eqi (y := σ54 8 0 42) (by rw [us_k (by decide), us_k (by decide), us_k (by decide), us_k (by decide), us_k (by decide), us_j (by decide)]) ?_
                refine lv_goto (tgt := 192) hx hb dX8_log_180 (by decide) ?_
                refine w_callS (As := [.ref (ad 73 0), .int ((6 : Int32) * ((σ54 8 0 40) - (1 : Int32))), .int (σ54 8 0 42)]) (rest := .int (((6 : Int32) * ((σ54 8 0 40) - (1 : Int32))) + (5 : Int32)) :: .ref (ad 73 0) :: []) (st2 := .int (f_X8_checked ((6 : Int32) * ((σ54 8 0 40) - (1 : Int32))) (σ54 8 0 42) (us (us (us (us (us (us σ54 8 0 40 ((σ54 8 0 40) - (1 : Int32))) 73 0 (((6 : Int32) * ((σ54 8 0 40) - (1 : Int32))).toNatClampNeg) (σ54 8 0 37)) 73 0 ((((6 : Int32) * ((σ54 8 0 40) - (1 : Int32))) + (1 : Int32)).toNatClampNeg) a) 73 0 ((((6 : Int32) * ((σ54 8 0 40) - (1 : Int32))) + (2 : Int32)).toNatClampNeg) t) 73 0 ((((6 : Int32) * ((σ54 8 0 40) - (1 : Int32))) + (3 : Int32)).toNatClampNeg) r) 73 0 ((((6 : Int32) * ((σ54 8 0 40) - (1 : Int32))) + (4 : Int32)).toNatClampNeg) v)) :: .int (((6 : Int32) * ((σ54 8 0 40) - (1 : Int32))) + (5 : Int32)) :: .ref (ad 73 0) :: []) hC hW hS hl cs_X8_244 (c_X8_checked l hl9 D ca base ad (us (us (us (us (us (us σ54 8 0 40 ((σ54 8 0 40) - (1 : Int32))) 73 0 (((6 : Int32) * ((σ54 8 0 40) - (1 : Int32))).toNatClampNeg) (σ54 8 0 37)) 73 0 ((((6 : Int32) * ((σ54 8 0 40) - (1 : Int32))) + (1 : Int32)).toNatClampNeg) a) 73 0 ((((6 : Int32) * ((σ54 8 0 40) - (1 : Int32))) + (2 : Int32)).toNatClampNeg) t) 73 0 ((((6 : Int32) * ((σ54 8 0 40) - (1 : Int32))) + (3 : Int32)).toNatClampNeg) r) 73 0 ((((6 : Int32) * ((σ54 8 0 40) - (1 : Int32))) + (4 : Int32)).toNatClampNeg) v) ((6 : Int32) * ((σ54 8 0 40) - (1 : Int32))) (σ54 8 0 42) (by obtain ⟨n9, h8, h9⟩ := hL; exact ⟨n9, h8, by rw [h9]⟩)) rfl rfl rfl ⟨Nat.le_of_ble_eq_true rfl, Nat.le_of_ble_eq_true rfl⟩ (Nat.le_of_ble_eq_true rfl) dX8_log_192 ⟨Nat.le_of_ble_eq_true rfl, Nat.le_of_ble_eq_true rfl⟩ (fun H locs hW hS => ?_)
                refine w_iast hC hW hS m_73 (n := 120) (fun _ => rfl) (rw_in (j := 5) hL rfl (by decide)) dX8_log_195 (fun H locs hW hS => ?_)
                refine lv_aload_n hx hb dX8_log_196 rfl (lv_at hl 1 rfl) ?_
                refine lv_dup hx hb dX8_log_197 rfl ?_
                refine gf_X8_238 hC hW m_8 dX8_log_198 ?_
                refine lv_eqi (y := (σ54 8 0 40) - (1 : Int32)) (by rw [us_k (by decide), us_k (by decide), us_k (by decide), us_k (by decide), us_k (by decide), us_k (by decide), us_h]) ?_
                refine lv_iconst (v := 1) hx hb dX8_log_201 (by decide) ?_
                refine lv_iadd hx hb dX8_log_202 ?_
                refine pf_X8_238 hC hW m_8 hS dX8_log_203 (fun H locs hW hS => ?_)
                have hO : s_X8_log a t r v σ = us (us (us (us (us (us (us (us σ54 8 0 40 ((σ54 8 0 40) - (1 : Int32))) 73 0 (((6 : Int32) * ((σ54 8 0 40) - (1 : Int32))).toNatClampNeg) (σ54 8 0 37)) 73 0 ((((6 : Int32) * ((σ54 8 0 40) - (1 : Int32))) + (1 : Int32)).toNatClampNeg) a) 73 0 ((((6 : Int32) * ((σ54 8 0 40) - (1 : Int32))) + (2 : Int32)).toNatClampNeg) t) 73 0 ((((6 : Int32) * ((σ54 8 0 40) - (1 : Int32))) + (3 : Int32)).toNatClampNeg) r) 73 0 ((((6 : Int32) * ((σ54 8 0 40) - (1 : Int32))) + (4 : Int32)).toNatClampNeg) v) 73 0 ((((6 : Int32) * ((σ54 8 0 40) - (1 : Int32))) + (5 : Int32)).toNatClampNeg) (f_X8_checked ((6 : Int32) * ((σ54 8 0 40) - (1 : Int32))) (σ54 8 0 42) (us (us (us (us (us (us σ54 8 0 40 ((σ54 8 0 40) - (1 : Int32))) 73 0 (((6 : Int32) * ((σ54 8 0 40) - (1 : Int32))).toNatClampNeg) (σ54 8 0 37)) 73 0 ((((6 : Int32) * ((σ54 8 0 40) - (1 : Int32))) + (1 : Int32)).toNatClampNeg) a) 73 0 ((((6 : Int32) * ((σ54 8 0 40) - (1 : Int32))) + (2 : Int32)).toNatClampNeg) t) 73 0 ((((6 : Int32) * ((σ54 8 0 40) - (1 : Int32))) + (3 : Int32)).toNatClampNeg) r) 73 0 ((((6 : Int32) * ((σ54 8 0 40) - (1 : Int32))) + (4 : Int32)).toNatClampNeg) v))) 8 0 40 (((σ54 8 0 40) - (1 : Int32)) + (1 : Int32)) := by rw [hO, s_X8_log_L54, if_pos c_5, s_X8_log_K54, if_pos c_6]
                exact w_vretV hC hW hS hO (Nat.le_of_ble_eq_true rfl) (Nat.le_of_ble_eq_true rfl) dX8_log_206
            · have hi_c_5 : k54 < 114 := idx_lt c_5 (by decide) (by decide) (by omega)
              refine lv_aload_n hx hb dX8_log_61 rfl (lv_at hl 1 rfl) ?_
              refine gf_X8_120 hC hW m_8 rfl dX8_log_62 ?_
              refine lv_iload hx hb dX8_log_65 (lv_at hl 0 rfl) ?_
              refine lv_aload_n hx hb dX8_log_67 rfl (lv_at hl 1 rfl) ?_
              refine gf_X8_120 hC hW m_8 rfl dX8_log_68 ?_
              refine lv_iload hx hb dX8_log_71 (lv_at hl 0 rfl) ?_
              refine lv_bipush (v := 6) hx hb dX8_log_73 (by decide) ?_
              refine lv_iadd hx hb dX8_log_75 ?_
              refine w_iald hC hW m_73 (n := 120) rfl (vp_in_addr (a := 6) (by decide) (by omega) (by omega)) dX8_log_76 ?_
              refine lv_eqi (y := σ54 73 0 (k54 + 6)) (by rw [cl_addr (a := 6) (by decide) (by omega)]) ?_
              refine w_iast hC hW hS m_73 (n := 120) (fun _ => rfl) (vp_in_nI (by omega) (by omega)) dX8_log_77 (fun H locs hW hS => ?_)
              rw [nI_clamp (by omega)] at hW
              refine lv_iinc (v := nI (k54 + 1)) (lv' := [(5, .int (nI (k54 + 1))), (0, .ref (ad 8 0)), (1, .int a), (2, .int t), (3, .int r), (4, .int v)]) hx hb dX8_log_78 hl (k := 0) rfl (nI_1 _) (by decide) rfl (fun ls hl => ?_)
              refine lv_goto (tgt := 54) hx hb dX8_log_81 (by decide) ?_
              refine ih_54 (k54 + 1) (us σ54 73 0 k54 (σ54 73 0 (k54 + 6))) _ _ _ (by omega) (by omega) (Eq.trans (show (us σ54 73 0 k54 (σ54 73 0 (k54 + 6))) 8 = σ54 8 from (by rw [us_kk (by decide)])) hk8_54) hW hS (lv_sub hl [0, 1, 2, 3, 4, 5] rfl) ?_
              rw [hO, s_X8_log_L54, if_neg c_5]
        refine h_54 115 0 (us (us σ 8 0 42 (σ 73 0 5)) 8 0 41 ((σ 8 0 41) + (1 : Int32))) _ _ _ (by omega) (by omega) rfl hW hS (lv_sub hl [0, 1, 2, 3, 4, 5] rfl) ?_
        rw [s_X8_log, if_neg c_1, if_neg c_2, if_pos c_3]
    · have hO : s_X8_log a t r v σ = σ := by rw [s_X8_log, if_neg c_1, if_pos c_2]
      exact w_vretV hC hW hS hO (Nat.le_of_ble_eq_true rfl) (Nat.le_of_ble_eq_true rfl) dX8_log_21
  · refine lv_aload_n hx hb dX8_log_5 rfl (lv_at hl 0 rfl) ?_
    refine gf_X8_110 hC hW m_8 dX8_log_6 ?_
    refine lv_goto (tgt := 16) hx hb dX8_log_9 (by decide) ?_
    refine lv_iload_n hx hb dX8_log_16 rfl (lv_at hl 3 rfl) ?_
    refine lv_iand hx hb dX8_log_17 ?_
    refine lv_if_ne (tgt := 22) hx hb dX8_log_18 (by decide) (fun c_7 => ?_) (fun c_7 => ?_)
    · refine lv_aload_n hx hb dX8_log_22 rfl (lv_at hl 0 rfl) ?_
      refine gf_X8_238 hC hW m_8 dX8_log_23 ?_
      refine lv_bipush (v := 20) hx hb dX8_log_26 (by decide) ?_
      refine lv_icmp_ne (tgt := 94) hx hb dX8_log_28 (by decide) (fun c_8 => ?_) (fun c_8 => ?_)
      · have hL : ∃ n : Nat, n < 20 ∧ σ 8 0 40 = nI n := lg_a hM (by assumption)
        refine lv_bipush (v := 6) hx hb dX8_log_94 (by decide) ?_
        refine lv_aload_n hx hb dX8_log_96 rfl (lv_at hl 0 rfl) ?_
        refine gf_X8_238 hC hW m_8 dX8_log_97 ?_
        refine lv_imul hx hb dX8_log_100 ?_
        refine lv_istore (lv' := [(5, .int ((6 : Int32) * (σ 8 0 40))), (0, .ref (ad 8 0)), (1, .int a), (2, .int t), (3, .int r), (4, .int v)]) hx hb dX8_log_101 hl (by decide) rfl (fun ls hl => ?_)
        refine lv_aload_n hx hb dX8_log_103 rfl (lv_at hl 1 rfl) ?_
        refine gf_X8_120 hC hW m_8 rfl dX8_log_104 ?_
        refine lv_iload hx hb dX8_log_107 (lv_at hl 0 rfl) ?_
        refine lv_aload_n hx hb dX8_log_109 rfl (lv_at hl 1 rfl) ?_
        refine gf_X8_223 hC hW m_8 dX8_log_110 ?_
        refine w_iast hC hW hS m_73 (n := 120) (fun _ => rfl) (rw_in0 hL) dX8_log_113 (fun H locs hW hS => ?_)
        refine lv_aload_n hx hb dX8_log_114 rfl (lv_at hl 1 rfl) ?_
        refine gf_X8_120 hC hW m_8 rfl dX8_log_115 ?_
        refine lv_iload hx hb dX8_log_118 (lv_at hl 0 rfl) ?_
        refine lv_iconst (v := 1) hx hb dX8_log_120 (by decide) ?_
        refine lv_iadd hx hb dX8_log_121 ?_
        refine lv_iload_n hx hb dX8_log_122 rfl (lv_at hl 2 rfl) ?_
        refine w_iast hC hW hS m_73 (n := 120) (fun _ => rfl) (rw_in (j := 1) hL rfl (by decide)) dX8_log_123 (fun H locs hW hS => ?_)
        refine lv_aload_n hx hb dX8_log_124 rfl (lv_at hl 1 rfl) ?_
        refine gf_X8_120 hC hW m_8 rfl dX8_log_125 ?_
        refine lv_iload hx hb dX8_log_128 (lv_at hl 0 rfl) ?_
        refine lv_iconst (v := 2) hx hb dX8_log_130 (by decide) ?_
        refine lv_iadd hx hb dX8_log_131 ?_
        refine lv_iload_n hx hb dX8_log_132 rfl (lv_at hl 3 rfl) ?_
        refine w_iast hC hW hS m_73 (n := 120) (fun _ => rfl) (rw_in (j := 2) hL rfl (by decide)) dX8_log_133 (fun H locs hW hS => ?_)
        refine lv_aload_n hx hb dX8_log_134 rfl (lv_at hl 1 rfl) ?_
        refine gf_X8_120 hC hW m_8 rfl dX8_log_135 ?_
        refine lv_iload hx hb dX8_log_138 (lv_at hl 0 rfl) ?_
        refine lv_iconst (v := 3) hx hb dX8_log_140 (by decide) ?_
        refine lv_iadd hx hb dX8_log_141 ?_
        refine lv_iload_n hx hb dX8_log_142 rfl (lv_at hl 4 rfl) ?_
        refine w_iast hC hW hS m_73 (n := 120) (fun _ => rfl) (rw_in (j := 3) hL rfl (by decide)) dX8_log_143 (fun H locs hW hS => ?_)
        refine lv_aload_n hx hb dX8_log_144 rfl (lv_at hl 1 rfl) ?_
        refine gf_X8_120 hC hW m_8 rfl dX8_log_145 ?_
        refine lv_iload hx hb dX8_log_148 (lv_at hl 0 rfl) ?_
        refine lv_iconst (v := 4) hx hb dX8_log_150 (by decide) ?_
        refine lv_iadd hx hb dX8_log_151 ?_
        refine lv_iload hx hb dX8_log_152 (lv_at hl 5 rfl) ?_
        refine w_iast hC hW hS m_73 (n := 120) (fun _ => rfl) (rw_in (j := 4) hL rfl (by decide)) dX8_log_154 (fun H locs hW hS => ?_)
        refine lv_aload_n hx hb dX8_log_155 rfl (lv_at hl 1 rfl) ?_
        refine gf_X8_120 hC hW m_8 rfl dX8_log_156 ?_
        refine lv_iload hx hb dX8_log_159 (lv_at hl 0 rfl) ?_
        refine lv_iconst (v := 5) hx hb dX8_log_161 (by decide) ?_
        refine lv_iadd hx hb dX8_log_162 ?_
        refine lv_aload_n hx hb dX8_log_163 rfl (lv_at hl 1 rfl) ?_
        refine gf_X8_120 hC hW m_8 rfl dX8_log_164 ?_
        refine lv_iload hx hb dX8_log_167 (lv_at hl 0 rfl) ?_
        refine lv_aload_n hx hb dX8_log_169 rfl (lv_at hl 1 rfl) ?_
        refine gf_X8_238 hC hW m_8 dX8_log_170 ?_
        refine lv_eqi (y := σ 8 0 40) (by rw [us_k (by decide), us_k (by decide), us_k (by decide), us_k (by decide), us_k (by decide)]) ?_
        refine lv_if_ne (tgt := 183) hx hb dX8_log_173 (by decide) (fun c_9 => ?_) (fun c_9 => ?_)
        · refine lv_aload_n hx hb dX8_log_183 rfl (lv_at hl 1 rfl) ?_
          refine gf_X8_120 hC hW m_8 rfl dX8_log_184 ?_
          refine lv_iload hx hb dX8_log_187 (lv_at hl 0 rfl) ?_
          refine lv_iconst (v := 1) hx hb dX8_log_189 (by decide) ?_
          refine lv_isub hx hb dX8_log_190 ?_
          refine w_iald hC hW m_73 (n := 120) rfl (rw_m hL (by assumption)) dX8_log_191 ?_
          refine w_callS (As := [.ref (ad 73 0), .int ((6 : Int32) * (σ 8 0 40)), .int ((us (us (us (us (us σ 73 0 (((6 : Int32) * (σ 8 0 40)).toNatClampNeg) (σ 8 0 37)) 73 0 ((((6 : Int32) * (σ 8 0 40)) + (1 : Int32)).toNatClampNeg) a) 73 0 ((((6 : Int32) * (σ 8 0 40)) + (2 : Int32)).toNatClampNeg) t) 73 0 ((((6 : Int32) * (σ 8 0 40)) + (3 : Int32)).toNatClampNeg) r) 73 0 ((((6 : Int32) * (σ 8 0 40)) + (4 : Int32)).toNatClampNeg) v) 73 0 ((((6 : Int32) * (σ 8 0 40)) - (1 : Int32)).toNatClampNeg))]) (rest := .int (((6 : Int32) * (σ 8 0 40)) + (5 : Int32)) :: .ref (ad 73 0) :: []) (st2 := .int (f_X8_checked ((6 : Int32) * (σ 8 0 40)) ((us (us (us (us (us σ 73 0 (((6 : Int32) * (σ 8 0 40)).toNatClampNeg) (σ 8 0 37)) 73 0 ((((6 : Int32) * (σ 8 0 40)) + (1 : Int32)).toNatClampNeg) a) 73 0 ((((6 : Int32) * (σ 8 0 40)) + (2 : Int32)).toNatClampNeg) t) 73 0 ((((6 : Int32) * (σ 8 0 40)) + (3 : Int32)).toNatClampNeg) r) 73 0 ((((6 : Int32) * (σ 8 0 40)) + (4 : Int32)).toNatClampNeg) v) 73 0 ((((6 : Int32) * (σ 8 0 40)) - (1 : Int32)).toNatClampNeg)) (us (us (us (us (us σ 73 0 (((6 : Int32) * (σ 8 0 40)).toNatClampNeg) (σ 8 0 37)) 73 0 ((((6 : Int32) * (σ 8 0 40)) + (1 : Int32)).toNatClampNeg) a) 73 0 ((((6 : Int32) * (σ 8 0 40)) + (2 : Int32)).toNatClampNeg) t) 73 0 ((((6 : Int32) * (σ 8 0 40)) + (3 : Int32)).toNatClampNeg) r) 73 0 ((((6 : Int32) * (σ 8 0 40)) + (4 : Int32)).toNatClampNeg) v)) :: .int (((6 : Int32) * (σ 8 0 40)) + (5 : Int32)) :: .ref (ad 73 0) :: []) hC hW hS hl cs_X8_244 (c_X8_checked l hl9 D ca base ad (us (us (us (us (us σ 73 0 (((6 : Int32) * (σ 8 0 40)).toNatClampNeg) (σ 8 0 37)) 73 0 ((((6 : Int32) * (σ 8 0 40)) + (1 : Int32)).toNatClampNeg) a) 73 0 ((((6 : Int32) * (σ 8 0 40)) + (2 : Int32)).toNatClampNeg) t) 73 0 ((((6 : Int32) * (σ 8 0 40)) + (3 : Int32)).toNatClampNeg) r) 73 0 ((((6 : Int32) * (σ 8 0 40)) + (4 : Int32)).toNatClampNeg) v) ((6 : Int32) * (σ 8 0 40)) ((us (us (us (us (us σ 73 0 (((6 : Int32) * (σ 8 0 40)).toNatClampNeg) (σ 8 0 37)) 73 0 ((((6 : Int32) * (σ 8 0 40)) + (1 : Int32)).toNatClampNeg) a) 73 0 ((((6 : Int32) * (σ 8 0 40)) + (2 : Int32)).toNatClampNeg) t) 73 0 ((((6 : Int32) * (σ 8 0 40)) + (3 : Int32)).toNatClampNeg) r) 73 0 ((((6 : Int32) * (σ 8 0 40)) + (4 : Int32)).toNatClampNeg) v) 73 0 ((((6 : Int32) * (σ 8 0 40)) - (1 : Int32)).toNatClampNeg)) (by obtain ⟨n9, h8, h9⟩ := hL; exact ⟨n9, h8, by rw [h9]⟩)) rfl rfl rfl ⟨Nat.le_of_ble_eq_true rfl, Nat.le_of_ble_eq_true rfl⟩ (Nat.le_of_ble_eq_true rfl) dX8_log_192 ⟨Nat.le_of_ble_eq_true rfl, Nat.le_of_ble_eq_true rfl⟩ (fun H locs hW hS => ?_)
          refine w_iast hC hW hS m_73 (n := 120) (fun _ => rfl) (rw_in (j := 5) hL rfl (by decide)) dX8_log_195 (fun H locs hW hS => ?_)
          refine lv_aload_n hx hb dX8_log_196 rfl (lv_at hl 1 rfl) ?_
          refine lv_dup hx hb dX8_log_197 rfl ?_
          refine gf_X8_238 hC hW m_8 dX8_log_198 ?_
          refine lv_eqi (y := σ 8 0 40) (by rw [us_k (by decide), us_k (by decide), us_k (by decide), us_k (by decide), us_k (by decide), us_k (by decide)]) ?_
          refine lv_iconst (v := 1) hx hb dX8_log_201 (by decide) ?_
          refine lv_iadd hx hb dX8_log_202 ?_
          refine pf_X8_238 hC hW m_8 hS dX8_log_203 (fun H locs hW hS => ?_)
          have hO : s_X8_log a t r v σ = us (us (us (us (us (us (us σ 73 0 (((6 : Int32) * (σ 8 0 40)).toNatClampNeg) (σ 8 0 37)) 73 0 ((((6 : Int32) * (σ 8 0 40)) + (1 : Int32)).toNatClampNeg) a) 73 0 ((((6 : Int32) * (σ 8 0 40)) + (2 : Int32)).toNatClampNeg) t) 73 0 ((((6 : Int32) * (σ 8 0 40)) + (3 : Int32)).toNatClampNeg) r) 73 0 ((((6 : Int32) * (σ 8 0 40)) + (4 : Int32)).toNatClampNeg) v) 73 0 ((((6 : Int32) * (σ 8 0 40)) + (5 : Int32)).toNatClampNeg) (f_X8_checked ((6 : Int32) * (σ 8 0 40)) ((us (us (us (us (us σ 73 0 (((6 : Int32) * (σ 8 0 40)).toNatClampNeg) (σ 8 0 37)) 73 0 ((((6 : Int32) * (σ 8 0 40)) + (1 : Int32)).toNatClampNeg) a) 73 0 ((((6 : Int32) * (σ 8 0 40)) + (2 : Int32)).toNatClampNeg) t) 73 0 ((((6 : Int32) * (σ 8 0 40)) + (3 : Int32)).toNatClampNeg) r) 73 0 ((((6 : Int32) * (σ 8 0 40)) + (4 : Int32)).toNatClampNeg) v) 73 0 ((((6 : Int32) * (σ 8 0 40)) - (1 : Int32)).toNatClampNeg)) (us (us (us (us (us σ 73 0 (((6 : Int32) * (σ 8 0 40)).toNatClampNeg) (σ 8 0 37)) 73 0 ((((6 : Int32) * (σ 8 0 40)) + (1 : Int32)).toNatClampNeg) a) 73 0 ((((6 : Int32) * (σ 8 0 40)) + (2 : Int32)).toNatClampNeg) t) 73 0 ((((6 : Int32) * (σ 8 0 40)) + (3 : Int32)).toNatClampNeg) r) 73 0 ((((6 : Int32) * (σ 8 0 40)) + (4 : Int32)).toNatClampNeg) v))) 8 0 40 ((σ 8 0 40) + (1 : Int32)) := by rw [s_X8_log, if_pos c_1, if_neg c_7, if_neg c_8, if_neg c_9]
          exact w_vretV hC hW hS hO (Nat.le_of_ble_eq_true rfl) (Nat.le_of_ble_eq_true rfl) dX8_log_206
        · refine lv_aload_n hx hb dX8_log_176 rfl (lv_at hl 1 rfl) ?_
          refine gf_X8_117 hC hW m_8 dX8_log_177 ?_
          refine lv_eqi (y := σ 8 0 42) (by rw [us_k (by decide), us_k (by decide), us_k (by decide), us_k (by decide), us_k (by decide)]) ?_
          refine lv_goto (tgt := 192) hx hb dX8_log_180 (by decide) ?_
          refine w_callS (As := [.ref (ad 73 0), .int ((6 : Int32) * (σ 8 0 40)), .int (σ 8 0 42)]) (rest := .int (((6 : Int32) * (σ 8 0 40)) + (5 : Int32)) :: .ref (ad 73 0) :: []) (st2 := .int (f_X8_checked ((6 : Int32) * (σ 8 0 40)) (σ 8 0 42) (us (us (us (us (us σ 73 0 (((6 : Int32) * (σ 8 0 40)).toNatClampNeg) (σ 8 0 37)) 73 0 ((((6 : Int32) * (σ 8 0 40)) + (1 : Int32)).toNatClampNeg) a) 73 0 ((((6 : Int32) * (σ 8 0 40)) + (2 : Int32)).toNatClampNeg) t) 73 0 ((((6 : Int32) * (σ 8 0 40)) + (3 : Int32)).toNatClampNeg) r) 73 0 ((((6 : Int32) * (σ 8 0 40)) + (4 : Int32)).toNatClampNeg) v)) :: .int (((6 : Int32) * (σ 8 0 40)) + (5 : Int32)) :: .ref (ad 73 0) :: []) hC hW hS hl cs_X8_244 (c_X8_checked l hl9 D ca base ad (us (us (us (us (us σ 73 0 (((6 : Int32) * (σ 8 0 40)).toNatClampNeg) (σ 8 0 37)) 73 0 ((((6 : Int32) * (σ 8 0 40)) + (1 : Int32)).toNatClampNeg) a) 73 0 ((((6 : Int32) * (σ 8 0 40)) + (2 : Int32)).toNatClampNeg) t) 73 0 ((((6 : Int32) * (σ 8 0 40)) + (3 : Int32)).toNatClampNeg) r) 73 0 ((((6 : Int32) * (σ 8 0 40)) + (4 : Int32)).toNatClampNeg) v) ((6 : Int32) * (σ 8 0 40)) (σ 8 0 42) (by obtain ⟨n9, h8, h9⟩ := hL; exact ⟨n9, h8, by rw [h9]⟩)) rfl rfl rfl ⟨Nat.le_of_ble_eq_true rfl, Nat.le_of_ble_eq_true rfl⟩ (Nat.le_of_ble_eq_true rfl) dX8_log_192 ⟨Nat.le_of_ble_eq_true rfl, Nat.le_of_ble_eq_true rfl⟩ (fun H locs hW hS => ?_)
          refine w_iast hC hW hS m_73 (n := 120) (fun _ => rfl) (rw_in (j := 5) hL rfl (by decide)) dX8_log_195 (fun H locs hW hS => ?_)
          refine lv_aload_n hx hb dX8_log_196 rfl (lv_at hl 1 rfl) ?_
          refine lv_dup hx hb dX8_log_197 rfl ?_
          refine gf_X8_238 hC hW m_8 dX8_log_198 ?_
          refine lv_eqi (y := σ 8 0 40) (by rw [us_k (by decide), us_k (by decide), us_k (by decide), us_k (by decide), us_k (by decide), us_k (by decide)]) ?_
          refine lv_iconst (v := 1) hx hb dX8_log_201 (by decide) ?_
          refine lv_iadd hx hb dX8_log_202 ?_
          refine pf_X8_238 hC hW m_8 hS dX8_log_203 (fun H locs hW hS => ?_)
          have hO : s_X8_log a t r v σ = us (us (us (us (us (us (us σ 73 0 (((6 : Int32) * (σ 8 0 40)).toNatClampNeg) (σ 8 0 37)) 73 0 ((((6 : Int32) * (σ 8 0 40)) + (1 : Int32)).toNatClampNeg) a) 73 0 ((((6 : Int32) * (σ 8 0 40)) + (2 : Int32)).toNatClampNeg) t) 73 0 ((((6 : Int32) * (σ 8 0 40)) + (3 : Int32)).toNatClampNeg) r) 73 0 ((((6 : Int32) * (σ 8 0 40)) + (4 : Int32)).toNatClampNeg) v) 73 0 ((((6 : Int32) * (σ 8 0 40)) + (5 : Int32)).toNatClampNeg) (f_X8_checked ((6 : Int32) * (σ 8 0 40)) (σ 8 0 42) (us (us (us (us (us σ 73 0 (((6 : Int32) * (σ 8 0 40)).toNatClampNeg) (σ 8 0 37)) 73 0 ((((6 : Int32) * (σ 8 0 40)) + (1 : Int32)).toNatClampNeg) a) 73 0 ((((6 : Int32) * (σ 8 0 40)) + (2 : Int32)).toNatClampNeg) t) 73 0 ((((6 : Int32) * (σ 8 0 40)) + (3 : Int32)).toNatClampNeg) r) 73 0 ((((6 : Int32) * (σ 8 0 40)) + (4 : Int32)).toNatClampNeg) v))) 8 0 40 ((σ 8 0 40) + (1 : Int32)) := by rw [s_X8_log, if_pos c_1, if_neg c_7, if_neg c_8, if_pos c_9]
          exact w_vretV hC hW hS hO (Nat.le_of_ble_eq_true rfl) (Nat.le_of_ble_eq_true rfl) dX8_log_206
      · refine lv_aload_n hx hb dX8_log_31 rfl (lv_at hl 0 rfl) ?_
        refine lv_aload_n hx hb dX8_log_32 rfl (lv_at hl 0 rfl) ?_
        refine gf_X8_120 hC hW m_8 rfl dX8_log_33 ?_
        refine lv_iconst (v := 5) hx hb dX8_log_36 (by decide) ?_
        refine w_iald hC hW m_73 (n := 120) rfl (vp_lit (by decide)) dX8_log_37 ?_
        refine lv_eqi (y := σ 73 0 5) (by rw [show Int32.toNatClampNeg 5 = 5 by decide]) ?_
        refine pf_X8_117 hC hW m_8 hS dX8_log_38 (fun H locs hW hS => ?_)
        refine lv_aload_n hx hb dX8_log_41 rfl (lv_at hl 0 rfl) ?_
        refine lv_dup hx hb dX8_log_42 rfl ?_
        refine gf_X8_241 hC hW m_8 dX8_log_43 ?_
        refine lv_eqi (y := σ 8 0 41) (by rw [us_j (by decide)]) ?_
        refine lv_iconst (v := 1) hx hb dX8_log_46 (by decide) ?_
        refine lv_iadd hx hb dX8_log_47 ?_
        refine pf_X8_241 hC hW m_8 hS dX8_log_48 (fun H locs hW hS => ?_)
        refine lv_iconst (v := 0) hx hb dX8_log_51 (by decide) ?_
        refine lv_istore (lv' := [(5, .int 0), (0, .ref (ad 8 0)), (1, .int a), (2, .int t), (3, .int r), (4, .int v)]) hx hb dX8_log_52 hl (by decide) rfl (fun ls hl => ?_)
        have h_54 : ∀ (n54 k54 : Nat) (σ54 : Sg) (H : Heap) (locs : List Loc) (ls : Array Slot), 115 ≤ k54 + n54 → k54 ≤ 114 → (σ54 8 = (us (us σ 8 0 42 (σ 73 0 5)) 8 0 41 ((σ 8 0 41) + (1 : Int32))) 8) → Wd D ca (Ab base) ad ρm Lm σ54 H → va_S (Ab base) s.heap H locs → lv_has ls 6 [(5, .int (nI k54)), (0, .ref (ad 8 0)), (1, .int a), (2, .int t), (3, .int r), (4, .int v)] → s_X8_log a t r v σ = (s_X8_log_K54 a t r v (s_X8_log_L54 a t r v n54 k54 σ54)) → W p l e ({ frames := 1, cells := 0, slots := 0, locals := 24 } : Room) s m args below meth c H locs 0 0 (MQ below (Rt D ca base ad ρm Lm (s_X8_log a t r v σ) none) args s 0 0 (Ab base)) (F0 m 54 ls []) := by
          intro n54
          induction n54 with
          | zero =>
            intro k54 σ54 H locs ls hk1_54 hk2_54 hk8_54 hW hS hl hO
            exact absurd hk1_54 (by omega)
          | succ n54 ih_54 =>
            intro k54 σ54 H locs ls hk1_54 hk2_54 hk8_54 hW hS hl hO
            refine lv_iload hx hb dX8_log_54 (lv_at hl 0 rfl) ?_
            refine lv_bipush (v := 114) hx hb dX8_log_56 (by decide) ?_
            refine lv_icmp_ge (tgt := 84) hx hb dX8_log_58 (by decide) (fun c_10 => ?_) (fun c_10 => ?_)
            · replace hl := lv_sub hl [1, 2, 3, 4, 5] (l' := [(0, .ref (ad 8 0)), (1, .int a), (2, .int t), (3, .int r), (4, .int v)]) rfl
              refine lv_aload_n hx hb dX8_log_84 rfl (lv_at hl 0 rfl) ?_
              refine lv_dup hx hb dX8_log_85 rfl ?_
              refine gf_X8_238 hC hW m_8 dX8_log_86 ?_
              refine lv_iconst (v := 1) hx hb dX8_log_89 (by decide) ?_
              refine lv_isub hx hb dX8_log_90 ?_
              refine pf_X8_238 hC hW m_8 hS dX8_log_91 (fun H locs hW hS => ?_)
              have hL : ∃ n : Nat, n < 20 ∧ (σ54 8 0 40) - (1 : Int32) = nI n := by
                have e9 : σ54 8 0 40 = 20 := by
                  rw [hk8_54, us_j (by decide), us_j (by decide)]
                  assumption
                exact ⟨19, by decide, by rw [e9]; decide⟩
              refine lv_bipush (v := 6) hx hb dX8_log_94 (by decide) ?_
              refine lv_aload_n hx hb dX8_log_96 rfl (lv_at hl 0 rfl) ?_
              refine gf_X8_238 hC hW m_8 dX8_log_97 ?_
              refine lv_eqi (y := (σ54 8 0 40) - (1 : Int32)) (by rw [us_h]) ?_
              refine lv_imul hx hb dX8_log_100 ?_
              refine lv_istore (lv' := [(5, .int ((6 : Int32) * ((σ54 8 0 40) - (1 : Int32)))), (0, .ref (ad 8 0)), (1, .int a), (2, .int t), (3, .int r), (4, .int v)]) hx hb dX8_log_101 hl (by decide) rfl (fun ls hl => ?_)
              refine lv_aload_n hx hb dX8_log_103 rfl (lv_at hl 1 rfl) ?_
              refine gf_X8_120 hC hW m_8 rfl dX8_log_104 ?_
              refine lv_iload hx hb dX8_log_107 (lv_at hl 0 rfl) ?_
              refine lv_aload_n hx hb dX8_log_109 rfl (lv_at hl 1 rfl) ?_
              refine gf_X8_223 hC hW m_8 dX8_log_110 ?_
              refine lv_eqi (y := σ54 8 0 37) (by rw [us_j (by decide)]) ?_
              refine w_iast hC hW hS m_73 (n := 120) (fun _ => rfl) (rw_in0 hL) dX8_log_113 (fun H locs hW hS => ?_)
              refine lv_aload_n hx hb dX8_log_114 rfl (lv_at hl 1 rfl) ?_
              refine gf_X8_120 hC hW m_8 rfl dX8_log_115 ?_
              refine lv_iload hx hb dX8_log_118 (lv_at hl 0 rfl) ?_
              refine lv_iconst (v := 1) hx hb dX8_log_120 (by decide) ?_
              refine lv_iadd hx hb dX8_log_121 ?_
              refine lv_iload_n hx hb dX8_log_122 rfl (lv_at hl 2 rfl) ?_
              refine w_iast hC hW hS m_73 (n := 120) (fun _ => rfl) (rw_in (j := 1) hL rfl (by decide)) dX8_log_123 (fun H locs hW hS => ?_)
              refine lv_aload_n hx hb dX8_log_124 rfl (lv_at hl 1 rfl) ?_
              refine gf_X8_120 hC hW m_8 rfl dX8_log_125 ?_
              refine lv_iload hx hb dX8_log_128 (lv_at hl 0 rfl) ?_
              refine lv_iconst (v := 2) hx hb dX8_log_130 (by decide) ?_
              refine lv_iadd hx hb dX8_log_131 ?_
              refine lv_iload_n hx hb dX8_log_132 rfl (lv_at hl 3 rfl) ?_
              refine w_iast hC hW hS m_73 (n := 120) (fun _ => rfl) (rw_in (j := 2) hL rfl (by decide)) dX8_log_133 (fun H locs hW hS => ?_)
              refine lv_aload_n hx hb dX8_log_134 rfl (lv_at hl 1 rfl) ?_
              refine gf_X8_120 hC hW m_8 rfl dX8_log_135 ?_
              refine lv_iload hx hb dX8_log_138 (lv_at hl 0 rfl) ?_
              refine lv_iconst (v := 3) hx hb dX8_log_140 (by decide) ?_
              refine lv_iadd hx hb dX8_log_141 ?_
              refine lv_iload_n hx hb dX8_log_142 rfl (lv_at hl 4 rfl) ?_
              refine w_iast hC hW hS m_73 (n := 120) (fun _ => rfl) (rw_in (j := 3) hL rfl (by decide)) dX8_log_143 (fun H locs hW hS => ?_)
              refine lv_aload_n hx hb dX8_log_144 rfl (lv_at hl 1 rfl) ?_
              refine gf_X8_120 hC hW m_8 rfl dX8_log_145 ?_
              refine lv_iload hx hb dX8_log_148 (lv_at hl 0 rfl) ?_
              refine lv_iconst (v := 4) hx hb dX8_log_150 (by decide) ?_
              refine lv_iadd hx hb dX8_log_151 ?_
              refine lv_iload hx hb dX8_log_152 (lv_at hl 5 rfl) ?_
              refine w_iast hC hW hS m_73 (n := 120) (fun _ => rfl) (rw_in (j := 4) hL rfl (by decide)) dX8_log_154 (fun H locs hW hS => ?_)
              refine lv_aload_n hx hb dX8_log_155 rfl (lv_at hl 1 rfl) ?_
              refine gf_X8_120 hC hW m_8 rfl dX8_log_156 ?_
              refine lv_iload hx hb dX8_log_159 (lv_at hl 0 rfl) ?_
              refine lv_iconst (v := 5) hx hb dX8_log_161 (by decide) ?_
              refine lv_iadd hx hb dX8_log_162 ?_
              refine lv_aload_n hx hb dX8_log_163 rfl (lv_at hl 1 rfl) ?_
              refine gf_X8_120 hC hW m_8 rfl dX8_log_164 ?_
              refine lv_iload hx hb dX8_log_167 (lv_at hl 0 rfl) ?_
              refine lv_aload_n hx hb dX8_log_169 rfl (lv_at hl 1 rfl) ?_
              refine gf_X8_238 hC hW m_8 dX8_log_170 ?_
              refine lv_eqi (y := (σ54 8 0 40) - (1 : Int32)) (by rw [us_k (by decide), us_k (by decide), us_k (by decide), us_k (by decide), us_k (by decide), us_h]) ?_
              refine lv_if_ne (tgt := 183) hx hb dX8_log_173 (by decide) (fun c_11 => ?_) (fun c_11 => ?_)
              · refine lv_aload_n hx hb dX8_log_183 rfl (lv_at hl 1 rfl) ?_
                refine gf_X8_120 hC hW m_8 rfl dX8_log_184 ?_
                refine lv_iload hx hb dX8_log_187 (lv_at hl 0 rfl) ?_
                refine lv_iconst (v := 1) hx hb dX8_log_189 (by decide) ?_
                refine lv_isub hx hb dX8_log_190 ?_
                refine w_iald hC hW m_73 (n := 120) rfl (rw_m hL (by assumption)) dX8_log_191 ?_
                refine w_callS (As := [.ref (ad 73 0), .int ((6 : Int32) * ((σ54 8 0 40) - (1 : Int32))), .int ((us (us (us (us (us (us σ54 8 0 40 ((σ54 8 0 40) - (1 : Int32))) 73 0 (((6 : Int32) * ((σ54 8 0 40) - (1 : Int32))).toNatClampNeg) (σ54 8 0 37)) 73 0 ((((6 : Int32) * ((σ54 8 0 40) - (1 : Int32))) + (1 : Int32)).toNatClampNeg) a) 73 0 ((((6 : Int32) * ((σ54 8 0 40) - (1 : Int32))) + (2 : Int32)).toNatClampNeg) t) 73 0 ((((6 : Int32) * ((σ54 8 0 40) - (1 : Int32))) + (3 : Int32)).toNatClampNeg) r) 73 0 ((((6 : Int32) * ((σ54 8 0 40) - (1 : Int32))) + (4 : Int32)).toNatClampNeg) v) 73 0 ((((6 : Int32) * ((σ54 8 0 40) - (1 : Int32))) - (1 : Int32)).toNatClampNeg))]) (rest := .int (((6 : Int32) * ((σ54 8 0 40) - (1 : Int32))) + (5 : Int32)) :: .ref (ad 73 0) :: []) (st2 := .int (f_X8_checked ((6 : Int32) * ((σ54 8 0 40) - (1 : Int32))) ((us (us (us (us (us (us σ54 8 0 40 ((σ54 8 0 40) - (1 : Int32))) 73 0 (((6 : Int32) * ((σ54 8 0 40) - (1 : Int32))).toNatClampNeg) (σ54 8 0 37)) 73 0 ((((6 : Int32) * ((σ54 8 0 40) - (1 : Int32))) + (1 : Int32)).toNatClampNeg) a) 73 0 ((((6 : Int32) * ((σ54 8 0 40) - (1 : Int32))) + (2 : Int32)).toNatClampNeg) t) 73 0 ((((6 : Int32) * ((σ54 8 0 40) - (1 : Int32))) + (3 : Int32)).toNatClampNeg) r) 73 0 ((((6 : Int32) * ((σ54 8 0 40) - (1 : Int32))) + (4 : Int32)).toNatClampNeg) v) 73 0 ((((6 : Int32) * ((σ54 8 0 40) - (1 : Int32))) - (1 : Int32)).toNatClampNeg)) (us (us (us (us (us (us σ54 8 0 40 ((σ54 8 0 40) - (1 : Int32))) 73 0 (((6 : Int32) * ((σ54 8 0 40) - (1 : Int32))).toNatClampNeg) (σ54 8 0 37)) 73 0 ((((6 : Int32) * ((σ54 8 0 40) - (1 : Int32))) + (1 : Int32)).toNatClampNeg) a) 73 0 ((((6 : Int32) * ((σ54 8 0 40) - (1 : Int32))) + (2 : Int32)).toNatClampNeg) t) 73 0 ((((6 : Int32) * ((σ54 8 0 40) - (1 : Int32))) + (3 : Int32)).toNatClampNeg) r) 73 0 ((((6 : Int32) * ((σ54 8 0 40) - (1 : Int32))) + (4 : Int32)).toNatClampNeg) v)) :: .int (((6 : Int32) * ((σ54 8 0 40) - (1 : Int32))) + (5 : Int32)) :: .ref (ad 73 0) :: []) hC hW hS hl cs_X8_244 (c_X8_checked l hl9 D ca base ad (us (us (us (us (us (us σ54 8 0 40 ((σ54 8 0 40) - (1 : Int32))) 73 0 (((6 : Int32) * ((σ54 8 0 40) - (1 : Int32))).toNatClampNeg) (σ54 8 0 37)) 73 0 ((((6 : Int32) * ((σ54 8 0 40) - (1 : Int32))) + (1 : Int32)).toNatClampNeg) a) 73 0 ((((6 : Int32) * ((σ54 8 0 40) - (1 : Int32))) + (2 : Int32)).toNatClampNeg) t) 73 0 ((((6 : Int32) * ((σ54 8 0 40) - (1 : Int32))) + (3 : Int32)).toNatClampNeg) r) 73 0 ((((6 : Int32) * ((σ54 8 0 40) - (1 : Int32))) + (4 : Int32)).toNatClampNeg) v) ((6 : Int32) * ((σ54 8 0 40) - (1 : Int32))) ((us (us (us (us (us (us σ54 8 0 40 ((σ54 8 0 40) - (1 : Int32))) 73 0 (((6 : Int32) * ((σ54 8 0 40) - (1 : Int32))).toNatClampNeg) (σ54 8 0 37)) 73 0 ((((6 : Int32) * ((σ54 8 0 40) - (1 : Int32))) + (1 : Int32)).toNatClampNeg) a) 73 0 ((((6 : Int32) * ((σ54 8 0 40) - (1 : Int32))) + (2 : Int32)).toNatClampNeg) t) 73 0 ((((6 : Int32) * ((σ54 8 0 40) - (1 : Int32))) + (3 : Int32)).toNatClampNeg) r) 73 0 ((((6 : Int32) * ((σ54 8 0 40) - (1 : Int32))) + (4 : Int32)).toNatClampNeg) v) 73 0 ((((6 : Int32) * ((σ54 8 0 40) - (1 : Int32))) - (1 : Int32)).toNatClampNeg)) (by obtain ⟨n9, h8, h9⟩ := hL; exact ⟨n9, h8, by rw [h9]⟩)) rfl rfl rfl ⟨Nat.le_of_ble_eq_true rfl, Nat.le_of_ble_eq_true rfl⟩ (Nat.le_of_ble_eq_true rfl) dX8_log_192 ⟨Nat.le_of_ble_eq_true rfl, Nat.le_of_ble_eq_true rfl⟩ (fun H locs hW hS => ?_)
                refine w_iast hC hW hS m_73 (n := 120) (fun _ => rfl) (rw_in (j := 5) hL rfl (by decide)) dX8_log_195 (fun H locs hW hS => ?_)
                refine lv_aload_n hx hb dX8_log_196 rfl (lv_at hl 1 rfl) ?_
                refine lv_dup hx hb dX8_log_197 rfl ?_
                refine gf_X8_238 hC hW m_8 dX8_log_198 ?_
                refine lv_eqi (y := (σ54 8 0 40) - (1 : Int32)) (by rw [us_k (by decide), us_k (by decide), us_k (by decide), us_k (by decide), us_k (by decide), us_k (by decide), us_h]) ?_
                refine lv_iconst (v := 1) hx hb dX8_log_201 (by decide) ?_
                refine lv_iadd hx hb dX8_log_202 ?_
                refine pf_X8_238 hC hW m_8 hS dX8_log_203 (fun H locs hW hS => ?_)
                have hO : s_X8_log a t r v σ = us (us (us (us (us (us (us (us σ54 8 0 40 ((σ54 8 0 40) - (1 : Int32))) 73 0 (((6 : Int32) * ((σ54 8 0 40) - (1 : Int32))).toNatClampNeg) (σ54 8 0 37)) 73 0 ((((6 : Int32) * ((σ54 8 0 40) - (1 : Int32))) + (1 : Int32)).toNatClampNeg) a) 73 0 ((((6 : Int32) * ((σ54 8 0 40) - (1 : Int32))) + (2 : Int32)).toNatClampNeg) t) 73 0 ((((6 : Int32) * ((σ54 8 0 40) - (1 : Int32))) + (3 : Int32)).toNatClampNeg) r) 73 0 ((((6 : Int32) * ((σ54 8 0 40) - (1 : Int32))) + (4 : Int32)).toNatClampNeg) v) 73 0 ((((6 : Int32) * ((σ54 8 0 40) - (1 : Int32))) + (5 : Int32)).toNatClampNeg) (f_X8_checked ((6 : Int32) * ((σ54 8 0 40) - (1 : Int32))) ((us (us (us (us (us (us σ54 8 0 40 ((σ54 8 0 40) - (1 : Int32))) 73 0 (((6 : Int32) * ((σ54 8 0 40) - (1 : Int32))).toNatClampNeg) (σ54 8 0 37)) 73 0 ((((6 : Int32) * ((σ54 8 0 40) - (1 : Int32))) + (1 : Int32)).toNatClampNeg) a) 73 0 ((((6 : Int32) * ((σ54 8 0 40) - (1 : Int32))) + (2 : Int32)).toNatClampNeg) t) 73 0 ((((6 : Int32) * ((σ54 8 0 40) - (1 : Int32))) + (3 : Int32)).toNatClampNeg) r) 73 0 ((((6 : Int32) * ((σ54 8 0 40) - (1 : Int32))) + (4 : Int32)).toNatClampNeg) v) 73 0 ((((6 : Int32) * ((σ54 8 0 40) - (1 : Int32))) - (1 : Int32)).toNatClampNeg)) (us (us (us (us (us (us σ54 8 0 40 ((σ54 8 0 40) - (1 : Int32))) 73 0 (((6 : Int32) * ((σ54 8 0 40) - (1 : Int32))).toNatClampNeg) (σ54 8 0 37)) 73 0 ((((6 : Int32) * ((σ54 8 0 40) - (1 : Int32))) + (1 : Int32)).toNatClampNeg) a) 73 0 ((((6 : Int32) * ((σ54 8 0 40) - (1 : Int32))) + (2 : Int32)).toNatClampNeg) t) 73 0 ((((6 : Int32) * ((σ54 8 0 40) - (1 : Int32))) + (3 : Int32)).toNatClampNeg) r) 73 0 ((((6 : Int32) * ((σ54 8 0 40) - (1 : Int32))) + (4 : Int32)).toNatClampNeg) v))) 8 0 40 (((σ54 8 0 40) - (1 : Int32)) + (1 : Int32)) := by rw [hO, s_X8_log_L54, if_pos c_10, s_X8_log_K54, if_neg c_11]
                exact w_vretV hC hW hS hO (Nat.le_of_ble_eq_true rfl) (Nat.le_of_ble_eq_true rfl) dX8_log_206
              · refine lv_aload_n hx hb dX8_log_176 rfl (lv_at hl 1 rfl) ?_
                refine gf_X8_117 hC hW m_8 dX8_log_177 ?_
                refine lv_eqi (y := σ54 8 0 42) (by rw [us_k (by decide), us_k (by decide), us_k (by decide), us_k (by decide), us_k (by decide), us_j (by decide)]) ?_
                refine lv_goto (tgt := 192) hx hb dX8_log_180 (by decide) ?_
                refine w_callS (As := [.ref (ad 73 0), .int ((6 : Int32) * ((σ54 8 0 40) - (1 : Int32))), .int (σ54 8 0 42)]) (rest := .int (((6 : Int32) * ((σ54 8 0 40) - (1 : Int32))) + (5 : Int32)) :: .ref (ad 73 0) :: []) (st2 := .int (f_X8_checked ((6 : Int32) * ((σ54 8 0 40) - (1 : Int32))) (σ54 8 0 42) (us (us (us (us (us (us σ54 8 0 40 ((σ54 8 0 40) - (1 : Int32))) 73 0 (((6 : Int32) * ((σ54 8 0 40) - (1 : Int32))).toNatClampNeg) (σ54 8 0 37)) 73 0 ((((6 : Int32) * ((σ54 8 0 40) - (1 : Int32))) + (1 : Int32)).toNatClampNeg) a) 73 0 ((((6 : Int32) * ((σ54 8 0 40) - (1 : Int32))) + (2 : Int32)).toNatClampNeg) t) 73 0 ((((6 : Int32) * ((σ54 8 0 40) - (1 : Int32))) + (3 : Int32)).toNatClampNeg) r) 73 0 ((((6 : Int32) * ((σ54 8 0 40) - (1 : Int32))) + (4 : Int32)).toNatClampNeg) v)) :: .int (((6 : Int32) * ((σ54 8 0 40) - (1 : Int32))) + (5 : Int32)) :: .ref (ad 73 0) :: []) hC hW hS hl cs_X8_244 (c_X8_checked l hl9 D ca base ad (us (us (us (us (us (us σ54 8 0 40 ((σ54 8 0 40) - (1 : Int32))) 73 0 (((6 : Int32) * ((σ54 8 0 40) - (1 : Int32))).toNatClampNeg) (σ54 8 0 37)) 73 0 ((((6 : Int32) * ((σ54 8 0 40) - (1 : Int32))) + (1 : Int32)).toNatClampNeg) a) 73 0 ((((6 : Int32) * ((σ54 8 0 40) - (1 : Int32))) + (2 : Int32)).toNatClampNeg) t) 73 0 ((((6 : Int32) * ((σ54 8 0 40) - (1 : Int32))) + (3 : Int32)).toNatClampNeg) r) 73 0 ((((6 : Int32) * ((σ54 8 0 40) - (1 : Int32))) + (4 : Int32)).toNatClampNeg) v) ((6 : Int32) * ((σ54 8 0 40) - (1 : Int32))) (σ54 8 0 42) (by obtain ⟨n9, h8, h9⟩ := hL; exact ⟨n9, h8, by rw [h9]⟩)) rfl rfl rfl ⟨Nat.le_of_ble_eq_true rfl, Nat.le_of_ble_eq_true rfl⟩ (Nat.le_of_ble_eq_true rfl) dX8_log_192 ⟨Nat.le_of_ble_eq_true rfl, Nat.le_of_ble_eq_true rfl⟩ (fun H locs hW hS => ?_)
                refine w_iast hC hW hS m_73 (n := 120) (fun _ => rfl) (rw_in (j := 5) hL rfl (by decide)) dX8_log_195 (fun H locs hW hS => ?_)
                refine lv_aload_n hx hb dX8_log_196 rfl (lv_at hl 1 rfl) ?_
                refine lv_dup hx hb dX8_log_197 rfl ?_
                refine gf_X8_238 hC hW m_8 dX8_log_198 ?_
                refine lv_eqi (y := (σ54 8 0 40) - (1 : Int32)) (by rw [us_k (by decide), us_k (by decide), us_k (by decide), us_k (by decide), us_k (by decide), us_k (by decide), us_h]) ?_
                refine lv_iconst (v := 1) hx hb dX8_log_201 (by decide) ?_
                refine lv_iadd hx hb dX8_log_202 ?_
                refine pf_X8_238 hC hW m_8 hS dX8_log_203 (fun H locs hW hS => ?_)
                have hO : s_X8_log a t r v σ = us (us (us (us (us (us (us (us σ54 8 0 40 ((σ54 8 0 40) - (1 : Int32))) 73 0 (((6 : Int32) * ((σ54 8 0 40) - (1 : Int32))).toNatClampNeg) (σ54 8 0 37)) 73 0 ((((6 : Int32) * ((σ54 8 0 40) - (1 : Int32))) + (1 : Int32)).toNatClampNeg) a) 73 0 ((((6 : Int32) * ((σ54 8 0 40) - (1 : Int32))) + (2 : Int32)).toNatClampNeg) t) 73 0 ((((6 : Int32) * ((σ54 8 0 40) - (1 : Int32))) + (3 : Int32)).toNatClampNeg) r) 73 0 ((((6 : Int32) * ((σ54 8 0 40) - (1 : Int32))) + (4 : Int32)).toNatClampNeg) v) 73 0 ((((6 : Int32) * ((σ54 8 0 40) - (1 : Int32))) + (5 : Int32)).toNatClampNeg) (f_X8_checked ((6 : Int32) * ((σ54 8 0 40) - (1 : Int32))) (σ54 8 0 42) (us (us (us (us (us (us σ54 8 0 40 ((σ54 8 0 40) - (1 : Int32))) 73 0 (((6 : Int32) * ((σ54 8 0 40) - (1 : Int32))).toNatClampNeg) (σ54 8 0 37)) 73 0 ((((6 : Int32) * ((σ54 8 0 40) - (1 : Int32))) + (1 : Int32)).toNatClampNeg) a) 73 0 ((((6 : Int32) * ((σ54 8 0 40) - (1 : Int32))) + (2 : Int32)).toNatClampNeg) t) 73 0 ((((6 : Int32) * ((σ54 8 0 40) - (1 : Int32))) + (3 : Int32)).toNatClampNeg) r) 73 0 ((((6 : Int32) * ((σ54 8 0 40) - (1 : Int32))) + (4 : Int32)).toNatClampNeg) v))) 8 0 40 (((σ54 8 0 40) - (1 : Int32)) + (1 : Int32)) := by rw [hO, s_X8_log_L54, if_pos c_10, s_X8_log_K54, if_pos c_11]
                exact w_vretV hC hW hS hO (Nat.le_of_ble_eq_true rfl) (Nat.le_of_ble_eq_true rfl) dX8_log_206
            · have hi_c_10 : k54 < 114 := idx_lt c_10 (by decide) (by decide) (by omega)
              refine lv_aload_n hx hb dX8_log_61 rfl (lv_at hl 1 rfl) ?_
              refine gf_X8_120 hC hW m_8 rfl dX8_log_62 ?_
              refine lv_iload hx hb dX8_log_65 (lv_at hl 0 rfl) ?_
              refine lv_aload_n hx hb dX8_log_67 rfl (lv_at hl 1 rfl) ?_
              refine gf_X8_120 hC hW m_8 rfl dX8_log_68 ?_
              refine lv_iload hx hb dX8_log_71 (lv_at hl 0 rfl) ?_
              refine lv_bipush (v := 6) hx hb dX8_log_73 (by decide) ?_
              refine lv_iadd hx hb dX8_log_75 ?_
              refine w_iald hC hW m_73 (n := 120) rfl (vp_in_addr (a := 6) (by decide) (by omega) (by omega)) dX8_log_76 ?_
              refine lv_eqi (y := σ54 73 0 (k54 + 6)) (by rw [cl_addr (a := 6) (by decide) (by omega)]) ?_
              refine w_iast hC hW hS m_73 (n := 120) (fun _ => rfl) (vp_in_nI (by omega) (by omega)) dX8_log_77 (fun H locs hW hS => ?_)
              rw [nI_clamp (by omega)] at hW
              refine lv_iinc (v := nI (k54 + 1)) (lv' := [(5, .int (nI (k54 + 1))), (0, .ref (ad 8 0)), (1, .int a), (2, .int t), (3, .int r), (4, .int v)]) hx hb dX8_log_78 hl (k := 0) rfl (nI_1 _) (by decide) rfl (fun ls hl => ?_)
              refine lv_goto (tgt := 54) hx hb dX8_log_81 (by decide) ?_
              refine ih_54 (k54 + 1) (us σ54 73 0 k54 (σ54 73 0 (k54 + 6))) _ _ _ (by omega) (by omega) (Eq.trans (show (us σ54 73 0 k54 (σ54 73 0 (k54 + 6))) 8 = σ54 8 from (by rw [us_kk (by decide)])) hk8_54) hW hS (lv_sub hl [0, 1, 2, 3, 4, 5] rfl) ?_
              rw [hO, s_X8_log_L54, if_neg c_10]
        refine h_54 115 0 (us (us σ 8 0 42 (σ 73 0 5)) 8 0 41 ((σ 8 0 41) + (1 : Int32))) _ _ _ (by omega) (by omega) rfl hW hS (lv_sub hl [0, 1, 2, 3, 4, 5] rfl) ?_
        rw [s_X8_log, if_pos c_1, if_neg c_7, if_pos c_8]
    · have hO : s_X8_log a t r v σ = σ := by rw [s_X8_log, if_pos c_1, if_pos c_7]
      exact w_vretV hC hW hS hO (Nat.le_of_ble_eq_true rfl) (Nat.le_of_ble_eq_true rfl) dX8_log_21
theorem fr_s_X8_log_K54 {kk : Nat}  (a : Int32) (t : Int32) (r : Int32) (v : Int32) (τ54 : Sg) (h8 : kk ≠ 8) (h73 : kk ≠ 73) : (s_X8_log_K54 a t r v τ54) kk = τ54 kk := by
  rw [s_X8_log_K54]
  repeat' split
  all_goals (first | (simp only [us_kk, ne_eq, not_false_eq_true, h8, h73]; done) | with_reducible rfl | (simp only [us_kk, ne_eq, not_false_eq_true, h8, h73]; with_reducible rfl))
theorem fr_s_X8_log_L54 {kk : Nat}  (a : Int32) (t : Int32) (r : Int32) (v : Int32) (h8 : kk ≠ 8) (h73 : kk ≠ 73) : ∀ (y0 : Nat) (y1 : Nat) (σ : Sg), (s_X8_log_L54 a t r v y0 y1 σ) kk = σ kk := by
  intro y0
  induction y0 with
  | zero => intros; rfl
  | succ n ih =>
    intros
    rw [s_X8_log_L54]
    repeat' split
    all_goals (first | (simp only [ih, us_kk, ne_eq, not_false_eq_true, h8, h73, fr_s_X8_log_K54]; done) | with_reducible rfl | (simp only [ih, us_kk, ne_eq, not_false_eq_true, h8, h73, fr_s_X8_log_K54]; with_reducible rfl))
theorem fr_X8_log {kk : Nat}  {a : Int32} {t : Int32} {r : Int32} {v : Int32} {σ : Sg} (h8 : kk ≠ 8) (h73 : kk ≠ 73) : (s_X8_log a t r v σ) kk = σ kk := by
  rw [s_X8_log]
  repeat' split
  all_goals (first | (simp only [us_kk, ne_eq, not_false_eq_true, h8, h73, fr_s_X8_log_K54, fr_s_X8_log_L54]; done) | with_reducible rfl | (simp only [us_kk, ne_eq, not_false_eq_true, h8, h73, fr_s_X8_log_K54, fr_s_X8_log_L54]; with_reducible rfl))
theorem fs_s_X8_log_K54 {jj : Nat}  (a : Int32) (t : Int32) (r : Int32) (v : Int32) (τ54 : Sg) (h40 : jj ≠ 40) (h41 : jj ≠ 41) (h42 : jj ≠ 42) : (s_X8_log_K54 a t r v τ54) 8 0 jj = τ54 8 0 jj := by
  rw [s_X8_log_K54]
  repeat' split
  all_goals (first | with_reducible rfl | (simp [us_k, us_j, ne_eq, not_false_eq_true, h40, h41, h42]; done))
theorem fs_s_X8_log_L54 {jj : Nat}  (a : Int32) (t : Int32) (r : Int32) (v : Int32) (h40 : jj ≠ 40) (h41 : jj ≠ 41) (h42 : jj ≠ 42) : ∀ (y0 : Nat) (y1 : Nat) (σ : Sg), (s_X8_log_L54 a t r v y0 y1 σ) 8 0 jj = σ 8 0 jj := by
  intro y0
  induction y0 with
  | zero => intros; rfl
  | succ n ih =>
    intros
    rw [s_X8_log_L54]
    repeat' split
    all_goals (first | with_reducible rfl | (simp [ih, us_k, us_j, ne_eq, not_false_eq_true, h40, h41, h42, fs_s_X8_log_K54]; done))
theorem fs_X8_log {jj : Nat}  {a : Int32} {t : Int32} {r : Int32} {v : Int32} {σ : Sg} (h40 : jj ≠ 40) (h41 : jj ≠ 41) (h42 : jj ≠ 42) : (s_X8_log a t r v σ) 8 0 jj = σ 8 0 jj := by
  rw [s_X8_log]
  repeat' split
  all_goals (first | with_reducible rfl | (simp [us_k, us_j, ne_eq, not_false_eq_true, h40, h41, h42, fs_s_X8_log_K54, fs_s_X8_log_L54]; done))

def f_X8_logged (x : Int32) (v : Int32) (σ : Sg) : Int32 × Sg :=
  if (f_X8_within x 0 ((σ 8 0 40) - (1 : Int32))) = 0 then (0, us σ 8 0 0 1)
  else if (f_X8_within v 0 4) = 0 then (0, us σ 8 0 0 2)
  else (σ 73 0 ((((6 : Int32) * x) + v).toNatClampNeg), us σ 8 0 0 0)
set_option maxHeartbeats 4000000 in
set_option maxRecDepth 100000 in
theorem c_X8_logged (l : Launch) (hl9 : l.stackTraces = false) (D : va_G) (ca : Nat → ClassId) (base : Nat) (ad : Adr) (σ : Sg) (x : Int32) (v : Int32) (hM : MInv σ) : Mt l yX8_logged cX8_logged 3 (some .int) { frames := 1, cells := 0, slots := 0, locals := 22 } D ca base ad ρm Lm [.ref (ad 8 0), .int x, .int v] σ (some (.int (f_X8_logged x v σ).1)) (f_X8_logged x v σ).2 := by
  refine w_ofW (by decide) (Nat.le_of_ble_eq_true rfl) rfl ?_
  intro p e s m args below meth c hC hW hS ls hl hin
  have hx := hC.1
  have hb := hC.2.1
  refine lv_aload_n hx hb dX8_logged_0 rfl (lv_at hl 0 rfl) ?_
  refine lv_iload_n hx hb dX8_logged_1 rfl (lv_at hl 1 rfl) ?_
  refine lv_iconst (v := 0) hx hb dX8_logged_2 (by decide) ?_
  refine lv_aload_n hx hb dX8_logged_3 rfl (lv_at hl 0 rfl) ?_
  refine gf_X8_238 hC hW m_8 dX8_logged_4 ?_
  refine lv_iconst (v := 1) hx hb dX8_logged_7 (by decide) ?_
  refine lv_isub hx hb dX8_logged_8 ?_
  refine w_callS (As := [.int x, .int 0, .int ((σ 8 0 40) - (1 : Int32))]) (rest := .ref (ad 8 0) :: []) (st2 := .int (f_X8_within x 0 ((σ 8 0 40) - (1 : Int32))) :: .ref (ad 8 0) :: []) hC hW hS hl cs_X8_129 (c_X8_within l hl9 D ca base ad σ x 0 ((σ 8 0 40) - (1 : Int32)) ) rfl rfl rfl ⟨Nat.le_of_ble_eq_true rfl, Nat.le_of_ble_eq_true rfl⟩ (Nat.le_of_ble_eq_true rfl) dX8_logged_9 ⟨Nat.le_of_ble_eq_true rfl, Nat.le_of_ble_eq_true rfl⟩ (fun H locs hW hS => ?_)
  refine lv_if_ne (tgt := 19) hx hb dX8_logged_12 (by decide) (fun c_1 => ?_) (fun c_1 => ?_)
  · refine lv_iload_n hx hb dX8_logged_19 rfl (lv_at hl 2 rfl) ?_
    refine lv_iconst (v := 0) hx hb dX8_logged_20 (by decide) ?_
    refine lv_iconst (v := 4) hx hb dX8_logged_21 (by decide) ?_
    refine w_callS (As := [.int v, .int 0, .int 4]) (rest := .ref (ad 8 0) :: []) (st2 := .int (f_X8_within v 0 4) :: .ref (ad 8 0) :: []) hC hW hS hl cs_X8_129 (c_X8_within l hl9 D ca base ad σ v 0 4 ) rfl rfl rfl ⟨Nat.le_of_ble_eq_true rfl, Nat.le_of_ble_eq_true rfl⟩ (Nat.le_of_ble_eq_true rfl) dX8_logged_22 ⟨Nat.le_of_ble_eq_true rfl, Nat.le_of_ble_eq_true rfl⟩ (fun H locs hW hS => ?_)
    refine lv_if_ne (tgt := 32) hx hb dX8_logged_25 (by decide) (fun c_2 => ?_) (fun c_2 => ?_)
    · refine lv_iconst (v := 0) hx hb dX8_logged_32 (by decide) ?_
      refine w_callV (As := [.int 0]) (rest := []) (st2 := .int (f_X8_rf 0) :: []) hC hW hS hl cv_X8_154 m_8 (by decide) rfl (c_X8_refused l hl9 D ca base ad σ 0 ) rfl rfl rfl ⟨Nat.le_of_ble_eq_true rfl, Nat.le_of_ble_eq_true rfl⟩ (Nat.le_of_ble_eq_true rfl) dX8_logged_33 ⟨Nat.le_of_ble_eq_true rfl, Nat.le_of_ble_eq_true rfl⟩ (fun H locs hW hS => ?_)
      refine lv_eqi (y := 0) (by decide) ?_
      refine lv_if_eq (tgt := 43) hx hb dX8_logged_36 (by decide) (fun _ => ?_) (fun c => absurd (by decide) c)
      refine lv_aload_n hx hb dX8_logged_43 rfl (lv_at hl 0 rfl) ?_
      refine gf_X8_120 hC hW m_8 rfl dX8_logged_44 ?_
      refine lv_bipush (v := 6) hx hb dX8_logged_47 (by decide) ?_
      refine lv_iload_n hx hb dX8_logged_49 rfl (lv_at hl 1 rfl) ?_
      refine lv_imul hx hb dX8_logged_50 ?_
      refine lv_iload_n hx hb dX8_logged_51 rfl (lv_at hl 2 rfl) ?_
      refine lv_iadd hx hb dX8_logged_52 ?_
      refine w_iald hC hW m_73 (n := 120) rfl (lgd_in (b := 5) hM (by assumption) (by assumption) (by decide) (by decide) (by decide)) dX8_logged_53 ?_
      refine lv_eqi (y := σ 73 0 ((((6 : Int32) * x) + v).toNatClampNeg)) (by rw [us_k (by decide)]) ?_
      have hO : f_X8_logged x v σ = (σ 73 0 ((((6 : Int32) * x) + v).toNatClampNeg), us σ 8 0 0 0) := by rw [f_X8_logged, if_neg c_1, if_neg c_2]
      exact w_iretS hC hW hS hO (Nat.le_of_ble_eq_true rfl) (Nat.le_of_ble_eq_true rfl) dX8_logged_54
    · refine lv_iconst (v := 2) hx hb dX8_logged_28 (by decide) ?_
      refine lv_goto (tgt := 33) hx hb dX8_logged_29 (by decide) ?_
      refine w_callV (As := [.int 2]) (rest := []) (st2 := .int (f_X8_rf 2) :: []) hC hW hS hl cv_X8_154 m_8 (by decide) rfl (c_X8_refused l hl9 D ca base ad σ 2 ) rfl rfl rfl ⟨Nat.le_of_ble_eq_true rfl, Nat.le_of_ble_eq_true rfl⟩ (Nat.le_of_ble_eq_true rfl) dX8_logged_33 ⟨Nat.le_of_ble_eq_true rfl, Nat.le_of_ble_eq_true rfl⟩ (fun H locs hW hS => ?_)
      refine lv_eqi (y := 1) (by decide) ?_
      refine lv_if_eq (tgt := 43) hx hb dX8_logged_36 (by decide) (fun c => absurd c (by decide)) (fun _ => ?_)
      refine lv_iconst (v := 0) hx hb dX8_logged_39 (by decide) ?_
      refine lv_goto (tgt := 54) hx hb dX8_logged_40 (by decide) ?_
      have hO : f_X8_logged x v σ = (0, us σ 8 0 0 2) := by rw [f_X8_logged, if_neg c_1, if_pos c_2]
      exact w_iretS hC hW hS hO (Nat.le_of_ble_eq_true rfl) (Nat.le_of_ble_eq_true rfl) dX8_logged_54
  · refine lv_iconst (v := 1) hx hb dX8_logged_15 (by decide) ?_
    refine lv_goto (tgt := 33) hx hb dX8_logged_16 (by decide) ?_
    refine w_callV (As := [.int 1]) (rest := []) (st2 := .int (f_X8_rf 1) :: []) hC hW hS hl cv_X8_154 m_8 (by decide) rfl (c_X8_refused l hl9 D ca base ad σ 1 ) rfl rfl rfl ⟨Nat.le_of_ble_eq_true rfl, Nat.le_of_ble_eq_true rfl⟩ (Nat.le_of_ble_eq_true rfl) dX8_logged_33 ⟨Nat.le_of_ble_eq_true rfl, Nat.le_of_ble_eq_true rfl⟩ (fun H locs hW hS => ?_)
    refine lv_eqi (y := 1) (by decide) ?_
    refine lv_if_eq (tgt := 43) hx hb dX8_logged_36 (by decide) (fun c => absurd c (by decide)) (fun _ => ?_)
    refine lv_iconst (v := 0) hx hb dX8_logged_39 (by decide) ?_
    refine lv_goto (tgt := 54) hx hb dX8_logged_40 (by decide) ?_
    have hO : f_X8_logged x v σ = (0, us σ 8 0 0 1) := by rw [f_X8_logged, if_pos c_1]
    exact w_iretS hC hW hS hO (Nat.le_of_ble_eq_true rfl) (Nat.le_of_ble_eq_true rfl) dX8_logged_54
theorem fr_X8_logged {kk : Nat}  {x : Int32} {v : Int32} {σ : Sg} (h8 : kk ≠ 8) : (f_X8_logged x v σ).2 kk = σ kk := by
  rw [f_X8_logged]
  repeat' split
  all_goals (first | (simp only [us_kk, ne_eq, not_false_eq_true, h8]; done) | with_reducible rfl | (simp only [us_kk, ne_eq, not_false_eq_true, h8]; with_reducible rfl))
theorem fs_X8_logged {jj : Nat}  {x : Int32} {v : Int32} {σ : Sg} (h0 : jj ≠ 0) : (f_X8_logged x v σ).2 8 0 jj = σ 8 0 jj := by
  rw [f_X8_logged]
  repeat' split
  all_goals (first | with_reducible rfl | (simp [us_k, us_j, ne_eq, not_false_eq_true, h0]; done))

def f_X8_forge (x : Int32) (v : Int32) (σ : Sg) : Int32 × Sg :=
  if (f_X8_within x 0 ((σ 8 0 40) - (1 : Int32))) = 0 then (0, us σ 8 0 0 1)
  else if (f_X8_within v 0 5) = 0 then (0, us σ 8 0 0 2)
  else (σ 73 0 ((((6 : Int32) * x) + (4 : Int32)).toNatClampNeg), us (us σ 8 0 0 0) 73 0 ((((6 : Int32) * x) + (4 : Int32)).toNatClampNeg) v)
set_option maxHeartbeats 4000000 in
set_option maxRecDepth 100000 in
theorem c_X8_forge (l : Launch) (hl9 : l.stackTraces = false) (D : va_G) (ca : Nat → ClassId) (base : Nat) (ad : Adr) (σ : Sg) (x : Int32) (v : Int32) (hM : MInv σ) : Mt l yX8_forge cX8_forge 4 (some .int) { frames := 1, cells := 0, slots := 0, locals := 22 } D ca base ad ρm Lm [.ref (ad 8 0), .int x, .int v] σ (some (.int (f_X8_forge x v σ).1)) (f_X8_forge x v σ).2 := by
  refine w_ofW (by decide) (Nat.le_of_ble_eq_true rfl) rfl ?_
  intro p e s m args below meth c hC hW hS ls hl hin
  have hx := hC.1
  have hb := hC.2.1
  refine lv_aload_n hx hb dX8_forge_0 rfl (lv_at hl 0 rfl) ?_
  refine lv_iload_n hx hb dX8_forge_1 rfl (lv_at hl 1 rfl) ?_
  refine lv_iconst (v := 0) hx hb dX8_forge_2 (by decide) ?_
  refine lv_aload_n hx hb dX8_forge_3 rfl (lv_at hl 0 rfl) ?_
  refine gf_X8_238 hC hW m_8 dX8_forge_4 ?_
  refine lv_iconst (v := 1) hx hb dX8_forge_7 (by decide) ?_
  refine lv_isub hx hb dX8_forge_8 ?_
  refine w_callS (As := [.int x, .int 0, .int ((σ 8 0 40) - (1 : Int32))]) (rest := .ref (ad 8 0) :: []) (st2 := .int (f_X8_within x 0 ((σ 8 0 40) - (1 : Int32))) :: .ref (ad 8 0) :: []) hC hW hS hl cs_X8_129 (c_X8_within l hl9 D ca base ad σ x 0 ((σ 8 0 40) - (1 : Int32)) ) rfl rfl rfl ⟨Nat.le_of_ble_eq_true rfl, Nat.le_of_ble_eq_true rfl⟩ (Nat.le_of_ble_eq_true rfl) dX8_forge_9 ⟨Nat.le_of_ble_eq_true rfl, Nat.le_of_ble_eq_true rfl⟩ (fun H locs hW hS => ?_)
  refine lv_if_ne (tgt := 19) hx hb dX8_forge_12 (by decide) (fun c_1 => ?_) (fun c_1 => ?_)
  · refine lv_iload_n hx hb dX8_forge_19 rfl (lv_at hl 2 rfl) ?_
    refine lv_iconst (v := 0) hx hb dX8_forge_20 (by decide) ?_
    refine lv_iconst (v := 5) hx hb dX8_forge_21 (by decide) ?_
    refine w_callS (As := [.int v, .int 0, .int 5]) (rest := .ref (ad 8 0) :: []) (st2 := .int (f_X8_within v 0 5) :: .ref (ad 8 0) :: []) hC hW hS hl cs_X8_129 (c_X8_within l hl9 D ca base ad σ v 0 5 ) rfl rfl rfl ⟨Nat.le_of_ble_eq_true rfl, Nat.le_of_ble_eq_true rfl⟩ (Nat.le_of_ble_eq_true rfl) dX8_forge_22 ⟨Nat.le_of_ble_eq_true rfl, Nat.le_of_ble_eq_true rfl⟩ (fun H locs hW hS => ?_)
    refine lv_if_ne (tgt := 32) hx hb dX8_forge_25 (by decide) (fun c_2 => ?_) (fun c_2 => ?_)
    · refine lv_iconst (v := 0) hx hb dX8_forge_32 (by decide) ?_
      refine w_callV (As := [.int 0]) (rest := []) (st2 := .int (f_X8_rf 0) :: []) hC hW hS hl cv_X8_154 m_8 (by decide) rfl (c_X8_refused l hl9 D ca base ad σ 0 ) rfl rfl rfl ⟨Nat.le_of_ble_eq_true rfl, Nat.le_of_ble_eq_true rfl⟩ (Nat.le_of_ble_eq_true rfl) dX8_forge_33 ⟨Nat.le_of_ble_eq_true rfl, Nat.le_of_ble_eq_true rfl⟩ (fun H locs hW hS => ?_)
      refine lv_eqi (y := 0) (by decide) ?_
      refine lv_if_eq (tgt := 41) hx hb dX8_forge_36 (by decide) (fun _ => ?_) (fun c => absurd (by decide) c)
      refine lv_aload_n hx hb dX8_forge_41 rfl (lv_at hl 0 rfl) ?_
      refine gf_X8_120 hC hW m_8 rfl dX8_forge_42 ?_
      refine lv_bipush (v := 6) hx hb dX8_forge_45 (by decide) ?_
      refine lv_iload_n hx hb dX8_forge_47 rfl (lv_at hl 1 rfl) ?_
      refine lv_imul hx hb dX8_forge_48 ?_
      refine lv_iconst (v := 4) hx hb dX8_forge_49 (by decide) ?_
      refine lv_iadd hx hb dX8_forge_50 ?_
      refine w_iald hC hW m_73 (n := 120) rfl (fg_in hM (by assumption)) dX8_forge_51 ?_
      refine lv_eqi (y := σ 73 0 ((((6 : Int32) * x) + (4 : Int32)).toNatClampNeg)) (by rw [us_k (by decide)]) ?_
      refine lv_istore_n (lv' := [(3, .int (σ 73 0 ((((6 : Int32) * x) + (4 : Int32)).toNatClampNeg))), (0, .ref (ad 8 0)), (1, .int x), (2, .int v)]) hx hb dX8_forge_52 rfl hl (by decide) rfl (fun ls hl => ?_)
      refine lv_aload_n hx hb dX8_forge_53 rfl (lv_at hl 1 rfl) ?_
      refine gf_X8_120 hC hW m_8 rfl dX8_forge_54 ?_
      refine lv_bipush (v := 6) hx hb dX8_forge_57 (by decide) ?_
      refine lv_iload_n hx hb dX8_forge_59 rfl (lv_at hl 2 rfl) ?_
      refine lv_imul hx hb dX8_forge_60 ?_
      refine lv_iconst (v := 4) hx hb dX8_forge_61 (by decide) ?_
      refine lv_iadd hx hb dX8_forge_62 ?_
      refine lv_iload_n hx hb dX8_forge_63 rfl (lv_at hl 3 rfl) ?_
      refine w_iast hC hW hS m_73 (n := 120) (fun _ => rfl) (fg_in hM (by assumption)) dX8_forge_64 (fun H locs hW hS => ?_)
      refine lv_iload_n hx hb dX8_forge_65 rfl (lv_at hl 0 rfl) ?_
      have hO : f_X8_forge x v σ = (σ 73 0 ((((6 : Int32) * x) + (4 : Int32)).toNatClampNeg), us (us σ 8 0 0 0) 73 0 ((((6 : Int32) * x) + (4 : Int32)).toNatClampNeg) v) := by rw [f_X8_forge, if_neg c_1, if_neg c_2]
      exact w_iretS hC hW hS hO (Nat.le_of_ble_eq_true rfl) (Nat.le_of_ble_eq_true rfl) dX8_forge_66
    · refine lv_iconst (v := 2) hx hb dX8_forge_28 (by decide) ?_
      refine lv_goto (tgt := 33) hx hb dX8_forge_29 (by decide) ?_
      refine w_callV (As := [.int 2]) (rest := []) (st2 := .int (f_X8_rf 2) :: []) hC hW hS hl cv_X8_154 m_8 (by decide) rfl (c_X8_refused l hl9 D ca base ad σ 2 ) rfl rfl rfl ⟨Nat.le_of_ble_eq_true rfl, Nat.le_of_ble_eq_true rfl⟩ (Nat.le_of_ble_eq_true rfl) dX8_forge_33 ⟨Nat.le_of_ble_eq_true rfl, Nat.le_of_ble_eq_true rfl⟩ (fun H locs hW hS => ?_)
      refine lv_eqi (y := 1) (by decide) ?_
      refine lv_if_eq (tgt := 41) hx hb dX8_forge_36 (by decide) (fun c => absurd c (by decide)) (fun _ => ?_)
      refine lv_iconst (v := 0) hx hb dX8_forge_39 (by decide) ?_
      have hO : f_X8_forge x v σ = (0, us σ 8 0 0 2) := by rw [f_X8_forge, if_neg c_1, if_pos c_2]
      exact w_iretS hC hW hS hO (Nat.le_of_ble_eq_true rfl) (Nat.le_of_ble_eq_true rfl) dX8_forge_40
  · refine lv_iconst (v := 1) hx hb dX8_forge_15 (by decide) ?_
    refine lv_goto (tgt := 33) hx hb dX8_forge_16 (by decide) ?_
    refine w_callV (As := [.int 1]) (rest := []) (st2 := .int (f_X8_rf 1) :: []) hC hW hS hl cv_X8_154 m_8 (by decide) rfl (c_X8_refused l hl9 D ca base ad σ 1 ) rfl rfl rfl ⟨Nat.le_of_ble_eq_true rfl, Nat.le_of_ble_eq_true rfl⟩ (Nat.le_of_ble_eq_true rfl) dX8_forge_33 ⟨Nat.le_of_ble_eq_true rfl, Nat.le_of_ble_eq_true rfl⟩ (fun H locs hW hS => ?_)
    refine lv_eqi (y := 1) (by decide) ?_
    refine lv_if_eq (tgt := 41) hx hb dX8_forge_36 (by decide) (fun c => absurd c (by decide)) (fun _ => ?_)
    refine lv_iconst (v := 0) hx hb dX8_forge_39 (by decide) ?_
    have hO : f_X8_forge x v σ = (0, us σ 8 0 0 1) := by rw [f_X8_forge, if_pos c_1]
    exact w_iretS hC hW hS hO (Nat.le_of_ble_eq_true rfl) (Nat.le_of_ble_eq_true rfl) dX8_forge_40
theorem fr_X8_forge {kk : Nat}  {x : Int32} {v : Int32} {σ : Sg} (h8 : kk ≠ 8) (h73 : kk ≠ 73) : (f_X8_forge x v σ).2 kk = σ kk := by
  rw [f_X8_forge]
  repeat' split
  all_goals (first | (simp only [us_kk, ne_eq, not_false_eq_true, h8, h73]; done) | with_reducible rfl | (simp only [us_kk, ne_eq, not_false_eq_true, h8, h73]; with_reducible rfl))
theorem fs_X8_forge {jj : Nat}  {x : Int32} {v : Int32} {σ : Sg} (h0 : jj ≠ 0) : (f_X8_forge x v σ).2 8 0 jj = σ 8 0 jj := by
  rw [f_X8_forge]
  repeat' split
  all_goals (first | with_reducible rfl | (simp [us_k, us_j, ne_eq, not_false_eq_true, h0]; done))

def f_X8_broken_L12  : Nat → Nat → Int32 → Sg → Int32 × Sg
  | 0, _, _, σ12 => (0, σ12)
  | n12 + 1, k12, v1_12, σ12 => if (σ12 8 0 40) ≤ (nI k12) then ((-1), σ12)
    else if (f_X8_checked ((6 : Int32) * (nI k12)) v1_12 σ12) = (σ12 73 0 ((((6 : Int32) * (nI k12)) + (5 : Int32)).toNatClampNeg)) then f_X8_broken_L12 n12 (k12 + 1) (σ12 73 0 ((((6 : Int32) * (nI k12)) + (5 : Int32)).toNatClampNeg)) σ12
    else (nI k12, σ12)
def f_X8_broken  (σ : Sg) : Int32 × Sg :=
  f_X8_broken_L12 21 0 (σ 8 0 42) (us σ 8 0 0 0)
set_option maxHeartbeats 4000000 in
set_option maxRecDepth 100000 in
theorem c_X8_broken (l : Launch) (hl9 : l.stackTraces = false) (D : va_G) (ca : Nat → ClassId) (base : Nat) (ad : Adr) (σ : Sg)  (hM : MInv σ) : Mt l yX8_broken cX8_broken 3 (some .int) { frames := 1, cells := 0, slots := 0, locals := 24 } D ca base ad ρm Lm [.ref (ad 8 0)] σ (some (.int (f_X8_broken σ).1)) (f_X8_broken σ).2 := by
  refine w_ofW (by decide) (Nat.le_of_ble_eq_true rfl) rfl ?_
  intro p e s m args below meth c hC hW hS ls hl hin
  have hx := hC.1
  have hb := hC.2.1
  refine lv_aload_n hx hb dX8_broken_0 rfl (lv_at hl 0 rfl) ?_
  refine lv_iconst (v := 0) hx hb dX8_broken_1 (by decide) ?_
  refine pf_X8_126 hC hW m_8 hS dX8_broken_2 (fun H locs hW hS => ?_)
  refine lv_aload_n hx hb dX8_broken_5 rfl (lv_at hl 0 rfl) ?_
  refine gf_X8_117 hC hW m_8 dX8_broken_6 ?_
  refine lv_eqi (y := σ 8 0 42) (by rw [us_j (by decide)]) ?_
  refine lv_istore_n (lv' := [(1, .int (σ 8 0 42)), (0, .ref (ad 8 0))]) hx hb dX8_broken_9 rfl hl (by decide) rfl (fun ls hl => ?_)
  refine lv_iconst (v := 0) hx hb dX8_broken_10 (by decide) ?_
  refine lv_istore_n (lv' := [(2, .int 0), (1, .int (σ 8 0 42)), (0, .ref (ad 8 0))]) hx hb dX8_broken_11 rfl hl (by decide) rfl (fun ls hl => ?_)
  have h_12 : ∀ (n12 k12 : Nat) (v1_12 : Int32) (σ12 : Sg) (H : Heap) (locs : List Loc) (ls : Array Slot), 21 ≤ k12 + n12 → k12 ≤ 20 → (σ12 8 = (us σ 8 0 0 0) 8) → Wd D ca (Ab base) ad ρm Lm σ12 H → va_S (Ab base) s.heap H locs → lv_has ls 3 [(2, .int (nI k12)), (1, .int v1_12), (0, .ref (ad 8 0))] → f_X8_broken σ = (f_X8_broken_L12 n12 k12 v1_12 σ12) → W p l e ({ frames := 1, cells := 0, slots := 0, locals := 24 } : Room) s m args below meth c H locs 0 0 (MQ below (Rt D ca base ad ρm Lm (f_X8_broken σ).2 (some (.int (f_X8_broken σ).1))) args s 0 0 (Ab base)) (F0 m 12 ls []) := by
    intro n12
    induction n12 with
    | zero =>
      intro k12 v1_12 σ12 H locs ls hk1_12 hk2_12 hk8_12 hW hS hl hO
      exact absurd hk1_12 (by omega)
    | succ n12 ih_12 =>
      intro k12 v1_12 σ12 H locs ls hk1_12 hk2_12 hk8_12 hW hS hl hO
      refine lv_iload_n hx hb dX8_broken_12 rfl (lv_at hl 0 rfl) ?_
      refine lv_aload_n hx hb dX8_broken_13 rfl (lv_at hl 2 rfl) ?_
      refine gf_X8_238 hC hW m_8 dX8_broken_14 ?_
      refine lv_icmp_ge (tgt := 66) hx hb dX8_broken_17 (by decide) (fun c_1 => ?_) (fun c_1 => ?_)
      · refine lv_iconst (v := (-1)) hx hb dX8_broken_66 (by decide) ?_
        have hO : f_X8_broken σ = ((-1), σ12) := by rw [hO, f_X8_broken_L12, if_pos c_1]
        exact w_iretS hC hW hS hO (Nat.le_of_ble_eq_true rfl) (Nat.le_of_ble_eq_true rfl) dX8_broken_67
      · have hi_c_1 : k12 < 20 := by
          obtain ⟨n9, h8, h9⟩ := hM.2.2.2.1
          exact idx_lt4 c_1 (by rw [hk8_12, us_j (by decide)]; exact h9) h8 (by decide) (by omega)
        refine lv_aload_n hx hb dX8_broken_20 rfl (lv_at hl 2 rfl) ?_
        refine gf_X8_120 hC hW m_8 rfl dX8_broken_21 ?_
        refine lv_bipush (v := 6) hx hb dX8_broken_24 (by decide) ?_
        refine lv_iload_n hx hb dX8_broken_26 rfl (lv_at hl 0 rfl) ?_
        refine lv_imul hx hb dX8_broken_27 ?_
        refine lv_iload_n hx hb dX8_broken_28 rfl (lv_at hl 1 rfl) ?_
        refine w_callS (As := [.ref (ad 73 0), .int ((6 : Int32) * (nI k12)), .int v1_12]) (rest := []) (st2 := .int (f_X8_checked ((6 : Int32) * (nI k12)) v1_12 σ12) :: []) hC hW hS hl cs_X8_244 (c_X8_checked l hl9 D ca base ad σ12 ((6 : Int32) * (nI k12)) v1_12 ⟨k12, by omega, rfl⟩) rfl rfl rfl ⟨Nat.le_of_ble_eq_true rfl, Nat.le_of_ble_eq_true rfl⟩ (Nat.le_of_ble_eq_true rfl) dX8_broken_29 ⟨Nat.le_of_ble_eq_true rfl, Nat.le_of_ble_eq_true rfl⟩ (fun H locs hW hS => ?_)
        refine lv_aload_n hx hb dX8_broken_32 rfl (lv_at hl 2 rfl) ?_
        refine gf_X8_120 hC hW m_8 rfl dX8_broken_33 ?_
        refine lv_bipush (v := 6) hx hb dX8_broken_36 (by decide) ?_
        refine lv_iload_n hx hb dX8_broken_38 rfl (lv_at hl 0 rfl) ?_
        refine lv_imul hx hb dX8_broken_39 ?_
        refine lv_iconst (v := 5) hx hb dX8_broken_40 (by decide) ?_
        refine lv_iadd hx hb dX8_broken_41 ?_
        refine w_iald hC hW m_73 (n := 120) rfl (rw_in (j := 5) ⟨k12, by omega, rfl⟩ rfl (by decide)) dX8_broken_42 ?_
        refine lv_icmp_eq (tgt := 48) hx hb dX8_broken_43 (by decide) (fun c_2 => ?_) (fun c_2 => ?_)
        · refine lv_aload_n hx hb dX8_broken_48 rfl (lv_at hl 2 rfl) ?_
          refine gf_X8_120 hC hW m_8 rfl dX8_broken_49 ?_
          refine lv_bipush (v := 6) hx hb dX8_broken_52 (by decide) ?_
          refine lv_iload_n hx hb dX8_broken_54 rfl (lv_at hl 0 rfl) ?_
          refine lv_imul hx hb dX8_broken_55 ?_
          refine lv_iconst (v := 5) hx hb dX8_broken_56 (by decide) ?_
          refine lv_iadd hx hb dX8_broken_57 ?_
          refine w_iald hC hW m_73 (n := 120) rfl (rw_in (j := 5) ⟨k12, by omega, rfl⟩ rfl (by decide)) dX8_broken_58 ?_
          refine lv_istore_n (lv' := [(1, .int (σ12 73 0 ((((6 : Int32) * (nI k12)) + (5 : Int32)).toNatClampNeg))), (2, .int (nI k12)), (0, .ref (ad 8 0))]) hx hb dX8_broken_59 rfl hl (by decide) rfl (fun ls hl => ?_)
          refine lv_iinc (v := nI (k12 + 1)) (lv' := [(2, .int (nI (k12 + 1))), (1, .int (σ12 73 0 ((((6 : Int32) * (nI k12)) + (5 : Int32)).toNatClampNeg))), (0, .ref (ad 8 0))]) hx hb dX8_broken_60 hl (k := 1) rfl (nI_1 _) (by decide) rfl (fun ls hl => ?_)
          refine lv_goto (tgt := 12) hx hb dX8_broken_63 (by decide) ?_
          refine ih_12 (k12 + 1) (σ12 73 0 ((((6 : Int32) * (nI k12)) + (5 : Int32)).toNatClampNeg)) σ12 _ _ _ (by omega) (by omega) hk8_12 hW hS (lv_sub hl [0, 1, 2] rfl) ?_
          rw [hO, f_X8_broken_L12, if_neg c_1, if_pos c_2]
        · refine lv_iload_n hx hb dX8_broken_46 rfl (lv_at hl 0 rfl) ?_
          have hO : f_X8_broken σ = (nI k12, σ12) := by rw [hO, f_X8_broken_L12, if_neg c_1, if_neg c_2]
          exact w_iretS hC hW hS hO (Nat.le_of_ble_eq_true rfl) (Nat.le_of_ble_eq_true rfl) dX8_broken_47
  refine h_12 21 0 (σ 8 0 42) (us σ 8 0 0 0) _ _ _ (by omega) (by omega) rfl hW hS (lv_sub hl [0, 1, 2] rfl) ?_
  rw [f_X8_broken]
theorem fr_f_X8_broken_L12 {kk : Nat}  (h8 : kk ≠ 8) : ∀ (y0 : Nat) (y1 : Nat) (y2 : Int32) (σ : Sg), (f_X8_broken_L12 y0 y1 y2 σ).2 kk = σ kk := by
  intro y0
  induction y0 with
  | zero => intros; rfl
  | succ n ih =>
    intros
    rw [f_X8_broken_L12]
    repeat' split
    all_goals (first | (simp only [ih, us_kk, ne_eq, not_false_eq_true, h8]; done) | with_reducible rfl | (simp only [ih, us_kk, ne_eq, not_false_eq_true, h8]; with_reducible rfl))
theorem fr_X8_broken {kk : Nat}   {σ : Sg} (h8 : kk ≠ 8) : (f_X8_broken σ).2 kk = σ kk := by
  rw [f_X8_broken]
  repeat' split
  all_goals (first | (simp only [us_kk, ne_eq, not_false_eq_true, h8, fr_f_X8_broken_L12]; done) | with_reducible rfl | (simp only [us_kk, ne_eq, not_false_eq_true, h8, fr_f_X8_broken_L12]; with_reducible rfl))
theorem fs_f_X8_broken_L12 {jj : Nat}  (h0 : jj ≠ 0) : ∀ (y0 : Nat) (y1 : Nat) (y2 : Int32) (σ : Sg), (f_X8_broken_L12 y0 y1 y2 σ).2 8 0 jj = σ 8 0 jj := by
  intro y0
  induction y0 with
  | zero => intros; rfl
  | succ n ih =>
    intros
    rw [f_X8_broken_L12]
    repeat' split
    all_goals (first | with_reducible rfl | (simp [ih, us_k, us_j, ne_eq, not_false_eq_true, h0]; done))
theorem fs_X8_broken {jj : Nat}   {σ : Sg} (h0 : jj ≠ 0) : (f_X8_broken σ).2 8 0 jj = σ 8 0 jj := by
  rw [f_X8_broken]
  repeat' split
  all_goals (first | with_reducible rfl | (simp [us_k, us_j, ne_eq, not_false_eq_true, h0, fs_f_X8_broken_L12]; done))
def f_X8_makeToken (a : Int32) (b : Int32) (t : Int32) (r : Int32) (u : Int32) (f : Int32) (σ : Sg) : Int32 × Sg :=
  (σ 8 0 27, us (us (us (us (us (us (us (us σ 8 0 27 ((σ 8 0 27) + (1 : Int32))) 61 0 ((σ 8 0 27).toNatClampNeg) a) 62 0 ((σ 8 0 27).toNatClampNeg) b) 58 0 ((σ 8 0 27).toNatClampNeg) t) 59 0 ((σ 8 0 27).toNatClampNeg) r) 60 0 ((σ 8 0 27).toNatClampNeg) u) 65 0 ((σ 8 0 27).toNatClampNeg) f) 66 0 ((σ 8 0 27).toNatClampNeg) 1)
set_option maxHeartbeats 4000000 in
set_option maxRecDepth 100000 in
theorem c_X8_makeToken (l : Launch) (hl9 : l.stackTraces = false) (D : va_G) (ca : Nat → ClassId) (base : Nat) (ad : Adr) (σ : Sg) (a : Int32) (b : Int32) (t : Int32) (r : Int32) (u : Int32) (f : Int32) (hq : vp_in (σ 8 0 27) 10) : Mt l yX8_makeToken cX8_makeToken 8 (some .int) { frames := 0, cells := 0, slots := 0, locals := 0 } D ca base ad ρm Lm [.ref (ad 8 0), .int a, .int b, .int t, .int r, .int u, .int f] σ (some (.int (f_X8_makeToken a b t r u f σ).1)) (f_X8_makeToken a b t r u f σ).2 := by
  refine w_ofW (by decide) (Nat.le_of_ble_eq_true rfl) rfl ?_
  intro p e s m args below meth c hC hW hS ls hl hin
  have hx := hC.1
  have hb := hC.2.1
  refine lv_aload_n hx hb dX8_makeToken_0 rfl (lv_at hl 0 rfl) ?_
  refine gf_X8_139 hC hW m_8 dX8_makeToken_1 ?_
  refine lv_istore (lv' := [(7, .int (σ 8 0 27)), (0, .ref (ad 8 0)), (1, .int a), (2, .int b), (3, .int t), (4, .int r), (5, .int u), (6, .int f)]) hx hb dX8_makeToken_4 hl (by decide) rfl (fun ls hl => ?_)
  refine lv_aload_n hx hb dX8_makeToken_6 rfl (lv_at hl 1 rfl) ?_
  refine lv_dup hx hb dX8_makeToken_7 rfl ?_
  refine gf_X8_139 hC hW m_8 dX8_makeToken_8 ?_
  refine lv_iconst (v := 1) hx hb dX8_makeToken_11 (by decide) ?_
  refine lv_iadd hx hb dX8_makeToken_12 ?_
  refine pf_X8_139 hC hW m_8 hS dX8_makeToken_13 (fun H locs hW hS => ?_)
  refine lv_aload_n hx hb dX8_makeToken_16 rfl (lv_at hl 1 rfl) ?_
  refine gf_X8_92 hC hW m_8 rfl dX8_makeToken_17 ?_
  refine lv_iload hx hb dX8_makeToken_20 (lv_at hl 0 rfl) ?_
  refine lv_iload_n hx hb dX8_makeToken_22 rfl (lv_at hl 2 rfl) ?_
  refine w_iast hC hW hS m_61 (n := 10) (fun _ => rfl) (by first | assumption | exact ik_in hM (by assumption) | exact vp_in_c (y := 10) (by decide) (by decide) (by assumption) (by assumption) | (exfalso; contradiction)) dX8_makeToken_23 (fun H locs hW hS => ?_)
  refine lv_aload_n hx hb dX8_makeToken_24 rfl (lv_at hl 1 rfl) ?_
  refine gf_X8_95 hC hW m_8 rfl dX8_makeToken_25 ?_
  refine lv_iload hx hb dX8_makeToken_28 (lv_at hl 0 rfl) ?_
  refine lv_iload_n hx hb dX8_makeToken_30 rfl (lv_at hl 3 rfl) ?_
  refine w_iast hC hW hS m_62 (n := 10) (fun _ => rfl) (by first | assumption | exact ik_in hM (by assumption) | exact vp_in_c (y := 10) (by decide) (by decide) (by assumption) (by assumption) | (exfalso; contradiction)) dX8_makeToken_31 (fun H locs hW hS => ?_)
  refine lv_aload_n hx hb dX8_makeToken_32 rfl (lv_at hl 1 rfl) ?_
  refine gf_X8_83 hC hW m_8 rfl dX8_makeToken_33 ?_
  refine lv_iload hx hb dX8_makeToken_36 (lv_at hl 0 rfl) ?_
  refine lv_iload_n hx hb dX8_makeToken_38 rfl (lv_at hl 4 rfl) ?_
  refine w_iast hC hW hS m_58 (n := 10) (fun _ => rfl) (by first | assumption | exact ik_in hM (by assumption) | exact vp_in_c (y := 10) (by decide) (by decide) (by assumption) (by assumption) | (exfalso; contradiction)) dX8_makeToken_39 (fun H locs hW hS => ?_)
  refine lv_aload_n hx hb dX8_makeToken_40 rfl (lv_at hl 1 rfl) ?_
  refine gf_X8_86 hC hW m_8 rfl dX8_makeToken_41 ?_
  refine lv_iload hx hb dX8_makeToken_44 (lv_at hl 0 rfl) ?_
  refine lv_iload hx hb dX8_makeToken_46 (lv_at hl 5 rfl) ?_
  refine w_iast hC hW hS m_59 (n := 10) (fun _ => rfl) (by first | assumption | exact ik_in hM (by assumption) | exact vp_in_c (y := 10) (by decide) (by decide) (by assumption) (by assumption) | (exfalso; contradiction)) dX8_makeToken_48 (fun H locs hW hS => ?_)
  refine lv_aload_n hx hb dX8_makeToken_49 rfl (lv_at hl 1 rfl) ?_
  refine gf_X8_89 hC hW m_8 rfl dX8_makeToken_50 ?_
  refine lv_iload hx hb dX8_makeToken_53 (lv_at hl 0 rfl) ?_
  refine lv_iload hx hb dX8_makeToken_55 (lv_at hl 6 rfl) ?_
  refine w_iast hC hW hS m_60 (n := 10) (fun _ => rfl) (by first | assumption | exact ik_in hM (by assumption) | exact vp_in_c (y := 10) (by decide) (by decide) (by assumption) (by assumption) | (exfalso; contradiction)) dX8_makeToken_57 (fun H locs hW hS => ?_)
  refine lv_aload_n hx hb dX8_makeToken_58 rfl (lv_at hl 1 rfl) ?_
  refine gf_X8_104 hC hW m_8 rfl dX8_makeToken_59 ?_
  refine lv_iload hx hb dX8_makeToken_62 (lv_at hl 0 rfl) ?_
  refine lv_iload hx hb dX8_makeToken_64 (lv_at hl 7 rfl) ?_
  refine w_iast hC hW hS m_65 (n := 10) (fun _ => rfl) (by first | assumption | exact ik_in hM (by assumption) | exact vp_in_c (y := 10) (by decide) (by decide) (by assumption) (by assumption) | (exfalso; contradiction)) dX8_makeToken_66 (fun H locs hW hS => ?_)
  refine lv_aload_n hx hb dX8_makeToken_67 rfl (lv_at hl 1 rfl) ?_
  refine gf_X8_107 hC hW m_8 rfl dX8_makeToken_68 ?_
  refine lv_iload hx hb dX8_makeToken_71 (lv_at hl 0 rfl) ?_
  refine lv_iconst (v := 1) hx hb dX8_makeToken_73 (by decide) ?_
  refine w_zast hC hW hS m_66 (n := 10) (fun _ => rfl) (by decide) (by first | assumption | exact ik_in hM (by assumption) | exact vp_in_c (y := 10) (by decide) (by decide) (by assumption) (by assumption) | (exfalso; contradiction)) dX8_makeToken_74 (fun H locs hW hS => ?_)
  refine lv_iload hx hb dX8_makeToken_75 (lv_at hl 0 rfl) ?_
  have hO : f_X8_makeToken a b t r u f σ = (σ 8 0 27, us (us (us (us (us (us (us (us σ 8 0 27 ((σ 8 0 27) + (1 : Int32))) 61 0 ((σ 8 0 27).toNatClampNeg) a) 62 0 ((σ 8 0 27).toNatClampNeg) b) 58 0 ((σ 8 0 27).toNatClampNeg) t) 59 0 ((σ 8 0 27).toNatClampNeg) r) 60 0 ((σ 8 0 27).toNatClampNeg) u) 65 0 ((σ 8 0 27).toNatClampNeg) f) 66 0 ((σ 8 0 27).toNatClampNeg) 1) := by rw [f_X8_makeToken]
  exact w_iretS hC hW hS hO (Nat.le_of_ble_eq_true rfl) (Nat.le_of_ble_eq_true rfl) dX8_makeToken_77
theorem fr_X8_makeToken {kk : Nat}  {a : Int32} {b : Int32} {t : Int32} {r : Int32} {u : Int32} {f : Int32} {σ : Sg} (h8 : kk ≠ 8) (h58 : kk ≠ 58) (h59 : kk ≠ 59) (h60 : kk ≠ 60) (h61 : kk ≠ 61) (h62 : kk ≠ 62) (h65 : kk ≠ 65) (h66 : kk ≠ 66) : (f_X8_makeToken a b t r u f σ).2 kk = σ kk := by
  rw [f_X8_makeToken]
  repeat' split
  all_goals (first | (simp only [us_kk, ne_eq, not_false_eq_true, h8, h58, h59, h60, h61, h62, h65, h66]; done) | with_reducible rfl | (simp only [us_kk, ne_eq, not_false_eq_true, h8, h58, h59, h60, h61, h62, h65, h66]; with_reducible rfl))
theorem fs_X8_makeToken {jj : Nat}  {a : Int32} {b : Int32} {t : Int32} {r : Int32} {u : Int32} {f : Int32} {σ : Sg} (h27 : jj ≠ 27) : (f_X8_makeToken a b t r u f σ).2 8 0 jj = σ 8 0 jj := by
  rw [f_X8_makeToken]
  repeat' split
  all_goals (first | with_reducible rfl | (simp [us_k, us_j, ne_eq, not_false_eq_true, h27]; done))
theorem mk_in {a b t r u f : Int32} {σ : Sg} (h : vp_in (σ 8 0 27) 10) : vp_in (f_X8_makeToken a b t r u f σ).1 10 := by
  unfold f_X8_makeToken
  exact h
def f_X8_token (k : Int32) (t : Int32) (v : Int32) (u : Int32) (σ : Sg) : Int32 × Sg :=
  if (f_X8_isProcess k σ) = 0 then (if (f_X8_within v 1 7) = 0 then (0, us σ 8 0 0 1)
    else if (f_X8_within u (σ 8 0 37) 10000) = 0 then (0, us σ 8 0 0 1)
    else (0, us σ 8 0 0 1))
  else if (f_X8_isThing t σ) = 0 then (if (f_X8_within v 1 7) = 0 then (0, us σ 8 0 0 1)
    else if (f_X8_within u (σ 8 0 37) 10000) = 0 then (0, us σ 8 0 0 1)
    else (0, us σ 8 0 0 1))
  else if (f_X8_within v 1 7) = 0 then (0, us σ 8 0 0 2)
  else if (f_X8_within u (σ 8 0 37) 10000) = 0 then (0, us σ 8 0 0 2)
  else if (σ 8 0 27) = 10 then (0, us σ 8 0 0 3)
  else ((f_X8_makeToken k k t v u (-1) (us σ 8 0 0 0)).1, us (us ((f_X8_makeToken k k t v u (-1) (us σ 8 0 0 0)).2) 63 0 (((f_X8_makeToken k k t v u (-1) (us σ 8 0 0 0)).1).toNatClampNeg) (σ 49 0 k.toNatClampNeg)) 64 0 (((f_X8_makeToken k k t v u (-1) (us σ 8 0 0 0)).1).toNatClampNeg) (σ 50 0 k.toNatClampNeg))
set_option maxHeartbeats 4000000 in
set_option maxRecDepth 100000 in
theorem c_X8_token (l : Launch) (hl9 : l.stackTraces = false) (D : va_G) (ca : Nat → ClassId) (base : Nat) (ad : Adr) (σ : Sg) (k : Int32) (t : Int32) (v : Int32) (u : Int32) (hM : MInv σ) : Mt l yX8_token cX8_token 8 (some .int) { frames := 2, cells := 0, slots := 0, locals := 43 } D ca base ad ρm Lm [.ref (ad 8 0), .int k, .int t, .int v, .int u] σ (some (.int (f_X8_token k t v u σ).1)) (f_X8_token k t v u σ).2 := by
  refine w_ofW (by decide) (Nat.le_of_ble_eq_true rfl) rfl ?_
  intro p e s m args below meth c hC hW hS ls hl hin
  have hx := hC.1
  have hb := hC.2.1
  refine lv_aload_n hx hb dX8_token_0 rfl (lv_at hl 0 rfl) ?_
  refine lv_iload_n hx hb dX8_token_1 rfl (lv_at hl 1 rfl) ?_
  refine w_callV (As := [.int k]) (rest := []) (st2 := .int (f_X8_isProcess k σ) :: []) hC hW hS hl cv_X8_166 m_8 (by decide) rfl (c_X8_isProcess l hl9 D ca base ad σ k ) rfl rfl rfl ⟨Nat.le_of_ble_eq_true rfl, Nat.le_of_ble_eq_true rfl⟩ (Nat.le_of_ble_eq_true rfl) dX8_token_2 ⟨Nat.le_of_ble_eq_true rfl, Nat.le_of_ble_eq_true rfl⟩ (fun H locs hW hS => ?_)
  refine lv_if_eq (tgt := 20) hx hb dX8_token_5 (by decide) (fun c_1 => ?_) (fun c_1 => ?_)
  · refine lv_iconst (v := 0) hx hb dX8_token_20 (by decide) ?_
    refine lv_istore (lv' := [(5, .int 0), (0, .ref (ad 8 0)), (1, .int k), (2, .int t), (3, .int v), (4, .int u)]) hx hb dX8_token_21 hl (by decide) rfl (fun ls hl => ?_)
    refine lv_iload_n hx hb dX8_token_23 rfl (lv_at hl 4 rfl) ?_
    refine lv_iconst (v := 1) hx hb dX8_token_24 (by decide) ?_
    refine lv_bipush (v := 7) hx hb dX8_token_25 (by decide) ?_
    refine w_callS (As := [.int v, .int 1, .int 7]) (rest := []) (st2 := .int (f_X8_within v 1 7) :: []) hC hW hS hl cs_X8_129 (c_X8_within l hl9 D ca base ad σ v 1 7 ) rfl rfl rfl ⟨Nat.le_of_ble_eq_true rfl, Nat.le_of_ble_eq_true rfl⟩ (Nat.le_of_ble_eq_true rfl) dX8_token_27 ⟨Nat.le_of_ble_eq_true rfl, Nat.le_of_ble_eq_true rfl⟩ (fun H locs hW hS => ?_)
    refine lv_if_eq (tgt := 52) hx hb dX8_token_30 (by decide) (fun c_2 => ?_) (fun c_2 => ?_)
    · refine lv_iconst (v := 0) hx hb dX8_token_52 (by decide) ?_
      refine lv_istore (lv' := [(6, .int 0), (5, .int 0), (0, .ref (ad 8 0)), (1, .int k), (2, .int t), (3, .int v), (4, .int u)]) hx hb dX8_token_53 hl (by decide) rfl (fun ls hl => ?_)
      refine lv_aload_n hx hb dX8_token_55 rfl (lv_at hl 2 rfl) ?_
      refine lv_iload hx hb dX8_token_56 (lv_at hl 1 rfl) ?_
      refine lv_if_ne (tgt := 65) hx hb dX8_token_58 (by decide) (fun c => absurd (by decide) c) (fun _ => ?_)
      refine lv_iconst (v := 1) hx hb dX8_token_61 (by decide) ?_
      refine lv_goto (tgt := 88) hx hb dX8_token_62 (by decide) ?_
      refine w_callV (As := [.int 1]) (rest := []) (st2 := .int (f_X8_rf 1) :: []) hC hW hS hl cv_X8_154 m_8 (by decide) rfl (c_X8_refused l hl9 D ca base ad σ 1 ) rfl rfl rfl ⟨Nat.le_of_ble_eq_true rfl, Nat.le_of_ble_eq_true rfl⟩ (Nat.le_of_ble_eq_true rfl) dX8_token_88 ⟨Nat.le_of_ble_eq_true rfl, Nat.le_of_ble_eq_true rfl⟩ (fun H locs hW hS => ?_)
      refine lv_eqi (y := 1) (by decide) ?_
      refine lv_if_eq (tgt := 96) hx hb dX8_token_91 (by decide) (fun c => absurd c (by decide)) (fun _ => ?_)
      refine lv_iconst (v := 0) hx hb dX8_token_94 (by decide) ?_
      have hO : f_X8_token k t v u σ = (0, us σ 8 0 0 1) := by rw [f_X8_token, if_pos c_1, if_pos c_2]
      exact w_iretS hC hW hS hO (Nat.le_of_ble_eq_true rfl) (Nat.le_of_ble_eq_true rfl) dX8_token_95
    · refine lv_iload hx hb dX8_token_33 (lv_at hl 5 rfl) ?_
      refine lv_aload_n hx hb dX8_token_35 rfl (lv_at hl 1 rfl) ?_
      refine gf_X8_223 hC hW m_8 dX8_token_36 ?_
      refine lv_sipush (v := 10000) hx hb dX8_token_39 (by decide) ?_
      refine w_callS (As := [.int u, .int (σ 8 0 37), .int 10000]) (rest := []) (st2 := .int (f_X8_within u (σ 8 0 37) 10000) :: []) hC hW hS hl cs_X8_129 (c_X8_within l hl9 D ca base ad σ u (σ 8 0 37) 10000 ) rfl rfl rfl ⟨Nat.le_of_ble_eq_true rfl, Nat.le_of_ble_eq_true rfl⟩ (Nat.le_of_ble_eq_true rfl) dX8_token_42 ⟨Nat.le_of_ble_eq_true rfl, Nat.le_of_ble_eq_true rfl⟩ (fun H locs hW hS => ?_)
      refine lv_if_eq (tgt := 52) hx hb dX8_token_45 (by decide) (fun c_3 => ?_) (fun c_3 => ?_)
      · refine lv_iconst (v := 0) hx hb dX8_token_52 (by decide) ?_
        refine lv_istore (lv' := [(6, .int 0), (5, .int 0), (0, .ref (ad 8 0)), (1, .int k), (2, .int t), (3, .int v), (4, .int u)]) hx hb dX8_token_53 hl (by decide) rfl (fun ls hl => ?_)
        refine lv_aload_n hx hb dX8_token_55 rfl (lv_at hl 2 rfl) ?_
        refine lv_iload hx hb dX8_token_56 (lv_at hl 1 rfl) ?_
        refine lv_if_ne (tgt := 65) hx hb dX8_token_58 (by decide) (fun c => absurd (by decide) c) (fun _ => ?_)
        refine lv_iconst (v := 1) hx hb dX8_token_61 (by decide) ?_
        refine lv_goto (tgt := 88) hx hb dX8_token_62 (by decide) ?_
        refine w_callV (As := [.int 1]) (rest := []) (st2 := .int (f_X8_rf 1) :: []) hC hW hS hl cv_X8_154 m_8 (by decide) rfl (c_X8_refused l hl9 D ca base ad σ 1 ) rfl rfl rfl ⟨Nat.le_of_ble_eq_true rfl, Nat.le_of_ble_eq_true rfl⟩ (Nat.le_of_ble_eq_true rfl) dX8_token_88 ⟨Nat.le_of_ble_eq_true rfl, Nat.le_of_ble_eq_true rfl⟩ (fun H locs hW hS => ?_)
        refine lv_eqi (y := 1) (by decide) ?_
        refine lv_if_eq (tgt := 96) hx hb dX8_token_91 (by decide) (fun c => absurd c (by decide)) (fun _ => ?_)
        refine lv_iconst (v := 0) hx hb dX8_token_94 (by decide) ?_
        have hO : f_X8_token k t v u σ = (0, us σ 8 0 0 1) := by rw [f_X8_token, if_pos c_1, if_neg c_2, if_pos c_3]
        exact w_iretS hC hW hS hO (Nat.le_of_ble_eq_true rfl) (Nat.le_of_ble_eq_true rfl) dX8_token_95
      · refine lv_iconst (v := 1) hx hb dX8_token_48 (by decide) ?_
        refine lv_goto (tgt := 53) hx hb dX8_token_49 (by decide) ?_
        refine lv_istore (lv' := [(6, .int 1), (5, .int 0), (0, .ref (ad 8 0)), (1, .int k), (2, .int t), (3, .int v), (4, .int u)]) hx hb dX8_token_53 hl (by decide) rfl (fun ls hl => ?_)
        refine lv_aload_n hx hb dX8_token_55 rfl (lv_at hl 2 rfl) ?_
        refine lv_iload hx hb dX8_token_56 (lv_at hl 1 rfl) ?_
        refine lv_if_ne (tgt := 65) hx hb dX8_token_58 (by decide) (fun c => absurd (by decide) c) (fun _ => ?_)
        refine lv_iconst (v := 1) hx hb dX8_token_61 (by decide) ?_
        refine lv_goto (tgt := 88) hx hb dX8_token_62 (by decide) ?_
        refine w_callV (As := [.int 1]) (rest := []) (st2 := .int (f_X8_rf 1) :: []) hC hW hS hl cv_X8_154 m_8 (by decide) rfl (c_X8_refused l hl9 D ca base ad σ 1 ) rfl rfl rfl ⟨Nat.le_of_ble_eq_true rfl, Nat.le_of_ble_eq_true rfl⟩ (Nat.le_of_ble_eq_true rfl) dX8_token_88 ⟨Nat.le_of_ble_eq_true rfl, Nat.le_of_ble_eq_true rfl⟩ (fun H locs hW hS => ?_)
        refine lv_eqi (y := 1) (by decide) ?_
        refine lv_if_eq (tgt := 96) hx hb dX8_token_91 (by decide) (fun c => absurd c (by decide)) (fun _ => ?_)
        refine lv_iconst (v := 0) hx hb dX8_token_94 (by decide) ?_
        have hO : f_X8_token k t v u σ = (0, us σ 8 0 0 1) := by rw [f_X8_token, if_pos c_1, if_neg c_2, if_neg c_3]
        exact w_iretS hC hW hS hO (Nat.le_of_ble_eq_true rfl) (Nat.le_of_ble_eq_true rfl) dX8_token_95
  · refine lv_aload_n hx hb dX8_token_8 rfl (lv_at hl 0 rfl) ?_
    refine lv_iload_n hx hb dX8_token_9 rfl (lv_at hl 2 rfl) ?_
    refine w_callV (As := [.int t]) (rest := []) (st2 := .int (f_X8_isThing t σ) :: []) hC hW hS hl cv_X8_159 m_8 (by decide) rfl (c_X8_isThing l hl9 D ca base ad σ t ) rfl rfl rfl ⟨Nat.le_of_ble_eq_true rfl, Nat.le_of_ble_eq_true rfl⟩ (Nat.le_of_ble_eq_true rfl) dX8_token_10 ⟨Nat.le_of_ble_eq_true rfl, Nat.le_of_ble_eq_true rfl⟩ (fun H locs hW hS => ?_)
    refine lv_if_eq (tgt := 20) hx hb dX8_token_13 (by decide) (fun c_4 => ?_) (fun c_4 => ?_)
    · refine lv_iconst (v := 0) hx hb dX8_token_20 (by decide) ?_
      refine lv_istore (lv' := [(5, .int 0), (0, .ref (ad 8 0)), (1, .int k), (2, .int t), (3, .int v), (4, .int u)]) hx hb dX8_token_21 hl (by decide) rfl (fun ls hl => ?_)
      refine lv_iload_n hx hb dX8_token_23 rfl (lv_at hl 4 rfl) ?_
      refine lv_iconst (v := 1) hx hb dX8_token_24 (by decide) ?_
      refine lv_bipush (v := 7) hx hb dX8_token_25 (by decide) ?_
      refine w_callS (As := [.int v, .int 1, .int 7]) (rest := []) (st2 := .int (f_X8_within v 1 7) :: []) hC hW hS hl cs_X8_129 (c_X8_within l hl9 D ca base ad σ v 1 7 ) rfl rfl rfl ⟨Nat.le_of_ble_eq_true rfl, Nat.le_of_ble_eq_true rfl⟩ (Nat.le_of_ble_eq_true rfl) dX8_token_27 ⟨Nat.le_of_ble_eq_true rfl, Nat.le_of_ble_eq_true rfl⟩ (fun H locs hW hS => ?_)
      refine lv_if_eq (tgt := 52) hx hb dX8_token_30 (by decide) (fun c_5 => ?_) (fun c_5 => ?_)
      · refine lv_iconst (v := 0) hx hb dX8_token_52 (by decide) ?_
        refine lv_istore (lv' := [(6, .int 0), (5, .int 0), (0, .ref (ad 8 0)), (1, .int k), (2, .int t), (3, .int v), (4, .int u)]) hx hb dX8_token_53 hl (by decide) rfl (fun ls hl => ?_)
        refine lv_aload_n hx hb dX8_token_55 rfl (lv_at hl 2 rfl) ?_
        refine lv_iload hx hb dX8_token_56 (lv_at hl 1 rfl) ?_
        refine lv_if_ne (tgt := 65) hx hb dX8_token_58 (by decide) (fun c => absurd (by decide) c) (fun _ => ?_)
        refine lv_iconst (v := 1) hx hb dX8_token_61 (by decide) ?_
        refine lv_goto (tgt := 88) hx hb dX8_token_62 (by decide) ?_
        refine w_callV (As := [.int 1]) (rest := []) (st2 := .int (f_X8_rf 1) :: []) hC hW hS hl cv_X8_154 m_8 (by decide) rfl (c_X8_refused l hl9 D ca base ad σ 1 ) rfl rfl rfl ⟨Nat.le_of_ble_eq_true rfl, Nat.le_of_ble_eq_true rfl⟩ (Nat.le_of_ble_eq_true rfl) dX8_token_88 ⟨Nat.le_of_ble_eq_true rfl, Nat.le_of_ble_eq_true rfl⟩ (fun H locs hW hS => ?_)
        refine lv_eqi (y := 1) (by decide) ?_
        refine lv_if_eq (tgt := 96) hx hb dX8_token_91 (by decide) (fun c => absurd c (by decide)) (fun _ => ?_)
        refine lv_iconst (v := 0) hx hb dX8_token_94 (by decide) ?_
        have hO : f_X8_token k t v u σ = (0, us σ 8 0 0 1) := by rw [f_X8_token, if_neg c_1, if_pos c_4, if_pos c_5]
        exact w_iretS hC hW hS hO (Nat.le_of_ble_eq_true rfl) (Nat.le_of_ble_eq_true rfl) dX8_token_95
      · refine lv_iload hx hb dX8_token_33 (lv_at hl 5 rfl) ?_
        refine lv_aload_n hx hb dX8_token_35 rfl (lv_at hl 1 rfl) ?_
        refine gf_X8_223 hC hW m_8 dX8_token_36 ?_
        refine lv_sipush (v := 10000) hx hb dX8_token_39 (by decide) ?_
        refine w_callS (As := [.int u, .int (σ 8 0 37), .int 10000]) (rest := []) (st2 := .int (f_X8_within u (σ 8 0 37) 10000) :: []) hC hW hS hl cs_X8_129 (c_X8_within l hl9 D ca base ad σ u (σ 8 0 37) 10000 ) rfl rfl rfl ⟨Nat.le_of_ble_eq_true rfl, Nat.le_of_ble_eq_true rfl⟩ (Nat.le_of_ble_eq_true rfl) dX8_token_42 ⟨Nat.le_of_ble_eq_true rfl, Nat.le_of_ble_eq_true rfl⟩ (fun H locs hW hS => ?_)
        refine lv_if_eq (tgt := 52) hx hb dX8_token_45 (by decide) (fun c_6 => ?_) (fun c_6 => ?_)
        · refine lv_iconst (v := 0) hx hb dX8_token_52 (by decide) ?_
          refine lv_istore (lv' := [(6, .int 0), (5, .int 0), (0, .ref (ad 8 0)), (1, .int k), (2, .int t), (3, .int v), (4, .int u)]) hx hb dX8_token_53 hl (by decide) rfl (fun ls hl => ?_)
          refine lv_aload_n hx hb dX8_token_55 rfl (lv_at hl 2 rfl) ?_
          refine lv_iload hx hb dX8_token_56 (lv_at hl 1 rfl) ?_
          refine lv_if_ne (tgt := 65) hx hb dX8_token_58 (by decide) (fun c => absurd (by decide) c) (fun _ => ?_)
          refine lv_iconst (v := 1) hx hb dX8_token_61 (by decide) ?_
          refine lv_goto (tgt := 88) hx hb dX8_token_62 (by decide) ?_
          refine w_callV (As := [.int 1]) (rest := []) (st2 := .int (f_X8_rf 1) :: []) hC hW hS hl cv_X8_154 m_8 (by decide) rfl (c_X8_refused l hl9 D ca base ad σ 1 ) rfl rfl rfl ⟨Nat.le_of_ble_eq_true rfl, Nat.le_of_ble_eq_true rfl⟩ (Nat.le_of_ble_eq_true rfl) dX8_token_88 ⟨Nat.le_of_ble_eq_true rfl, Nat.le_of_ble_eq_true rfl⟩ (fun H locs hW hS => ?_)
          refine lv_eqi (y := 1) (by decide) ?_
          refine lv_if_eq (tgt := 96) hx hb dX8_token_91 (by decide) (fun c => absurd c (by decide)) (fun _ => ?_)
          refine lv_iconst (v := 0) hx hb dX8_token_94 (by decide) ?_
          have hO : f_X8_token k t v u σ = (0, us σ 8 0 0 1) := by rw [f_X8_token, if_neg c_1, if_pos c_4, if_neg c_5, if_pos c_6]
          exact w_iretS hC hW hS hO (Nat.le_of_ble_eq_true rfl) (Nat.le_of_ble_eq_true rfl) dX8_token_95
        · refine lv_iconst (v := 1) hx hb dX8_token_48 (by decide) ?_
          refine lv_goto (tgt := 53) hx hb dX8_token_49 (by decide) ?_
          refine lv_istore (lv' := [(6, .int 1), (5, .int 0), (0, .ref (ad 8 0)), (1, .int k), (2, .int t), (3, .int v), (4, .int u)]) hx hb dX8_token_53 hl (by decide) rfl (fun ls hl => ?_)
          refine lv_aload_n hx hb dX8_token_55 rfl (lv_at hl 2 rfl) ?_
          refine lv_iload hx hb dX8_token_56 (lv_at hl 1 rfl) ?_
          refine lv_if_ne (tgt := 65) hx hb dX8_token_58 (by decide) (fun c => absurd (by decide) c) (fun _ => ?_)
          refine lv_iconst (v := 1) hx hb dX8_token_61 (by decide) ?_
          refine lv_goto (tgt := 88) hx hb dX8_token_62 (by decide) ?_
          refine w_callV (As := [.int 1]) (rest := []) (st2 := .int (f_X8_rf 1) :: []) hC hW hS hl cv_X8_154 m_8 (by decide) rfl (c_X8_refused l hl9 D ca base ad σ 1 ) rfl rfl rfl ⟨Nat.le_of_ble_eq_true rfl, Nat.le_of_ble_eq_true rfl⟩ (Nat.le_of_ble_eq_true rfl) dX8_token_88 ⟨Nat.le_of_ble_eq_true rfl, Nat.le_of_ble_eq_true rfl⟩ (fun H locs hW hS => ?_)
          refine lv_eqi (y := 1) (by decide) ?_
          refine lv_if_eq (tgt := 96) hx hb dX8_token_91 (by decide) (fun c => absurd c (by decide)) (fun _ => ?_)
          refine lv_iconst (v := 0) hx hb dX8_token_94 (by decide) ?_
          have hO : f_X8_token k t v u σ = (0, us σ 8 0 0 1) := by rw [f_X8_token, if_neg c_1, if_pos c_4, if_neg c_5, if_neg c_6]
          exact w_iretS hC hW hS hO (Nat.le_of_ble_eq_true rfl) (Nat.le_of_ble_eq_true rfl) dX8_token_95
    · refine lv_iconst (v := 1) hx hb dX8_token_16 (by decide) ?_
      refine lv_goto (tgt := 21) hx hb dX8_token_17 (by decide) ?_
      refine lv_istore (lv' := [(5, .int 1), (0, .ref (ad 8 0)), (1, .int k), (2, .int t), (3, .int v), (4, .int u)]) hx hb dX8_token_21 hl (by decide) rfl (fun ls hl => ?_)
      refine lv_iload_n hx hb dX8_token_23 rfl (lv_at hl 4 rfl) ?_
      refine lv_iconst (v := 1) hx hb dX8_token_24 (by decide) ?_
      refine lv_bipush (v := 7) hx hb dX8_token_25 (by decide) ?_
      refine w_callS (As := [.int v, .int 1, .int 7]) (rest := []) (st2 := .int (f_X8_within v 1 7) :: []) hC hW hS hl cs_X8_129 (c_X8_within l hl9 D ca base ad σ v 1 7 ) rfl rfl rfl ⟨Nat.le_of_ble_eq_true rfl, Nat.le_of_ble_eq_true rfl⟩ (Nat.le_of_ble_eq_true rfl) dX8_token_27 ⟨Nat.le_of_ble_eq_true rfl, Nat.le_of_ble_eq_true rfl⟩ (fun H locs hW hS => ?_)
      refine lv_if_eq (tgt := 52) hx hb dX8_token_30 (by decide) (fun c_7 => ?_) (fun c_7 => ?_)
      · refine lv_iconst (v := 0) hx hb dX8_token_52 (by decide) ?_
        refine lv_istore (lv' := [(6, .int 0), (5, .int 1), (0, .ref (ad 8 0)), (1, .int k), (2, .int t), (3, .int v), (4, .int u)]) hx hb dX8_token_53 hl (by decide) rfl (fun ls hl => ?_)
        refine lv_aload_n hx hb dX8_token_55 rfl (lv_at hl 2 rfl) ?_
        refine lv_iload hx hb dX8_token_56 (lv_at hl 1 rfl) ?_
        refine lv_if_ne (tgt := 65) hx hb dX8_token_58 (by decide) (fun _ => ?_) (fun c => absurd c (by decide))
        refine lv_iload hx hb dX8_token_65 (lv_at hl 0 rfl) ?_
        refine lv_if_ne (tgt := 74) hx hb dX8_token_67 (by decide) (fun c => absurd (by decide) c) (fun _ => ?_)
        refine lv_iconst (v := 2) hx hb dX8_token_70 (by decide) ?_
        refine lv_goto (tgt := 88) hx hb dX8_token_71 (by decide) ?_
        refine w_callV (As := [.int 2]) (rest := []) (st2 := .int (f_X8_rf 2) :: []) hC hW hS hl cv_X8_154 m_8 (by decide) rfl (c_X8_refused l hl9 D ca base ad σ 2 ) rfl rfl rfl ⟨Nat.le_of_ble_eq_true rfl, Nat.le_of_ble_eq_true rfl⟩ (Nat.le_of_ble_eq_true rfl) dX8_token_88 ⟨Nat.le_of_ble_eq_true rfl, Nat.le_of_ble_eq_true rfl⟩ (fun H locs hW hS => ?_)
        refine lv_eqi (y := 1) (by decide) ?_
        refine lv_if_eq (tgt := 96) hx hb dX8_token_91 (by decide) (fun c => absurd c (by decide)) (fun _ => ?_)
        refine lv_iconst (v := 0) hx hb dX8_token_94 (by decide) ?_
        have hO : f_X8_token k t v u σ = (0, us σ 8 0 0 2) := by rw [f_X8_token, if_neg c_1, if_neg c_4, if_pos c_7]
        exact w_iretS hC hW hS hO (Nat.le_of_ble_eq_true rfl) (Nat.le_of_ble_eq_true rfl) dX8_token_95
      · refine lv_iload hx hb dX8_token_33 (lv_at hl 5 rfl) ?_
        refine lv_aload_n hx hb dX8_token_35 rfl (lv_at hl 1 rfl) ?_
        refine gf_X8_223 hC hW m_8 dX8_token_36 ?_
        refine lv_sipush (v := 10000) hx hb dX8_token_39 (by decide) ?_
        refine w_callS (As := [.int u, .int (σ 8 0 37), .int 10000]) (rest := []) (st2 := .int (f_X8_within u (σ 8 0 37) 10000) :: []) hC hW hS hl cs_X8_129 (c_X8_within l hl9 D ca base ad σ u (σ 8 0 37) 10000 ) rfl rfl rfl ⟨Nat.le_of_ble_eq_true rfl, Nat.le_of_ble_eq_true rfl⟩ (Nat.le_of_ble_eq_true rfl) dX8_token_42 ⟨Nat.le_of_ble_eq_true rfl, Nat.le_of_ble_eq_true rfl⟩ (fun H locs hW hS => ?_)
        refine lv_if_eq (tgt := 52) hx hb dX8_token_45 (by decide) (fun c_8 => ?_) (fun c_8 => ?_)
        · refine lv_iconst (v := 0) hx hb dX8_token_52 (by decide) ?_
          refine lv_istore (lv' := [(6, .int 0), (5, .int 1), (0, .ref (ad 8 0)), (1, .int k), (2, .int t), (3, .int v), (4, .int u)]) hx hb dX8_token_53 hl (by decide) rfl (fun ls hl => ?_)
          refine lv_aload_n hx hb dX8_token_55 rfl (lv_at hl 2 rfl) ?_
          refine lv_iload hx hb dX8_token_56 (lv_at hl 1 rfl) ?_
          refine lv_if_ne (tgt := 65) hx hb dX8_token_58 (by decide) (fun _ => ?_) (fun c => absurd c (by decide))
          refine lv_iload hx hb dX8_token_65 (lv_at hl 0 rfl) ?_
          refine lv_if_ne (tgt := 74) hx hb dX8_token_67 (by decide) (fun c => absurd (by decide) c) (fun _ => ?_)
          refine lv_iconst (v := 2) hx hb dX8_token_70 (by decide) ?_
          refine lv_goto (tgt := 88) hx hb dX8_token_71 (by decide) ?_
          refine w_callV (As := [.int 2]) (rest := []) (st2 := .int (f_X8_rf 2) :: []) hC hW hS hl cv_X8_154 m_8 (by decide) rfl (c_X8_refused l hl9 D ca base ad σ 2 ) rfl rfl rfl ⟨Nat.le_of_ble_eq_true rfl, Nat.le_of_ble_eq_true rfl⟩ (Nat.le_of_ble_eq_true rfl) dX8_token_88 ⟨Nat.le_of_ble_eq_true rfl, Nat.le_of_ble_eq_true rfl⟩ (fun H locs hW hS => ?_)
          refine lv_eqi (y := 1) (by decide) ?_
          refine lv_if_eq (tgt := 96) hx hb dX8_token_91 (by decide) (fun c => absurd c (by decide)) (fun _ => ?_)
          refine lv_iconst (v := 0) hx hb dX8_token_94 (by decide) ?_
          have hO : f_X8_token k t v u σ = (0, us σ 8 0 0 2) := by rw [f_X8_token, if_neg c_1, if_neg c_4, if_neg c_7, if_pos c_8]
          exact w_iretS hC hW hS hO (Nat.le_of_ble_eq_true rfl) (Nat.le_of_ble_eq_true rfl) dX8_token_95
        · refine lv_iconst (v := 1) hx hb dX8_token_48 (by decide) ?_
          refine lv_goto (tgt := 53) hx hb dX8_token_49 (by decide) ?_
          refine lv_istore (lv' := [(6, .int 1), (5, .int 1), (0, .ref (ad 8 0)), (1, .int k), (2, .int t), (3, .int v), (4, .int u)]) hx hb dX8_token_53 hl (by decide) rfl (fun ls hl => ?_)
          refine lv_aload_n hx hb dX8_token_55 rfl (lv_at hl 2 rfl) ?_
          refine lv_iload hx hb dX8_token_56 (lv_at hl 1 rfl) ?_
          refine lv_if_ne (tgt := 65) hx hb dX8_token_58 (by decide) (fun _ => ?_) (fun c => absurd c (by decide))
          refine lv_iload hx hb dX8_token_65 (lv_at hl 0 rfl) ?_
          refine lv_if_ne (tgt := 74) hx hb dX8_token_67 (by decide) (fun _ => ?_) (fun c => absurd c (by decide))
          refine lv_aload_n hx hb dX8_token_74 rfl (lv_at hl 2 rfl) ?_
          refine gf_X8_139 hC hW m_8 dX8_token_75 ?_
          refine lv_bipush (v := 10) hx hb dX8_token_78 (by decide) ?_
          refine lv_icmp_ne (tgt := 87) hx hb dX8_token_80 (by decide) (fun c_9 => ?_) (fun c_9 => ?_)
          · refine lv_iconst (v := 0) hx hb dX8_token_87 (by decide) ?_
            refine w_callV (As := [.int 0]) (rest := []) (st2 := .int (f_X8_rf 0) :: []) hC hW hS hl cv_X8_154 m_8 (by decide) rfl (c_X8_refused l hl9 D ca base ad σ 0 ) rfl rfl rfl ⟨Nat.le_of_ble_eq_true rfl, Nat.le_of_ble_eq_true rfl⟩ (Nat.le_of_ble_eq_true rfl) dX8_token_88 ⟨Nat.le_of_ble_eq_true rfl, Nat.le_of_ble_eq_true rfl⟩ (fun H locs hW hS => ?_)
            refine lv_eqi (y := 0) (by decide) ?_
            refine lv_if_eq (tgt := 96) hx hb dX8_token_91 (by decide) (fun _ => ?_) (fun c => absurd (by decide) c)
            refine lv_aload_n hx hb dX8_token_96 rfl (lv_at hl 2 rfl) ?_
            refine lv_iload_n hx hb dX8_token_97 rfl (lv_at hl 3 rfl) ?_
            refine lv_iload_n hx hb dX8_token_98 rfl (lv_at hl 3 rfl) ?_
            refine lv_iload_n hx hb dX8_token_99 rfl (lv_at hl 4 rfl) ?_
            refine lv_iload_n hx hb dX8_token_100 rfl (lv_at hl 5 rfl) ?_
            refine lv_iload hx hb dX8_token_101 (lv_at hl 6 rfl) ?_
            refine lv_iconst (v := (-1)) hx hb dX8_token_103 (by decide) ?_
            refine w_callV (As := [.int k, .int k, .int t, .int v, .int u, .int (-1)]) (rest := []) (st2 := .int ((f_X8_makeToken k k t v u (-1) (us σ 8 0 0 0)).1) :: []) hC hW hS hl cv_X8_235 m_8 (by decide) rfl (c_X8_makeToken l hl9 D ca base ad (us σ 8 0 0 0) k k t v u (-1) (by rw [us_j (by decide)]; exact kc_in2 hM (by assumption))) rfl rfl rfl ⟨Nat.le_of_ble_eq_true rfl, Nat.le_of_ble_eq_true rfl⟩ (Nat.le_of_ble_eq_true rfl) dX8_token_104 ⟨Nat.le_of_ble_eq_true rfl, Nat.le_of_ble_eq_true rfl⟩ (fun H locs hW hS => ?_)
            refine lv_istore (lv' := [(7, .int ((f_X8_makeToken k k t v u (-1) (us σ 8 0 0 0)).1)), (6, .int 1), (5, .int 1), (0, .ref (ad 8 0)), (1, .int k), (2, .int t), (3, .int v), (4, .int u)]) hx hb dX8_token_107 hl (by decide) rfl (fun ls hl => ?_)
            refine lv_aload_n hx hb dX8_token_109 rfl (lv_at hl 3 rfl) ?_
            refine gf_X8_98 hC hW m_8 rfl dX8_token_110 ?_
            refine lv_iload hx hb dX8_token_113 (lv_at hl 0 rfl) ?_
            refine lv_aload_n hx hb dX8_token_115 rfl (lv_at hl 3 rfl) ?_
            refine gf_X8_59 hC hW m_8 rfl dX8_token_116 ?_
            refine lv_iload_n hx hb dX8_token_119 rfl (lv_at hl 4 rfl) ?_
            refine w_iald hC hW m_49 (n := 8) rfl (by first | assumption | exact ip_in hM (by assumption) | exact vp_in_c (y := 8) (by decide) (by decide) (by assumption) (by assumption) | (exfalso; contradiction)) dX8_token_120 ?_
            refine lv_eqi (y := σ 49 0 k.toNatClampNeg) (by rw [fr_X8_makeToken (by decide) (by decide) (by decide) (by decide) (by decide) (by decide) (by decide) (by decide), us_k (by decide)]) ?_
            refine w_iast hC hW hS m_63 (n := 10) (fun _ => rfl) (mk_in (by rw [us_j (by decide)]; exact kc_in2 hM (by assumption))) dX8_token_121 (fun H locs hW hS => ?_)
            refine lv_aload_n hx hb dX8_token_122 rfl (lv_at hl 3 rfl) ?_
            refine gf_X8_101 hC hW m_8 rfl dX8_token_123 ?_
            refine lv_iload hx hb dX8_token_126 (lv_at hl 0 rfl) ?_
            refine lv_aload_n hx hb dX8_token_128 rfl (lv_at hl 3 rfl) ?_
            refine gf_X8_62 hC hW m_8 rfl dX8_token_129 ?_
            refine lv_iload_n hx hb dX8_token_132 rfl (lv_at hl 4 rfl) ?_
            refine w_iald hC hW m_50 (n := 8) rfl (by first | assumption | exact ip_in hM (by assumption) | exact vp_in_c (y := 8) (by decide) (by decide) (by assumption) (by assumption) | (exfalso; contradiction)) dX8_token_133 ?_
            refine lv_eqi (y := σ 50 0 k.toNatClampNeg) (by rw [us_k (by decide), fr_X8_makeToken (by decide) (by decide) (by decide) (by decide) (by decide) (by decide) (by decide) (by decide), us_k (by decide)]) ?_
            refine w_iast hC hW hS m_64 (n := 10) (fun _ => rfl) (mk_in (by rw [us_j (by decide)]; exact kc_in2 hM (by assumption))) dX8_token_134 (fun H locs hW hS => ?_)
            refine lv_iload hx hb dX8_token_135 (lv_at hl 0 rfl) ?_
            have hO : f_X8_token k t v u σ = ((f_X8_makeToken k k t v u (-1) (us σ 8 0 0 0)).1, us (us ((f_X8_makeToken k k t v u (-1) (us σ 8 0 0 0)).2) 63 0 (((f_X8_makeToken k k t v u (-1) (us σ 8 0 0 0)).1).toNatClampNeg) (σ 49 0 k.toNatClampNeg)) 64 0 (((f_X8_makeToken k k t v u (-1) (us σ 8 0 0 0)).1).toNatClampNeg) (σ 50 0 k.toNatClampNeg)) := by rw [f_X8_token, if_neg c_1, if_neg c_4, if_neg c_7, if_neg c_8, if_neg c_9]
            exact w_iretS hC hW hS hO (Nat.le_of_ble_eq_true rfl) (Nat.le_of_ble_eq_true rfl) dX8_token_137
          · refine lv_iconst (v := 3) hx hb dX8_token_83 (by decide) ?_
            refine lv_goto (tgt := 88) hx hb dX8_token_84 (by decide) ?_
            refine w_callV (As := [.int 3]) (rest := []) (st2 := .int (f_X8_rf 3) :: []) hC hW hS hl cv_X8_154 m_8 (by decide) rfl (c_X8_refused l hl9 D ca base ad σ 3 ) rfl rfl rfl ⟨Nat.le_of_ble_eq_true rfl, Nat.le_of_ble_eq_true rfl⟩ (Nat.le_of_ble_eq_true rfl) dX8_token_88 ⟨Nat.le_of_ble_eq_true rfl, Nat.le_of_ble_eq_true rfl⟩ (fun H locs hW hS => ?_)
            refine lv_eqi (y := 1) (by decide) ?_
            refine lv_if_eq (tgt := 96) hx hb dX8_token_91 (by decide) (fun c => absurd c (by decide)) (fun _ => ?_)
            refine lv_iconst (v := 0) hx hb dX8_token_94 (by decide) ?_
            have hO : f_X8_token k t v u σ = (0, us σ 8 0 0 3) := by rw [f_X8_token, if_neg c_1, if_neg c_4, if_neg c_7, if_neg c_8, if_pos c_9]
            exact w_iretS hC hW hS hO (Nat.le_of_ble_eq_true rfl) (Nat.le_of_ble_eq_true rfl) dX8_token_95
theorem fr_X8_token {kk : Nat}  {k : Int32} {t : Int32} {v : Int32} {u : Int32} {σ : Sg} (h8 : kk ≠ 8) (h58 : kk ≠ 58) (h59 : kk ≠ 59) (h60 : kk ≠ 60) (h61 : kk ≠ 61) (h62 : kk ≠ 62) (h63 : kk ≠ 63) (h64 : kk ≠ 64) (h65 : kk ≠ 65) (h66 : kk ≠ 66) : (f_X8_token k t v u σ).2 kk = σ kk := by
  rw [f_X8_token]
  repeat' split
  all_goals (first | (simp only [us_kk, ne_eq, not_false_eq_true, h8, h58, h59, h60, h61, h62, h63, h64, h65, h66, fr_X8_makeToken]; done) | with_reducible rfl | (simp only [us_kk, ne_eq, not_false_eq_true, h8, h58, h59, h60, h61, h62, h63, h64, h65, h66, fr_X8_makeToken]; with_reducible rfl))
theorem fs_X8_token {jj : Nat}  {k : Int32} {t : Int32} {v : Int32} {u : Int32} {σ : Sg} (h0 : jj ≠ 0) (h27 : jj ≠ 27) : (f_X8_token k t v u σ).2 8 0 jj = σ 8 0 jj := by
  rw [f_X8_token]
  repeat' split
  all_goals (first | with_reducible rfl | (simp [us_k, us_j, ne_eq, not_false_eq_true, h0, h27, fs_X8_makeToken]; done))

def f_X8_narrow (k : Int32) (t : Int32) (v : Int32) (u : Int32) (w : Int32) (σ : Sg) : Int32 × Sg :=
  if (f_X8_isProcess k σ) = 0 then (0, us σ 8 0 0 1)
  else if (f_X8_isProcess w σ) = 0 then (0, us σ 8 0 0 1)
  else if (f_X8_isToken t σ) = 0 then (0, us σ 8 0 0 1)
  else if (f_X8_within v 1 7) = 0 then (0, us σ 8 0 0 2)
  else if (f_X8_within u (σ 8 0 37) 10000) = 0 then (0, us σ 8 0 0 2)
  else if (v &&& ((σ 59 0 t.toNatClampNeg) ^^^ (-1 : Int32))) = 0 then (if (σ 60 0 t.toNatClampNeg) < u then (0, us σ 8 0 0 2)
    else if (σ 62 0 t.toNatClampNeg) = k then (if (σ 8 0 27) = 10 then (0, us σ 8 0 0 4)
      else ((f_X8_makeToken k w (σ 58 0 t.toNatClampNeg) v u t (us σ 8 0 0 0)).1, us (us ((f_X8_makeToken k w (σ 58 0 t.toNatClampNeg) v u t (us σ 8 0 0 0)).2) 63 0 (((f_X8_makeToken k w (σ 58 0 t.toNatClampNeg) v u t (us σ 8 0 0 0)).1).toNatClampNeg) (σ 63 0 t.toNatClampNeg)) 64 0 (((f_X8_makeToken k w (σ 58 0 t.toNatClampNeg) v u t (us σ 8 0 0 0)).1).toNatClampNeg) (σ 64 0 t.toNatClampNeg)))
    else (0, us σ 8 0 0 3))
  else (0, us σ 8 0 0 2)
set_option maxHeartbeats 4000000 in
set_option maxRecDepth 100000 in
theorem c_X8_narrow (l : Launch) (hl9 : l.stackTraces = false) (D : va_G) (ca : Nat → ClassId) (base : Nat) (ad : Adr) (σ : Sg) (k : Int32) (t : Int32) (v : Int32) (u : Int32) (w : Int32) (hM : MInv σ) : Mt l yX8_narrow cX8_narrow 9 (some .int) { frames := 2, cells := 0, slots := 0, locals := 43 } D ca base ad ρm Lm [.ref (ad 8 0), .int k, .int t, .int v, .int u, .int w] σ (some (.int (f_X8_narrow k t v u w σ).1)) (f_X8_narrow k t v u w σ).2 := by
  refine w_ofW (by decide) (Nat.le_of_ble_eq_true rfl) rfl ?_
  intro p e s m args below meth c hC hW hS ls hl hin
  have hx := hC.1
  have hb := hC.2.1
  refine lv_aload_n hx hb dX8_narrow_0 rfl (lv_at hl 0 rfl) ?_
  refine lv_iload_n hx hb dX8_narrow_1 rfl (lv_at hl 1 rfl) ?_
  refine w_callV (As := [.int k]) (rest := []) (st2 := .int (f_X8_isProcess k σ) :: []) hC hW hS hl cv_X8_166 m_8 (by decide) rfl (c_X8_isProcess l hl9 D ca base ad σ k ) rfl rfl rfl ⟨Nat.le_of_ble_eq_true rfl, Nat.le_of_ble_eq_true rfl⟩ (Nat.le_of_ble_eq_true rfl) dX8_narrow_2 ⟨Nat.le_of_ble_eq_true rfl, Nat.le_of_ble_eq_true rfl⟩ (fun H locs hW hS => ?_)
  refine lv_if_eq (tgt := 29) hx hb dX8_narrow_5 (by decide) (fun c_1 => ?_) (fun c_1 => ?_)
  · refine lv_iconst (v := 0) hx hb dX8_narrow_29 (by decide) ?_
    refine lv_istore (lv' := [(6, .int 0), (0, .ref (ad 8 0)), (1, .int k), (2, .int t), (3, .int v), (4, .int u), (5, .int w)]) hx hb dX8_narrow_30 hl (by decide) rfl (fun ls hl => ?_)
    refine lv_iload hx hb dX8_narrow_32 (lv_at hl 0 rfl) ?_
    refine lv_if_eq (tgt := 90) hx hb dX8_narrow_34 (by decide) (fun _ => ?_) (fun c => absurd (by decide) c)
    refine lv_iconst (v := 0) hx hb dX8_narrow_90 (by decide) ?_
    refine lv_istore (lv' := [(7, .int 0), (6, .int 0), (0, .ref (ad 8 0)), (1, .int k), (2, .int t), (3, .int v), (4, .int u), (5, .int w)]) hx hb dX8_narrow_91 hl (by decide) rfl (fun ls hl => ?_)
    refine lv_aload_n hx hb dX8_narrow_93 rfl (lv_at hl 2 rfl) ?_
    refine lv_iload hx hb dX8_narrow_94 (lv_at hl 1 rfl) ?_
    refine lv_if_ne (tgt := 103) hx hb dX8_narrow_96 (by decide) (fun c => absurd (by decide) c) (fun _ => ?_)
    refine lv_iconst (v := 1) hx hb dX8_narrow_99 (by decide) ?_
    refine lv_goto (tgt := 140) hx hb dX8_narrow_100 (by decide) ?_
    refine w_callV (As := [.int 1]) (rest := []) (st2 := .int (f_X8_rf 1) :: []) hC hW hS hl cv_X8_154 m_8 (by decide) rfl (c_X8_refused l hl9 D ca base ad σ 1 ) rfl rfl rfl ⟨Nat.le_of_ble_eq_true rfl, Nat.le_of_ble_eq_true rfl⟩ (Nat.le_of_ble_eq_true rfl) dX8_narrow_140 ⟨Nat.le_of_ble_eq_true rfl, Nat.le_of_ble_eq_true rfl⟩ (fun H locs hW hS => ?_)
    refine lv_eqi (y := 1) (by decide) ?_
    refine lv_if_eq (tgt := 148) hx hb dX8_narrow_143 (by decide) (fun c => absurd c (by decide)) (fun _ => ?_)
    refine lv_iconst (v := 0) hx hb dX8_narrow_146 (by decide) ?_
    have hO : f_X8_narrow k t v u w σ = (0, us σ 8 0 0 1) := by rw [f_X8_narrow, if_pos c_1]
    exact w_iretS hC hW hS hO (Nat.le_of_ble_eq_true rfl) (Nat.le_of_ble_eq_true rfl) dX8_narrow_147
  · refine lv_aload_n hx hb dX8_narrow_8 rfl (lv_at hl 0 rfl) ?_
    refine lv_iload hx hb dX8_narrow_9 (lv_at hl 5 rfl) ?_
    refine w_callV (As := [.int w]) (rest := []) (st2 := .int (f_X8_isProcess w σ) :: []) hC hW hS hl cv_X8_166 m_8 (by decide) rfl (c_X8_isProcess l hl9 D ca base ad σ w ) rfl rfl rfl ⟨Nat.le_of_ble_eq_true rfl, Nat.le_of_ble_eq_true rfl⟩ (Nat.le_of_ble_eq_true rfl) dX8_narrow_11 ⟨Nat.le_of_ble_eq_true rfl, Nat.le_of_ble_eq_true rfl⟩ (fun H locs hW hS => ?_)
    refine lv_if_eq (tgt := 29) hx hb dX8_narrow_14 (by decide) (fun c_2 => ?_) (fun c_2 => ?_)
    · refine lv_iconst (v := 0) hx hb dX8_narrow_29 (by decide) ?_
      refine lv_istore (lv' := [(6, .int 0), (0, .ref (ad 8 0)), (1, .int k), (2, .int t), (3, .int v), (4, .int u), (5, .int w)]) hx hb dX8_narrow_30 hl (by decide) rfl (fun ls hl => ?_)
      refine lv_iload hx hb dX8_narrow_32 (lv_at hl 0 rfl) ?_
      refine lv_if_eq (tgt := 90) hx hb dX8_narrow_34 (by decide) (fun _ => ?_) (fun c => absurd (by decide) c)
      refine lv_iconst (v := 0) hx hb dX8_narrow_90 (by decide) ?_
      refine lv_istore (lv' := [(7, .int 0), (6, .int 0), (0, .ref (ad 8 0)), (1, .int k), (2, .int t), (3, .int v), (4, .int u), (5, .int w)]) hx hb dX8_narrow_91 hl (by decide) rfl (fun ls hl => ?_)
      refine lv_aload_n hx hb dX8_narrow_93 rfl (lv_at hl 2 rfl) ?_
      refine lv_iload hx hb dX8_narrow_94 (lv_at hl 1 rfl) ?_
      refine lv_if_ne (tgt := 103) hx hb dX8_narrow_96 (by decide) (fun c => absurd (by decide) c) (fun _ => ?_)
      refine lv_iconst (v := 1) hx hb dX8_narrow_99 (by decide) ?_
      refine lv_goto (tgt := 140) hx hb dX8_narrow_100 (by decide) ?_
      refine w_callV (As := [.int 1]) (rest := []) (st2 := .int (f_X8_rf 1) :: []) hC hW hS hl cv_X8_154 m_8 (by decide) rfl (c_X8_refused l hl9 D ca base ad σ 1 ) rfl rfl rfl ⟨Nat.le_of_ble_eq_true rfl, Nat.le_of_ble_eq_true rfl⟩ (Nat.le_of_ble_eq_true rfl) dX8_narrow_140 ⟨Nat.le_of_ble_eq_true rfl, Nat.le_of_ble_eq_true rfl⟩ (fun H locs hW hS => ?_)
      refine lv_eqi (y := 1) (by decide) ?_
      refine lv_if_eq (tgt := 148) hx hb dX8_narrow_143 (by decide) (fun c => absurd c (by decide)) (fun _ => ?_)
      refine lv_iconst (v := 0) hx hb dX8_narrow_146 (by decide) ?_
      have hO : f_X8_narrow k t v u w σ = (0, us σ 8 0 0 1) := by rw [f_X8_narrow, if_neg c_1, if_pos c_2]
      exact w_iretS hC hW hS hO (Nat.le_of_ble_eq_true rfl) (Nat.le_of_ble_eq_true rfl) dX8_narrow_147
    · refine lv_aload_n hx hb dX8_narrow_17 rfl (lv_at hl 0 rfl) ?_
      refine lv_iload_n hx hb dX8_narrow_18 rfl (lv_at hl 2 rfl) ?_
      refine w_callV (As := [.int t]) (rest := []) (st2 := .int (f_X8_isToken t σ) :: []) hC hW hS hl cv_X8_229 m_8 (by decide) rfl (c_X8_isToken l hl9 D ca base ad σ t ) rfl rfl rfl ⟨Nat.le_of_ble_eq_true rfl, Nat.le_of_ble_eq_true rfl⟩ (Nat.le_of_ble_eq_true rfl) dX8_narrow_19 ⟨Nat.le_of_ble_eq_true rfl, Nat.le_of_ble_eq_true rfl⟩ (fun H locs hW hS => ?_)
      refine lv_if_eq (tgt := 29) hx hb dX8_narrow_22 (by decide) (fun c_3 => ?_) (fun c_3 => ?_)
      · refine lv_iconst (v := 0) hx hb dX8_narrow_29 (by decide) ?_
        refine lv_istore (lv' := [(6, .int 0), (0, .ref (ad 8 0)), (1, .int k), (2, .int t), (3, .int v), (4, .int u), (5, .int w)]) hx hb dX8_narrow_30 hl (by decide) rfl (fun ls hl => ?_)
        refine lv_iload hx hb dX8_narrow_32 (lv_at hl 0 rfl) ?_
        refine lv_if_eq (tgt := 90) hx hb dX8_narrow_34 (by decide) (fun _ => ?_) (fun c => absurd (by decide) c)
        refine lv_iconst (v := 0) hx hb dX8_narrow_90 (by decide) ?_
        refine lv_istore (lv' := [(7, .int 0), (6, .int 0), (0, .ref (ad 8 0)), (1, .int k), (2, .int t), (3, .int v), (4, .int u), (5, .int w)]) hx hb dX8_narrow_91 hl (by decide) rfl (fun ls hl => ?_)
        refine lv_aload_n hx hb dX8_narrow_93 rfl (lv_at hl 2 rfl) ?_
        refine lv_iload hx hb dX8_narrow_94 (lv_at hl 1 rfl) ?_
        refine lv_if_ne (tgt := 103) hx hb dX8_narrow_96 (by decide) (fun c => absurd (by decide) c) (fun _ => ?_)
        refine lv_iconst (v := 1) hx hb dX8_narrow_99 (by decide) ?_
        refine lv_goto (tgt := 140) hx hb dX8_narrow_100 (by decide) ?_
        refine w_callV (As := [.int 1]) (rest := []) (st2 := .int (f_X8_rf 1) :: []) hC hW hS hl cv_X8_154 m_8 (by decide) rfl (c_X8_refused l hl9 D ca base ad σ 1 ) rfl rfl rfl ⟨Nat.le_of_ble_eq_true rfl, Nat.le_of_ble_eq_true rfl⟩ (Nat.le_of_ble_eq_true rfl) dX8_narrow_140 ⟨Nat.le_of_ble_eq_true rfl, Nat.le_of_ble_eq_true rfl⟩ (fun H locs hW hS => ?_)
        refine lv_eqi (y := 1) (by decide) ?_
        refine lv_if_eq (tgt := 148) hx hb dX8_narrow_143 (by decide) (fun c => absurd c (by decide)) (fun _ => ?_)
        refine lv_iconst (v := 0) hx hb dX8_narrow_146 (by decide) ?_
        have hO : f_X8_narrow k t v u w σ = (0, us σ 8 0 0 1) := by rw [f_X8_narrow, if_neg c_1, if_neg c_2, if_pos c_3]
        exact w_iretS hC hW hS hO (Nat.le_of_ble_eq_true rfl) (Nat.le_of_ble_eq_true rfl) dX8_narrow_147
      · refine lv_iconst (v := 1) hx hb dX8_narrow_25 (by decide) ?_
        refine lv_goto (tgt := 30) hx hb dX8_narrow_26 (by decide) ?_
        refine lv_istore (lv' := [(6, .int 1), (0, .ref (ad 8 0)), (1, .int k), (2, .int t), (3, .int v), (4, .int u), (5, .int w)]) hx hb dX8_narrow_30 hl (by decide) rfl (fun ls hl => ?_)
        refine lv_iload hx hb dX8_narrow_32 (lv_at hl 0 rfl) ?_
        refine lv_if_eq (tgt := 90) hx hb dX8_narrow_34 (by decide) (fun c => absurd c (by decide)) (fun _ => ?_)
        refine lv_iload_n hx hb dX8_narrow_37 rfl (lv_at hl 4 rfl) ?_
        refine lv_iconst (v := 1) hx hb dX8_narrow_38 (by decide) ?_
        refine lv_bipush (v := 7) hx hb dX8_narrow_39 (by decide) ?_
        refine w_callS (As := [.int v, .int 1, .int 7]) (rest := []) (st2 := .int (f_X8_within v 1 7) :: []) hC hW hS hl cs_X8_129 (c_X8_within l hl9 D ca base ad σ v 1 7 ) rfl rfl rfl ⟨Nat.le_of_ble_eq_true rfl, Nat.le_of_ble_eq_true rfl⟩ (Nat.le_of_ble_eq_true rfl) dX8_narrow_41 ⟨Nat.le_of_ble_eq_true rfl, Nat.le_of_ble_eq_true rfl⟩ (fun H locs hW hS => ?_)
        refine lv_if_eq (tgt := 90) hx hb dX8_narrow_44 (by decide) (fun c_4 => ?_) (fun c_4 => ?_)
        · refine lv_iconst (v := 0) hx hb dX8_narrow_90 (by decide) ?_
          refine lv_istore (lv' := [(7, .int 0), (6, .int 1), (0, .ref (ad 8 0)), (1, .int k), (2, .int t), (3, .int v), (4, .int u), (5, .int w)]) hx hb dX8_narrow_91 hl (by decide) rfl (fun ls hl => ?_)
          refine lv_aload_n hx hb dX8_narrow_93 rfl (lv_at hl 2 rfl) ?_
          refine lv_iload hx hb dX8_narrow_94 (lv_at hl 1 rfl) ?_
          refine lv_if_ne (tgt := 103) hx hb dX8_narrow_96 (by decide) (fun _ => ?_) (fun c => absurd c (by decide))
          refine lv_iload hx hb dX8_narrow_103 (lv_at hl 0 rfl) ?_
          refine lv_if_ne (tgt := 112) hx hb dX8_narrow_105 (by decide) (fun c => absurd (by decide) c) (fun _ => ?_)
          refine lv_iconst (v := 2) hx hb dX8_narrow_108 (by decide) ?_
          refine lv_goto (tgt := 140) hx hb dX8_narrow_109 (by decide) ?_
          refine w_callV (As := [.int 2]) (rest := []) (st2 := .int (f_X8_rf 2) :: []) hC hW hS hl cv_X8_154 m_8 (by decide) rfl (c_X8_refused l hl9 D ca base ad σ 2 ) rfl rfl rfl ⟨Nat.le_of_ble_eq_true rfl, Nat.le_of_ble_eq_true rfl⟩ (Nat.le_of_ble_eq_true rfl) dX8_narrow_140 ⟨Nat.le_of_ble_eq_true rfl, Nat.le_of_ble_eq_true rfl⟩ (fun H locs hW hS => ?_)
          refine lv_eqi (y := 1) (by decide) ?_
          refine lv_if_eq (tgt := 148) hx hb dX8_narrow_143 (by decide) (fun c => absurd c (by decide)) (fun _ => ?_)
          refine lv_iconst (v := 0) hx hb dX8_narrow_146 (by decide) ?_
          have hO : f_X8_narrow k t v u w σ = (0, us σ 8 0 0 2) := by rw [f_X8_narrow, if_neg c_1, if_neg c_2, if_neg c_3, if_pos c_4]
          exact w_iretS hC hW hS hO (Nat.le_of_ble_eq_true rfl) (Nat.le_of_ble_eq_true rfl) dX8_narrow_147
        · refine lv_iload hx hb dX8_narrow_47 (lv_at hl 5 rfl) ?_
          refine lv_aload_n hx hb dX8_narrow_49 rfl (lv_at hl 1 rfl) ?_
          refine gf_X8_223 hC hW m_8 dX8_narrow_50 ?_
          refine lv_sipush (v := 10000) hx hb dX8_narrow_53 (by decide) ?_
          refine w_callS (As := [.int u, .int (σ 8 0 37), .int 10000]) (rest := []) (st2 := .int (f_X8_within u (σ 8 0 37) 10000) :: []) hC hW hS hl cs_X8_129 (c_X8_within l hl9 D ca base ad σ u (σ 8 0 37) 10000 ) rfl rfl rfl ⟨Nat.le_of_ble_eq_true rfl, Nat.le_of_ble_eq_true rfl⟩ (Nat.le_of_ble_eq_true rfl) dX8_narrow_56 ⟨Nat.le_of_ble_eq_true rfl, Nat.le_of_ble_eq_true rfl⟩ (fun H locs hW hS => ?_)
          refine lv_if_eq (tgt := 90) hx hb dX8_narrow_59 (by decide) (fun c_5 => ?_) (fun c_5 => ?_)
          · refine lv_iconst (v := 0) hx hb dX8_narrow_90 (by decide) ?_
            refine lv_istore (lv' := [(7, .int 0), (6, .int 1), (0, .ref (ad 8 0)), (1, .int k), (2, .int t), (3, .int v), (4, .int u), (5, .int w)]) hx hb dX8_narrow_91 hl (by decide) rfl (fun ls hl => ?_)
            refine lv_aload_n hx hb dX8_narrow_93 rfl (lv_at hl 2 rfl) ?_
            refine lv_iload hx hb dX8_narrow_94 (lv_at hl 1 rfl) ?_
            refine lv_if_ne (tgt := 103) hx hb dX8_narrow_96 (by decide) (fun _ => ?_) (fun c => absurd c (by decide))
            refine lv_iload hx hb dX8_narrow_103 (lv_at hl 0 rfl) ?_
            refine lv_if_ne (tgt := 112) hx hb dX8_narrow_105 (by decide) (fun c => absurd (by decide) c) (fun _ => ?_)
            refine lv_iconst (v := 2) hx hb dX8_narrow_108 (by decide) ?_
            refine lv_goto (tgt := 140) hx hb dX8_narrow_109 (by decide) ?_
            refine w_callV (As := [.int 2]) (rest := []) (st2 := .int (f_X8_rf 2) :: []) hC hW hS hl cv_X8_154 m_8 (by decide) rfl (c_X8_refused l hl9 D ca base ad σ 2 ) rfl rfl rfl ⟨Nat.le_of_ble_eq_true rfl, Nat.le_of_ble_eq_true rfl⟩ (Nat.le_of_ble_eq_true rfl) dX8_narrow_140 ⟨Nat.le_of_ble_eq_true rfl, Nat.le_of_ble_eq_true rfl⟩ (fun H locs hW hS => ?_)
            refine lv_eqi (y := 1) (by decide) ?_
            refine lv_if_eq (tgt := 148) hx hb dX8_narrow_143 (by decide) (fun c => absurd c (by decide)) (fun _ => ?_)
            refine lv_iconst (v := 0) hx hb dX8_narrow_146 (by decide) ?_
            have hO : f_X8_narrow k t v u w σ = (0, us σ 8 0 0 2) := by rw [f_X8_narrow, if_neg c_1, if_neg c_2, if_neg c_3, if_neg c_4, if_pos c_5]
            exact w_iretS hC hW hS hO (Nat.le_of_ble_eq_true rfl) (Nat.le_of_ble_eq_true rfl) dX8_narrow_147
          · refine lv_iload_n hx hb dX8_narrow_62 rfl (lv_at hl 4 rfl) ?_
            refine lv_aload_n hx hb dX8_narrow_63 rfl (lv_at hl 1 rfl) ?_
            refine gf_X8_86 hC hW m_8 rfl dX8_narrow_64 ?_
            refine lv_iload_n hx hb dX8_narrow_67 rfl (lv_at hl 3 rfl) ?_
            refine w_iald hC hW m_59 (n := 10) rfl (by first | assumption | exact ik_in hM (by assumption) | exact vp_in_c (y := 10) (by decide) (by decide) (by assumption) (by assumption) | (exfalso; contradiction)) dX8_narrow_68 ?_
            refine lv_iconst (v := (-1)) hx hb dX8_narrow_69 (by decide) ?_
            refine lv_ixor hx hb dX8_narrow_70 ?_
            refine lv_iand hx hb dX8_narrow_71 ?_
            refine lv_if_ne (tgt := 90) hx hb dX8_narrow_72 (by decide) (fun c_6 => ?_) (fun c_6 => ?_)
            · refine lv_iconst (v := 0) hx hb dX8_narrow_90 (by decide) ?_
              refine lv_istore (lv' := [(7, .int 0), (6, .int 1), (0, .ref (ad 8 0)), (1, .int k), (2, .int t), (3, .int v), (4, .int u), (5, .int w)]) hx hb dX8_narrow_91 hl (by decide) rfl (fun ls hl => ?_)
              refine lv_aload_n hx hb dX8_narrow_93 rfl (lv_at hl 2 rfl) ?_
              refine lv_iload hx hb dX8_narrow_94 (lv_at hl 1 rfl) ?_
              refine lv_if_ne (tgt := 103) hx hb dX8_narrow_96 (by decide) (fun _ => ?_) (fun c => absurd c (by decide))
              refine lv_iload hx hb dX8_narrow_103 (lv_at hl 0 rfl) ?_
              refine lv_if_ne (tgt := 112) hx hb dX8_narrow_105 (by decide) (fun c => absurd (by decide) c) (fun _ => ?_)
              refine lv_iconst (v := 2) hx hb dX8_narrow_108 (by decide) ?_
              refine lv_goto (tgt := 140) hx hb dX8_narrow_109 (by decide) ?_
              refine w_callV (As := [.int 2]) (rest := []) (st2 := .int (f_X8_rf 2) :: []) hC hW hS hl cv_X8_154 m_8 (by decide) rfl (c_X8_refused l hl9 D ca base ad σ 2 ) rfl rfl rfl ⟨Nat.le_of_ble_eq_true rfl, Nat.le_of_ble_eq_true rfl⟩ (Nat.le_of_ble_eq_true rfl) dX8_narrow_140 ⟨Nat.le_of_ble_eq_true rfl, Nat.le_of_ble_eq_true rfl⟩ (fun H locs hW hS => ?_)
              refine lv_eqi (y := 1) (by decide) ?_
              refine lv_if_eq (tgt := 148) hx hb dX8_narrow_143 (by decide) (fun c => absurd c (by decide)) (fun _ => ?_)
              refine lv_iconst (v := 0) hx hb dX8_narrow_146 (by decide) ?_
              have hO : f_X8_narrow k t v u w σ = (0, us σ 8 0 0 2) := by rw [f_X8_narrow, if_neg c_1, if_neg c_2, if_neg c_3, if_neg c_4, if_neg c_5, if_neg c_6]
              exact w_iretS hC hW hS hO (Nat.le_of_ble_eq_true rfl) (Nat.le_of_ble_eq_true rfl) dX8_narrow_147
            · refine lv_iload hx hb dX8_narrow_75 (lv_at hl 5 rfl) ?_
              refine lv_aload_n hx hb dX8_narrow_77 rfl (lv_at hl 1 rfl) ?_
              refine gf_X8_89 hC hW m_8 rfl dX8_narrow_78 ?_
              refine lv_iload_n hx hb dX8_narrow_81 rfl (lv_at hl 3 rfl) ?_
              refine w_iald hC hW m_60 (n := 10) rfl (by first | assumption | exact ik_in hM (by assumption) | exact vp_in_c (y := 10) (by decide) (by decide) (by assumption) (by assumption) | (exfalso; contradiction)) dX8_narrow_82 ?_
              refine lv_icmp_gt (tgt := 90) hx hb dX8_narrow_83 (by decide) (fun c_7 => ?_) (fun c_7 => ?_)
              · refine lv_iconst (v := 0) hx hb dX8_narrow_90 (by decide) ?_
                refine lv_istore (lv' := [(7, .int 0), (6, .int 1), (0, .ref (ad 8 0)), (1, .int k), (2, .int t), (3, .int v), (4, .int u), (5, .int w)]) hx hb dX8_narrow_91 hl (by decide) rfl (fun ls hl => ?_)
                refine lv_aload_n hx hb dX8_narrow_93 rfl (lv_at hl 2 rfl) ?_
                refine lv_iload hx hb dX8_narrow_94 (lv_at hl 1 rfl) ?_
                refine lv_if_ne (tgt := 103) hx hb dX8_narrow_96 (by decide) (fun _ => ?_) (fun c => absurd c (by decide))
                refine lv_iload hx hb dX8_narrow_103 (lv_at hl 0 rfl) ?_
                refine lv_if_ne (tgt := 112) hx hb dX8_narrow_105 (by decide) (fun c => absurd (by decide) c) (fun _ => ?_)
                refine lv_iconst (v := 2) hx hb dX8_narrow_108 (by decide) ?_
                refine lv_goto (tgt := 140) hx hb dX8_narrow_109 (by decide) ?_
                refine w_callV (As := [.int 2]) (rest := []) (st2 := .int (f_X8_rf 2) :: []) hC hW hS hl cv_X8_154 m_8 (by decide) rfl (c_X8_refused l hl9 D ca base ad σ 2 ) rfl rfl rfl ⟨Nat.le_of_ble_eq_true rfl, Nat.le_of_ble_eq_true rfl⟩ (Nat.le_of_ble_eq_true rfl) dX8_narrow_140 ⟨Nat.le_of_ble_eq_true rfl, Nat.le_of_ble_eq_true rfl⟩ (fun H locs hW hS => ?_)
                refine lv_eqi (y := 1) (by decide) ?_
                refine lv_if_eq (tgt := 148) hx hb dX8_narrow_143 (by decide) (fun c => absurd c (by decide)) (fun _ => ?_)
                refine lv_iconst (v := 0) hx hb dX8_narrow_146 (by decide) ?_
                have hO : f_X8_narrow k t v u w σ = (0, us σ 8 0 0 2) := by rw [f_X8_narrow, if_neg c_1, if_neg c_2, if_neg c_3, if_neg c_4, if_neg c_5, if_pos c_6, if_pos c_7]
                exact w_iretS hC hW hS hO (Nat.le_of_ble_eq_true rfl) (Nat.le_of_ble_eq_true rfl) dX8_narrow_147
              · refine lv_iconst (v := 1) hx hb dX8_narrow_86 (by decide) ?_
                refine lv_goto (tgt := 91) hx hb dX8_narrow_87 (by decide) ?_
                refine lv_istore (lv' := [(7, .int 1), (6, .int 1), (0, .ref (ad 8 0)), (1, .int k), (2, .int t), (3, .int v), (4, .int u), (5, .int w)]) hx hb dX8_narrow_91 hl (by decide) rfl (fun ls hl => ?_)
                refine lv_aload_n hx hb dX8_narrow_93 rfl (lv_at hl 2 rfl) ?_
                refine lv_iload hx hb dX8_narrow_94 (lv_at hl 1 rfl) ?_
                refine lv_if_ne (tgt := 103) hx hb dX8_narrow_96 (by decide) (fun _ => ?_) (fun c => absurd c (by decide))
                refine lv_iload hx hb dX8_narrow_103 (lv_at hl 0 rfl) ?_
                refine lv_if_ne (tgt := 112) hx hb dX8_narrow_105 (by decide) (fun _ => ?_) (fun c => absurd c (by decide))
                refine lv_aload_n hx hb dX8_narrow_112 rfl (lv_at hl 2 rfl) ?_
                refine gf_X8_95 hC hW m_8 rfl dX8_narrow_113 ?_
                refine lv_iload_n hx hb dX8_narrow_116 rfl (lv_at hl 4 rfl) ?_
                refine w_iald hC hW m_62 (n := 10) rfl (by first | assumption | exact ik_in hM (by assumption) | exact vp_in_c (y := 10) (by decide) (by decide) (by assumption) (by assumption) | (exfalso; contradiction)) dX8_narrow_117 ?_
                refine lv_iload_n hx hb dX8_narrow_118 rfl (lv_at hl 3 rfl) ?_
                refine lv_icmp_eq (tgt := 126) hx hb dX8_narrow_119 (by decide) (fun c_8 => ?_) (fun c_8 => ?_)
                · refine lv_aload_n hx hb dX8_narrow_126 rfl (lv_at hl 2 rfl) ?_
                  refine gf_X8_139 hC hW m_8 dX8_narrow_127 ?_
                  refine lv_bipush (v := 10) hx hb dX8_narrow_130 (by decide) ?_
                  refine lv_icmp_ne (tgt := 139) hx hb dX8_narrow_132 (by decide) (fun c_9 => ?_) (fun c_9 => ?_)
                  · refine lv_iconst (v := 0) hx hb dX8_narrow_139 (by decide) ?_
                    refine w_callV (As := [.int 0]) (rest := []) (st2 := .int (f_X8_rf 0) :: []) hC hW hS hl cv_X8_154 m_8 (by decide) rfl (c_X8_refused l hl9 D ca base ad σ 0 ) rfl rfl rfl ⟨Nat.le_of_ble_eq_true rfl, Nat.le_of_ble_eq_true rfl⟩ (Nat.le_of_ble_eq_true rfl) dX8_narrow_140 ⟨Nat.le_of_ble_eq_true rfl, Nat.le_of_ble_eq_true rfl⟩ (fun H locs hW hS => ?_)
                    refine lv_eqi (y := 0) (by decide) ?_
                    refine lv_if_eq (tgt := 148) hx hb dX8_narrow_143 (by decide) (fun _ => ?_) (fun c => absurd (by decide) c)
                    refine lv_aload_n hx hb dX8_narrow_148 rfl (lv_at hl 2 rfl) ?_
                    refine lv_iload_n hx hb dX8_narrow_149 rfl (lv_at hl 3 rfl) ?_
                    refine lv_iload hx hb dX8_narrow_150 (lv_at hl 7 rfl) ?_
                    refine lv_aload_n hx hb dX8_narrow_152 rfl (lv_at hl 2 rfl) ?_
                    refine gf_X8_83 hC hW m_8 rfl dX8_narrow_153 ?_
                    refine lv_iload_n hx hb dX8_narrow_156 rfl (lv_at hl 4 rfl) ?_
                    refine w_iald hC hW m_58 (n := 10) rfl (by first | assumption | exact ik_in hM (by assumption) | exact vp_in_c (y := 10) (by decide) (by decide) (by assumption) (by assumption) | (exfalso; contradiction)) dX8_narrow_157 ?_
                    refine lv_eqi (y := σ 58 0 t.toNatClampNeg) (by rw [us_k (by decide)]) ?_
                    refine lv_iload_n hx hb dX8_narrow_158 rfl (lv_at hl 5 rfl) ?_
                    refine lv_iload hx hb dX8_narrow_159 (lv_at hl 6 rfl) ?_
                    refine lv_iload_n hx hb dX8_narrow_161 rfl (lv_at hl 4 rfl) ?_
                    refine w_callV (As := [.int k, .int w, .int (σ 58 0 t.toNatClampNeg), .int v, .int u, .int t]) (rest := []) (st2 := .int ((f_X8_makeToken k w (σ 58 0 t.toNatClampNeg) v u t (us σ 8 0 0 0)).1) :: []) hC hW hS hl cv_X8_235 m_8 (by decide) rfl (c_X8_makeToken l hl9 D ca base ad (us σ 8 0 0 0) k w (σ 58 0 t.toNatClampNeg) v u t (by rw [us_j (by decide)]; exact kc_in2 hM (by assumption))) rfl rfl rfl ⟨Nat.le_of_ble_eq_true rfl, Nat.le_of_ble_eq_true rfl⟩ (Nat.le_of_ble_eq_true rfl) dX8_narrow_162 ⟨Nat.le_of_ble_eq_true rfl, Nat.le_of_ble_eq_true rfl⟩ (fun H locs hW hS => ?_)
                    refine lv_istore (lv' := [(8, .int ((f_X8_makeToken k w (σ 58 0 t.toNatClampNeg) v u t (us σ 8 0 0 0)).1)), (7, .int 1), (6, .int 1), (0, .ref (ad 8 0)), (1, .int k), (2, .int t), (3, .int v), (4, .int u), (5, .int w)]) hx hb dX8_narrow_165 hl (by decide) rfl (fun ls hl => ?_)
                    refine lv_aload_n hx hb dX8_narrow_167 rfl (lv_at hl 3 rfl) ?_
                    refine gf_X8_98 hC hW m_8 rfl dX8_narrow_168 ?_
                    refine lv_iload hx hb dX8_narrow_171 (lv_at hl 0 rfl) ?_
                    refine lv_aload_n hx hb dX8_narrow_173 rfl (lv_at hl 3 rfl) ?_
                    refine gf_X8_98 hC hW m_8 rfl dX8_narrow_174 ?_
                    refine lv_iload_n hx hb dX8_narrow_177 rfl (lv_at hl 5 rfl) ?_
                    refine w_iald hC hW m_63 (n := 10) rfl (by first | assumption | exact ik_in hM (by assumption) | exact vp_in_c (y := 10) (by decide) (by decide) (by assumption) (by assumption) | (exfalso; contradiction)) dX8_narrow_178 ?_
                    refine lv_eqi (y := σ 63 0 t.toNatClampNeg) (by rw [fr_X8_makeToken (by decide) (by decide) (by decide) (by decide) (by decide) (by decide) (by decide) (by decide), us_k (by decide)]) ?_
                    refine w_iast hC hW hS m_63 (n := 10) (fun _ => rfl) (mk_in (by rw [us_j (by decide)]; exact kc_in2 hM (by assumption))) dX8_narrow_179 (fun H locs hW hS => ?_)
                    refine lv_aload_n hx hb dX8_narrow_180 rfl (lv_at hl 3 rfl) ?_
                    refine gf_X8_101 hC hW m_8 rfl dX8_narrow_181 ?_
                    refine lv_iload hx hb dX8_narrow_184 (lv_at hl 0 rfl) ?_
                    refine lv_aload_n hx hb dX8_narrow_186 rfl (lv_at hl 3 rfl) ?_
                    refine gf_X8_101 hC hW m_8 rfl dX8_narrow_187 ?_
                    refine lv_iload_n hx hb dX8_narrow_190 rfl (lv_at hl 5 rfl) ?_
                    refine w_iald hC hW m_64 (n := 10) rfl (by first | assumption | exact ik_in hM (by assumption) | exact vp_in_c (y := 10) (by decide) (by decide) (by assumption) (by assumption) | (exfalso; contradiction)) dX8_narrow_191 ?_
                    refine lv_eqi (y := σ 64 0 t.toNatClampNeg) (by rw [us_k (by decide), fr_X8_makeToken (by decide) (by decide) (by decide) (by decide) (by decide) (by decide) (by decide) (by decide), us_k (by decide)]) ?_
                    refine w_iast hC hW hS m_64 (n := 10) (fun _ => rfl) (mk_in (by rw [us_j (by decide)]; exact kc_in2 hM (by assumption))) dX8_narrow_192 (fun H locs hW hS => ?_)
                    refine lv_iload hx hb dX8_narrow_193 (lv_at hl 0 rfl) ?_
                    have hO : f_X8_narrow k t v u w σ = ((f_X8_makeToken k w (σ 58 0 t.toNatClampNeg) v u t (us σ 8 0 0 0)).1, us (us ((f_X8_makeToken k w (σ 58 0 t.toNatClampNeg) v u t (us σ 8 0 0 0)).2) 63 0 (((f_X8_makeToken k w (σ 58 0 t.toNatClampNeg) v u t (us σ 8 0 0 0)).1).toNatClampNeg) (σ 63 0 t.toNatClampNeg)) 64 0 (((f_X8_makeToken k w (σ 58 0 t.toNatClampNeg) v u t (us σ 8 0 0 0)).1).toNatClampNeg) (σ 64 0 t.toNatClampNeg)) := by rw [f_X8_narrow, if_neg c_1, if_neg c_2, if_neg c_3, if_neg c_4, if_neg c_5, if_pos c_6, if_neg c_7, if_pos c_8, if_neg c_9]
                    exact w_iretS hC hW hS hO (Nat.le_of_ble_eq_true rfl) (Nat.le_of_ble_eq_true rfl) dX8_narrow_195
                  · refine lv_iconst (v := 4) hx hb dX8_narrow_135 (by decide) ?_
                    refine lv_goto (tgt := 140) hx hb dX8_narrow_136 (by decide) ?_
                    refine w_callV (As := [.int 4]) (rest := []) (st2 := .int (f_X8_rf 4) :: []) hC hW hS hl cv_X8_154 m_8 (by decide) rfl (c_X8_refused l hl9 D ca base ad σ 4 ) rfl rfl rfl ⟨Nat.le_of_ble_eq_true rfl, Nat.le_of_ble_eq_true rfl⟩ (Nat.le_of_ble_eq_true rfl) dX8_narrow_140 ⟨Nat.le_of_ble_eq_true rfl, Nat.le_of_ble_eq_true rfl⟩ (fun H locs hW hS => ?_)
                    refine lv_eqi (y := 1) (by decide) ?_
                    refine lv_if_eq (tgt := 148) hx hb dX8_narrow_143 (by decide) (fun c => absurd c (by decide)) (fun _ => ?_)
                    refine lv_iconst (v := 0) hx hb dX8_narrow_146 (by decide) ?_
                    have hO : f_X8_narrow k t v u w σ = (0, us σ 8 0 0 4) := by rw [f_X8_narrow, if_neg c_1, if_neg c_2, if_neg c_3, if_neg c_4, if_neg c_5, if_pos c_6, if_neg c_7, if_pos c_8, if_pos c_9]
                    exact w_iretS hC hW hS hO (Nat.le_of_ble_eq_true rfl) (Nat.le_of_ble_eq_true rfl) dX8_narrow_147
                · refine lv_iconst (v := 3) hx hb dX8_narrow_122 (by decide) ?_
                  refine lv_goto (tgt := 140) hx hb dX8_narrow_123 (by decide) ?_
                  refine w_callV (As := [.int 3]) (rest := []) (st2 := .int (f_X8_rf 3) :: []) hC hW hS hl cv_X8_154 m_8 (by decide) rfl (c_X8_refused l hl9 D ca base ad σ 3 ) rfl rfl rfl ⟨Nat.le_of_ble_eq_true rfl, Nat.le_of_ble_eq_true rfl⟩ (Nat.le_of_ble_eq_true rfl) dX8_narrow_140 ⟨Nat.le_of_ble_eq_true rfl, Nat.le_of_ble_eq_true rfl⟩ (fun H locs hW hS => ?_)
                  refine lv_eqi (y := 1) (by decide) ?_
                  refine lv_if_eq (tgt := 148) hx hb dX8_narrow_143 (by decide) (fun c => absurd c (by decide)) (fun _ => ?_)
                  refine lv_iconst (v := 0) hx hb dX8_narrow_146 (by decide) ?_
                  have hO : f_X8_narrow k t v u w σ = (0, us σ 8 0 0 3) := by rw [f_X8_narrow, if_neg c_1, if_neg c_2, if_neg c_3, if_neg c_4, if_neg c_5, if_pos c_6, if_neg c_7, if_neg c_8]
                  exact w_iretS hC hW hS hO (Nat.le_of_ble_eq_true rfl) (Nat.le_of_ble_eq_true rfl) dX8_narrow_147
theorem fr_X8_narrow {kk : Nat}  {k : Int32} {t : Int32} {v : Int32} {u : Int32} {w : Int32} {σ : Sg} (h8 : kk ≠ 8) (h58 : kk ≠ 58) (h59 : kk ≠ 59) (h60 : kk ≠ 60) (h61 : kk ≠ 61) (h62 : kk ≠ 62) (h63 : kk ≠ 63) (h64 : kk ≠ 64) (h65 : kk ≠ 65) (h66 : kk ≠ 66) : (f_X8_narrow k t v u w σ).2 kk = σ kk := by
  rw [f_X8_narrow]
  repeat' split
  all_goals (first | (simp only [us_kk, ne_eq, not_false_eq_true, h8, h58, h59, h60, h61, h62, h63, h64, h65, h66, fr_X8_makeToken]; done) | with_reducible rfl | (simp only [us_kk, ne_eq, not_false_eq_true, h8, h58, h59, h60, h61, h62, h63, h64, h65, h66, fr_X8_makeToken]; with_reducible rfl))
theorem fs_X8_narrow {jj : Nat}  {k : Int32} {t : Int32} {v : Int32} {u : Int32} {w : Int32} {σ : Sg} (h0 : jj ≠ 0) (h27 : jj ≠ 27) : (f_X8_narrow k t v u w σ).2 8 0 jj = σ 8 0 jj := by
  rw [f_X8_narrow]
  repeat' split
  all_goals (first | with_reducible rfl | (simp [us_k, us_j, ne_eq, not_false_eq_true, h0, h27, fs_X8_makeToken]; done))

def f_X8_takeBack (k : Int32) (t : Int32) (σ : Sg) : Int32 × Sg :=
  if (f_X8_isProcess k σ) = 0 then (0, us σ 8 0 0 1)
  else if (f_X8_isToken t σ) = 0 then (0, us σ 8 0 0 1)
  else if (σ 61 0 t.toNatClampNeg) = k then (f_X8_isStill t (us σ 8 0 0 0), us (us σ 8 0 0 0) 66 0 t.toNatClampNeg 0)
  else (0, us σ 8 0 0 2)
set_option maxHeartbeats 4000000 in
set_option maxRecDepth 100000 in
theorem c_X8_takeBack (l : Launch) (hl9 : l.stackTraces = false) (D : va_G) (ca : Nat → ClassId) (base : Nat) (ad : Adr) (σ : Sg) (k : Int32) (t : Int32) (hM : MInv σ) : Mt l yX8_takeBack cX8_takeBack 5 (some .boolean) { frames := 2, cells := 0, slots := 0, locals := 43 } D ca base ad ρm Lm [.ref (ad 8 0), .int k, .int t] σ (some (.int (f_X8_takeBack k t σ).1)) (f_X8_takeBack k t σ).2 := by
  refine w_ofW (by decide) (Nat.le_of_ble_eq_true rfl) rfl ?_
  intro p e s m args below meth c hC hW hS ls hl hin
  have hx := hC.1
  have hb := hC.2.1
  refine lv_aload_n hx hb dX8_takeBack_0 rfl (lv_at hl 0 rfl) ?_
  refine lv_iload_n hx hb dX8_takeBack_1 rfl (lv_at hl 1 rfl) ?_
  refine w_callV (As := [.int k]) (rest := []) (st2 := .int (f_X8_isProcess k σ) :: []) hC hW hS hl cv_X8_166 m_8 (by decide) rfl (c_X8_isProcess l hl9 D ca base ad σ k ) rfl rfl rfl ⟨Nat.le_of_ble_eq_true rfl, Nat.le_of_ble_eq_true rfl⟩ (Nat.le_of_ble_eq_true rfl) dX8_takeBack_2 ⟨Nat.le_of_ble_eq_true rfl, Nat.le_of_ble_eq_true rfl⟩ (fun H locs hW hS => ?_)
  refine lv_if_eq (tgt := 20) hx hb dX8_takeBack_5 (by decide) (fun c_1 => ?_) (fun c_1 => ?_)
  · refine lv_iconst (v := 0) hx hb dX8_takeBack_20 (by decide) ?_
    refine lv_istore_n (lv' := [(3, .int 0), (0, .ref (ad 8 0)), (1, .int k), (2, .int t)]) hx hb dX8_takeBack_21 rfl hl (by decide) rfl (fun ls hl => ?_)
    refine lv_aload_n hx hb dX8_takeBack_22 rfl (lv_at hl 1 rfl) ?_
    refine lv_iload_n hx hb dX8_takeBack_23 rfl (lv_at hl 0 rfl) ?_
    refine lv_if_ne (tgt := 31) hx hb dX8_takeBack_24 (by decide) (fun c => absurd (by decide) c) (fun _ => ?_)
    refine lv_iconst (v := 1) hx hb dX8_takeBack_27 (by decide) ?_
    refine lv_goto (tgt := 46) hx hb dX8_takeBack_28 (by decide) ?_
    refine w_callV (As := [.int 1]) (rest := []) (st2 := .int (f_X8_rf 1) :: []) hC hW hS hl cv_X8_154 m_8 (by decide) rfl (c_X8_refused l hl9 D ca base ad σ 1 ) rfl rfl rfl ⟨Nat.le_of_ble_eq_true rfl, Nat.le_of_ble_eq_true rfl⟩ (Nat.le_of_ble_eq_true rfl) dX8_takeBack_46 ⟨Nat.le_of_ble_eq_true rfl, Nat.le_of_ble_eq_true rfl⟩ (fun H locs hW hS => ?_)
    refine lv_eqi (y := 1) (by decide) ?_
    refine lv_if_eq (tgt := 54) hx hb dX8_takeBack_49 (by decide) (fun c => absurd c (by decide)) (fun _ => ?_)
    refine lv_iconst (v := 0) hx hb dX8_takeBack_52 (by decide) ?_
    have hO : f_X8_takeBack k t σ = (0, us σ 8 0 0 1) := by rw [f_X8_takeBack, if_pos c_1]
    exact w_zretS hC hW hS (by decide) hO (Nat.le_of_ble_eq_true rfl) (Nat.le_of_ble_eq_true rfl) dX8_takeBack_53
  · refine lv_aload_n hx hb dX8_takeBack_8 rfl (lv_at hl 0 rfl) ?_
    refine lv_iload_n hx hb dX8_takeBack_9 rfl (lv_at hl 2 rfl) ?_
    refine w_callV (As := [.int t]) (rest := []) (st2 := .int (f_X8_isToken t σ) :: []) hC hW hS hl cv_X8_229 m_8 (by decide) rfl (c_X8_isToken l hl9 D ca base ad σ t ) rfl rfl rfl ⟨Nat.le_of_ble_eq_true rfl, Nat.le_of_ble_eq_true rfl⟩ (Nat.le_of_ble_eq_true rfl) dX8_takeBack_10 ⟨Nat.le_of_ble_eq_true rfl, Nat.le_of_ble_eq_true rfl⟩ (fun H locs hW hS => ?_)
    refine lv_if_eq (tgt := 20) hx hb dX8_takeBack_13 (by decide) (fun c_2 => ?_) (fun c_2 => ?_)
    · refine lv_iconst (v := 0) hx hb dX8_takeBack_20 (by decide) ?_
      refine lv_istore_n (lv' := [(3, .int 0), (0, .ref (ad 8 0)), (1, .int k), (2, .int t)]) hx hb dX8_takeBack_21 rfl hl (by decide) rfl (fun ls hl => ?_)
      refine lv_aload_n hx hb dX8_takeBack_22 rfl (lv_at hl 1 rfl) ?_
      refine lv_iload_n hx hb dX8_takeBack_23 rfl (lv_at hl 0 rfl) ?_
      refine lv_if_ne (tgt := 31) hx hb dX8_takeBack_24 (by decide) (fun c => absurd (by decide) c) (fun _ => ?_)
      refine lv_iconst (v := 1) hx hb dX8_takeBack_27 (by decide) ?_
      refine lv_goto (tgt := 46) hx hb dX8_takeBack_28 (by decide) ?_
      refine w_callV (As := [.int 1]) (rest := []) (st2 := .int (f_X8_rf 1) :: []) hC hW hS hl cv_X8_154 m_8 (by decide) rfl (c_X8_refused l hl9 D ca base ad σ 1 ) rfl rfl rfl ⟨Nat.le_of_ble_eq_true rfl, Nat.le_of_ble_eq_true rfl⟩ (Nat.le_of_ble_eq_true rfl) dX8_takeBack_46 ⟨Nat.le_of_ble_eq_true rfl, Nat.le_of_ble_eq_true rfl⟩ (fun H locs hW hS => ?_)
      refine lv_eqi (y := 1) (by decide) ?_
      refine lv_if_eq (tgt := 54) hx hb dX8_takeBack_49 (by decide) (fun c => absurd c (by decide)) (fun _ => ?_)
      refine lv_iconst (v := 0) hx hb dX8_takeBack_52 (by decide) ?_
      have hO : f_X8_takeBack k t σ = (0, us σ 8 0 0 1) := by rw [f_X8_takeBack, if_neg c_1, if_pos c_2]
      exact w_zretS hC hW hS (by decide) hO (Nat.le_of_ble_eq_true rfl) (Nat.le_of_ble_eq_true rfl) dX8_takeBack_53
    · refine lv_iconst (v := 1) hx hb dX8_takeBack_16 (by decide) ?_
      refine lv_goto (tgt := 21) hx hb dX8_takeBack_17 (by decide) ?_
      refine lv_istore_n (lv' := [(3, .int 1), (0, .ref (ad 8 0)), (1, .int k), (2, .int t)]) hx hb dX8_takeBack_21 rfl hl (by decide) rfl (fun ls hl => ?_)
      refine lv_aload_n hx hb dX8_takeBack_22 rfl (lv_at hl 1 rfl) ?_
      refine lv_iload_n hx hb dX8_takeBack_23 rfl (lv_at hl 0 rfl) ?_
      refine lv_if_ne (tgt := 31) hx hb dX8_takeBack_24 (by decide) (fun _ => ?_) (fun c => absurd c (by decide))
      refine lv_aload_n hx hb dX8_takeBack_31 rfl (lv_at hl 1 rfl) ?_
      refine gf_X8_92 hC hW m_8 rfl dX8_takeBack_32 ?_
      refine lv_iload_n hx hb dX8_takeBack_35 rfl (lv_at hl 3 rfl) ?_
      refine w_iald hC hW m_61 (n := 10) rfl (by first | assumption | exact ik_in hM (by assumption) | exact vp_in_c (y := 10) (by decide) (by decide) (by assumption) (by assumption) | (exfalso; contradiction)) dX8_takeBack_36 ?_
      refine lv_iload_n hx hb dX8_takeBack_37 rfl (lv_at hl 2 rfl) ?_
      refine lv_icmp_eq (tgt := 45) hx hb dX8_takeBack_38 (by decide) (fun c_3 => ?_) (fun c_3 => ?_)
      · refine lv_iconst (v := 0) hx hb dX8_takeBack_45 (by decide) ?_
        refine w_callV (As := [.int 0]) (rest := []) (st2 := .int (f_X8_rf 0) :: []) hC hW hS hl cv_X8_154 m_8 (by decide) rfl (c_X8_refused l hl9 D ca base ad σ 0 ) rfl rfl rfl ⟨Nat.le_of_ble_eq_true rfl, Nat.le_of_ble_eq_true rfl⟩ (Nat.le_of_ble_eq_true rfl) dX8_takeBack_46 ⟨Nat.le_of_ble_eq_true rfl, Nat.le_of_ble_eq_true rfl⟩ (fun H locs hW hS => ?_)
        refine lv_eqi (y := 0) (by decide) ?_
        refine lv_if_eq (tgt := 54) hx hb dX8_takeBack_49 (by decide) (fun _ => ?_) (fun c => absurd (by decide) c)
        refine lv_aload_n hx hb dX8_takeBack_54 rfl (lv_at hl 1 rfl) ?_
        refine lv_iload_n hx hb dX8_takeBack_55 rfl (lv_at hl 3 rfl) ?_
        refine w_callV (As := [.int t]) (rest := []) (st2 := .int (f_X8_isStill t (us σ 8 0 0 0)) :: []) hC hW hS hl cv_X8_226 m_8 (by decide) rfl (c_X8_isStill l hl9 D ca base ad (us σ 8 0 0 0) t (mi_of hM (by rw [us_j (by decide)]) (by rw [us_j (by decide)]) (by rw [us_j (by decide)]) (by rw [us_j (by decide)]) (by rw [us_kk (by decide)]) (by rw [us_kk (by decide)]) (by rw [us_kk (by decide)]) (by rw [us_kk (by decide)]) (by rw [us_kk (by decide)]) (by rw [us_kk (by decide)]) (by rw [us_kk (by decide)]) (by rw [us_kk (by decide)]) (by rw [us_kk (by decide)]) (by rw [us_kk (by decide)]) (by rw [us_kk (by decide)]) (by rw [us_kk (by decide)])) (itk_fr (by rw [us_j (by decide)]) (by assumption))) rfl rfl rfl ⟨Nat.le_of_ble_eq_true rfl, Nat.le_of_ble_eq_true rfl⟩ (Nat.le_of_ble_eq_true rfl) dX8_takeBack_56 ⟨Nat.le_of_ble_eq_true rfl, Nat.le_of_ble_eq_true rfl⟩ (fun H locs hW hS => ?_)
        refine lv_istore (lv' := [(4, .int (f_X8_isStill t (us σ 8 0 0 0))), (3, .int 1), (0, .ref (ad 8 0)), (1, .int k), (2, .int t)]) hx hb dX8_takeBack_59 hl (by decide) rfl (fun ls hl => ?_)
        refine lv_aload_n hx hb dX8_takeBack_61 rfl (lv_at hl 2 rfl) ?_
        refine gf_X8_107 hC hW m_8 rfl dX8_takeBack_62 ?_
        refine lv_iload_n hx hb dX8_takeBack_65 rfl (lv_at hl 4 rfl) ?_
        refine lv_iconst (v := 0) hx hb dX8_takeBack_66 (by decide) ?_
        refine w_zast hC hW hS m_66 (n := 10) (fun _ => rfl) (by decide) (by first | assumption | exact ik_in hM (by assumption) | exact vp_in_c (y := 10) (by decide) (by decide) (by assumption) (by assumption) | (exfalso; contradiction)) dX8_takeBack_67 (fun H locs hW hS => ?_)
        refine lv_iload hx hb dX8_takeBack_68 (lv_at hl 0 rfl) ?_
        have hO : f_X8_takeBack k t σ = (f_X8_isStill t (us σ 8 0 0 0), us (us σ 8 0 0 0) 66 0 t.toNatClampNeg 0) := by rw [f_X8_takeBack, if_neg c_1, if_neg c_2, if_pos c_3]
        exact w_zretS hC hW hS bb_X8_isStill hO (Nat.le_of_ble_eq_true rfl) (Nat.le_of_ble_eq_true rfl) dX8_takeBack_70
      · refine lv_iconst (v := 2) hx hb dX8_takeBack_41 (by decide) ?_
        refine lv_goto (tgt := 46) hx hb dX8_takeBack_42 (by decide) ?_
        refine w_callV (As := [.int 2]) (rest := []) (st2 := .int (f_X8_rf 2) :: []) hC hW hS hl cv_X8_154 m_8 (by decide) rfl (c_X8_refused l hl9 D ca base ad σ 2 ) rfl rfl rfl ⟨Nat.le_of_ble_eq_true rfl, Nat.le_of_ble_eq_true rfl⟩ (Nat.le_of_ble_eq_true rfl) dX8_takeBack_46 ⟨Nat.le_of_ble_eq_true rfl, Nat.le_of_ble_eq_true rfl⟩ (fun H locs hW hS => ?_)
        refine lv_eqi (y := 1) (by decide) ?_
        refine lv_if_eq (tgt := 54) hx hb dX8_takeBack_49 (by decide) (fun c => absurd c (by decide)) (fun _ => ?_)
        refine lv_iconst (v := 0) hx hb dX8_takeBack_52 (by decide) ?_
        have hO : f_X8_takeBack k t σ = (0, us σ 8 0 0 2) := by rw [f_X8_takeBack, if_neg c_1, if_neg c_2, if_neg c_3]
        exact w_zretS hC hW hS (by decide) hO (Nat.le_of_ble_eq_true rfl) (Nat.le_of_ble_eq_true rfl) dX8_takeBack_53
theorem fr_X8_takeBack {kk : Nat}  {k : Int32} {t : Int32} {σ : Sg} (h8 : kk ≠ 8) (h66 : kk ≠ 66) : (f_X8_takeBack k t σ).2 kk = σ kk := by
  rw [f_X8_takeBack]
  repeat' split
  all_goals (first | (simp only [us_kk, ne_eq, not_false_eq_true, h8, h66]; done) | with_reducible rfl | (simp only [us_kk, ne_eq, not_false_eq_true, h8, h66]; with_reducible rfl))
theorem fs_X8_takeBack {jj : Nat}  {k : Int32} {t : Int32} {σ : Sg} (h0 : jj ≠ 0) : (f_X8_takeBack k t σ).2 8 0 jj = σ 8 0 jj := by
  rw [f_X8_takeBack]
  repeat' split
  all_goals (first | with_reducible rfl | (simp [us_k, us_j, ne_eq, not_false_eq_true, h0]; done))

def f_X8_actBy (k : Int32) (t : Int32) (r : Int32) (σ : Sg) : Int32 × Sg :=
  if (f_X8_isProcess k σ) = 0 then (0, us σ 8 0 0 1)
  else if (f_X8_isToken t σ) = 0 then (0, us σ 8 0 0 1)
  else if (f_X8_isRight r) = 0 then (0, us σ 8 0 0 2)
  else if (σ 62 0 t.toNatClampNeg) = k then (if (f_X8_lets t r (us σ 8 0 0 0)) = 0 then (5, s_X8_log k (σ 58 0 t.toNatClampNeg) r 5 (us σ 8 0 0 0))
    else (f_X8_verdictOf (σ 63 0 t.toNatClampNeg) (σ 64 0 t.toNatClampNeg) k 0 (σ 58 0 t.toNatClampNeg) r (us σ 8 0 0 0), s_X8_log k (σ 58 0 t.toNatClampNeg) r (f_X8_verdictOf (σ 63 0 t.toNatClampNeg) (σ 64 0 t.toNatClampNeg) k 0 (σ 58 0 t.toNatClampNeg) r (us σ 8 0 0 0)) (us σ 8 0 0 0)))
  else (0, us σ 8 0 0 3)
set_option maxHeartbeats 4000000 in
set_option maxRecDepth 100000 in
theorem c_X8_actBy (l : Launch) (hl9 : l.stackTraces = false) (D : va_G) (ca : Nat → ClassId) (base : Nat) (ad : Adr) (σ : Sg) (k : Int32) (t : Int32) (r : Int32) (hM : MInv σ) : Mt l yX8_actBy cX8_actBy 6 (some .int) { frames := 6, cells := 0, slots := 0, locals := 149 } D ca base ad ρm Lm [.ref (ad 8 0), .int k, .int t, .int r] σ (some (.int (f_X8_actBy k t r σ).1)) (f_X8_actBy k t r σ).2 := by
  refine w_ofW (by decide) (Nat.le_of_ble_eq_true rfl) rfl ?_
  intro p e s m args below meth c hC hW hS ls hl hin
  have hx := hC.1
  have hb := hC.2.1
  refine lv_aload_n hx hb dX8_actBy_0 rfl (lv_at hl 0 rfl) ?_
  refine lv_iload_n hx hb dX8_actBy_1 rfl (lv_at hl 1 rfl) ?_
  refine w_callV (As := [.int k]) (rest := []) (st2 := .int (f_X8_isProcess k σ) :: []) hC hW hS hl cv_X8_166 m_8 (by decide) rfl (c_X8_isProcess l hl9 D ca base ad σ k ) rfl rfl rfl ⟨Nat.le_of_ble_eq_true rfl, Nat.le_of_ble_eq_true rfl⟩ (Nat.le_of_ble_eq_true rfl) dX8_actBy_2 ⟨Nat.le_of_ble_eq_true rfl, Nat.le_of_ble_eq_true rfl⟩ (fun H locs hW hS => ?_)
  refine lv_if_eq (tgt := 20) hx hb dX8_actBy_5 (by decide) (fun c_1 => ?_) (fun c_1 => ?_)
  · refine lv_iconst (v := 0) hx hb dX8_actBy_20 (by decide) ?_
    refine lv_istore (lv' := [(4, .int 0), (0, .ref (ad 8 0)), (1, .int k), (2, .int t), (3, .int r)]) hx hb dX8_actBy_21 hl (by decide) rfl (fun ls hl => ?_)
    refine lv_aload_n hx hb dX8_actBy_23 rfl (lv_at hl 1 rfl) ?_
    refine lv_iload hx hb dX8_actBy_24 (lv_at hl 0 rfl) ?_
    refine lv_if_ne (tgt := 33) hx hb dX8_actBy_26 (by decide) (fun c => absurd (by decide) c) (fun _ => ?_)
    refine lv_iconst (v := 1) hx hb dX8_actBy_29 (by decide) ?_
    refine lv_goto (tgt := 59) hx hb dX8_actBy_30 (by decide) ?_
    refine w_callV (As := [.int 1]) (rest := []) (st2 := .int (f_X8_rf 1) :: []) hC hW hS hl cv_X8_154 m_8 (by decide) rfl (c_X8_refused l hl9 D ca base ad σ 1 ) rfl rfl rfl ⟨Nat.le_of_ble_eq_true rfl, Nat.le_of_ble_eq_true rfl⟩ (Nat.le_of_ble_eq_true rfl) dX8_actBy_59 ⟨Nat.le_of_ble_eq_true rfl, Nat.le_of_ble_eq_true rfl⟩ (fun H locs hW hS => ?_)
    refine lv_eqi (y := 1) (by decide) ?_
    refine lv_if_eq (tgt := 67) hx hb dX8_actBy_62 (by decide) (fun c => absurd c (by decide)) (fun _ => ?_)
    refine lv_iconst (v := 0) hx hb dX8_actBy_65 (by decide) ?_
    have hO : f_X8_actBy k t r σ = (0, us σ 8 0 0 1) := by rw [f_X8_actBy, if_pos c_1]
    exact w_iretS hC hW hS hO (Nat.le_of_ble_eq_true rfl) (Nat.le_of_ble_eq_true rfl) dX8_actBy_66
  · refine lv_aload_n hx hb dX8_actBy_8 rfl (lv_at hl 0 rfl) ?_
    refine lv_iload_n hx hb dX8_actBy_9 rfl (lv_at hl 2 rfl) ?_
    refine w_callV (As := [.int t]) (rest := []) (st2 := .int (f_X8_isToken t σ) :: []) hC hW hS hl cv_X8_229 m_8 (by decide) rfl (c_X8_isToken l hl9 D ca base ad σ t ) rfl rfl rfl ⟨Nat.le_of_ble_eq_true rfl, Nat.le_of_ble_eq_true rfl⟩ (Nat.le_of_ble_eq_true rfl) dX8_actBy_10 ⟨Nat.le_of_ble_eq_true rfl, Nat.le_of_ble_eq_true rfl⟩ (fun H locs hW hS => ?_)
    refine lv_if_eq (tgt := 20) hx hb dX8_actBy_13 (by decide) (fun c_2 => ?_) (fun c_2 => ?_)
    · refine lv_iconst (v := 0) hx hb dX8_actBy_20 (by decide) ?_
      refine lv_istore (lv' := [(4, .int 0), (0, .ref (ad 8 0)), (1, .int k), (2, .int t), (3, .int r)]) hx hb dX8_actBy_21 hl (by decide) rfl (fun ls hl => ?_)
      refine lv_aload_n hx hb dX8_actBy_23 rfl (lv_at hl 1 rfl) ?_
      refine lv_iload hx hb dX8_actBy_24 (lv_at hl 0 rfl) ?_
      refine lv_if_ne (tgt := 33) hx hb dX8_actBy_26 (by decide) (fun c => absurd (by decide) c) (fun _ => ?_)
      refine lv_iconst (v := 1) hx hb dX8_actBy_29 (by decide) ?_
      refine lv_goto (tgt := 59) hx hb dX8_actBy_30 (by decide) ?_
      refine w_callV (As := [.int 1]) (rest := []) (st2 := .int (f_X8_rf 1) :: []) hC hW hS hl cv_X8_154 m_8 (by decide) rfl (c_X8_refused l hl9 D ca base ad σ 1 ) rfl rfl rfl ⟨Nat.le_of_ble_eq_true rfl, Nat.le_of_ble_eq_true rfl⟩ (Nat.le_of_ble_eq_true rfl) dX8_actBy_59 ⟨Nat.le_of_ble_eq_true rfl, Nat.le_of_ble_eq_true rfl⟩ (fun H locs hW hS => ?_)
      refine lv_eqi (y := 1) (by decide) ?_
      refine lv_if_eq (tgt := 67) hx hb dX8_actBy_62 (by decide) (fun c => absurd c (by decide)) (fun _ => ?_)
      refine lv_iconst (v := 0) hx hb dX8_actBy_65 (by decide) ?_
      have hO : f_X8_actBy k t r σ = (0, us σ 8 0 0 1) := by rw [f_X8_actBy, if_neg c_1, if_pos c_2]
      exact w_iretS hC hW hS hO (Nat.le_of_ble_eq_true rfl) (Nat.le_of_ble_eq_true rfl) dX8_actBy_66
    · refine lv_iconst (v := 1) hx hb dX8_actBy_16 (by decide) ?_
      refine lv_goto (tgt := 21) hx hb dX8_actBy_17 (by decide) ?_
      refine lv_istore (lv' := [(4, .int 1), (0, .ref (ad 8 0)), (1, .int k), (2, .int t), (3, .int r)]) hx hb dX8_actBy_21 hl (by decide) rfl (fun ls hl => ?_)
      refine lv_aload_n hx hb dX8_actBy_23 rfl (lv_at hl 1 rfl) ?_
      refine lv_iload hx hb dX8_actBy_24 (lv_at hl 0 rfl) ?_
      refine lv_if_ne (tgt := 33) hx hb dX8_actBy_26 (by decide) (fun _ => ?_) (fun c => absurd c (by decide))
      refine lv_iload_n hx hb dX8_actBy_33 rfl (lv_at hl 4 rfl) ?_
      refine w_callS (As := [.int r]) (rest := .ref (ad 8 0) :: []) (st2 := .int (f_X8_isRight r) :: .ref (ad 8 0) :: []) hC hW hS hl cs_X8_194 (c_X8_isRight l hl9 D ca base ad σ r ) rfl rfl rfl ⟨Nat.le_of_ble_eq_true rfl, Nat.le_of_ble_eq_true rfl⟩ (Nat.le_of_ble_eq_true rfl) dX8_actBy_34 ⟨Nat.le_of_ble_eq_true rfl, Nat.le_of_ble_eq_true rfl⟩ (fun H locs hW hS => ?_)
      refine lv_if_ne (tgt := 44) hx hb dX8_actBy_37 (by decide) (fun c_3 => ?_) (fun c_3 => ?_)
      · refine lv_aload_n hx hb dX8_actBy_44 rfl (lv_at hl 1 rfl) ?_
        refine gf_X8_95 hC hW m_8 rfl dX8_actBy_45 ?_
        refine lv_iload_n hx hb dX8_actBy_48 rfl (lv_at hl 3 rfl) ?_
        refine w_iald hC hW m_62 (n := 10) rfl (by first | assumption | exact ik_in hM (by assumption) | exact vp_in_c (y := 10) (by decide) (by decide) (by assumption) (by assumption) | (exfalso; contradiction)) dX8_actBy_49 ?_
        refine lv_iload_n hx hb dX8_actBy_50 rfl (lv_at hl 2 rfl) ?_
        refine lv_icmp_eq (tgt := 58) hx hb dX8_actBy_51 (by decide) (fun c_4 => ?_) (fun c_4 => ?_)
        · refine lv_iconst (v := 0) hx hb dX8_actBy_58 (by decide) ?_
          refine w_callV (As := [.int 0]) (rest := []) (st2 := .int (f_X8_rf 0) :: []) hC hW hS hl cv_X8_154 m_8 (by decide) rfl (c_X8_refused l hl9 D ca base ad σ 0 ) rfl rfl rfl ⟨Nat.le_of_ble_eq_true rfl, Nat.le_of_ble_eq_true rfl⟩ (Nat.le_of_ble_eq_true rfl) dX8_actBy_59 ⟨Nat.le_of_ble_eq_true rfl, Nat.le_of_ble_eq_true rfl⟩ (fun H locs hW hS => ?_)
          refine lv_eqi (y := 0) (by decide) ?_
          refine lv_if_eq (tgt := 67) hx hb dX8_actBy_62 (by decide) (fun _ => ?_) (fun c => absurd (by decide) c)
          refine lv_aload_n hx hb dX8_actBy_67 rfl (lv_at hl 1 rfl) ?_
          refine lv_iload_n hx hb dX8_actBy_68 rfl (lv_at hl 3 rfl) ?_
          refine lv_iload_n hx hb dX8_actBy_69 rfl (lv_at hl 4 rfl) ?_
          refine w_callV (As := [.int t, .int r]) (rest := []) (st2 := .int (f_X8_lets t r (us σ 8 0 0 0)) :: []) hC hW hS hl cv_X8_232 m_8 (by decide) rfl (c_X8_lets l hl9 D ca base ad (us σ 8 0 0 0) t r (mi_of hM (by rw [us_j (by decide)]) (by rw [us_j (by decide)]) (by rw [us_j (by decide)]) (by rw [us_j (by decide)]) (by rw [us_kk (by decide)]) (by rw [us_kk (by decide)]) (by rw [us_kk (by decide)]) (by rw [us_kk (by decide)]) (by rw [us_kk (by decide)]) (by rw [us_kk (by decide)]) (by rw [us_kk (by decide)]) (by rw [us_kk (by decide)]) (by rw [us_kk (by decide)]) (by rw [us_kk (by decide)]) (by rw [us_kk (by decide)]) (by rw [us_kk (by decide)])) (itk_fr (by rw [us_j (by decide)]) (by assumption))) rfl rfl rfl ⟨Nat.le_of_ble_eq_true rfl, Nat.le_of_ble_eq_true rfl⟩ (Nat.le_of_ble_eq_true rfl) dX8_actBy_70 ⟨Nat.le_of_ble_eq_true rfl, Nat.le_of_ble_eq_true rfl⟩ (fun H locs hW hS => ?_)
          refine lv_if_eq (tgt := 104) hx hb dX8_actBy_73 (by decide) (fun c_5 => ?_) (fun c_5 => ?_)
          · refine lv_iconst (v := 5) hx hb dX8_actBy_104 (by decide) ?_
            refine lv_istore (lv' := [(5, .int 5), (4, .int 1), (0, .ref (ad 8 0)), (1, .int k), (2, .int t), (3, .int r)]) hx hb dX8_actBy_105 hl (by decide) rfl (fun ls hl => ?_)
            refine lv_aload_n hx hb dX8_actBy_107 rfl (lv_at hl 2 rfl) ?_
            refine lv_iload_n hx hb dX8_actBy_108 rfl (lv_at hl 3 rfl) ?_
            refine lv_aload_n hx hb dX8_actBy_109 rfl (lv_at hl 2 rfl) ?_
            refine gf_X8_83 hC hW m_8 rfl dX8_actBy_110 ?_
            refine lv_iload_n hx hb dX8_actBy_113 rfl (lv_at hl 4 rfl) ?_
            refine w_iald hC hW m_58 (n := 10) rfl (by first | assumption | exact ik_in hM (by assumption) | exact vp_in_c (y := 10) (by decide) (by decide) (by assumption) (by assumption) | (exfalso; contradiction)) dX8_actBy_114 ?_
            refine lv_eqi (y := σ 58 0 t.toNatClampNeg) (by rw [us_k (by decide)]) ?_
            refine lv_iload_n hx hb dX8_actBy_115 rfl (lv_at hl 5 rfl) ?_
            refine lv_iload hx hb dX8_actBy_116 (lv_at hl 0 rfl) ?_
            refine w_callV (As := [.int k, .int (σ 58 0 t.toNatClampNeg), .int r, .int 5]) (rest := []) (st2 := []) hC hW hS hl cv_X8_215 m_8 (by decide) rfl (c_X8_log l hl9 D ca base ad (us σ 8 0 0 0) k (σ 58 0 t.toNatClampNeg) r 5 (mi_of hM (by rw [us_j (by decide)]) (by rw [us_j (by decide)]) (by rw [us_j (by decide)]) (by rw [us_j (by decide)]) (by rw [us_kk (by decide)]) (by rw [us_kk (by decide)]) (by rw [us_kk (by decide)]) (by rw [us_kk (by decide)]) (by rw [us_kk (by decide)]) (by rw [us_kk (by decide)]) (by rw [us_kk (by decide)]) (by rw [us_kk (by decide)]) (by rw [us_kk (by decide)]) (by rw [us_kk (by decide)]) (by rw [us_kk (by decide)]) (by rw [us_kk (by decide)]))) rfl rfl rfl ⟨Nat.le_of_ble_eq_true rfl, Nat.le_of_ble_eq_true rfl⟩ (Nat.le_of_ble_eq_true rfl) dX8_actBy_118 ⟨Nat.le_of_ble_eq_true rfl, Nat.le_of_ble_eq_true rfl⟩ (fun H locs hW hS => ?_)
            refine lv_iload hx hb dX8_actBy_121 (lv_at hl 0 rfl) ?_
            have hO : f_X8_actBy k t r σ = (5, s_X8_log k (σ 58 0 t.toNatClampNeg) r 5 (us σ 8 0 0 0)) := by rw [f_X8_actBy, if_neg c_1, if_neg c_2, if_neg c_3, if_pos c_4, if_pos c_5]
            exact w_iretS hC hW hS hO (Nat.le_of_ble_eq_true rfl) (Nat.le_of_ble_eq_true rfl) dX8_actBy_123
          · refine lv_aload_n hx hb dX8_actBy_76 rfl (lv_at hl 1 rfl) ?_
            refine lv_aload_n hx hb dX8_actBy_77 rfl (lv_at hl 1 rfl) ?_
            refine gf_X8_98 hC hW m_8 rfl dX8_actBy_78 ?_
            refine lv_iload_n hx hb dX8_actBy_81 rfl (lv_at hl 3 rfl) ?_
            refine w_iald hC hW m_63 (n := 10) rfl (by first | assumption | exact ik_in hM (by assumption) | exact vp_in_c (y := 10) (by decide) (by decide) (by assumption) (by assumption) | (exfalso; contradiction)) dX8_actBy_82 ?_
            refine lv_eqi (y := σ 63 0 t.toNatClampNeg) (by rw [us_k (by decide)]) ?_
            refine lv_aload_n hx hb dX8_actBy_83 rfl (lv_at hl 1 rfl) ?_
            refine gf_X8_101 hC hW m_8 rfl dX8_actBy_84 ?_
            refine lv_iload_n hx hb dX8_actBy_87 rfl (lv_at hl 3 rfl) ?_
            refine w_iald hC hW m_64 (n := 10) rfl (by first | assumption | exact ik_in hM (by assumption) | exact vp_in_c (y := 10) (by decide) (by decide) (by assumption) (by assumption) | (exfalso; contradiction)) dX8_actBy_88 ?_
            refine lv_eqi (y := σ 64 0 t.toNatClampNeg) (by rw [us_k (by decide)]) ?_
            refine lv_iload_n hx hb dX8_actBy_89 rfl (lv_at hl 2 rfl) ?_
            refine lv_iconst (v := 0) hx hb dX8_actBy_90 (by decide) ?_
            refine lv_aload_n hx hb dX8_actBy_91 rfl (lv_at hl 1 rfl) ?_
            refine gf_X8_83 hC hW m_8 rfl dX8_actBy_92 ?_
            refine lv_iload_n hx hb dX8_actBy_95 rfl (lv_at hl 3 rfl) ?_
            refine w_iald hC hW m_58 (n := 10) rfl (by first | assumption | exact ik_in hM (by assumption) | exact vp_in_c (y := 10) (by decide) (by decide) (by assumption) (by assumption) | (exfalso; contradiction)) dX8_actBy_96 ?_
            refine lv_eqi (y := σ 58 0 t.toNatClampNeg) (by rw [us_k (by decide)]) ?_
            refine lv_iload_n hx hb dX8_actBy_97 rfl (lv_at hl 4 rfl) ?_
            refine w_callV (As := [.int (σ 63 0 t.toNatClampNeg), .int (σ 64 0 t.toNatClampNeg), .int k, .int 0, .int (σ 58 0 t.toNatClampNeg), .int r]) (rest := []) (st2 := .int (f_X8_verdictOf (σ 63 0 t.toNatClampNeg) (σ 64 0 t.toNatClampNeg) k 0 (σ 58 0 t.toNatClampNeg) r (us σ 8 0 0 0)) :: []) hC hW hS hl cv_X8_190 m_8 (by decide) rfl (c_X8_verdictOf l hl9 D ca base ad (us σ 8 0 0 0) (σ 63 0 t.toNatClampNeg) (σ 64 0 t.toNatClampNeg) k 0 (σ 58 0 t.toNatClampNeg) r (mi_of hM (by rw [us_j (by decide)]) (by rw [us_j (by decide)]) (by rw [us_j (by decide)]) (by rw [us_j (by decide)]) (by rw [us_kk (by decide)]) (by rw [us_kk (by decide)]) (by rw [us_kk (by decide)]) (by rw [us_kk (by decide)]) (by rw [us_kk (by decide)]) (by rw [us_kk (by decide)]) (by rw [us_kk (by decide)]) (by rw [us_kk (by decide)]) (by rw [us_kk (by decide)]) (by rw [us_kk (by decide)]) (by rw [us_kk (by decide)]) (by rw [us_kk (by decide)])) (tt_in hM (ik_in hM (by assumption))) (ip_in hM (by assumption)) (td_in hM (ik_in hM (by assumption)))) rfl rfl rfl ⟨Nat.le_of_ble_eq_true rfl, Nat.le_of_ble_eq_true rfl⟩ (Nat.le_of_ble_eq_true rfl) dX8_actBy_98 ⟨Nat.le_of_ble_eq_true rfl, Nat.le_of_ble_eq_true rfl⟩ (fun H locs hW hS => ?_)
            refine lv_goto (tgt := 105) hx hb dX8_actBy_101 (by decide) ?_
            refine lv_istore (lv' := [(5, .int (f_X8_verdictOf (σ 63 0 t.toNatClampNeg) (σ 64 0 t.toNatClampNeg) k 0 (σ 58 0 t.toNatClampNeg) r (us σ 8 0 0 0))), (4, .int 1), (0, .ref (ad 8 0)), (1, .int k), (2, .int t), (3, .int r)]) hx hb dX8_actBy_105 hl (by decide) rfl (fun ls hl => ?_)
            refine lv_aload_n hx hb dX8_actBy_107 rfl (lv_at hl 2 rfl) ?_
            refine lv_iload_n hx hb dX8_actBy_108 rfl (lv_at hl 3 rfl) ?_
            refine lv_aload_n hx hb dX8_actBy_109 rfl (lv_at hl 2 rfl) ?_
            refine gf_X8_83 hC hW m_8 rfl dX8_actBy_110 ?_
            refine lv_iload_n hx hb dX8_actBy_113 rfl (lv_at hl 4 rfl) ?_
            refine w_iald hC hW m_58 (n := 10) rfl (by first | assumption | exact ik_in hM (by assumption) | exact vp_in_c (y := 10) (by decide) (by decide) (by assumption) (by assumption) | (exfalso; contradiction)) dX8_actBy_114 ?_
            refine lv_eqi (y := σ 58 0 t.toNatClampNeg) (by rw [us_k (by decide)]) ?_
            refine lv_iload_n hx hb dX8_actBy_115 rfl (lv_at hl 5 rfl) ?_
            refine lv_iload hx hb dX8_actBy_116 (lv_at hl 0 rfl) ?_
            refine w_callV (As := [.int k, .int (σ 58 0 t.toNatClampNeg), .int r, .int (f_X8_verdictOf (σ 63 0 t.toNatClampNeg) (σ 64 0 t.toNatClampNeg) k 0 (σ 58 0 t.toNatClampNeg) r (us σ 8 0 0 0))]) (rest := []) (st2 := []) hC hW hS hl cv_X8_215 m_8 (by decide) rfl (c_X8_log l hl9 D ca base ad (us σ 8 0 0 0) k (σ 58 0 t.toNatClampNeg) r (f_X8_verdictOf (σ 63 0 t.toNatClampNeg) (σ 64 0 t.toNatClampNeg) k 0 (σ 58 0 t.toNatClampNeg) r (us σ 8 0 0 0)) (mi_of hM (by rw [us_j (by decide)]) (by rw [us_j (by decide)]) (by rw [us_j (by decide)]) (by rw [us_j (by decide)]) (by rw [us_kk (by decide)]) (by rw [us_kk (by decide)]) (by rw [us_kk (by decide)]) (by rw [us_kk (by decide)]) (by rw [us_kk (by decide)]) (by rw [us_kk (by decide)]) (by rw [us_kk (by decide)]) (by rw [us_kk (by decide)]) (by rw [us_kk (by decide)]) (by rw [us_kk (by decide)]) (by rw [us_kk (by decide)]) (by rw [us_kk (by decide)]))) rfl rfl rfl ⟨Nat.le_of_ble_eq_true rfl, Nat.le_of_ble_eq_true rfl⟩ (Nat.le_of_ble_eq_true rfl) dX8_actBy_118 ⟨Nat.le_of_ble_eq_true rfl, Nat.le_of_ble_eq_true rfl⟩ (fun H locs hW hS => ?_)
            refine lv_iload hx hb dX8_actBy_121 (lv_at hl 0 rfl) ?_
            have hO : f_X8_actBy k t r σ = (f_X8_verdictOf (σ 63 0 t.toNatClampNeg) (σ 64 0 t.toNatClampNeg) k 0 (σ 58 0 t.toNatClampNeg) r (us σ 8 0 0 0), s_X8_log k (σ 58 0 t.toNatClampNeg) r (f_X8_verdictOf (σ 63 0 t.toNatClampNeg) (σ 64 0 t.toNatClampNeg) k 0 (σ 58 0 t.toNatClampNeg) r (us σ 8 0 0 0)) (us σ 8 0 0 0)) := by rw [f_X8_actBy, if_neg c_1, if_neg c_2, if_neg c_3, if_pos c_4, if_neg c_5]
            exact w_iretS hC hW hS hO (Nat.le_of_ble_eq_true rfl) (Nat.le_of_ble_eq_true rfl) dX8_actBy_123
        · refine lv_iconst (v := 3) hx hb dX8_actBy_54 (by decide) ?_
          refine lv_goto (tgt := 59) hx hb dX8_actBy_55 (by decide) ?_
          refine w_callV (As := [.int 3]) (rest := []) (st2 := .int (f_X8_rf 3) :: []) hC hW hS hl cv_X8_154 m_8 (by decide) rfl (c_X8_refused l hl9 D ca base ad σ 3 ) rfl rfl rfl ⟨Nat.le_of_ble_eq_true rfl, Nat.le_of_ble_eq_true rfl⟩ (Nat.le_of_ble_eq_true rfl) dX8_actBy_59 ⟨Nat.le_of_ble_eq_true rfl, Nat.le_of_ble_eq_true rfl⟩ (fun H locs hW hS => ?_)
          refine lv_eqi (y := 1) (by decide) ?_
          refine lv_if_eq (tgt := 67) hx hb dX8_actBy_62 (by decide) (fun c => absurd c (by decide)) (fun _ => ?_)
          refine lv_iconst (v := 0) hx hb dX8_actBy_65 (by decide) ?_
          have hO : f_X8_actBy k t r σ = (0, us σ 8 0 0 3) := by rw [f_X8_actBy, if_neg c_1, if_neg c_2, if_neg c_3, if_neg c_4]
          exact w_iretS hC hW hS hO (Nat.le_of_ble_eq_true rfl) (Nat.le_of_ble_eq_true rfl) dX8_actBy_66
      · refine lv_iconst (v := 2) hx hb dX8_actBy_40 (by decide) ?_
        refine lv_goto (tgt := 59) hx hb dX8_actBy_41 (by decide) ?_
        refine w_callV (As := [.int 2]) (rest := []) (st2 := .int (f_X8_rf 2) :: []) hC hW hS hl cv_X8_154 m_8 (by decide) rfl (c_X8_refused l hl9 D ca base ad σ 2 ) rfl rfl rfl ⟨Nat.le_of_ble_eq_true rfl, Nat.le_of_ble_eq_true rfl⟩ (Nat.le_of_ble_eq_true rfl) dX8_actBy_59 ⟨Nat.le_of_ble_eq_true rfl, Nat.le_of_ble_eq_true rfl⟩ (fun H locs hW hS => ?_)
        refine lv_eqi (y := 1) (by decide) ?_
        refine lv_if_eq (tgt := 67) hx hb dX8_actBy_62 (by decide) (fun c => absurd c (by decide)) (fun _ => ?_)
        refine lv_iconst (v := 0) hx hb dX8_actBy_65 (by decide) ?_
        have hO : f_X8_actBy k t r σ = (0, us σ 8 0 0 2) := by rw [f_X8_actBy, if_neg c_1, if_neg c_2, if_pos c_3]
        exact w_iretS hC hW hS hO (Nat.le_of_ble_eq_true rfl) (Nat.le_of_ble_eq_true rfl) dX8_actBy_66
theorem fr_X8_actBy {kk : Nat}  {k : Int32} {t : Int32} {r : Int32} {σ : Sg} (h8 : kk ≠ 8) (h73 : kk ≠ 73) : (f_X8_actBy k t r σ).2 kk = σ kk := by
  rw [f_X8_actBy]
  repeat' split
  all_goals (first | (simp only [us_kk, ne_eq, not_false_eq_true, h8, h73, fr_X8_log]; done) | with_reducible rfl | (simp only [us_kk, ne_eq, not_false_eq_true, h8, h73, fr_X8_log]; with_reducible rfl))
theorem fs_X8_actBy {jj : Nat}  {k : Int32} {t : Int32} {r : Int32} {σ : Sg} (h0 : jj ≠ 0) (h40 : jj ≠ 40) (h41 : jj ≠ 41) (h42 : jj ≠ 42) : (f_X8_actBy k t r σ).2 8 0 jj = σ 8 0 jj := by
  rw [f_X8_actBy]
  repeat' split
  all_goals (first | with_reducible rfl | (simp [us_k, us_j, ne_eq, not_false_eq_true, h0, h40, h41, h42, fs_X8_log]; done))
