theorem l54_8 {a t r v : Int32} : ∀ (n k : Nat) (σ : Sg), (s_X8_log_L54 a t r v n k σ) 8 = σ 8 := by
  intro n
  induction n with
  | zero => intro k σ; rfl
  | succ n ih =>
    intro k σ
    rw [s_X8_log_L54]
    split
    · rfl
    · rw [ih, us_kk (by decide)]
theorem lg40 {σ : Sg} {a t r v : Int32} (hM : MInv σ) : ∃ n : Nat, n ≤ 20 ∧ (s_X8_log a t r v σ) 8 0 40 = nI n := by
  obtain ⟨n, h1, h2⟩ := hM.2.2.2.1
  have k : ∀ τ, (s_X8_log_K54 a t r v τ) 8 0 40 = τ 8 0 40 - 1 + 1 := by
    intro τ
    unfold s_X8_log_K54
    split <;> rw [us_h]
  have full : ∀ c : σ 8 0 40 = 20, ∃ n : Nat, n ≤ 20 ∧ (s_X8_log_K54 a t r v (s_X8_log_L54 a t r v 115 0 (us (us σ 8 0 42 (σ 73 0 5)) 8 0 41 ((σ 8 0 41) + (1 : Int32))))) 8 0 40 = nI n := by
    intro c
    refine ⟨20, Nat.le_refl _, ?_⟩
    rw [k, l54_8, us_j (by decide), us_j (by decide), c]
    decide
  have part : ∀ c : ¬ σ 8 0 40 = 20, ∃ m : Nat, m ≤ 20 ∧ σ 8 0 40 + 1 = nI m := by
    intro c
    have : n ≠ 20 := fun q => c (by rw [h2, q]; rfl)
    exact ⟨n + 1, by omega, by rw [h2, nI_1]⟩
  unfold s_X8_log
  repeat' split
  all_goals first | with_reducible exact full (by assumption) | (rw [us_h]; exact part (by assumption)) | with_reducible exact ⟨n, h1, h2⟩
theorem mi_log {σ : Sg} {a t r v : Int32} (hM : MInv σ) : MInv (s_X8_log a t r v σ) := by
  have h40 := lg40 (a := a) (t := t) (r := r) (v := v) hM
  unfold MInv MI at hM ⊢
  rw [fs_X8_log (jj := 3) (by decide) (by decide) (by decide), fs_X8_log (jj := 18) (by decide) (by decide) (by decide), fs_X8_log (jj := 27) (by decide) (by decide) (by decide), fr_X8_log (kk := 41) (by decide) (by decide), fr_X8_log (kk := 37) (by decide) (by decide), fr_X8_log (kk := 34) (by decide) (by decide), fr_X8_log (kk := 47) (by decide) (by decide), fr_X8_log (kk := 49) (by decide) (by decide), fr_X8_log (kk := 50) (by decide) (by decide), fr_X8_log (kk := 53) (by decide) (by decide), fr_X8_log (kk := 54) (by decide) (by decide), fr_X8_log (kk := 63) (by decide) (by decide), fr_X8_log (kk := 64) (by decide) (by decide), fr_X8_log (kk := 58) (by decide) (by decide), fr_X8_log (kk := 65) (by decide) (by decide)]
  exact ⟨hM.1, hM.2.1, hM.2.2.1, h40, hM.2.2.2.2⟩
def s_X8_runAs (k : Int32) (u : Int32) (d : Int32) (f : Int32) (t : Int32) (σ : Sg) : Sg :=
  if (σ 47 0 ((((4 : Int32) * d) + (σ 37 0 t.toNatClampNeg)).toNatClampNeg)) = (-1) then (if (f_X8_hasBit (σ 36 0 t.toNatClampNeg) 9) = 0 then (if (f_X8_hasBit (σ 36 0 t.toNatClampNeg) 9) = 0 then us (us (us σ 8 0 45 d) 8 0 44 u) 8 0 46 f
      else if (σ 34 0 t.toNatClampNeg) = 0 then us (us (us σ 8 0 45 d) 8 0 44 u) 8 0 46 (σ 54 0 k.toNatClampNeg)
      else us (us (us σ 8 0 45 d) 8 0 44 u) 8 0 46 0)
    else if (f_X8_hasBit (σ 36 0 t.toNatClampNeg) 9) = 0 then us (us (us σ 8 0 45 d) 8 0 44 (σ 34 0 t.toNatClampNeg)) 8 0 46 f
    else if (σ 34 0 t.toNatClampNeg) = 0 then us (us (us σ 8 0 45 d) 8 0 44 (σ 34 0 t.toNatClampNeg)) 8 0 46 (σ 54 0 k.toNatClampNeg)
    else us (us (us σ 8 0 45 d) 8 0 44 (σ 34 0 t.toNatClampNeg)) 8 0 46 0)
  else if (f_X8_hasBit (σ 36 0 t.toNatClampNeg) 9) = 0 then (if (f_X8_hasBit (σ 36 0 t.toNatClampNeg) 9) = 0 then us (us (us σ 8 0 45 (σ 47 0 ((((4 : Int32) * d) + (σ 37 0 t.toNatClampNeg)).toNatClampNeg))) 8 0 44 u) 8 0 46 f
    else if (σ 34 0 t.toNatClampNeg) = 0 then us (us (us σ 8 0 45 (σ 47 0 ((((4 : Int32) * d) + (σ 37 0 t.toNatClampNeg)).toNatClampNeg))) 8 0 44 u) 8 0 46 (σ 54 0 k.toNatClampNeg)
    else us (us (us σ 8 0 45 (σ 47 0 ((((4 : Int32) * d) + (σ 37 0 t.toNatClampNeg)).toNatClampNeg))) 8 0 44 u) 8 0 46 0)
  else if (f_X8_hasBit (σ 36 0 t.toNatClampNeg) 9) = 0 then us (us (us σ 8 0 45 (σ 47 0 ((((4 : Int32) * d) + (σ 37 0 t.toNatClampNeg)).toNatClampNeg))) 8 0 44 (σ 34 0 t.toNatClampNeg)) 8 0 46 f
  else if (σ 34 0 t.toNatClampNeg) = 0 then us (us (us σ 8 0 45 (σ 47 0 ((((4 : Int32) * d) + (σ 37 0 t.toNatClampNeg)).toNatClampNeg))) 8 0 44 (σ 34 0 t.toNatClampNeg)) 8 0 46 (σ 54 0 k.toNatClampNeg)
  else us (us (us σ 8 0 45 (σ 47 0 ((((4 : Int32) * d) + (σ 37 0 t.toNatClampNeg)).toNatClampNeg))) 8 0 44 (σ 34 0 t.toNatClampNeg)) 8 0 46 0
set_option maxHeartbeats 4000000 in
set_option maxRecDepth 100000 in
theorem c_X8_runAs (l : Launch) (hl9 : l.stackTraces = false) (D : va_G) (ca : Nat → ClassId) (base : Nat) (ad : Adr) (σ : Sg) (k : Int32) (u : Int32) (d : Int32) (f : Int32) (t : Int32) (hM : MInv σ) (ht : vp_in t 12) (hk : vp_in k 8) (hd : vp_in d 4) : Mt l yX8_runAs cX8_runAs 8 none { frames := 1, cells := 0, slots := 0, locals := 21 } D ca base ad ρm Lm [.ref (ad 8 0), .int k, .int u, .int d, .int f, .int t] σ none (s_X8_runAs k u d f t σ) := by
  refine w_ofW (by decide) (Nat.le_of_ble_eq_true rfl) rfl ?_
  intro p e s m args below meth c hC hW hS ls hl hin
  have hx := hC.1
  have hb := hC.2.1
  refine lv_aload_n hx hb dX8_runAs_0 rfl (lv_at hl 0 rfl) ?_
  refine gf_X8_56 hC hW m_8 rfl dX8_runAs_1 ?_
  refine lv_iconst (v := 4) hx hb dX8_runAs_4 (by decide) ?_
  refine lv_iload_n hx hb dX8_runAs_5 rfl (lv_at hl 3 rfl) ?_
  refine lv_imul hx hb dX8_runAs_6 ?_
  refine lv_aload_n hx hb dX8_runAs_7 rfl (lv_at hl 0 rfl) ?_
  refine gf_X8_25 hC hW m_8 rfl dX8_runAs_8 ?_
  refine lv_iload hx hb dX8_runAs_11 (lv_at hl 5 rfl) ?_
  refine w_iald hC hW m_37 (n := 12) rfl (by first | assumption | exact it_in hM (by assumption) | exact vp_in_c (y := 12) (by decide) (by decide) (by assumption) (by assumption) | (exfalso; contradiction)) dX8_runAs_13 ?_
  refine lv_iadd hx hb dX8_runAs_14 ?_
  refine w_iald hC hW m_47 (n := 16) rfl (r4_in hd (ty_in hM ht)) dX8_runAs_15 ?_
  refine lv_istore (lv' := [(6, .int (σ 47 0 ((((4 : Int32) * d) + (σ 37 0 t.toNatClampNeg)).toNatClampNeg))), (0, .ref (ad 8 0)), (1, .int k), (2, .int u), (3, .int d), (4, .int f), (5, .int t)]) hx hb dX8_runAs_16 hl (by decide) rfl (fun ls hl => ?_)
  refine lv_aload_n hx hb dX8_runAs_18 rfl (lv_at hl 1 rfl) ?_
  refine lv_iload hx hb dX8_runAs_19 (lv_at hl 0 rfl) ?_
  refine lv_iconst (v := (-1)) hx hb dX8_runAs_21 (by decide) ?_
  refine lv_icmp_ne (tgt := 29) hx hb dX8_runAs_22 (by decide) (fun c_1 => ?_) (fun c_1 => ?_)
  · refine lv_iload hx hb dX8_runAs_29 (lv_at hl 0 rfl) ?_
    refine pf_X8_206 hC hW m_8 hS dX8_runAs_31 (fun H locs hW hS => ?_)
    refine lv_aload_n hx hb dX8_runAs_34 rfl (lv_at hl 1 rfl) ?_
    refine gf_X8_22 hC hW m_8 rfl dX8_runAs_35 ?_
    refine lv_iload hx hb dX8_runAs_38 (lv_at hl 6 rfl) ?_
    refine w_iald hC hW m_36 (n := 12) rfl (by first | assumption | exact it_in hM (by assumption) | exact vp_in_c (y := 12) (by decide) (by decide) (by assumption) (by assumption) | (exfalso; contradiction)) dX8_runAs_40 ?_
    refine lv_eqi (y := σ 36 0 t.toNatClampNeg) (by rw [us_k (by decide)]) ?_
    refine lv_bipush (v := 9) hx hb dX8_runAs_41 (by decide) ?_
    refine w_callS (As := [.int (σ 36 0 t.toNatClampNeg), .int 9]) (rest := []) (st2 := .int (f_X8_hasBit (σ 36 0 t.toNatClampNeg) 9) :: []) hC hW hS hl cs_X8_142 (c_X8_hasBit l hl9 D ca base ad (us σ 8 0 45 (σ 47 0 ((((4 : Int32) * d) + (σ 37 0 t.toNatClampNeg)).toNatClampNeg))) (σ 36 0 t.toNatClampNeg) 9 ) rfl rfl rfl ⟨Nat.le_of_ble_eq_true rfl, Nat.le_of_ble_eq_true rfl⟩ (Nat.le_of_ble_eq_true rfl) dX8_runAs_43 ⟨Nat.le_of_ble_eq_true rfl, Nat.le_of_ble_eq_true rfl⟩ (fun H locs hW hS => ?_)
    refine lv_istore (lv' := [(7, .int (f_X8_hasBit (σ 36 0 t.toNatClampNeg) 9)), (6, .int (σ 47 0 ((((4 : Int32) * d) + (σ 37 0 t.toNatClampNeg)).toNatClampNeg))), (0, .ref (ad 8 0)), (1, .int k), (2, .int u), (3, .int d), (4, .int f), (5, .int t)]) hx hb dX8_runAs_46 hl (by decide) rfl (fun ls hl => ?_)
    refine lv_aload_n hx hb dX8_runAs_48 rfl (lv_at hl 2 rfl) ?_
    refine lv_iload hx hb dX8_runAs_49 (lv_at hl 0 rfl) ?_
    refine lv_if_eq (tgt := 64) hx hb dX8_runAs_51 (by decide) (fun c_2 => ?_) (fun c_2 => ?_)
    · refine lv_iload_n hx hb dX8_runAs_64 rfl (lv_at hl 4 rfl) ?_
      refine pf_X8_209 hC hW m_8 hS dX8_runAs_65 (fun H locs hW hS => ?_)
      refine lv_aload_n hx hb dX8_runAs_68 rfl (lv_at hl 2 rfl) ?_
      refine lv_iload hx hb dX8_runAs_69 (lv_at hl 0 rfl) ?_
      refine lv_if_ne (tgt := 79) hx hb dX8_runAs_71 (by decide) (fun c_3 => ?_) (fun c_3 => ?_)
      · refine lv_aload_n hx hb dX8_runAs_79 rfl (lv_at hl 2 rfl) ?_
        refine gf_X8_16 hC hW m_8 rfl dX8_runAs_80 ?_
        refine lv_iload hx hb dX8_runAs_83 (lv_at hl 7 rfl) ?_
        refine w_iald hC hW m_34 (n := 12) rfl (by first | assumption | exact it_in hM (by assumption) | exact vp_in_c (y := 12) (by decide) (by decide) (by assumption) (by assumption) | (exfalso; contradiction)) dX8_runAs_85 ?_
        refine lv_eqi (y := σ 34 0 t.toNatClampNeg) (by rw [us_k (by decide), us_k (by decide)]) ?_
        refine lv_if_ne (tgt := 98) hx hb dX8_runAs_86 (by decide) (fun c_4 => ?_) (fun c_4 => ?_)
        · refine lv_iconst (v := 0) hx hb dX8_runAs_98 (by decide) ?_
          refine pf_X8_212 hC hW m_8 hS dX8_runAs_99 (fun H locs hW hS => ?_)
          have hO : s_X8_runAs k u d f t σ = us (us (us σ 8 0 45 (σ 47 0 ((((4 : Int32) * d) + (σ 37 0 t.toNatClampNeg)).toNatClampNeg))) 8 0 44 u) 8 0 46 0 := by rw [s_X8_runAs, if_neg c_1, if_pos c_2, if_neg c_3, if_neg c_4]
          exact w_vretV hC hW hS hO (Nat.le_of_ble_eq_true rfl) (Nat.le_of_ble_eq_true rfl) dX8_runAs_102
        · refine lv_aload_n hx hb dX8_runAs_89 rfl (lv_at hl 2 rfl) ?_
          refine gf_X8_74 hC hW m_8 rfl dX8_runAs_90 ?_
          refine lv_iload_n hx hb dX8_runAs_93 rfl (lv_at hl 3 rfl) ?_
          refine w_iald hC hW m_54 (n := 8) rfl (by first | assumption | exact ip_in hM (by assumption) | exact vp_in_c (y := 8) (by decide) (by decide) (by assumption) (by assumption) | (exfalso; contradiction)) dX8_runAs_94 ?_
          refine lv_eqi (y := σ 54 0 k.toNatClampNeg) (by rw [us_k (by decide), us_k (by decide)]) ?_
          refine lv_goto (tgt := 99) hx hb dX8_runAs_95 (by decide) ?_
          refine pf_X8_212 hC hW m_8 hS dX8_runAs_99 (fun H locs hW hS => ?_)
          have hO : s_X8_runAs k u d f t σ = us (us (us σ 8 0 45 (σ 47 0 ((((4 : Int32) * d) + (σ 37 0 t.toNatClampNeg)).toNatClampNeg))) 8 0 44 u) 8 0 46 (σ 54 0 k.toNatClampNeg) := by rw [s_X8_runAs, if_neg c_1, if_pos c_2, if_neg c_3, if_pos c_4]
          exact w_vretV hC hW hS hO (Nat.le_of_ble_eq_true rfl) (Nat.le_of_ble_eq_true rfl) dX8_runAs_102
      · refine lv_iload hx hb dX8_runAs_74 (lv_at hl 6 rfl) ?_
        refine lv_goto (tgt := 99) hx hb dX8_runAs_76 (by decide) ?_
        refine pf_X8_212 hC hW m_8 hS dX8_runAs_99 (fun H locs hW hS => ?_)
        have hO : s_X8_runAs k u d f t σ = us (us (us σ 8 0 45 (σ 47 0 ((((4 : Int32) * d) + (σ 37 0 t.toNatClampNeg)).toNatClampNeg))) 8 0 44 u) 8 0 46 f := by rw [s_X8_runAs, if_neg c_1, if_pos c_2, if_pos c_3]
        exact w_vretV hC hW hS hO (Nat.le_of_ble_eq_true rfl) (Nat.le_of_ble_eq_true rfl) dX8_runAs_102
    · refine lv_aload_n hx hb dX8_runAs_54 rfl (lv_at hl 2 rfl) ?_
      refine gf_X8_16 hC hW m_8 rfl dX8_runAs_55 ?_
      refine lv_iload hx hb dX8_runAs_58 (lv_at hl 7 rfl) ?_
      refine w_iald hC hW m_34 (n := 12) rfl (by first | assumption | exact it_in hM (by assumption) | exact vp_in_c (y := 12) (by decide) (by decide) (by assumption) (by assumption) | (exfalso; contradiction)) dX8_runAs_60 ?_
      refine lv_eqi (y := σ 34 0 t.toNatClampNeg) (by rw [us_k (by decide)]) ?_
      refine lv_goto (tgt := 65) hx hb dX8_runAs_61 (by decide) ?_
      refine pf_X8_209 hC hW m_8 hS dX8_runAs_65 (fun H locs hW hS => ?_)
      refine lv_aload_n hx hb dX8_runAs_68 rfl (lv_at hl 2 rfl) ?_
      refine lv_iload hx hb dX8_runAs_69 (lv_at hl 0 rfl) ?_
      refine lv_if_ne (tgt := 79) hx hb dX8_runAs_71 (by decide) (fun c_5 => ?_) (fun c_5 => ?_)
      · refine lv_aload_n hx hb dX8_runAs_79 rfl (lv_at hl 2 rfl) ?_
        refine gf_X8_16 hC hW m_8 rfl dX8_runAs_80 ?_
        refine lv_iload hx hb dX8_runAs_83 (lv_at hl 7 rfl) ?_
        refine w_iald hC hW m_34 (n := 12) rfl (by first | assumption | exact it_in hM (by assumption) | exact vp_in_c (y := 12) (by decide) (by decide) (by assumption) (by assumption) | (exfalso; contradiction)) dX8_runAs_85 ?_
        refine lv_eqi (y := σ 34 0 t.toNatClampNeg) (by rw [us_k (by decide), us_k (by decide)]) ?_
        refine lv_if_ne (tgt := 98) hx hb dX8_runAs_86 (by decide) (fun c_6 => ?_) (fun c_6 => ?_)
        · refine lv_iconst (v := 0) hx hb dX8_runAs_98 (by decide) ?_
          refine pf_X8_212 hC hW m_8 hS dX8_runAs_99 (fun H locs hW hS => ?_)
          have hO : s_X8_runAs k u d f t σ = us (us (us σ 8 0 45 (σ 47 0 ((((4 : Int32) * d) + (σ 37 0 t.toNatClampNeg)).toNatClampNeg))) 8 0 44 (σ 34 0 t.toNatClampNeg)) 8 0 46 0 := by rw [s_X8_runAs, if_neg c_1, if_neg c_2, if_neg c_5, if_neg c_6]
          exact w_vretV hC hW hS hO (Nat.le_of_ble_eq_true rfl) (Nat.le_of_ble_eq_true rfl) dX8_runAs_102
        · refine lv_aload_n hx hb dX8_runAs_89 rfl (lv_at hl 2 rfl) ?_
          refine gf_X8_74 hC hW m_8 rfl dX8_runAs_90 ?_
          refine lv_iload_n hx hb dX8_runAs_93 rfl (lv_at hl 3 rfl) ?_
          refine w_iald hC hW m_54 (n := 8) rfl (by first | assumption | exact ip_in hM (by assumption) | exact vp_in_c (y := 8) (by decide) (by decide) (by assumption) (by assumption) | (exfalso; contradiction)) dX8_runAs_94 ?_
          refine lv_eqi (y := σ 54 0 k.toNatClampNeg) (by rw [us_k (by decide), us_k (by decide)]) ?_
          refine lv_goto (tgt := 99) hx hb dX8_runAs_95 (by decide) ?_
          refine pf_X8_212 hC hW m_8 hS dX8_runAs_99 (fun H locs hW hS => ?_)
          have hO : s_X8_runAs k u d f t σ = us (us (us σ 8 0 45 (σ 47 0 ((((4 : Int32) * d) + (σ 37 0 t.toNatClampNeg)).toNatClampNeg))) 8 0 44 (σ 34 0 t.toNatClampNeg)) 8 0 46 (σ 54 0 k.toNatClampNeg) := by rw [s_X8_runAs, if_neg c_1, if_neg c_2, if_neg c_5, if_pos c_6]
          exact w_vretV hC hW hS hO (Nat.le_of_ble_eq_true rfl) (Nat.le_of_ble_eq_true rfl) dX8_runAs_102
      · refine lv_iload hx hb dX8_runAs_74 (lv_at hl 6 rfl) ?_
        refine lv_goto (tgt := 99) hx hb dX8_runAs_76 (by decide) ?_
        refine pf_X8_212 hC hW m_8 hS dX8_runAs_99 (fun H locs hW hS => ?_)
        have hO : s_X8_runAs k u d f t σ = us (us (us σ 8 0 45 (σ 47 0 ((((4 : Int32) * d) + (σ 37 0 t.toNatClampNeg)).toNatClampNeg))) 8 0 44 (σ 34 0 t.toNatClampNeg)) 8 0 46 f := by rw [s_X8_runAs, if_neg c_1, if_neg c_2, if_pos c_5]
        exact w_vretV hC hW hS hO (Nat.le_of_ble_eq_true rfl) (Nat.le_of_ble_eq_true rfl) dX8_runAs_102
  · refine lv_iload_n hx hb dX8_runAs_25 rfl (lv_at hl 4 rfl) ?_
    refine lv_goto (tgt := 31) hx hb dX8_runAs_26 (by decide) ?_
    refine pf_X8_206 hC hW m_8 hS dX8_runAs_31 (fun H locs hW hS => ?_)
    refine lv_aload_n hx hb dX8_runAs_34 rfl (lv_at hl 1 rfl) ?_
    refine gf_X8_22 hC hW m_8 rfl dX8_runAs_35 ?_
    refine lv_iload hx hb dX8_runAs_38 (lv_at hl 6 rfl) ?_
    refine w_iald hC hW m_36 (n := 12) rfl (by first | assumption | exact it_in hM (by assumption) | exact vp_in_c (y := 12) (by decide) (by decide) (by assumption) (by assumption) | (exfalso; contradiction)) dX8_runAs_40 ?_
    refine lv_eqi (y := σ 36 0 t.toNatClampNeg) (by rw [us_k (by decide)]) ?_
    refine lv_bipush (v := 9) hx hb dX8_runAs_41 (by decide) ?_
    refine w_callS (As := [.int (σ 36 0 t.toNatClampNeg), .int 9]) (rest := []) (st2 := .int (f_X8_hasBit (σ 36 0 t.toNatClampNeg) 9) :: []) hC hW hS hl cs_X8_142 (c_X8_hasBit l hl9 D ca base ad (us σ 8 0 45 d) (σ 36 0 t.toNatClampNeg) 9 ) rfl rfl rfl ⟨Nat.le_of_ble_eq_true rfl, Nat.le_of_ble_eq_true rfl⟩ (Nat.le_of_ble_eq_true rfl) dX8_runAs_43 ⟨Nat.le_of_ble_eq_true rfl, Nat.le_of_ble_eq_true rfl⟩ (fun H locs hW hS => ?_)
    refine lv_istore (lv' := [(7, .int (f_X8_hasBit (σ 36 0 t.toNatClampNeg) 9)), (6, .int (σ 47 0 ((((4 : Int32) * d) + (σ 37 0 t.toNatClampNeg)).toNatClampNeg))), (0, .ref (ad 8 0)), (1, .int k), (2, .int u), (3, .int d), (4, .int f), (5, .int t)]) hx hb dX8_runAs_46 hl (by decide) rfl (fun ls hl => ?_)
    refine lv_aload_n hx hb dX8_runAs_48 rfl (lv_at hl 2 rfl) ?_
    refine lv_iload hx hb dX8_runAs_49 (lv_at hl 0 rfl) ?_
    refine lv_if_eq (tgt := 64) hx hb dX8_runAs_51 (by decide) (fun c_7 => ?_) (fun c_7 => ?_)
    · refine lv_iload_n hx hb dX8_runAs_64 rfl (lv_at hl 4 rfl) ?_
      refine pf_X8_209 hC hW m_8 hS dX8_runAs_65 (fun H locs hW hS => ?_)
      refine lv_aload_n hx hb dX8_runAs_68 rfl (lv_at hl 2 rfl) ?_
      refine lv_iload hx hb dX8_runAs_69 (lv_at hl 0 rfl) ?_
      refine lv_if_ne (tgt := 79) hx hb dX8_runAs_71 (by decide) (fun c_8 => ?_) (fun c_8 => ?_)
      · refine lv_aload_n hx hb dX8_runAs_79 rfl (lv_at hl 2 rfl) ?_
        refine gf_X8_16 hC hW m_8 rfl dX8_runAs_80 ?_
        refine lv_iload hx hb dX8_runAs_83 (lv_at hl 7 rfl) ?_
        refine w_iald hC hW m_34 (n := 12) rfl (by first | assumption | exact it_in hM (by assumption) | exact vp_in_c (y := 12) (by decide) (by decide) (by assumption) (by assumption) | (exfalso; contradiction)) dX8_runAs_85 ?_
        refine lv_eqi (y := σ 34 0 t.toNatClampNeg) (by rw [us_k (by decide), us_k (by decide)]) ?_
        refine lv_if_ne (tgt := 98) hx hb dX8_runAs_86 (by decide) (fun c_9 => ?_) (fun c_9 => ?_)
        · refine lv_iconst (v := 0) hx hb dX8_runAs_98 (by decide) ?_
          refine pf_X8_212 hC hW m_8 hS dX8_runAs_99 (fun H locs hW hS => ?_)
          have hO : s_X8_runAs k u d f t σ = us (us (us σ 8 0 45 d) 8 0 44 u) 8 0 46 0 := by rw [s_X8_runAs, if_pos c_1, if_pos c_7, if_neg c_8, if_neg c_9]
          exact w_vretV hC hW hS hO (Nat.le_of_ble_eq_true rfl) (Nat.le_of_ble_eq_true rfl) dX8_runAs_102
        · refine lv_aload_n hx hb dX8_runAs_89 rfl (lv_at hl 2 rfl) ?_
          refine gf_X8_74 hC hW m_8 rfl dX8_runAs_90 ?_
          refine lv_iload_n hx hb dX8_runAs_93 rfl (lv_at hl 3 rfl) ?_
          refine w_iald hC hW m_54 (n := 8) rfl (by first | assumption | exact ip_in hM (by assumption) | exact vp_in_c (y := 8) (by decide) (by decide) (by assumption) (by assumption) | (exfalso; contradiction)) dX8_runAs_94 ?_
          refine lv_eqi (y := σ 54 0 k.toNatClampNeg) (by rw [us_k (by decide), us_k (by decide)]) ?_
          refine lv_goto (tgt := 99) hx hb dX8_runAs_95 (by decide) ?_
          refine pf_X8_212 hC hW m_8 hS dX8_runAs_99 (fun H locs hW hS => ?_)
          have hO : s_X8_runAs k u d f t σ = us (us (us σ 8 0 45 d) 8 0 44 u) 8 0 46 (σ 54 0 k.toNatClampNeg) := by rw [s_X8_runAs, if_pos c_1, if_pos c_7, if_neg c_8, if_pos c_9]
          exact w_vretV hC hW hS hO (Nat.le_of_ble_eq_true rfl) (Nat.le_of_ble_eq_true rfl) dX8_runAs_102
      · refine lv_iload hx hb dX8_runAs_74 (lv_at hl 6 rfl) ?_
        refine lv_goto (tgt := 99) hx hb dX8_runAs_76 (by decide) ?_
        refine pf_X8_212 hC hW m_8 hS dX8_runAs_99 (fun H locs hW hS => ?_)
        have hO : s_X8_runAs k u d f t σ = us (us (us σ 8 0 45 d) 8 0 44 u) 8 0 46 f := by rw [s_X8_runAs, if_pos c_1, if_pos c_7, if_pos c_8]
        exact w_vretV hC hW hS hO (Nat.le_of_ble_eq_true rfl) (Nat.le_of_ble_eq_true rfl) dX8_runAs_102
    · refine lv_aload_n hx hb dX8_runAs_54 rfl (lv_at hl 2 rfl) ?_
      refine gf_X8_16 hC hW m_8 rfl dX8_runAs_55 ?_
      refine lv_iload hx hb dX8_runAs_58 (lv_at hl 7 rfl) ?_
      refine w_iald hC hW m_34 (n := 12) rfl (by first | assumption | exact it_in hM (by assumption) | exact vp_in_c (y := 12) (by decide) (by decide) (by assumption) (by assumption) | (exfalso; contradiction)) dX8_runAs_60 ?_
      refine lv_eqi (y := σ 34 0 t.toNatClampNeg) (by rw [us_k (by decide)]) ?_
      refine lv_goto (tgt := 65) hx hb dX8_runAs_61 (by decide) ?_
      refine pf_X8_209 hC hW m_8 hS dX8_runAs_65 (fun H locs hW hS => ?_)
      refine lv_aload_n hx hb dX8_runAs_68 rfl (lv_at hl 2 rfl) ?_
      refine lv_iload hx hb dX8_runAs_69 (lv_at hl 0 rfl) ?_
      refine lv_if_ne (tgt := 79) hx hb dX8_runAs_71 (by decide) (fun c_10 => ?_) (fun c_10 => ?_)
      · refine lv_aload_n hx hb dX8_runAs_79 rfl (lv_at hl 2 rfl) ?_
        refine gf_X8_16 hC hW m_8 rfl dX8_runAs_80 ?_
        refine lv_iload hx hb dX8_runAs_83 (lv_at hl 7 rfl) ?_
        refine w_iald hC hW m_34 (n := 12) rfl (by first | assumption | exact it_in hM (by assumption) | exact vp_in_c (y := 12) (by decide) (by decide) (by assumption) (by assumption) | (exfalso; contradiction)) dX8_runAs_85 ?_
        refine lv_eqi (y := σ 34 0 t.toNatClampNeg) (by rw [us_k (by decide), us_k (by decide)]) ?_
        refine lv_if_ne (tgt := 98) hx hb dX8_runAs_86 (by decide) (fun c_11 => ?_) (fun c_11 => ?_)
        · refine lv_iconst (v := 0) hx hb dX8_runAs_98 (by decide) ?_
          refine pf_X8_212 hC hW m_8 hS dX8_runAs_99 (fun H locs hW hS => ?_)
          have hO : s_X8_runAs k u d f t σ = us (us (us σ 8 0 45 d) 8 0 44 (σ 34 0 t.toNatClampNeg)) 8 0 46 0 := by rw [s_X8_runAs, if_pos c_1, if_neg c_7, if_neg c_10, if_neg c_11]
          exact w_vretV hC hW hS hO (Nat.le_of_ble_eq_true rfl) (Nat.le_of_ble_eq_true rfl) dX8_runAs_102
        · refine lv_aload_n hx hb dX8_runAs_89 rfl (lv_at hl 2 rfl) ?_
          refine gf_X8_74 hC hW m_8 rfl dX8_runAs_90 ?_
          refine lv_iload_n hx hb dX8_runAs_93 rfl (lv_at hl 3 rfl) ?_
          refine w_iald hC hW m_54 (n := 8) rfl (by first | assumption | exact ip_in hM (by assumption) | exact vp_in_c (y := 8) (by decide) (by decide) (by assumption) (by assumption) | (exfalso; contradiction)) dX8_runAs_94 ?_
          refine lv_eqi (y := σ 54 0 k.toNatClampNeg) (by rw [us_k (by decide), us_k (by decide)]) ?_
          refine lv_goto (tgt := 99) hx hb dX8_runAs_95 (by decide) ?_
          refine pf_X8_212 hC hW m_8 hS dX8_runAs_99 (fun H locs hW hS => ?_)
          have hO : s_X8_runAs k u d f t σ = us (us (us σ 8 0 45 d) 8 0 44 (σ 34 0 t.toNatClampNeg)) 8 0 46 (σ 54 0 k.toNatClampNeg) := by rw [s_X8_runAs, if_pos c_1, if_neg c_7, if_neg c_10, if_pos c_11]
          exact w_vretV hC hW hS hO (Nat.le_of_ble_eq_true rfl) (Nat.le_of_ble_eq_true rfl) dX8_runAs_102
      · refine lv_iload hx hb dX8_runAs_74 (lv_at hl 6 rfl) ?_
        refine lv_goto (tgt := 99) hx hb dX8_runAs_76 (by decide) ?_
        refine pf_X8_212 hC hW m_8 hS dX8_runAs_99 (fun H locs hW hS => ?_)
        have hO : s_X8_runAs k u d f t σ = us (us (us σ 8 0 45 d) 8 0 44 (σ 34 0 t.toNatClampNeg)) 8 0 46 f := by rw [s_X8_runAs, if_pos c_1, if_neg c_7, if_pos c_10]
        exact w_vretV hC hW hS hO (Nat.le_of_ble_eq_true rfl) (Nat.le_of_ble_eq_true rfl) dX8_runAs_102
theorem fr_X8_runAs {kk : Nat}  {k : Int32} {u : Int32} {d : Int32} {f : Int32} {t : Int32} {σ : Sg} (h8 : kk ≠ 8) : (s_X8_runAs k u d f t σ) kk = σ kk := by
  rw [s_X8_runAs]
  repeat' split
  all_goals (first | (simp only [us_kk, ne_eq, not_false_eq_true, h8]; done) | with_reducible rfl | (simp only [us_kk, ne_eq, not_false_eq_true, h8]; with_reducible rfl))
theorem fs_X8_runAs {jj : Nat}  {k : Int32} {u : Int32} {d : Int32} {f : Int32} {t : Int32} {σ : Sg} (h44 : jj ≠ 44) (h45 : jj ≠ 45) (h46 : jj ≠ 46) : (s_X8_runAs k u d f t σ) 8 0 jj = σ 8 0 jj := by
  rw [s_X8_runAs]
  repeat' split
  all_goals (first | with_reducible rfl | (simp [us_k, us_j, ne_eq, not_false_eq_true, h44, h45, h46]; done))
theorem l3_in {a b d : Int32} (ha : vp_in a 6) (hb : vp_in b 4) (hd : vp_in d 8) : vp_in ((32 : Int32) * a + (8 : Int32) * b + d) 192 := by
  obtain ⟨i, h1, rfl⟩ := vp_in_of ha (by decide)
  obtain ⟨j, h2, rfl⟩ := vp_in_of hb (by decide)
  obtain ⟨k, h3, rfl⟩ := vp_in_of hd (by decide)
  rw [show (32 : Int32) = nI 32 from rfl, show (8 : Int32) = nI 8 from rfl, pk_mul, pk_mul, nI_add, nI_add]
  exact vp_in_nI (by omega) (by decide)
theorem us_in {σ : Sg} {k : Int32} (hM : MInv σ) (hk : vp_in k 8) : vp_in (σ 49 0 k.toNatClampNeg) 6 := by
  obtain ⟨⟨n, h1, h2⟩, -⟩ := hM.2.2.2.2.2.2.2.2.1 _ (vp_lt hk)
  rw [h2]
  exact vp_in_nI h1 (by decide)
theorem fi_in {σ : Sg} {k : Int32} (hM : MInv σ) (hk : vp_in k 8) : vp_in (σ 53 0 k.toNatClampNeg) 8 := by
  obtain ⟨-, -, ⟨n, h1, h2⟩, -⟩ := hM.2.2.2.2.2.2.2.2.1 _ (vp_lt hk)
  rw [h2]
  exact vp_in_nI h1 (by decide)
theorem bo_in {σ : Sg} {k : Int32} (hM : MInv σ) (hk : vp_in k 8) : vp_in (σ 54 0 k.toNatClampNeg) 8 := by
  obtain ⟨-, -, -, ⟨n, h1, h2⟩⟩ := hM.2.2.2.2.2.2.2.2.1 _ (vp_lt hk)
  rw [h2]
  exact vp_in_nI h1 (by decide)
theorem ow_in {σ : Sg} {t : Int32} (hM : MInv σ) (ht : vp_in t 12) : vp_in (σ 34 0 t.toNatClampNeg) 6 := by
  obtain ⟨n, h1, h2⟩ := hM.2.2.2.2.2.2.1 _ (vp_lt ht)
  rw [h2]
  exact vp_in_nI h1 (by decide)
theorem mv_in {σ : Sg} {x : Int32} (hM : MInv σ) (hx : vp_in x 16) (h : ¬ σ 47 0 x.toNatClampNeg = -1) : vp_in (σ 47 0 x.toNatClampNeg) 4 := by
  rcases hM.2.2.2.2.2.2.2.1 _ (vp_lt hx) with q | ⟨n, h1, h2⟩
  · exact absurd q h
  · rw [h2]
    exact vp_in_nI h1 (by decide)
theorem x32_in {x : Int32} (h : vp_in x 192) : vp_in (x / 32) 6 := by
  obtain ⟨i, h1, rfl⟩ := vp_in_of h (by decide)
  rw [show (32 : Int32) = nI 32 from rfl, pk_div (by omega) (by decide) (by decide)]
  exact vp_in_nI (by omega) (by decide)
theorem x84_in {x : Int32} (h : vp_in x 192) : vp_in (x / 8 - x / 8 / 4 * 4) 4 := by
  obtain ⟨i, h1, rfl⟩ := vp_in_of h (by decide)
  rw [show (8 : Int32) = nI 8 from rfl, show (4 : Int32) = nI 4 from rfl, pk_div (by omega) (by decide) (by decide), pk_rem (by omega) (by decide) (by decide)]
  exact vp_in_nI (by omega) (by decide)
theorem x8_in {x : Int32} (h : vp_in x 192) : vp_in (x - x / 8 * 8) 8 := by
  obtain ⟨i, h1, rfl⟩ := vp_in_of h (by decide)
  rw [show (8 : Int32) = nI 8 from rfl, pk_rem (by omega) (by decide) (by decide)]
  exact vp_in_nI (by omega) (by decide)
theorem ra_in {σ : Sg} {k u d f t : Int32} (hM : MInv σ) (ht : vp_in t 12) (hk : vp_in k 8) (hu : vp_in u 6) (hd : vp_in d 4) (hf : vp_in f 8) : vp_in ((32 : Int32) * (s_X8_runAs k u d f t σ 8 0 44) + (8 : Int32) * (s_X8_runAs k u d f t σ 8 0 45) + (s_X8_runAs k u d f t σ 8 0 46)) 192 := by
  have hr := r4_in hd (ty_in hM ht)
  unfold s_X8_runAs
  refine l3_in ?_ ?_ ?_
  · repeat' split
    all_goals simp [us_j, us_h]
    all_goals first | exact hu | exact ow_in hM ht
  · repeat' split
    all_goals simp [us_j, us_h]
    all_goals first | exact hd | exact mv_in hM hr (by assumption)
  · repeat' split
    all_goals simp [us_j, us_h]
    all_goals first | exact hf | exact bo_in hM hk | exact vp_lit (by decide)
theorem tcm_cnt {σ : Sg} (hM : MInv σ) {k : Nat} (hk : k ≤ 12) (c : ¬ σ 8 0 3 ≤ nI k) : k < 12 := by
  obtain ⟨n, h1, h2⟩ := hM.1
  exact idx_lt4 c h2 h1 (by decide) hk
def f_X8_act (k : Int32) (t : Int32) (r : Int32) (σ : Sg) : Int32 × Sg :=
  if (f_X8_rf (f_X8_whyNoVerdict k t r σ)) = 0 then (if (f_X8_verdictNow k t r (us σ 8 0 0 (f_X8_whyNoVerdict k t r σ))) = 0 then (if r = 4 then (f_X8_verdictNow k t r (us σ 8 0 0 (f_X8_whyNoVerdict k t r σ)), us (us (us (s_X8_runAs k (σ 49 0 k.toNatClampNeg) (σ 50 0 k.toNatClampNeg) (σ 53 0 k.toNatClampNeg) t (s_X8_log k t r (f_X8_verdictNow k t r (us σ 8 0 0 (f_X8_whyNoVerdict k t r σ))) (us σ 8 0 0 (f_X8_whyNoVerdict k t r σ)))) 49 0 k.toNatClampNeg ((s_X8_runAs k (σ 49 0 k.toNatClampNeg) (σ 50 0 k.toNatClampNeg) (σ 53 0 k.toNatClampNeg) t (s_X8_log k t r (f_X8_verdictNow k t r (us σ 8 0 0 (f_X8_whyNoVerdict k t r σ))) (us σ 8 0 0 (f_X8_whyNoVerdict k t r σ)))) 8 0 44)) 50 0 k.toNatClampNeg ((s_X8_runAs k (σ 49 0 k.toNatClampNeg) (σ 50 0 k.toNatClampNeg) (σ 53 0 k.toNatClampNeg) t (s_X8_log k t r (f_X8_verdictNow k t r (us σ 8 0 0 (f_X8_whyNoVerdict k t r σ))) (us σ 8 0 0 (f_X8_whyNoVerdict k t r σ)))) 8 0 45)) 53 0 k.toNatClampNeg ((s_X8_runAs k (σ 49 0 k.toNatClampNeg) (σ 50 0 k.toNatClampNeg) (σ 53 0 k.toNatClampNeg) t (s_X8_log k t r (f_X8_verdictNow k t r (us σ 8 0 0 (f_X8_whyNoVerdict k t r σ))) (us σ 8 0 0 (f_X8_whyNoVerdict k t r σ)))) 8 0 46))
      else (f_X8_verdictNow k t r (us σ 8 0 0 (f_X8_whyNoVerdict k t r σ)), s_X8_log k t r (f_X8_verdictNow k t r (us σ 8 0 0 (f_X8_whyNoVerdict k t r σ))) (us σ 8 0 0 (f_X8_whyNoVerdict k t r σ))))
    else (f_X8_verdictNow k t r (us σ 8 0 0 (f_X8_whyNoVerdict k t r σ)), s_X8_log k t r (f_X8_verdictNow k t r (us σ 8 0 0 (f_X8_whyNoVerdict k t r σ))) (us σ 8 0 0 (f_X8_whyNoVerdict k t r σ))))
  else (0, us σ 8 0 0 (f_X8_whyNoVerdict k t r σ))
set_option maxHeartbeats 4000000 in
set_option maxRecDepth 100000 in
theorem c_X8_act (l : Launch) (hl9 : l.stackTraces = false) (D : va_G) (ca : Nat → ClassId) (base : Nat) (ad : Adr) (σ : Sg) (k : Int32) (t : Int32) (r : Int32) (hM : MInv σ) : Mt l yX8_act cX8_act 5 (some .int) { frames := 7, cells := 0, slots := 0, locals := 172 } D ca base ad ρm Lm [.ref (ad 8 0), .int k, .int t, .int r] σ (some (.int (f_X8_act k t r σ).1)) (f_X8_act k t r σ).2 := by
  refine w_ofW (by decide) (Nat.le_of_ble_eq_true rfl) rfl ?_
  intro p e s m args below meth c hC hW hS ls hl hin
  have hx := hC.1
  have hb := hC.2.1
  refine lv_aload_n hx hb dX8_act_0 rfl (lv_at hl 0 rfl) ?_
  refine lv_aload_n hx hb dX8_act_1 rfl (lv_at hl 0 rfl) ?_
  refine lv_iload_n hx hb dX8_act_2 rfl (lv_at hl 1 rfl) ?_
  refine lv_iload_n hx hb dX8_act_3 rfl (lv_at hl 2 rfl) ?_
  refine lv_iload_n hx hb dX8_act_4 rfl (lv_at hl 3 rfl) ?_
  refine w_callV (As := [.int k, .int t, .int r]) (rest := .ref (ad 8 0) :: []) (st2 := .int (f_X8_whyNoVerdict k t r σ) :: .ref (ad 8 0) :: []) hC hW hS hl cv_X8_197 m_8 (by decide) rfl (c_X8_whyNoVerdict l hl9 D ca base ad σ k t r ) rfl rfl rfl ⟨Nat.le_of_ble_eq_true rfl, Nat.le_of_ble_eq_true rfl⟩ (Nat.le_of_ble_eq_true rfl) dX8_act_5 ⟨Nat.le_of_ble_eq_true rfl, Nat.le_of_ble_eq_true rfl⟩ (fun H locs hW hS => ?_)
  refine w_callV (As := [.int (f_X8_whyNoVerdict k t r σ)]) (rest := []) (st2 := .int (f_X8_rf (f_X8_whyNoVerdict k t r σ)) :: []) hC hW hS hl cv_X8_154 m_8 (by decide) rfl (c_X8_refused l hl9 D ca base ad σ (f_X8_whyNoVerdict k t r σ) ) rfl rfl rfl ⟨Nat.le_of_ble_eq_true rfl, Nat.le_of_ble_eq_true rfl⟩ (Nat.le_of_ble_eq_true rfl) dX8_act_8 ⟨Nat.le_of_ble_eq_true rfl, Nat.le_of_ble_eq_true rfl⟩ (fun H locs hW hS => ?_)
  refine lv_if_eq (tgt := 16) hx hb dX8_act_11 (by decide) (fun c_1 => ?_) (fun c_1 => ?_)
  · have hw := wv_ok (rf0 c_1)
    have ht := it_in hM hw.2.1
    have hk := ip_in hM hw.1
    refine lv_aload_n hx hb dX8_act_16 rfl (lv_at hl 0 rfl) ?_
    refine lv_iload_n hx hb dX8_act_17 rfl (lv_at hl 1 rfl) ?_
    refine lv_iload_n hx hb dX8_act_18 rfl (lv_at hl 2 rfl) ?_
    refine lv_iload_n hx hb dX8_act_19 rfl (lv_at hl 3 rfl) ?_
    refine w_callV (As := [.int k, .int t, .int r]) (rest := []) (st2 := .int (f_X8_verdictNow k t r (us σ 8 0 0 (f_X8_whyNoVerdict k t r σ))) :: []) hC hW hS hl cv_X8_200 m_8 (by decide) rfl (c_X8_verdictNow l hl9 D ca base ad (us σ 8 0 0 (f_X8_whyNoVerdict k t r σ)) k t r (mi_of hM (by rw [us_j (by decide)]) (by rw [us_j (by decide)]) (by rw [us_j (by decide)]) (by rw [us_j (by decide)]) (by rw [us_kk (by decide)]) (by rw [us_kk (by decide)]) (by rw [us_kk (by decide)]) (by rw [us_kk (by decide)]) (by rw [us_kk (by decide)]) (by rw [us_kk (by decide)]) (by rw [us_kk (by decide)]) (by rw [us_kk (by decide)]) (by rw [us_kk (by decide)]) (by rw [us_kk (by decide)]) (by rw [us_kk (by decide)]) (by rw [us_kk (by decide)])) (by first | assumption | exact it_in hM (by assumption)) (by first | assumption | exact ip_in hM (by assumption))) rfl rfl rfl ⟨Nat.le_of_ble_eq_true rfl, Nat.le_of_ble_eq_true rfl⟩ (Nat.le_of_ble_eq_true rfl) dX8_act_20 ⟨Nat.le_of_ble_eq_true rfl, Nat.le_of_ble_eq_true rfl⟩ (fun H locs hW hS => ?_)
    refine lv_istore (lv' := [(4, .int (f_X8_verdictNow k t r (us σ 8 0 0 (f_X8_whyNoVerdict k t r σ)))), (0, .ref (ad 8 0)), (1, .int k), (2, .int t), (3, .int r)]) hx hb dX8_act_23 hl (by decide) rfl (fun ls hl => ?_)
    refine lv_aload_n hx hb dX8_act_25 rfl (lv_at hl 1 rfl) ?_
    refine lv_iload_n hx hb dX8_act_26 rfl (lv_at hl 2 rfl) ?_
    refine lv_iload_n hx hb dX8_act_27 rfl (lv_at hl 3 rfl) ?_
    refine lv_iload_n hx hb dX8_act_28 rfl (lv_at hl 4 rfl) ?_
    refine lv_iload hx hb dX8_act_29 (lv_at hl 0 rfl) ?_
    refine w_callV (As := [.int k, .int t, .int r, .int (f_X8_verdictNow k t r (us σ 8 0 0 (f_X8_whyNoVerdict k t r σ)))]) (rest := []) (st2 := []) hC hW hS hl cv_X8_215 m_8 (by decide) rfl (c_X8_log l hl9 D ca base ad (us σ 8 0 0 (f_X8_whyNoVerdict k t r σ)) k t r (f_X8_verdictNow k t r (us σ 8 0 0 (f_X8_whyNoVerdict k t r σ))) (mi_of hM (by rw [us_j (by decide)]) (by rw [us_j (by decide)]) (by rw [us_j (by decide)]) (by rw [us_j (by decide)]) (by rw [us_kk (by decide)]) (by rw [us_kk (by decide)]) (by rw [us_kk (by decide)]) (by rw [us_kk (by decide)]) (by rw [us_kk (by decide)]) (by rw [us_kk (by decide)]) (by rw [us_kk (by decide)]) (by rw [us_kk (by decide)]) (by rw [us_kk (by decide)]) (by rw [us_kk (by decide)]) (by rw [us_kk (by decide)]) (by rw [us_kk (by decide)]))) rfl rfl rfl ⟨Nat.le_of_ble_eq_true rfl, Nat.le_of_ble_eq_true rfl⟩ (Nat.le_of_ble_eq_true rfl) dX8_act_31 ⟨Nat.le_of_ble_eq_true rfl, Nat.le_of_ble_eq_true rfl⟩ (fun H locs hW hS => ?_)
    refine lv_iload hx hb dX8_act_34 (lv_at hl 0 rfl) ?_
    refine lv_if_ne (tgt := 98) hx hb dX8_act_36 (by decide) (fun c_2 => ?_) (fun c_2 => ?_)
    · refine lv_iload hx hb dX8_act_98 (lv_at hl 0 rfl) ?_
      have hO : f_X8_act k t r σ = (f_X8_verdictNow k t r (us σ 8 0 0 (f_X8_whyNoVerdict k t r σ)), s_X8_log k t r (f_X8_verdictNow k t r (us σ 8 0 0 (f_X8_whyNoVerdict k t r σ))) (us σ 8 0 0 (f_X8_whyNoVerdict k t r σ))) := by rw [f_X8_act, if_pos c_1, if_neg c_2]
      exact w_iretS hC hW hS hO (Nat.le_of_ble_eq_true rfl) (Nat.le_of_ble_eq_true rfl) dX8_act_100
    · refine lv_iload_n hx hb dX8_act_39 rfl (lv_at hl 4 rfl) ?_
      refine lv_iconst (v := 4) hx hb dX8_act_40 (by decide) ?_
      refine lv_icmp_ne (tgt := 98) hx hb dX8_act_41 (by decide) (fun c_3 => ?_) (fun c_3 => ?_)
      · refine lv_iload hx hb dX8_act_98 (lv_at hl 0 rfl) ?_
        have hO : f_X8_act k t r σ = (f_X8_verdictNow k t r (us σ 8 0 0 (f_X8_whyNoVerdict k t r σ)), s_X8_log k t r (f_X8_verdictNow k t r (us σ 8 0 0 (f_X8_whyNoVerdict k t r σ))) (us σ 8 0 0 (f_X8_whyNoVerdict k t r σ))) := by rw [f_X8_act, if_pos c_1, if_pos c_2, if_neg c_3]
        exact w_iretS hC hW hS hO (Nat.le_of_ble_eq_true rfl) (Nat.le_of_ble_eq_true rfl) dX8_act_100
      · refine lv_aload_n hx hb dX8_act_44 rfl (lv_at hl 1 rfl) ?_
        refine lv_iload_n hx hb dX8_act_45 rfl (lv_at hl 2 rfl) ?_
        refine lv_aload_n hx hb dX8_act_46 rfl (lv_at hl 1 rfl) ?_
        refine gf_X8_59 hC hW m_8 rfl dX8_act_47 ?_
        refine lv_iload_n hx hb dX8_act_50 rfl (lv_at hl 2 rfl) ?_
        refine w_iald hC hW m_49 (n := 8) rfl (by first | assumption | exact ip_in hM (by assumption) | exact vp_in_c (y := 8) (by decide) (by decide) (by assumption) (by assumption) | (exfalso; contradiction)) dX8_act_51 ?_
        refine lv_eqi (y := σ 49 0 k.toNatClampNeg) (by rw [fr_X8_log (by decide) (by decide), us_k (by decide)]) ?_
        refine lv_aload_n hx hb dX8_act_52 rfl (lv_at hl 1 rfl) ?_
        refine gf_X8_62 hC hW m_8 rfl dX8_act_53 ?_
        refine lv_iload_n hx hb dX8_act_56 rfl (lv_at hl 2 rfl) ?_
        refine w_iald hC hW m_50 (n := 8) rfl (by first | assumption | exact ip_in hM (by assumption) | exact vp_in_c (y := 8) (by decide) (by decide) (by assumption) (by assumption) | (exfalso; contradiction)) dX8_act_57 ?_
        refine lv_eqi (y := σ 50 0 k.toNatClampNeg) (by rw [fr_X8_log (by decide) (by decide), us_k (by decide)]) ?_
        refine lv_aload_n hx hb dX8_act_58 rfl (lv_at hl 1 rfl) ?_
        refine gf_X8_71 hC hW m_8 rfl dX8_act_59 ?_
        refine lv_iload_n hx hb dX8_act_62 rfl (lv_at hl 2 rfl) ?_
        refine w_iald hC hW m_53 (n := 8) rfl (by first | assumption | exact ip_in hM (by assumption) | exact vp_in_c (y := 8) (by decide) (by decide) (by assumption) (by assumption) | (exfalso; contradiction)) dX8_act_63 ?_
        refine lv_eqi (y := σ 53 0 k.toNatClampNeg) (by rw [fr_X8_log (by decide) (by decide), us_k (by decide)]) ?_
        refine lv_iload_n hx hb dX8_act_64 rfl (lv_at hl 3 rfl) ?_
        refine w_callV (As := [.int k, .int (σ 49 0 k.toNatClampNeg), .int (σ 50 0 k.toNatClampNeg), .int (σ 53 0 k.toNatClampNeg), .int t]) (rest := []) (st2 := []) hC hW hS hl cv_X8_219 m_8 (by decide) rfl (c_X8_runAs l hl9 D ca base ad (s_X8_log k t r (f_X8_verdictNow k t r (us σ 8 0 0 (f_X8_whyNoVerdict k t r σ))) (us σ 8 0 0 (f_X8_whyNoVerdict k t r σ))) k (σ 49 0 k.toNatClampNeg) (σ 50 0 k.toNatClampNeg) (σ 53 0 k.toNatClampNeg) t (mi_log (mi_of hM (by rw [us_j (by decide)]) (by rw [us_j (by decide)]) (by rw [us_j (by decide)]) (by rw [us_j (by decide)]) (by rw [us_kk (by decide)]) (by rw [us_kk (by decide)]) (by rw [us_kk (by decide)]) (by rw [us_kk (by decide)]) (by rw [us_kk (by decide)]) (by rw [us_kk (by decide)]) (by rw [us_kk (by decide)]) (by rw [us_kk (by decide)]) (by rw [us_kk (by decide)]) (by rw [us_kk (by decide)]) (by rw [us_kk (by decide)]) (by rw [us_kk (by decide)]))) (by first | assumption | exact it_in hM (by assumption)) (by first | assumption | exact ip_in hM (by assumption)) (by first | assumption | exact dm_in hM (by assumption))) rfl rfl rfl ⟨Nat.le_of_ble_eq_true rfl, Nat.le_of_ble_eq_true rfl⟩ (Nat.le_of_ble_eq_true rfl) dX8_act_65 ⟨Nat.le_of_ble_eq_true rfl, Nat.le_of_ble_eq_true rfl⟩ (fun H locs hW hS => ?_)
        refine lv_aload_n hx hb dX8_act_68 rfl (lv_at hl 1 rfl) ?_
        refine gf_X8_59 hC hW m_8 rfl dX8_act_69 ?_
        refine lv_iload_n hx hb dX8_act_72 rfl (lv_at hl 2 rfl) ?_
        refine lv_aload_n hx hb dX8_act_73 rfl (lv_at hl 1 rfl) ?_
        refine gf_X8_209 hC hW m_8 dX8_act_74 ?_
        refine w_iast hC hW hS m_49 (n := 8) (fun _ => rfl) (by first | assumption | exact ip_in hM (by assumption) | exact vp_in_c (y := 8) (by decide) (by decide) (by assumption) (by assumption) | (exfalso; contradiction)) dX8_act_77 (fun H locs hW hS => ?_)
        refine lv_aload_n hx hb dX8_act_78 rfl (lv_at hl 1 rfl) ?_
        refine gf_X8_62 hC hW m_8 rfl dX8_act_79 ?_
        refine lv_iload_n hx hb dX8_act_82 rfl (lv_at hl 2 rfl) ?_
        refine lv_aload_n hx hb dX8_act_83 rfl (lv_at hl 1 rfl) ?_
        refine gf_X8_206 hC hW m_8 dX8_act_84 ?_
        refine lv_eqi (y := (s_X8_runAs k (σ 49 0 k.toNatClampNeg) (σ 50 0 k.toNatClampNeg) (σ 53 0 k.toNatClampNeg) t (s_X8_log k t r (f_X8_verdictNow k t r (us σ 8 0 0 (f_X8_whyNoVerdict k t r σ))) (us σ 8 0 0 (f_X8_whyNoVerdict k t r σ)))) 8 0 45) (by rw [us_k (by decide)]) ?_
        refine w_iast hC hW hS m_50 (n := 8) (fun _ => rfl) (by first | assumption | exact ip_in hM (by assumption) | exact vp_in_c (y := 8) (by decide) (by decide) (by assumption) (by assumption) | (exfalso; contradiction)) dX8_act_87 (fun H locs hW hS => ?_)
        refine lv_aload_n hx hb dX8_act_88 rfl (lv_at hl 1 rfl) ?_
        refine gf_X8_71 hC hW m_8 rfl dX8_act_89 ?_
        refine lv_iload_n hx hb dX8_act_92 rfl (lv_at hl 2 rfl) ?_
        refine lv_aload_n hx hb dX8_act_93 rfl (lv_at hl 1 rfl) ?_
        refine gf_X8_212 hC hW m_8 dX8_act_94 ?_
        refine lv_eqi (y := (s_X8_runAs k (σ 49 0 k.toNatClampNeg) (σ 50 0 k.toNatClampNeg) (σ 53 0 k.toNatClampNeg) t (s_X8_log k t r (f_X8_verdictNow k t r (us σ 8 0 0 (f_X8_whyNoVerdict k t r σ))) (us σ 8 0 0 (f_X8_whyNoVerdict k t r σ)))) 8 0 46) (by rw [us_k (by decide), us_k (by decide)]) ?_
        refine w_iast hC hW hS m_53 (n := 8) (fun _ => rfl) (by first | assumption | exact ip_in hM (by assumption) | exact vp_in_c (y := 8) (by decide) (by decide) (by assumption) (by assumption) | (exfalso; contradiction)) dX8_act_97 (fun H locs hW hS => ?_)
        refine lv_iload hx hb dX8_act_98 (lv_at hl 0 rfl) ?_
        have hO : f_X8_act k t r σ = (f_X8_verdictNow k t r (us σ 8 0 0 (f_X8_whyNoVerdict k t r σ)), us (us (us (s_X8_runAs k (σ 49 0 k.toNatClampNeg) (σ 50 0 k.toNatClampNeg) (σ 53 0 k.toNatClampNeg) t (s_X8_log k t r (f_X8_verdictNow k t r (us σ 8 0 0 (f_X8_whyNoVerdict k t r σ))) (us σ 8 0 0 (f_X8_whyNoVerdict k t r σ)))) 49 0 k.toNatClampNeg ((s_X8_runAs k (σ 49 0 k.toNatClampNeg) (σ 50 0 k.toNatClampNeg) (σ 53 0 k.toNatClampNeg) t (s_X8_log k t r (f_X8_verdictNow k t r (us σ 8 0 0 (f_X8_whyNoVerdict k t r σ))) (us σ 8 0 0 (f_X8_whyNoVerdict k t r σ)))) 8 0 44)) 50 0 k.toNatClampNeg ((s_X8_runAs k (σ 49 0 k.toNatClampNeg) (σ 50 0 k.toNatClampNeg) (σ 53 0 k.toNatClampNeg) t (s_X8_log k t r (f_X8_verdictNow k t r (us σ 8 0 0 (f_X8_whyNoVerdict k t r σ))) (us σ 8 0 0 (f_X8_whyNoVerdict k t r σ)))) 8 0 45)) 53 0 k.toNatClampNeg ((s_X8_runAs k (σ 49 0 k.toNatClampNeg) (σ 50 0 k.toNatClampNeg) (σ 53 0 k.toNatClampNeg) t (s_X8_log k t r (f_X8_verdictNow k t r (us σ 8 0 0 (f_X8_whyNoVerdict k t r σ))) (us σ 8 0 0 (f_X8_whyNoVerdict k t r σ)))) 8 0 46)) := by rw [f_X8_act, if_pos c_1, if_pos c_2, if_pos c_3]
        exact w_iretS hC hW hS hO (Nat.le_of_ble_eq_true rfl) (Nat.le_of_ble_eq_true rfl) dX8_act_100
  · refine lv_iconst (v := 0) hx hb dX8_act_14 (by decide) ?_
    have hO : f_X8_act k t r σ = (0, us σ 8 0 0 (f_X8_whyNoVerdict k t r σ)) := by rw [f_X8_act, if_neg c_1]
    exact w_iretS hC hW hS hO (Nat.le_of_ble_eq_true rfl) (Nat.le_of_ble_eq_true rfl) dX8_act_15
theorem fr_X8_act {kk : Nat}  {k : Int32} {t : Int32} {r : Int32} {σ : Sg} (h8 : kk ≠ 8) (h49 : kk ≠ 49) (h50 : kk ≠ 50) (h53 : kk ≠ 53) (h73 : kk ≠ 73) : (f_X8_act k t r σ).2 kk = σ kk := by
  rw [f_X8_act]
  repeat' split
  all_goals (first | (simp only [us_kk, ne_eq, not_false_eq_true, h8, h49, h50, h53, h73, fr_X8_log, fr_X8_runAs]; done) | with_reducible rfl | (simp only [us_kk, ne_eq, not_false_eq_true, h8, h49, h50, h53, h73, fr_X8_log, fr_X8_runAs]; with_reducible rfl))
theorem fs_X8_act {jj : Nat}  {k : Int32} {t : Int32} {r : Int32} {σ : Sg} (h0 : jj ≠ 0) (h40 : jj ≠ 40) (h41 : jj ≠ 41) (h42 : jj ≠ 42) (h44 : jj ≠ 44) (h45 : jj ≠ 45) (h46 : jj ≠ 46) : (f_X8_act k t r σ).2 8 0 jj = σ 8 0 jj := by
  rw [f_X8_act]
  repeat' split
  all_goals (first | with_reducible rfl | (simp [us_k, us_j, ne_eq, not_false_eq_true, h0, h40, h41, h42, h44, h45, h46, fs_X8_log, fs_X8_runAs]; done))

def s_X8_runAll_L3 (k : Int32) (x : Int32) (n9 : Int32) : Nat → Nat → Sg → Sg
  | 0, _, σ3 => σ3
  | n3 + 1, k3, σ3 => if (σ3 8 0 3) ≤ (nI k3) then σ3
    else if (f_X8_verdictOf (x / (32 : Int32)) ((x / (8 : Int32)) - (x / (8 : Int32)) / (4 : Int32) * (4 : Int32)) k (x - x / (8 : Int32) * (8 : Int32)) (nI k3) 4 σ3) = 0 then (if (σ3 77 0 (((((32 : Int32) * ((s_X8_runAs k (x / (32 : Int32)) ((x / (8 : Int32)) - (x / (8 : Int32)) / (4 : Int32) * (4 : Int32)) (x - x / (8 : Int32) * (8 : Int32)) (nI k3) σ3) 8 0 44)) + ((8 : Int32) * ((s_X8_runAs k (x / (32 : Int32)) ((x / (8 : Int32)) - (x / (8 : Int32)) / (4 : Int32) * (4 : Int32)) (x - x / (8 : Int32) * (8 : Int32)) (nI k3) σ3) 8 0 45))) + ((s_X8_runAs k (x / (32 : Int32)) ((x / (8 : Int32)) - (x / (8 : Int32)) / (4 : Int32) * (4 : Int32)) (x - x / (8 : Int32) * (8 : Int32)) (nI k3) σ3) 8 0 46)).toNatClampNeg)) = (-1) then s_X8_runAll_L3 k x n9 n3 (k3 + 1) (us (s_X8_runAs k (x / (32 : Int32)) ((x / (8 : Int32)) - (x / (8 : Int32)) / (4 : Int32) * (4 : Int32)) (x - x / (8 : Int32) * (8 : Int32)) (nI k3) σ3) 77 0 (((((32 : Int32) * ((s_X8_runAs k (x / (32 : Int32)) ((x / (8 : Int32)) - (x / (8 : Int32)) / (4 : Int32) * (4 : Int32)) (x - x / (8 : Int32) * (8 : Int32)) (nI k3) σ3) 8 0 44)) + ((8 : Int32) * ((s_X8_runAs k (x / (32 : Int32)) ((x / (8 : Int32)) - (x / (8 : Int32)) / (4 : Int32) * (4 : Int32)) (x - x / (8 : Int32) * (8 : Int32)) (nI k3) σ3) 8 0 45))) + ((s_X8_runAs k (x / (32 : Int32)) ((x / (8 : Int32)) - (x / (8 : Int32)) / (4 : Int32) * (4 : Int32)) (x - x / (8 : Int32) * (8 : Int32)) (nI k3) σ3) 8 0 46)).toNatClampNeg) (n9 + (1 : Int32)))
      else s_X8_runAll_L3 k x n9 n3 (k3 + 1) (us (s_X8_runAs k (x / (32 : Int32)) ((x / (8 : Int32)) - (x / (8 : Int32)) / (4 : Int32) * (4 : Int32)) (x - x / (8 : Int32) * (8 : Int32)) (nI k3) σ3) 77 0 (((((32 : Int32) * ((s_X8_runAs k (x / (32 : Int32)) ((x / (8 : Int32)) - (x / (8 : Int32)) / (4 : Int32) * (4 : Int32)) (x - x / (8 : Int32) * (8 : Int32)) (nI k3) σ3) 8 0 44)) + ((8 : Int32) * ((s_X8_runAs k (x / (32 : Int32)) ((x / (8 : Int32)) - (x / (8 : Int32)) / (4 : Int32) * (4 : Int32)) (x - x / (8 : Int32) * (8 : Int32)) (nI k3) σ3) 8 0 45))) + ((s_X8_runAs k (x / (32 : Int32)) ((x / (8 : Int32)) - (x / (8 : Int32)) / (4 : Int32) * (4 : Int32)) (x - x / (8 : Int32) * (8 : Int32)) (nI k3) σ3) 8 0 46)).toNatClampNeg) (σ3 77 0 (((((32 : Int32) * ((s_X8_runAs k (x / (32 : Int32)) ((x / (8 : Int32)) - (x / (8 : Int32)) / (4 : Int32) * (4 : Int32)) (x - x / (8 : Int32) * (8 : Int32)) (nI k3) σ3) 8 0 44)) + ((8 : Int32) * ((s_X8_runAs k (x / (32 : Int32)) ((x / (8 : Int32)) - (x / (8 : Int32)) / (4 : Int32) * (4 : Int32)) (x - x / (8 : Int32) * (8 : Int32)) (nI k3) σ3) 8 0 45))) + ((s_X8_runAs k (x / (32 : Int32)) ((x / (8 : Int32)) - (x / (8 : Int32)) / (4 : Int32) * (4 : Int32)) (x - x / (8 : Int32) * (8 : Int32)) (nI k3) σ3) 8 0 46)).toNatClampNeg))))
    else s_X8_runAll_L3 k x n9 n3 (k3 + 1) σ3
def s_X8_runAll (k : Int32) (x : Int32) (n9 : Int32) (σ : Sg) : Sg :=
  (s_X8_runAll_L3 k x n9 13 0 σ)
set_option maxHeartbeats 4000000 in
set_option maxRecDepth 100000 in
theorem c_X8_runAll (l : Launch) (hl9 : l.stackTraces = false) (D : va_G) (ca : Nat → ClassId) (base : Nat) (ad : Adr) (σ : Sg) (k : Int32) (x : Int32) (n9 : Int32) (hM : MInv σ) (hk : vp_in k 8) (hx9 : vp_in x 192) : Mt l yX8_runAll cX8_runAll 6 none { frames := 6, cells := 0, slots := 0, locals := 149 } D ca base ad ρm Lm [.ref (ad 8 0), .int k, .int x, .int n9] σ none (s_X8_runAll k x n9 σ) := by
  refine w_ofW (by decide) (Nat.le_of_ble_eq_true rfl) rfl ?_
  intro p e s m args below meth c hC hW hS ls hl hin
  have hx := hC.1
  have hb := hC.2.1
  refine lv_iconst (v := 0) hx hb dX8_runAll_0 (by decide) ?_
  refine lv_istore (lv' := [(4, .int 0), (0, .ref (ad 8 0)), (1, .int k), (2, .int x), (3, .int n9)]) hx hb dX8_runAll_1 hl (by decide) rfl (fun ls hl => ?_)
  have h_3 : ∀ (n3 k3 : Nat) (σ3 : Sg) (H : Heap) (locs : List Loc) (ls : Array Slot), 13 ≤ k3 + n3 → k3 ≤ 12 → (MInv σ3) → Wd D ca (Ab base) ad ρm Lm σ3 H → va_S (Ab base) s.heap H locs → lv_has ls 6 [(4, .int (nI k3)), (0, .ref (ad 8 0)), (1, .int k), (2, .int x), (3, .int n9)] → s_X8_runAll k x n9 σ = ((s_X8_runAll_L3 k x n9 n3 k3 σ3)) → W p l e ({ frames := 6, cells := 0, slots := 0, locals := 149 } : Room) s m args below meth c H locs 0 0 (MQ below (Rt D ca base ad ρm Lm (s_X8_runAll k x n9 σ) none) args s 0 0 (Ab base)) (F0 m 3 ls []) := by
    intro n3
    induction n3 with
    | zero =>
      intro k3 σ3 H locs ls hk1_3 hk2_3 hM3 hW hS hl hO
      exact absurd hk1_3 (by omega)
    | succ n3 ih_3 =>
      intro k3 σ3 H locs ls hk1_3 hk2_3 hM3 hW hS hl hO
      refine lv_iload hx hb dX8_runAll_3 (lv_at hl 0 rfl) ?_
      refine lv_aload_n hx hb dX8_runAll_5 rfl (lv_at hl 1 rfl) ?_
      refine gf_X8_133 hC hW m_8 dX8_runAll_6 ?_
      refine lv_icmp_ge (tgt := 117) hx hb dX8_runAll_9 (by decide) (fun c_1 => ?_) (fun c_1 => ?_)
      · replace hl := lv_sub hl [1, 2, 3, 4] (l' := [(0, .ref (ad 8 0)), (1, .int k), (2, .int x), (3, .int n9)]) rfl
        have hO : s_X8_runAll k x n9 σ = σ3 := by rw [hO, s_X8_runAll_L3, if_pos c_1]
        exact w_vretV hC hW hS hO (Nat.le_of_ble_eq_true rfl) (Nat.le_of_ble_eq_true rfl) dX8_runAll_117
      · have hi_c_1 : k3 < 12 := tcm_cnt hM3 (by omega) c_1
        refine lv_aload_n hx hb dX8_runAll_12 rfl (lv_at hl 1 rfl) ?_
        refine lv_iload_n hx hb dX8_runAll_13 rfl (lv_at hl 3 rfl) ?_
        refine lv_bipush (v := 32) hx hb dX8_runAll_14 (by decide) ?_
        refine lv_idiv hx hb dX8_runAll_16 (by decide) ?_
        refine lv_iload_n hx hb dX8_runAll_17 rfl (lv_at hl 3 rfl) ?_
        refine lv_bipush (v := 8) hx hb dX8_runAll_18 (by decide) ?_
        refine lv_idiv hx hb dX8_runAll_20 (by decide) ?_
        refine lv_iconst (v := 4) hx hb dX8_runAll_21 (by decide) ?_
        refine lv_irem hx hb dX8_runAll_22 (by decide) ?_
        refine lv_iload_n hx hb dX8_runAll_23 rfl (lv_at hl 2 rfl) ?_
        refine lv_iload_n hx hb dX8_runAll_24 rfl (lv_at hl 3 rfl) ?_
        refine lv_bipush (v := 8) hx hb dX8_runAll_25 (by decide) ?_
        refine lv_irem hx hb dX8_runAll_27 (by decide) ?_
        refine lv_iload hx hb dX8_runAll_28 (lv_at hl 0 rfl) ?_
        refine lv_iconst (v := 4) hx hb dX8_runAll_30 (by decide) ?_
        refine w_callV (As := [.int (x / (32 : Int32)), .int ((x / (8 : Int32)) - (x / (8 : Int32)) / (4 : Int32) * (4 : Int32)), .int k, .int (x - x / (8 : Int32) * (8 : Int32)), .int (nI k3), .int 4]) (rest := []) (st2 := .int (f_X8_verdictOf (x / (32 : Int32)) ((x / (8 : Int32)) - (x / (8 : Int32)) / (4 : Int32) * (4 : Int32)) k (x - x / (8 : Int32) * (8 : Int32)) (nI k3) 4 σ3) :: []) hC hW hS hl cv_X8_190 m_8 (by decide) rfl (c_X8_verdictOf l hl9 D ca base ad σ3 (x / (32 : Int32)) ((x / (8 : Int32)) - (x / (8 : Int32)) / (4 : Int32) * (4 : Int32)) k (x - x / (8 : Int32) * (8 : Int32)) (nI k3) 4 hM3 (vp_in_nI (by omega) (by omega)) hk (x84_in hx9)) rfl rfl rfl ⟨Nat.le_of_ble_eq_true rfl, Nat.le_of_ble_eq_true rfl⟩ (Nat.le_of_ble_eq_true rfl) dX8_runAll_31 ⟨Nat.le_of_ble_eq_true rfl, Nat.le_of_ble_eq_true rfl⟩ (fun H locs hW hS => ?_)
        refine lv_if_ne (tgt := 111) hx hb dX8_runAll_34 (by decide) (fun c_2 => ?_) (fun c_2 => ?_)
        · refine lv_iinc (v := nI (k3 + 1)) (lv' := [(4, .int (nI (k3 + 1))), (0, .ref (ad 8 0)), (1, .int k), (2, .int x), (3, .int n9)]) hx hb dX8_runAll_111 hl (k := 0) rfl (nI_1 _) (by decide) rfl (fun ls hl => ?_)
          refine lv_goto (tgt := 3) hx hb dX8_runAll_114 (by decide) ?_
          refine ih_3 (k3 + 1) σ3 _ _ _ (by omega) (by omega) hM3 hW hS (lv_sub hl [0, 1, 2, 3, 4] rfl) ?_
          rw [hO, s_X8_runAll_L3, if_neg c_1, if_neg c_2]
        · refine lv_aload_n hx hb dX8_runAll_37 rfl (lv_at hl 1 rfl) ?_
          refine lv_iload_n hx hb dX8_runAll_38 rfl (lv_at hl 2 rfl) ?_
          refine lv_iload_n hx hb dX8_runAll_39 rfl (lv_at hl 3 rfl) ?_
          refine lv_bipush (v := 32) hx hb dX8_runAll_40 (by decide) ?_
          refine lv_idiv hx hb dX8_runAll_42 (by decide) ?_
          refine lv_iload_n hx hb dX8_runAll_43 rfl (lv_at hl 3 rfl) ?_
          refine lv_bipush (v := 8) hx hb dX8_runAll_44 (by decide) ?_
          refine lv_idiv hx hb dX8_runAll_46 (by decide) ?_
          refine lv_iconst (v := 4) hx hb dX8_runAll_47 (by decide) ?_
          refine lv_irem hx hb dX8_runAll_48 (by decide) ?_
          refine lv_iload_n hx hb dX8_runAll_49 rfl (lv_at hl 3 rfl) ?_
          refine lv_bipush (v := 8) hx hb dX8_runAll_50 (by decide) ?_
          refine lv_irem hx hb dX8_runAll_52 (by decide) ?_
          refine lv_iload hx hb dX8_runAll_53 (lv_at hl 0 rfl) ?_
          refine w_callV (As := [.int k, .int (x / (32 : Int32)), .int ((x / (8 : Int32)) - (x / (8 : Int32)) / (4 : Int32) * (4 : Int32)), .int (x - x / (8 : Int32) * (8 : Int32)), .int (nI k3)]) (rest := []) (st2 := []) hC hW hS hl cv_X8_219 m_8 (by decide) rfl (c_X8_runAs l hl9 D ca base ad σ3 k (x / (32 : Int32)) ((x / (8 : Int32)) - (x / (8 : Int32)) / (4 : Int32) * (4 : Int32)) (x - x / (8 : Int32) * (8 : Int32)) (nI k3) hM3 (vp_in_nI (by omega) (by omega)) hk (x84_in hx9)) rfl rfl rfl ⟨Nat.le_of_ble_eq_true rfl, Nat.le_of_ble_eq_true rfl⟩ (Nat.le_of_ble_eq_true rfl) dX8_runAll_55 ⟨Nat.le_of_ble_eq_true rfl, Nat.le_of_ble_eq_true rfl⟩ (fun H locs hW hS => ?_)
          refine lv_bipush (v := 32) hx hb dX8_runAll_58 (by decide) ?_
          refine lv_aload_n hx hb dX8_runAll_60 rfl (lv_at hl 1 rfl) ?_
          refine gf_X8_209 hC hW m_8 dX8_runAll_61 ?_
          refine lv_imul hx hb dX8_runAll_64 ?_
          refine lv_bipush (v := 8) hx hb dX8_runAll_65 (by decide) ?_
          refine lv_aload_n hx hb dX8_runAll_67 rfl (lv_at hl 1 rfl) ?_
          refine gf_X8_206 hC hW m_8 dX8_runAll_68 ?_
          refine lv_imul hx hb dX8_runAll_71 ?_
          refine lv_iadd hx hb dX8_runAll_72 ?_
          refine lv_aload_n hx hb dX8_runAll_73 rfl (lv_at hl 1 rfl) ?_
          refine gf_X8_212 hC hW m_8 dX8_runAll_74 ?_
          refine lv_iadd hx hb dX8_runAll_77 ?_
          refine lv_istore (lv' := [(5, .int ((((32 : Int32) * ((s_X8_runAs k (x / (32 : Int32)) ((x / (8 : Int32)) - (x / (8 : Int32)) / (4 : Int32) * (4 : Int32)) (x - x / (8 : Int32) * (8 : Int32)) (nI k3) σ3) 8 0 44)) + ((8 : Int32) * ((s_X8_runAs k (x / (32 : Int32)) ((x / (8 : Int32)) - (x / (8 : Int32)) / (4 : Int32) * (4 : Int32)) (x - x / (8 : Int32) * (8 : Int32)) (nI k3) σ3) 8 0 45))) + ((s_X8_runAs k (x / (32 : Int32)) ((x / (8 : Int32)) - (x / (8 : Int32)) / (4 : Int32) * (4 : Int32)) (x - x / (8 : Int32) * (8 : Int32)) (nI k3) σ3) 8 0 46))), (4, .int (nI k3)), (0, .ref (ad 8 0)), (1, .int k), (2, .int x), (3, .int n9)]) hx hb dX8_runAll_78 hl (by decide) rfl (fun ls hl => ?_)
          refine lv_aload_n hx hb dX8_runAll_80 rfl (lv_at hl 2 rfl) ?_
          refine gf_X8_123 hC hW m_8 rfl dX8_runAll_81 ?_
          refine lv_iload hx hb dX8_runAll_84 (lv_at hl 0 rfl) ?_
          refine lv_aload_n hx hb dX8_runAll_86 rfl (lv_at hl 2 rfl) ?_
          refine gf_X8_123 hC hW m_8 rfl dX8_runAll_87 ?_
          refine lv_iload hx hb dX8_runAll_90 (lv_at hl 0 rfl) ?_
          refine w_iald hC hW m_77 (n := 192) rfl (ra_in hM3 (vp_in_nI (by omega) (by omega)) hk (x32_in hx9) (x84_in hx9) (x8_in hx9)) dX8_runAll_92 ?_
          refine lv_eqi (y := σ3 77 0 (((((32 : Int32) * ((s_X8_runAs k (x / (32 : Int32)) ((x / (8 : Int32)) - (x / (8 : Int32)) / (4 : Int32) * (4 : Int32)) (x - x / (8 : Int32) * (8 : Int32)) (nI k3) σ3) 8 0 44)) + ((8 : Int32) * ((s_X8_runAs k (x / (32 : Int32)) ((x / (8 : Int32)) - (x / (8 : Int32)) / (4 : Int32) * (4 : Int32)) (x - x / (8 : Int32) * (8 : Int32)) (nI k3) σ3) 8 0 45))) + ((s_X8_runAs k (x / (32 : Int32)) ((x / (8 : Int32)) - (x / (8 : Int32)) / (4 : Int32) * (4 : Int32)) (x - x / (8 : Int32) * (8 : Int32)) (nI k3) σ3) 8 0 46)).toNatClampNeg)) (by rw [fr_X8_runAs (by decide)]) ?_
          refine lv_iconst (v := (-1)) hx hb dX8_runAll_93 (by decide) ?_
          refine lv_icmp_ne (tgt := 103) hx hb dX8_runAll_94 (by decide) (fun c_3 => ?_) (fun c_3 => ?_)
          · refine lv_aload_n hx hb dX8_runAll_103 rfl (lv_at hl 2 rfl) ?_
            refine gf_X8_123 hC hW m_8 rfl dX8_runAll_104 ?_
            refine lv_iload hx hb dX8_runAll_107 (lv_at hl 0 rfl) ?_
            refine w_iald hC hW m_77 (n := 192) rfl (ra_in hM3 (vp_in_nI (by omega) (by omega)) hk (x32_in hx9) (x84_in hx9) (x8_in hx9)) dX8_runAll_109 ?_
            refine lv_eqi (y := σ3 77 0 (((((32 : Int32) * ((s_X8_runAs k (x / (32 : Int32)) ((x / (8 : Int32)) - (x / (8 : Int32)) / (4 : Int32) * (4 : Int32)) (x - x / (8 : Int32) * (8 : Int32)) (nI k3) σ3) 8 0 44)) + ((8 : Int32) * ((s_X8_runAs k (x / (32 : Int32)) ((x / (8 : Int32)) - (x / (8 : Int32)) / (4 : Int32) * (4 : Int32)) (x - x / (8 : Int32) * (8 : Int32)) (nI k3) σ3) 8 0 45))) + ((s_X8_runAs k (x / (32 : Int32)) ((x / (8 : Int32)) - (x / (8 : Int32)) / (4 : Int32) * (4 : Int32)) (x - x / (8 : Int32) * (8 : Int32)) (nI k3) σ3) 8 0 46)).toNatClampNeg)) (by rw [fr_X8_runAs (by decide)]) ?_
            refine w_iast hC hW hS m_77 (n := 192) (fun _ => rfl) (ra_in hM3 (vp_in_nI (by omega) (by omega)) hk (x32_in hx9) (x84_in hx9) (x8_in hx9)) dX8_runAll_110 (fun H locs hW hS => ?_)
            refine lv_iinc (v := nI (k3 + 1)) (lv' := [(4, .int (nI (k3 + 1))), (5, .int ((((32 : Int32) * ((s_X8_runAs k (x / (32 : Int32)) ((x / (8 : Int32)) - (x / (8 : Int32)) / (4 : Int32) * (4 : Int32)) (x - x / (8 : Int32) * (8 : Int32)) (nI k3) σ3) 8 0 44)) + ((8 : Int32) * ((s_X8_runAs k (x / (32 : Int32)) ((x / (8 : Int32)) - (x / (8 : Int32)) / (4 : Int32) * (4 : Int32)) (x - x / (8 : Int32) * (8 : Int32)) (nI k3) σ3) 8 0 45))) + ((s_X8_runAs k (x / (32 : Int32)) ((x / (8 : Int32)) - (x / (8 : Int32)) / (4 : Int32) * (4 : Int32)) (x - x / (8 : Int32) * (8 : Int32)) (nI k3) σ3) 8 0 46))), (0, .ref (ad 8 0)), (1, .int k), (2, .int x), (3, .int n9)]) hx hb dX8_runAll_111 hl (k := 1) rfl (nI_1 _) (by decide) rfl (fun ls hl => ?_)
            refine lv_goto (tgt := 3) hx hb dX8_runAll_114 (by decide) ?_
            refine ih_3 (k3 + 1) (us (s_X8_runAs k (x / (32 : Int32)) ((x / (8 : Int32)) - (x / (8 : Int32)) / (4 : Int32) * (4 : Int32)) (x - x / (8 : Int32) * (8 : Int32)) (nI k3) σ3) 77 0 (((((32 : Int32) * ((s_X8_runAs k (x / (32 : Int32)) ((x / (8 : Int32)) - (x / (8 : Int32)) / (4 : Int32) * (4 : Int32)) (x - x / (8 : Int32) * (8 : Int32)) (nI k3) σ3) 8 0 44)) + ((8 : Int32) * ((s_X8_runAs k (x / (32 : Int32)) ((x / (8 : Int32)) - (x / (8 : Int32)) / (4 : Int32) * (4 : Int32)) (x - x / (8 : Int32) * (8 : Int32)) (nI k3) σ3) 8 0 45))) + ((s_X8_runAs k (x / (32 : Int32)) ((x / (8 : Int32)) - (x / (8 : Int32)) / (4 : Int32) * (4 : Int32)) (x - x / (8 : Int32) * (8 : Int32)) (nI k3) σ3) 8 0 46)).toNatClampNeg) (σ3 77 0 (((((32 : Int32) * ((s_X8_runAs k (x / (32 : Int32)) ((x / (8 : Int32)) - (x / (8 : Int32)) / (4 : Int32) * (4 : Int32)) (x - x / (8 : Int32) * (8 : Int32)) (nI k3) σ3) 8 0 44)) + ((8 : Int32) * ((s_X8_runAs k (x / (32 : Int32)) ((x / (8 : Int32)) - (x / (8 : Int32)) / (4 : Int32) * (4 : Int32)) (x - x / (8 : Int32) * (8 : Int32)) (nI k3) σ3) 8 0 45))) + ((s_X8_runAs k (x / (32 : Int32)) ((x / (8 : Int32)) - (x / (8 : Int32)) / (4 : Int32) * (4 : Int32)) (x - x / (8 : Int32) * (8 : Int32)) (nI k3) σ3) 8 0 46)).toNatClampNeg))) _ _ _ (by omega) (by omega) (mi_of hM3 (by rw [us_k (by decide), fs_X8_runAs (by decide) (by decide) (by decide)]) (by rw [us_k (by decide), fs_X8_runAs (by decide) (by decide) (by decide)]) (by rw [us_k (by decide), fs_X8_runAs (by decide) (by decide) (by decide)]) (by rw [us_k (by decide), fs_X8_runAs (by decide) (by decide) (by decide)]) (by rw [us_kk (by decide), fr_X8_runAs (by decide)]) (by rw [us_kk (by decide), fr_X8_runAs (by decide)]) (by rw [us_kk (by decide), fr_X8_runAs (by decide)]) (by rw [us_kk (by decide), fr_X8_runAs (by decide)]) (by rw [us_kk (by decide), fr_X8_runAs (by decide)]) (by rw [us_kk (by decide), fr_X8_runAs (by decide)]) (by rw [us_kk (by decide), fr_X8_runAs (by decide)]) (by rw [us_kk (by decide), fr_X8_runAs (by decide)]) (by rw [us_kk (by decide), fr_X8_runAs (by decide)]) (by rw [us_kk (by decide), fr_X8_runAs (by decide)]) (by rw [us_kk (by decide), fr_X8_runAs (by decide)]) (by rw [us_kk (by decide), fr_X8_runAs (by decide)])) hW hS (lv_sub hl [0, 2, 3, 4, 5] rfl) ?_
            rw [hO, s_X8_runAll_L3, if_neg c_1, if_pos c_2, if_neg c_3]
          · refine lv_iload_n hx hb dX8_runAll_97 rfl (lv_at hl 5 rfl) ?_
            refine lv_iconst (v := 1) hx hb dX8_runAll_98 (by decide) ?_
            refine lv_iadd hx hb dX8_runAll_99 ?_
            refine lv_goto (tgt := 110) hx hb dX8_runAll_100 (by decide) ?_
            refine w_iast hC hW hS m_77 (n := 192) (fun _ => rfl) (ra_in hM3 (vp_in_nI (by omega) (by omega)) hk (x32_in hx9) (x84_in hx9) (x8_in hx9)) dX8_runAll_110 (fun H locs hW hS => ?_)
            refine lv_iinc (v := nI (k3 + 1)) (lv' := [(4, .int (nI (k3 + 1))), (5, .int ((((32 : Int32) * ((s_X8_runAs k (x / (32 : Int32)) ((x / (8 : Int32)) - (x / (8 : Int32)) / (4 : Int32) * (4 : Int32)) (x - x / (8 : Int32) * (8 : Int32)) (nI k3) σ3) 8 0 44)) + ((8 : Int32) * ((s_X8_runAs k (x / (32 : Int32)) ((x / (8 : Int32)) - (x / (8 : Int32)) / (4 : Int32) * (4 : Int32)) (x - x / (8 : Int32) * (8 : Int32)) (nI k3) σ3) 8 0 45))) + ((s_X8_runAs k (x / (32 : Int32)) ((x / (8 : Int32)) - (x / (8 : Int32)) / (4 : Int32) * (4 : Int32)) (x - x / (8 : Int32) * (8 : Int32)) (nI k3) σ3) 8 0 46))), (0, .ref (ad 8 0)), (1, .int k), (2, .int x), (3, .int n9)]) hx hb dX8_runAll_111 hl (k := 1) rfl (nI_1 _) (by decide) rfl (fun ls hl => ?_)
            refine lv_goto (tgt := 3) hx hb dX8_runAll_114 (by decide) ?_
            refine ih_3 (k3 + 1) (us (s_X8_runAs k (x / (32 : Int32)) ((x / (8 : Int32)) - (x / (8 : Int32)) / (4 : Int32) * (4 : Int32)) (x - x / (8 : Int32) * (8 : Int32)) (nI k3) σ3) 77 0 (((((32 : Int32) * ((s_X8_runAs k (x / (32 : Int32)) ((x / (8 : Int32)) - (x / (8 : Int32)) / (4 : Int32) * (4 : Int32)) (x - x / (8 : Int32) * (8 : Int32)) (nI k3) σ3) 8 0 44)) + ((8 : Int32) * ((s_X8_runAs k (x / (32 : Int32)) ((x / (8 : Int32)) - (x / (8 : Int32)) / (4 : Int32) * (4 : Int32)) (x - x / (8 : Int32) * (8 : Int32)) (nI k3) σ3) 8 0 45))) + ((s_X8_runAs k (x / (32 : Int32)) ((x / (8 : Int32)) - (x / (8 : Int32)) / (4 : Int32) * (4 : Int32)) (x - x / (8 : Int32) * (8 : Int32)) (nI k3) σ3) 8 0 46)).toNatClampNeg) (n9 + (1 : Int32))) _ _ _ (by omega) (by omega) (mi_of hM3 (by rw [us_k (by decide), fs_X8_runAs (by decide) (by decide) (by decide)]) (by rw [us_k (by decide), fs_X8_runAs (by decide) (by decide) (by decide)]) (by rw [us_k (by decide), fs_X8_runAs (by decide) (by decide) (by decide)]) (by rw [us_k (by decide), fs_X8_runAs (by decide) (by decide) (by decide)]) (by rw [us_kk (by decide), fr_X8_runAs (by decide)]) (by rw [us_kk (by decide), fr_X8_runAs (by decide)]) (by rw [us_kk (by decide), fr_X8_runAs (by decide)]) (by rw [us_kk (by decide), fr_X8_runAs (by decide)]) (by rw [us_kk (by decide), fr_X8_runAs (by decide)]) (by rw [us_kk (by decide), fr_X8_runAs (by decide)]) (by rw [us_kk (by decide), fr_X8_runAs (by decide)]) (by rw [us_kk (by decide), fr_X8_runAs (by decide)]) (by rw [us_kk (by decide), fr_X8_runAs (by decide)]) (by rw [us_kk (by decide), fr_X8_runAs (by decide)]) (by rw [us_kk (by decide), fr_X8_runAs (by decide)]) (by rw [us_kk (by decide), fr_X8_runAs (by decide)])) hW hS (lv_sub hl [0, 2, 3, 4, 5] rfl) ?_
            rw [hO, s_X8_runAll_L3, if_neg c_1, if_pos c_2, if_pos c_3]
  refine h_3 13 0 σ _ _ _ (by omega) (by omega) hM hW hS (lv_sub hl [0, 1, 2, 3, 4] rfl) ?_
  rw [s_X8_runAll]
theorem fr_s_X8_runAll_L3 {kk : Nat}  (k : Int32) (x : Int32) (n9 : Int32) (h8 : kk ≠ 8) (h77 : kk ≠ 77) : ∀ (y0 : Nat) (y1 : Nat) (σ : Sg), (s_X8_runAll_L3 k x n9 y0 y1 σ) kk = σ kk := by
  intro y0
  induction y0 with
  | zero => intros; rfl
  | succ n ih =>
    intros
    rw [s_X8_runAll_L3]
    repeat' split
    all_goals (first | (simp only [ih, us_kk, ne_eq, not_false_eq_true, h8, h77, fr_X8_runAs]; done) | with_reducible rfl | (simp only [ih, us_kk, ne_eq, not_false_eq_true, h8, h77, fr_X8_runAs]; with_reducible rfl))
theorem fr_X8_runAll {kk : Nat}  {k : Int32} {x : Int32} {n9 : Int32} {σ : Sg} (h8 : kk ≠ 8) (h77 : kk ≠ 77) : (s_X8_runAll k x n9 σ) kk = σ kk := by
  rw [s_X8_runAll]
  repeat' split
  all_goals (first | (simp only [us_kk, ne_eq, not_false_eq_true, h8, h77, fr_s_X8_runAll_L3, fr_X8_runAs]; done) | with_reducible rfl | (simp only [us_kk, ne_eq, not_false_eq_true, h8, h77, fr_s_X8_runAll_L3, fr_X8_runAs]; with_reducible rfl))
theorem fs_s_X8_runAll_L3 {jj : Nat}  (k : Int32) (x : Int32) (n9 : Int32) (h44 : jj ≠ 44) (h45 : jj ≠ 45) (h46 : jj ≠ 46) : ∀ (y0 : Nat) (y1 : Nat) (σ : Sg), (s_X8_runAll_L3 k x n9 y0 y1 σ) 8 0 jj = σ 8 0 jj := by
  intro y0
  induction y0 with
  | zero => intros; rfl
  | succ n ih =>
    intros
    rw [s_X8_runAll_L3]
    repeat' split
    all_goals (first | with_reducible rfl | (simp [ih, us_k, us_j, ne_eq, not_false_eq_true, h44, h45, h46, fs_X8_runAs]; done))
theorem fs_X8_runAll {jj : Nat}  {k : Int32} {x : Int32} {n9 : Int32} {σ : Sg} (h44 : jj ≠ 44) (h45 : jj ≠ 45) (h46 : jj ≠ 46) : (s_X8_runAll k x n9 σ) 8 0 jj = σ 8 0 jj := by
  rw [s_X8_runAll]
  repeat' split
  all_goals (first | with_reducible rfl | (simp [us_k, us_j, ne_eq, not_false_eq_true, h44, h45, h46, fs_s_X8_runAll_L3, fs_X8_runAs]; done))

def f_X8_reach_L144 (k : Int32) (t : Int32) (r : Int32) (k76 : Nat) : Nat → Nat → Sg → Sg
  | 0, _, σ144 => σ144
  | n144 + 1, k144, σ144 => if 192 ≤ (nI k144) then σ144
    else if (σ144 77 0 k144) = (nI k76) then f_X8_reach_L144 k t r k76 n144 (k144 + 1) (s_X8_runAll k (nI k144) (nI k76) σ144)
    else f_X8_reach_L144 k t r k76 n144 (k144 + 1) σ144
def f_X8_reach_L85 (k : Int32) (t : Int32) (r : Int32) (k76 : Nat) : Nat → Nat → Sg → Int32
  | 0, _, _ => 0
  | n85 + 1, k85, σ76 => if 192 ≤ (nI k85) then 0
    else if (σ76 77 0 k85) = (nI k76) then (if (f_X8_verdictOf ((nI k85) / (32 : Int32)) (((nI k85) / (8 : Int32)) - ((nI k85) / (8 : Int32)) / (4 : Int32) * (4 : Int32)) k ((nI k85) - (nI k85) / (8 : Int32) * (8 : Int32)) t r σ76) = 0 then 1
      else f_X8_reach_L85 k t r k76 n85 (k85 + 1) σ76)
    else f_X8_reach_L85 k t r k76 n85 (k85 + 1) σ76
def f_X8_reach_L76 (k : Int32) (t : Int32) (r : Int32) : Nat → Nat → Sg → Int32 × Sg
  | 0, _, σ76 => (0, σ76)
  | n76 + 1, k76, σ76 => if 3 < (nI k76) then ((-1), σ76)
    else if (f_X8_reach_L85 k t r k76 193 0 σ76) = 1 then (nI k76, σ76) else (f_X8_reach_L76 k t r n76 (k76 + 1) (f_X8_reach_L144 k t r k76 193 0 σ76))
def f_X8_reach_K19 (k : Int32) (t : Int32) (r : Int32) (τ19 : Sg) : Int32 × Sg :=
  f_X8_reach_L76 k t r 5 0 (us τ19 77 0 (((((32 : Int32) * (τ19 49 0 k.toNatClampNeg)) + ((8 : Int32) * (τ19 50 0 k.toNatClampNeg))) + (τ19 53 0 k.toNatClampNeg)).toNatClampNeg) 0)
def f_X8_reach_L19 (k : Int32) (t : Int32) (r : Int32) : Nat → Nat → Sg → Sg
  | 0, _, σ19 => σ19
  | n19 + 1, k19, σ19 => if 192 ≤ (nI k19) then σ19
    else f_X8_reach_L19 k t r n19 (k19 + 1) (us σ19 77 0 k19 (-1))
def f_X8_reach (k : Int32) (t : Int32) (r : Int32) (σ : Sg) : Int32 × Sg :=
  if (f_X8_rf (f_X8_whyNoVerdict k t r σ)) = 0 then f_X8_reach_K19 k t r (f_X8_reach_L19 k t r 193 0 (us σ 8 0 0 (f_X8_whyNoVerdict k t r σ)))
  else (0, us σ 8 0 0 (f_X8_whyNoVerdict k t r σ))
set_option maxHeartbeats 4000000 in
set_option maxRecDepth 100000 in
theorem c_X8_reach (l : Launch) (hl9 : l.stackTraces = false) (D : va_G) (ca : Nat → ClassId) (base : Nat) (ad : Adr) (σ : Sg) (k : Int32) (t : Int32) (r : Int32) (hM : MInv σ) : Mt l yX8_reach cX8_reach 6 (some .int) { frames := 7, cells := 0, slots := 0, locals := 174 } D ca base ad ρm Lm [.ref (ad 8 0), .int k, .int t, .int r] σ (some (.int (f_X8_reach k t r σ).1)) (f_X8_reach k t r σ).2 := by
  refine w_ofW (by decide) (Nat.le_of_ble_eq_true rfl) rfl ?_
  intro p e s m args below meth c hC hW hS ls hl hin
  have hx := hC.1
  have hb := hC.2.1
  refine lv_aload_n hx hb dX8_reach_0 rfl (lv_at hl 0 rfl) ?_
  refine lv_aload_n hx hb dX8_reach_1 rfl (lv_at hl 0 rfl) ?_
  refine lv_iload_n hx hb dX8_reach_2 rfl (lv_at hl 1 rfl) ?_
  refine lv_iload_n hx hb dX8_reach_3 rfl (lv_at hl 2 rfl) ?_
  refine lv_iload_n hx hb dX8_reach_4 rfl (lv_at hl 3 rfl) ?_
  refine w_callV (As := [.int k, .int t, .int r]) (rest := .ref (ad 8 0) :: []) (st2 := .int (f_X8_whyNoVerdict k t r σ) :: .ref (ad 8 0) :: []) hC hW hS hl cv_X8_197 m_8 (by decide) rfl (c_X8_whyNoVerdict l hl9 D ca base ad σ k t r ) rfl rfl rfl ⟨Nat.le_of_ble_eq_true rfl, Nat.le_of_ble_eq_true rfl⟩ (Nat.le_of_ble_eq_true rfl) dX8_reach_5 ⟨Nat.le_of_ble_eq_true rfl, Nat.le_of_ble_eq_true rfl⟩ (fun H locs hW hS => ?_)
  refine w_callV (As := [.int (f_X8_whyNoVerdict k t r σ)]) (rest := []) (st2 := .int (f_X8_rf (f_X8_whyNoVerdict k t r σ)) :: []) hC hW hS hl cv_X8_154 m_8 (by decide) rfl (c_X8_refused l hl9 D ca base ad σ (f_X8_whyNoVerdict k t r σ) ) rfl rfl rfl ⟨Nat.le_of_ble_eq_true rfl, Nat.le_of_ble_eq_true rfl⟩ (Nat.le_of_ble_eq_true rfl) dX8_reach_8 ⟨Nat.le_of_ble_eq_true rfl, Nat.le_of_ble_eq_true rfl⟩ (fun H locs hW hS => ?_)
  refine lv_if_eq (tgt := 16) hx hb dX8_reach_11 (by decide) (fun c_1 => ?_) (fun c_1 => ?_)
  · have hw := wv_ok (rf0 c_1)
    have ht := it_in hM hw.2.1
    have hk := ip_in hM hw.1
    refine lv_iconst (v := 0) hx hb dX8_reach_16 (by decide) ?_
    refine lv_istore (lv' := [(4, .int 0), (0, .ref (ad 8 0)), (1, .int k), (2, .int t), (3, .int r)]) hx hb dX8_reach_17 hl (by decide) rfl (fun ls hl => ?_)
    have h_19 : ∀ (n19 k19 : Nat) (σ19 : Sg) (H : Heap) (locs : List Loc) (ls : Array Slot), 193 ≤ k19 + n19 → k19 ≤ 192 → (MInv σ19) → Wd D ca (Ab base) ad ρm Lm σ19 H → va_S (Ab base) s.heap H locs → lv_has ls 6 [(4, .int (nI k19)), (0, .ref (ad 8 0)), (1, .int k), (2, .int t), (3, .int r)] → f_X8_reach k t r σ = (f_X8_reach_K19 k t r (f_X8_reach_L19 k t r n19 k19 σ19)) → W p l e ({ frames := 7, cells := 0, slots := 0, locals := 174 } : Room) s m args below meth c H locs 0 0 (MQ below (Rt D ca base ad ρm Lm (f_X8_reach k t r σ).2 (some (.int (f_X8_reach k t r σ).1))) args s 0 0 (Ab base)) (F0 m 19 ls []) := by
      intro n19
      induction n19 with
      | zero =>
        intro k19 σ19 H locs ls hk1_19 hk2_19 hM19 hW hS hl hO
        exact absurd hk1_19 (by omega)
      | succ n19 ih_19 =>
        intro k19 σ19 H locs ls hk1_19 hk2_19 hM19 hW hS hl hO
        refine lv_iload hx hb dX8_reach_19 (lv_at hl 0 rfl) ?_
        refine lv_sipush (v := 192) hx hb dX8_reach_21 (by decide) ?_
        refine lv_icmp_ge (tgt := 41) hx hb dX8_reach_24 (by decide) (fun c_2 => ?_) (fun c_2 => ?_)
        · replace hl := lv_sub hl [1, 2, 3, 4] (l' := [(0, .ref (ad 8 0)), (1, .int k), (2, .int t), (3, .int r)]) rfl
          refine lv_aload_n hx hb dX8_reach_41 rfl (lv_at hl 0 rfl) ?_
          refine gf_X8_123 hC hW m_8 rfl dX8_reach_42 ?_
          refine lv_bipush (v := 32) hx hb dX8_reach_45 (by decide) ?_
          refine lv_aload_n hx hb dX8_reach_47 rfl (lv_at hl 0 rfl) ?_
          refine gf_X8_59 hC hW m_8 rfl dX8_reach_48 ?_
          refine lv_iload_n hx hb dX8_reach_51 rfl (lv_at hl 1 rfl) ?_
          refine w_iald hC hW m_49 (n := 8) rfl (by first | assumption | exact ip_in hM (by assumption) | exact vp_in_c (y := 8) (by decide) (by decide) (by assumption) (by assumption) | (exfalso; contradiction)) dX8_reach_52 ?_
          refine lv_imul hx hb dX8_reach_53 ?_
          refine lv_bipush (v := 8) hx hb dX8_reach_54 (by decide) ?_
          refine lv_aload_n hx hb dX8_reach_56 rfl (lv_at hl 0 rfl) ?_
          refine gf_X8_62 hC hW m_8 rfl dX8_reach_57 ?_
          refine lv_iload_n hx hb dX8_reach_60 rfl (lv_at hl 1 rfl) ?_
          refine w_iald hC hW m_50 (n := 8) rfl (by first | assumption | exact ip_in hM (by assumption) | exact vp_in_c (y := 8) (by decide) (by decide) (by assumption) (by assumption) | (exfalso; contradiction)) dX8_reach_61 ?_
          refine lv_imul hx hb dX8_reach_62 ?_
          refine lv_iadd hx hb dX8_reach_63 ?_
          refine lv_aload_n hx hb dX8_reach_64 rfl (lv_at hl 0 rfl) ?_
          refine gf_X8_71 hC hW m_8 rfl dX8_reach_65 ?_
          refine lv_iload_n hx hb dX8_reach_68 rfl (lv_at hl 1 rfl) ?_
          refine w_iald hC hW m_53 (n := 8) rfl (by first | assumption | exact ip_in hM (by assumption) | exact vp_in_c (y := 8) (by decide) (by decide) (by assumption) (by assumption) | (exfalso; contradiction)) dX8_reach_69 ?_
          refine lv_iadd hx hb dX8_reach_70 ?_
          refine lv_iconst (v := 0) hx hb dX8_reach_71 (by decide) ?_
          refine w_iast hC hW hS m_77 (n := 192) (fun _ => rfl) (l3_in (us_in hM19 hk) (dm_in hM19 hk) (fi_in hM19 hk)) dX8_reach_72 (fun H locs hW hS => ?_)
          refine lv_iconst (v := 0) hx hb dX8_reach_73 (by decide) ?_
          refine lv_istore (lv' := [(4, .int 0), (0, .ref (ad 8 0)), (1, .int k), (2, .int t), (3, .int r)]) hx hb dX8_reach_74 hl (by decide) rfl (fun ls hl => ?_)
          have h_76 : ∀ (n76 k76 : Nat) (σ76 : Sg) (H : Heap) (locs : List Loc) (ls : Array Slot), 5 ≤ k76 + n76 → k76 ≤ 4 → (MInv σ76) → Wd D ca (Ab base) ad ρm Lm σ76 H → va_S (Ab base) s.heap H locs → lv_has ls 6 [(4, .int (nI k76)), (0, .ref (ad 8 0)), (1, .int k), (2, .int t), (3, .int r)] → f_X8_reach k t r σ = (f_X8_reach_L76 k t r n76 k76 σ76) → W p l e ({ frames := 7, cells := 0, slots := 0, locals := 174 } : Room) s m args below meth c H locs 0 0 (MQ below (Rt D ca base ad ρm Lm (f_X8_reach k t r σ).2 (some (.int (f_X8_reach k t r σ).1))) args s 0 0 (Ab base)) (F0 m 76 ls []) := by
            intro n76
            induction n76 with
            | zero =>
              intro k76 σ76 H locs ls hk1_76 hk2_76 hM76 hW hS hl hO
              exact absurd hk1_76 (by omega)
            | succ n76 ih_76 =>
              intro k76 σ76 H locs ls hk1_76 hk2_76 hM76 hW hS hl hO
              refine lv_iload hx hb dX8_reach_76 (lv_at hl 0 rfl) ?_
              refine lv_iconst (v := 3) hx hb dX8_reach_78 (by decide) ?_
              refine lv_icmp_gt (tgt := 185) hx hb dX8_reach_79 (by decide) (fun c_3 => ?_) (fun c_3 => ?_)
              · refine lv_iconst (v := (-1)) hx hb dX8_reach_185 (by decide) ?_
                have hO : f_X8_reach k t r σ = ((-1), σ76) := by rw [hO, f_X8_reach_L76, if_pos c_3]
                exact w_iretS hC hW hS hO (Nat.le_of_ble_eq_true rfl) (Nat.le_of_ble_eq_true rfl) dX8_reach_186
              · have hi_c_3 : k76 < 4 := idx_lt2 c_3 (by decide) (by decide) (by omega)
                refine lv_iconst (v := 0) hx hb dX8_reach_82 (by decide) ?_
                refine lv_istore (lv' := [(5, .int 0), (4, .int (nI k76)), (0, .ref (ad 8 0)), (1, .int k), (2, .int t), (3, .int r)]) hx hb dX8_reach_83 hl (by decide) rfl (fun ls hl => ?_)
                have h_85 : ∀ (n85 k85 : Nat) (H : Heap) (locs : List Loc) (ls : Array Slot), 193 ≤ k85 + n85 → k85 ≤ 192 → Wd D ca (Ab base) ad ρm Lm σ76 H → va_S (Ab base) s.heap H locs → lv_has ls 6 [(5, .int (nI k85)), (4, .int (nI k76)), (0, .ref (ad 8 0)), (1, .int k), (2, .int t), (3, .int r)] → f_X8_reach k t r σ = (if (f_X8_reach_L85 k t r k76 n85 k85 σ76) = 1 then (nI k76, σ76) else (f_X8_reach_L76 k t r n76 (k76 + 1) (f_X8_reach_L144 k t r k76 193 0 σ76))) → W p l e ({ frames := 7, cells := 0, slots := 0, locals := 174 } : Room) s m args below meth c H locs 0 0 (MQ below (Rt D ca base ad ρm Lm (f_X8_reach k t r σ).2 (some (.int (f_X8_reach k t r σ).1))) args s 0 0 (Ab base)) (F0 m 85 ls []) := by
                  intro n85
                  induction n85 with
                  | zero =>
                    intro k85 H locs ls hk1_85 hk2_85 hW hS hl hO
                    exact absurd hk1_85 (by omega)
                  | succ n85 ih_85 =>
                    intro k85 H locs ls hk1_85 hk2_85 hW hS hl hO
                    refine lv_iload hx hb dX8_reach_85 (lv_at hl 0 rfl) ?_
                    refine lv_sipush (v := 192) hx hb dX8_reach_87 (by decide) ?_
                    refine lv_icmp_ge (tgt := 141) hx hb dX8_reach_90 (by decide) (fun c_4 => ?_) (fun c_4 => ?_)
                    · replace hl := lv_sub hl [1, 2, 3, 4, 5] (l' := [(4, .int (nI k76)), (0, .ref (ad 8 0)), (1, .int k), (2, .int t), (3, .int r)]) rfl
                      refine lv_iconst (v := 0) hx hb dX8_reach_141 (by decide) ?_
                      refine lv_istore (lv' := [(5, .int 0), (4, .int (nI k76)), (0, .ref (ad 8 0)), (1, .int k), (2, .int t), (3, .int r)]) hx hb dX8_reach_142 hl (by decide) rfl (fun ls hl => ?_)
                      have h_144 : ∀ (n144 k144 : Nat) (σ144 : Sg) (H : Heap) (locs : List Loc) (ls : Array Slot), 193 ≤ k144 + n144 → k144 ≤ 192 → (MInv σ144) → Wd D ca (Ab base) ad ρm Lm σ144 H → va_S (Ab base) s.heap H locs → lv_has ls 6 [(5, .int (nI k144)), (4, .int (nI k76)), (0, .ref (ad 8 0)), (1, .int k), (2, .int t), (3, .int r)] → f_X8_reach k t r σ = (f_X8_reach_L76 k t r n76 (k76 + 1) (f_X8_reach_L144 k t r k76 n144 k144 σ144)) → W p l e ({ frames := 7, cells := 0, slots := 0, locals := 174 } : Room) s m args below meth c H locs 0 0 (MQ below (Rt D ca base ad ρm Lm (f_X8_reach k t r σ).2 (some (.int (f_X8_reach k t r σ).1))) args s 0 0 (Ab base)) (F0 m 144 ls []) := by
                        intro n144
                        induction n144 with
                        | zero =>
                          intro k144 σ144 H locs ls hk1_144 hk2_144 hM144 hW hS hl hO
                          exact absurd hk1_144 (by omega)
                        | succ n144 ih_144 =>
                          intro k144 σ144 H locs ls hk1_144 hk2_144 hM144 hW hS hl hO
                          refine lv_iload hx hb dX8_reach_144 (lv_at hl 0 rfl) ?_
                          refine lv_sipush (v := 192) hx hb dX8_reach_146 (by decide) ?_
                          refine lv_icmp_ge (tgt := 179) hx hb dX8_reach_149 (by decide) (fun c_5 => ?_) (fun c_5 => ?_)
                          · replace hl := lv_sub hl [1, 2, 3, 4, 5] (l' := [(4, .int (nI k76)), (0, .ref (ad 8 0)), (1, .int k), (2, .int t), (3, .int r)]) rfl
                            refine lv_iinc (v := nI (k76 + 1)) (lv' := [(4, .int (nI (k76 + 1))), (0, .ref (ad 8 0)), (1, .int k), (2, .int t), (3, .int r)]) hx hb dX8_reach_179 hl (k := 0) rfl (nI_1 _) (by decide) rfl (fun ls hl => ?_)
                            refine lv_goto (tgt := 76) hx hb dX8_reach_182 (by decide) ?_
                            refine ih_76 (k76 + 1) σ144 _ _ _ (by omega) (by omega) hM144 hW hS (lv_sub hl [0, 1, 2, 3, 4] rfl) ?_
                            rw [hO, f_X8_reach_L144, if_pos c_5]
                          · have hi_c_5 : k144 < 192 := idx_lt c_5 (by decide) (by decide) (by omega)
                            refine lv_aload_n hx hb dX8_reach_152 rfl (lv_at hl 2 rfl) ?_
                            refine gf_X8_123 hC hW m_8 rfl dX8_reach_153 ?_
                            refine lv_iload hx hb dX8_reach_156 (lv_at hl 0 rfl) ?_
                            refine w_iald hC hW m_77 (n := 192) rfl (vp_in_nI (by omega) (by omega)) dX8_reach_158 ?_
                            refine lv_eqi (y := σ144 77 0 k144) (by rw [nI_clamp (by omega)]) ?_
                            refine lv_iload hx hb dX8_reach_159 (lv_at hl 1 rfl) ?_
                            refine lv_icmp_ne (tgt := 173) hx hb dX8_reach_161 (by decide) (fun c_6 => ?_) (fun c_6 => ?_)
                            · refine lv_iinc (v := nI (k144 + 1)) (lv' := [(5, .int (nI (k144 + 1))), (4, .int (nI k76)), (0, .ref (ad 8 0)), (1, .int k), (2, .int t), (3, .int r)]) hx hb dX8_reach_173 hl (k := 0) rfl (nI_1 _) (by decide) rfl (fun ls hl => ?_)
                              refine lv_goto (tgt := 144) hx hb dX8_reach_176 (by decide) ?_
                              refine ih_144 (k144 + 1) σ144 _ _ _ (by omega) (by omega) hM144 hW hS (lv_sub hl [0, 1, 2, 3, 4, 5] rfl) ?_
                              rw [hO, f_X8_reach_L144, if_neg c_5, if_neg c_6]
                            · refine lv_aload_n hx hb dX8_reach_164 rfl (lv_at hl 2 rfl) ?_
                              refine lv_iload_n hx hb dX8_reach_165 rfl (lv_at hl 3 rfl) ?_
                              refine lv_iload hx hb dX8_reach_166 (lv_at hl 0 rfl) ?_
                              refine lv_iload hx hb dX8_reach_168 (lv_at hl 1 rfl) ?_
                              refine w_callV (As := [.int k, .int (nI k144), .int (nI k76)]) (rest := []) (st2 := []) hC hW hS hl cv_X8_248 m_8 (by decide) rfl (c_X8_runAll l hl9 D ca base ad σ144 k (nI k144) (nI k76) hM144 hk (vp_in_nI (by omega) (by omega))) rfl rfl rfl ⟨Nat.le_of_ble_eq_true rfl, Nat.le_of_ble_eq_true rfl⟩ (Nat.le_of_ble_eq_true rfl) dX8_reach_170 ⟨Nat.le_of_ble_eq_true rfl, Nat.le_of_ble_eq_true rfl⟩ (fun H locs hW hS => ?_)
                              refine lv_iinc (v := nI (k144 + 1)) (lv' := [(5, .int (nI (k144 + 1))), (4, .int (nI k76)), (0, .ref (ad 8 0)), (1, .int k), (2, .int t), (3, .int r)]) hx hb dX8_reach_173 hl (k := 0) rfl (nI_1 _) (by decide) rfl (fun ls hl => ?_)
                              refine lv_goto (tgt := 144) hx hb dX8_reach_176 (by decide) ?_
                              refine ih_144 (k144 + 1) (s_X8_runAll k (nI k144) (nI k76) σ144) _ _ _ (by omega) (by omega) (mi_of hM144 (by rw [fs_X8_runAll (by decide) (by decide) (by decide)]) (by rw [fs_X8_runAll (by decide) (by decide) (by decide)]) (by rw [fs_X8_runAll (by decide) (by decide) (by decide)]) (by rw [fs_X8_runAll (by decide) (by decide) (by decide)]) (by rw [fr_X8_runAll (by decide) (by decide)]) (by rw [fr_X8_runAll (by decide) (by decide)]) (by rw [fr_X8_runAll (by decide) (by decide)]) (by rw [fr_X8_runAll (by decide) (by decide)]) (by rw [fr_X8_runAll (by decide) (by decide)]) (by rw [fr_X8_runAll (by decide) (by decide)]) (by rw [fr_X8_runAll (by decide) (by decide)]) (by rw [fr_X8_runAll (by decide) (by decide)]) (by rw [fr_X8_runAll (by decide) (by decide)]) (by rw [fr_X8_runAll (by decide) (by decide)]) (by rw [fr_X8_runAll (by decide) (by decide)]) (by rw [fr_X8_runAll (by decide) (by decide)])) hW hS (lv_sub hl [0, 1, 2, 3, 4, 5] rfl) ?_
                              rw [hO, f_X8_reach_L144, if_neg c_5, if_pos c_6]
                      refine h_144 193 0 σ76 _ _ _ (by omega) (by omega) hM76 hW hS (lv_sub hl [0, 1, 2, 3, 4, 5] rfl) ?_
                      rw [hO, f_X8_reach_L85, if_pos c_4, fl0]
                    · have hi_c_4 : k85 < 192 := idx_lt c_4 (by decide) (by decide) (by omega)
                      refine lv_aload_n hx hb dX8_reach_93 rfl (lv_at hl 2 rfl) ?_
                      refine gf_X8_123 hC hW m_8 rfl dX8_reach_94 ?_
                      refine lv_iload hx hb dX8_reach_97 (lv_at hl 0 rfl) ?_
                      refine w_iald hC hW m_77 (n := 192) rfl (vp_in_nI (by omega) (by omega)) dX8_reach_99 ?_
                      refine lv_eqi (y := σ76 77 0 k85) (by rw [nI_clamp (by omega)]) ?_
                      refine lv_iload hx hb dX8_reach_100 (lv_at hl 1 rfl) ?_
                      refine lv_icmp_ne (tgt := 135) hx hb dX8_reach_102 (by decide) (fun c_7 => ?_) (fun c_7 => ?_)
                      · refine lv_iinc (v := nI (k85 + 1)) (lv' := [(5, .int (nI (k85 + 1))), (4, .int (nI k76)), (0, .ref (ad 8 0)), (1, .int k), (2, .int t), (3, .int r)]) hx hb dX8_reach_135 hl (k := 0) rfl (nI_1 _) (by decide) rfl (fun ls hl => ?_)
                        refine lv_goto (tgt := 85) hx hb dX8_reach_138 (by decide) ?_
                        refine ih_85 (k85 + 1) _ _ _ (by omega) (by omega)  hW hS (lv_sub hl [0, 1, 2, 3, 4, 5] rfl) ?_
                        rw [hO, f_X8_reach_L85, if_neg c_4, if_neg c_7]
                      · refine lv_aload_n hx hb dX8_reach_105 rfl (lv_at hl 2 rfl) ?_
                        refine lv_iload hx hb dX8_reach_106 (lv_at hl 0 rfl) ?_
                        refine lv_bipush (v := 32) hx hb dX8_reach_108 (by decide) ?_
                        refine lv_idiv hx hb dX8_reach_110 (by decide) ?_
                        refine lv_iload hx hb dX8_reach_111 (lv_at hl 0 rfl) ?_
                        refine lv_bipush (v := 8) hx hb dX8_reach_113 (by decide) ?_
                        refine lv_idiv hx hb dX8_reach_115 (by decide) ?_
                        refine lv_iconst (v := 4) hx hb dX8_reach_116 (by decide) ?_
                        refine lv_irem hx hb dX8_reach_117 (by decide) ?_
                        refine lv_iload_n hx hb dX8_reach_118 rfl (lv_at hl 3 rfl) ?_
                        refine lv_iload hx hb dX8_reach_119 (lv_at hl 0 rfl) ?_
                        refine lv_bipush (v := 8) hx hb dX8_reach_121 (by decide) ?_
                        refine lv_irem hx hb dX8_reach_123 (by decide) ?_
                        refine lv_iload_n hx hb dX8_reach_124 rfl (lv_at hl 4 rfl) ?_
                        refine lv_iload_n hx hb dX8_reach_125 rfl (lv_at hl 5 rfl) ?_
                        refine w_callV (As := [.int ((nI k85) / (32 : Int32)), .int (((nI k85) / (8 : Int32)) - ((nI k85) / (8 : Int32)) / (4 : Int32) * (4 : Int32)), .int k, .int ((nI k85) - (nI k85) / (8 : Int32) * (8 : Int32)), .int t, .int r]) (rest := []) (st2 := .int (f_X8_verdictOf ((nI k85) / (32 : Int32)) (((nI k85) / (8 : Int32)) - ((nI k85) / (8 : Int32)) / (4 : Int32) * (4 : Int32)) k ((nI k85) - (nI k85) / (8 : Int32) * (8 : Int32)) t r σ76) :: []) hC hW hS hl cv_X8_190 m_8 (by decide) rfl (c_X8_verdictOf l hl9 D ca base ad σ76 ((nI k85) / (32 : Int32)) (((nI k85) / (8 : Int32)) - ((nI k85) / (8 : Int32)) / (4 : Int32) * (4 : Int32)) k ((nI k85) - (nI k85) / (8 : Int32) * (8 : Int32)) t r hM76 ht hk (x84_in (vp_in_nI (by omega) (by omega)))) rfl rfl rfl ⟨Nat.le_of_ble_eq_true rfl, Nat.le_of_ble_eq_true rfl⟩ (Nat.le_of_ble_eq_true rfl) dX8_reach_126 ⟨Nat.le_of_ble_eq_true rfl, Nat.le_of_ble_eq_true rfl⟩ (fun H locs hW hS => ?_)
                        refine lv_if_ne (tgt := 135) hx hb dX8_reach_129 (by decide) (fun c_8 => ?_) (fun c_8 => ?_)
                        · refine lv_iinc (v := nI (k85 + 1)) (lv' := [(5, .int (nI (k85 + 1))), (4, .int (nI k76)), (0, .ref (ad 8 0)), (1, .int k), (2, .int t), (3, .int r)]) hx hb dX8_reach_135 hl (k := 0) rfl (nI_1 _) (by decide) rfl (fun ls hl => ?_)
                          refine lv_goto (tgt := 85) hx hb dX8_reach_138 (by decide) ?_
                          refine ih_85 (k85 + 1) _ _ _ (by omega) (by omega)  hW hS (lv_sub hl [0, 1, 2, 3, 4, 5] rfl) ?_
                          rw [hO, f_X8_reach_L85, if_neg c_4, if_pos c_7, if_neg c_8]
                        · refine lv_iload hx hb dX8_reach_132 (lv_at hl 1 rfl) ?_
                          have hO : f_X8_reach k t r σ = (nI k76, σ76) := by rw [hO, f_X8_reach_L85, if_neg c_4, if_pos c_7, if_pos c_8, fl1]
                          exact w_iretS hC hW hS hO (Nat.le_of_ble_eq_true rfl) (Nat.le_of_ble_eq_true rfl) dX8_reach_134
                refine h_85 193 0 _ _ _ (by omega) (by omega)  hW hS (lv_sub hl [0, 1, 2, 3, 4, 5] rfl) ?_
                rw [hO, f_X8_reach_L76, if_neg c_3]
          refine h_76 5 0 (us σ19 77 0 (((((32 : Int32) * (σ19 49 0 k.toNatClampNeg)) + ((8 : Int32) * (σ19 50 0 k.toNatClampNeg))) + (σ19 53 0 k.toNatClampNeg)).toNatClampNeg) 0) _ _ _ (by omega) (by omega) (mi_of hM19 (by rw [us_k (by decide)]) (by rw [us_k (by decide)]) (by rw [us_k (by decide)]) (by rw [us_k (by decide)]) (by rw [us_kk (by decide)]) (by rw [us_kk (by decide)]) (by rw [us_kk (by decide)]) (by rw [us_kk (by decide)]) (by rw [us_kk (by decide)]) (by rw [us_kk (by decide)]) (by rw [us_kk (by decide)]) (by rw [us_kk (by decide)]) (by rw [us_kk (by decide)]) (by rw [us_kk (by decide)]) (by rw [us_kk (by decide)]) (by rw [us_kk (by decide)])) hW hS (lv_sub hl [0, 1, 2, 3, 4] rfl) ?_
          rw [hO, f_X8_reach_L19, if_pos c_2, f_X8_reach_K19]
        · have hi_c_2 : k19 < 192 := idx_lt c_2 (by decide) (by decide) (by omega)
          refine lv_aload_n hx hb dX8_reach_27 rfl (lv_at hl 1 rfl) ?_
          refine gf_X8_123 hC hW m_8 rfl dX8_reach_28 ?_
          refine lv_iload hx hb dX8_reach_31 (lv_at hl 0 rfl) ?_
          refine lv_iconst (v := (-1)) hx hb dX8_reach_33 (by decide) ?_
          refine w_iast hC hW hS m_77 (n := 192) (fun _ => rfl) (vp_in_nI (by omega) (by omega)) dX8_reach_34 (fun H locs hW hS => ?_)
          rw [nI_clamp (by omega)] at hW
          refine lv_iinc (v := nI (k19 + 1)) (lv' := [(4, .int (nI (k19 + 1))), (0, .ref (ad 8 0)), (1, .int k), (2, .int t), (3, .int r)]) hx hb dX8_reach_35 hl (k := 0) rfl (nI_1 _) (by decide) rfl (fun ls hl => ?_)
          refine lv_goto (tgt := 19) hx hb dX8_reach_38 (by decide) ?_
          refine ih_19 (k19 + 1) (us σ19 77 0 k19 (-1)) _ _ _ (by omega) (by omega) (mi_of hM19 (by rw [us_k (by decide)]) (by rw [us_k (by decide)]) (by rw [us_k (by decide)]) (by rw [us_k (by decide)]) (by rw [us_kk (by decide)]) (by rw [us_kk (by decide)]) (by rw [us_kk (by decide)]) (by rw [us_kk (by decide)]) (by rw [us_kk (by decide)]) (by rw [us_kk (by decide)]) (by rw [us_kk (by decide)]) (by rw [us_kk (by decide)]) (by rw [us_kk (by decide)]) (by rw [us_kk (by decide)]) (by rw [us_kk (by decide)]) (by rw [us_kk (by decide)])) hW hS (lv_sub hl [0, 1, 2, 3, 4] rfl) ?_
          rw [hO, f_X8_reach_L19, if_neg c_2]
    refine h_19 193 0 (us σ 8 0 0 (f_X8_whyNoVerdict k t r σ)) _ _ _ (by omega) (by omega) (mi_of hM (by rw [us_j (by decide)]) (by rw [us_j (by decide)]) (by rw [us_j (by decide)]) (by rw [us_j (by decide)]) (by rw [us_kk (by decide)]) (by rw [us_kk (by decide)]) (by rw [us_kk (by decide)]) (by rw [us_kk (by decide)]) (by rw [us_kk (by decide)]) (by rw [us_kk (by decide)]) (by rw [us_kk (by decide)]) (by rw [us_kk (by decide)]) (by rw [us_kk (by decide)]) (by rw [us_kk (by decide)]) (by rw [us_kk (by decide)]) (by rw [us_kk (by decide)])) hW hS (lv_sub hl [0, 1, 2, 3, 4] rfl) ?_
    rw [f_X8_reach, if_pos c_1]
  · refine lv_iconst (v := 0) hx hb dX8_reach_14 (by decide) ?_
    have hO : f_X8_reach k t r σ = (0, us σ 8 0 0 (f_X8_whyNoVerdict k t r σ)) := by rw [f_X8_reach, if_neg c_1]
    exact w_iretS hC hW hS hO (Nat.le_of_ble_eq_true rfl) (Nat.le_of_ble_eq_true rfl) dX8_reach_15
theorem fr_f_X8_reach_L144 {kk : Nat}  (k : Int32) (t : Int32) (r : Int32) (k76 : Nat) (h8 : kk ≠ 8) (h77 : kk ≠ 77) : ∀ (y0 : Nat) (y1 : Nat) (σ : Sg), (f_X8_reach_L144 k t r k76 y0 y1 σ) kk = σ kk := by
  intro y0
  induction y0 with
  | zero => intros; rfl
  | succ n ih =>
    intros
    rw [f_X8_reach_L144]
    repeat' split
    all_goals (first | (simp only [ih, us_kk, ne_eq, not_false_eq_true, h8, h77, fr_X8_runAll]; done) | with_reducible rfl | (simp only [ih, us_kk, ne_eq, not_false_eq_true, h8, h77, fr_X8_runAll]; with_reducible rfl))
theorem fr_f_X8_reach_L76 {kk : Nat}  (k : Int32) (t : Int32) (r : Int32) (h8 : kk ≠ 8) (h77 : kk ≠ 77) : ∀ (y0 : Nat) (y1 : Nat) (σ : Sg), (f_X8_reach_L76 k t r y0 y1 σ).2 kk = σ kk := by
  intro y0
  induction y0 with
  | zero => intros; rfl
  | succ n ih =>
    intros
    rw [f_X8_reach_L76]
    repeat' split
    all_goals (first | (simp only [ih, us_kk, ne_eq, not_false_eq_true, h8, h77, fr_f_X8_reach_L144, fr_X8_runAll]; done) | with_reducible rfl | (simp only [ih, us_kk, ne_eq, not_false_eq_true, h8, h77, fr_f_X8_reach_L144, fr_X8_runAll]; with_reducible rfl))
theorem fr_f_X8_reach_K19 {kk : Nat}  (k : Int32) (t : Int32) (r : Int32) (τ19 : Sg) (h8 : kk ≠ 8) (h77 : kk ≠ 77) : (f_X8_reach_K19 k t r τ19).2 kk = τ19 kk := by
  rw [f_X8_reach_K19]
  repeat' split
  all_goals (first | (simp only [us_kk, ne_eq, not_false_eq_true, h8, h77, fr_f_X8_reach_L144, fr_f_X8_reach_L76, fr_X8_runAll]; done) | with_reducible rfl | (simp only [us_kk, ne_eq, not_false_eq_true, h8, h77, fr_f_X8_reach_L144, fr_f_X8_reach_L76, fr_X8_runAll]; with_reducible rfl))
theorem fr_f_X8_reach_L19 {kk : Nat}  (k : Int32) (t : Int32) (r : Int32) (h8 : kk ≠ 8) (h77 : kk ≠ 77) : ∀ (y0 : Nat) (y1 : Nat) (σ : Sg), (f_X8_reach_L19 k t r y0 y1 σ) kk = σ kk := by
  intro y0
  induction y0 with
  | zero => intros; rfl
  | succ n ih =>
    intros
    rw [f_X8_reach_L19]
    repeat' split
    all_goals (first | (simp only [ih, us_kk, ne_eq, not_false_eq_true, h8, h77, fr_f_X8_reach_L144, fr_f_X8_reach_L76, fr_f_X8_reach_K19, fr_X8_runAll]; done) | with_reducible rfl | (simp only [ih, us_kk, ne_eq, not_false_eq_true, h8, h77, fr_f_X8_reach_L144, fr_f_X8_reach_L76, fr_f_X8_reach_K19, fr_X8_runAll]; with_reducible rfl))
theorem fr_X8_reach {kk : Nat}  {k : Int32} {t : Int32} {r : Int32} {σ : Sg} (h8 : kk ≠ 8) (h77 : kk ≠ 77) : (f_X8_reach k t r σ).2 kk = σ kk := by
  rw [f_X8_reach]
  repeat' split
  all_goals (first | (simp only [us_kk, ne_eq, not_false_eq_true, h8, h77, fr_f_X8_reach_L144, fr_f_X8_reach_L76, fr_f_X8_reach_K19, fr_f_X8_reach_L19, fr_X8_runAll]; done) | with_reducible rfl | (simp only [us_kk, ne_eq, not_false_eq_true, h8, h77, fr_f_X8_reach_L144, fr_f_X8_reach_L76, fr_f_X8_reach_K19, fr_f_X8_reach_L19, fr_X8_runAll]; with_reducible rfl))
theorem fs_f_X8_reach_L144 {jj : Nat}  (k : Int32) (t : Int32) (r : Int32) (k76 : Nat) (h0 : jj ≠ 0) (h44 : jj ≠ 44) (h45 : jj ≠ 45) (h46 : jj ≠ 46) : ∀ (y0 : Nat) (y1 : Nat) (σ : Sg), (f_X8_reach_L144 k t r k76 y0 y1 σ) 8 0 jj = σ 8 0 jj := by
  intro y0
  induction y0 with
  | zero => intros; rfl
  | succ n ih =>
    intros
    rw [f_X8_reach_L144]
    repeat' split
    all_goals (first | with_reducible rfl | (simp [ih, us_k, us_j, ne_eq, not_false_eq_true, h0, h44, h45, h46, fs_X8_runAll]; done))
theorem fs_f_X8_reach_L76 {jj : Nat}  (k : Int32) (t : Int32) (r : Int32) (h0 : jj ≠ 0) (h44 : jj ≠ 44) (h45 : jj ≠ 45) (h46 : jj ≠ 46) : ∀ (y0 : Nat) (y1 : Nat) (σ : Sg), (f_X8_reach_L76 k t r y0 y1 σ).2 8 0 jj = σ 8 0 jj := by
  intro y0
  induction y0 with
  | zero => intros; rfl
  | succ n ih =>
    intros
    rw [f_X8_reach_L76]
    repeat' split
    all_goals (first | with_reducible rfl | (simp [ih, us_k, us_j, ne_eq, not_false_eq_true, h0, h44, h45, h46, fs_f_X8_reach_L144, fs_X8_runAll]; done))
theorem fs_f_X8_reach_K19 {jj : Nat}  (k : Int32) (t : Int32) (r : Int32) (τ19 : Sg) (h0 : jj ≠ 0) (h44 : jj ≠ 44) (h45 : jj ≠ 45) (h46 : jj ≠ 46) : (f_X8_reach_K19 k t r τ19).2 8 0 jj = τ19 8 0 jj := by
  rw [f_X8_reach_K19]
  repeat' split
  all_goals (first | with_reducible rfl | (simp [us_k, us_j, ne_eq, not_false_eq_true, h0, h44, h45, h46, fs_f_X8_reach_L144, fs_f_X8_reach_L76, fs_X8_runAll]; done))
theorem fs_f_X8_reach_L19 {jj : Nat}  (k : Int32) (t : Int32) (r : Int32) (h0 : jj ≠ 0) (h44 : jj ≠ 44) (h45 : jj ≠ 45) (h46 : jj ≠ 46) : ∀ (y0 : Nat) (y1 : Nat) (σ : Sg), (f_X8_reach_L19 k t r y0 y1 σ) 8 0 jj = σ 8 0 jj := by
  intro y0
  induction y0 with
  | zero => intros; rfl
  | succ n ih =>
    intros
    rw [f_X8_reach_L19]
    repeat' split
    all_goals (first | with_reducible rfl | (simp [ih, us_k, us_j, ne_eq, not_false_eq_true, h0, h44, h45, h46, fs_f_X8_reach_L144, fs_f_X8_reach_L76, fs_f_X8_reach_K19, fs_X8_runAll]; done))
theorem fs_X8_reach {jj : Nat}  {k : Int32} {t : Int32} {r : Int32} {σ : Sg} (h0 : jj ≠ 0) (h44 : jj ≠ 44) (h45 : jj ≠ 45) (h46 : jj ≠ 46) : (f_X8_reach k t r σ).2 8 0 jj = σ 8 0 jj := by
  rw [f_X8_reach]
  repeat' split
  all_goals (first | with_reducible rfl | (simp [us_k, us_j, ne_eq, not_false_eq_true, h0, h44, h45, h46, fs_f_X8_reach_L144, fs_f_X8_reach_L76, fs_f_X8_reach_K19, fs_f_X8_reach_L19, fs_X8_runAll]; done))

def f_X8_reachAnew (k : Int32) (t : Int32) (r : Int32) (σ : Sg) : Int32 × Sg :=
  ((f_X8_reach k t r σ).1, (f_X8_reach k t r σ).2)
set_option maxHeartbeats 4000000 in
set_option maxRecDepth 100000 in
theorem c_X8_reachAnew (l : Launch) (hl9 : l.stackTraces = false) (D : va_G) (ca : Nat → ClassId) (base : Nat) (ad : Adr) (σ : Sg) (k : Int32) (t : Int32) (r : Int32) (hM : MInv σ) : Mt l yX8_reachAnew cX8_reachAnew 4 (some .int) { frames := 8, cells := 0, slots := 0, locals := 199 } D ca base ad ρm Lm [.ref (ad 8 0), .int k, .int t, .int r] σ (some (.int (f_X8_reachAnew k t r σ).1)) (f_X8_reachAnew k t r σ).2 := by
  refine w_ofW (by decide) (Nat.le_of_ble_eq_true rfl) rfl ?_
  intro p e s m args below meth c hC hW hS ls hl hin
  have hx := hC.1
  have hb := hC.2.1
  refine lv_aload_n hx hb dX8_reachAnew_0 rfl (lv_at hl 0 rfl) ?_
  refine lv_iload_n hx hb dX8_reachAnew_1 rfl (lv_at hl 1 rfl) ?_
  refine lv_iload_n hx hb dX8_reachAnew_2 rfl (lv_at hl 2 rfl) ?_
  refine lv_iload_n hx hb dX8_reachAnew_3 rfl (lv_at hl 3 rfl) ?_
  refine w_callV (As := [.int k, .int t, .int r]) (rest := []) (st2 := .int ((f_X8_reach k t r σ).1) :: []) hC hW hS hl cv_X8_252 m_8 (by decide) rfl (c_X8_reach l hl9 D ca base ad σ k t r hM) rfl rfl rfl ⟨Nat.le_of_ble_eq_true rfl, Nat.le_of_ble_eq_true rfl⟩ (Nat.le_of_ble_eq_true rfl) dX8_reachAnew_4 ⟨Nat.le_of_ble_eq_true rfl, Nat.le_of_ble_eq_true rfl⟩ (fun H locs hW hS => ?_)
  have hO : f_X8_reachAnew k t r σ = ((f_X8_reach k t r σ).1, (f_X8_reach k t r σ).2) := by rw [f_X8_reachAnew]
  exact w_iretS hC hW hS hO (Nat.le_of_ble_eq_true rfl) (Nat.le_of_ble_eq_true rfl) dX8_reachAnew_7
theorem fr_X8_reachAnew {kk : Nat}  {k : Int32} {t : Int32} {r : Int32} {σ : Sg} (h8 : kk ≠ 8) (h77 : kk ≠ 77) : (f_X8_reachAnew k t r σ).2 kk = σ kk := by
  rw [f_X8_reachAnew]
  repeat' split
  all_goals (first | (simp only [us_kk, ne_eq, not_false_eq_true, h8, h77, fr_X8_reach]; done) | with_reducible rfl | (simp only [us_kk, ne_eq, not_false_eq_true, h8, h77, fr_X8_reach]; with_reducible rfl))
theorem fs_X8_reachAnew {jj : Nat}  {k : Int32} {t : Int32} {r : Int32} {σ : Sg} (h0 : jj ≠ 0) (h44 : jj ≠ 44) (h45 : jj ≠ 45) (h46 : jj ≠ 46) : (f_X8_reachAnew k t r σ).2 8 0 jj = σ 8 0 jj := by
  rw [f_X8_reachAnew]
  repeat' split
  all_goals (first | with_reducible rfl | (simp [us_k, us_j, ne_eq, not_false_eq_true, h0, h44, h45, h46, fs_X8_reach]; done))
