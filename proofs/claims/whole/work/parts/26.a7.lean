theorem li_fr {σ σ' : Sg} (h : LogInv σ) (e : σ' 1 = σ 1) : LogInv σ' := by
  unfold LogInv at h ⊢
  rw [e]
  exact h
theorem b_isTold {g b x : Int32} {σ : Sg} : f_X2_isTold g b x σ &&& 1 = f_X2_isTold g b x σ := by
  unfold f_X2_isTold
  repeat' split
  all_goals decide
theorem b_still_L {k : Int32} : ∀ (n i : Nat) (v : Int32) (σ : Sg), f_X7_isThereStill_L4 k n i v σ &&& 1 = f_X7_isThereStill_L4 k n i v σ := by
  intro n
  induction n with
  | zero => intro i v σ; rw [f_X7_isThereStill_L4]; decide
  | succ n ih =>
    intro i v σ
    rw [f_X7_isThereStill_L4]
    repeat' split
    all_goals first | exact ih _ _ _ | decide
theorem b_still {k : Int32} {σ : Sg} : f_X7_isThereStill k σ &&& 1 = f_X7_isThereStill k σ := by
  unfold f_X7_isThereStill
  exact b_still_L _ _ _ _
theorem sw6 {x : Int32} (h0 : ¬ x = 0) (h1 : ¬ x = 1) (h2 : ¬ x = 2) (h3 : ¬ x = 3) (h4 : ¬ x = 4) (h5 : ¬ x = 5) : x.toInt < 0 ∨ 5 < x.toInt := by
  have e : ∀ k : Int32, x.toInt = k.toInt → x = k := fun k h => Int32.toInt_inj.mp h
  have q0 : x.toInt ≠ 0 := fun h => h0 (e 0 h)
  have q1 : x.toInt ≠ 1 := fun h => h1 (e 1 h)
  have q2 : x.toInt ≠ 2 := fun h => h2 (e 2 h)
  have q3 : x.toInt ≠ 3 := fun h => h3 (e 3 h)
  have q4 : x.toInt ≠ 4 := fun h => h4 (e 4 h)
  have q5 : x.toInt ≠ 5 := fun h => h5 (e 5 h)
  omega
def m_X7_member (g : Int32) (b : Int32) (x : Int32) (is : Int32) (σ : Sg) : Option String × Int32 × Sg :=
  nd (e_X7_needPlace g 6) (if b = 0 then nd (e_X7_needPlace x 6) (if is = 0 then (none, f_X2_isTold g b x σ, s_X2_tell g b x is σ)
    else if b = 0 then (none, f_X2_isTold g b x σ, s_X2_tell g b x is σ)
    else if (f_X2_isWithin g x σ) = 0 then (none, f_X2_isTold g b x σ, s_X2_tell g b x is σ)
    else (some "java/lang/IllegalStateException", 0, σ))
  else nd (e_X7_needPlace x 6) (if is = 0 then (none, f_X2_isTold g b x σ, s_X2_tell g b x is σ)
  else if b = 0 then (none, f_X2_isTold g b x σ, s_X2_tell g b x is σ)
  else if (f_X2_isWithin g x σ) = 0 then (none, f_X2_isTold g b x σ, s_X2_tell g b x is σ)
  else (some "java/lang/IllegalStateException", 0, σ)))
set_option maxHeartbeats 4000000 in
set_option maxRecDepth 100000 in
theorem c_X7_member (l : Launch) (hl9 : l.stackTraces = false) (D : va_G) (ca : Nat → ClassId) (base : Nat) (ad : Adr) (σ : Sg) (g : Int32) (b : Int32) (x : Int32) (is : Int32) (hI : CInv σ) : Mx l yX7_member cX7_member 6 (some .boolean) { frames := 7, cells := 4, slots := 24, locals := 121 } D ca base ad ρm Lm [.ref (ad 7 0), .int g, .int b, .int x, .int is] σ (m_X7_member g b x is σ).1 (some (.int (m_X7_member g b x is σ).2.1)) (m_X7_member g b x is σ).2.2 := by
  refine w_ofX (by decide) (Nat.le_of_ble_eq_true rfl) rfl ?_
  intro p e s m args below meth c hC hW hS hout ls hl
  have hx := hC.1
  have hb := hC.2.1
  refine lv_iload_n hx hb dX7_member_0 rfl (lv_at hl 1 rfl) ?_
  refine lv_bipush (v := 6) hx hb dX7_member_1 (by decide) ?_
  refine w_callSX (As := [.int g, .int 6]) (rest := []) (st2 := []) hC hW hS hl cs_X7_76 (c_X7_needPlace l hl9 D ca base ad σ g 6 ) rfl rfl rfl ⟨Nat.le_of_ble_eq_true rfl, Nat.le_of_ble_eq_true rfl⟩ (Nat.le_of_ble_eq_true rfl) dX7_member_3 ⟨Nat.le_of_ble_eq_true rfl, Nat.le_of_ble_eq_true rfl⟩ (fun E ce q9 H locs e_1 hW hS hce hcv hcl => ?_) (fun e_1 H locs hW hS => ?_)
  · have hO : (m_X7_member g b x is σ).1 = some E := by rw [m_X7_member, e_1, nd_some]
    exact w_out hC hW hS hout hO hce hcv hcl (Nat.le_of_ble_eq_true rfl) (Nat.le_of_ble_eq_true rfl)
  refine lv_iload_n hx hb dX7_member_6 rfl (lv_at hl 3 rfl) ?_
  refine lv_iload_n hx hb dX7_member_7 rfl (lv_at hl 2 rfl) ?_
  refine lv_if_eq (tgt := 16) hx hb dX7_member_8 (by decide) (fun c_2 => ?_) (fun c_2 => ?_)
  · refine lv_bipush (v := 6) hx hb dX7_member_16 (by decide) ?_
    refine w_callSX (As := [.int x, .int 6]) (rest := []) (st2 := []) hC hW hS hl cs_X7_76 (c_X7_needPlace l hl9 D ca base ad σ x 6 ) rfl rfl rfl ⟨Nat.le_of_ble_eq_true rfl, Nat.le_of_ble_eq_true rfl⟩ (Nat.le_of_ble_eq_true rfl) dX7_member_18 ⟨Nat.le_of_ble_eq_true rfl, Nat.le_of_ble_eq_true rfl⟩ (fun E ce q9 H locs e_3 hW hS hce hcv hcl => ?_) (fun e_3 H locs hW hS => ?_)
    · have hO : (m_X7_member g b x is σ).1 = some E := by rw [m_X7_member, e_1, nd_none, if_pos c_2, e_3, nd_some]
      exact w_out hC hW hS hout hO hce hcv hcl (Nat.le_of_ble_eq_true rfl) (Nat.le_of_ble_eq_true rfl)
    refine lv_iload hx hb dX7_member_21 (lv_at hl 4 rfl) ?_
    refine lv_if_eq (tgt := 52) hx hb dX7_member_23 (by decide) (fun c_4 => ?_) (fun c_4 => ?_)
    · refine lv_aload_n hx hb dX7_member_52 rfl (lv_at hl 0 rfl) ?_
      refine gf_X7_12 hC hW m_7 rfl dX7_member_53 ?_
      refine lv_iload_n hx hb dX7_member_56 rfl (lv_at hl 1 rfl) ?_
      refine lv_iload_n hx hb dX7_member_57 rfl (lv_at hl 2 rfl) ?_
      refine lv_iload_n hx hb dX7_member_58 rfl (lv_at hl 3 rfl) ?_
      refine w_callV (As := [.int g, .int b, .int x]) (rest := []) (st2 := .int (f_X2_isTold g b x σ) :: []) hC hW hS hl cv_X7_91 m_2 (by decide) rfl (c_X2_isTold l hl9 D ca base ad σ g b x ) rfl rfl rfl ⟨Nat.le_of_ble_eq_true rfl, Nat.le_of_ble_eq_true rfl⟩ (Nat.le_of_ble_eq_true rfl) dX7_member_59 ⟨Nat.le_of_ble_eq_true rfl, Nat.le_of_ble_eq_true rfl⟩ (fun H locs hW hS => ?_)
      refine lv_istore (lv' := [(5, .int (f_X2_isTold g b x σ)), (0, .ref (ad 7 0)), (1, .int g), (2, .int b), (3, .int x), (4, .int is)]) hx hb dX7_member_62 hl (by decide) rfl (fun ls hl => ?_)
      refine lv_aload_n hx hb dX7_member_64 rfl (lv_at hl 1 rfl) ?_
      refine gf_X7_12 hC hW m_7 rfl dX7_member_65 ?_
      refine lv_iload_n hx hb dX7_member_68 rfl (lv_at hl 2 rfl) ?_
      refine lv_iload_n hx hb dX7_member_69 rfl (lv_at hl 3 rfl) ?_
      refine lv_iload_n hx hb dX7_member_70 rfl (lv_at hl 4 rfl) ?_
      refine lv_iload hx hb dX7_member_71 (lv_at hl 5 rfl) ?_
      refine w_callV (As := [.int g, .int b, .int x, .int is]) (rest := []) (st2 := []) hC hW hS hl cv_X7_95 m_2 (by decide) rfl (c_X2_tell l hl9 D ca base ad σ g b x is ) rfl rfl rfl ⟨Nat.le_of_ble_eq_true rfl, Nat.le_of_ble_eq_true rfl⟩ (Nat.le_of_ble_eq_true rfl) dX7_member_73 ⟨Nat.le_of_ble_eq_true rfl, Nat.le_of_ble_eq_true rfl⟩ (fun H locs hW hS => ?_)
      refine lv_iload hx hb dX7_member_76 (lv_at hl 0 rfl) ?_
      have hO : m_X7_member g b x is σ = (none, f_X2_isTold g b x σ, s_X2_tell g b x is σ) := by rw [m_X7_member, e_1, nd_none, if_pos c_2, e_3, nd_none, if_pos c_4]
      exact w_zretZ hC hW hS b_isTold hO (Nat.le_of_ble_eq_true rfl) (Nat.le_of_ble_eq_true rfl) dX7_member_78
    · refine lv_iload_n hx hb dX7_member_26 rfl (lv_at hl 2 rfl) ?_
      refine lv_if_eq (tgt := 52) hx hb dX7_member_27 (by decide) (fun c_5 => ?_) (fun c_5 => ?_)
      · refine lv_aload_n hx hb dX7_member_52 rfl (lv_at hl 0 rfl) ?_
        refine gf_X7_12 hC hW m_7 rfl dX7_member_53 ?_
        refine lv_iload_n hx hb dX7_member_56 rfl (lv_at hl 1 rfl) ?_
        refine lv_iload_n hx hb dX7_member_57 rfl (lv_at hl 2 rfl) ?_
        refine lv_iload_n hx hb dX7_member_58 rfl (lv_at hl 3 rfl) ?_
        refine w_callV (As := [.int g, .int b, .int x]) (rest := []) (st2 := .int (f_X2_isTold g b x σ) :: []) hC hW hS hl cv_X7_91 m_2 (by decide) rfl (c_X2_isTold l hl9 D ca base ad σ g b x ) rfl rfl rfl ⟨Nat.le_of_ble_eq_true rfl, Nat.le_of_ble_eq_true rfl⟩ (Nat.le_of_ble_eq_true rfl) dX7_member_59 ⟨Nat.le_of_ble_eq_true rfl, Nat.le_of_ble_eq_true rfl⟩ (fun H locs hW hS => ?_)
        refine lv_istore (lv' := [(5, .int (f_X2_isTold g b x σ)), (0, .ref (ad 7 0)), (1, .int g), (2, .int b), (3, .int x), (4, .int is)]) hx hb dX7_member_62 hl (by decide) rfl (fun ls hl => ?_)
        refine lv_aload_n hx hb dX7_member_64 rfl (lv_at hl 1 rfl) ?_
        refine gf_X7_12 hC hW m_7 rfl dX7_member_65 ?_
        refine lv_iload_n hx hb dX7_member_68 rfl (lv_at hl 2 rfl) ?_
        refine lv_iload_n hx hb dX7_member_69 rfl (lv_at hl 3 rfl) ?_
        refine lv_iload_n hx hb dX7_member_70 rfl (lv_at hl 4 rfl) ?_
        refine lv_iload hx hb dX7_member_71 (lv_at hl 5 rfl) ?_
        refine w_callV (As := [.int g, .int b, .int x, .int is]) (rest := []) (st2 := []) hC hW hS hl cv_X7_95 m_2 (by decide) rfl (c_X2_tell l hl9 D ca base ad σ g b x is ) rfl rfl rfl ⟨Nat.le_of_ble_eq_true rfl, Nat.le_of_ble_eq_true rfl⟩ (Nat.le_of_ble_eq_true rfl) dX7_member_73 ⟨Nat.le_of_ble_eq_true rfl, Nat.le_of_ble_eq_true rfl⟩ (fun H locs hW hS => ?_)
        refine lv_iload hx hb dX7_member_76 (lv_at hl 0 rfl) ?_
        have hO : m_X7_member g b x is σ = (none, f_X2_isTold g b x σ, s_X2_tell g b x is σ) := by rw [m_X7_member, e_1, nd_none, if_pos c_2, e_3, nd_none, if_neg c_4, if_pos c_5]
        exact w_zretZ hC hW hS b_isTold hO (Nat.le_of_ble_eq_true rfl) (Nat.le_of_ble_eq_true rfl) dX7_member_78
      · refine lv_aload_n hx hb dX7_member_30 rfl (lv_at hl 0 rfl) ?_
        refine gf_X7_12 hC hW m_7 rfl dX7_member_31 ?_
        refine lv_iload_n hx hb dX7_member_34 rfl (lv_at hl 1 rfl) ?_
        refine lv_iload_n hx hb dX7_member_35 rfl (lv_at hl 3 rfl) ?_
        refine w_callV (As := [.int g, .int x]) (rest := []) (st2 := .int (f_X2_isWithin g x σ) :: []) hC hW hS hl cv_X7_80 m_2 (by decide) rfl (c_X2_isWithin l hl9 D ca base ad σ g x ) rfl rfl rfl ⟨Nat.le_of_ble_eq_true rfl, Nat.le_of_ble_eq_true rfl⟩ (Nat.le_of_ble_eq_true rfl) dX7_member_36 ⟨Nat.le_of_ble_eq_true rfl, Nat.le_of_ble_eq_true rfl⟩ (fun H locs hW hS => ?_)
        refine lv_if_eq (tgt := 52) hx hb dX7_member_39 (by decide) (fun c_6 => ?_) (fun c_6 => ?_)
        · refine lv_aload_n hx hb dX7_member_52 rfl (lv_at hl 0 rfl) ?_
          refine gf_X7_12 hC hW m_7 rfl dX7_member_53 ?_
          refine lv_iload_n hx hb dX7_member_56 rfl (lv_at hl 1 rfl) ?_
          refine lv_iload_n hx hb dX7_member_57 rfl (lv_at hl 2 rfl) ?_
          refine lv_iload_n hx hb dX7_member_58 rfl (lv_at hl 3 rfl) ?_
          refine w_callV (As := [.int g, .int b, .int x]) (rest := []) (st2 := .int (f_X2_isTold g b x σ) :: []) hC hW hS hl cv_X7_91 m_2 (by decide) rfl (c_X2_isTold l hl9 D ca base ad σ g b x ) rfl rfl rfl ⟨Nat.le_of_ble_eq_true rfl, Nat.le_of_ble_eq_true rfl⟩ (Nat.le_of_ble_eq_true rfl) dX7_member_59 ⟨Nat.le_of_ble_eq_true rfl, Nat.le_of_ble_eq_true rfl⟩ (fun H locs hW hS => ?_)
          refine lv_istore (lv' := [(5, .int (f_X2_isTold g b x σ)), (0, .ref (ad 7 0)), (1, .int g), (2, .int b), (3, .int x), (4, .int is)]) hx hb dX7_member_62 hl (by decide) rfl (fun ls hl => ?_)
          refine lv_aload_n hx hb dX7_member_64 rfl (lv_at hl 1 rfl) ?_
          refine gf_X7_12 hC hW m_7 rfl dX7_member_65 ?_
          refine lv_iload_n hx hb dX7_member_68 rfl (lv_at hl 2 rfl) ?_
          refine lv_iload_n hx hb dX7_member_69 rfl (lv_at hl 3 rfl) ?_
          refine lv_iload_n hx hb dX7_member_70 rfl (lv_at hl 4 rfl) ?_
          refine lv_iload hx hb dX7_member_71 (lv_at hl 5 rfl) ?_
          refine w_callV (As := [.int g, .int b, .int x, .int is]) (rest := []) (st2 := []) hC hW hS hl cv_X7_95 m_2 (by decide) rfl (c_X2_tell l hl9 D ca base ad σ g b x is ) rfl rfl rfl ⟨Nat.le_of_ble_eq_true rfl, Nat.le_of_ble_eq_true rfl⟩ (Nat.le_of_ble_eq_true rfl) dX7_member_73 ⟨Nat.le_of_ble_eq_true rfl, Nat.le_of_ble_eq_true rfl⟩ (fun H locs hW hS => ?_)
          refine lv_iload hx hb dX7_member_76 (lv_at hl 0 rfl) ?_
          have hO : m_X7_member g b x is σ = (none, f_X2_isTold g b x σ, s_X2_tell g b x is σ) := by rw [m_X7_member, e_1, nd_none, if_pos c_2, e_3, nd_none, if_neg c_4, if_neg c_5, if_pos c_6]
          exact w_zretZ hC hW hS b_isTold hO (Nat.le_of_ble_eq_true rfl) (Nat.le_of_ble_eq_true rfl) dX7_member_78
        · have hO : m_X7_member g b x is σ = (some "java/lang/IllegalStateException", 0, σ) := by rw [m_X7_member, e_1, nd_none, if_pos c_2, e_3, nd_none, if_neg c_4, if_neg c_5, if_neg c_6]
          exact w_throw2 hl9 hC hW hS hout hl th_84_86_88 (by rw [hO]) dX7_member_42 dX7_member_45 dX7_member_46 dX7_member_48 dX7_member_51 (Nat.le_of_ble_eq_true rfl) (Nat.le_of_ble_eq_true rfl) (Nat.le_of_ble_eq_true rfl) (Nat.le_of_ble_eq_true rfl) (Nat.le_of_ble_eq_true rfl) (Nat.le_of_ble_eq_true rfl)
  · refine lv_bipush (v := 6) hx hb dX7_member_11 (by decide) ?_
    refine lv_goto (tgt := 18) hx hb dX7_member_13 (by decide) ?_
    refine w_callSX (As := [.int x, .int 6]) (rest := []) (st2 := []) hC hW hS hl cs_X7_76 (c_X7_needPlace l hl9 D ca base ad σ x 6 ) rfl rfl rfl ⟨Nat.le_of_ble_eq_true rfl, Nat.le_of_ble_eq_true rfl⟩ (Nat.le_of_ble_eq_true rfl) dX7_member_18 ⟨Nat.le_of_ble_eq_true rfl, Nat.le_of_ble_eq_true rfl⟩ (fun E ce q9 H locs e_7 hW hS hce hcv hcl => ?_) (fun e_7 H locs hW hS => ?_)
    · have hO : (m_X7_member g b x is σ).1 = some E := by rw [m_X7_member, e_1, nd_none, if_neg c_2, e_7, nd_some]
      exact w_out hC hW hS hout hO hce hcv hcl (Nat.le_of_ble_eq_true rfl) (Nat.le_of_ble_eq_true rfl)
    refine lv_iload hx hb dX7_member_21 (lv_at hl 4 rfl) ?_
    refine lv_if_eq (tgt := 52) hx hb dX7_member_23 (by decide) (fun c_8 => ?_) (fun c_8 => ?_)
    · refine lv_aload_n hx hb dX7_member_52 rfl (lv_at hl 0 rfl) ?_
      refine gf_X7_12 hC hW m_7 rfl dX7_member_53 ?_
      refine lv_iload_n hx hb dX7_member_56 rfl (lv_at hl 1 rfl) ?_
      refine lv_iload_n hx hb dX7_member_57 rfl (lv_at hl 2 rfl) ?_
      refine lv_iload_n hx hb dX7_member_58 rfl (lv_at hl 3 rfl) ?_
      refine w_callV (As := [.int g, .int b, .int x]) (rest := []) (st2 := .int (f_X2_isTold g b x σ) :: []) hC hW hS hl cv_X7_91 m_2 (by decide) rfl (c_X2_isTold l hl9 D ca base ad σ g b x ) rfl rfl rfl ⟨Nat.le_of_ble_eq_true rfl, Nat.le_of_ble_eq_true rfl⟩ (Nat.le_of_ble_eq_true rfl) dX7_member_59 ⟨Nat.le_of_ble_eq_true rfl, Nat.le_of_ble_eq_true rfl⟩ (fun H locs hW hS => ?_)
      refine lv_istore (lv' := [(5, .int (f_X2_isTold g b x σ)), (0, .ref (ad 7 0)), (1, .int g), (2, .int b), (3, .int x), (4, .int is)]) hx hb dX7_member_62 hl (by decide) rfl (fun ls hl => ?_)
      refine lv_aload_n hx hb dX7_member_64 rfl (lv_at hl 1 rfl) ?_
      refine gf_X7_12 hC hW m_7 rfl dX7_member_65 ?_
      refine lv_iload_n hx hb dX7_member_68 rfl (lv_at hl 2 rfl) ?_
      refine lv_iload_n hx hb dX7_member_69 rfl (lv_at hl 3 rfl) ?_
      refine lv_iload_n hx hb dX7_member_70 rfl (lv_at hl 4 rfl) ?_
      refine lv_iload hx hb dX7_member_71 (lv_at hl 5 rfl) ?_
      refine w_callV (As := [.int g, .int b, .int x, .int is]) (rest := []) (st2 := []) hC hW hS hl cv_X7_95 m_2 (by decide) rfl (c_X2_tell l hl9 D ca base ad σ g b x is ) rfl rfl rfl ⟨Nat.le_of_ble_eq_true rfl, Nat.le_of_ble_eq_true rfl⟩ (Nat.le_of_ble_eq_true rfl) dX7_member_73 ⟨Nat.le_of_ble_eq_true rfl, Nat.le_of_ble_eq_true rfl⟩ (fun H locs hW hS => ?_)
      refine lv_iload hx hb dX7_member_76 (lv_at hl 0 rfl) ?_
      have hO : m_X7_member g b x is σ = (none, f_X2_isTold g b x σ, s_X2_tell g b x is σ) := by rw [m_X7_member, e_1, nd_none, if_neg c_2, e_7, nd_none, if_pos c_8]
      exact w_zretZ hC hW hS b_isTold hO (Nat.le_of_ble_eq_true rfl) (Nat.le_of_ble_eq_true rfl) dX7_member_78
    · refine lv_iload_n hx hb dX7_member_26 rfl (lv_at hl 2 rfl) ?_
      refine lv_if_eq (tgt := 52) hx hb dX7_member_27 (by decide) (fun c_9 => ?_) (fun c_9 => ?_)
      · refine lv_aload_n hx hb dX7_member_52 rfl (lv_at hl 0 rfl) ?_
        refine gf_X7_12 hC hW m_7 rfl dX7_member_53 ?_
        refine lv_iload_n hx hb dX7_member_56 rfl (lv_at hl 1 rfl) ?_
        refine lv_iload_n hx hb dX7_member_57 rfl (lv_at hl 2 rfl) ?_
        refine lv_iload_n hx hb dX7_member_58 rfl (lv_at hl 3 rfl) ?_
        refine w_callV (As := [.int g, .int b, .int x]) (rest := []) (st2 := .int (f_X2_isTold g b x σ) :: []) hC hW hS hl cv_X7_91 m_2 (by decide) rfl (c_X2_isTold l hl9 D ca base ad σ g b x ) rfl rfl rfl ⟨Nat.le_of_ble_eq_true rfl, Nat.le_of_ble_eq_true rfl⟩ (Nat.le_of_ble_eq_true rfl) dX7_member_59 ⟨Nat.le_of_ble_eq_true rfl, Nat.le_of_ble_eq_true rfl⟩ (fun H locs hW hS => ?_)
        refine lv_istore (lv' := [(5, .int (f_X2_isTold g b x σ)), (0, .ref (ad 7 0)), (1, .int g), (2, .int b), (3, .int x), (4, .int is)]) hx hb dX7_member_62 hl (by decide) rfl (fun ls hl => ?_)
        refine lv_aload_n hx hb dX7_member_64 rfl (lv_at hl 1 rfl) ?_
        refine gf_X7_12 hC hW m_7 rfl dX7_member_65 ?_
        refine lv_iload_n hx hb dX7_member_68 rfl (lv_at hl 2 rfl) ?_
        refine lv_iload_n hx hb dX7_member_69 rfl (lv_at hl 3 rfl) ?_
        refine lv_iload_n hx hb dX7_member_70 rfl (lv_at hl 4 rfl) ?_
        refine lv_iload hx hb dX7_member_71 (lv_at hl 5 rfl) ?_
        refine w_callV (As := [.int g, .int b, .int x, .int is]) (rest := []) (st2 := []) hC hW hS hl cv_X7_95 m_2 (by decide) rfl (c_X2_tell l hl9 D ca base ad σ g b x is ) rfl rfl rfl ⟨Nat.le_of_ble_eq_true rfl, Nat.le_of_ble_eq_true rfl⟩ (Nat.le_of_ble_eq_true rfl) dX7_member_73 ⟨Nat.le_of_ble_eq_true rfl, Nat.le_of_ble_eq_true rfl⟩ (fun H locs hW hS => ?_)
        refine lv_iload hx hb dX7_member_76 (lv_at hl 0 rfl) ?_
        have hO : m_X7_member g b x is σ = (none, f_X2_isTold g b x σ, s_X2_tell g b x is σ) := by rw [m_X7_member, e_1, nd_none, if_neg c_2, e_7, nd_none, if_neg c_8, if_pos c_9]
        exact w_zretZ hC hW hS b_isTold hO (Nat.le_of_ble_eq_true rfl) (Nat.le_of_ble_eq_true rfl) dX7_member_78
      · refine lv_aload_n hx hb dX7_member_30 rfl (lv_at hl 0 rfl) ?_
        refine gf_X7_12 hC hW m_7 rfl dX7_member_31 ?_
        refine lv_iload_n hx hb dX7_member_34 rfl (lv_at hl 1 rfl) ?_
        refine lv_iload_n hx hb dX7_member_35 rfl (lv_at hl 3 rfl) ?_
        refine w_callV (As := [.int g, .int x]) (rest := []) (st2 := .int (f_X2_isWithin g x σ) :: []) hC hW hS hl cv_X7_80 m_2 (by decide) rfl (c_X2_isWithin l hl9 D ca base ad σ g x ) rfl rfl rfl ⟨Nat.le_of_ble_eq_true rfl, Nat.le_of_ble_eq_true rfl⟩ (Nat.le_of_ble_eq_true rfl) dX7_member_36 ⟨Nat.le_of_ble_eq_true rfl, Nat.le_of_ble_eq_true rfl⟩ (fun H locs hW hS => ?_)
        refine lv_if_eq (tgt := 52) hx hb dX7_member_39 (by decide) (fun c_10 => ?_) (fun c_10 => ?_)
        · refine lv_aload_n hx hb dX7_member_52 rfl (lv_at hl 0 rfl) ?_
          refine gf_X7_12 hC hW m_7 rfl dX7_member_53 ?_
          refine lv_iload_n hx hb dX7_member_56 rfl (lv_at hl 1 rfl) ?_
          refine lv_iload_n hx hb dX7_member_57 rfl (lv_at hl 2 rfl) ?_
          refine lv_iload_n hx hb dX7_member_58 rfl (lv_at hl 3 rfl) ?_
          refine w_callV (As := [.int g, .int b, .int x]) (rest := []) (st2 := .int (f_X2_isTold g b x σ) :: []) hC hW hS hl cv_X7_91 m_2 (by decide) rfl (c_X2_isTold l hl9 D ca base ad σ g b x ) rfl rfl rfl ⟨Nat.le_of_ble_eq_true rfl, Nat.le_of_ble_eq_true rfl⟩ (Nat.le_of_ble_eq_true rfl) dX7_member_59 ⟨Nat.le_of_ble_eq_true rfl, Nat.le_of_ble_eq_true rfl⟩ (fun H locs hW hS => ?_)
          refine lv_istore (lv' := [(5, .int (f_X2_isTold g b x σ)), (0, .ref (ad 7 0)), (1, .int g), (2, .int b), (3, .int x), (4, .int is)]) hx hb dX7_member_62 hl (by decide) rfl (fun ls hl => ?_)
          refine lv_aload_n hx hb dX7_member_64 rfl (lv_at hl 1 rfl) ?_
          refine gf_X7_12 hC hW m_7 rfl dX7_member_65 ?_
          refine lv_iload_n hx hb dX7_member_68 rfl (lv_at hl 2 rfl) ?_
          refine lv_iload_n hx hb dX7_member_69 rfl (lv_at hl 3 rfl) ?_
          refine lv_iload_n hx hb dX7_member_70 rfl (lv_at hl 4 rfl) ?_
          refine lv_iload hx hb dX7_member_71 (lv_at hl 5 rfl) ?_
          refine w_callV (As := [.int g, .int b, .int x, .int is]) (rest := []) (st2 := []) hC hW hS hl cv_X7_95 m_2 (by decide) rfl (c_X2_tell l hl9 D ca base ad σ g b x is ) rfl rfl rfl ⟨Nat.le_of_ble_eq_true rfl, Nat.le_of_ble_eq_true rfl⟩ (Nat.le_of_ble_eq_true rfl) dX7_member_73 ⟨Nat.le_of_ble_eq_true rfl, Nat.le_of_ble_eq_true rfl⟩ (fun H locs hW hS => ?_)
          refine lv_iload hx hb dX7_member_76 (lv_at hl 0 rfl) ?_
          have hO : m_X7_member g b x is σ = (none, f_X2_isTold g b x σ, s_X2_tell g b x is σ) := by rw [m_X7_member, e_1, nd_none, if_neg c_2, e_7, nd_none, if_neg c_8, if_neg c_9, if_pos c_10]
          exact w_zretZ hC hW hS b_isTold hO (Nat.le_of_ble_eq_true rfl) (Nat.le_of_ble_eq_true rfl) dX7_member_78
        · have hO : m_X7_member g b x is σ = (some "java/lang/IllegalStateException", 0, σ) := by rw [m_X7_member, e_1, nd_none, if_neg c_2, e_7, nd_none, if_neg c_8, if_neg c_9, if_neg c_10]
          exact w_throw2 hl9 hC hW hS hout hl th_84_86_88 (by rw [hO]) dX7_member_42 dX7_member_45 dX7_member_46 dX7_member_48 dX7_member_51 (Nat.le_of_ble_eq_true rfl) (Nat.le_of_ble_eq_true rfl) (Nat.le_of_ble_eq_true rfl) (Nat.le_of_ble_eq_true rfl) (Nat.le_of_ble_eq_true rfl) (Nat.le_of_ble_eq_true rfl)
theorem fr_X7_member {kk : Nat}  {g : Int32} {b : Int32} {x : Int32} {is : Int32} {σ : Sg} (h12 : kk ≠ 12) (h13 : kk ≠ 13) (h14 : kk ≠ 14) : (m_X7_member g b x is σ).2.2 kk = σ kk := by
  rw [m_X7_member]
  repeat' split
  all_goals (first | (simp only [nd_2, us_kk, ne_eq, not_false_eq_true, h12, h13, h14, fr_X2_tell]; done) | with_reducible rfl | (simp only [nd_2, us_kk, ne_eq, not_false_eq_true, h12, h13, h14, fr_X2_tell]; with_reducible rfl))

def m_X7_groups (u : Int32) (σ : Sg) : Option String × Int32 × Sg :=
  nd (e_X7_needPlace u 6) ((none, f_X2_groupsOf u σ, σ))
set_option maxHeartbeats 4000000 in
set_option maxRecDepth 100000 in
theorem c_X7_groups (l : Launch) (hl9 : l.stackTraces = false) (D : va_G) (ca : Nat → ClassId) (base : Nat) (ad : Adr) (σ : Sg) (u : Int32) (hI : CInv σ) : Mx l yX7_groups cX7_groups 2 (some .int) { frames := 7, cells := 1, slots := 6, locals := 121 } D ca base ad ρm Lm [.ref (ad 7 0), .int u] σ (m_X7_groups u σ).1 (some (.int (m_X7_groups u σ).2.1)) (m_X7_groups u σ).2.2 := by
  refine w_ofX (by decide) (Nat.le_of_ble_eq_true rfl) rfl ?_
  intro p e s m args below meth c hC hW hS hout ls hl
  have hx := hC.1
  have hb := hC.2.1
  refine lv_iload_n hx hb dX7_groups_0 rfl (lv_at hl 1 rfl) ?_
  refine lv_bipush (v := 6) hx hb dX7_groups_1 (by decide) ?_
  refine w_callSX (As := [.int u, .int 6]) (rest := []) (st2 := []) hC hW hS hl cs_X7_76 (c_X7_needPlace l hl9 D ca base ad σ u 6 ) rfl rfl rfl ⟨Nat.le_of_ble_eq_true rfl, Nat.le_of_ble_eq_true rfl⟩ (Nat.le_of_ble_eq_true rfl) dX7_groups_3 ⟨Nat.le_of_ble_eq_true rfl, Nat.le_of_ble_eq_true rfl⟩ (fun E ce q9 H locs e_1 hW hS hce hcv hcl => ?_) (fun e_1 H locs hW hS => ?_)
  · have hO : (m_X7_groups u σ).1 = some E := by rw [m_X7_groups, e_1, nd_some]
    exact w_out hC hW hS hout hO hce hcv hcl (Nat.le_of_ble_eq_true rfl) (Nat.le_of_ble_eq_true rfl)
  refine lv_aload_n hx hb dX7_groups_6 rfl (lv_at hl 0 rfl) ?_
  refine gf_X7_12 hC hW m_7 rfl dX7_groups_7 ?_
  refine lv_iload_n hx hb dX7_groups_10 rfl (lv_at hl 1 rfl) ?_
  refine w_callV (As := [.int u]) (rest := []) (st2 := .int (f_X2_groupsOf u σ) :: []) hC hW hS hl cv_X7_99 m_2 (by decide) rfl (c_X2_groupsOf l hl9 D ca base ad σ u ) rfl rfl rfl ⟨Nat.le_of_ble_eq_true rfl, Nat.le_of_ble_eq_true rfl⟩ (Nat.le_of_ble_eq_true rfl) dX7_groups_11 ⟨Nat.le_of_ble_eq_true rfl, Nat.le_of_ble_eq_true rfl⟩ (fun H locs hW hS => ?_)
  have hO : m_X7_groups u σ = (none, f_X2_groupsOf u σ, σ) := by rw [m_X7_groups, e_1, nd_none]
  exact w_iretZ hC hW hS hO (Nat.le_of_ble_eq_true rfl) (Nat.le_of_ble_eq_true rfl) dX7_groups_14
theorem fr_X7_groups {kk : Nat}  {u : Int32} {σ : Sg}  : (m_X7_groups u σ).2.2 kk = σ kk := by
  rw [m_X7_groups]
  repeat' split
  all_goals (first | (simp only [nd_2, us_kk, ne_eq, not_false_eq_true]; done) | with_reducible rfl | (simp only [nd_2, us_kk, ne_eq, not_false_eq_true]; with_reducible rfl))

def m_X7_thing (t : Int32) (u : Int32) (g : Int32) (v : Int32) (σ : Sg) : Option String × Int32 × Sg :=
  nd (e_X7_needPlace u 6) (nd (e_X7_needPlace g 6) (if t = (-1) then nd (e_X7_needRange v 0 1023) (nd (e_X7_needRoom (σ 7 0 6) 12) ((none, ((σ 7 0 6) + (1 : Int32)) - (1 : Int32), us (us (us (us σ 5 ((σ 7 0 6).toNatClampNeg) 0 u) 5 ((σ 7 0 6).toNatClampNeg) 1 g) 5 ((σ 7 0 6).toNatClampNeg) 2 v) 7 0 6 ((σ 7 0 6) + (1 : Int32)))))
  else nd (e_X7_needThing t σ) (nd (e_X7_needRange v 0 1023) (nd (e_X7_needRoom (σ 7 0 6) 12) ((none, ((σ 7 0 6) + (1 : Int32)) - (1 : Int32), us (s_X5_inherit ((σ 7 0 6).toNatClampNeg) t.toNatClampNeg (us (us (us σ 5 ((σ 7 0 6).toNatClampNeg) 0 u) 5 ((σ 7 0 6).toNatClampNeg) 1 g) 5 ((σ 7 0 6).toNatClampNeg) 2 v)) 7 0 6 ((σ 7 0 6) + (1 : Int32))))))))
set_option maxHeartbeats 4000000 in
set_option maxRecDepth 100000 in
theorem c_X7_thing (l : Launch) (hl9 : l.stackTraces = false) (D : va_G) (ca : Nat → ClassId) (base : Nat) (ad : Adr) (σ : Sg) (t : Int32) (u : Int32) (g : Int32) (v : Int32) (hI : CInv σ) : Mx l yX7_thing cX7_thing 7 (some .int) { frames := 8, cells := 7, slots := 42, locals := 142 } D ca base ad ρm Lm [.ref (ad 7 0), .int t, .int u, .int g, .int v] σ (m_X7_thing t u g v σ).1 (some (.int (m_X7_thing t u g v σ).2.1)) (m_X7_thing t u g v σ).2.2 := by
  refine w_ofX (by decide) (Nat.le_of_ble_eq_true rfl) rfl ?_
  intro p e s m args below meth c hC hW hS hout ls hl
  have hx := hC.1
  have hb := hC.2.1
  refine lv_iload_n hx hb dX7_thing_0 rfl (lv_at hl 2 rfl) ?_
  refine lv_bipush (v := 6) hx hb dX7_thing_1 (by decide) ?_
  refine w_callSX (As := [.int u, .int 6]) (rest := []) (st2 := []) hC hW hS hl cs_X7_76 (c_X7_needPlace l hl9 D ca base ad σ u 6 ) rfl rfl rfl ⟨Nat.le_of_ble_eq_true rfl, Nat.le_of_ble_eq_true rfl⟩ (Nat.le_of_ble_eq_true rfl) dX7_thing_3 ⟨Nat.le_of_ble_eq_true rfl, Nat.le_of_ble_eq_true rfl⟩ (fun E ce q9 H locs e_1 hW hS hce hcv hcl => ?_) (fun e_1 H locs hW hS => ?_)
  · have hO : (m_X7_thing t u g v σ).1 = some E := by rw [m_X7_thing, e_1, nd_some]
    exact w_out hC hW hS hout hO hce hcv hcl (Nat.le_of_ble_eq_true rfl) (Nat.le_of_ble_eq_true rfl)
  refine lv_iload_n hx hb dX7_thing_6 rfl (lv_at hl 3 rfl) ?_
  refine lv_bipush (v := 6) hx hb dX7_thing_7 (by decide) ?_
  refine w_callSX (As := [.int g, .int 6]) (rest := []) (st2 := []) hC hW hS hl cs_X7_76 (c_X7_needPlace l hl9 D ca base ad σ g 6 ) rfl rfl rfl ⟨Nat.le_of_ble_eq_true rfl, Nat.le_of_ble_eq_true rfl⟩ (Nat.le_of_ble_eq_true rfl) dX7_thing_9 ⟨Nat.le_of_ble_eq_true rfl, Nat.le_of_ble_eq_true rfl⟩ (fun E ce q9 H locs e_2 hW hS hce hcv hcl => ?_) (fun e_2 H locs hW hS => ?_)
  · have hO : (m_X7_thing t u g v σ).1 = some E := by rw [m_X7_thing, e_1, nd_none, e_2, nd_some]
    exact w_out hC hW hS hout hO hce hcv hcl (Nat.le_of_ble_eq_true rfl) (Nat.le_of_ble_eq_true rfl)
  refine lv_iload_n hx hb dX7_thing_12 rfl (lv_at hl 1 rfl) ?_
  refine lv_iconst (v := (-1)) hx hb dX7_thing_13 (by decide) ?_
  refine lv_icmp_ne (tgt := 21) hx hb dX7_thing_14 (by decide) (fun c_3 => ?_) (fun c_3 => ?_)
  · refine lv_aload_n hx hb dX7_thing_21 rfl (lv_at hl 0 rfl) ?_
    refine lv_iload_n hx hb dX7_thing_22 rfl (lv_at hl 1 rfl) ?_
    refine w_callVX (As := [.int t]) (rest := []) (st2 := .ref (ad 5 t.toNatClampNeg) :: []) hC hW hS hl cv_X7_103 m_7 (by decide) rfl (c_X7_needThing l hl9 D ca base ad σ t (by first | assumption | decide | omega)) rfl rfl rfl ⟨Nat.le_of_ble_eq_true rfl, Nat.le_of_ble_eq_true rfl⟩ (Nat.le_of_ble_eq_true rfl) dX7_thing_23 ⟨Nat.le_of_ble_eq_true rfl, Nat.le_of_ble_eq_true rfl⟩ (fun E ce q9 H locs e_4 hW hS hce hcv hcl => ?_) (fun e_4 H locs hW hS => ?_)
    · have hO : (m_X7_thing t u g v σ).1 = some E := by rw [m_X7_thing, e_1, nd_none, e_2, nd_none, if_neg c_3, e_4, nd_some]
      exact w_out hC hW hS hout hO hce hcv hcl (Nat.le_of_ble_eq_true rfl) (Nat.le_of_ble_eq_true rfl)
    have hv_5 : vp_in t 12 := nt_in hI e_4
    refine lv_astore (lv' := [(5, .ref (ad 5 t.toNatClampNeg)), (0, .ref (ad 7 0)), (1, .int t), (2, .int u), (3, .int g), (4, .int v)]) hx hb dX7_thing_26 hl (by decide) rfl (fun ls hl => ?_)
    refine lv_iload hx hb dX7_thing_28 (lv_at hl 5 rfl) ?_
    refine lv_iconst (v := 0) hx hb dX7_thing_30 (by decide) ?_
    refine lv_sipush (v := 1023) hx hb dX7_thing_31 (by decide) ?_
    refine w_callSX (As := [.int v, .int 0, .int 1023]) (rest := []) (st2 := []) hC hW hS hl cs_X7_107 (c_X7_needRange l hl9 D ca base ad σ v 0 1023 ) rfl rfl rfl ⟨Nat.le_of_ble_eq_true rfl, Nat.le_of_ble_eq_true rfl⟩ (Nat.le_of_ble_eq_true rfl) dX7_thing_34 ⟨Nat.le_of_ble_eq_true rfl, Nat.le_of_ble_eq_true rfl⟩ (fun E ce q9 H locs e_6 hW hS hce hcv hcl => ?_) (fun e_6 H locs hW hS => ?_)
    · have hO : (m_X7_thing t u g v σ).1 = some E := by rw [m_X7_thing, e_1, nd_none, e_2, nd_none, if_neg c_3, e_4, nd_none, e_6, nd_some]
      exact w_out hC hW hS hout hO hce hcv hcl (Nat.le_of_ble_eq_true rfl) (Nat.le_of_ble_eq_true rfl)
    refine lv_aload_n hx hb dX7_thing_37 rfl (lv_at hl 1 rfl) ?_
    refine gf_X7_111 hC hW m_7 dX7_thing_38 ?_
    refine lv_aload_n hx hb dX7_thing_41 rfl (lv_at hl 1 rfl) ?_
    refine gf_X7_32 hC hW m_7 rfl dX7_thing_42 ?_
    refine w_alen hC hW m_22 3 (v := 12) rfl rfl rfl dX7_thing_45 ?_
    refine w_callSX (As := [.int (σ 7 0 6), .int 12]) (rest := []) (st2 := []) hC hW hS hl cs_X7_114 (c_X7_needRoom l hl9 D ca base ad σ (σ 7 0 6) 12 ) rfl rfl rfl ⟨Nat.le_of_ble_eq_true rfl, Nat.le_of_ble_eq_true rfl⟩ (Nat.le_of_ble_eq_true rfl) dX7_thing_46 ⟨Nat.le_of_ble_eq_true rfl, Nat.le_of_ble_eq_true rfl⟩ (fun E ce q9 H locs e_7 hW hS hce hcv hcl => ?_) (fun e_7 H locs hW hS => ?_)
    · have hO : (m_X7_thing t u g v σ).1 = some E := by rw [m_X7_thing, e_1, nd_none, e_2, nd_none, if_neg c_3, e_4, nd_none, e_6, nd_none, e_7, nd_some]
      exact w_out hC hW hS hout hO hce hcv hcl (Nat.le_of_ble_eq_true rfl) (Nat.le_of_ble_eq_true rfl)
    refine lv_aload_n hx hb dX7_thing_49 rfl (lv_at hl 1 rfl) ?_
    refine gf_X7_32 hC hW m_7 rfl dX7_thing_50 ?_
    refine lv_aload_n hx hb dX7_thing_53 rfl (lv_at hl 1 rfl) ?_
    refine gf_X7_111 hC hW m_7 dX7_thing_54 ?_
    have h_8 : vp_in (σ 7 0 6) 12 := (by obtain ⟨b, h1, h2⟩ := hI.2.1; exact nr_in (b := 12) rfl ⟨b, by omega, h2⟩ (by decide) (by decide) (by assumption))
    refine w_aald hC hW m_22 3 (n := 12) rfl rfl h_8 (by rfl) dX7_thing_57 ?_
    refine lv_astore (lv' := [(6, .ref (ad 5 ((σ 7 0 6).toNatClampNeg))), (5, .ref (ad 5 t.toNatClampNeg)), (0, .ref (ad 7 0)), (1, .int t), (2, .int u), (3, .int g), (4, .int v)]) hx hb dX7_thing_58 hl (by decide) rfl (fun ls hl => ?_)
    refine lv_aload hx hb dX7_thing_60 (lv_at hl 0 rfl) ?_
    refine lv_iload_n hx hb dX7_thing_62 rfl (lv_at hl 4 rfl) ?_
    refine pf_X7_117 hC hW (mm_5 (Nat.lt_trans (vp_lt h_8) (by decide))) hS dX7_thing_63 (fun H locs hW hS => ?_)
    refine lv_aload hx hb dX7_thing_66 (lv_at hl 0 rfl) ?_
    refine lv_iload_n hx hb dX7_thing_68 rfl (lv_at hl 5 rfl) ?_
    refine pf_X7_120 hC hW (mm_5 (Nat.lt_trans (vp_lt h_8) (by decide))) hS dX7_thing_69 (fun H locs hW hS => ?_)
    refine lv_aload hx hb dX7_thing_72 (lv_at hl 0 rfl) ?_
    refine lv_iload hx hb dX7_thing_74 (lv_at hl 6 rfl) ?_
    refine pf_X7_123 hC hW (mm_5 (Nat.lt_trans (vp_lt h_8) (by decide))) hS dX7_thing_76 (fun H locs hW hS => ?_)
    refine lv_aload hx hb dX7_thing_79 (lv_at hl 1 rfl) ?_
    refine lv_ifnull hx hb dX7_thing_81 ?_
    refine lv_aload hx hb dX7_thing_84 (lv_at hl 0 rfl) ?_
    refine lv_aload hx hb dX7_thing_86 (lv_at hl 1 rfl) ?_
    refine w_callV (As := [.ref (ad 5 t.toNatClampNeg)]) (rest := []) (st2 := []) hC hW hS hl cv_X7_126 (mm_5 (Nat.lt_trans (vp_lt h_8) (by decide))) (by decide) rfl (c_X5_inherit l hl9 D ca base ad (us (us (us σ 5 ((σ 7 0 6).toNatClampNeg) 0 u) 5 ((σ 7 0 6).toNatClampNeg) 1 g) 5 ((σ 7 0 6).toNatClampNeg) 2 v) ((σ 7 0 6).toNatClampNeg) t.toNatClampNeg (Nat.lt_trans (vp_lt h_8) (by decide)) (Nat.lt_trans (vp_lt hv_5) (by decide))) rfl rfl rfl ⟨Nat.le_of_ble_eq_true rfl, Nat.le_of_ble_eq_true rfl⟩ (Nat.le_of_ble_eq_true rfl) dX7_thing_88 ⟨Nat.le_of_ble_eq_true rfl, Nat.le_of_ble_eq_true rfl⟩ (fun H locs hW hS => ?_)
    refine lv_aload_n hx hb dX7_thing_91 rfl (lv_at hl 2 rfl) ?_
    refine lv_dup hx hb dX7_thing_92 rfl ?_
    refine gf_X7_111 hC hW m_7 dX7_thing_93 ?_
    refine lv_eqi (y := σ 7 0 6) (by rw [fr_X5_inherit (by decide) (by decide), us_k (by decide), us_k (by decide), us_k (by decide)]) ?_
    refine lv_iconst (v := 1) hx hb dX7_thing_96 (by decide) ?_
    refine lv_iadd hx hb dX7_thing_97 ?_
    refine pf_X7_111 hC hW m_7 hS dX7_thing_98 (fun H locs hW hS => ?_)
    refine lv_aload_n hx hb dX7_thing_101 rfl (lv_at hl 2 rfl) ?_
    refine gf_X7_111 hC hW m_7 dX7_thing_102 ?_
    refine lv_eqi (y := (σ 7 0 6) + (1 : Int32)) (by rw [us_h]) ?_
    refine lv_iconst (v := 1) hx hb dX7_thing_105 (by decide) ?_
    refine lv_isub hx hb dX7_thing_106 ?_
    have hO : m_X7_thing t u g v σ = (none, ((σ 7 0 6) + (1 : Int32)) - (1 : Int32), us (s_X5_inherit ((σ 7 0 6).toNatClampNeg) t.toNatClampNeg (us (us (us σ 5 ((σ 7 0 6).toNatClampNeg) 0 u) 5 ((σ 7 0 6).toNatClampNeg) 1 g) 5 ((σ 7 0 6).toNatClampNeg) 2 v)) 7 0 6 ((σ 7 0 6) + (1 : Int32))) := by rw [m_X7_thing, e_1, nd_none, e_2, nd_none, if_neg c_3, e_4, nd_none, e_6, nd_none, e_7, nd_none]
    exact w_iretZ hC hW hS hO (Nat.le_of_ble_eq_true rfl) (Nat.le_of_ble_eq_true rfl) dX7_thing_107
  · refine lv_null hx hb dX7_thing_17 ?_
    refine lv_goto (tgt := 26) hx hb dX7_thing_18 (by decide) ?_
    refine lv_astoreN (lv' := [(5, .null), (0, .ref (ad 7 0)), (1, .int t), (2, .int u), (3, .int g), (4, .int v)]) hx hb dX7_thing_26 hl (by decide) rfl (fun ls hl => ?_)
    refine lv_iload hx hb dX7_thing_28 (lv_at hl 5 rfl) ?_
    refine lv_iconst (v := 0) hx hb dX7_thing_30 (by decide) ?_
    refine lv_sipush (v := 1023) hx hb dX7_thing_31 (by decide) ?_
    refine w_callSX (As := [.int v, .int 0, .int 1023]) (rest := []) (st2 := []) hC hW hS hl cs_X7_107 (c_X7_needRange l hl9 D ca base ad σ v 0 1023 ) rfl rfl rfl ⟨Nat.le_of_ble_eq_true rfl, Nat.le_of_ble_eq_true rfl⟩ (Nat.le_of_ble_eq_true rfl) dX7_thing_34 ⟨Nat.le_of_ble_eq_true rfl, Nat.le_of_ble_eq_true rfl⟩ (fun E ce q9 H locs e_9 hW hS hce hcv hcl => ?_) (fun e_9 H locs hW hS => ?_)
    · have hO : (m_X7_thing t u g v σ).1 = some E := by rw [m_X7_thing, e_1, nd_none, e_2, nd_none, if_pos c_3, e_9, nd_some]
      exact w_out hC hW hS hout hO hce hcv hcl (Nat.le_of_ble_eq_true rfl) (Nat.le_of_ble_eq_true rfl)
    refine lv_aload_n hx hb dX7_thing_37 rfl (lv_at hl 1 rfl) ?_
    refine gf_X7_111 hC hW m_7 dX7_thing_38 ?_
    refine lv_aload_n hx hb dX7_thing_41 rfl (lv_at hl 1 rfl) ?_
    refine gf_X7_32 hC hW m_7 rfl dX7_thing_42 ?_
    refine w_alen hC hW m_22 3 (v := 12) rfl rfl rfl dX7_thing_45 ?_
    refine w_callSX (As := [.int (σ 7 0 6), .int 12]) (rest := []) (st2 := []) hC hW hS hl cs_X7_114 (c_X7_needRoom l hl9 D ca base ad σ (σ 7 0 6) 12 ) rfl rfl rfl ⟨Nat.le_of_ble_eq_true rfl, Nat.le_of_ble_eq_true rfl⟩ (Nat.le_of_ble_eq_true rfl) dX7_thing_46 ⟨Nat.le_of_ble_eq_true rfl, Nat.le_of_ble_eq_true rfl⟩ (fun E ce q9 H locs e_10 hW hS hce hcv hcl => ?_) (fun e_10 H locs hW hS => ?_)
    · have hO : (m_X7_thing t u g v σ).1 = some E := by rw [m_X7_thing, e_1, nd_none, e_2, nd_none, if_pos c_3, e_9, nd_none, e_10, nd_some]
      exact w_out hC hW hS hout hO hce hcv hcl (Nat.le_of_ble_eq_true rfl) (Nat.le_of_ble_eq_true rfl)
    refine lv_aload_n hx hb dX7_thing_49 rfl (lv_at hl 1 rfl) ?_
    refine gf_X7_32 hC hW m_7 rfl dX7_thing_50 ?_
    refine lv_aload_n hx hb dX7_thing_53 rfl (lv_at hl 1 rfl) ?_
    refine gf_X7_111 hC hW m_7 dX7_thing_54 ?_
    have h_11 : vp_in (σ 7 0 6) 12 := (by obtain ⟨b, h1, h2⟩ := hI.2.1; exact nr_in (b := 12) rfl ⟨b, by omega, h2⟩ (by decide) (by decide) (by assumption))
    refine w_aald hC hW m_22 3 (n := 12) rfl rfl h_11 (by rfl) dX7_thing_57 ?_
    refine lv_astore (lv' := [(6, .ref (ad 5 ((σ 7 0 6).toNatClampNeg))), (5, .null), (0, .ref (ad 7 0)), (1, .int t), (2, .int u), (3, .int g), (4, .int v)]) hx hb dX7_thing_58 hl (by decide) rfl (fun ls hl => ?_)
    refine lv_aload hx hb dX7_thing_60 (lv_at hl 0 rfl) ?_
    refine lv_iload_n hx hb dX7_thing_62 rfl (lv_at hl 4 rfl) ?_
    refine pf_X7_117 hC hW (mm_5 (Nat.lt_trans (vp_lt h_11) (by decide))) hS dX7_thing_63 (fun H locs hW hS => ?_)
    refine lv_aload hx hb dX7_thing_66 (lv_at hl 0 rfl) ?_
    refine lv_iload_n hx hb dX7_thing_68 rfl (lv_at hl 5 rfl) ?_
    refine pf_X7_120 hC hW (mm_5 (Nat.lt_trans (vp_lt h_11) (by decide))) hS dX7_thing_69 (fun H locs hW hS => ?_)
    refine lv_aload hx hb dX7_thing_72 (lv_at hl 0 rfl) ?_
    refine lv_iload hx hb dX7_thing_74 (lv_at hl 6 rfl) ?_
    refine pf_X7_123 hC hW (mm_5 (Nat.lt_trans (vp_lt h_11) (by decide))) hS dX7_thing_76 (fun H locs hW hS => ?_)
    refine lv_aloadN hx hb dX7_thing_79 (lv_at hl 1 rfl) ?_
    refine lv_ifnullN (tgt := 91) hx hb dX7_thing_81 (by decide) ?_
    refine lv_aload_n hx hb dX7_thing_91 rfl (lv_at hl 2 rfl) ?_
    refine lv_dup hx hb dX7_thing_92 rfl ?_
    refine gf_X7_111 hC hW m_7 dX7_thing_93 ?_
    refine lv_eqi (y := σ 7 0 6) (by rw [us_k (by decide), us_k (by decide), us_k (by decide)]) ?_
    refine lv_iconst (v := 1) hx hb dX7_thing_96 (by decide) ?_
    refine lv_iadd hx hb dX7_thing_97 ?_
    refine pf_X7_111 hC hW m_7 hS dX7_thing_98 (fun H locs hW hS => ?_)
    refine lv_aload_n hx hb dX7_thing_101 rfl (lv_at hl 2 rfl) ?_
    refine gf_X7_111 hC hW m_7 dX7_thing_102 ?_
    refine lv_eqi (y := (σ 7 0 6) + (1 : Int32)) (by rw [us_h]) ?_
    refine lv_iconst (v := 1) hx hb dX7_thing_105 (by decide) ?_
    refine lv_isub hx hb dX7_thing_106 ?_
    have hO : m_X7_thing t u g v σ = (none, ((σ 7 0 6) + (1 : Int32)) - (1 : Int32), us (us (us (us σ 5 ((σ 7 0 6).toNatClampNeg) 0 u) 5 ((σ 7 0 6).toNatClampNeg) 1 g) 5 ((σ 7 0 6).toNatClampNeg) 2 v) 7 0 6 ((σ 7 0 6) + (1 : Int32))) := by rw [m_X7_thing, e_1, nd_none, e_2, nd_none, if_pos c_3, e_9, nd_none, e_10, nd_none]
    exact w_iretZ hC hW hS hO (Nat.le_of_ble_eq_true rfl) (Nat.le_of_ble_eq_true rfl) dX7_thing_107
theorem fr_X7_thing {kk : Nat}  {t : Int32} {u : Int32} {g : Int32} {v : Int32} {σ : Sg} (h5 : kk ≠ 5) (h7 : kk ≠ 7) (h20 : kk ≠ 20) : (m_X7_thing t u g v σ).2.2 kk = σ kk := by
  rw [m_X7_thing]
  repeat' split
  all_goals (first | (simp only [nd_2, us_kk, ne_eq, not_false_eq_true, h5, h7, h20, fr_X5_inherit]; done) | with_reducible rfl | (simp only [nd_2, us_kk, ne_eq, not_false_eq_true, h5, h7, h20, fr_X5_inherit]; with_reducible rfl))

def m_X7_type (t : Int32) (v : Int32) (σ : Sg) : Option String × Int32 × Sg :=
  nd (e_X7_needThing t σ) (nd (e_X7_needRange v 0 3) ((none, σ 5 t.toNatClampNeg 3, us σ 5 t.toNatClampNeg 3 v)))
set_option maxHeartbeats 4000000 in
set_option maxRecDepth 100000 in
theorem c_X7_type (l : Launch) (hl9 : l.stackTraces = false) (D : va_G) (ca : Nat → ClassId) (base : Nat) (ad : Adr) (σ : Sg) (t : Int32) (v : Int32) (hI : CInv σ) : Mx l yX7_type cX7_type 5 (some .int) { frames := 8, cells := 2, slots := 12, locals := 142 } D ca base ad ρm Lm [.ref (ad 7 0), .int t, .int v] σ (m_X7_type t v σ).1 (some (.int (m_X7_type t v σ).2.1)) (m_X7_type t v σ).2.2 := by
  refine w_ofX (by decide) (Nat.le_of_ble_eq_true rfl) rfl ?_
  intro p e s m args below meth c hC hW hS hout ls hl
  have hx := hC.1
  have hb := hC.2.1
  refine lv_aload_n hx hb dX7_type_0 rfl (lv_at hl 0 rfl) ?_
  refine lv_iload_n hx hb dX7_type_1 rfl (lv_at hl 1 rfl) ?_
  refine w_callVX (As := [.int t]) (rest := []) (st2 := .ref (ad 5 t.toNatClampNeg) :: []) hC hW hS hl cv_X7_103 m_7 (by decide) rfl (c_X7_needThing l hl9 D ca base ad σ t (by first | assumption | decide | omega)) rfl rfl rfl ⟨Nat.le_of_ble_eq_true rfl, Nat.le_of_ble_eq_true rfl⟩ (Nat.le_of_ble_eq_true rfl) dX7_type_2 ⟨Nat.le_of_ble_eq_true rfl, Nat.le_of_ble_eq_true rfl⟩ (fun E ce q9 H locs e_1 hW hS hce hcv hcl => ?_) (fun e_1 H locs hW hS => ?_)
  · have hO : (m_X7_type t v σ).1 = some E := by rw [m_X7_type, e_1, nd_some]
    exact w_out hC hW hS hout hO hce hcv hcl (Nat.le_of_ble_eq_true rfl) (Nat.le_of_ble_eq_true rfl)
  have hv_2 : vp_in t 12 := nt_in hI e_1
  refine lv_astore_n (lv' := [(3, .ref (ad 5 t.toNatClampNeg)), (0, .ref (ad 7 0)), (1, .int t), (2, .int v)]) hx hb dX7_type_5 rfl hl (by decide) rfl (fun ls hl => ?_)
  refine lv_iload_n hx hb dX7_type_6 rfl (lv_at hl 3 rfl) ?_
  refine lv_iconst (v := 0) hx hb dX7_type_7 (by decide) ?_
  refine lv_iconst (v := 3) hx hb dX7_type_8 (by decide) ?_
  refine w_callSX (As := [.int v, .int 0, .int 3]) (rest := []) (st2 := []) hC hW hS hl cs_X7_107 (c_X7_needRange l hl9 D ca base ad σ v 0 3 ) rfl rfl rfl ⟨Nat.le_of_ble_eq_true rfl, Nat.le_of_ble_eq_true rfl⟩ (Nat.le_of_ble_eq_true rfl) dX7_type_9 ⟨Nat.le_of_ble_eq_true rfl, Nat.le_of_ble_eq_true rfl⟩ (fun E ce q9 H locs e_3 hW hS hce hcv hcl => ?_) (fun e_3 H locs hW hS => ?_)
  · have hO : (m_X7_type t v σ).1 = some E := by rw [m_X7_type, e_1, nd_none, e_3, nd_some]
    exact w_out hC hW hS hout hO hce hcv hcl (Nat.le_of_ble_eq_true rfl) (Nat.le_of_ble_eq_true rfl)
  refine lv_aload_n hx hb dX7_type_12 rfl (lv_at hl 0 rfl) ?_
  refine gf_X7_130 hC hW (mm_5 (Nat.lt_trans (vp_lt hv_2) (by decide))) dX7_type_13 ?_
  refine lv_istore (lv' := [(4, .int (σ 5 t.toNatClampNeg 3)), (3, .ref (ad 5 t.toNatClampNeg)), (0, .ref (ad 7 0)), (1, .int t), (2, .int v)]) hx hb dX7_type_16 hl (by decide) rfl (fun ls hl => ?_)
  refine lv_aload_n hx hb dX7_type_18 rfl (lv_at hl 1 rfl) ?_
  refine lv_iload_n hx hb dX7_type_19 rfl (lv_at hl 4 rfl) ?_
  refine pf_X7_130 hC hW (mm_5 (Nat.lt_trans (vp_lt hv_2) (by decide))) hS dX7_type_20 (fun H locs hW hS => ?_)
  refine lv_iload hx hb dX7_type_23 (lv_at hl 0 rfl) ?_
  have hO : m_X7_type t v σ = (none, σ 5 t.toNatClampNeg 3, us σ 5 t.toNatClampNeg 3 v) := by rw [m_X7_type, e_1, nd_none, e_3, nd_none]
  exact w_iretZ hC hW hS hO (Nat.le_of_ble_eq_true rfl) (Nat.le_of_ble_eq_true rfl) dX7_type_25
theorem fr_X7_type {kk : Nat}  {t : Int32} {v : Int32} {σ : Sg} (h5 : kk ≠ 5) : (m_X7_type t v σ).2.2 kk = σ kk := by
  rw [m_X7_type]
  repeat' split
  all_goals (first | (simp only [nd_2, us_kk, ne_eq, not_false_eq_true, h5]; done) | with_reducible rfl | (simp only [nd_2, us_kk, ne_eq, not_false_eq_true, h5]; with_reducible rfl))

def m_X7_mode (k : Int32) (t : Int32) (v : Int32) (σ : Sg) : Option String × Int32 × Sg :=
  nd (e_X7_needActor k σ) (nd (e_X7_needThing t σ) (nd (e_X7_needRange v 0 1023) (nd (e_X7_needPower (f_X7_mayChange k.toNatClampNeg t.toNatClampNeg σ)) ((none, σ 5 t.toNatClampNeg 2, us σ 5 t.toNatClampNeg 2 v)))))
set_option maxHeartbeats 4000000 in
set_option maxRecDepth 100000 in
theorem c_X7_mode (l : Launch) (hl9 : l.stackTraces = false) (D : va_G) (ca : Nat → ClassId) (base : Nat) (ad : Adr) (σ : Sg) (k : Int32) (t : Int32) (v : Int32) (hI : CInv σ) : Mx l yX7_mode cX7_mode 7 (some .int) { frames := 8, cells := 4, slots := 24, locals := 142 } D ca base ad ρm Lm [.ref (ad 7 0), .int k, .int t, .int v] σ (m_X7_mode k t v σ).1 (some (.int (m_X7_mode k t v σ).2.1)) (m_X7_mode k t v σ).2.2 := by
  refine w_ofX (by decide) (Nat.le_of_ble_eq_true rfl) rfl ?_
  intro p e s m args below meth c hC hW hS hout ls hl
  have hx := hC.1
  have hb := hC.2.1
  refine lv_aload_n hx hb dX7_mode_0 rfl (lv_at hl 0 rfl) ?_
  refine lv_iload_n hx hb dX7_mode_1 rfl (lv_at hl 1 rfl) ?_
  refine w_callVX (As := [.int k]) (rest := []) (st2 := .ref (ad 0 k.toNatClampNeg) :: []) hC hW hS hl cv_X7_133 m_7 (by decide) rfl (c_X7_needActor l hl9 D ca base ad σ k (by first | assumption | decide | omega)) rfl rfl rfl ⟨Nat.le_of_ble_eq_true rfl, Nat.le_of_ble_eq_true rfl⟩ (Nat.le_of_ble_eq_true rfl) dX7_mode_2 ⟨Nat.le_of_ble_eq_true rfl, Nat.le_of_ble_eq_true rfl⟩ (fun E ce q9 H locs e_1 hW hS hce hcv hcl => ?_) (fun e_1 H locs hW hS => ?_)
  · have hO : (m_X7_mode k t v σ).1 = some E := by rw [m_X7_mode, e_1, nd_some]
    exact w_out hC hW hS hout hO hce hcv hcl (Nat.le_of_ble_eq_true rfl) (Nat.le_of_ble_eq_true rfl)
  have hv_2 : vp_in k 8 := na_in hI e_1
  refine lv_astore (lv' := [(4, .ref (ad 0 k.toNatClampNeg)), (0, .ref (ad 7 0)), (1, .int k), (2, .int t), (3, .int v)]) hx hb dX7_mode_5 hl (by decide) rfl (fun ls hl => ?_)
  refine lv_aload_n hx hb dX7_mode_7 rfl (lv_at hl 1 rfl) ?_
  refine lv_iload_n hx hb dX7_mode_8 rfl (lv_at hl 3 rfl) ?_
  refine w_callVX (As := [.int t]) (rest := []) (st2 := .ref (ad 5 t.toNatClampNeg) :: []) hC hW hS hl cv_X7_103 m_7 (by decide) rfl (c_X7_needThing l hl9 D ca base ad σ t (by first | assumption | decide | omega)) rfl rfl rfl ⟨Nat.le_of_ble_eq_true rfl, Nat.le_of_ble_eq_true rfl⟩ (Nat.le_of_ble_eq_true rfl) dX7_mode_9 ⟨Nat.le_of_ble_eq_true rfl, Nat.le_of_ble_eq_true rfl⟩ (fun E ce q9 H locs e_3 hW hS hce hcv hcl => ?_) (fun e_3 H locs hW hS => ?_)
  · have hO : (m_X7_mode k t v σ).1 = some E := by rw [m_X7_mode, e_1, nd_none, e_3, nd_some]
    exact w_out hC hW hS hout hO hce hcv hcl (Nat.le_of_ble_eq_true rfl) (Nat.le_of_ble_eq_true rfl)
  have hv_4 : vp_in t 12 := nt_in hI e_3
  refine lv_astore (lv' := [(5, .ref (ad 5 t.toNatClampNeg)), (4, .ref (ad 0 k.toNatClampNeg)), (0, .ref (ad 7 0)), (1, .int k), (2, .int t), (3, .int v)]) hx hb dX7_mode_12 hl (by decide) rfl (fun ls hl => ?_)
  refine lv_iload_n hx hb dX7_mode_14 rfl (lv_at hl 5 rfl) ?_
  refine lv_iconst (v := 0) hx hb dX7_mode_15 (by decide) ?_
  refine lv_sipush (v := 1023) hx hb dX7_mode_16 (by decide) ?_
  refine w_callSX (As := [.int v, .int 0, .int 1023]) (rest := []) (st2 := []) hC hW hS hl cs_X7_107 (c_X7_needRange l hl9 D ca base ad σ v 0 1023 ) rfl rfl rfl ⟨Nat.le_of_ble_eq_true rfl, Nat.le_of_ble_eq_true rfl⟩ (Nat.le_of_ble_eq_true rfl) dX7_mode_19 ⟨Nat.le_of_ble_eq_true rfl, Nat.le_of_ble_eq_true rfl⟩ (fun E ce q9 H locs e_5 hW hS hce hcv hcl => ?_) (fun e_5 H locs hW hS => ?_)
  · have hO : (m_X7_mode k t v σ).1 = some E := by rw [m_X7_mode, e_1, nd_none, e_3, nd_none, e_5, nd_some]
    exact w_out hC hW hS hout hO hce hcv hcl (Nat.le_of_ble_eq_true rfl) (Nat.le_of_ble_eq_true rfl)
  refine lv_aload hx hb dX7_mode_22 (lv_at hl 1 rfl) ?_
  refine lv_aload hx hb dX7_mode_24 (lv_at hl 0 rfl) ?_
  refine w_callS (As := [.ref (ad 0 k.toNatClampNeg), .ref (ad 5 t.toNatClampNeg)]) (rest := []) (st2 := .int (f_X7_mayChange k.toNatClampNeg t.toNatClampNeg σ) :: []) hC hW hS hl cs_X7_137 (c_X7_mayChange l hl9 D ca base ad σ k.toNatClampNeg t.toNatClampNeg (Nat.lt_trans (vp_lt hv_2) (by decide)) (Nat.lt_trans (vp_lt hv_4) (by decide))) rfl rfl rfl ⟨Nat.le_of_ble_eq_true rfl, Nat.le_of_ble_eq_true rfl⟩ (Nat.le_of_ble_eq_true rfl) dX7_mode_26 ⟨Nat.le_of_ble_eq_true rfl, Nat.le_of_ble_eq_true rfl⟩ (fun H locs hW hS => ?_)
  refine w_callSX (As := [.int (f_X7_mayChange k.toNatClampNeg t.toNatClampNeg σ)]) (rest := []) (st2 := []) hC hW hS hl cs_X7_141 (c_X7_needPower l hl9 D ca base ad σ (f_X7_mayChange k.toNatClampNeg t.toNatClampNeg σ) ) rfl rfl rfl ⟨Nat.le_of_ble_eq_true rfl, Nat.le_of_ble_eq_true rfl⟩ (Nat.le_of_ble_eq_true rfl) dX7_mode_29 ⟨Nat.le_of_ble_eq_true rfl, Nat.le_of_ble_eq_true rfl⟩ (fun E ce q9 H locs e_6 hW hS hce hcv hcl => ?_) (fun e_6 H locs hW hS => ?_)
  · have hO : (m_X7_mode k t v σ).1 = some E := by rw [m_X7_mode, e_1, nd_none, e_3, nd_none, e_5, nd_none, e_6, nd_some]
    exact w_out hC hW hS hout hO hce hcv hcl (Nat.le_of_ble_eq_true rfl) (Nat.le_of_ble_eq_true rfl)
  refine lv_aload hx hb dX7_mode_32 (lv_at hl 0 rfl) ?_
  refine gf_X7_123 hC hW (mm_5 (Nat.lt_trans (vp_lt hv_4) (by decide))) dX7_mode_34 ?_
  refine lv_istore (lv' := [(6, .int (σ 5 t.toNatClampNeg 2)), (5, .ref (ad 5 t.toNatClampNeg)), (4, .ref (ad 0 k.toNatClampNeg)), (0, .ref (ad 7 0)), (1, .int k), (2, .int t), (3, .int v)]) hx hb dX7_mode_37 hl (by decide) rfl (fun ls hl => ?_)
  refine lv_aload hx hb dX7_mode_39 (lv_at hl 1 rfl) ?_
  refine lv_iload_n hx hb dX7_mode_41 rfl (lv_at hl 6 rfl) ?_
  refine pf_X7_123 hC hW (mm_5 (Nat.lt_trans (vp_lt hv_4) (by decide))) hS dX7_mode_42 (fun H locs hW hS => ?_)
  refine lv_iload hx hb dX7_mode_45 (lv_at hl 0 rfl) ?_
  have hO : m_X7_mode k t v σ = (none, σ 5 t.toNatClampNeg 2, us σ 5 t.toNatClampNeg 2 v) := by rw [m_X7_mode, e_1, nd_none, e_3, nd_none, e_5, nd_none, e_6, nd_none]
  exact w_iretZ hC hW hS hO (Nat.le_of_ble_eq_true rfl) (Nat.le_of_ble_eq_true rfl) dX7_mode_47
theorem fr_X7_mode {kk : Nat}  {k : Int32} {t : Int32} {v : Int32} {σ : Sg} (h5 : kk ≠ 5) : (m_X7_mode k t v σ).2.2 kk = σ kk := by
  rw [m_X7_mode]
  repeat' split
  all_goals (first | (simp only [nd_2, us_kk, ne_eq, not_false_eq_true, h5]; done) | with_reducible rfl | (simp only [nd_2, us_kk, ne_eq, not_false_eq_true, h5]; with_reducible rfl))

def m_X7_mask (k : Int32) (t : Int32) (v : Int32) (σ : Sg) : Option String × Int32 × Sg :=
  nd (e_X7_needActor k σ) (nd (e_X7_needThing t σ) (nd (e_X7_needRange v 0 7) (nd (e_X7_needPower (f_X7_mayChange k.toNatClampNeg t.toNatClampNeg σ)) ((none, σ 5 t.toNatClampNeg 6, us σ 5 t.toNatClampNeg 6 v)))))
set_option maxHeartbeats 4000000 in
set_option maxRecDepth 100000 in
theorem c_X7_mask (l : Launch) (hl9 : l.stackTraces = false) (D : va_G) (ca : Nat → ClassId) (base : Nat) (ad : Adr) (σ : Sg) (k : Int32) (t : Int32) (v : Int32) (hI : CInv σ) : Mx l yX7_mask cX7_mask 7 (some .int) { frames := 8, cells := 4, slots := 24, locals := 142 } D ca base ad ρm Lm [.ref (ad 7 0), .int k, .int t, .int v] σ (m_X7_mask k t v σ).1 (some (.int (m_X7_mask k t v σ).2.1)) (m_X7_mask k t v σ).2.2 := by
  refine w_ofX (by decide) (Nat.le_of_ble_eq_true rfl) rfl ?_
  intro p e s m args below meth c hC hW hS hout ls hl
  have hx := hC.1
  have hb := hC.2.1
  refine lv_aload_n hx hb dX7_mask_0 rfl (lv_at hl 0 rfl) ?_
  refine lv_iload_n hx hb dX7_mask_1 rfl (lv_at hl 1 rfl) ?_
  refine w_callVX (As := [.int k]) (rest := []) (st2 := .ref (ad 0 k.toNatClampNeg) :: []) hC hW hS hl cv_X7_133 m_7 (by decide) rfl (c_X7_needActor l hl9 D ca base ad σ k (by first | assumption | decide | omega)) rfl rfl rfl ⟨Nat.le_of_ble_eq_true rfl, Nat.le_of_ble_eq_true rfl⟩ (Nat.le_of_ble_eq_true rfl) dX7_mask_2 ⟨Nat.le_of_ble_eq_true rfl, Nat.le_of_ble_eq_true rfl⟩ (fun E ce q9 H locs e_1 hW hS hce hcv hcl => ?_) (fun e_1 H locs hW hS => ?_)
  · have hO : (m_X7_mask k t v σ).1 = some E := by rw [m_X7_mask, e_1, nd_some]
    exact w_out hC hW hS hout hO hce hcv hcl (Nat.le_of_ble_eq_true rfl) (Nat.le_of_ble_eq_true rfl)
  have hv_2 : vp_in k 8 := na_in hI e_1
  refine lv_astore (lv' := [(4, .ref (ad 0 k.toNatClampNeg)), (0, .ref (ad 7 0)), (1, .int k), (2, .int t), (3, .int v)]) hx hb dX7_mask_5 hl (by decide) rfl (fun ls hl => ?_)
  refine lv_aload_n hx hb dX7_mask_7 rfl (lv_at hl 1 rfl) ?_
  refine lv_iload_n hx hb dX7_mask_8 rfl (lv_at hl 3 rfl) ?_
  refine w_callVX (As := [.int t]) (rest := []) (st2 := .ref (ad 5 t.toNatClampNeg) :: []) hC hW hS hl cv_X7_103 m_7 (by decide) rfl (c_X7_needThing l hl9 D ca base ad σ t (by first | assumption | decide | omega)) rfl rfl rfl ⟨Nat.le_of_ble_eq_true rfl, Nat.le_of_ble_eq_true rfl⟩ (Nat.le_of_ble_eq_true rfl) dX7_mask_9 ⟨Nat.le_of_ble_eq_true rfl, Nat.le_of_ble_eq_true rfl⟩ (fun E ce q9 H locs e_3 hW hS hce hcv hcl => ?_) (fun e_3 H locs hW hS => ?_)
  · have hO : (m_X7_mask k t v σ).1 = some E := by rw [m_X7_mask, e_1, nd_none, e_3, nd_some]
    exact w_out hC hW hS hout hO hce hcv hcl (Nat.le_of_ble_eq_true rfl) (Nat.le_of_ble_eq_true rfl)
  have hv_4 : vp_in t 12 := nt_in hI e_3
  refine lv_astore (lv' := [(5, .ref (ad 5 t.toNatClampNeg)), (4, .ref (ad 0 k.toNatClampNeg)), (0, .ref (ad 7 0)), (1, .int k), (2, .int t), (3, .int v)]) hx hb dX7_mask_12 hl (by decide) rfl (fun ls hl => ?_)
  refine lv_iload_n hx hb dX7_mask_14 rfl (lv_at hl 5 rfl) ?_
  refine lv_iconst (v := 0) hx hb dX7_mask_15 (by decide) ?_
  refine lv_bipush (v := 7) hx hb dX7_mask_16 (by decide) ?_
  refine w_callSX (As := [.int v, .int 0, .int 7]) (rest := []) (st2 := []) hC hW hS hl cs_X7_107 (c_X7_needRange l hl9 D ca base ad σ v 0 7 ) rfl rfl rfl ⟨Nat.le_of_ble_eq_true rfl, Nat.le_of_ble_eq_true rfl⟩ (Nat.le_of_ble_eq_true rfl) dX7_mask_18 ⟨Nat.le_of_ble_eq_true rfl, Nat.le_of_ble_eq_true rfl⟩ (fun E ce q9 H locs e_5 hW hS hce hcv hcl => ?_) (fun e_5 H locs hW hS => ?_)
  · have hO : (m_X7_mask k t v σ).1 = some E := by rw [m_X7_mask, e_1, nd_none, e_3, nd_none, e_5, nd_some]
    exact w_out hC hW hS hout hO hce hcv hcl (Nat.le_of_ble_eq_true rfl) (Nat.le_of_ble_eq_true rfl)
  refine lv_aload hx hb dX7_mask_21 (lv_at hl 1 rfl) ?_
  refine lv_aload hx hb dX7_mask_23 (lv_at hl 0 rfl) ?_
  refine w_callS (As := [.ref (ad 0 k.toNatClampNeg), .ref (ad 5 t.toNatClampNeg)]) (rest := []) (st2 := .int (f_X7_mayChange k.toNatClampNeg t.toNatClampNeg σ) :: []) hC hW hS hl cs_X7_137 (c_X7_mayChange l hl9 D ca base ad σ k.toNatClampNeg t.toNatClampNeg (Nat.lt_trans (vp_lt hv_2) (by decide)) (Nat.lt_trans (vp_lt hv_4) (by decide))) rfl rfl rfl ⟨Nat.le_of_ble_eq_true rfl, Nat.le_of_ble_eq_true rfl⟩ (Nat.le_of_ble_eq_true rfl) dX7_mask_25 ⟨Nat.le_of_ble_eq_true rfl, Nat.le_of_ble_eq_true rfl⟩ (fun H locs hW hS => ?_)
  refine w_callSX (As := [.int (f_X7_mayChange k.toNatClampNeg t.toNatClampNeg σ)]) (rest := []) (st2 := []) hC hW hS hl cs_X7_141 (c_X7_needPower l hl9 D ca base ad σ (f_X7_mayChange k.toNatClampNeg t.toNatClampNeg σ) ) rfl rfl rfl ⟨Nat.le_of_ble_eq_true rfl, Nat.le_of_ble_eq_true rfl⟩ (Nat.le_of_ble_eq_true rfl) dX7_mask_28 ⟨Nat.le_of_ble_eq_true rfl, Nat.le_of_ble_eq_true rfl⟩ (fun E ce q9 H locs e_6 hW hS hce hcv hcl => ?_) (fun e_6 H locs hW hS => ?_)
  · have hO : (m_X7_mask k t v σ).1 = some E := by rw [m_X7_mask, e_1, nd_none, e_3, nd_none, e_5, nd_none, e_6, nd_some]
    exact w_out hC hW hS hout hO hce hcv hcl (Nat.le_of_ble_eq_true rfl) (Nat.le_of_ble_eq_true rfl)
  refine lv_aload hx hb dX7_mask_31 (lv_at hl 0 rfl) ?_
  refine gf_X7_145 hC hW (mm_5 (Nat.lt_trans (vp_lt hv_4) (by decide))) dX7_mask_33 ?_
  refine lv_istore (lv' := [(6, .int (σ 5 t.toNatClampNeg 6)), (5, .ref (ad 5 t.toNatClampNeg)), (4, .ref (ad 0 k.toNatClampNeg)), (0, .ref (ad 7 0)), (1, .int k), (2, .int t), (3, .int v)]) hx hb dX7_mask_36 hl (by decide) rfl (fun ls hl => ?_)
  refine lv_aload hx hb dX7_mask_38 (lv_at hl 1 rfl) ?_
  refine lv_iload_n hx hb dX7_mask_40 rfl (lv_at hl 6 rfl) ?_
  refine pf_X7_145 hC hW (mm_5 (Nat.lt_trans (vp_lt hv_4) (by decide))) hS dX7_mask_41 (fun H locs hW hS => ?_)
  refine lv_iload hx hb dX7_mask_44 (lv_at hl 0 rfl) ?_
  have hO : m_X7_mask k t v σ = (none, σ 5 t.toNatClampNeg 6, us σ 5 t.toNatClampNeg 6 v) := by rw [m_X7_mask, e_1, nd_none, e_3, nd_none, e_5, nd_none, e_6, nd_none]
  exact w_iretZ hC hW hS hO (Nat.le_of_ble_eq_true rfl) (Nat.le_of_ble_eq_true rfl) dX7_mask_46
theorem fr_X7_mask {kk : Nat}  {k : Int32} {t : Int32} {v : Int32} {σ : Sg} (h5 : kk ≠ 5) : (m_X7_mask k t v σ).2.2 kk = σ kk := by
  rw [m_X7_mask]
  repeat' split
  all_goals (first | (simp only [nd_2, us_kk, ne_eq, not_false_eq_true, h5]; done) | with_reducible rfl | (simp only [nd_2, us_kk, ne_eq, not_false_eq_true, h5]; with_reducible rfl))

def m_X7_entry (k : Int32) (t : Int32) (b : Int32) (u : Int32) (v : Int32) (d : Int32) (σ : Sg) : Option String × Int32 × Sg :=
  nd (e_X7_needActor k σ) (nd (e_X7_needThing t σ) (if b = 0 then nd (e_X7_needPlace u 6) (nd (e_X7_needRange v (-1) 7) (nd (e_X7_needPower (f_X7_mayChange k.toNatClampNeg t.toNatClampNeg σ)) (if b = 0 then (if v = (-1) then (none, f_X5_rightsOf t.toNatClampNeg u σ, s_X5_putEntry t.toNatClampNeg u v d σ)
      else if (f_X5_rightsOf t.toNatClampNeg u σ) = (-1) then nd (e_X7_needRoom (σ 5 t.toNatClampNeg 7) 5) ((none, f_X5_rightsOf t.toNatClampNeg u σ, s_X5_putEntry t.toNatClampNeg u v d σ))
      else (none, f_X5_rightsOf t.toNatClampNeg u σ, s_X5_putEntry t.toNatClampNeg u v d σ))
    else if v = (-1) then (none, f_X5_rightsOf t.toNatClampNeg ((6 : Int32) + u) σ, s_X5_putEntry t.toNatClampNeg ((6 : Int32) + u) v d σ)
    else if (f_X5_rightsOf t.toNatClampNeg ((6 : Int32) + u) σ) = (-1) then nd (e_X7_needRoom (σ 5 t.toNatClampNeg 7) 5) ((none, f_X5_rightsOf t.toNatClampNeg ((6 : Int32) + u) σ, s_X5_putEntry t.toNatClampNeg ((6 : Int32) + u) v d σ))
    else (none, f_X5_rightsOf t.toNatClampNeg ((6 : Int32) + u) σ, s_X5_putEntry t.toNatClampNeg ((6 : Int32) + u) v d σ))))
  else nd (e_X7_needPlace u 6) (nd (e_X7_needRange v (-1) 7) (nd (e_X7_needPower (f_X7_mayChange k.toNatClampNeg t.toNatClampNeg σ)) (if b = 0 then (if v = (-1) then (none, f_X5_rightsOf t.toNatClampNeg u σ, s_X5_putEntry t.toNatClampNeg u v d σ)
    else if (f_X5_rightsOf t.toNatClampNeg u σ) = (-1) then nd (e_X7_needRoom (σ 5 t.toNatClampNeg 7) 5) ((none, f_X5_rightsOf t.toNatClampNeg u σ, s_X5_putEntry t.toNatClampNeg u v d σ))
    else (none, f_X5_rightsOf t.toNatClampNeg u σ, s_X5_putEntry t.toNatClampNeg u v d σ))
  else if v = (-1) then (none, f_X5_rightsOf t.toNatClampNeg ((6 : Int32) + u) σ, s_X5_putEntry t.toNatClampNeg ((6 : Int32) + u) v d σ)
  else if (f_X5_rightsOf t.toNatClampNeg ((6 : Int32) + u) σ) = (-1) then nd (e_X7_needRoom (σ 5 t.toNatClampNeg 7) 5) ((none, f_X5_rightsOf t.toNatClampNeg ((6 : Int32) + u) σ, s_X5_putEntry t.toNatClampNeg ((6 : Int32) + u) v d σ))
  else (none, f_X5_rightsOf t.toNatClampNeg ((6 : Int32) + u) σ, s_X5_putEntry t.toNatClampNeg ((6 : Int32) + u) v d σ))))))
set_option maxHeartbeats 4000000 in
set_option maxRecDepth 100000 in
theorem c_X7_entry (l : Launch) (hl9 : l.stackTraces = false) (D : va_G) (ca : Nat → ClassId) (base : Nat) (ad : Adr) (σ : Sg) (k : Int32) (t : Int32) (b : Int32) (u : Int32) (v : Int32) (d : Int32) (hI : CInv σ) : Mx l yX7_entry cX7_entry 11 (some .int) { frames := 8, cells := 12, slots := 72, locals := 142 } D ca base ad ρm Lm [.ref (ad 7 0), .int k, .int t, .int b, .int u, .int v, .int d] σ (m_X7_entry k t b u v d σ).1 (some (.int (m_X7_entry k t b u v d σ).2.1)) (m_X7_entry k t b u v d σ).2.2 := by
  refine w_ofX (by decide) (Nat.le_of_ble_eq_true rfl) rfl ?_
  intro p e s m args below meth c hC hW hS hout ls hl
  have hx := hC.1
  have hb := hC.2.1
  refine lv_aload_n hx hb dX7_entry_0 rfl (lv_at hl 0 rfl) ?_
  refine lv_iload_n hx hb dX7_entry_1 rfl (lv_at hl 1 rfl) ?_
  refine w_callVX (As := [.int k]) (rest := []) (st2 := .ref (ad 0 k.toNatClampNeg) :: []) hC hW hS hl cv_X7_133 m_7 (by decide) rfl (c_X7_needActor l hl9 D ca base ad σ k (by first | assumption | decide | omega)) rfl rfl rfl ⟨Nat.le_of_ble_eq_true rfl, Nat.le_of_ble_eq_true rfl⟩ (Nat.le_of_ble_eq_true rfl) dX7_entry_2 ⟨Nat.le_of_ble_eq_true rfl, Nat.le_of_ble_eq_true rfl⟩ (fun E ce q9 H locs e_1 hW hS hce hcv hcl => ?_) (fun e_1 H locs hW hS => ?_)
  · have hO : (m_X7_entry k t b u v d σ).1 = some E := by rw [m_X7_entry, e_1, nd_some]
    exact w_out hC hW hS hout hO hce hcv hcl (Nat.le_of_ble_eq_true rfl) (Nat.le_of_ble_eq_true rfl)
  have hv_2 : vp_in k 8 := na_in hI e_1
  refine lv_astore (lv' := [(7, .ref (ad 0 k.toNatClampNeg)), (0, .ref (ad 7 0)), (1, .int k), (2, .int t), (3, .int b), (4, .int u), (5, .int v), (6, .int d)]) hx hb dX7_entry_5 hl (by decide) rfl (fun ls hl => ?_)
  refine lv_aload_n hx hb dX7_entry_7 rfl (lv_at hl 1 rfl) ?_
  refine lv_iload_n hx hb dX7_entry_8 rfl (lv_at hl 3 rfl) ?_
  refine w_callVX (As := [.int t]) (rest := []) (st2 := .ref (ad 5 t.toNatClampNeg) :: []) hC hW hS hl cv_X7_103 m_7 (by decide) rfl (c_X7_needThing l hl9 D ca base ad σ t (by first | assumption | decide | omega)) rfl rfl rfl ⟨Nat.le_of_ble_eq_true rfl, Nat.le_of_ble_eq_true rfl⟩ (Nat.le_of_ble_eq_true rfl) dX7_entry_9 ⟨Nat.le_of_ble_eq_true rfl, Nat.le_of_ble_eq_true rfl⟩ (fun E ce q9 H locs e_3 hW hS hce hcv hcl => ?_) (fun e_3 H locs hW hS => ?_)
  · have hO : (m_X7_entry k t b u v d σ).1 = some E := by rw [m_X7_entry, e_1, nd_none, e_3, nd_some]
    exact w_out hC hW hS hout hO hce hcv hcl (Nat.le_of_ble_eq_true rfl) (Nat.le_of_ble_eq_true rfl)
  have hv_4 : vp_in t 12 := nt_in hI e_3
  refine lv_astore (lv' := [(8, .ref (ad 5 t.toNatClampNeg)), (7, .ref (ad 0 k.toNatClampNeg)), (0, .ref (ad 7 0)), (1, .int k), (2, .int t), (3, .int b), (4, .int u), (5, .int v), (6, .int d)]) hx hb dX7_entry_12 hl (by decide) rfl (fun ls hl => ?_)
  refine lv_iload hx hb dX7_entry_14 (lv_at hl 6 rfl) ?_
  refine lv_iload_n hx hb dX7_entry_16 rfl (lv_at hl 5 rfl) ?_
  refine lv_if_eq (tgt := 25) hx hb dX7_entry_17 (by decide) (fun c_5 => ?_) (fun c_5 => ?_)
  · refine lv_bipush (v := 6) hx hb dX7_entry_25 (by decide) ?_
    refine w_callSX (As := [.int u, .int 6]) (rest := []) (st2 := []) hC hW hS hl cs_X7_76 (c_X7_needPlace l hl9 D ca base ad σ u 6 ) rfl rfl rfl ⟨Nat.le_of_ble_eq_true rfl, Nat.le_of_ble_eq_true rfl⟩ (Nat.le_of_ble_eq_true rfl) dX7_entry_27 ⟨Nat.le_of_ble_eq_true rfl, Nat.le_of_ble_eq_true rfl⟩ (fun E ce q9 H locs e_6 hW hS hce hcv hcl => ?_) (fun e_6 H locs hW hS => ?_)
    · have hO : (m_X7_entry k t b u v d σ).1 = some E := by rw [m_X7_entry, e_1, nd_none, e_3, nd_none, if_pos c_5, e_6, nd_some]
      exact w_out hC hW hS hout hO hce hcv hcl (Nat.le_of_ble_eq_true rfl) (Nat.le_of_ble_eq_true rfl)
    refine lv_iload hx hb dX7_entry_30 (lv_at hl 7 rfl) ?_
    refine lv_iconst (v := (-1)) hx hb dX7_entry_32 (by decide) ?_
    refine lv_bipush (v := 7) hx hb dX7_entry_33 (by decide) ?_
    refine w_callSX (As := [.int v, .int (-1), .int 7]) (rest := []) (st2 := []) hC hW hS hl cs_X7_107 (c_X7_needRange l hl9 D ca base ad σ v (-1) 7 ) rfl rfl rfl ⟨Nat.le_of_ble_eq_true rfl, Nat.le_of_ble_eq_true rfl⟩ (Nat.le_of_ble_eq_true rfl) dX7_entry_35 ⟨Nat.le_of_ble_eq_true rfl, Nat.le_of_ble_eq_true rfl⟩ (fun E ce q9 H locs e_7 hW hS hce hcv hcl => ?_) (fun e_7 H locs hW hS => ?_)
    · have hO : (m_X7_entry k t b u v d σ).1 = some E := by rw [m_X7_entry, e_1, nd_none, e_3, nd_none, if_pos c_5, e_6, nd_none, e_7, nd_some]
      exact w_out hC hW hS hout hO hce hcv hcl (Nat.le_of_ble_eq_true rfl) (Nat.le_of_ble_eq_true rfl)
    refine lv_aload hx hb dX7_entry_38 (lv_at hl 1 rfl) ?_
    refine lv_aload hx hb dX7_entry_40 (lv_at hl 0 rfl) ?_
    refine w_callS (As := [.ref (ad 0 k.toNatClampNeg), .ref (ad 5 t.toNatClampNeg)]) (rest := []) (st2 := .int (f_X7_mayChange k.toNatClampNeg t.toNatClampNeg σ) :: []) hC hW hS hl cs_X7_137 (c_X7_mayChange l hl9 D ca base ad σ k.toNatClampNeg t.toNatClampNeg (Nat.lt_trans (vp_lt hv_2) (by decide)) (Nat.lt_trans (vp_lt hv_4) (by decide))) rfl rfl rfl ⟨Nat.le_of_ble_eq_true rfl, Nat.le_of_ble_eq_true rfl⟩ (Nat.le_of_ble_eq_true rfl) dX7_entry_42 ⟨Nat.le_of_ble_eq_true rfl, Nat.le_of_ble_eq_true rfl⟩ (fun H locs hW hS => ?_)
    refine w_callSX (As := [.int (f_X7_mayChange k.toNatClampNeg t.toNatClampNeg σ)]) (rest := []) (st2 := []) hC hW hS hl cs_X7_141 (c_X7_needPower l hl9 D ca base ad σ (f_X7_mayChange k.toNatClampNeg t.toNatClampNeg σ) ) rfl rfl rfl ⟨Nat.le_of_ble_eq_true rfl, Nat.le_of_ble_eq_true rfl⟩ (Nat.le_of_ble_eq_true rfl) dX7_entry_45 ⟨Nat.le_of_ble_eq_true rfl, Nat.le_of_ble_eq_true rfl⟩ (fun E ce q9 H locs e_8 hW hS hce hcv hcl => ?_) (fun e_8 H locs hW hS => ?_)
    · have hO : (m_X7_entry k t b u v d σ).1 = some E := by rw [m_X7_entry, e_1, nd_none, e_3, nd_none, if_pos c_5, e_6, nd_none, e_7, nd_none, e_8, nd_some]
      exact w_out hC hW hS hout hO hce hcv hcl (Nat.le_of_ble_eq_true rfl) (Nat.le_of_ble_eq_true rfl)
    refine lv_iload_n hx hb dX7_entry_48 rfl (lv_at hl 5 rfl) ?_
    refine lv_if_eq (tgt := 60) hx hb dX7_entry_49 (by decide) (fun c_9 => ?_) (fun c_9 => ?_)
    · refine lv_iload hx hb dX7_entry_60 (lv_at hl 6 rfl) ?_
      refine lv_istore (lv' := [(9, .int u), (8, .ref (ad 5 t.toNatClampNeg)), (7, .ref (ad 0 k.toNatClampNeg)), (0, .ref (ad 7 0)), (1, .int k), (2, .int t), (3, .int b), (4, .int u), (5, .int v), (6, .int d)]) hx hb dX7_entry_62 hl (by decide) rfl (fun ls hl => ?_)
      refine lv_aload hx hb dX7_entry_64 (lv_at hl 1 rfl) ?_
      refine lv_iload hx hb dX7_entry_66 (lv_at hl 0 rfl) ?_
      refine w_callV (As := [.int u]) (rest := []) (st2 := .int (f_X5_rightsOf t.toNatClampNeg u σ) :: []) hC hW hS hl cv_X7_148 (mm_5 (Nat.lt_trans (vp_lt hv_4) (by decide))) (by decide) rfl (c_X5_rightsOf l hl9 D ca base ad σ t.toNatClampNeg u (Nat.lt_trans (vp_lt hv_4) (by decide))) rfl rfl rfl ⟨Nat.le_of_ble_eq_true rfl, Nat.le_of_ble_eq_true rfl⟩ (Nat.le_of_ble_eq_true rfl) dX7_entry_68 ⟨Nat.le_of_ble_eq_true rfl, Nat.le_of_ble_eq_true rfl⟩ (fun H locs hW hS => ?_)
      refine lv_istore (lv' := [(10, .int (f_X5_rightsOf t.toNatClampNeg u σ)), (9, .int u), (8, .ref (ad 5 t.toNatClampNeg)), (7, .ref (ad 0 k.toNatClampNeg)), (0, .ref (ad 7 0)), (1, .int k), (2, .int t), (3, .int b), (4, .int u), (5, .int v), (6, .int d)]) hx hb dX7_entry_71 hl (by decide) rfl (fun ls hl => ?_)
      refine lv_iload hx hb dX7_entry_73 (lv_at hl 9 rfl) ?_
      refine lv_iconst (v := (-1)) hx hb dX7_entry_75 (by decide) ?_
      refine lv_icmp_eq (tgt := 94) hx hb dX7_entry_76 (by decide) (fun c_10 => ?_) (fun c_10 => ?_)
      · refine lv_aload hx hb dX7_entry_94 (lv_at hl 2 rfl) ?_
        refine lv_iload hx hb dX7_entry_96 (lv_at hl 1 rfl) ?_
        refine lv_iload hx hb dX7_entry_98 (lv_at hl 9 rfl) ?_
        refine lv_iload hx hb dX7_entry_100 (lv_at hl 10 rfl) ?_
        refine w_callV (As := [.int u, .int v, .int d]) (rest := []) (st2 := []) hC hW hS hl cv_X7_154 (mm_5 (Nat.lt_trans (vp_lt hv_4) (by decide))) (by decide) rfl (c_X5_putEntry l hl9 D ca base ad σ t.toNatClampNeg u v d (Nat.lt_trans (vp_lt hv_4) (by decide))) rfl rfl rfl ⟨Nat.le_of_ble_eq_true rfl, Nat.le_of_ble_eq_true rfl⟩ (Nat.le_of_ble_eq_true rfl) dX7_entry_102 ⟨Nat.le_of_ble_eq_true rfl, Nat.le_of_ble_eq_true rfl⟩ (fun H locs hW hS => ?_)
        refine lv_iload hx hb dX7_entry_105 (lv_at hl 0 rfl) ?_
        have hO : m_X7_entry k t b u v d σ = (none, f_X5_rightsOf t.toNatClampNeg u σ, s_X5_putEntry t.toNatClampNeg u v d σ) := by rw [m_X7_entry, e_1, nd_none, e_3, nd_none, if_pos c_5, e_6, nd_none, e_7, nd_none, e_8, nd_none, if_pos c_9, if_pos c_10]
        exact w_iretZ hC hW hS hO (Nat.le_of_ble_eq_true rfl) (Nat.le_of_ble_eq_true rfl) dX7_entry_107
      · refine lv_iload hx hb dX7_entry_79 (lv_at hl 0 rfl) ?_
        refine lv_iconst (v := (-1)) hx hb dX7_entry_81 (by decide) ?_
        refine lv_icmp_ne (tgt := 94) hx hb dX7_entry_82 (by decide) (fun c_11 => ?_) (fun c_11 => ?_)
        · refine lv_aload hx hb dX7_entry_94 (lv_at hl 2 rfl) ?_
          refine lv_iload hx hb dX7_entry_96 (lv_at hl 1 rfl) ?_
          refine lv_iload hx hb dX7_entry_98 (lv_at hl 9 rfl) ?_
          refine lv_iload hx hb dX7_entry_100 (lv_at hl 10 rfl) ?_
          refine w_callV (As := [.int u, .int v, .int d]) (rest := []) (st2 := []) hC hW hS hl cv_X7_154 (mm_5 (Nat.lt_trans (vp_lt hv_4) (by decide))) (by decide) rfl (c_X5_putEntry l hl9 D ca base ad σ t.toNatClampNeg u v d (Nat.lt_trans (vp_lt hv_4) (by decide))) rfl rfl rfl ⟨Nat.le_of_ble_eq_true rfl, Nat.le_of_ble_eq_true rfl⟩ (Nat.le_of_ble_eq_true rfl) dX7_entry_102 ⟨Nat.le_of_ble_eq_true rfl, Nat.le_of_ble_eq_true rfl⟩ (fun H locs hW hS => ?_)
          refine lv_iload hx hb dX7_entry_105 (lv_at hl 0 rfl) ?_
          have hO : m_X7_entry k t b u v d σ = (none, f_X5_rightsOf t.toNatClampNeg u σ, s_X5_putEntry t.toNatClampNeg u v d σ) := by rw [m_X7_entry, e_1, nd_none, e_3, nd_none, if_pos c_5, e_6, nd_none, e_7, nd_none, e_8, nd_none, if_pos c_9, if_neg c_10, if_neg c_11]
          exact w_iretZ hC hW hS hO (Nat.le_of_ble_eq_true rfl) (Nat.le_of_ble_eq_true rfl) dX7_entry_107
        · refine lv_aload hx hb dX7_entry_85 (lv_at hl 2 rfl) ?_
          refine gf_X7_151 hC hW (mm_5 (Nat.lt_trans (vp_lt hv_4) (by decide))) dX7_entry_87 ?_
          refine lv_iconst (v := 5) hx hb dX7_entry_90 (by decide) ?_
          refine w_callSX (As := [.int (σ 5 t.toNatClampNeg 7), .int 5]) (rest := []) (st2 := []) hC hW hS hl cs_X7_114 (c_X7_needRoom l hl9 D ca base ad σ (σ 5 t.toNatClampNeg 7) 5 ) rfl rfl rfl ⟨Nat.le_of_ble_eq_true rfl, Nat.le_of_ble_eq_true rfl⟩ (Nat.le_of_ble_eq_true rfl) dX7_entry_91 ⟨Nat.le_of_ble_eq_true rfl, Nat.le_of_ble_eq_true rfl⟩ (fun E ce q9 H locs e_12 hW hS hce hcv hcl => ?_) (fun e_12 H locs hW hS => ?_)
          · have hO : (m_X7_entry k t b u v d σ).1 = some E := by rw [m_X7_entry, e_1, nd_none, e_3, nd_none, if_pos c_5, e_6, nd_none, e_7, nd_none, e_8, nd_none, if_pos c_9, if_neg c_10, if_pos c_11, e_12, nd_some]
            exact w_out hC hW hS hout hO hce hcv hcl (Nat.le_of_ble_eq_true rfl) (Nat.le_of_ble_eq_true rfl)
          refine lv_aload hx hb dX7_entry_94 (lv_at hl 2 rfl) ?_
          refine lv_iload hx hb dX7_entry_96 (lv_at hl 1 rfl) ?_
          refine lv_iload hx hb dX7_entry_98 (lv_at hl 9 rfl) ?_
          refine lv_iload hx hb dX7_entry_100 (lv_at hl 10 rfl) ?_
          refine w_callV (As := [.int u, .int v, .int d]) (rest := []) (st2 := []) hC hW hS hl cv_X7_154 (mm_5 (Nat.lt_trans (vp_lt hv_4) (by decide))) (by decide) rfl (c_X5_putEntry l hl9 D ca base ad σ t.toNatClampNeg u v d (Nat.lt_trans (vp_lt hv_4) (by decide))) rfl rfl rfl ⟨Nat.le_of_ble_eq_true rfl, Nat.le_of_ble_eq_true rfl⟩ (Nat.le_of_ble_eq_true rfl) dX7_entry_102 ⟨Nat.le_of_ble_eq_true rfl, Nat.le_of_ble_eq_true rfl⟩ (fun H locs hW hS => ?_)
          refine lv_iload hx hb dX7_entry_105 (lv_at hl 0 rfl) ?_
          have hO : m_X7_entry k t b u v d σ = (none, f_X5_rightsOf t.toNatClampNeg u σ, s_X5_putEntry t.toNatClampNeg u v d σ) := by rw [m_X7_entry, e_1, nd_none, e_3, nd_none, if_pos c_5, e_6, nd_none, e_7, nd_none, e_8, nd_none, if_pos c_9, if_neg c_10, if_pos c_11, e_12, nd_none]
          exact w_iretZ hC hW hS hO (Nat.le_of_ble_eq_true rfl) (Nat.le_of_ble_eq_true rfl) dX7_entry_107
    · refine lv_bipush (v := 6) hx hb dX7_entry_52 (by decide) ?_
      refine lv_iload hx hb dX7_entry_54 (lv_at hl 6 rfl) ?_
      refine lv_iadd hx hb dX7_entry_56 ?_
      refine lv_goto (tgt := 62) hx hb dX7_entry_57 (by decide) ?_
      refine lv_istore (lv' := [(9, .int ((6 : Int32) + u)), (8, .ref (ad 5 t.toNatClampNeg)), (7, .ref (ad 0 k.toNatClampNeg)), (0, .ref (ad 7 0)), (1, .int k), (2, .int t), (3, .int b), (4, .int u), (5, .int v), (6, .int d)]) hx hb dX7_entry_62 hl (by decide) rfl (fun ls hl => ?_)
      refine lv_aload hx hb dX7_entry_64 (lv_at hl 1 rfl) ?_
      refine lv_iload hx hb dX7_entry_66 (lv_at hl 0 rfl) ?_
      refine w_callV (As := [.int ((6 : Int32) + u)]) (rest := []) (st2 := .int (f_X5_rightsOf t.toNatClampNeg ((6 : Int32) + u) σ) :: []) hC hW hS hl cv_X7_148 (mm_5 (Nat.lt_trans (vp_lt hv_4) (by decide))) (by decide) rfl (c_X5_rightsOf l hl9 D ca base ad σ t.toNatClampNeg ((6 : Int32) + u) (Nat.lt_trans (vp_lt hv_4) (by decide))) rfl rfl rfl ⟨Nat.le_of_ble_eq_true rfl, Nat.le_of_ble_eq_true rfl⟩ (Nat.le_of_ble_eq_true rfl) dX7_entry_68 ⟨Nat.le_of_ble_eq_true rfl, Nat.le_of_ble_eq_true rfl⟩ (fun H locs hW hS => ?_)
      refine lv_istore (lv' := [(10, .int (f_X5_rightsOf t.toNatClampNeg ((6 : Int32) + u) σ)), (9, .int ((6 : Int32) + u)), (8, .ref (ad 5 t.toNatClampNeg)), (7, .ref (ad 0 k.toNatClampNeg)), (0, .ref (ad 7 0)), (1, .int k), (2, .int t), (3, .int b), (4, .int u), (5, .int v), (6, .int d)]) hx hb dX7_entry_71 hl (by decide) rfl (fun ls hl => ?_)
      refine lv_iload hx hb dX7_entry_73 (lv_at hl 9 rfl) ?_
      refine lv_iconst (v := (-1)) hx hb dX7_entry_75 (by decide) ?_
      refine lv_icmp_eq (tgt := 94) hx hb dX7_entry_76 (by decide) (fun c_13 => ?_) (fun c_13 => ?_)
      · refine lv_aload hx hb dX7_entry_94 (lv_at hl 2 rfl) ?_
        refine lv_iload hx hb dX7_entry_96 (lv_at hl 1 rfl) ?_
        refine lv_iload hx hb dX7_entry_98 (lv_at hl 9 rfl) ?_
        refine lv_iload hx hb dX7_entry_100 (lv_at hl 10 rfl) ?_
        refine w_callV (As := [.int ((6 : Int32) + u), .int v, .int d]) (rest := []) (st2 := []) hC hW hS hl cv_X7_154 (mm_5 (Nat.lt_trans (vp_lt hv_4) (by decide))) (by decide) rfl (c_X5_putEntry l hl9 D ca base ad σ t.toNatClampNeg ((6 : Int32) + u) v d (Nat.lt_trans (vp_lt hv_4) (by decide))) rfl rfl rfl ⟨Nat.le_of_ble_eq_true rfl, Nat.le_of_ble_eq_true rfl⟩ (Nat.le_of_ble_eq_true rfl) dX7_entry_102 ⟨Nat.le_of_ble_eq_true rfl, Nat.le_of_ble_eq_true rfl⟩ (fun H locs hW hS => ?_)
        refine lv_iload hx hb dX7_entry_105 (lv_at hl 0 rfl) ?_
        have hO : m_X7_entry k t b u v d σ = (none, f_X5_rightsOf t.toNatClampNeg ((6 : Int32) + u) σ, s_X5_putEntry t.toNatClampNeg ((6 : Int32) + u) v d σ) := by rw [m_X7_entry, e_1, nd_none, e_3, nd_none, if_pos c_5, e_6, nd_none, e_7, nd_none, e_8, nd_none, if_neg c_9, if_pos c_13]
        exact w_iretZ hC hW hS hO (Nat.le_of_ble_eq_true rfl) (Nat.le_of_ble_eq_true rfl) dX7_entry_107
      · refine lv_iload hx hb dX7_entry_79 (lv_at hl 0 rfl) ?_
        refine lv_iconst (v := (-1)) hx hb dX7_entry_81 (by decide) ?_
        refine lv_icmp_ne (tgt := 94) hx hb dX7_entry_82 (by decide) (fun c_14 => ?_) (fun c_14 => ?_)
        · refine lv_aload hx hb dX7_entry_94 (lv_at hl 2 rfl) ?_
          refine lv_iload hx hb dX7_entry_96 (lv_at hl 1 rfl) ?_
          refine lv_iload hx hb dX7_entry_98 (lv_at hl 9 rfl) ?_
          refine lv_iload hx hb dX7_entry_100 (lv_at hl 10 rfl) ?_
          refine w_callV (As := [.int ((6 : Int32) + u), .int v, .int d]) (rest := []) (st2 := []) hC hW hS hl cv_X7_154 (mm_5 (Nat.lt_trans (vp_lt hv_4) (by decide))) (by decide) rfl (c_X5_putEntry l hl9 D ca base ad σ t.toNatClampNeg ((6 : Int32) + u) v d (Nat.lt_trans (vp_lt hv_4) (by decide))) rfl rfl rfl ⟨Nat.le_of_ble_eq_true rfl, Nat.le_of_ble_eq_true rfl⟩ (Nat.le_of_ble_eq_true rfl) dX7_entry_102 ⟨Nat.le_of_ble_eq_true rfl, Nat.le_of_ble_eq_true rfl⟩ (fun H locs hW hS => ?_)
          refine lv_iload hx hb dX7_entry_105 (lv_at hl 0 rfl) ?_
          have hO : m_X7_entry k t b u v d σ = (none, f_X5_rightsOf t.toNatClampNeg ((6 : Int32) + u) σ, s_X5_putEntry t.toNatClampNeg ((6 : Int32) + u) v d σ) := by rw [m_X7_entry, e_1, nd_none, e_3, nd_none, if_pos c_5, e_6, nd_none, e_7, nd_none, e_8, nd_none, if_neg c_9, if_neg c_13, if_neg c_14]
          exact w_iretZ hC hW hS hO (Nat.le_of_ble_eq_true rfl) (Nat.le_of_ble_eq_true rfl) dX7_entry_107
        · refine lv_aload hx hb dX7_entry_85 (lv_at hl 2 rfl) ?_
          refine gf_X7_151 hC hW (mm_5 (Nat.lt_trans (vp_lt hv_4) (by decide))) dX7_entry_87 ?_
          refine lv_iconst (v := 5) hx hb dX7_entry_90 (by decide) ?_
          refine w_callSX (As := [.int (σ 5 t.toNatClampNeg 7), .int 5]) (rest := []) (st2 := []) hC hW hS hl cs_X7_114 (c_X7_needRoom l hl9 D ca base ad σ (σ 5 t.toNatClampNeg 7) 5 ) rfl rfl rfl ⟨Nat.le_of_ble_eq_true rfl, Nat.le_of_ble_eq_true rfl⟩ (Nat.le_of_ble_eq_true rfl) dX7_entry_91 ⟨Nat.le_of_ble_eq_true rfl, Nat.le_of_ble_eq_true rfl⟩ (fun E ce q9 H locs e_15 hW hS hce hcv hcl => ?_) (fun e_15 H locs hW hS => ?_)
          · have hO : (m_X7_entry k t b u v d σ).1 = some E := by rw [m_X7_entry, e_1, nd_none, e_3, nd_none, if_pos c_5, e_6, nd_none, e_7, nd_none, e_8, nd_none, if_neg c_9, if_neg c_13, if_pos c_14, e_15, nd_some]
            exact w_out hC hW hS hout hO hce hcv hcl (Nat.le_of_ble_eq_true rfl) (Nat.le_of_ble_eq_true rfl)
          refine lv_aload hx hb dX7_entry_94 (lv_at hl 2 rfl) ?_
          refine lv_iload hx hb dX7_entry_96 (lv_at hl 1 rfl) ?_
          refine lv_iload hx hb dX7_entry_98 (lv_at hl 9 rfl) ?_
          refine lv_iload hx hb dX7_entry_100 (lv_at hl 10 rfl) ?_
          refine w_callV (As := [.int ((6 : Int32) + u), .int v, .int d]) (rest := []) (st2 := []) hC hW hS hl cv_X7_154 (mm_5 (Nat.lt_trans (vp_lt hv_4) (by decide))) (by decide) rfl (c_X5_putEntry l hl9 D ca base ad σ t.toNatClampNeg ((6 : Int32) + u) v d (Nat.lt_trans (vp_lt hv_4) (by decide))) rfl rfl rfl ⟨Nat.le_of_ble_eq_true rfl, Nat.le_of_ble_eq_true rfl⟩ (Nat.le_of_ble_eq_true rfl) dX7_entry_102 ⟨Nat.le_of_ble_eq_true rfl, Nat.le_of_ble_eq_true rfl⟩ (fun H locs hW hS => ?_)
          refine lv_iload hx hb dX7_entry_105 (lv_at hl 0 rfl) ?_
          have hO : m_X7_entry k t b u v d σ = (none, f_X5_rightsOf t.toNatClampNeg ((6 : Int32) + u) σ, s_X5_putEntry t.toNatClampNeg ((6 : Int32) + u) v d σ) := by rw [m_X7_entry, e_1, nd_none, e_3, nd_none, if_pos c_5, e_6, nd_none, e_7, nd_none, e_8, nd_none, if_neg c_9, if_neg c_13, if_pos c_14, e_15, nd_none]
          exact w_iretZ hC hW hS hO (Nat.le_of_ble_eq_true rfl) (Nat.le_of_ble_eq_true rfl) dX7_entry_107
  · refine lv_bipush (v := 6) hx hb dX7_entry_20 (by decide) ?_
    refine lv_goto (tgt := 27) hx hb dX7_entry_22 (by decide) ?_
    refine w_callSX (As := [.int u, .int 6]) (rest := []) (st2 := []) hC hW hS hl cs_X7_76 (c_X7_needPlace l hl9 D ca base ad σ u 6 ) rfl rfl rfl ⟨Nat.le_of_ble_eq_true rfl, Nat.le_of_ble_eq_true rfl⟩ (Nat.le_of_ble_eq_true rfl) dX7_entry_27 ⟨Nat.le_of_ble_eq_true rfl, Nat.le_of_ble_eq_true rfl⟩ (fun E ce q9 H locs e_16 hW hS hce hcv hcl => ?_) (fun e_16 H locs hW hS => ?_)
    · have hO : (m_X7_entry k t b u v d σ).1 = some E := by rw [m_X7_entry, e_1, nd_none, e_3, nd_none, if_neg c_5, e_16, nd_some]
      exact w_out hC hW hS hout hO hce hcv hcl (Nat.le_of_ble_eq_true rfl) (Nat.le_of_ble_eq_true rfl)
    refine lv_iload hx hb dX7_entry_30 (lv_at hl 7 rfl) ?_
    refine lv_iconst (v := (-1)) hx hb dX7_entry_32 (by decide) ?_
    refine lv_bipush (v := 7) hx hb dX7_entry_33 (by decide) ?_
    refine w_callSX (As := [.int v, .int (-1), .int 7]) (rest := []) (st2 := []) hC hW hS hl cs_X7_107 (c_X7_needRange l hl9 D ca base ad σ v (-1) 7 ) rfl rfl rfl ⟨Nat.le_of_ble_eq_true rfl, Nat.le_of_ble_eq_true rfl⟩ (Nat.le_of_ble_eq_true rfl) dX7_entry_35 ⟨Nat.le_of_ble_eq_true rfl, Nat.le_of_ble_eq_true rfl⟩ (fun E ce q9 H locs e_17 hW hS hce hcv hcl => ?_) (fun e_17 H locs hW hS => ?_)
    · have hO : (m_X7_entry k t b u v d σ).1 = some E := by rw [m_X7_entry, e_1, nd_none, e_3, nd_none, if_neg c_5, e_16, nd_none, e_17, nd_some]
      exact w_out hC hW hS hout hO hce hcv hcl (Nat.le_of_ble_eq_true rfl) (Nat.le_of_ble_eq_true rfl)
    refine lv_aload hx hb dX7_entry_38 (lv_at hl 1 rfl) ?_
    refine lv_aload hx hb dX7_entry_40 (lv_at hl 0 rfl) ?_
    refine w_callS (As := [.ref (ad 0 k.toNatClampNeg), .ref (ad 5 t.toNatClampNeg)]) (rest := []) (st2 := .int (f_X7_mayChange k.toNatClampNeg t.toNatClampNeg σ) :: []) hC hW hS hl cs_X7_137 (c_X7_mayChange l hl9 D ca base ad σ k.toNatClampNeg t.toNatClampNeg (Nat.lt_trans (vp_lt hv_2) (by decide)) (Nat.lt_trans (vp_lt hv_4) (by decide))) rfl rfl rfl ⟨Nat.le_of_ble_eq_true rfl, Nat.le_of_ble_eq_true rfl⟩ (Nat.le_of_ble_eq_true rfl) dX7_entry_42 ⟨Nat.le_of_ble_eq_true rfl, Nat.le_of_ble_eq_true rfl⟩ (fun H locs hW hS => ?_)
    refine w_callSX (As := [.int (f_X7_mayChange k.toNatClampNeg t.toNatClampNeg σ)]) (rest := []) (st2 := []) hC hW hS hl cs_X7_141 (c_X7_needPower l hl9 D ca base ad σ (f_X7_mayChange k.toNatClampNeg t.toNatClampNeg σ) ) rfl rfl rfl ⟨Nat.le_of_ble_eq_true rfl, Nat.le_of_ble_eq_true rfl⟩ (Nat.le_of_ble_eq_true rfl) dX7_entry_45 ⟨Nat.le_of_ble_eq_true rfl, Nat.le_of_ble_eq_true rfl⟩ (fun E ce q9 H locs e_18 hW hS hce hcv hcl => ?_) (fun e_18 H locs hW hS => ?_)
    · have hO : (m_X7_entry k t b u v d σ).1 = some E := by rw [m_X7_entry, e_1, nd_none, e_3, nd_none, if_neg c_5, e_16, nd_none, e_17, nd_none, e_18, nd_some]
      exact w_out hC hW hS hout hO hce hcv hcl (Nat.le_of_ble_eq_true rfl) (Nat.le_of_ble_eq_true rfl)
    refine lv_iload_n hx hb dX7_entry_48 rfl (lv_at hl 5 rfl) ?_
    refine lv_if_eq (tgt := 60) hx hb dX7_entry_49 (by decide) (fun c_19 => ?_) (fun c_19 => ?_)
    · refine lv_iload hx hb dX7_entry_60 (lv_at hl 6 rfl) ?_
      refine lv_istore (lv' := [(9, .int u), (8, .ref (ad 5 t.toNatClampNeg)), (7, .ref (ad 0 k.toNatClampNeg)), (0, .ref (ad 7 0)), (1, .int k), (2, .int t), (3, .int b), (4, .int u), (5, .int v), (6, .int d)]) hx hb dX7_entry_62 hl (by decide) rfl (fun ls hl => ?_)
      refine lv_aload hx hb dX7_entry_64 (lv_at hl 1 rfl) ?_
      refine lv_iload hx hb dX7_entry_66 (lv_at hl 0 rfl) ?_
      refine w_callV (As := [.int u]) (rest := []) (st2 := .int (f_X5_rightsOf t.toNatClampNeg u σ) :: []) hC hW hS hl cv_X7_148 (mm_5 (Nat.lt_trans (vp_lt hv_4) (by decide))) (by decide) rfl (c_X5_rightsOf l hl9 D ca base ad σ t.toNatClampNeg u (Nat.lt_trans (vp_lt hv_4) (by decide))) rfl rfl rfl ⟨Nat.le_of_ble_eq_true rfl, Nat.le_of_ble_eq_true rfl⟩ (Nat.le_of_ble_eq_true rfl) dX7_entry_68 ⟨Nat.le_of_ble_eq_true rfl, Nat.le_of_ble_eq_true rfl⟩ (fun H locs hW hS => ?_)
      refine lv_istore (lv' := [(10, .int (f_X5_rightsOf t.toNatClampNeg u σ)), (9, .int u), (8, .ref (ad 5 t.toNatClampNeg)), (7, .ref (ad 0 k.toNatClampNeg)), (0, .ref (ad 7 0)), (1, .int k), (2, .int t), (3, .int b), (4, .int u), (5, .int v), (6, .int d)]) hx hb dX7_entry_71 hl (by decide) rfl (fun ls hl => ?_)
      refine lv_iload hx hb dX7_entry_73 (lv_at hl 9 rfl) ?_
      refine lv_iconst (v := (-1)) hx hb dX7_entry_75 (by decide) ?_
      refine lv_icmp_eq (tgt := 94) hx hb dX7_entry_76 (by decide) (fun c_20 => ?_) (fun c_20 => ?_)
      · refine lv_aload hx hb dX7_entry_94 (lv_at hl 2 rfl) ?_
        refine lv_iload hx hb dX7_entry_96 (lv_at hl 1 rfl) ?_
        refine lv_iload hx hb dX7_entry_98 (lv_at hl 9 rfl) ?_
        refine lv_iload hx hb dX7_entry_100 (lv_at hl 10 rfl) ?_
        refine w_callV (As := [.int u, .int v, .int d]) (rest := []) (st2 := []) hC hW hS hl cv_X7_154 (mm_5 (Nat.lt_trans (vp_lt hv_4) (by decide))) (by decide) rfl (c_X5_putEntry l hl9 D ca base ad σ t.toNatClampNeg u v d (Nat.lt_trans (vp_lt hv_4) (by decide))) rfl rfl rfl ⟨Nat.le_of_ble_eq_true rfl, Nat.le_of_ble_eq_true rfl⟩ (Nat.le_of_ble_eq_true rfl) dX7_entry_102 ⟨Nat.le_of_ble_eq_true rfl, Nat.le_of_ble_eq_true rfl⟩ (fun H locs hW hS => ?_)
        refine lv_iload hx hb dX7_entry_105 (lv_at hl 0 rfl) ?_
        have hO : m_X7_entry k t b u v d σ = (none, f_X5_rightsOf t.toNatClampNeg u σ, s_X5_putEntry t.toNatClampNeg u v d σ) := by rw [m_X7_entry, e_1, nd_none, e_3, nd_none, if_neg c_5, e_16, nd_none, e_17, nd_none, e_18, nd_none, if_pos c_19, if_pos c_20]
        exact w_iretZ hC hW hS hO (Nat.le_of_ble_eq_true rfl) (Nat.le_of_ble_eq_true rfl) dX7_entry_107
      · refine lv_iload hx hb dX7_entry_79 (lv_at hl 0 rfl) ?_
        refine lv_iconst (v := (-1)) hx hb dX7_entry_81 (by decide) ?_
        refine lv_icmp_ne (tgt := 94) hx hb dX7_entry_82 (by decide) (fun c_21 => ?_) (fun c_21 => ?_)
        · refine lv_aload hx hb dX7_entry_94 (lv_at hl 2 rfl) ?_
          refine lv_iload hx hb dX7_entry_96 (lv_at hl 1 rfl) ?_
          refine lv_iload hx hb dX7_entry_98 (lv_at hl 9 rfl) ?_
          refine lv_iload hx hb dX7_entry_100 (lv_at hl 10 rfl) ?_
          refine w_callV (As := [.int u, .int v, .int d]) (rest := []) (st2 := []) hC hW hS hl cv_X7_154 (mm_5 (Nat.lt_trans (vp_lt hv_4) (by decide))) (by decide) rfl (c_X5_putEntry l hl9 D ca base ad σ t.toNatClampNeg u v d (Nat.lt_trans (vp_lt hv_4) (by decide))) rfl rfl rfl ⟨Nat.le_of_ble_eq_true rfl, Nat.le_of_ble_eq_true rfl⟩ (Nat.le_of_ble_eq_true rfl) dX7_entry_102 ⟨Nat.le_of_ble_eq_true rfl, Nat.le_of_ble_eq_true rfl⟩ (fun H locs hW hS => ?_)
          refine lv_iload hx hb dX7_entry_105 (lv_at hl 0 rfl) ?_
          have hO : m_X7_entry k t b u v d σ = (none, f_X5_rightsOf t.toNatClampNeg u σ, s_X5_putEntry t.toNatClampNeg u v d σ) := by rw [m_X7_entry, e_1, nd_none, e_3, nd_none, if_neg c_5, e_16, nd_none, e_17, nd_none, e_18, nd_none, if_pos c_19, if_neg c_20, if_neg c_21]
          exact w_iretZ hC hW hS hO (Nat.le_of_ble_eq_true rfl) (Nat.le_of_ble_eq_true rfl) dX7_entry_107
        · refine lv_aload hx hb dX7_entry_85 (lv_at hl 2 rfl) ?_
          refine gf_X7_151 hC hW (mm_5 (Nat.lt_trans (vp_lt hv_4) (by decide))) dX7_entry_87 ?_
          refine lv_iconst (v := 5) hx hb dX7_entry_90 (by decide) ?_
          refine w_callSX (As := [.int (σ 5 t.toNatClampNeg 7), .int 5]) (rest := []) (st2 := []) hC hW hS hl cs_X7_114 (c_X7_needRoom l hl9 D ca base ad σ (σ 5 t.toNatClampNeg 7) 5 ) rfl rfl rfl ⟨Nat.le_of_ble_eq_true rfl, Nat.le_of_ble_eq_true rfl⟩ (Nat.le_of_ble_eq_true rfl) dX7_entry_91 ⟨Nat.le_of_ble_eq_true rfl, Nat.le_of_ble_eq_true rfl⟩ (fun E ce q9 H locs e_22 hW hS hce hcv hcl => ?_) (fun e_22 H locs hW hS => ?_)
          · have hO : (m_X7_entry k t b u v d σ).1 = some E := by rw [m_X7_entry, e_1, nd_none, e_3, nd_none, if_neg c_5, e_16, nd_none, e_17, nd_none, e_18, nd_none, if_pos c_19, if_neg c_20, if_pos c_21, e_22, nd_some]
            exact w_out hC hW hS hout hO hce hcv hcl (Nat.le_of_ble_eq_true rfl) (Nat.le_of_ble_eq_true rfl)
          refine lv_aload hx hb dX7_entry_94 (lv_at hl 2 rfl) ?_
          refine lv_iload hx hb dX7_entry_96 (lv_at hl 1 rfl) ?_
          refine lv_iload hx hb dX7_entry_98 (lv_at hl 9 rfl) ?_
          refine lv_iload hx hb dX7_entry_100 (lv_at hl 10 rfl) ?_
          refine w_callV (As := [.int u, .int v, .int d]) (rest := []) (st2 := []) hC hW hS hl cv_X7_154 (mm_5 (Nat.lt_trans (vp_lt hv_4) (by decide))) (by decide) rfl (c_X5_putEntry l hl9 D ca base ad σ t.toNatClampNeg u v d (Nat.lt_trans (vp_lt hv_4) (by decide))) rfl rfl rfl ⟨Nat.le_of_ble_eq_true rfl, Nat.le_of_ble_eq_true rfl⟩ (Nat.le_of_ble_eq_true rfl) dX7_entry_102 ⟨Nat.le_of_ble_eq_true rfl, Nat.le_of_ble_eq_true rfl⟩ (fun H locs hW hS => ?_)
          refine lv_iload hx hb dX7_entry_105 (lv_at hl 0 rfl) ?_
          have hO : m_X7_entry k t b u v d σ = (none, f_X5_rightsOf t.toNatClampNeg u σ, s_X5_putEntry t.toNatClampNeg u v d σ) := by rw [m_X7_entry, e_1, nd_none, e_3, nd_none, if_neg c_5, e_16, nd_none, e_17, nd_none, e_18, nd_none, if_pos c_19, if_neg c_20, if_pos c_21, e_22, nd_none]
          exact w_iretZ hC hW hS hO (Nat.le_of_ble_eq_true rfl) (Nat.le_of_ble_eq_true rfl) dX7_entry_107
    · refine lv_bipush (v := 6) hx hb dX7_entry_52 (by decide) ?_
      refine lv_iload hx hb dX7_entry_54 (lv_at hl 6 rfl) ?_
      refine lv_iadd hx hb dX7_entry_56 ?_
      refine lv_goto (tgt := 62) hx hb dX7_entry_57 (by decide) ?_
      refine lv_istore (lv' := [(9, .int ((6 : Int32) + u)), (8, .ref (ad 5 t.toNatClampNeg)), (7, .ref (ad 0 k.toNatClampNeg)), (0, .ref (ad 7 0)), (1, .int k), (2, .int t), (3, .int b), (4, .int u), (5, .int v), (6, .int d)]) hx hb dX7_entry_62 hl (by decide) rfl (fun ls hl => ?_)
      refine lv_aload hx hb dX7_entry_64 (lv_at hl 1 rfl) ?_
      refine lv_iload hx hb dX7_entry_66 (lv_at hl 0 rfl) ?_
      refine w_callV (As := [.int ((6 : Int32) + u)]) (rest := []) (st2 := .int (f_X5_rightsOf t.toNatClampNeg ((6 : Int32) + u) σ) :: []) hC hW hS hl cv_X7_148 (mm_5 (Nat.lt_trans (vp_lt hv_4) (by decide))) (by decide) rfl (c_X5_rightsOf l hl9 D ca base ad σ t.toNatClampNeg ((6 : Int32) + u) (Nat.lt_trans (vp_lt hv_4) (by decide))) rfl rfl rfl ⟨Nat.le_of_ble_eq_true rfl, Nat.le_of_ble_eq_true rfl⟩ (Nat.le_of_ble_eq_true rfl) dX7_entry_68 ⟨Nat.le_of_ble_eq_true rfl, Nat.le_of_ble_eq_true rfl⟩ (fun H locs hW hS => ?_)
      refine lv_istore (lv' := [(10, .int (f_X5_rightsOf t.toNatClampNeg ((6 : Int32) + u) σ)), (9, .int ((6 : Int32) + u)), (8, .ref (ad 5 t.toNatClampNeg)), (7, .ref (ad 0 k.toNatClampNeg)), (0, .ref (ad 7 0)), (1, .int k), (2, .int t), (3, .int b), (4, .int u), (5, .int v), (6, .int d)]) hx hb dX7_entry_71 hl (by decide) rfl (fun ls hl => ?_)
      refine lv_iload hx hb dX7_entry_73 (lv_at hl 9 rfl) ?_
      refine lv_iconst (v := (-1)) hx hb dX7_entry_75 (by decide) ?_
      refine lv_icmp_eq (tgt := 94) hx hb dX7_entry_76 (by decide) (fun c_23 => ?_) (fun c_23 => ?_)
      · refine lv_aload hx hb dX7_entry_94 (lv_at hl 2 rfl) ?_
        refine lv_iload hx hb dX7_entry_96 (lv_at hl 1 rfl) ?_
        refine lv_iload hx hb dX7_entry_98 (lv_at hl 9 rfl) ?_
        refine lv_iload hx hb dX7_entry_100 (lv_at hl 10 rfl) ?_
        refine w_callV (As := [.int ((6 : Int32) + u), .int v, .int d]) (rest := []) (st2 := []) hC hW hS hl cv_X7_154 (mm_5 (Nat.lt_trans (vp_lt hv_4) (by decide))) (by decide) rfl (c_X5_putEntry l hl9 D ca base ad σ t.toNatClampNeg ((6 : Int32) + u) v d (Nat.lt_trans (vp_lt hv_4) (by decide))) rfl rfl rfl ⟨Nat.le_of_ble_eq_true rfl, Nat.le_of_ble_eq_true rfl⟩ (Nat.le_of_ble_eq_true rfl) dX7_entry_102 ⟨Nat.le_of_ble_eq_true rfl, Nat.le_of_ble_eq_true rfl⟩ (fun H locs hW hS => ?_)
        refine lv_iload hx hb dX7_entry_105 (lv_at hl 0 rfl) ?_
        have hO : m_X7_entry k t b u v d σ = (none, f_X5_rightsOf t.toNatClampNeg ((6 : Int32) + u) σ, s_X5_putEntry t.toNatClampNeg ((6 : Int32) + u) v d σ) := by rw [m_X7_entry, e_1, nd_none, e_3, nd_none, if_neg c_5, e_16, nd_none, e_17, nd_none, e_18, nd_none, if_neg c_19, if_pos c_23]
        exact w_iretZ hC hW hS hO (Nat.le_of_ble_eq_true rfl) (Nat.le_of_ble_eq_true rfl) dX7_entry_107
      · refine lv_iload hx hb dX7_entry_79 (lv_at hl 0 rfl) ?_
        refine lv_iconst (v := (-1)) hx hb dX7_entry_81 (by decide) ?_
        refine lv_icmp_ne (tgt := 94) hx hb dX7_entry_82 (by decide) (fun c_24 => ?_) (fun c_24 => ?_)
        · refine lv_aload hx hb dX7_entry_94 (lv_at hl 2 rfl) ?_
          refine lv_iload hx hb dX7_entry_96 (lv_at hl 1 rfl) ?_
          refine lv_iload hx hb dX7_entry_98 (lv_at hl 9 rfl) ?_
          refine lv_iload hx hb dX7_entry_100 (lv_at hl 10 rfl) ?_
          refine w_callV (As := [.int ((6 : Int32) + u), .int v, .int d]) (rest := []) (st2 := []) hC hW hS hl cv_X7_154 (mm_5 (Nat.lt_trans (vp_lt hv_4) (by decide))) (by decide) rfl (c_X5_putEntry l hl9 D ca base ad σ t.toNatClampNeg ((6 : Int32) + u) v d (Nat.lt_trans (vp_lt hv_4) (by decide))) rfl rfl rfl ⟨Nat.le_of_ble_eq_true rfl, Nat.le_of_ble_eq_true rfl⟩ (Nat.le_of_ble_eq_true rfl) dX7_entry_102 ⟨Nat.le_of_ble_eq_true rfl, Nat.le_of_ble_eq_true rfl⟩ (fun H locs hW hS => ?_)
          refine lv_iload hx hb dX7_entry_105 (lv_at hl 0 rfl) ?_
          have hO : m_X7_entry k t b u v d σ = (none, f_X5_rightsOf t.toNatClampNeg ((6 : Int32) + u) σ, s_X5_putEntry t.toNatClampNeg ((6 : Int32) + u) v d σ) := by rw [m_X7_entry, e_1, nd_none, e_3, nd_none, if_neg c_5, e_16, nd_none, e_17, nd_none, e_18, nd_none, if_neg c_19, if_neg c_23, if_neg c_24]
          exact w_iretZ hC hW hS hO (Nat.le_of_ble_eq_true rfl) (Nat.le_of_ble_eq_true rfl) dX7_entry_107
        · refine lv_aload hx hb dX7_entry_85 (lv_at hl 2 rfl) ?_
          refine gf_X7_151 hC hW (mm_5 (Nat.lt_trans (vp_lt hv_4) (by decide))) dX7_entry_87 ?_
          refine lv_iconst (v := 5) hx hb dX7_entry_90 (by decide) ?_
          refine w_callSX (As := [.int (σ 5 t.toNatClampNeg 7), .int 5]) (rest := []) (st2 := []) hC hW hS hl cs_X7_114 (c_X7_needRoom l hl9 D ca base ad σ (σ 5 t.toNatClampNeg 7) 5 ) rfl rfl rfl ⟨Nat.le_of_ble_eq_true rfl, Nat.le_of_ble_eq_true rfl⟩ (Nat.le_of_ble_eq_true rfl) dX7_entry_91 ⟨Nat.le_of_ble_eq_true rfl, Nat.le_of_ble_eq_true rfl⟩ (fun E ce q9 H locs e_25 hW hS hce hcv hcl => ?_) (fun e_25 H locs hW hS => ?_)
          · have hO : (m_X7_entry k t b u v d σ).1 = some E := by rw [m_X7_entry, e_1, nd_none, e_3, nd_none, if_neg c_5, e_16, nd_none, e_17, nd_none, e_18, nd_none, if_neg c_19, if_neg c_23, if_pos c_24, e_25, nd_some]
            exact w_out hC hW hS hout hO hce hcv hcl (Nat.le_of_ble_eq_true rfl) (Nat.le_of_ble_eq_true rfl)
          refine lv_aload hx hb dX7_entry_94 (lv_at hl 2 rfl) ?_
          refine lv_iload hx hb dX7_entry_96 (lv_at hl 1 rfl) ?_
          refine lv_iload hx hb dX7_entry_98 (lv_at hl 9 rfl) ?_
          refine lv_iload hx hb dX7_entry_100 (lv_at hl 10 rfl) ?_
          refine w_callV (As := [.int ((6 : Int32) + u), .int v, .int d]) (rest := []) (st2 := []) hC hW hS hl cv_X7_154 (mm_5 (Nat.lt_trans (vp_lt hv_4) (by decide))) (by decide) rfl (c_X5_putEntry l hl9 D ca base ad σ t.toNatClampNeg ((6 : Int32) + u) v d (Nat.lt_trans (vp_lt hv_4) (by decide))) rfl rfl rfl ⟨Nat.le_of_ble_eq_true rfl, Nat.le_of_ble_eq_true rfl⟩ (Nat.le_of_ble_eq_true rfl) dX7_entry_102 ⟨Nat.le_of_ble_eq_true rfl, Nat.le_of_ble_eq_true rfl⟩ (fun H locs hW hS => ?_)
          refine lv_iload hx hb dX7_entry_105 (lv_at hl 0 rfl) ?_
          have hO : m_X7_entry k t b u v d σ = (none, f_X5_rightsOf t.toNatClampNeg ((6 : Int32) + u) σ, s_X5_putEntry t.toNatClampNeg ((6 : Int32) + u) v d σ) := by rw [m_X7_entry, e_1, nd_none, e_3, nd_none, if_neg c_5, e_16, nd_none, e_17, nd_none, e_18, nd_none, if_neg c_19, if_neg c_23, if_pos c_24, e_25, nd_none]
          exact w_iretZ hC hW hS hO (Nat.le_of_ble_eq_true rfl) (Nat.le_of_ble_eq_true rfl) dX7_entry_107
theorem fr_X7_entry {kk : Nat}  {k : Int32} {t : Int32} {b : Int32} {u : Int32} {v : Int32} {d : Int32} {σ : Sg} (h5 : kk ≠ 5) (h20 : kk ≠ 20) : (m_X7_entry k t b u v d σ).2.2 kk = σ kk := by
  rw [m_X7_entry]
  repeat' split
  all_goals (first | (simp only [nd_2, us_kk, ne_eq, not_false_eq_true, h5, h20, fr_X5_putEntry]; done) | with_reducible rfl | (simp only [nd_2, us_kk, ne_eq, not_false_eq_true, h5, h20, fr_X5_putEntry]; with_reducible rfl))

def m_X7_give (k : Int32) (t : Int32) (v : Int32) (σ : Sg) : Option String × Int32 × Sg :=
  nd (e_X7_needActor k σ) (nd (e_X7_needThing t σ) (nd (e_X7_needPlace v 6) (if v = (σ 5 t.toNatClampNeg 0) then nd (e_X7_needPower (f_X7_mayChange k.toNatClampNeg t.toNatClampNeg σ)) ((none, σ 5 t.toNatClampNeg 0, us σ 5 t.toNatClampNeg 0 v))
  else nd (e_X7_needPower (f_X0_isFine k.toNatClampNeg 2 σ)) ((none, σ 5 t.toNatClampNeg 0, us σ 5 t.toNatClampNeg 0 v)))))
set_option maxHeartbeats 4000000 in
set_option maxRecDepth 100000 in
theorem c_X7_give (l : Launch) (hl9 : l.stackTraces = false) (D : va_G) (ca : Nat → ClassId) (base : Nat) (ad : Adr) (σ : Sg) (k : Int32) (t : Int32) (v : Int32) (hI : CInv σ) : Mx l yX7_give cX7_give 7 (some .int) { frames := 8, cells := 5, slots := 30, locals := 142 } D ca base ad ρm Lm [.ref (ad 7 0), .int k, .int t, .int v] σ (m_X7_give k t v σ).1 (some (.int (m_X7_give k t v σ).2.1)) (m_X7_give k t v σ).2.2 := by
  refine w_ofX (by decide) (Nat.le_of_ble_eq_true rfl) rfl ?_
  intro p e s m args below meth c hC hW hS hout ls hl
  have hx := hC.1
  have hb := hC.2.1
  refine lv_aload_n hx hb dX7_give_0 rfl (lv_at hl 0 rfl) ?_
  refine lv_iload_n hx hb dX7_give_1 rfl (lv_at hl 1 rfl) ?_
  refine w_callVX (As := [.int k]) (rest := []) (st2 := .ref (ad 0 k.toNatClampNeg) :: []) hC hW hS hl cv_X7_133 m_7 (by decide) rfl (c_X7_needActor l hl9 D ca base ad σ k (by first | assumption | decide | omega)) rfl rfl rfl ⟨Nat.le_of_ble_eq_true rfl, Nat.le_of_ble_eq_true rfl⟩ (Nat.le_of_ble_eq_true rfl) dX7_give_2 ⟨Nat.le_of_ble_eq_true rfl, Nat.le_of_ble_eq_true rfl⟩ (fun E ce q9 H locs e_1 hW hS hce hcv hcl => ?_) (fun e_1 H locs hW hS => ?_)
  · have hO : (m_X7_give k t v σ).1 = some E := by rw [m_X7_give, e_1, nd_some]
    exact w_out hC hW hS hout hO hce hcv hcl (Nat.le_of_ble_eq_true rfl) (Nat.le_of_ble_eq_true rfl)
  have hv_2 : vp_in k 8 := na_in hI e_1
  refine lv_astore (lv' := [(4, .ref (ad 0 k.toNatClampNeg)), (0, .ref (ad 7 0)), (1, .int k), (2, .int t), (3, .int v)]) hx hb dX7_give_5 hl (by decide) rfl (fun ls hl => ?_)
  refine lv_aload_n hx hb dX7_give_7 rfl (lv_at hl 1 rfl) ?_
  refine lv_iload_n hx hb dX7_give_8 rfl (lv_at hl 3 rfl) ?_
  refine w_callVX (As := [.int t]) (rest := []) (st2 := .ref (ad 5 t.toNatClampNeg) :: []) hC hW hS hl cv_X7_103 m_7 (by decide) rfl (c_X7_needThing l hl9 D ca base ad σ t (by first | assumption | decide | omega)) rfl rfl rfl ⟨Nat.le_of_ble_eq_true rfl, Nat.le_of_ble_eq_true rfl⟩ (Nat.le_of_ble_eq_true rfl) dX7_give_9 ⟨Nat.le_of_ble_eq_true rfl, Nat.le_of_ble_eq_true rfl⟩ (fun E ce q9 H locs e_3 hW hS hce hcv hcl => ?_) (fun e_3 H locs hW hS => ?_)
  · have hO : (m_X7_give k t v σ).1 = some E := by rw [m_X7_give, e_1, nd_none, e_3, nd_some]
    exact w_out hC hW hS hout hO hce hcv hcl (Nat.le_of_ble_eq_true rfl) (Nat.le_of_ble_eq_true rfl)
  have hv_4 : vp_in t 12 := nt_in hI e_3
  refine lv_astore (lv' := [(5, .ref (ad 5 t.toNatClampNeg)), (4, .ref (ad 0 k.toNatClampNeg)), (0, .ref (ad 7 0)), (1, .int k), (2, .int t), (3, .int v)]) hx hb dX7_give_12 hl (by decide) rfl (fun ls hl => ?_)
  refine lv_iload_n hx hb dX7_give_14 rfl (lv_at hl 5 rfl) ?_
  refine lv_bipush (v := 6) hx hb dX7_give_15 (by decide) ?_
  refine w_callSX (As := [.int v, .int 6]) (rest := []) (st2 := []) hC hW hS hl cs_X7_76 (c_X7_needPlace l hl9 D ca base ad σ v 6 ) rfl rfl rfl ⟨Nat.le_of_ble_eq_true rfl, Nat.le_of_ble_eq_true rfl⟩ (Nat.le_of_ble_eq_true rfl) dX7_give_17 ⟨Nat.le_of_ble_eq_true rfl, Nat.le_of_ble_eq_true rfl⟩ (fun E ce q9 H locs e_5 hW hS hce hcv hcl => ?_) (fun e_5 H locs hW hS => ?_)
  · have hO : (m_X7_give k t v σ).1 = some E := by rw [m_X7_give, e_1, nd_none, e_3, nd_none, e_5, nd_some]
    exact w_out hC hW hS hout hO hce hcv hcl (Nat.le_of_ble_eq_true rfl) (Nat.le_of_ble_eq_true rfl)
  refine lv_iload_n hx hb dX7_give_20 rfl (lv_at hl 5 rfl) ?_
  refine lv_aload hx hb dX7_give_21 (lv_at hl 0 rfl) ?_
  refine gf_X7_117 hC hW (mm_5 (Nat.lt_trans (vp_lt hv_4) (by decide))) dX7_give_23 ?_
  refine lv_icmp_ne (tgt := 39) hx hb dX7_give_26 (by decide) (fun c_6 => ?_) (fun c_6 => ?_)
  · refine lv_aload hx hb dX7_give_39 (lv_at hl 1 rfl) ?_
    refine lv_iconst (v := 2) hx hb dX7_give_41 (by decide) ?_
    refine w_callV (As := [.int 2]) (rest := []) (st2 := .int (f_X0_isFine k.toNatClampNeg 2 σ) :: []) hC hW hS hl cv_X7_158 (mm_0 (Nat.lt_trans (vp_lt hv_2) (by decide))) (by decide) rfl (c_X0_isFine l hl9 D ca base ad σ k.toNatClampNeg 2 (Nat.lt_trans (vp_lt hv_2) (by decide))) rfl rfl rfl ⟨Nat.le_of_ble_eq_true rfl, Nat.le_of_ble_eq_true rfl⟩ (Nat.le_of_ble_eq_true rfl) dX7_give_42 ⟨Nat.le_of_ble_eq_true rfl, Nat.le_of_ble_eq_true rfl⟩ (fun H locs hW hS => ?_)
    refine w_callSX (As := [.int (f_X0_isFine k.toNatClampNeg 2 σ)]) (rest := []) (st2 := []) hC hW hS hl cs_X7_141 (c_X7_needPower l hl9 D ca base ad σ (f_X0_isFine k.toNatClampNeg 2 σ) ) rfl rfl rfl ⟨Nat.le_of_ble_eq_true rfl, Nat.le_of_ble_eq_true rfl⟩ (Nat.le_of_ble_eq_true rfl) dX7_give_45 ⟨Nat.le_of_ble_eq_true rfl, Nat.le_of_ble_eq_true rfl⟩ (fun E ce q9 H locs e_7 hW hS hce hcv hcl => ?_) (fun e_7 H locs hW hS => ?_)
    · have hO : (m_X7_give k t v σ).1 = some E := by rw [m_X7_give, e_1, nd_none, e_3, nd_none, e_5, nd_none, if_neg c_6, e_7, nd_some]
      exact w_out hC hW hS hout hO hce hcv hcl (Nat.le_of_ble_eq_true rfl) (Nat.le_of_ble_eq_true rfl)
    refine lv_aload hx hb dX7_give_48 (lv_at hl 0 rfl) ?_
    refine gf_X7_117 hC hW (mm_5 (Nat.lt_trans (vp_lt hv_4) (by decide))) dX7_give_50 ?_
    refine lv_istore (lv' := [(6, .int (σ 5 t.toNatClampNeg 0)), (5, .ref (ad 5 t.toNatClampNeg)), (4, .ref (ad 0 k.toNatClampNeg)), (0, .ref (ad 7 0)), (1, .int k), (2, .int t), (3, .int v)]) hx hb dX7_give_53 hl (by decide) rfl (fun ls hl => ?_)
    refine lv_aload hx hb dX7_give_55 (lv_at hl 1 rfl) ?_
    refine lv_iload_n hx hb dX7_give_57 rfl (lv_at hl 6 rfl) ?_
    refine pf_X7_117 hC hW (mm_5 (Nat.lt_trans (vp_lt hv_4) (by decide))) hS dX7_give_58 (fun H locs hW hS => ?_)
    refine lv_iload hx hb dX7_give_61 (lv_at hl 0 rfl) ?_
    have hO : m_X7_give k t v σ = (none, σ 5 t.toNatClampNeg 0, us σ 5 t.toNatClampNeg 0 v) := by rw [m_X7_give, e_1, nd_none, e_3, nd_none, e_5, nd_none, if_neg c_6, e_7, nd_none]
    exact w_iretZ hC hW hS hO (Nat.le_of_ble_eq_true rfl) (Nat.le_of_ble_eq_true rfl) dX7_give_63
  · refine lv_aload hx hb dX7_give_29 (lv_at hl 1 rfl) ?_
    refine lv_aload hx hb dX7_give_31 (lv_at hl 0 rfl) ?_
    refine w_callS (As := [.ref (ad 0 k.toNatClampNeg), .ref (ad 5 t.toNatClampNeg)]) (rest := []) (st2 := .int (f_X7_mayChange k.toNatClampNeg t.toNatClampNeg σ) :: []) hC hW hS hl cs_X7_137 (c_X7_mayChange l hl9 D ca base ad σ k.toNatClampNeg t.toNatClampNeg (Nat.lt_trans (vp_lt hv_2) (by decide)) (Nat.lt_trans (vp_lt hv_4) (by decide))) rfl rfl rfl ⟨Nat.le_of_ble_eq_true rfl, Nat.le_of_ble_eq_true rfl⟩ (Nat.le_of_ble_eq_true rfl) dX7_give_33 ⟨Nat.le_of_ble_eq_true rfl, Nat.le_of_ble_eq_true rfl⟩ (fun H locs hW hS => ?_)
    refine lv_goto (tgt := 45) hx hb dX7_give_36 (by decide) ?_
    refine w_callSX (As := [.int (f_X7_mayChange k.toNatClampNeg t.toNatClampNeg σ)]) (rest := []) (st2 := []) hC hW hS hl cs_X7_141 (c_X7_needPower l hl9 D ca base ad σ (f_X7_mayChange k.toNatClampNeg t.toNatClampNeg σ) ) rfl rfl rfl ⟨Nat.le_of_ble_eq_true rfl, Nat.le_of_ble_eq_true rfl⟩ (Nat.le_of_ble_eq_true rfl) dX7_give_45 ⟨Nat.le_of_ble_eq_true rfl, Nat.le_of_ble_eq_true rfl⟩ (fun E ce q9 H locs e_8 hW hS hce hcv hcl => ?_) (fun e_8 H locs hW hS => ?_)
    · have hO : (m_X7_give k t v σ).1 = some E := by rw [m_X7_give, e_1, nd_none, e_3, nd_none, e_5, nd_none, if_pos c_6, e_8, nd_some]
      exact w_out hC hW hS hout hO hce hcv hcl (Nat.le_of_ble_eq_true rfl) (Nat.le_of_ble_eq_true rfl)
    refine lv_aload hx hb dX7_give_48 (lv_at hl 0 rfl) ?_
    refine gf_X7_117 hC hW (mm_5 (Nat.lt_trans (vp_lt hv_4) (by decide))) dX7_give_50 ?_
    refine lv_istore (lv' := [(6, .int (σ 5 t.toNatClampNeg 0)), (5, .ref (ad 5 t.toNatClampNeg)), (4, .ref (ad 0 k.toNatClampNeg)), (0, .ref (ad 7 0)), (1, .int k), (2, .int t), (3, .int v)]) hx hb dX7_give_53 hl (by decide) rfl (fun ls hl => ?_)
    refine lv_aload hx hb dX7_give_55 (lv_at hl 1 rfl) ?_
    refine lv_iload_n hx hb dX7_give_57 rfl (lv_at hl 6 rfl) ?_
    refine pf_X7_117 hC hW (mm_5 (Nat.lt_trans (vp_lt hv_4) (by decide))) hS dX7_give_58 (fun H locs hW hS => ?_)
    refine lv_iload hx hb dX7_give_61 (lv_at hl 0 rfl) ?_
    have hO : m_X7_give k t v σ = (none, σ 5 t.toNatClampNeg 0, us σ 5 t.toNatClampNeg 0 v) := by rw [m_X7_give, e_1, nd_none, e_3, nd_none, e_5, nd_none, if_pos c_6, e_8, nd_none]
    exact w_iretZ hC hW hS hO (Nat.le_of_ble_eq_true rfl) (Nat.le_of_ble_eq_true rfl) dX7_give_63
theorem fr_X7_give {kk : Nat}  {k : Int32} {t : Int32} {v : Int32} {σ : Sg} (h5 : kk ≠ 5) : (m_X7_give k t v σ).2.2 kk = σ kk := by
  rw [m_X7_give]
  repeat' split
  all_goals (first | (simp only [nd_2, us_kk, ne_eq, not_false_eq_true, h5]; done) | with_reducible rfl | (simp only [nd_2, us_kk, ne_eq, not_false_eq_true, h5]; with_reducible rfl))

def m_X7_label (k : Int32) (t : Int32) (v : Int32) (w : Int32) (σ : Sg) : Option String × Int32 × Sg :=
  nd (e_X7_needActor k σ) (nd (e_X7_needThing t σ) (nd (e_X7_needRange v 0 3) (nd (e_X7_needRange w 0 7) (if (f_X0_isFine k.toNatClampNeg 4 σ) = 0 then nd (e_X7_needPower 0) ((none, ((10 : Int32) * (σ 5 t.toNatClampNeg 4)) + (σ 5 t.toNatClampNeg 5), us (us σ 5 t.toNatClampNeg 4 v) 5 t.toNatClampNeg 5 w))
  else if (f_X7_dominates (σ 0 k.toNatClampNeg 2) (σ 0 k.toNatClampNeg 3) v w) = 0 then nd (e_X7_needPower 0) ((none, ((10 : Int32) * (σ 5 t.toNatClampNeg 4)) + (σ 5 t.toNatClampNeg 5), us (us σ 5 t.toNatClampNeg 4 v) 5 t.toNatClampNeg 5 w))
  else nd (e_X7_needPower 1) ((none, ((10 : Int32) * (σ 5 t.toNatClampNeg 4)) + (σ 5 t.toNatClampNeg 5), us (us σ 5 t.toNatClampNeg 4 v) 5 t.toNatClampNeg 5 w))))))
set_option maxHeartbeats 4000000 in
set_option maxRecDepth 100000 in
theorem c_X7_label (l : Launch) (hl9 : l.stackTraces = false) (D : va_G) (ca : Nat → ClassId) (base : Nat) (ad : Adr) (σ : Sg) (k : Int32) (t : Int32) (v : Int32) (w : Int32) (hI : CInv σ) : Mx l yX7_label cX7_label 8 (some .int) { frames := 8, cells := 7, slots := 42, locals := 142 } D ca base ad ρm Lm [.ref (ad 7 0), .int k, .int t, .int v, .int w] σ (m_X7_label k t v w σ).1 (some (.int (m_X7_label k t v w σ).2.1)) (m_X7_label k t v w σ).2.2 := by
  refine w_ofX (by decide) (Nat.le_of_ble_eq_true rfl) rfl ?_
  intro p e s m args below meth c hC hW hS hout ls hl
  have hx := hC.1
  have hb := hC.2.1
  refine lv_aload_n hx hb dX7_label_0 rfl (lv_at hl 0 rfl) ?_
  refine lv_iload_n hx hb dX7_label_1 rfl (lv_at hl 1 rfl) ?_
  refine w_callVX (As := [.int k]) (rest := []) (st2 := .ref (ad 0 k.toNatClampNeg) :: []) hC hW hS hl cv_X7_133 m_7 (by decide) rfl (c_X7_needActor l hl9 D ca base ad σ k (by first | assumption | decide | omega)) rfl rfl rfl ⟨Nat.le_of_ble_eq_true rfl, Nat.le_of_ble_eq_true rfl⟩ (Nat.le_of_ble_eq_true rfl) dX7_label_2 ⟨Nat.le_of_ble_eq_true rfl, Nat.le_of_ble_eq_true rfl⟩ (fun E ce q9 H locs e_1 hW hS hce hcv hcl => ?_) (fun e_1 H locs hW hS => ?_)
  · have hO : (m_X7_label k t v w σ).1 = some E := by rw [m_X7_label, e_1, nd_some]
    exact w_out hC hW hS hout hO hce hcv hcl (Nat.le_of_ble_eq_true rfl) (Nat.le_of_ble_eq_true rfl)
  have hv_2 : vp_in k 8 := na_in hI e_1
  refine lv_astore (lv' := [(5, .ref (ad 0 k.toNatClampNeg)), (0, .ref (ad 7 0)), (1, .int k), (2, .int t), (3, .int v), (4, .int w)]) hx hb dX7_label_5 hl (by decide) rfl (fun ls hl => ?_)
  refine lv_aload_n hx hb dX7_label_7 rfl (lv_at hl 1 rfl) ?_
  refine lv_iload_n hx hb dX7_label_8 rfl (lv_at hl 3 rfl) ?_
  refine w_callVX (As := [.int t]) (rest := []) (st2 := .ref (ad 5 t.toNatClampNeg) :: []) hC hW hS hl cv_X7_103 m_7 (by decide) rfl (c_X7_needThing l hl9 D ca base ad σ t (by first | assumption | decide | omega)) rfl rfl rfl ⟨Nat.le_of_ble_eq_true rfl, Nat.le_of_ble_eq_true rfl⟩ (Nat.le_of_ble_eq_true rfl) dX7_label_9 ⟨Nat.le_of_ble_eq_true rfl, Nat.le_of_ble_eq_true rfl⟩ (fun E ce q9 H locs e_3 hW hS hce hcv hcl => ?_) (fun e_3 H locs hW hS => ?_)
  · have hO : (m_X7_label k t v w σ).1 = some E := by rw [m_X7_label, e_1, nd_none, e_3, nd_some]
    exact w_out hC hW hS hout hO hce hcv hcl (Nat.le_of_ble_eq_true rfl) (Nat.le_of_ble_eq_true rfl)
  have hv_4 : vp_in t 12 := nt_in hI e_3
  refine lv_astore (lv' := [(6, .ref (ad 5 t.toNatClampNeg)), (5, .ref (ad 0 k.toNatClampNeg)), (0, .ref (ad 7 0)), (1, .int k), (2, .int t), (3, .int v), (4, .int w)]) hx hb dX7_label_12 hl (by decide) rfl (fun ls hl => ?_)
  refine lv_iload_n hx hb dX7_label_14 rfl (lv_at hl 5 rfl) ?_
  refine lv_iconst (v := 0) hx hb dX7_label_15 (by decide) ?_
  refine lv_iconst (v := 3) hx hb dX7_label_16 (by decide) ?_
  refine w_callSX (As := [.int v, .int 0, .int 3]) (rest := []) (st2 := []) hC hW hS hl cs_X7_107 (c_X7_needRange l hl9 D ca base ad σ v 0 3 ) rfl rfl rfl ⟨Nat.le_of_ble_eq_true rfl, Nat.le_of_ble_eq_true rfl⟩ (Nat.le_of_ble_eq_true rfl) dX7_label_17 ⟨Nat.le_of_ble_eq_true rfl, Nat.le_of_ble_eq_true rfl⟩ (fun E ce q9 H locs e_5 hW hS hce hcv hcl => ?_) (fun e_5 H locs hW hS => ?_)
  · have hO : (m_X7_label k t v w σ).1 = some E := by rw [m_X7_label, e_1, nd_none, e_3, nd_none, e_5, nd_some]
    exact w_out hC hW hS hout hO hce hcv hcl (Nat.le_of_ble_eq_true rfl) (Nat.le_of_ble_eq_true rfl)
  refine lv_iload hx hb dX7_label_20 (lv_at hl 6 rfl) ?_
  refine lv_iconst (v := 0) hx hb dX7_label_22 (by decide) ?_
  refine lv_bipush (v := 7) hx hb dX7_label_23 (by decide) ?_
  refine w_callSX (As := [.int w, .int 0, .int 7]) (rest := []) (st2 := []) hC hW hS hl cs_X7_107 (c_X7_needRange l hl9 D ca base ad σ w 0 7 ) rfl rfl rfl ⟨Nat.le_of_ble_eq_true rfl, Nat.le_of_ble_eq_true rfl⟩ (Nat.le_of_ble_eq_true rfl) dX7_label_25 ⟨Nat.le_of_ble_eq_true rfl, Nat.le_of_ble_eq_true rfl⟩ (fun E ce q9 H locs e_6 hW hS hce hcv hcl => ?_) (fun e_6 H locs hW hS => ?_)
  · have hO : (m_X7_label k t v w σ).1 = some E := by rw [m_X7_label, e_1, nd_none, e_3, nd_none, e_5, nd_none, e_6, nd_some]
    exact w_out hC hW hS hout hO hce hcv hcl (Nat.le_of_ble_eq_true rfl) (Nat.le_of_ble_eq_true rfl)
  refine lv_aload hx hb dX7_label_28 (lv_at hl 1 rfl) ?_
  refine lv_iconst (v := 4) hx hb dX7_label_30 (by decide) ?_
  refine w_callV (As := [.int 4]) (rest := []) (st2 := .int (f_X0_isFine k.toNatClampNeg 4 σ) :: []) hC hW hS hl cv_X7_158 (mm_0 (Nat.lt_trans (vp_lt hv_2) (by decide))) (by decide) rfl (c_X0_isFine l hl9 D ca base ad σ k.toNatClampNeg 4 (Nat.lt_trans (vp_lt hv_2) (by decide))) rfl rfl rfl ⟨Nat.le_of_ble_eq_true rfl, Nat.le_of_ble_eq_true rfl⟩ (Nat.le_of_ble_eq_true rfl) dX7_label_31 ⟨Nat.le_of_ble_eq_true rfl, Nat.le_of_ble_eq_true rfl⟩ (fun H locs hW hS => ?_)
  refine lv_if_eq (tgt := 60) hx hb dX7_label_34 (by decide) (fun c_7 => ?_) (fun c_7 => ?_)
  · refine lv_iconst (v := 0) hx hb dX7_label_60 (by decide) ?_
    refine w_callSX (As := [.int 0]) (rest := []) (st2 := []) hC hW hS hl cs_X7_141 (c_X7_needPower l hl9 D ca base ad σ 0 ) rfl rfl rfl ⟨Nat.le_of_ble_eq_true rfl, Nat.le_of_ble_eq_true rfl⟩ (Nat.le_of_ble_eq_true rfl) dX7_label_61 ⟨Nat.le_of_ble_eq_true rfl, Nat.le_of_ble_eq_true rfl⟩ (fun E ce q9 H locs e_8 hW hS hce hcv hcl => ?_) (fun e_8 H locs hW hS => ?_)
    · have hO : (m_X7_label k t v w σ).1 = some E := by rw [m_X7_label, e_1, nd_none, e_3, nd_none, e_5, nd_none, e_6, nd_none, if_pos c_7, e_8, nd_some]
      exact w_out hC hW hS hout hO hce hcv hcl (Nat.le_of_ble_eq_true rfl) (Nat.le_of_ble_eq_true rfl)
    refine lv_bipush (v := 10) hx hb dX7_label_64 (by decide) ?_
    refine lv_aload hx hb dX7_label_66 (lv_at hl 0 rfl) ?_
    refine gf_X7_172 hC hW (mm_5 (Nat.lt_trans (vp_lt hv_4) (by decide))) dX7_label_68 ?_
    refine lv_imul hx hb dX7_label_71 ?_
    refine lv_aload hx hb dX7_label_72 (lv_at hl 0 rfl) ?_
    refine gf_X7_173 hC hW (mm_5 (Nat.lt_trans (vp_lt hv_4) (by decide))) dX7_label_74 ?_
    refine lv_iadd hx hb dX7_label_77 ?_
    refine lv_istore (lv' := [(7, .int (((10 : Int32) * (σ 5 t.toNatClampNeg 4)) + (σ 5 t.toNatClampNeg 5))), (6, .ref (ad 5 t.toNatClampNeg)), (5, .ref (ad 0 k.toNatClampNeg)), (0, .ref (ad 7 0)), (1, .int k), (2, .int t), (3, .int v), (4, .int w)]) hx hb dX7_label_78 hl (by decide) rfl (fun ls hl => ?_)
    refine lv_aload hx hb dX7_label_80 (lv_at hl 1 rfl) ?_
    refine lv_iload_n hx hb dX7_label_82 rfl (lv_at hl 6 rfl) ?_
    refine pf_X7_172 hC hW (mm_5 (Nat.lt_trans (vp_lt hv_4) (by decide))) hS dX7_label_83 (fun H locs hW hS => ?_)
    refine lv_aload hx hb dX7_label_86 (lv_at hl 1 rfl) ?_
    refine lv_iload hx hb dX7_label_88 (lv_at hl 7 rfl) ?_
    refine pf_X7_173 hC hW (mm_5 (Nat.lt_trans (vp_lt hv_4) (by decide))) hS dX7_label_90 (fun H locs hW hS => ?_)
    refine lv_iload hx hb dX7_label_93 (lv_at hl 0 rfl) ?_
    have hO : m_X7_label k t v w σ = (none, ((10 : Int32) * (σ 5 t.toNatClampNeg 4)) + (σ 5 t.toNatClampNeg 5), us (us σ 5 t.toNatClampNeg 4 v) 5 t.toNatClampNeg 5 w) := by rw [m_X7_label, e_1, nd_none, e_3, nd_none, e_5, nd_none, e_6, nd_none, if_pos c_7, e_8, nd_none]
    exact w_iretZ hC hW hS hO (Nat.le_of_ble_eq_true rfl) (Nat.le_of_ble_eq_true rfl) dX7_label_95
  · refine lv_aload hx hb dX7_label_37 (lv_at hl 1 rfl) ?_
    refine gf_X7_162 hC hW (mm_0 (Nat.lt_trans (vp_lt hv_2) (by decide))) dX7_label_39 ?_
    refine lv_aload hx hb dX7_label_42 (lv_at hl 1 rfl) ?_
    refine gf_X7_165 hC hW (mm_0 (Nat.lt_trans (vp_lt hv_2) (by decide))) dX7_label_44 ?_
    refine lv_iload_n hx hb dX7_label_47 rfl (lv_at hl 5 rfl) ?_
    refine lv_iload hx hb dX7_label_48 (lv_at hl 6 rfl) ?_
    refine w_callS (As := [.int (σ 0 k.toNatClampNeg 2), .int (σ 0 k.toNatClampNeg 3), .int v, .int w]) (rest := []) (st2 := .int (f_X7_dominates (σ 0 k.toNatClampNeg 2) (σ 0 k.toNatClampNeg 3) v w) :: []) hC hW hS hl cs_X7_168 (c_X7_dominates l hl9 D ca base ad σ (σ 0 k.toNatClampNeg 2) (σ 0 k.toNatClampNeg 3) v w ) rfl rfl rfl ⟨Nat.le_of_ble_eq_true rfl, Nat.le_of_ble_eq_true rfl⟩ (Nat.le_of_ble_eq_true rfl) dX7_label_50 ⟨Nat.le_of_ble_eq_true rfl, Nat.le_of_ble_eq_true rfl⟩ (fun H locs hW hS => ?_)
    refine lv_if_eq (tgt := 60) hx hb dX7_label_53 (by decide) (fun c_9 => ?_) (fun c_9 => ?_)
    · refine lv_iconst (v := 0) hx hb dX7_label_60 (by decide) ?_
      refine w_callSX (As := [.int 0]) (rest := []) (st2 := []) hC hW hS hl cs_X7_141 (c_X7_needPower l hl9 D ca base ad σ 0 ) rfl rfl rfl ⟨Nat.le_of_ble_eq_true rfl, Nat.le_of_ble_eq_true rfl⟩ (Nat.le_of_ble_eq_true rfl) dX7_label_61 ⟨Nat.le_of_ble_eq_true rfl, Nat.le_of_ble_eq_true rfl⟩ (fun E ce q9 H locs e_10 hW hS hce hcv hcl => ?_) (fun e_10 H locs hW hS => ?_)
      · have hO : (m_X7_label k t v w σ).1 = some E := by rw [m_X7_label, e_1, nd_none, e_3, nd_none, e_5, nd_none, e_6, nd_none, if_neg c_7, if_pos c_9, e_10, nd_some]
        exact w_out hC hW hS hout hO hce hcv hcl (Nat.le_of_ble_eq_true rfl) (Nat.le_of_ble_eq_true rfl)
      refine lv_bipush (v := 10) hx hb dX7_label_64 (by decide) ?_
      refine lv_aload hx hb dX7_label_66 (lv_at hl 0 rfl) ?_
      refine gf_X7_172 hC hW (mm_5 (Nat.lt_trans (vp_lt hv_4) (by decide))) dX7_label_68 ?_
      refine lv_imul hx hb dX7_label_71 ?_
      refine lv_aload hx hb dX7_label_72 (lv_at hl 0 rfl) ?_
      refine gf_X7_173 hC hW (mm_5 (Nat.lt_trans (vp_lt hv_4) (by decide))) dX7_label_74 ?_
      refine lv_iadd hx hb dX7_label_77 ?_
      refine lv_istore (lv' := [(7, .int (((10 : Int32) * (σ 5 t.toNatClampNeg 4)) + (σ 5 t.toNatClampNeg 5))), (6, .ref (ad 5 t.toNatClampNeg)), (5, .ref (ad 0 k.toNatClampNeg)), (0, .ref (ad 7 0)), (1, .int k), (2, .int t), (3, .int v), (4, .int w)]) hx hb dX7_label_78 hl (by decide) rfl (fun ls hl => ?_)
      refine lv_aload hx hb dX7_label_80 (lv_at hl 1 rfl) ?_
      refine lv_iload_n hx hb dX7_label_82 rfl (lv_at hl 6 rfl) ?_
      refine pf_X7_172 hC hW (mm_5 (Nat.lt_trans (vp_lt hv_4) (by decide))) hS dX7_label_83 (fun H locs hW hS => ?_)
      refine lv_aload hx hb dX7_label_86 (lv_at hl 1 rfl) ?_
      refine lv_iload hx hb dX7_label_88 (lv_at hl 7 rfl) ?_
      refine pf_X7_173 hC hW (mm_5 (Nat.lt_trans (vp_lt hv_4) (by decide))) hS dX7_label_90 (fun H locs hW hS => ?_)
      refine lv_iload hx hb dX7_label_93 (lv_at hl 0 rfl) ?_
      have hO : m_X7_label k t v w σ = (none, ((10 : Int32) * (σ 5 t.toNatClampNeg 4)) + (σ 5 t.toNatClampNeg 5), us (us σ 5 t.toNatClampNeg 4 v) 5 t.toNatClampNeg 5 w) := by rw [m_X7_label, e_1, nd_none, e_3, nd_none, e_5, nd_none, e_6, nd_none, if_neg c_7, if_pos c_9, e_10, nd_none]
      exact w_iretZ hC hW hS hO (Nat.le_of_ble_eq_true rfl) (Nat.le_of_ble_eq_true rfl) dX7_label_95
    · refine lv_iconst (v := 1) hx hb dX7_label_56 (by decide) ?_
      refine lv_goto (tgt := 61) hx hb dX7_label_57 (by decide) ?_
      refine w_callSX (As := [.int 1]) (rest := []) (st2 := []) hC hW hS hl cs_X7_141 (c_X7_needPower l hl9 D ca base ad σ 1 ) rfl rfl rfl ⟨Nat.le_of_ble_eq_true rfl, Nat.le_of_ble_eq_true rfl⟩ (Nat.le_of_ble_eq_true rfl) dX7_label_61 ⟨Nat.le_of_ble_eq_true rfl, Nat.le_of_ble_eq_true rfl⟩ (fun E ce q9 H locs e_11 hW hS hce hcv hcl => ?_) (fun e_11 H locs hW hS => ?_)
      · have hO : (m_X7_label k t v w σ).1 = some E := by rw [m_X7_label, e_1, nd_none, e_3, nd_none, e_5, nd_none, e_6, nd_none, if_neg c_7, if_neg c_9, e_11, nd_some]
        exact w_out hC hW hS hout hO hce hcv hcl (Nat.le_of_ble_eq_true rfl) (Nat.le_of_ble_eq_true rfl)
      refine lv_bipush (v := 10) hx hb dX7_label_64 (by decide) ?_
      refine lv_aload hx hb dX7_label_66 (lv_at hl 0 rfl) ?_
      refine gf_X7_172 hC hW (mm_5 (Nat.lt_trans (vp_lt hv_4) (by decide))) dX7_label_68 ?_
      refine lv_imul hx hb dX7_label_71 ?_
      refine lv_aload hx hb dX7_label_72 (lv_at hl 0 rfl) ?_
      refine gf_X7_173 hC hW (mm_5 (Nat.lt_trans (vp_lt hv_4) (by decide))) dX7_label_74 ?_
      refine lv_iadd hx hb dX7_label_77 ?_
      refine lv_istore (lv' := [(7, .int (((10 : Int32) * (σ 5 t.toNatClampNeg 4)) + (σ 5 t.toNatClampNeg 5))), (6, .ref (ad 5 t.toNatClampNeg)), (5, .ref (ad 0 k.toNatClampNeg)), (0, .ref (ad 7 0)), (1, .int k), (2, .int t), (3, .int v), (4, .int w)]) hx hb dX7_label_78 hl (by decide) rfl (fun ls hl => ?_)
      refine lv_aload hx hb dX7_label_80 (lv_at hl 1 rfl) ?_
      refine lv_iload_n hx hb dX7_label_82 rfl (lv_at hl 6 rfl) ?_
      refine pf_X7_172 hC hW (mm_5 (Nat.lt_trans (vp_lt hv_4) (by decide))) hS dX7_label_83 (fun H locs hW hS => ?_)
      refine lv_aload hx hb dX7_label_86 (lv_at hl 1 rfl) ?_
      refine lv_iload hx hb dX7_label_88 (lv_at hl 7 rfl) ?_
      refine pf_X7_173 hC hW (mm_5 (Nat.lt_trans (vp_lt hv_4) (by decide))) hS dX7_label_90 (fun H locs hW hS => ?_)
      refine lv_iload hx hb dX7_label_93 (lv_at hl 0 rfl) ?_
      have hO : m_X7_label k t v w σ = (none, ((10 : Int32) * (σ 5 t.toNatClampNeg 4)) + (σ 5 t.toNatClampNeg 5), us (us σ 5 t.toNatClampNeg 4 v) 5 t.toNatClampNeg 5 w) := by rw [m_X7_label, e_1, nd_none, e_3, nd_none, e_5, nd_none, e_6, nd_none, if_neg c_7, if_neg c_9, e_11, nd_none]
      exact w_iretZ hC hW hS hO (Nat.le_of_ble_eq_true rfl) (Nat.le_of_ble_eq_true rfl) dX7_label_95
theorem fr_X7_label {kk : Nat}  {k : Int32} {t : Int32} {v : Int32} {w : Int32} {σ : Sg} (h5 : kk ≠ 5) : (m_X7_label k t v w σ).2.2 kk = σ kk := by
  rw [m_X7_label]
  repeat' split
  all_goals (first | (simp only [nd_2, us_kk, ne_eq, not_false_eq_true, h5]; done) | with_reducible rfl | (simp only [nd_2, us_kk, ne_eq, not_false_eq_true, h5]; with_reducible rfl))

def m_X7_rule (d : Int32) (t : Int32) (v : Int32) (σ : Sg) : Option String × Int32 × Sg :=
  nd (e_X7_needPlace d 4) (nd (e_X7_needRange t 0 3) (nd (e_X7_needRange v 0 7) ((none, f_X3_rightsOf d t σ, s_X3_setRights d t v σ))))
set_option maxHeartbeats 4000000 in
set_option maxRecDepth 100000 in
theorem c_X7_rule (l : Launch) (hl9 : l.stackTraces = false) (D : va_G) (ca : Nat → ClassId) (base : Nat) (ad : Adr) (σ : Sg) (d : Int32) (t : Int32) (v : Int32) (hI : CInv σ) : Mx l yX7_rule cX7_rule 5 (some .int) { frames := 7, cells := 3, slots := 18, locals := 122 } D ca base ad ρm Lm [.ref (ad 7 0), .int d, .int t, .int v] σ (m_X7_rule d t v σ).1 (some (.int (m_X7_rule d t v σ).2.1)) (m_X7_rule d t v σ).2.2 := by
  refine w_ofX (by decide) (Nat.le_of_ble_eq_true rfl) rfl ?_
  intro p e s m args below meth c hC hW hS hout ls hl
  have hx := hC.1
  have hb := hC.2.1
  refine lv_iload_n hx hb dX7_rule_0 rfl (lv_at hl 1 rfl) ?_
  refine lv_iconst (v := 4) hx hb dX7_rule_1 (by decide) ?_
  refine w_callSX (As := [.int d, .int 4]) (rest := []) (st2 := []) hC hW hS hl cs_X7_76 (c_X7_needPlace l hl9 D ca base ad σ d 4 ) rfl rfl rfl ⟨Nat.le_of_ble_eq_true rfl, Nat.le_of_ble_eq_true rfl⟩ (Nat.le_of_ble_eq_true rfl) dX7_rule_2 ⟨Nat.le_of_ble_eq_true rfl, Nat.le_of_ble_eq_true rfl⟩ (fun E ce q9 H locs e_1 hW hS hce hcv hcl => ?_) (fun e_1 H locs hW hS => ?_)
  · have hO : (m_X7_rule d t v σ).1 = some E := by rw [m_X7_rule, e_1, nd_some]
    exact w_out hC hW hS hout hO hce hcv hcl (Nat.le_of_ble_eq_true rfl) (Nat.le_of_ble_eq_true rfl)
  refine lv_iload_n hx hb dX7_rule_5 rfl (lv_at hl 2 rfl) ?_
  refine lv_iconst (v := 0) hx hb dX7_rule_6 (by decide) ?_
  refine lv_iconst (v := 3) hx hb dX7_rule_7 (by decide) ?_
  refine w_callSX (As := [.int t, .int 0, .int 3]) (rest := []) (st2 := []) hC hW hS hl cs_X7_107 (c_X7_needRange l hl9 D ca base ad σ t 0 3 ) rfl rfl rfl ⟨Nat.le_of_ble_eq_true rfl, Nat.le_of_ble_eq_true rfl⟩ (Nat.le_of_ble_eq_true rfl) dX7_rule_8 ⟨Nat.le_of_ble_eq_true rfl, Nat.le_of_ble_eq_true rfl⟩ (fun E ce q9 H locs e_2 hW hS hce hcv hcl => ?_) (fun e_2 H locs hW hS => ?_)
  · have hO : (m_X7_rule d t v σ).1 = some E := by rw [m_X7_rule, e_1, nd_none, e_2, nd_some]
    exact w_out hC hW hS hout hO hce hcv hcl (Nat.le_of_ble_eq_true rfl) (Nat.le_of_ble_eq_true rfl)
  refine lv_iload_n hx hb dX7_rule_11 rfl (lv_at hl 3 rfl) ?_
  refine lv_iconst (v := 0) hx hb dX7_rule_12 (by decide) ?_
  refine lv_bipush (v := 7) hx hb dX7_rule_13 (by decide) ?_
  refine w_callSX (As := [.int v, .int 0, .int 7]) (rest := []) (st2 := []) hC hW hS hl cs_X7_107 (c_X7_needRange l hl9 D ca base ad σ v 0 7 ) rfl rfl rfl ⟨Nat.le_of_ble_eq_true rfl, Nat.le_of_ble_eq_true rfl⟩ (Nat.le_of_ble_eq_true rfl) dX7_rule_15 ⟨Nat.le_of_ble_eq_true rfl, Nat.le_of_ble_eq_true rfl⟩ (fun E ce q9 H locs e_3 hW hS hce hcv hcl => ?_) (fun e_3 H locs hW hS => ?_)
  · have hO : (m_X7_rule d t v σ).1 = some E := by rw [m_X7_rule, e_1, nd_none, e_2, nd_none, e_3, nd_some]
    exact w_out hC hW hS hout hO hce hcv hcl (Nat.le_of_ble_eq_true rfl) (Nat.le_of_ble_eq_true rfl)
  refine lv_aload_n hx hb dX7_rule_18 rfl (lv_at hl 0 rfl) ?_
  refine gf_X7_19 hC hW m_7 rfl dX7_rule_19 ?_
  refine lv_iload_n hx hb dX7_rule_22 rfl (lv_at hl 1 rfl) ?_
  refine lv_iload_n hx hb dX7_rule_23 rfl (lv_at hl 2 rfl) ?_
  refine w_callV (As := [.int d, .int t]) (rest := []) (st2 := .int (f_X3_rightsOf d t σ) :: []) hC hW hS hl cv_X7_174 m_3 (by decide) rfl (c_X3_rightsOf l hl9 D ca base ad σ d t ) rfl rfl rfl ⟨Nat.le_of_ble_eq_true rfl, Nat.le_of_ble_eq_true rfl⟩ (Nat.le_of_ble_eq_true rfl) dX7_rule_24 ⟨Nat.le_of_ble_eq_true rfl, Nat.le_of_ble_eq_true rfl⟩ (fun H locs hW hS => ?_)
  refine lv_istore (lv' := [(4, .int (f_X3_rightsOf d t σ)), (0, .ref (ad 7 0)), (1, .int d), (2, .int t), (3, .int v)]) hx hb dX7_rule_27 hl (by decide) rfl (fun ls hl => ?_)
  refine lv_aload_n hx hb dX7_rule_29 rfl (lv_at hl 1 rfl) ?_
  refine gf_X7_19 hC hW m_7 rfl dX7_rule_30 ?_
  refine lv_iload_n hx hb dX7_rule_33 rfl (lv_at hl 2 rfl) ?_
  refine lv_iload_n hx hb dX7_rule_34 rfl (lv_at hl 3 rfl) ?_
  refine lv_iload_n hx hb dX7_rule_35 rfl (lv_at hl 4 rfl) ?_
  refine w_callV (As := [.int d, .int t, .int v]) (rest := []) (st2 := []) hC hW hS hl cv_X7_177 m_3 (by decide) rfl (c_X3_setRights l hl9 D ca base ad σ d t v ) rfl rfl rfl ⟨Nat.le_of_ble_eq_true rfl, Nat.le_of_ble_eq_true rfl⟩ (Nat.le_of_ble_eq_true rfl) dX7_rule_36 ⟨Nat.le_of_ble_eq_true rfl, Nat.le_of_ble_eq_true rfl⟩ (fun H locs hW hS => ?_)
  refine lv_iload hx hb dX7_rule_39 (lv_at hl 0 rfl) ?_
  have hO : m_X7_rule d t v σ = (none, f_X3_rightsOf d t σ, s_X3_setRights d t v σ) := by rw [m_X7_rule, e_1, nd_none, e_2, nd_none, e_3, nd_none]
  exact w_iretZ hC hW hS hO (Nat.le_of_ble_eq_true rfl) (Nat.le_of_ble_eq_true rfl) dX7_rule_41
theorem fr_X7_rule {kk : Nat}  {d : Int32} {t : Int32} {v : Int32} {σ : Sg} (h16 : kk ≠ 16) : (m_X7_rule d t v σ).2.2 kk = σ kk := by
  rw [m_X7_rule]
  repeat' split
  all_goals (first | (simp only [nd_2, us_kk, ne_eq, not_false_eq_true, h16, fr_X3_setRights]; done) | with_reducible rfl | (simp only [nd_2, us_kk, ne_eq, not_false_eq_true, h16, fr_X3_setRights]; with_reducible rfl))

def m_X7_move (d : Int32) (t : Int32) (v : Int32) (σ : Sg) : Option String × Int32 × Sg :=
  nd (e_X7_needPlace d 4) (if v = (-1) then nd (e_X7_needRange t 0 3) ((none, f_X3_moveOf d t σ, s_X3_setMove d t v σ))
  else nd (e_X7_needPlace v 4) (nd (e_X7_needRange t 0 3) ((none, f_X3_moveOf d t σ, s_X3_setMove d t v σ))))
set_option maxHeartbeats 4000000 in
set_option maxRecDepth 100000 in
theorem c_X7_move (l : Launch) (hl9 : l.stackTraces = false) (D : va_G) (ca : Nat → ClassId) (base : Nat) (ad : Adr) (σ : Sg) (d : Int32) (t : Int32) (v : Int32) (hI : CInv σ) : Mx l yX7_move cX7_move 5 (some .int) { frames := 7, cells := 4, slots := 24, locals := 122 } D ca base ad ρm Lm [.ref (ad 7 0), .int d, .int t, .int v] σ (m_X7_move d t v σ).1 (some (.int (m_X7_move d t v σ).2.1)) (m_X7_move d t v σ).2.2 := by
  refine w_ofX (by decide) (Nat.le_of_ble_eq_true rfl) rfl ?_
  intro p e s m args below meth c hC hW hS hout ls hl
  have hx := hC.1
  have hb := hC.2.1
  refine lv_iload_n hx hb dX7_move_0 rfl (lv_at hl 1 rfl) ?_
  refine lv_iconst (v := 4) hx hb dX7_move_1 (by decide) ?_
  refine w_callSX (As := [.int d, .int 4]) (rest := []) (st2 := []) hC hW hS hl cs_X7_76 (c_X7_needPlace l hl9 D ca base ad σ d 4 ) rfl rfl rfl ⟨Nat.le_of_ble_eq_true rfl, Nat.le_of_ble_eq_true rfl⟩ (Nat.le_of_ble_eq_true rfl) dX7_move_2 ⟨Nat.le_of_ble_eq_true rfl, Nat.le_of_ble_eq_true rfl⟩ (fun E ce q9 H locs e_1 hW hS hce hcv hcl => ?_) (fun e_1 H locs hW hS => ?_)
  · have hO : (m_X7_move d t v σ).1 = some E := by rw [m_X7_move, e_1, nd_some]
    exact w_out hC hW hS hout hO hce hcv hcl (Nat.le_of_ble_eq_true rfl) (Nat.le_of_ble_eq_true rfl)
  refine lv_iload_n hx hb dX7_move_5 rfl (lv_at hl 3 rfl) ?_
  refine lv_iconst (v := (-1)) hx hb dX7_move_6 (by decide) ?_
  refine lv_icmp_eq (tgt := 15) hx hb dX7_move_7 (by decide) (fun c_2 => ?_) (fun c_2 => ?_)
  · refine lv_iload_n hx hb dX7_move_15 rfl (lv_at hl 2 rfl) ?_
    refine lv_iconst (v := 0) hx hb dX7_move_16 (by decide) ?_
    refine lv_iconst (v := 3) hx hb dX7_move_17 (by decide) ?_
    refine w_callSX (As := [.int t, .int 0, .int 3]) (rest := []) (st2 := []) hC hW hS hl cs_X7_107 (c_X7_needRange l hl9 D ca base ad σ t 0 3 ) rfl rfl rfl ⟨Nat.le_of_ble_eq_true rfl, Nat.le_of_ble_eq_true rfl⟩ (Nat.le_of_ble_eq_true rfl) dX7_move_18 ⟨Nat.le_of_ble_eq_true rfl, Nat.le_of_ble_eq_true rfl⟩ (fun E ce q9 H locs e_3 hW hS hce hcv hcl => ?_) (fun e_3 H locs hW hS => ?_)
    · have hO : (m_X7_move d t v σ).1 = some E := by rw [m_X7_move, e_1, nd_none, if_pos c_2, e_3, nd_some]
      exact w_out hC hW hS hout hO hce hcv hcl (Nat.le_of_ble_eq_true rfl) (Nat.le_of_ble_eq_true rfl)
    refine lv_aload_n hx hb dX7_move_21 rfl (lv_at hl 0 rfl) ?_
    refine gf_X7_19 hC hW m_7 rfl dX7_move_22 ?_
    refine lv_iload_n hx hb dX7_move_25 rfl (lv_at hl 1 rfl) ?_
    refine lv_iload_n hx hb dX7_move_26 rfl (lv_at hl 2 rfl) ?_
    refine w_callV (As := [.int d, .int t]) (rest := []) (st2 := .int (f_X3_moveOf d t σ) :: []) hC hW hS hl cv_X7_180 m_3 (by decide) rfl (c_X3_moveOf l hl9 D ca base ad σ d t ) rfl rfl rfl ⟨Nat.le_of_ble_eq_true rfl, Nat.le_of_ble_eq_true rfl⟩ (Nat.le_of_ble_eq_true rfl) dX7_move_27 ⟨Nat.le_of_ble_eq_true rfl, Nat.le_of_ble_eq_true rfl⟩ (fun H locs hW hS => ?_)
    refine lv_istore (lv' := [(4, .int (f_X3_moveOf d t σ)), (0, .ref (ad 7 0)), (1, .int d), (2, .int t), (3, .int v)]) hx hb dX7_move_30 hl (by decide) rfl (fun ls hl => ?_)
    refine lv_aload_n hx hb dX7_move_32 rfl (lv_at hl 1 rfl) ?_
    refine gf_X7_19 hC hW m_7 rfl dX7_move_33 ?_
    refine lv_iload_n hx hb dX7_move_36 rfl (lv_at hl 2 rfl) ?_
    refine lv_iload_n hx hb dX7_move_37 rfl (lv_at hl 3 rfl) ?_
    refine lv_iload_n hx hb dX7_move_38 rfl (lv_at hl 4 rfl) ?_
    refine w_callV (As := [.int d, .int t, .int v]) (rest := []) (st2 := []) hC hW hS hl cv_X7_183 m_3 (by decide) rfl (c_X3_setMove l hl9 D ca base ad σ d t v ) rfl rfl rfl ⟨Nat.le_of_ble_eq_true rfl, Nat.le_of_ble_eq_true rfl⟩ (Nat.le_of_ble_eq_true rfl) dX7_move_39 ⟨Nat.le_of_ble_eq_true rfl, Nat.le_of_ble_eq_true rfl⟩ (fun H locs hW hS => ?_)
    refine lv_iload hx hb dX7_move_42 (lv_at hl 0 rfl) ?_
    have hO : m_X7_move d t v σ = (none, f_X3_moveOf d t σ, s_X3_setMove d t v σ) := by rw [m_X7_move, e_1, nd_none, if_pos c_2, e_3, nd_none]
    exact w_iretZ hC hW hS hO (Nat.le_of_ble_eq_true rfl) (Nat.le_of_ble_eq_true rfl) dX7_move_44
  · refine lv_iload_n hx hb dX7_move_10 rfl (lv_at hl 3 rfl) ?_
    refine lv_iconst (v := 4) hx hb dX7_move_11 (by decide) ?_
    refine w_callSX (As := [.int v, .int 4]) (rest := []) (st2 := []) hC hW hS hl cs_X7_76 (c_X7_needPlace l hl9 D ca base ad σ v 4 ) rfl rfl rfl ⟨Nat.le_of_ble_eq_true rfl, Nat.le_of_ble_eq_true rfl⟩ (Nat.le_of_ble_eq_true rfl) dX7_move_12 ⟨Nat.le_of_ble_eq_true rfl, Nat.le_of_ble_eq_true rfl⟩ (fun E ce q9 H locs e_4 hW hS hce hcv hcl => ?_) (fun e_4 H locs hW hS => ?_)
    · have hO : (m_X7_move d t v σ).1 = some E := by rw [m_X7_move, e_1, nd_none, if_neg c_2, e_4, nd_some]
      exact w_out hC hW hS hout hO hce hcv hcl (Nat.le_of_ble_eq_true rfl) (Nat.le_of_ble_eq_true rfl)
    refine lv_iload_n hx hb dX7_move_15 rfl (lv_at hl 2 rfl) ?_
    refine lv_iconst (v := 0) hx hb dX7_move_16 (by decide) ?_
    refine lv_iconst (v := 3) hx hb dX7_move_17 (by decide) ?_
    refine w_callSX (As := [.int t, .int 0, .int 3]) (rest := []) (st2 := []) hC hW hS hl cs_X7_107 (c_X7_needRange l hl9 D ca base ad σ t 0 3 ) rfl rfl rfl ⟨Nat.le_of_ble_eq_true rfl, Nat.le_of_ble_eq_true rfl⟩ (Nat.le_of_ble_eq_true rfl) dX7_move_18 ⟨Nat.le_of_ble_eq_true rfl, Nat.le_of_ble_eq_true rfl⟩ (fun E ce q9 H locs e_5 hW hS hce hcv hcl => ?_) (fun e_5 H locs hW hS => ?_)
    · have hO : (m_X7_move d t v σ).1 = some E := by rw [m_X7_move, e_1, nd_none, if_neg c_2, e_4, nd_none, e_5, nd_some]
      exact w_out hC hW hS hout hO hce hcv hcl (Nat.le_of_ble_eq_true rfl) (Nat.le_of_ble_eq_true rfl)
    refine lv_aload_n hx hb dX7_move_21 rfl (lv_at hl 0 rfl) ?_
    refine gf_X7_19 hC hW m_7 rfl dX7_move_22 ?_
    refine lv_iload_n hx hb dX7_move_25 rfl (lv_at hl 1 rfl) ?_
    refine lv_iload_n hx hb dX7_move_26 rfl (lv_at hl 2 rfl) ?_
    refine w_callV (As := [.int d, .int t]) (rest := []) (st2 := .int (f_X3_moveOf d t σ) :: []) hC hW hS hl cv_X7_180 m_3 (by decide) rfl (c_X3_moveOf l hl9 D ca base ad σ d t ) rfl rfl rfl ⟨Nat.le_of_ble_eq_true rfl, Nat.le_of_ble_eq_true rfl⟩ (Nat.le_of_ble_eq_true rfl) dX7_move_27 ⟨Nat.le_of_ble_eq_true rfl, Nat.le_of_ble_eq_true rfl⟩ (fun H locs hW hS => ?_)
    refine lv_istore (lv' := [(4, .int (f_X3_moveOf d t σ)), (0, .ref (ad 7 0)), (1, .int d), (2, .int t), (3, .int v)]) hx hb dX7_move_30 hl (by decide) rfl (fun ls hl => ?_)
    refine lv_aload_n hx hb dX7_move_32 rfl (lv_at hl 1 rfl) ?_
    refine gf_X7_19 hC hW m_7 rfl dX7_move_33 ?_
    refine lv_iload_n hx hb dX7_move_36 rfl (lv_at hl 2 rfl) ?_
    refine lv_iload_n hx hb dX7_move_37 rfl (lv_at hl 3 rfl) ?_
    refine lv_iload_n hx hb dX7_move_38 rfl (lv_at hl 4 rfl) ?_
    refine w_callV (As := [.int d, .int t, .int v]) (rest := []) (st2 := []) hC hW hS hl cv_X7_183 m_3 (by decide) rfl (c_X3_setMove l hl9 D ca base ad σ d t v ) rfl rfl rfl ⟨Nat.le_of_ble_eq_true rfl, Nat.le_of_ble_eq_true rfl⟩ (Nat.le_of_ble_eq_true rfl) dX7_move_39 ⟨Nat.le_of_ble_eq_true rfl, Nat.le_of_ble_eq_true rfl⟩ (fun H locs hW hS => ?_)
    refine lv_iload hx hb dX7_move_42 (lv_at hl 0 rfl) ?_
    have hO : m_X7_move d t v σ = (none, f_X3_moveOf d t σ, s_X3_setMove d t v σ) := by rw [m_X7_move, e_1, nd_none, if_neg c_2, e_4, nd_none, e_5, nd_none]
    exact w_iretZ hC hW hS hO (Nat.le_of_ble_eq_true rfl) (Nat.le_of_ble_eq_true rfl) dX7_move_44
theorem fr_X7_move {kk : Nat}  {d : Int32} {t : Int32} {v : Int32} {σ : Sg} (h17 : kk ≠ 17) : (m_X7_move d t v σ).2.2 kk = σ kk := by
  rw [m_X7_move]
  repeat' split
  all_goals (first | (simp only [nd_2, us_kk, ne_eq, not_false_eq_true, h17, fr_X3_setMove]; done) | with_reducible rfl | (simp only [nd_2, us_kk, ne_eq, not_false_eq_true, h17, fr_X3_setMove]; with_reducible rfl))
