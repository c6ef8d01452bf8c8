/-- the rows of booleans hold 0 or 1 -/
def BZ (σ : Sg) : Prop := ∀ i : Nat, σ 43 0 i &&& 1 = σ 43 0 i ∧ σ 45 0 i &&& 1 = σ 45 0 i
theorem bz_fr {σ σ' : Sg} (h : BZ σ) (e3 : σ' 43 = σ 43) (e5 : σ' 45 = σ 45) : BZ σ' := by
  intro i
  rw [e3, e5]
  exact h i
theorem bz_43 {σ : Sg} {j : Nat} {v : Int32} (h : BZ σ) (hv : v &&& 1 = v) : BZ (us σ 43 0 j v) := by
  intro i
  refine ⟨?_, by rw [us_k (by decide)]; exact (h i).2⟩
  by_cases q : i = j
  · subst q; rw [us_h]; exact hv
  · rw [us_j q]; exact (h i).1
theorem bz_45 {σ : Sg} {j : Nat} {v : Int32} (h : BZ σ) (hv : v &&& 1 = v) : BZ (us σ 45 0 j v) := by
  intro i
  refine ⟨by rw [us_k (by decide)]; exact (h i).1, ?_⟩
  by_cases q : i = j
  · subst q; rw [us_h]; exact hv
  · rw [us_j q]; exact (h i).2
theorem it_lt {σ : Sg} {t : Int32} (hM : MInv σ) (h : ¬ f_X8_isThing t σ = 0) : t.toNatClampNeg < (σ 8 0 3).toNatClampNeg := by
  obtain ⟨n, h1, h2⟩ := hM.1
  obtain ⟨-, j, hj, rfl⟩ := wi_n h h2 h1 (by decide)
  rw [h2, nI_clamp (by omega), nI_clamp (by omega)]
  exact hj
theorem mn_lt1 {σ σ' : Sg} {t : Int32} {k : Nat} (hM : MInv σ) (ht : vp_in t 12) (e : σ' 41 = σ 41) (hk : k ≤ 5) (c : ¬ σ' 41 0 t.toNatClampNeg ≤ nI k + 1) : k + 1 < 5 := by
  obtain ⟨n, h1, h2⟩ := hM.2.2.2.2.1 _ (vp_lt ht)
  rw [e, h2, nI_1] at c
  rcases Nat.lt_or_ge (k + 1) n with q | q
  · omega
  · exact absurd (nI_le q (by omega)) c
theorem e5_in3 {t : Int32} {k : Nat} (ht : vp_in t 12) (hk : k + 1 < 5) : vp_in ((5 : Int32) * t + nI k + 1) 60 := by
  obtain ⟨j, hj, rfl⟩ := vp_in_of ht (by decide)
  rw [show (5 : Int32) = nI 5 from rfl, pk_mul, nI_add, nI_1]
  exact vp_in_nI (by omega) (by decide)
theorem e5_in4 {t : Int32} {k : Nat} (ht : vp_in t 12) (hk : k + 1 < 5) : vp_in ((5 : Int32) * t + nI k + 1 - 1) 60 := by
  obtain ⟨j, hj, rfl⟩ := vp_in_of ht (by decide)
  rw [show (5 : Int32) = nI 5 from rfl, pk_mul, nI_add, nI_1, show (1 : Int32) = nI 1 from rfl, pk_sub (by omega)]
  exact vp_in_nI (by omega) (by decide)
theorem mn5 {σ : Sg} {t : Int32} (hM : MInv σ) (ht : vp_in t 12) (h : ¬ σ 41 0 t.toNatClampNeg = 5) : vp_in (σ 41 0 t.toNatClampNeg) 5 := by
  obtain ⟨n, h1, h2⟩ := hM.2.2.2.2.1 _ (vp_lt ht)
  have : n ≠ 5 := fun q => h (by rw [h2, q]; rfl)
  rw [h2]
  exact vp_in_nI (by omega) (by decide)
def s_X8_layEntry (a : Int32) (b : Int32) (u : Int32) (r : Int32) (d : Int32) (σ : Sg) : Sg :=
  us (us (us (us σ 43 0 a.toNatClampNeg b) 42 0 a.toNatClampNeg u) 44 0 a.toNatClampNeg r) 45 0 a.toNatClampNeg d
set_option maxHeartbeats 4000000 in
set_option maxRecDepth 100000 in
theorem c_X8_layEntry (l : Launch) (hl9 : l.stackTraces = false) (D : va_G) (ca : Nat → ClassId) (base : Nat) (ad : Adr) (σ : Sg) (a : Int32) (b : Int32) (u : Int32) (r : Int32) (d : Int32) (ha : vp_in a 60) (hb1 : b &&& 1 = b) (hd1 : d &&& 1 = d) : Mt l yX8_layEntry cX8_layEntry 6 none { frames := 0, cells := 0, slots := 0, locals := 0 } D ca base ad ρm Lm [.ref (ad 8 0), .int a, .int b, .int u, .int r, .int d] σ none (us (us (us (us σ 43 0 a.toNatClampNeg b) 42 0 a.toNatClampNeg u) 44 0 a.toNatClampNeg r) 45 0 a.toNatClampNeg d) := by
  refine w_ofW (by decide) (Nat.le_of_ble_eq_true rfl) rfl ?_
  intro p e s m args below meth c hC hW hS ls hl hin
  have hx := hC.1
  have hb := hC.2.1
  refine lv_aload_n hx hb dX8_layEntry_0 rfl (lv_at hl 0 rfl) ?_
  refine gf_X8_43 hC hW m_8 rfl dX8_layEntry_1 ?_
  refine lv_iload_n hx hb dX8_layEntry_4 rfl (lv_at hl 1 rfl) ?_
  refine lv_iload_n hx hb dX8_layEntry_5 rfl (lv_at hl 2 rfl) ?_
  refine w_zast hC hW hS m_43 (n := 60) (fun _ => rfl) hb1 (by first | assumption | exact vp_in_c (y := 60) (by decide) (by decide) (by assumption) (by assumption) | (exfalso; contradiction)) dX8_layEntry_6 (fun H locs hW hS => ?_)
  refine lv_aload_n hx hb dX8_layEntry_7 rfl (lv_at hl 0 rfl) ?_
  refine gf_X8_40 hC hW m_8 rfl dX8_layEntry_8 ?_
  refine lv_iload_n hx hb dX8_layEntry_11 rfl (lv_at hl 1 rfl) ?_
  refine lv_iload_n hx hb dX8_layEntry_12 rfl (lv_at hl 3 rfl) ?_
  refine w_iast hC hW hS m_42 (n := 60) (fun _ => rfl) (by first | assumption | exact vp_in_c (y := 60) (by decide) (by decide) (by assumption) (by assumption) | (exfalso; contradiction)) dX8_layEntry_13 (fun H locs hW hS => ?_)
  refine lv_aload_n hx hb dX8_layEntry_14 rfl (lv_at hl 0 rfl) ?_
  refine gf_X8_47 hC hW m_8 rfl dX8_layEntry_15 ?_
  refine lv_iload_n hx hb dX8_layEntry_18 rfl (lv_at hl 1 rfl) ?_
  refine lv_iload hx hb dX8_layEntry_19 (lv_at hl 4 rfl) ?_
  refine w_iast hC hW hS m_44 (n := 60) (fun _ => rfl) (by first | assumption | exact vp_in_c (y := 60) (by decide) (by decide) (by assumption) (by assumption) | (exfalso; contradiction)) dX8_layEntry_21 (fun H locs hW hS => ?_)
  refine lv_aload_n hx hb dX8_layEntry_22 rfl (lv_at hl 0 rfl) ?_
  refine gf_X8_50 hC hW m_8 rfl dX8_layEntry_23 ?_
  refine lv_iload_n hx hb dX8_layEntry_26 rfl (lv_at hl 1 rfl) ?_
  refine lv_iload hx hb dX8_layEntry_27 (lv_at hl 5 rfl) ?_
  refine w_zast hC hW hS m_45 (n := 60) (fun _ => rfl) hd1 (by first | assumption | exact vp_in_c (y := 60) (by decide) (by decide) (by assumption) (by assumption) | (exfalso; contradiction)) dX8_layEntry_29 (fun H locs hW hS => ?_)
  exact w_vret hC hW hS rfl (Nat.le_of_ble_eq_true rfl) (Nat.le_of_ble_eq_true rfl) dX8_layEntry_30

def f_X8_thing_L135 (t : Int32) (u : Int32) (g : Int32) (v : Int32) : Nat → Nat → Int32 → Sg → Sg
  | 0, _, _, σ135 => σ135
  | n135 + 1, k135, w6_135, σ135 => if t = (-1) then σ135
    else if (σ135 41 0 t.toNatClampNeg) ≤ (nI k135) then σ135
    else if (σ135 45 0 ((((5 : Int32) * t) + (nI k135)).toNatClampNeg)) = 0 then f_X8_thing_L135 t u g v n135 (k135 + 1) w6_135 σ135
    else f_X8_thing_L135 t u g v n135 (k135 + 1) w6_135 (us (us (us (us (us σ135 43 0 ((((5 : Int32) * w6_135) + (σ135 41 0 (w6_135.toNatClampNeg))).toNatClampNeg) (σ135 43 0 ((((5 : Int32) * t) + (nI k135)).toNatClampNeg))) 42 0 ((((5 : Int32) * w6_135) + (σ135 41 0 (w6_135.toNatClampNeg))).toNatClampNeg) (σ135 42 0 ((((5 : Int32) * t) + (nI k135)).toNatClampNeg))) 44 0 ((((5 : Int32) * w6_135) + (σ135 41 0 (w6_135.toNatClampNeg))).toNatClampNeg) (σ135 44 0 ((((5 : Int32) * t) + (nI k135)).toNatClampNeg))) 45 0 ((((5 : Int32) * w6_135) + (σ135 41 0 (w6_135.toNatClampNeg))).toNatClampNeg) 1) 41 0 (w6_135.toNatClampNeg) ((σ135 41 0 (w6_135.toNatClampNeg)) + (1 : Int32)))
def f_X8_thing (t : Int32) (u : Int32) (g : Int32) (v : Int32) (σ : Sg) : Int32 × Sg :=
  if t = (-1) then (if (f_X8_isSix u) = 0 then (0, us σ 8 0 0 1)
    else if (f_X8_isSix g) = 0 then (0, us σ 8 0 0 1)
    else if (f_X8_within v 0 1023) = 0 then (0, us σ 8 0 0 2)
    else if (σ 8 0 3) = 12 then (0, us σ 8 0 0 3)
    else ((σ 8 0 3), (f_X8_thing_L135 t u g v 6 0 (σ 8 0 3) (us (us (us (us (us (us σ 8 0 0 0) 8 0 3 ((σ 8 0 3) + (1 : Int32))) 34 0 ((σ 8 0 3).toNatClampNeg) u) 35 0 ((σ 8 0 3).toNatClampNeg) g) 36 0 ((σ 8 0 3).toNatClampNeg) v) 40 0 ((σ 8 0 3).toNatClampNeg) 7))))
  else if (f_X8_isThing t σ) = 0 then (0, us σ 8 0 0 1)
  else if (f_X8_isSix u) = 0 then (0, us σ 8 0 0 1)
  else if (f_X8_isSix g) = 0 then (0, us σ 8 0 0 1)
  else if (f_X8_within v 0 1023) = 0 then (0, us σ 8 0 0 2)
  else if (σ 8 0 3) = 12 then (0, us σ 8 0 0 3)
  else ((σ 8 0 3), (f_X8_thing_L135 t u g v 6 0 (σ 8 0 3) (us (us (us (us (us (us σ 8 0 0 0) 8 0 3 ((σ 8 0 3) + (1 : Int32))) 34 0 ((σ 8 0 3).toNatClampNeg) u) 35 0 ((σ 8 0 3).toNatClampNeg) g) 36 0 ((σ 8 0 3).toNatClampNeg) v) 40 0 ((σ 8 0 3).toNatClampNeg) 7)))
set_option maxHeartbeats 4000000 in
set_option maxRecDepth 100000 in
theorem c_X8_thing (l : Launch) (hl9 : l.stackTraces = false) (D : va_G) (ca : Nat → ClassId) (base : Nat) (ad : Adr) (σ : Sg) (t : Int32) (u : Int32) (g : Int32) (v : Int32) (hM : MInv σ) (hB : BZ σ) (hF : σ 41 0 (σ 8 0 3).toNatClampNeg = 0 ∨ σ 8 0 3 = 12) : Mt l yX8_thing cX8_thing 9 (some .int) { frames := 2, cells := 0, slots := 0, locals := 43 } D ca base ad ρm Lm [.ref (ad 8 0), .int t, .int u, .int g, .int v] σ (some (.int (f_X8_thing t u g v σ).1)) (f_X8_thing t u g v σ).2 := by
  refine w_ofW (by decide) (Nat.le_of_ble_eq_true rfl) rfl ?_
  intro p e s m args below meth c hC hW hS ls hl hin
  have hx := hC.1
  have hb := hC.2.1
  refine lv_iload_n hx hb dX8_thing_0 rfl (lv_at hl 1 rfl) ?_
  refine lv_iconst (v := (-1)) hx hb dX8_thing_1 (by decide) ?_
  refine lv_icmp_eq (tgt := 13) hx hb dX8_thing_2 (by decide) (fun c_1 => ?_) (fun c_1 => ?_)
  · refine lv_iload_n hx hb dX8_thing_13 rfl (lv_at hl 2 rfl) ?_
    refine w_callS (As := [.int u]) (rest := []) (st2 := .int (f_X8_isSix u) :: []) hC hW hS hl cs_X8_150 (c_X8_isSix l hl9 D ca base ad σ u ) rfl rfl rfl ⟨Nat.le_of_ble_eq_true rfl, Nat.le_of_ble_eq_true rfl⟩ (Nat.le_of_ble_eq_true rfl) dX8_thing_14 ⟨Nat.le_of_ble_eq_true rfl, Nat.le_of_ble_eq_true rfl⟩ (fun H locs hW hS => ?_)
    refine lv_if_eq (tgt := 31) hx hb dX8_thing_17 (by decide) (fun c_2 => ?_) (fun c_2 => ?_)
    · refine lv_iconst (v := 0) hx hb dX8_thing_31 (by decide) ?_
      refine lv_istore (lv' := [(5, .int 0), (0, .ref (ad 8 0)), (1, .int t), (2, .int u), (3, .int g), (4, .int v)]) hx hb dX8_thing_32 hl (by decide) rfl (fun ls hl => ?_)
      refine lv_aload_n hx hb dX8_thing_34 rfl (lv_at hl 1 rfl) ?_
      refine lv_iload hx hb dX8_thing_35 (lv_at hl 0 rfl) ?_
      refine lv_if_ne (tgt := 44) hx hb dX8_thing_37 (by decide) (fun c => absurd (by decide) c) (fun _ => ?_)
      refine lv_iconst (v := 1) hx hb dX8_thing_40 (by decide) ?_
      refine lv_goto (tgt := 74) hx hb dX8_thing_41 (by decide) ?_
      refine w_callV (As := [.int 1]) (rest := []) (st2 := .int (f_X8_rf 1) :: []) hC hW hS hl cv_X8_154 m_8 (by decide) rfl (c_X8_refused l hl9 D ca base ad σ 1 ) rfl rfl rfl ⟨Nat.le_of_ble_eq_true rfl, Nat.le_of_ble_eq_true rfl⟩ (Nat.le_of_ble_eq_true rfl) dX8_thing_74 ⟨Nat.le_of_ble_eq_true rfl, Nat.le_of_ble_eq_true rfl⟩ (fun H locs hW hS => ?_)
      refine lv_eqi (y := 1) (by decide) ?_
      refine lv_if_eq (tgt := 82) hx hb dX8_thing_77 (by decide) (fun c => absurd c (by decide)) (fun _ => ?_)
      refine lv_iconst (v := 0) hx hb dX8_thing_80 (by decide) ?_
      have hO : f_X8_thing t u g v σ = (0, us σ 8 0 0 1) := by rw [f_X8_thing, if_pos c_1, if_pos c_2]
      exact w_iretS hC hW hS hO (Nat.le_of_ble_eq_true rfl) (Nat.le_of_ble_eq_true rfl) dX8_thing_81
    · refine lv_iload_n hx hb dX8_thing_20 rfl (lv_at hl 3 rfl) ?_
      refine w_callS (As := [.int g]) (rest := []) (st2 := .int (f_X8_isSix g) :: []) hC hW hS hl cs_X8_150 (c_X8_isSix l hl9 D ca base ad σ g ) rfl rfl rfl ⟨Nat.le_of_ble_eq_true rfl, Nat.le_of_ble_eq_true rfl⟩ (Nat.le_of_ble_eq_true rfl) dX8_thing_21 ⟨Nat.le_of_ble_eq_true rfl, Nat.le_of_ble_eq_true rfl⟩ (fun H locs hW hS => ?_)
      refine lv_if_eq (tgt := 31) hx hb dX8_thing_24 (by decide) (fun c_3 => ?_) (fun c_3 => ?_)
      · refine lv_iconst (v := 0) hx hb dX8_thing_31 (by decide) ?_
        refine lv_istore (lv' := [(5, .int 0), (0, .ref (ad 8 0)), (1, .int t), (2, .int u), (3, .int g), (4, .int v)]) hx hb dX8_thing_32 hl (by decide) rfl (fun ls hl => ?_)
        refine lv_aload_n hx hb dX8_thing_34 rfl (lv_at hl 1 rfl) ?_
        refine lv_iload hx hb dX8_thing_35 (lv_at hl 0 rfl) ?_
        refine lv_if_ne (tgt := 44) hx hb dX8_thing_37 (by decide) (fun c => absurd (by decide) c) (fun _ => ?_)
        refine lv_iconst (v := 1) hx hb dX8_thing_40 (by decide) ?_
        refine lv_goto (tgt := 74) hx hb dX8_thing_41 (by decide) ?_
        refine w_callV (As := [.int 1]) (rest := []) (st2 := .int (f_X8_rf 1) :: []) hC hW hS hl cv_X8_154 m_8 (by decide) rfl (c_X8_refused l hl9 D ca base ad σ 1 ) rfl rfl rfl ⟨Nat.le_of_ble_eq_true rfl, Nat.le_of_ble_eq_true rfl⟩ (Nat.le_of_ble_eq_true rfl) dX8_thing_74 ⟨Nat.le_of_ble_eq_true rfl, Nat.le_of_ble_eq_true rfl⟩ (fun H locs hW hS => ?_)
        refine lv_eqi (y := 1) (by decide) ?_
        refine lv_if_eq (tgt := 82) hx hb dX8_thing_77 (by decide) (fun c => absurd c (by decide)) (fun _ => ?_)
        refine lv_iconst (v := 0) hx hb dX8_thing_80 (by decide) ?_
        have hO : f_X8_thing t u g v σ = (0, us σ 8 0 0 1) := by rw [f_X8_thing, if_pos c_1, if_neg c_2, if_pos c_3]
        exact w_iretS hC hW hS hO (Nat.le_of_ble_eq_true rfl) (Nat.le_of_ble_eq_true rfl) dX8_thing_81
      · refine lv_iconst (v := 1) hx hb dX8_thing_27 (by decide) ?_
        refine lv_goto (tgt := 32) hx hb dX8_thing_28 (by decide) ?_
        refine lv_istore (lv' := [(5, .int 1), (0, .ref (ad 8 0)), (1, .int t), (2, .int u), (3, .int g), (4, .int v)]) hx hb dX8_thing_32 hl (by decide) rfl (fun ls hl => ?_)
        refine lv_aload_n hx hb dX8_thing_34 rfl (lv_at hl 1 rfl) ?_
        refine lv_iload hx hb dX8_thing_35 (lv_at hl 0 rfl) ?_
        refine lv_if_ne (tgt := 44) hx hb dX8_thing_37 (by decide) (fun _ => ?_) (fun c => absurd c (by decide))
        refine lv_iload hx hb dX8_thing_44 (lv_at hl 5 rfl) ?_
        refine lv_iconst (v := 0) hx hb dX8_thing_46 (by decide) ?_
        refine lv_sipush (v := 1023) hx hb dX8_thing_47 (by decide) ?_
        refine w_callS (As := [.int v, .int 0, .int 1023]) (rest := .ref (ad 8 0) :: []) (st2 := .int (f_X8_within v 0 1023) :: .ref (ad 8 0) :: []) hC hW hS hl cs_X8_129 (c_X8_within l hl9 D ca base ad σ v 0 1023 ) rfl rfl rfl ⟨Nat.le_of_ble_eq_true rfl, Nat.le_of_ble_eq_true rfl⟩ (Nat.le_of_ble_eq_true rfl) dX8_thing_50 ⟨Nat.le_of_ble_eq_true rfl, Nat.le_of_ble_eq_true rfl⟩ (fun H locs hW hS => ?_)
        refine lv_if_ne (tgt := 60) hx hb dX8_thing_53 (by decide) (fun c_4 => ?_) (fun c_4 => ?_)
        · refine lv_aload_n hx hb dX8_thing_60 rfl (lv_at hl 1 rfl) ?_
          refine gf_X8_133 hC hW m_8 dX8_thing_61 ?_
          refine lv_bipush (v := 12) hx hb dX8_thing_64 (by decide) ?_
          refine lv_icmp_ne (tgt := 73) hx hb dX8_thing_66 (by decide) (fun c_5 => ?_) (fun c_5 => ?_)
          · refine lv_iconst (v := 0) hx hb dX8_thing_73 (by decide) ?_
            refine w_callV (As := [.int 0]) (rest := []) (st2 := .int (f_X8_rf 0) :: []) hC hW hS hl cv_X8_154 m_8 (by decide) rfl (c_X8_refused l hl9 D ca base ad σ 0 ) rfl rfl rfl ⟨Nat.le_of_ble_eq_true rfl, Nat.le_of_ble_eq_true rfl⟩ (Nat.le_of_ble_eq_true rfl) dX8_thing_74 ⟨Nat.le_of_ble_eq_true rfl, Nat.le_of_ble_eq_true rfl⟩ (fun H locs hW hS => ?_)
            refine lv_eqi (y := 0) (by decide) ?_
            refine lv_if_eq (tgt := 82) hx hb dX8_thing_77 (by decide) (fun _ => ?_) (fun c => absurd (by decide) c)
            have hne : ¬ t = -1 → t.toNatClampNeg ≠ (σ 8 0 3).toNatClampNeg := fun h9 => by first | exact absurd (by assumption) h9 | exact Nat.ne_of_lt (it_lt hM (by assumption))
            refine lv_aload_n hx hb dX8_thing_82 rfl (lv_at hl 1 rfl) ?_
            refine gf_X8_133 hC hW m_8 dX8_thing_83 ?_
            refine lv_eqi (y := σ 8 0 3) (by rw [us_j (by decide)]) ?_
            refine lv_istore (lv' := [(6, .int (σ 8 0 3)), (5, .int 1), (0, .ref (ad 8 0)), (1, .int t), (2, .int u), (3, .int g), (4, .int v)]) hx hb dX8_thing_86 hl (by decide) rfl (fun ls hl => ?_)
            refine lv_aload_n hx hb dX8_thing_88 rfl (lv_at hl 2 rfl) ?_
            refine lv_dup hx hb dX8_thing_89 rfl ?_
            refine gf_X8_133 hC hW m_8 dX8_thing_90 ?_
            refine lv_eqi (y := σ 8 0 3) (by rw [us_j (by decide)]) ?_
            refine lv_iconst (v := 1) hx hb dX8_thing_93 (by decide) ?_
            refine lv_iadd hx hb dX8_thing_94 ?_
            refine pf_X8_133 hC hW m_8 hS dX8_thing_95 (fun H locs hW hS => ?_)
            refine lv_aload_n hx hb dX8_thing_98 rfl (lv_at hl 2 rfl) ?_
            refine gf_X8_16 hC hW m_8 rfl dX8_thing_99 ?_
            refine lv_iload hx hb dX8_thing_102 (lv_at hl 0 rfl) ?_
            refine lv_iload_n hx hb dX8_thing_104 rfl (lv_at hl 4 rfl) ?_
            refine w_iast hC hW hS m_34 (n := 12) (fun _ => rfl) (tc_in hM (by assumption)) dX8_thing_105 (fun H locs hW hS => ?_)
            refine lv_aload_n hx hb dX8_thing_106 rfl (lv_at hl 2 rfl) ?_
            refine gf_X8_19 hC hW m_8 rfl dX8_thing_107 ?_
            refine lv_iload hx hb dX8_thing_110 (lv_at hl 0 rfl) ?_
            refine lv_iload_n hx hb dX8_thing_112 rfl (lv_at hl 5 rfl) ?_
            refine w_iast hC hW hS m_35 (n := 12) (fun _ => rfl) (tc_in hM (by assumption)) dX8_thing_113 (fun H locs hW hS => ?_)
            refine lv_aload_n hx hb dX8_thing_114 rfl (lv_at hl 2 rfl) ?_
            refine gf_X8_22 hC hW m_8 rfl dX8_thing_115 ?_
            refine lv_iload hx hb dX8_thing_118 (lv_at hl 0 rfl) ?_
            refine lv_iload hx hb dX8_thing_120 (lv_at hl 6 rfl) ?_
            refine w_iast hC hW hS m_36 (n := 12) (fun _ => rfl) (tc_in hM (by assumption)) dX8_thing_122 (fun H locs hW hS => ?_)
            refine lv_aload_n hx hb dX8_thing_123 rfl (lv_at hl 2 rfl) ?_
            refine gf_X8_34 hC hW m_8 rfl dX8_thing_124 ?_
            refine lv_iload hx hb dX8_thing_127 (lv_at hl 0 rfl) ?_
            refine lv_bipush (v := 7) hx hb dX8_thing_129 (by decide) ?_
            refine w_iast hC hW hS m_40 (n := 12) (fun _ => rfl) (tc_in hM (by assumption)) dX8_thing_131 (fun H locs hW hS => ?_)
            refine lv_iconst (v := 0) hx hb dX8_thing_132 (by decide) ?_
            refine lv_istore (lv' := [(7, .int 0), (6, .int (σ 8 0 3)), (5, .int 1), (0, .ref (ad 8 0)), (1, .int t), (2, .int u), (3, .int g), (4, .int v)]) hx hb dX8_thing_133 hl (by decide) rfl (fun ls hl => ?_)
            have h_135 : ∀ (n135 k135 : Nat) (σ135 : Sg) (H : Heap) (locs : List Loc) (ls : Array Slot), 6 ≤ k135 + n135 → k135 ≤ 5 → (∃ q : Nat, q ≤ k135 ∧ σ135 41 0 (σ 8 0 3).toNatClampNeg = nI q) → (¬ t = -1 → ∃ q : Nat, q ≤ 5 ∧ σ135 41 0 t.toNatClampNeg = nI q) → (BZ σ135) → Wd D ca (Ab base) ad ρm Lm σ135 H → va_S (Ab base) s.heap H locs → lv_has ls 9 [(7, .int (nI k135)), (6, .int (σ 8 0 3)), (0, .ref (ad 8 0)), (1, .int t)] → f_X8_thing t u g v σ = (((σ 8 0 3), (f_X8_thing_L135 t u g v n135 k135 (σ 8 0 3) σ135))) → W p l e ({ frames := 2, cells := 0, slots := 0, locals := 43 } : Room) s m args below meth c H locs 0 0 (MQ below (Rt D ca base ad ρm Lm (f_X8_thing t u g v σ).2 (some (.int (f_X8_thing t u g v σ).1))) args s 0 0 (Ab base)) (F0 m 135 ls []) := by
              intro n135
              induction n135 with
              | zero =>
                intro k135 σ135 H locs ls hk1_135 hk2_135 hq9 hr9 hB9 hW hS hl hO
                exact absurd hk1_135 (by omega)
              | succ n135 ih_135 =>
                intro k135 σ135 H locs ls hk1_135 hk2_135 hq9 hr9 hB9 hW hS hl hO
                refine lv_iload_n hx hb dX8_thing_135 rfl (lv_at hl 3 rfl) ?_
                refine lv_iconst (v := (-1)) hx hb dX8_thing_136 (by decide) ?_
                refine lv_icmp_eq (tgt := 236) hx hb dX8_thing_137 (by decide) (fun c_6 => ?_) (fun c_6 => ?_)
                · replace hl := lv_sub hl [1, 2, 3] (l' := [(6, .int (σ 8 0 3)), (0, .ref (ad 8 0)), (1, .int t)]) rfl
                  refine lv_iload hx hb dX8_thing_236 (lv_at hl 0 rfl) ?_
                  have hO : f_X8_thing t u g v σ = (σ 8 0 3, σ135) := by rw [hO, f_X8_thing_L135, if_pos c_6]
                  exact w_iretS hC hW hS hO (Nat.le_of_ble_eq_true rfl) (Nat.le_of_ble_eq_true rfl) dX8_thing_238
                · refine lv_iload hx hb dX8_thing_140 (lv_at hl 0 rfl) ?_
                  refine lv_aload_n hx hb dX8_thing_142 rfl (lv_at hl 2 rfl) ?_
                  refine gf_X8_37 hC hW m_8 rfl dX8_thing_143 ?_
                  refine lv_iload_n hx hb dX8_thing_146 rfl (lv_at hl 3 rfl) ?_
                  refine w_iald hC hW m_41 (n := 12) rfl (by first | exact it_in hM (by assumption) | (exfalso; contradiction)) dX8_thing_147 ?_
                  refine lv_icmp_ge (tgt := 236) hx hb dX8_thing_148 (by decide) (fun c_7 => ?_) (fun c_7 => ?_)
                  · replace hl := lv_sub hl [1, 2, 3] (l' := [(6, .int (σ 8 0 3)), (0, .ref (ad 8 0)), (1, .int t)]) rfl
                    refine lv_iload hx hb dX8_thing_236 (lv_at hl 0 rfl) ?_
                    have hO : f_X8_thing t u g v σ = (σ 8 0 3, σ135) := by rw [hO, f_X8_thing_L135, if_neg c_6, if_pos c_7]
                    exact w_iretS hC hW hS hO (Nat.le_of_ble_eq_true rfl) (Nat.le_of_ble_eq_true rfl) dX8_thing_238
                  · have hi_c_7 : k135 < 5 := by
                      obtain ⟨q, q1, q2⟩ := hr9 (by assumption)
                      exact idx_lt4 c_7 q2 q1 (by decide) (by omega)
                    refine lv_aload_n hx hb dX8_thing_151 rfl (lv_at hl 2 rfl) ?_
                    refine gf_X8_50 hC hW m_8 rfl dX8_thing_152 ?_
                    refine lv_iconst (v := 5) hx hb dX8_thing_155 (by decide) ?_
                    refine lv_iload_n hx hb dX8_thing_156 rfl (lv_at hl 3 rfl) ?_
                    refine lv_imul hx hb dX8_thing_157 ?_
                    refine lv_iload hx hb dX8_thing_158 (lv_at hl 0 rfl) ?_
                    refine lv_iadd hx hb dX8_thing_160 ?_
                    refine w_zald hC hW m_45 (n := 60) rfl (by first | exact e5_in (it_in hM (by assumption)) (by omega) | (exfalso; contradiction)) dX8_thing_161 ?_
                    refine lv_if_eq (tgt := 230) hx hb dX8_thing_162 (by decide) (fun c_8 => ?_) (fun c_8 => ?_)
                    · refine lv_iinc (v := nI (k135 + 1)) (lv' := [(7, .int (nI (k135 + 1))), (6, .int (σ 8 0 3)), (0, .ref (ad 8 0)), (1, .int t)]) hx hb dX8_thing_230 hl (k := 0) rfl (nI_1 _) (by decide) rfl (fun ls hl => ?_)
                      refine lv_goto (tgt := 135) hx hb dX8_thing_233 (by decide) ?_
                      refine ih_135 (k135 + 1) σ135 _ _ _ (by omega) (by omega) (by obtain ⟨q, q1, q2⟩ := hq9; exact ⟨q, by omega, q2⟩) hr9 hB9 hW hS (lv_sub hl [0, 1, 2, 3] rfl) ?_
                      rw [hO, f_X8_thing_L135, if_neg c_6, if_neg c_7, if_pos c_8]
                    · refine lv_iconst (v := 5) hx hb dX8_thing_165 (by decide) ?_
                      refine lv_iload hx hb dX8_thing_166 (lv_at hl 1 rfl) ?_
                      refine lv_imul hx hb dX8_thing_168 ?_
                      refine lv_aload_n hx hb dX8_thing_169 rfl (lv_at hl 2 rfl) ?_
                      refine gf_X8_37 hC hW m_8 rfl dX8_thing_170 ?_
                      refine lv_iload hx hb dX8_thing_173 (lv_at hl 1 rfl) ?_
                      refine w_iald hC hW m_41 (n := 12) rfl (tc_in hM (by assumption)) dX8_thing_175 ?_
                      refine lv_iadd hx hb dX8_thing_176 ?_
                      refine lv_istore (lv' := [(8, .int (((5 : Int32) * (σ 8 0 3)) + (σ135 41 0 ((σ 8 0 3).toNatClampNeg)))), (7, .int (nI k135)), (6, .int (σ 8 0 3)), (0, .ref (ad 8 0)), (1, .int t)]) hx hb dX8_thing_177 hl (by decide) rfl (fun ls hl => ?_)
                      refine lv_aload_n hx hb dX8_thing_179 rfl (lv_at hl 3 rfl) ?_
                      refine lv_iload hx hb dX8_thing_180 (lv_at hl 0 rfl) ?_
                      refine lv_aload_n hx hb dX8_thing_182 rfl (lv_at hl 3 rfl) ?_
                      refine gf_X8_43 hC hW m_8 rfl dX8_thing_183 ?_
                      refine lv_iconst (v := 5) hx hb dX8_thing_186 (by decide) ?_
                      refine lv_iload_n hx hb dX8_thing_187 rfl (lv_at hl 4 rfl) ?_
                      refine lv_imul hx hb dX8_thing_188 ?_
                      refine lv_iload hx hb dX8_thing_189 (lv_at hl 1 rfl) ?_
                      refine lv_iadd hx hb dX8_thing_191 ?_
                      refine w_zald hC hW m_43 (n := 60) rfl (by first | exact e5_in (it_in hM (by assumption)) (by omega) | (exfalso; contradiction)) dX8_thing_192 ?_
                      refine lv_aload_n hx hb dX8_thing_193 rfl (lv_at hl 3 rfl) ?_
                      refine gf_X8_40 hC hW m_8 rfl dX8_thing_194 ?_
                      refine lv_iconst (v := 5) hx hb dX8_thing_197 (by decide) ?_
                      refine lv_iload_n hx hb dX8_thing_198 rfl (lv_at hl 4 rfl) ?_
                      refine lv_imul hx hb dX8_thing_199 ?_
                      refine lv_iload hx hb dX8_thing_200 (lv_at hl 1 rfl) ?_
                      refine lv_iadd hx hb dX8_thing_202 ?_
                      refine w_iald hC hW m_42 (n := 60) rfl (by first | exact e5_in (it_in hM (by assumption)) (by omega) | (exfalso; contradiction)) dX8_thing_203 ?_
                      refine lv_aload_n hx hb dX8_thing_204 rfl (lv_at hl 3 rfl) ?_
                      refine gf_X8_47 hC hW m_8 rfl dX8_thing_205 ?_
                      refine lv_iconst (v := 5) hx hb dX8_thing_208 (by decide) ?_
                      refine lv_iload_n hx hb dX8_thing_209 rfl (lv_at hl 4 rfl) ?_
                      refine lv_imul hx hb dX8_thing_210 ?_
                      refine lv_iload hx hb dX8_thing_211 (lv_at hl 1 rfl) ?_
                      refine lv_iadd hx hb dX8_thing_213 ?_
                      refine w_iald hC hW m_44 (n := 60) rfl (by first | exact e5_in (it_in hM (by assumption)) (by omega) | (exfalso; contradiction)) dX8_thing_214 ?_
                      refine lv_iconst (v := 1) hx hb dX8_thing_215 (by decide) ?_
                      refine w_callV (As := [.int (((5 : Int32) * (σ 8 0 3)) + (σ135 41 0 ((σ 8 0 3).toNatClampNeg))), .int (σ135 43 0 ((((5 : Int32) * t) + (nI k135)).toNatClampNeg)), .int (σ135 42 0 ((((5 : Int32) * t) + (nI k135)).toNatClampNeg)), .int (σ135 44 0 ((((5 : Int32) * t) + (nI k135)).toNatClampNeg)), .int 1]) (rest := []) (st2 := []) hC hW hS hl cv_X8_162 m_8 (by decide) rfl (c_X8_layEntry l hl9 D ca base ad σ135 (((5 : Int32) * (σ 8 0 3)) + (σ135 41 0 ((σ 8 0 3).toNatClampNeg))) (σ135 43 0 ((((5 : Int32) * t) + (nI k135)).toNatClampNeg)) (σ135 42 0 ((((5 : Int32) * t) + (nI k135)).toNatClampNeg)) (σ135 44 0 ((((5 : Int32) * t) + (nI k135)).toNatClampNeg)) 1 (by obtain ⟨q, q1, q2⟩ := hq9; rw [q2]; exact e5_in (tc_in hM (by assumption)) (by omega)) (hB9 _).1 (by decide)) rfl rfl rfl ⟨Nat.le_of_ble_eq_true rfl, Nat.le_of_ble_eq_true rfl⟩ (Nat.le_of_ble_eq_true rfl) dX8_thing_216 ⟨Nat.le_of_ble_eq_true rfl, Nat.le_of_ble_eq_true rfl⟩ (fun H locs hW hS => ?_)
                      refine lv_aload_n hx hb dX8_thing_219 rfl (lv_at hl 3 rfl) ?_
                      refine gf_X8_37 hC hW m_8 rfl dX8_thing_220 ?_
                      refine lv_iload hx hb dX8_thing_223 (lv_at hl 2 rfl) ?_
                      refine lv_dup2_11 hx hb dX8_thing_225 rfl rfl ?_
                      refine w_iald hC hW m_41 (n := 12) rfl (tc_in hM (by assumption)) dX8_thing_226 ?_
                      refine lv_eqi (y := σ135 41 0 ((σ 8 0 3).toNatClampNeg)) (by rw [us_k (by decide), us_k (by decide), us_k (by decide), us_k (by decide)]) ?_
                      refine lv_iconst (v := 1) hx hb dX8_thing_227 (by decide) ?_
                      refine lv_iadd hx hb dX8_thing_228 ?_
                      refine w_iast hC hW hS m_41 (n := 12) (fun _ => rfl) (tc_in hM (by assumption)) dX8_thing_229 (fun H locs hW hS => ?_)
                      refine lv_iinc (v := nI (k135 + 1)) (lv' := [(7, .int (nI (k135 + 1))), (8, .int (((5 : Int32) * (σ 8 0 3)) + (σ135 41 0 ((σ 8 0 3).toNatClampNeg)))), (6, .int (σ 8 0 3)), (0, .ref (ad 8 0)), (1, .int t)]) hx hb dX8_thing_230 hl (k := 1) rfl (nI_1 _) (by decide) rfl (fun ls hl => ?_)
                      refine lv_goto (tgt := 135) hx hb dX8_thing_233 (by decide) ?_
                      refine ih_135 (k135 + 1) (us (us (us (us (us σ135 43 0 ((((5 : Int32) * (σ 8 0 3)) + (σ135 41 0 ((σ 8 0 3).toNatClampNeg))).toNatClampNeg) (σ135 43 0 ((((5 : Int32) * t) + (nI k135)).toNatClampNeg))) 42 0 ((((5 : Int32) * (σ 8 0 3)) + (σ135 41 0 ((σ 8 0 3).toNatClampNeg))).toNatClampNeg) (σ135 42 0 ((((5 : Int32) * t) + (nI k135)).toNatClampNeg))) 44 0 ((((5 : Int32) * (σ 8 0 3)) + (σ135 41 0 ((σ 8 0 3).toNatClampNeg))).toNatClampNeg) (σ135 44 0 ((((5 : Int32) * t) + (nI k135)).toNatClampNeg))) 45 0 ((((5 : Int32) * (σ 8 0 3)) + (σ135 41 0 ((σ 8 0 3).toNatClampNeg))).toNatClampNeg) 1) 41 0 ((σ 8 0 3).toNatClampNeg) ((σ135 41 0 ((σ 8 0 3).toNatClampNeg)) + (1 : Int32))) _ _ _ (by omega) (by omega) (by obtain ⟨q, q1, q2⟩ := hq9; exact ⟨q + 1, by omega, by rw [us_h, q2]; exact nI_1 q⟩) (fun h9 => by rw [us_j (hne h9), us_k (by decide), us_k (by decide), us_k (by decide), us_k (by decide)]; exact hr9 h9) (bz_fr (bz_45 (bz_fr (bz_fr (bz_43 hB9 (hB9 _).1) (us_kk (by decide)) (us_kk (by decide))) (us_kk (by decide)) (us_kk (by decide))) (by decide)) (us_kk (by decide)) (us_kk (by decide))) hW hS (lv_sub hl [0, 2, 3, 4] rfl) ?_
                      rw [hO, f_X8_thing_L135, if_neg c_6, if_neg c_7, if_neg c_8]
            refine h_135 6 0 (us (us (us (us (us (us σ 8 0 0 0) 8 0 3 ((σ 8 0 3) + (1 : Int32))) 34 0 ((σ 8 0 3).toNatClampNeg) u) 35 0 ((σ 8 0 3).toNatClampNeg) g) 36 0 ((σ 8 0 3).toNatClampNeg) v) 40 0 ((σ 8 0 3).toNatClampNeg) 7) _ _ _ (by omega) (by omega) ⟨0, Nat.le_refl _, by rw [us_k (by decide), us_k (by decide), us_k (by decide), us_k (by decide), us_k (by decide), us_k (by decide)]; exact hF.resolve_right (by assumption)⟩ (fun h9 => by first | exact absurd (by assumption) h9 | (rw [us_k (by decide), us_k (by decide), us_k (by decide), us_k (by decide), us_k (by decide), us_k (by decide)]; exact hM.2.2.2.2.1 _ (vp_lt (it_in hM (by assumption))))) (bz_fr (bz_fr (bz_fr (bz_fr (bz_fr (bz_fr hB (us_kk (by decide)) (us_kk (by decide))) (us_kk (by decide)) (us_kk (by decide))) (us_kk (by decide)) (us_kk (by decide))) (us_kk (by decide)) (us_kk (by decide))) (us_kk (by decide)) (us_kk (by decide))) (us_kk (by decide)) (us_kk (by decide))) hW hS (lv_sub hl [0, 1, 3, 4] rfl) ?_
            rw [f_X8_thing, if_pos c_1, if_neg c_2, if_neg c_3, if_neg c_4, if_neg c_5]
          · refine lv_iconst (v := 3) hx hb dX8_thing_69 (by decide) ?_
            refine lv_goto (tgt := 74) hx hb dX8_thing_70 (by decide) ?_
            refine w_callV (As := [.int 3]) (rest := []) (st2 := .int (f_X8_rf 3) :: []) hC hW hS hl cv_X8_154 m_8 (by decide) rfl (c_X8_refused l hl9 D ca base ad σ 3 ) rfl rfl rfl ⟨Nat.le_of_ble_eq_true rfl, Nat.le_of_ble_eq_true rfl⟩ (Nat.le_of_ble_eq_true rfl) dX8_thing_74 ⟨Nat.le_of_ble_eq_true rfl, Nat.le_of_ble_eq_true rfl⟩ (fun H locs hW hS => ?_)
            refine lv_eqi (y := 1) (by decide) ?_
            refine lv_if_eq (tgt := 82) hx hb dX8_thing_77 (by decide) (fun c => absurd c (by decide)) (fun _ => ?_)
            refine lv_iconst (v := 0) hx hb dX8_thing_80 (by decide) ?_
            have hO : f_X8_thing t u g v σ = (0, us σ 8 0 0 3) := by rw [f_X8_thing, if_pos c_1, if_neg c_2, if_neg c_3, if_neg c_4, if_pos c_5]
            exact w_iretS hC hW hS hO (Nat.le_of_ble_eq_true rfl) (Nat.le_of_ble_eq_true rfl) dX8_thing_81
        · refine lv_iconst (v := 2) hx hb dX8_thing_56 (by decide) ?_
          refine lv_goto (tgt := 74) hx hb dX8_thing_57 (by decide) ?_
          refine w_callV (As := [.int 2]) (rest := []) (st2 := .int (f_X8_rf 2) :: []) hC hW hS hl cv_X8_154 m_8 (by decide) rfl (c_X8_refused l hl9 D ca base ad σ 2 ) rfl rfl rfl ⟨Nat.le_of_ble_eq_true rfl, Nat.le_of_ble_eq_true rfl⟩ (Nat.le_of_ble_eq_true rfl) dX8_thing_74 ⟨Nat.le_of_ble_eq_true rfl, Nat.le_of_ble_eq_true rfl⟩ (fun H locs hW hS => ?_)
          refine lv_eqi (y := 1) (by decide) ?_
          refine lv_if_eq (tgt := 82) hx hb dX8_thing_77 (by decide) (fun c => absurd c (by decide)) (fun _ => ?_)
          refine lv_iconst (v := 0) hx hb dX8_thing_80 (by decide) ?_
          have hO : f_X8_thing t u g v σ = (0, us σ 8 0 0 2) := by rw [f_X8_thing, if_pos c_1, if_neg c_2, if_neg c_3, if_pos c_4]
          exact w_iretS hC hW hS hO (Nat.le_of_ble_eq_true rfl) (Nat.le_of_ble_eq_true rfl) dX8_thing_81
  · refine lv_aload_n hx hb dX8_thing_5 rfl (lv_at hl 0 rfl) ?_
    refine lv_iload_n hx hb dX8_thing_6 rfl (lv_at hl 1 rfl) ?_
    refine w_callV (As := [.int t]) (rest := []) (st2 := .int (f_X8_isThing t σ) :: []) hC hW hS hl cv_X8_159 m_8 (by decide) rfl (c_X8_isThing l hl9 D ca base ad σ t ) rfl rfl rfl ⟨Nat.le_of_ble_eq_true rfl, Nat.le_of_ble_eq_true rfl⟩ (Nat.le_of_ble_eq_true rfl) dX8_thing_7 ⟨Nat.le_of_ble_eq_true rfl, Nat.le_of_ble_eq_true rfl⟩ (fun H locs hW hS => ?_)
    refine lv_if_eq (tgt := 31) hx hb dX8_thing_10 (by decide) (fun c_9 => ?_) (fun c_9 => ?_)
    · refine lv_iconst (v := 0) hx hb dX8_thing_31 (by decide) ?_
      refine lv_istore (lv' := [(5, .int 0), (0, .ref (ad 8 0)), (1, .int t), (2, .int u), (3, .int g), (4, .int v)]) hx hb dX8_thing_32 hl (by decide) rfl (fun ls hl => ?_)
      refine lv_aload_n hx hb dX8_thing_34 rfl (lv_at hl 1 rfl) ?_
      refine lv_iload hx hb dX8_thing_35 (lv_at hl 0 rfl) ?_
      refine lv_if_ne (tgt := 44) hx hb dX8_thing_37 (by decide) (fun c => absurd (by decide) c) (fun _ => ?_)
      refine lv_iconst (v := 1) hx hb dX8_thing_40 (by decide) ?_
      refine lv_goto (tgt := 74) hx hb dX8_thing_41 (by decide) ?_
      refine w_callV (As := [.int 1]) (rest := []) (st2 := .int (f_X8_rf 1) :: []) hC hW hS hl cv_X8_154 m_8 (by decide) rfl (c_X8_refused l hl9 D ca base ad σ 1 ) rfl rfl rfl ⟨Nat.le_of_ble_eq_true rfl, Nat.le_of_ble_eq_true rfl⟩ (Nat.le_of_ble_eq_true rfl) dX8_thing_74 ⟨Nat.le_of_ble_eq_true rfl, Nat.le_of_ble_eq_true rfl⟩ (fun H locs hW hS => ?_)
      refine lv_eqi (y := 1) (by decide) ?_
      refine lv_if_eq (tgt := 82) hx hb dX8_thing_77 (by decide) (fun c => absurd c (by decide)) (fun _ => ?_)
      refine lv_iconst (v := 0) hx hb dX8_thing_80 (by decide) ?_
      have hO : f_X8_thing t u g v σ = (0, us σ 8 0 0 1) := by rw [f_X8_thing, if_neg c_1, if_pos c_9]
      exact w_iretS hC hW hS hO (Nat.le_of_ble_eq_true rfl) (Nat.le_of_ble_eq_true rfl) dX8_thing_81
    · refine lv_iload_n hx hb dX8_thing_13 rfl (lv_at hl 2 rfl) ?_
      refine w_callS (As := [.int u]) (rest := []) (st2 := .int (f_X8_isSix u) :: []) hC hW hS hl cs_X8_150 (c_X8_isSix l hl9 D ca base ad σ u ) rfl rfl rfl ⟨Nat.le_of_ble_eq_true rfl, Nat.le_of_ble_eq_true rfl⟩ (Nat.le_of_ble_eq_true rfl) dX8_thing_14 ⟨Nat.le_of_ble_eq_true rfl, Nat.le_of_ble_eq_true rfl⟩ (fun H locs hW hS => ?_)
      refine lv_if_eq (tgt := 31) hx hb dX8_thing_17 (by decide) (fun c_10 => ?_) (fun c_10 => ?_)
      · refine lv_iconst (v := 0) hx hb dX8_thing_31 (by decide) ?_
        refine lv_istore (lv' := [(5, .int 0), (0, .ref (ad 8 0)), (1, .int t), (2, .int u), (3, .int g), (4, .int v)]) hx hb dX8_thing_32 hl (by decide) rfl (fun ls hl => ?_)
        refine lv_aload_n hx hb dX8_thing_34 rfl (lv_at hl 1 rfl) ?_
        refine lv_iload hx hb dX8_thing_35 (lv_at hl 0 rfl) ?_
        refine lv_if_ne (tgt := 44) hx hb dX8_thing_37 (by decide) (fun c => absurd (by decide) c) (fun _ => ?_)
        refine lv_iconst (v := 1) hx hb dX8_thing_40 (by decide) ?_
        refine lv_goto (tgt := 74) hx hb dX8_thing_41 (by decide) ?_
        refine w_callV (As := [.int 1]) (rest := []) (st2 := .int (f_X8_rf 1) :: []) hC hW hS hl cv_X8_154 m_8 (by decide) rfl (c_X8_refused l hl9 D ca base ad σ 1 ) rfl rfl rfl ⟨Nat.le_of_ble_eq_true rfl, Nat.le_of_ble_eq_true rfl⟩ (Nat.le_of_ble_eq_true rfl) dX8_thing_74 ⟨Nat.le_of_ble_eq_true rfl, Nat.le_of_ble_eq_true rfl⟩ (fun H locs hW hS => ?_)
        refine lv_eqi (y := 1) (by decide) ?_
        refine lv_if_eq (tgt := 82) hx hb dX8_thing_77 (by decide) (fun c => absurd c (by decide)) (fun _ => ?_)
        refine lv_iconst (v := 0) hx hb dX8_thing_80 (by decide) ?_
        have hO : f_X8_thing t u g v σ = (0, us σ 8 0 0 1) := by rw [f_X8_thing, if_neg c_1, if_neg c_9, if_pos c_10]
        exact w_iretS hC hW hS hO (Nat.le_of_ble_eq_true rfl) (Nat.le_of_ble_eq_true rfl) dX8_thing_81
      · refine lv_iload_n hx hb dX8_thing_20 rfl (lv_at hl 3 rfl) ?_
        refine w_callS (As := [.int g]) (rest := []) (st2 := .int (f_X8_isSix g) :: []) hC hW hS hl cs_X8_150 (c_X8_isSix l hl9 D ca base ad σ g ) rfl rfl rfl ⟨Nat.le_of_ble_eq_true rfl, Nat.le_of_ble_eq_true rfl⟩ (Nat.le_of_ble_eq_true rfl) dX8_thing_21 ⟨Nat.le_of_ble_eq_true rfl, Nat.le_of_ble_eq_true rfl⟩ (fun H locs hW hS => ?_)
        refine lv_if_eq (tgt := 31) hx hb dX8_thing_24 (by decide) (fun c_11 => ?_) (fun c_11 => ?_)
        · refine lv_iconst (v := 0) hx hb dX8_thing_31 (by decide) ?_
          refine lv_istore (lv' := [(5, .int 0), (0, .ref (ad 8 0)), (1, .int t), (2, .int u), (3, .int g), (4, .int v)]) hx hb dX8_thing_32 hl (by decide) rfl (fun ls hl => ?_)
          refine lv_aload_n hx hb dX8_thing_34 rfl (lv_at hl 1 rfl) ?_
          refine lv_iload hx hb dX8_thing_35 (lv_at hl 0 rfl) ?_
          refine lv_if_ne (tgt := 44) hx hb dX8_thing_37 (by decide) (fun c => absurd (by decide) c) (fun _ => ?_)
          refine lv_iconst (v := 1) hx hb dX8_thing_40 (by decide) ?_
          refine lv_goto (tgt := 74) hx hb dX8_thing_41 (by decide) ?_
          refine w_callV (As := [.int 1]) (rest := []) (st2 := .int (f_X8_rf 1) :: []) hC hW hS hl cv_X8_154 m_8 (by decide) rfl (c_X8_refused l hl9 D ca base ad σ 1 ) rfl rfl rfl ⟨Nat.le_of_ble_eq_true rfl, Nat.le_of_ble_eq_true rfl⟩ (Nat.le_of_ble_eq_true rfl) dX8_thing_74 ⟨Nat.le_of_ble_eq_true rfl, Nat.le_of_ble_eq_true rfl⟩ (fun H locs hW hS => ?_)
          refine lv_eqi (y := 1) (by decide) ?_
          refine lv_if_eq (tgt := 82) hx hb dX8_thing_77 (by decide) (fun c => absurd c (by decide)) (fun _ => ?_)
          refine lv_iconst (v := 0) hx hb dX8_thing_80 (by decide) ?_
          have hO : f_X8_thing t u g v σ = (0, us σ 8 0 0 1) := by rw [f_X8_thing, if_neg c_1, if_neg c_9, if_neg c_10, if_pos c_11]
          exact w_iretS hC hW hS hO (Nat.le_of_ble_eq_true rfl) (Nat.le_of_ble_eq_true rfl) dX8_thing_81
        · refine lv_iconst (v := 1) hx hb dX8_thing_27 (by decide) ?_
          refine lv_goto (tgt := 32) hx hb dX8_thing_28 (by decide) ?_
          refine lv_istore (lv' := [(5, .int 1), (0, .ref (ad 8 0)), (1, .int t), (2, .int u), (3, .int g), (4, .int v)]) hx hb dX8_thing_32 hl (by decide) rfl (fun ls hl => ?_)
          refine lv_aload_n hx hb dX8_thing_34 rfl (lv_at hl 1 rfl) ?_
          refine lv_iload hx hb dX8_thing_35 (lv_at hl 0 rfl) ?_
          refine lv_if_ne (tgt := 44) hx hb dX8_thing_37 (by decide) (fun _ => ?_) (fun c => absurd c (by decide))
          refine lv_iload hx hb dX8_thing_44 (lv_at hl 5 rfl) ?_
          refine lv_iconst (v := 0) hx hb dX8_thing_46 (by decide) ?_
          refine lv_sipush (v := 1023) hx hb dX8_thing_47 (by decide) ?_
          refine w_callS (As := [.int v, .int 0, .int 1023]) (rest := .ref (ad 8 0) :: []) (st2 := .int (f_X8_within v 0 1023) :: .ref (ad 8 0) :: []) hC hW hS hl cs_X8_129 (c_X8_within l hl9 D ca base ad σ v 0 1023 ) rfl rfl rfl ⟨Nat.le_of_ble_eq_true rfl, Nat.le_of_ble_eq_true rfl⟩ (Nat.le_of_ble_eq_true rfl) dX8_thing_50 ⟨Nat.le_of_ble_eq_true rfl, Nat.le_of_ble_eq_true rfl⟩ (fun H locs hW hS => ?_)
          refine lv_if_ne (tgt := 60) hx hb dX8_thing_53 (by decide) (fun c_12 => ?_) (fun c_12 => ?_)
          · refine lv_aload_n hx hb dX8_thing_60 rfl (lv_at hl 1 rfl) ?_
            refine gf_X8_133 hC hW m_8 dX8_thing_61 ?_
            refine lv_bipush (v := 12) hx hb dX8_thing_64 (by decide) ?_
            refine lv_icmp_ne (tgt := 73) hx hb dX8_thing_66 (by decide) (fun c_13 => ?_) (fun c_13 => ?_)
            · refine lv_iconst (v := 0) hx hb dX8_thing_73 (by decide) ?_
              refine w_callV (As := [.int 0]) (rest := []) (st2 := .int (f_X8_rf 0) :: []) hC hW hS hl cv_X8_154 m_8 (by decide) rfl (c_X8_refused l hl9 D ca base ad σ 0 ) rfl rfl rfl ⟨Nat.le_of_ble_eq_true rfl, Nat.le_of_ble_eq_true rfl⟩ (Nat.le_of_ble_eq_true rfl) dX8_thing_74 ⟨Nat.le_of_ble_eq_true rfl, Nat.le_of_ble_eq_true rfl⟩ (fun H locs hW hS => ?_)
              refine lv_eqi (y := 0) (by decide) ?_
              refine lv_if_eq (tgt := 82) hx hb dX8_thing_77 (by decide) (fun _ => ?_) (fun c => absurd (by decide) c)
              have hne : ¬ t = -1 → t.toNatClampNeg ≠ (σ 8 0 3).toNatClampNeg := fun h9 => by first | exact absurd (by assumption) h9 | exact Nat.ne_of_lt (it_lt hM (by assumption))
              refine lv_aload_n hx hb dX8_thing_82 rfl (lv_at hl 1 rfl) ?_
              refine gf_X8_133 hC hW m_8 dX8_thing_83 ?_
              refine lv_eqi (y := σ 8 0 3) (by rw [us_j (by decide)]) ?_
              refine lv_istore (lv' := [(6, .int (σ 8 0 3)), (5, .int 1), (0, .ref (ad 8 0)), (1, .int t), (2, .int u), (3, .int g), (4, .int v)]) hx hb dX8_thing_86 hl (by decide) rfl (fun ls hl => ?_)
              refine lv_aload_n hx hb dX8_thing_88 rfl (lv_at hl 2 rfl) ?_
              refine lv_dup hx hb dX8_thing_89 rfl ?_
              refine gf_X8_133 hC hW m_8 dX8_thing_90 ?_
              refine lv_eqi (y := σ 8 0 3) (by rw [us_j (by decide)]) ?_
              refine lv_iconst (v := 1) hx hb dX8_thing_93 (by decide) ?_
              refine lv_iadd hx hb dX8_thing_94 ?_
              refine pf_X8_133 hC hW m_8 hS dX8_thing_95 (fun H locs hW hS => ?_)
              refine lv_aload_n hx hb dX8_thing_98 rfl (lv_at hl 2 rfl) ?_
              refine gf_X8_16 hC hW m_8 rfl dX8_thing_99 ?_
              refine lv_iload hx hb dX8_thing_102 (lv_at hl 0 rfl) ?_
              refine lv_iload_n hx hb dX8_thing_104 rfl (lv_at hl 4 rfl) ?_
              refine w_iast hC hW hS m_34 (n := 12) (fun _ => rfl) (tc_in hM (by assumption)) dX8_thing_105 (fun H locs hW hS => ?_)
              refine lv_aload_n hx hb dX8_thing_106 rfl (lv_at hl 2 rfl) ?_
              refine gf_X8_19 hC hW m_8 rfl dX8_thing_107 ?_
              refine lv_iload hx hb dX8_thing_110 (lv_at hl 0 rfl) ?_
              refine lv_iload_n hx hb dX8_thing_112 rfl (lv_at hl 5 rfl) ?_
              refine w_iast hC hW hS m_35 (n := 12) (fun _ => rfl) (tc_in hM (by assumption)) dX8_thing_113 (fun H locs hW hS => ?_)
              refine lv_aload_n hx hb dX8_thing_114 rfl (lv_at hl 2 rfl) ?_
              refine gf_X8_22 hC hW m_8 rfl dX8_thing_115 ?_
              refine lv_iload hx hb dX8_thing_118 (lv_at hl 0 rfl) ?_
              refine lv_iload hx hb dX8_thing_120 (lv_at hl 6 rfl) ?_
              refine w_iast hC hW hS m_36 (n := 12) (fun _ => rfl) (tc_in hM (by assumption)) dX8_thing_122 (fun H locs hW hS => ?_)
              refine lv_aload_n hx hb dX8_thing_123 rfl (lv_at hl 2 rfl) ?_
              refine gf_X8_34 hC hW m_8 rfl dX8_thing_124 ?_
              refine lv_iload hx hb dX8_thing_127 (lv_at hl 0 rfl) ?_
              refine lv_bipush (v := 7) hx hb dX8_thing_129 (by decide) ?_
              refine w_iast hC hW hS m_40 (n := 12) (fun _ => rfl) (tc_in hM (by assumption)) dX8_thing_131 (fun H locs hW hS => ?_)
              refine lv_iconst (v := 0) hx hb dX8_thing_132 (by decide) ?_
              refine lv_istore (lv' := [(7, .int 0), (6, .int (σ 8 0 3)), (5, .int 1), (0, .ref (ad 8 0)), (1, .int t), (2, .int u), (3, .int g), (4, .int v)]) hx hb dX8_thing_133 hl (by decide) rfl (fun ls hl => ?_)
              have h_135 : ∀ (n135 k135 : Nat) (σ135 : Sg) (H : Heap) (locs : List Loc) (ls : Array Slot), 6 ≤ k135 + n135 → k135 ≤ 5 → (∃ q : Nat, q ≤ k135 ∧ σ135 41 0 (σ 8 0 3).toNatClampNeg = nI q) → (¬ t = -1 → ∃ q : Nat, q ≤ 5 ∧ σ135 41 0 t.toNatClampNeg = nI q) → (BZ σ135) → Wd D ca (Ab base) ad ρm Lm σ135 H → va_S (Ab base) s.heap H locs → lv_has ls 9 [(7, .int (nI k135)), (6, .int (σ 8 0 3)), (0, .ref (ad 8 0)), (1, .int t)] → f_X8_thing t u g v σ = (((σ 8 0 3), (f_X8_thing_L135 t u g v n135 k135 (σ 8 0 3) σ135))) → W p l e ({ frames := 2, cells := 0, slots := 0, locals := 43 } : Room) s m args below meth c H locs 0 0 (MQ below (Rt D ca base ad ρm Lm (f_X8_thing t u g v σ).2 (some (.int (f_X8_thing t u g v σ).1))) args s 0 0 (Ab base)) (F0 m 135 ls []) := by
                intro n135
                induction n135 with
                | zero =>
                  intro k135 σ135 H locs ls hk1_135 hk2_135 hq9 hr9 hB9 hW hS hl hO
                  exact absurd hk1_135 (by omega)
                | succ n135 ih_135 =>
                  intro k135 σ135 H locs ls hk1_135 hk2_135 hq9 hr9 hB9 hW hS hl hO
                  refine lv_iload_n hx hb dX8_thing_135 rfl (lv_at hl 3 rfl) ?_
                  refine lv_iconst (v := (-1)) hx hb dX8_thing_136 (by decide) ?_
                  refine lv_icmp_eq (tgt := 236) hx hb dX8_thing_137 (by decide) (fun c_14 => ?_) (fun c_14 => ?_)
                  · replace hl := lv_sub hl [1, 2, 3] (l' := [(6, .int (σ 8 0 3)), (0, .ref (ad 8 0)), (1, .int t)]) rfl
                    refine lv_iload hx hb dX8_thing_236 (lv_at hl 0 rfl) ?_
                    have hO : f_X8_thing t u g v σ = (σ 8 0 3, σ135) := by rw [hO, f_X8_thing_L135, if_pos c_14]
                    exact w_iretS hC hW hS hO (Nat.le_of_ble_eq_true rfl) (Nat.le_of_ble_eq_true rfl) dX8_thing_238
                  · refine lv_iload hx hb dX8_thing_140 (lv_at hl 0 rfl) ?_
                    refine lv_aload_n hx hb dX8_thing_142 rfl (lv_at hl 2 rfl) ?_
                    refine gf_X8_37 hC hW m_8 rfl dX8_thing_143 ?_
                    refine lv_iload_n hx hb dX8_thing_146 rfl (lv_at hl 3 rfl) ?_
                    refine w_iald hC hW m_41 (n := 12) rfl (by first | exact it_in hM (by assumption) | (exfalso; contradiction)) dX8_thing_147 ?_
                    refine lv_icmp_ge (tgt := 236) hx hb dX8_thing_148 (by decide) (fun c_15 => ?_) (fun c_15 => ?_)
                    · replace hl := lv_sub hl [1, 2, 3] (l' := [(6, .int (σ 8 0 3)), (0, .ref (ad 8 0)), (1, .int t)]) rfl
                      refine lv_iload hx hb dX8_thing_236 (lv_at hl 0 rfl) ?_
                      have hO : f_X8_thing t u g v σ = (σ 8 0 3, σ135) := by rw [hO, f_X8_thing_L135, if_neg c_14, if_pos c_15]
                      exact w_iretS hC hW hS hO (Nat.le_of_ble_eq_true rfl) (Nat.le_of_ble_eq_true rfl) dX8_thing_238
                    · have hi_c_15 : k135 < 5 := by
                        obtain ⟨q, q1, q2⟩ := hr9 (by assumption)
                        exact idx_lt4 c_15 q2 q1 (by decide) (by omega)
                      refine lv_aload_n hx hb dX8_thing_151 rfl (lv_at hl 2 rfl) ?_
                      refine gf_X8_50 hC hW m_8 rfl dX8_thing_152 ?_
                      refine lv_iconst (v := 5) hx hb dX8_thing_155 (by decide) ?_
                      refine lv_iload_n hx hb dX8_thing_156 rfl (lv_at hl 3 rfl) ?_
                      refine lv_imul hx hb dX8_thing_157 ?_
                      refine lv_iload hx hb dX8_thing_158 (lv_at hl 0 rfl) ?_
                      refine lv_iadd hx hb dX8_thing_160 ?_
                      refine w_zald hC hW m_45 (n := 60) rfl (by first | exact e5_in (it_in hM (by assumption)) (by omega) | (exfalso; contradiction)) dX8_thing_161 ?_
                      refine lv_if_eq (tgt := 230) hx hb dX8_thing_162 (by decide) (fun c_16 => ?_) (fun c_16 => ?_)
                      · refine lv_iinc (v := nI (k135 + 1)) (lv' := [(7, .int (nI (k135 + 1))), (6, .int (σ 8 0 3)), (0, .ref (ad 8 0)), (1, .int t)]) hx hb dX8_thing_230 hl (k := 0) rfl (nI_1 _) (by decide) rfl (fun ls hl => ?_)
                        refine lv_goto (tgt := 135) hx hb dX8_thing_233 (by decide) ?_
                        refine ih_135 (k135 + 1) σ135 _ _ _ (by omega) (by omega) (by obtain ⟨q, q1, q2⟩ := hq9; exact ⟨q, by omega, q2⟩) hr9 hB9 hW hS (lv_sub hl [0, 1, 2, 3] rfl) ?_
                        rw [hO, f_X8_thing_L135, if_neg c_14, if_neg c_15, if_pos c_16]
                      · refine lv_iconst (v := 5) hx hb dX8_thing_165 (by decide) ?_
                        refine lv_iload hx hb dX8_thing_166 (lv_at hl 1 rfl) ?_
                        refine lv_imul hx hb dX8_thing_168 ?_
                        refine lv_aload_n hx hb dX8_thing_169 rfl (lv_at hl 2 rfl) ?_
                        refine gf_X8_37 hC hW m_8 rfl dX8_thing_170 ?_
                        refine lv_iload hx hb dX8_thing_173 (lv_at hl 1 rfl) ?_
                        refine w_iald hC hW m_41 (n := 12) rfl (tc_in hM (by assumption)) dX8_thing_175 ?_
                        refine lv_iadd hx hb dX8_thing_176 ?_
                        refine lv_istore (lv' := [(8, .int (((5 : Int32) * (σ 8 0 3)) + (σ135 41 0 ((σ 8 0 3).toNatClampNeg)))), (7, .int (nI k135)), (6, .int (σ 8 0 3)), (0, .ref (ad 8 0)), (1, .int t)]) hx hb dX8_thing_177 hl (by decide) rfl (fun ls hl => ?_)
                        refine lv_aload_n hx hb dX8_thing_179 rfl (lv_at hl 3 rfl) ?_
                        refine lv_iload hx hb dX8_thing_180 (lv_at hl 0 rfl) ?_
                        refine lv_aload_n hx hb dX8_thing_182 rfl (lv_at hl 3 rfl) ?_
                        refine gf_X8_43 hC hW m_8 rfl dX8_thing_183 ?_
                        refine lv_iconst (v := 5) hx hb dX8_thing_186 (by decide) ?_
                        refine lv_iload_n hx hb dX8_thing_187 rfl (lv_at hl 4 rfl) ?_
                        refine lv_imul hx hb dX8_thing_188 ?_
                        refine lv_iload hx hb dX8_thing_189 (lv_at hl 1 rfl) ?_
                        refine lv_iadd hx hb dX8_thing_191 ?_
                        refine w_zald hC hW m_43 (n := 60) rfl (by first | exact e5_in (it_in hM (by assumption)) (by omega) | (exfalso; contradiction)) dX8_thing_192 ?_
                        refine lv_aload_n hx hb dX8_thing_193 rfl (lv_at hl 3 rfl) ?_
                        refine gf_X8_40 hC hW m_8 rfl dX8_thing_194 ?_
                        refine lv_iconst (v := 5) hx hb dX8_thing_197 (by decide) ?_
                        refine lv_iload_n hx hb dX8_thing_198 rfl (lv_at hl 4 rfl) ?_
                        refine lv_imul hx hb dX8_thing_199 ?_
                        refine lv_iload hx hb dX8_thing_200 (lv_at hl 1 rfl) ?_
                        refine lv_iadd hx hb dX8_thing_202 ?_
                        refine w_iald hC hW m_42 (n := 60) rfl (by first | exact e5_in (it_in hM (by assumption)) (by omega) | (exfalso; contradiction)) dX8_thing_203 ?_
                        refine lv_aload_n hx hb dX8_thing_204 rfl (lv_at hl 3 rfl) ?_
                        refine gf_X8_47 hC hW m_8 rfl dX8_thing_205 ?_
                        refine lv_iconst (v := 5) hx hb dX8_thing_208 (by decide) ?_
                        refine lv_iload_n hx hb dX8_thing_209 rfl (lv_at hl 4 rfl) ?_
                        refine lv_imul hx hb dX8_thing_210 ?_
                        refine lv_iload hx hb dX8_thing_211 (lv_at hl 1 rfl) ?_
                        refine lv_iadd hx hb dX8_thing_213 ?_
                        refine w_iald hC hW m_44 (n := 60) rfl (by first | exact e5_in (it_in hM (by assumption)) (by omega) | (exfalso; contradiction)) dX8_thing_214 ?_
                        refine lv_iconst (v := 1) hx hb dX8_thing_215 (by decide) ?_
                        refine w_callV (As := [.int (((5 : Int32) * (σ 8 0 3)) + (σ135 41 0 ((σ 8 0 3).toNatClampNeg))), .int (σ135 43 0 ((((5 : Int32) * t) + (nI k135)).toNatClampNeg)), .int (σ135 42 0 ((((5 : Int32) * t) + (nI k135)).toNatClampNeg)), .int (σ135 44 0 ((((5 : Int32) * t) + (nI k135)).toNatClampNeg)), .int 1]) (rest := []) (st2 := []) hC hW hS hl cv_X8_162 m_8 (by decide) rfl (c_X8_layEntry l hl9 D ca base ad σ135 (((5 : Int32) * (σ 8 0 3)) + (σ135 41 0 ((σ 8 0 3).toNatClampNeg))) (σ135 43 0 ((((5 : Int32) * t) + (nI k135)).toNatClampNeg)) (σ135 42 0 ((((5 : Int32) * t) + (nI k135)).toNatClampNeg)) (σ135 44 0 ((((5 : Int32) * t) + (nI k135)).toNatClampNeg)) 1 (by obtain ⟨q, q1, q2⟩ := hq9; rw [q2]; exact e5_in (tc_in hM (by assumption)) (by omega)) (hB9 _).1 (by decide)) rfl rfl rfl ⟨Nat.le_of_ble_eq_true rfl, Nat.le_of_ble_eq_true rfl⟩ (Nat.le_of_ble_eq_true rfl) dX8_thing_216 ⟨Nat.le_of_ble_eq_true rfl, Nat.le_of_ble_eq_true rfl⟩ (fun H locs hW hS => ?_)
                        refine lv_aload_n hx hb dX8_thing_219 rfl (lv_at hl 3 rfl) ?_
                        refine gf_X8_37 hC hW m_8 rfl dX8_thing_220 ?_
                        refine lv_iload hx hb dX8_thing_223 (lv_at hl 2 rfl) ?_
                        refine lv_dup2_11 hx hb dX8_thing_225 rfl rfl ?_
                        refine w_iald hC hW m_41 (n := 12) rfl (tc_in hM (by assumption)) dX8_thing_226 ?_
                        refine lv_eqi (y := σ135 41 0 ((σ 8 0 3).toNatClampNeg)) (by rw [us_k (by decide), us_k (by decide), us_k (by decide), us_k (by decide)]) ?_
                        refine lv_iconst (v := 1) hx hb dX8_thing_227 (by decide) ?_
                        refine lv_iadd hx hb dX8_thing_228 ?_
                        refine w_iast hC hW hS m_41 (n := 12) (fun _ => rfl) (tc_in hM (by assumption)) dX8_thing_229 (fun H locs hW hS => ?_)
                        refine lv_iinc (v := nI (k135 + 1)) (lv' := [(7, .int (nI (k135 + 1))), (8, .int (((5 : Int32) * (σ 8 0 3)) + (σ135 41 0 ((σ 8 0 3).toNatClampNeg)))), (6, .int (σ 8 0 3)), (0, .ref (ad 8 0)), (1, .int t)]) hx hb dX8_thing_230 hl (k := 1) rfl (nI_1 _) (by decide) rfl (fun ls hl => ?_)
                        refine lv_goto (tgt := 135) hx hb dX8_thing_233 (by decide) ?_
                        refine ih_135 (k135 + 1) (us (us (us (us (us σ135 43 0 ((((5 : Int32) * (σ 8 0 3)) + (σ135 41 0 ((σ 8 0 3).toNatClampNeg))).toNatClampNeg) (σ135 43 0 ((((5 : Int32) * t) + (nI k135)).toNatClampNeg))) 42 0 ((((5 : Int32) * (σ 8 0 3)) + (σ135 41 0 ((σ 8 0 3).toNatClampNeg))).toNatClampNeg) (σ135 42 0 ((((5 : Int32) * t) + (nI k135)).toNatClampNeg))) 44 0 ((((5 : Int32) * (σ 8 0 3)) + (σ135 41 0 ((σ 8 0 3).toNatClampNeg))).toNatClampNeg) (σ135 44 0 ((((5 : Int32) * t) + (nI k135)).toNatClampNeg))) 45 0 ((((5 : Int32) * (σ 8 0 3)) + (σ135 41 0 ((σ 8 0 3).toNatClampNeg))).toNatClampNeg) 1) 41 0 ((σ 8 0 3).toNatClampNeg) ((σ135 41 0 ((σ 8 0 3).toNatClampNeg)) + (1 : Int32))) _ _ _ (by omega) (by omega) (by obtain ⟨q, q1, q2⟩ := hq9; exact ⟨q + 1, by omega, by rw [us_h, q2]; exact nI_1 q⟩) (fun h9 => by rw [us_j (hne h9), us_k (by decide), us_k (by decide), us_k (by decide), us_k (by decide)]; exact hr9 h9) (bz_fr (bz_45 (bz_fr (bz_fr (bz_43 hB9 (hB9 _).1) (us_kk (by decide)) (us_kk (by decide))) (us_kk (by decide)) (us_kk (by decide))) (by decide)) (us_kk (by decide)) (us_kk (by decide))) hW hS (lv_sub hl [0, 2, 3, 4] rfl) ?_
                        rw [hO, f_X8_thing_L135, if_neg c_14, if_neg c_15, if_neg c_16]
              refine h_135 6 0 (us (us (us (us (us (us σ 8 0 0 0) 8 0 3 ((σ 8 0 3) + (1 : Int32))) 34 0 ((σ 8 0 3).toNatClampNeg) u) 35 0 ((σ 8 0 3).toNatClampNeg) g) 36 0 ((σ 8 0 3).toNatClampNeg) v) 40 0 ((σ 8 0 3).toNatClampNeg) 7) _ _ _ (by omega) (by omega) ⟨0, Nat.le_refl _, by rw [us_k (by decide), us_k (by decide), us_k (by decide), us_k (by decide), us_k (by decide), us_k (by decide)]; exact hF.resolve_right (by assumption)⟩ (fun h9 => by first | exact absurd (by assumption) h9 | (rw [us_k (by decide), us_k (by decide), us_k (by decide), us_k (by decide), us_k (by decide), us_k (by decide)]; exact hM.2.2.2.2.1 _ (vp_lt (it_in hM (by assumption))))) (bz_fr (bz_fr (bz_fr (bz_fr (bz_fr (bz_fr hB (us_kk (by decide)) (us_kk (by decide))) (us_kk (by decide)) (us_kk (by decide))) (us_kk (by decide)) (us_kk (by decide))) (us_kk (by decide)) (us_kk (by decide))) (us_kk (by decide)) (us_kk (by decide))) (us_kk (by decide)) (us_kk (by decide))) hW hS (lv_sub hl [0, 1, 3, 4] rfl) ?_
              rw [f_X8_thing, if_neg c_1, if_neg c_9, if_neg c_10, if_neg c_11, if_neg c_12, if_neg c_13]
            · refine lv_iconst (v := 3) hx hb dX8_thing_69 (by decide) ?_
              refine lv_goto (tgt := 74) hx hb dX8_thing_70 (by decide) ?_
              refine w_callV (As := [.int 3]) (rest := []) (st2 := .int (f_X8_rf 3) :: []) hC hW hS hl cv_X8_154 m_8 (by decide) rfl (c_X8_refused l hl9 D ca base ad σ 3 ) rfl rfl rfl ⟨Nat.le_of_ble_eq_true rfl, Nat.le_of_ble_eq_true rfl⟩ (Nat.le_of_ble_eq_true rfl) dX8_thing_74 ⟨Nat.le_of_ble_eq_true rfl, Nat.le_of_ble_eq_true rfl⟩ (fun H locs hW hS => ?_)
              refine lv_eqi (y := 1) (by decide) ?_
              refine lv_if_eq (tgt := 82) hx hb dX8_thing_77 (by decide) (fun c => absurd c (by decide)) (fun _ => ?_)
              refine lv_iconst (v := 0) hx hb dX8_thing_80 (by decide) ?_
              have hO : f_X8_thing t u g v σ = (0, us σ 8 0 0 3) := by rw [f_X8_thing, if_neg c_1, if_neg c_9, if_neg c_10, if_neg c_11, if_neg c_12, if_pos c_13]
              exact w_iretS hC hW hS hO (Nat.le_of_ble_eq_true rfl) (Nat.le_of_ble_eq_true rfl) dX8_thing_81
          · refine lv_iconst (v := 2) hx hb dX8_thing_56 (by decide) ?_
            refine lv_goto (tgt := 74) hx hb dX8_thing_57 (by decide) ?_
            refine w_callV (As := [.int 2]) (rest := []) (st2 := .int (f_X8_rf 2) :: []) hC hW hS hl cv_X8_154 m_8 (by decide) rfl (c_X8_refused l hl9 D ca base ad σ 2 ) rfl rfl rfl ⟨Nat.le_of_ble_eq_true rfl, Nat.le_of_ble_eq_true rfl⟩ (Nat.le_of_ble_eq_true rfl) dX8_thing_74 ⟨Nat.le_of_ble_eq_true rfl, Nat.le_of_ble_eq_true rfl⟩ (fun H locs hW hS => ?_)
            refine lv_eqi (y := 1) (by decide) ?_
            refine lv_if_eq (tgt := 82) hx hb dX8_thing_77 (by decide) (fun c => absurd c (by decide)) (fun _ => ?_)
            refine lv_iconst (v := 0) hx hb dX8_thing_80 (by decide) ?_
            have hO : f_X8_thing t u g v σ = (0, us σ 8 0 0 2) := by rw [f_X8_thing, if_neg c_1, if_neg c_9, if_neg c_10, if_neg c_11, if_pos c_12]
            exact w_iretS hC hW hS hO (Nat.le_of_ble_eq_true rfl) (Nat.le_of_ble_eq_true rfl) dX8_thing_81
theorem fr_f_X8_thing_L135 {kk : Nat}  (t : Int32) (u : Int32) (g : Int32) (v : Int32) (h8 : kk ≠ 8) (h34 : kk ≠ 34) (h35 : kk ≠ 35) (h36 : kk ≠ 36) (h40 : kk ≠ 40) (h41 : kk ≠ 41) (h42 : kk ≠ 42) (h43 : kk ≠ 43) (h44 : kk ≠ 44) (h45 : kk ≠ 45) : ∀ (y0 : Nat) (y1 : Nat) (y2 : Int32) (σ : Sg), (f_X8_thing_L135 t u g v y0 y1 y2 σ) kk = σ kk := by
  intro y0
  induction y0 with
  | zero => intros; rfl
  | succ n ih =>
    intros
    rw [f_X8_thing_L135]
    repeat' split
    all_goals (first | (simp only [ih, us_kk, ne_eq, not_false_eq_true, h8, h34, h35, h36, h40, h41, h42, h43, h44, h45]; done) | with_reducible rfl | (simp only [ih, us_kk, ne_eq, not_false_eq_true, h8, h34, h35, h36, h40, h41, h42, h43, h44, h45]; with_reducible rfl))
theorem fr_X8_thing {kk : Nat}  {t : Int32} {u : Int32} {g : Int32} {v : Int32} {σ : Sg} (h8 : kk ≠ 8) (h34 : kk ≠ 34) (h35 : kk ≠ 35) (h36 : kk ≠ 36) (h40 : kk ≠ 40) (h41 : kk ≠ 41) (h42 : kk ≠ 42) (h43 : kk ≠ 43) (h44 : kk ≠ 44) (h45 : kk ≠ 45) : (f_X8_thing t u g v σ).2 kk = σ kk := by
  rw [f_X8_thing]
  repeat' split
  all_goals (first | (simp only [us_kk, ne_eq, not_false_eq_true, h8, h34, h35, h36, h40, h41, h42, h43, h44, h45, fr_f_X8_thing_L135]; done) | with_reducible rfl | (simp only [us_kk, ne_eq, not_false_eq_true, h8, h34, h35, h36, h40, h41, h42, h43, h44, h45, fr_f_X8_thing_L135]; with_reducible rfl))
theorem fs_f_X8_thing_L135 {jj : Nat}  (t : Int32) (u : Int32) (g : Int32) (v : Int32) (h0 : jj ≠ 0) (h3 : jj ≠ 3) : ∀ (y0 : Nat) (y1 : Nat) (y2 : Int32) (σ : Sg), (f_X8_thing_L135 t u g v y0 y1 y2 σ) 8 0 jj = σ 8 0 jj := by
  intro y0
  induction y0 with
  | zero => intros; rfl
  | succ n ih =>
    intros
    rw [f_X8_thing_L135]
    repeat' split
    all_goals (first | with_reducible rfl | (simp [ih, us_k, us_j, ne_eq, not_false_eq_true, h0, h3]; done))
theorem fs_X8_thing {jj : Nat}  {t : Int32} {u : Int32} {g : Int32} {v : Int32} {σ : Sg} (h0 : jj ≠ 0) (h3 : jj ≠ 3) : (f_X8_thing t u g v σ).2 8 0 jj = σ 8 0 jj := by
  rw [f_X8_thing]
  repeat' split
  all_goals (first | with_reducible rfl | (simp [us_k, us_j, ne_eq, not_false_eq_true, h0, h3, fs_f_X8_thing_L135]; done))

def f_X8_entry_K188 (k : Int32) (t : Int32) (b : Int32) (u : Int32) (r : Int32) (d : Int32) (y188_11 : Int32) (τ188 : Sg) : Int32 × Sg :=
  (y188_11, us τ188 41 0 t.toNatClampNeg ((τ188 41 0 t.toNatClampNeg) - (1 : Int32)))
def f_X8_entry_L188 (k : Int32) (t : Int32) (b : Int32) (u : Int32) (r : Int32) (d : Int32) : Nat → Nat → Sg → Sg
  | 0, _, σ188 => σ188
  | n188 + 1, k188, σ188 => if (σ188 41 0 t.toNatClampNeg) ≤ ((nI k188) + (1 : Int32)) then σ188
    else f_X8_entry_L188 k t b u r d n188 (k188 + 1) (us (us (us (us σ188 43 0 ((((((5 : Int32) * t) + (nI k188)) + (1 : Int32)) - (1 : Int32)).toNatClampNeg) (σ188 43 0 (((((5 : Int32) * t) + (nI k188)) + (1 : Int32)).toNatClampNeg))) 42 0 ((((((5 : Int32) * t) + (nI k188)) + (1 : Int32)) - (1 : Int32)).toNatClampNeg) (σ188 42 0 (((((5 : Int32) * t) + (nI k188)) + (1 : Int32)).toNatClampNeg))) 44 0 ((((((5 : Int32) * t) + (nI k188)) + (1 : Int32)) - (1 : Int32)).toNatClampNeg) (σ188 44 0 (((((5 : Int32) * t) + (nI k188)) + (1 : Int32)).toNatClampNeg))) 45 0 ((((((5 : Int32) * t) + (nI k188)) + (1 : Int32)) - (1 : Int32)).toNatClampNeg) (σ188 45 0 (((((5 : Int32) * t) + (nI k188)) + (1 : Int32)).toNatClampNeg)))
def f_X8_entry (k : Int32) (t : Int32) (b : Int32) (u : Int32) (r : Int32) (d : Int32) (σ : Sg) : Int32 × Sg :=
  if (f_X8_isProcess k σ) = 0 then (0, us σ 8 0 0 1)
  else if (f_X8_isThing t σ) = 0 then (0, us σ 8 0 0 1)
  else if (f_X8_isSix u) = 0 then (0, us σ 8 0 0 1)
  else if (f_X8_within r (-1) 7) = 0 then (0, us σ 8 0 0 2)
  else if (f_X8_mayChange k t σ) = 0 then (0, us σ 8 0 0 3)
  else if (f_X8_entryOf t b u σ) = (-1) then (if r = (-1) then ((-1), us σ 8 0 0 0)
    else if (σ 41 0 t.toNatClampNeg) = 5 then (0, us σ 8 0 0 4)
    else ((-1), us (us (us (us (us (us σ 8 0 0 0) 41 0 t.toNatClampNeg ((σ 41 0 t.toNatClampNeg) + (1 : Int32))) 43 0 ((((5 : Int32) * t) + (σ 41 0 t.toNatClampNeg)).toNatClampNeg) b) 42 0 ((((5 : Int32) * t) + (σ 41 0 t.toNatClampNeg)).toNatClampNeg) u) 44 0 ((((5 : Int32) * t) + (σ 41 0 t.toNatClampNeg)).toNatClampNeg) r) 45 0 ((((5 : Int32) * t) + (σ 41 0 t.toNatClampNeg)).toNatClampNeg) d))
  else if r = (-1) then f_X8_entry_K188 k t b u r d (σ 44 0 ((((5 : Int32) * t) + (f_X8_entryOf t b u σ)).toNatClampNeg)) (f_X8_entry_L188 k t b u r d 6 (f_X8_entryOf t b u σ).toNatClampNeg (us σ 8 0 0 0))
  else (σ 44 0 ((((5 : Int32) * t) + (f_X8_entryOf t b u σ)).toNatClampNeg), us (us (us (us (us (us σ 8 0 0 0) 41 0 t.toNatClampNeg ((σ 41 0 t.toNatClampNeg) + (0 : Int32))) 43 0 ((((5 : Int32) * t) + (f_X8_entryOf t b u σ)).toNatClampNeg) b) 42 0 ((((5 : Int32) * t) + (f_X8_entryOf t b u σ)).toNatClampNeg) u) 44 0 ((((5 : Int32) * t) + (f_X8_entryOf t b u σ)).toNatClampNeg) r) 45 0 ((((5 : Int32) * t) + (f_X8_entryOf t b u σ)).toNatClampNeg) d)
set_option maxHeartbeats 4000000 in
set_option maxRecDepth 100000 in
theorem c_X8_entry (l : Launch) (hl9 : l.stackTraces = false) (D : va_G) (ca : Nat → ClassId) (base : Nat) (ad : Adr) (σ : Sg) (k : Int32) (t : Int32) (b : Int32) (u : Int32) (r : Int32) (d : Int32) (hM : MInv σ) (hB : BZ σ) (hb1 : b &&& 1 = b) (hd1 : d &&& 1 = d) : Mt l yX8_entry cX8_entry 14 (some .int) { frames := 2, cells := 0, slots := 0, locals := 43 } D ca base ad ρm Lm [.ref (ad 8 0), .int k, .int t, .int b, .int u, .int r, .int d] σ (some (.int (f_X8_entry k t b u r d σ).1)) (f_X8_entry k t b u r d σ).2 := by
  refine w_ofW (by decide) (Nat.le_of_ble_eq_true rfl) rfl ?_
  intro p e s m args below meth c hC hW hS ls hl hin
  have hx := hC.1
  have hb := hC.2.1
  refine lv_aload_n hx hb dX8_entry_0 rfl (lv_at hl 0 rfl) ?_
  refine lv_iload_n hx hb dX8_entry_1 rfl (lv_at hl 1 rfl) ?_
  refine w_callV (As := [.int k]) (rest := []) (st2 := .int (f_X8_isProcess k σ) :: []) hC hW hS hl cv_X8_166 m_8 (by decide) rfl (c_X8_isProcess l hl9 D ca base ad σ k ) rfl rfl rfl ⟨Nat.le_of_ble_eq_true rfl, Nat.le_of_ble_eq_true rfl⟩ (Nat.le_of_ble_eq_true rfl) dX8_entry_2 ⟨Nat.le_of_ble_eq_true rfl, Nat.le_of_ble_eq_true rfl⟩ (fun H locs hW hS => ?_)
  refine lv_if_eq (tgt := 28) hx hb dX8_entry_5 (by decide) (fun c_1 => ?_) (fun c_1 => ?_)
  · refine lv_iconst (v := 0) hx hb dX8_entry_28 (by decide) ?_
    refine lv_istore (lv' := [(7, .int 0), (0, .ref (ad 8 0)), (1, .int k), (2, .int t), (3, .int b), (4, .int u), (5, .int r), (6, .int d)]) hx hb dX8_entry_29 hl (by decide) rfl (fun ls hl => ?_)
    refine lv_iload hx hb dX8_entry_31 (lv_at hl 6 rfl) ?_
    refine lv_iconst (v := (-1)) hx hb dX8_entry_33 (by decide) ?_
    refine lv_bipush (v := 7) hx hb dX8_entry_34 (by decide) ?_
    refine w_callS (As := [.int r, .int (-1), .int 7]) (rest := []) (st2 := .int (f_X8_within r (-1) 7) :: []) hC hW hS hl cs_X8_129 (c_X8_within l hl9 D ca base ad σ r (-1) 7 ) rfl rfl rfl ⟨Nat.le_of_ble_eq_true rfl, Nat.le_of_ble_eq_true rfl⟩ (Nat.le_of_ble_eq_true rfl) dX8_entry_36 ⟨Nat.le_of_ble_eq_true rfl, Nat.le_of_ble_eq_true rfl⟩ (fun H locs hW hS => ?_)
    refine lv_istore (lv' := [(8, .int (f_X8_within r (-1) 7)), (7, .int 0), (0, .ref (ad 8 0)), (1, .int k), (2, .int t), (3, .int b), (4, .int u), (5, .int r), (6, .int d)]) hx hb dX8_entry_39 hl (by decide) rfl (fun ls hl => ?_)
    refine lv_iload hx hb dX8_entry_41 (lv_at hl 1 rfl) ?_
    refine lv_if_eq (tgt := 64) hx hb dX8_entry_43 (by decide) (fun _ => ?_) (fun c => absurd (by decide) c)
    refine lv_iconst (v := 0) hx hb dX8_entry_64 (by decide) ?_
    refine lv_istore (lv' := [(9, .int 0), (8, .int (f_X8_within r (-1) 7)), (7, .int 0), (0, .ref (ad 8 0)), (1, .int k), (2, .int t), (3, .int b), (4, .int u), (5, .int r), (6, .int d)]) hx hb dX8_entry_65 hl (by decide) rfl (fun ls hl => ?_)
    refine lv_iload hx hb dX8_entry_67 (lv_at hl 0 rfl) ?_
    refine lv_if_eq (tgt := 83) hx hb dX8_entry_69 (by decide) (fun _ => ?_) (fun c => absurd (by decide) c)
    refine lv_iconst (v := (-1)) hx hb dX8_entry_83 (by decide) ?_
    refine lv_istore (lv' := [(10, .int (-1)), (9, .int 0), (8, .int (f_X8_within r (-1) 7)), (7, .int 0), (0, .ref (ad 8 0)), (1, .int k), (2, .int t), (3, .int b), (4, .int u), (5, .int r), (6, .int d)]) hx hb dX8_entry_84 hl (by decide) rfl (fun ls hl => ?_)
    refine lv_aload_n hx hb dX8_entry_86 rfl (lv_at hl 4 rfl) ?_
    refine lv_iload hx hb dX8_entry_87 (lv_at hl 3 rfl) ?_
    refine lv_if_ne (tgt := 96) hx hb dX8_entry_89 (by decide) (fun c => absurd (by decide) c) (fun _ => ?_)
    refine lv_iconst (v := 1) hx hb dX8_entry_92 (by decide) ?_
    refine lv_goto (tgt := 141) hx hb dX8_entry_93 (by decide) ?_
    refine w_callV (As := [.int 1]) (rest := []) (st2 := .int (f_X8_rf 1) :: []) hC hW hS hl cv_X8_154 m_8 (by decide) rfl (c_X8_refused l hl9 D ca base ad σ 1 ) rfl rfl rfl ⟨Nat.le_of_ble_eq_true rfl, Nat.le_of_ble_eq_true rfl⟩ (Nat.le_of_ble_eq_true rfl) dX8_entry_141 ⟨Nat.le_of_ble_eq_true rfl, Nat.le_of_ble_eq_true rfl⟩ (fun H locs hW hS => ?_)
    refine lv_eqi (y := 1) (by decide) ?_
    refine lv_if_eq (tgt := 149) hx hb dX8_entry_144 (by decide) (fun c => absurd c (by decide)) (fun _ => ?_)
    refine lv_iconst (v := 0) hx hb dX8_entry_147 (by decide) ?_
    have hO : f_X8_entry k t b u r d σ = (0, us σ 8 0 0 1) := by rw [f_X8_entry, if_pos c_1]
    exact w_iretS hC hW hS hO (Nat.le_of_ble_eq_true rfl) (Nat.le_of_ble_eq_true rfl) dX8_entry_148
  · refine lv_aload_n hx hb dX8_entry_8 rfl (lv_at hl 0 rfl) ?_
    refine lv_iload_n hx hb dX8_entry_9 rfl (lv_at hl 2 rfl) ?_
    refine w_callV (As := [.int t]) (rest := []) (st2 := .int (f_X8_isThing t σ) :: []) hC hW hS hl cv_X8_159 m_8 (by decide) rfl (c_X8_isThing l hl9 D ca base ad σ t ) rfl rfl rfl ⟨Nat.le_of_ble_eq_true rfl, Nat.le_of_ble_eq_true rfl⟩ (Nat.le_of_ble_eq_true rfl) dX8_entry_10 ⟨Nat.le_of_ble_eq_true rfl, Nat.le_of_ble_eq_true rfl⟩ (fun H locs hW hS => ?_)
    refine lv_if_eq (tgt := 28) hx hb dX8_entry_13 (by decide) (fun c_2 => ?_) (fun c_2 => ?_)
    · refine lv_iconst (v := 0) hx hb dX8_entry_28 (by decide) ?_
      refine lv_istore (lv' := [(7, .int 0), (0, .ref (ad 8 0)), (1, .int k), (2, .int t), (3, .int b), (4, .int u), (5, .int r), (6, .int d)]) hx hb dX8_entry_29 hl (by decide) rfl (fun ls hl => ?_)
      refine lv_iload hx hb dX8_entry_31 (lv_at hl 6 rfl) ?_
      refine lv_iconst (v := (-1)) hx hb dX8_entry_33 (by decide) ?_
      refine lv_bipush (v := 7) hx hb dX8_entry_34 (by decide) ?_
      refine w_callS (As := [.int r, .int (-1), .int 7]) (rest := []) (st2 := .int (f_X8_within r (-1) 7) :: []) hC hW hS hl cs_X8_129 (c_X8_within l hl9 D ca base ad σ r (-1) 7 ) rfl rfl rfl ⟨Nat.le_of_ble_eq_true rfl, Nat.le_of_ble_eq_true rfl⟩ (Nat.le_of_ble_eq_true rfl) dX8_entry_36 ⟨Nat.le_of_ble_eq_true rfl, Nat.le_of_ble_eq_true rfl⟩ (fun H locs hW hS => ?_)
      refine lv_istore (lv' := [(8, .int (f_X8_within r (-1) 7)), (7, .int 0), (0, .ref (ad 8 0)), (1, .int k), (2, .int t), (3, .int b), (4, .int u), (5, .int r), (6, .int d)]) hx hb dX8_entry_39 hl (by decide) rfl (fun ls hl => ?_)
      refine lv_iload hx hb dX8_entry_41 (lv_at hl 1 rfl) ?_
      refine lv_if_eq (tgt := 64) hx hb dX8_entry_43 (by decide) (fun _ => ?_) (fun c => absurd (by decide) c)
      refine lv_iconst (v := 0) hx hb dX8_entry_64 (by decide) ?_
      refine lv_istore (lv' := [(9, .int 0), (8, .int (f_X8_within r (-1) 7)), (7, .int 0), (0, .ref (ad 8 0)), (1, .int k), (2, .int t), (3, .int b), (4, .int u), (5, .int r), (6, .int d)]) hx hb dX8_entry_65 hl (by decide) rfl (fun ls hl => ?_)
      refine lv_iload hx hb dX8_entry_67 (lv_at hl 0 rfl) ?_
      refine lv_if_eq (tgt := 83) hx hb dX8_entry_69 (by decide) (fun _ => ?_) (fun c => absurd (by decide) c)
      refine lv_iconst (v := (-1)) hx hb dX8_entry_83 (by decide) ?_
      refine lv_istore (lv' := [(10, .int (-1)), (9, .int 0), (8, .int (f_X8_within r (-1) 7)), (7, .int 0), (0, .ref (ad 8 0)), (1, .int k), (2, .int t), (3, .int b), (4, .int u), (5, .int r), (6, .int d)]) hx hb dX8_entry_84 hl (by decide) rfl (fun ls hl => ?_)
      refine lv_aload_n hx hb dX8_entry_86 rfl (lv_at hl 4 rfl) ?_
      refine lv_iload hx hb dX8_entry_87 (lv_at hl 3 rfl) ?_
      refine lv_if_ne (tgt := 96) hx hb dX8_entry_89 (by decide) (fun c => absurd (by decide) c) (fun _ => ?_)
      refine lv_iconst (v := 1) hx hb dX8_entry_92 (by decide) ?_
      refine lv_goto (tgt := 141) hx hb dX8_entry_93 (by decide) ?_
      refine w_callV (As := [.int 1]) (rest := []) (st2 := .int (f_X8_rf 1) :: []) hC hW hS hl cv_X8_154 m_8 (by decide) rfl (c_X8_refused l hl9 D ca base ad σ 1 ) rfl rfl rfl ⟨Nat.le_of_ble_eq_true rfl, Nat.le_of_ble_eq_true rfl⟩ (Nat.le_of_ble_eq_true rfl) dX8_entry_141 ⟨Nat.le_of_ble_eq_true rfl, Nat.le_of_ble_eq_true rfl⟩ (fun H locs hW hS => ?_)
      refine lv_eqi (y := 1) (by decide) ?_
      refine lv_if_eq (tgt := 149) hx hb dX8_entry_144 (by decide) (fun c => absurd c (by decide)) (fun _ => ?_)
      refine lv_iconst (v := 0) hx hb dX8_entry_147 (by decide) ?_
      have hO : f_X8_entry k t b u r d σ = (0, us σ 8 0 0 1) := by rw [f_X8_entry, if_neg c_1, if_pos c_2]
      exact w_iretS hC hW hS hO (Nat.le_of_ble_eq_true rfl) (Nat.le_of_ble_eq_true rfl) dX8_entry_148
    · refine lv_iload hx hb dX8_entry_16 (lv_at hl 4 rfl) ?_
      refine w_callS (As := [.int u]) (rest := []) (st2 := .int (f_X8_isSix u) :: []) hC hW hS hl cs_X8_150 (c_X8_isSix l hl9 D ca base ad σ u ) rfl rfl rfl ⟨Nat.le_of_ble_eq_true rfl, Nat.le_of_ble_eq_true rfl⟩ (Nat.le_of_ble_eq_true rfl) dX8_entry_18 ⟨Nat.le_of_ble_eq_true rfl, Nat.le_of_ble_eq_true rfl⟩ (fun H locs hW hS => ?_)
      refine lv_if_eq (tgt := 28) hx hb dX8_entry_21 (by decide) (fun c_3 => ?_) (fun c_3 => ?_)
      · refine lv_iconst (v := 0) hx hb dX8_entry_28 (by decide) ?_
        refine lv_istore (lv' := [(7, .int 0), (0, .ref (ad 8 0)), (1, .int k), (2, .int t), (3, .int b), (4, .int u), (5, .int r), (6, .int d)]) hx hb dX8_entry_29 hl (by decide) rfl (fun ls hl => ?_)
        refine lv_iload hx hb dX8_entry_31 (lv_at hl 6 rfl) ?_
        refine lv_iconst (v := (-1)) hx hb dX8_entry_33 (by decide) ?_
        refine lv_bipush (v := 7) hx hb dX8_entry_34 (by decide) ?_
        refine w_callS (As := [.int r, .int (-1), .int 7]) (rest := []) (st2 := .int (f_X8_within r (-1) 7) :: []) hC hW hS hl cs_X8_129 (c_X8_within l hl9 D ca base ad σ r (-1) 7 ) rfl rfl rfl ⟨Nat.le_of_ble_eq_true rfl, Nat.le_of_ble_eq_true rfl⟩ (Nat.le_of_ble_eq_true rfl) dX8_entry_36 ⟨Nat.le_of_ble_eq_true rfl, Nat.le_of_ble_eq_true rfl⟩ (fun H locs hW hS => ?_)
        refine lv_istore (lv' := [(8, .int (f_X8_within r (-1) 7)), (7, .int 0), (0, .ref (ad 8 0)), (1, .int k), (2, .int t), (3, .int b), (4, .int u), (5, .int r), (6, .int d)]) hx hb dX8_entry_39 hl (by decide) rfl (fun ls hl => ?_)
        refine lv_iload hx hb dX8_entry_41 (lv_at hl 1 rfl) ?_
        refine lv_if_eq (tgt := 64) hx hb dX8_entry_43 (by decide) (fun _ => ?_) (fun c => absurd (by decide) c)
        refine lv_iconst (v := 0) hx hb dX8_entry_64 (by decide) ?_
        refine lv_istore (lv' := [(9, .int 0), (8, .int (f_X8_within r (-1) 7)), (7, .int 0), (0, .ref (ad 8 0)), (1, .int k), (2, .int t), (3, .int b), (4, .int u), (5, .int r), (6, .int d)]) hx hb dX8_entry_65 hl (by decide) rfl (fun ls hl => ?_)
        refine lv_iload hx hb dX8_entry_67 (lv_at hl 0 rfl) ?_
        refine lv_if_eq (tgt := 83) hx hb dX8_entry_69 (by decide) (fun _ => ?_) (fun c => absurd (by decide) c)
        refine lv_iconst (v := (-1)) hx hb dX8_entry_83 (by decide) ?_
        refine lv_istore (lv' := [(10, .int (-1)), (9, .int 0), (8, .int (f_X8_within r (-1) 7)), (7, .int 0), (0, .ref (ad 8 0)), (1, .int k), (2, .int t), (3, .int b), (4, .int u), (5, .int r), (6, .int d)]) hx hb dX8_entry_84 hl (by decide) rfl (fun ls hl => ?_)
        refine lv_aload_n hx hb dX8_entry_86 rfl (lv_at hl 4 rfl) ?_
        refine lv_iload hx hb dX8_entry_87 (lv_at hl 3 rfl) ?_
        refine lv_if_ne (tgt := 96) hx hb dX8_entry_89 (by decide) (fun c => absurd (by decide) c) (fun _ => ?_)
        refine lv_iconst (v := 1) hx hb dX8_entry_92 (by decide) ?_
        refine lv_goto (tgt := 141) hx hb dX8_entry_93 (by decide) ?_
        refine w_callV (As := [.int 1]) (rest := []) (st2 := .int (f_X8_rf 1) :: []) hC hW hS hl cv_X8_154 m_8 (by decide) rfl (c_X8_refused l hl9 D ca base ad σ 1 ) rfl rfl rfl ⟨Nat.le_of_ble_eq_true rfl, Nat.le_of_ble_eq_true rfl⟩ (Nat.le_of_ble_eq_true rfl) dX8_entry_141 ⟨Nat.le_of_ble_eq_true rfl, Nat.le_of_ble_eq_true rfl⟩ (fun H locs hW hS => ?_)
        refine lv_eqi (y := 1) (by decide) ?_
        refine lv_if_eq (tgt := 149) hx hb dX8_entry_144 (by decide) (fun c => absurd c (by decide)) (fun _ => ?_)
        refine lv_iconst (v := 0) hx hb dX8_entry_147 (by decide) ?_
        have hO : f_X8_entry k t b u r d σ = (0, us σ 8 0 0 1) := by rw [f_X8_entry, if_neg c_1, if_neg c_2, if_pos c_3]
        exact w_iretS hC hW hS hO (Nat.le_of_ble_eq_true rfl) (Nat.le_of_ble_eq_true rfl) dX8_entry_148
      · refine lv_iconst (v := 1) hx hb dX8_entry_24 (by decide) ?_
        refine lv_goto (tgt := 29) hx hb dX8_entry_25 (by decide) ?_
        refine lv_istore (lv' := [(7, .int 1), (0, .ref (ad 8 0)), (1, .int k), (2, .int t), (3, .int b), (4, .int u), (5, .int r), (6, .int d)]) hx hb dX8_entry_29 hl (by decide) rfl (fun ls hl => ?_)
        refine lv_iload hx hb dX8_entry_31 (lv_at hl 6 rfl) ?_
        refine lv_iconst (v := (-1)) hx hb dX8_entry_33 (by decide) ?_
        refine lv_bipush (v := 7) hx hb dX8_entry_34 (by decide) ?_
        refine w_callS (As := [.int r, .int (-1), .int 7]) (rest := []) (st2 := .int (f_X8_within r (-1) 7) :: []) hC hW hS hl cs_X8_129 (c_X8_within l hl9 D ca base ad σ r (-1) 7 ) rfl rfl rfl ⟨Nat.le_of_ble_eq_true rfl, Nat.le_of_ble_eq_true rfl⟩ (Nat.le_of_ble_eq_true rfl) dX8_entry_36 ⟨Nat.le_of_ble_eq_true rfl, Nat.le_of_ble_eq_true rfl⟩ (fun H locs hW hS => ?_)
        refine lv_istore (lv' := [(8, .int (f_X8_within r (-1) 7)), (7, .int 1), (0, .ref (ad 8 0)), (1, .int k), (2, .int t), (3, .int b), (4, .int u), (5, .int r), (6, .int d)]) hx hb dX8_entry_39 hl (by decide) rfl (fun ls hl => ?_)
        refine lv_iload hx hb dX8_entry_41 (lv_at hl 1 rfl) ?_
        refine lv_if_eq (tgt := 64) hx hb dX8_entry_43 (by decide) (fun c => absurd c (by decide)) (fun _ => ?_)
        refine lv_iload hx hb dX8_entry_46 (lv_at hl 0 rfl) ?_
        refine lv_if_eq (tgt := 64) hx hb dX8_entry_48 (by decide) (fun c_4 => ?_) (fun c_4 => ?_)
        · refine lv_iconst (v := 0) hx hb dX8_entry_64 (by decide) ?_
          refine lv_istore (lv' := [(9, .int 0), (8, .int (f_X8_within r (-1) 7)), (7, .int 1), (0, .ref (ad 8 0)), (1, .int k), (2, .int t), (3, .int b), (4, .int u), (5, .int r), (6, .int d)]) hx hb dX8_entry_65 hl (by decide) rfl (fun ls hl => ?_)
          refine lv_iload hx hb dX8_entry_67 (lv_at hl 0 rfl) ?_
          refine lv_if_eq (tgt := 83) hx hb dX8_entry_69 (by decide) (fun _ => ?_) (fun c => absurd (by decide) c)
          refine lv_iconst (v := (-1)) hx hb dX8_entry_83 (by decide) ?_
          refine lv_istore (lv' := [(10, .int (-1)), (9, .int 0), (8, .int (f_X8_within r (-1) 7)), (7, .int 1), (0, .ref (ad 8 0)), (1, .int k), (2, .int t), (3, .int b), (4, .int u), (5, .int r), (6, .int d)]) hx hb dX8_entry_84 hl (by decide) rfl (fun ls hl => ?_)
          refine lv_aload_n hx hb dX8_entry_86 rfl (lv_at hl 4 rfl) ?_
          refine lv_iload hx hb dX8_entry_87 (lv_at hl 3 rfl) ?_
          refine lv_if_ne (tgt := 96) hx hb dX8_entry_89 (by decide) (fun _ => ?_) (fun c => absurd c (by decide))
          refine lv_iload hx hb dX8_entry_96 (lv_at hl 2 rfl) ?_
          refine lv_if_ne (tgt := 105) hx hb dX8_entry_98 (by decide) (fun c => absurd c_4 c) (fun _ => ?_)
          refine lv_iconst (v := 2) hx hb dX8_entry_101 (by decide) ?_
          refine lv_goto (tgt := 141) hx hb dX8_entry_102 (by decide) ?_
          refine w_callV (As := [.int 2]) (rest := []) (st2 := .int (f_X8_rf 2) :: []) hC hW hS hl cv_X8_154 m_8 (by decide) rfl (c_X8_refused l hl9 D ca base ad σ 2 ) rfl rfl rfl ⟨Nat.le_of_ble_eq_true rfl, Nat.le_of_ble_eq_true rfl⟩ (Nat.le_of_ble_eq_true rfl) dX8_entry_141 ⟨Nat.le_of_ble_eq_true rfl, Nat.le_of_ble_eq_true rfl⟩ (fun H locs hW hS => ?_)
          refine lv_eqi (y := 1) (by decide) ?_
          refine lv_if_eq (tgt := 149) hx hb dX8_entry_144 (by decide) (fun c => absurd c (by decide)) (fun _ => ?_)
          refine lv_iconst (v := 0) hx hb dX8_entry_147 (by decide) ?_
          have hO : f_X8_entry k t b u r d σ = (0, us σ 8 0 0 2) := by rw [f_X8_entry, if_neg c_1, if_neg c_2, if_neg c_3, if_pos c_4]
          exact w_iretS hC hW hS hO (Nat.le_of_ble_eq_true rfl) (Nat.le_of_ble_eq_true rfl) dX8_entry_148
        · refine lv_aload_n hx hb dX8_entry_51 rfl (lv_at hl 2 rfl) ?_
          refine lv_iload_n hx hb dX8_entry_52 rfl (lv_at hl 3 rfl) ?_
          refine lv_iload_n hx hb dX8_entry_53 rfl (lv_at hl 4 rfl) ?_
          refine w_callV (As := [.int k, .int t]) (rest := []) (st2 := .int (f_X8_mayChange k t σ) :: []) hC hW hS hl cv_X8_169 m_8 (by decide) rfl (c_X8_mayChange l hl9 D ca base ad σ k t hM (by first | assumption | exact it_in hM (by assumption)) (by first | assumption | exact ip_in hM (by assumption))) rfl rfl rfl ⟨Nat.le_of_ble_eq_true rfl, Nat.le_of_ble_eq_true rfl⟩ (Nat.le_of_ble_eq_true rfl) dX8_entry_54 ⟨Nat.le_of_ble_eq_true rfl, Nat.le_of_ble_eq_true rfl⟩ (fun H locs hW hS => ?_)
          refine lv_if_eq (tgt := 64) hx hb dX8_entry_57 (by decide) (fun c_5 => ?_) (fun c_5 => ?_)
          · refine lv_iconst (v := 0) hx hb dX8_entry_64 (by decide) ?_
            refine lv_istore (lv' := [(9, .int 0), (8, .int (f_X8_within r (-1) 7)), (7, .int 1), (0, .ref (ad 8 0)), (1, .int k), (2, .int t), (3, .int b), (4, .int u), (5, .int r), (6, .int d)]) hx hb dX8_entry_65 hl (by decide) rfl (fun ls hl => ?_)
            refine lv_iload hx hb dX8_entry_67 (lv_at hl 0 rfl) ?_
            refine lv_if_eq (tgt := 83) hx hb dX8_entry_69 (by decide) (fun _ => ?_) (fun c => absurd (by decide) c)
            refine lv_iconst (v := (-1)) hx hb dX8_entry_83 (by decide) ?_
            refine lv_istore (lv' := [(10, .int (-1)), (9, .int 0), (8, .int (f_X8_within r (-1) 7)), (7, .int 1), (0, .ref (ad 8 0)), (1, .int k), (2, .int t), (3, .int b), (4, .int u), (5, .int r), (6, .int d)]) hx hb dX8_entry_84 hl (by decide) rfl (fun ls hl => ?_)
            refine lv_aload_n hx hb dX8_entry_86 rfl (lv_at hl 4 rfl) ?_
            refine lv_iload hx hb dX8_entry_87 (lv_at hl 3 rfl) ?_
            refine lv_if_ne (tgt := 96) hx hb dX8_entry_89 (by decide) (fun _ => ?_) (fun c => absurd c (by decide))
            refine lv_iload hx hb dX8_entry_96 (lv_at hl 2 rfl) ?_
            refine lv_if_ne (tgt := 105) hx hb dX8_entry_98 (by decide) (fun _ => ?_) (fun c => absurd c c_4)
            refine lv_iload hx hb dX8_entry_105 (lv_at hl 1 rfl) ?_
            refine lv_if_ne (tgt := 114) hx hb dX8_entry_107 (by decide) (fun c => absurd (by decide) c) (fun _ => ?_)
            refine lv_iconst (v := 3) hx hb dX8_entry_110 (by decide) ?_
            refine lv_goto (tgt := 141) hx hb dX8_entry_111 (by decide) ?_
            refine w_callV (As := [.int 3]) (rest := []) (st2 := .int (f_X8_rf 3) :: []) hC hW hS hl cv_X8_154 m_8 (by decide) rfl (c_X8_refused l hl9 D ca base ad σ 3 ) rfl rfl rfl ⟨Nat.le_of_ble_eq_true rfl, Nat.le_of_ble_eq_true rfl⟩ (Nat.le_of_ble_eq_true rfl) dX8_entry_141 ⟨Nat.le_of_ble_eq_true rfl, Nat.le_of_ble_eq_true rfl⟩ (fun H locs hW hS => ?_)
            refine lv_eqi (y := 1) (by decide) ?_
            refine lv_if_eq (tgt := 149) hx hb dX8_entry_144 (by decide) (fun c => absurd c (by decide)) (fun _ => ?_)
            refine lv_iconst (v := 0) hx hb dX8_entry_147 (by decide) ?_
            have hO : f_X8_entry k t b u r d σ = (0, us σ 8 0 0 3) := by rw [f_X8_entry, if_neg c_1, if_neg c_2, if_neg c_3, if_neg c_4, if_pos c_5]
            exact w_iretS hC hW hS hO (Nat.le_of_ble_eq_true rfl) (Nat.le_of_ble_eq_true rfl) dX8_entry_148
          · refine lv_iconst (v := 1) hx hb dX8_entry_60 (by decide) ?_
            refine lv_goto (tgt := 65) hx hb dX8_entry_61 (by decide) ?_
            refine lv_istore (lv' := [(9, .int 1), (8, .int (f_X8_within r (-1) 7)), (7, .int 1), (0, .ref (ad 8 0)), (1, .int k), (2, .int t), (3, .int b), (4, .int u), (5, .int r), (6, .int d)]) hx hb dX8_entry_65 hl (by decide) rfl (fun ls hl => ?_)
            refine lv_iload hx hb dX8_entry_67 (lv_at hl 0 rfl) ?_
            refine lv_if_eq (tgt := 83) hx hb dX8_entry_69 (by decide) (fun c => absurd c (by decide)) (fun _ => ?_)
            refine lv_aload_n hx hb dX8_entry_72 rfl (lv_at hl 3 rfl) ?_
            refine lv_iload_n hx hb dX8_entry_73 rfl (lv_at hl 5 rfl) ?_
            refine lv_iload_n hx hb dX8_entry_74 rfl (lv_at hl 6 rfl) ?_
            refine lv_iload hx hb dX8_entry_75 (lv_at hl 7 rfl) ?_
            refine w_callV (As := [.int t, .int b, .int u]) (rest := []) (st2 := .int (f_X8_entryOf t b u σ) :: []) hC hW hS hl cv_X8_176 m_8 (by decide) rfl (c_X8_entryOf l hl9 D ca base ad σ t b u hM (by first | assumption | exact it_in hM (by assumption))) rfl rfl rfl ⟨Nat.le_of_ble_eq_true rfl, Nat.le_of_ble_eq_true rfl⟩ (Nat.le_of_ble_eq_true rfl) dX8_entry_77 ⟨Nat.le_of_ble_eq_true rfl, Nat.le_of_ble_eq_true rfl⟩ (fun H locs hW hS => ?_)
            refine lv_goto (tgt := 84) hx hb dX8_entry_80 (by decide) ?_
            refine lv_istore (lv' := [(10, .int (f_X8_entryOf t b u σ)), (9, .int 1), (8, .int (f_X8_within r (-1) 7)), (7, .int 1), (0, .ref (ad 8 0)), (1, .int k), (2, .int t), (3, .int b), (4, .int u), (5, .int r), (6, .int d)]) hx hb dX8_entry_84 hl (by decide) rfl (fun ls hl => ?_)
            refine lv_aload_n hx hb dX8_entry_86 rfl (lv_at hl 4 rfl) ?_
            refine lv_iload hx hb dX8_entry_87 (lv_at hl 3 rfl) ?_
            refine lv_if_ne (tgt := 96) hx hb dX8_entry_89 (by decide) (fun _ => ?_) (fun c => absurd c (by decide))
            refine lv_iload hx hb dX8_entry_96 (lv_at hl 2 rfl) ?_
            refine lv_if_ne (tgt := 105) hx hb dX8_entry_98 (by decide) (fun _ => ?_) (fun c => absurd c c_4)
            refine lv_iload hx hb dX8_entry_105 (lv_at hl 1 rfl) ?_
            refine lv_if_ne (tgt := 114) hx hb dX8_entry_107 (by decide) (fun _ => ?_) (fun c => absurd c (by decide))
            refine lv_iload hx hb dX8_entry_114 (lv_at hl 0 rfl) ?_
            refine lv_iconst (v := (-1)) hx hb dX8_entry_116 (by decide) ?_
            refine lv_icmp_ne (tgt := 140) hx hb dX8_entry_117 (by decide) (fun c_6 => ?_) (fun c_6 => ?_)
            · refine lv_iconst (v := 0) hx hb dX8_entry_140 (by decide) ?_
              refine w_callV (As := [.int 0]) (rest := []) (st2 := .int (f_X8_rf 0) :: []) hC hW hS hl cv_X8_154 m_8 (by decide) rfl (c_X8_refused l hl9 D ca base ad σ 0 ) rfl rfl rfl ⟨Nat.le_of_ble_eq_true rfl, Nat.le_of_ble_eq_true rfl⟩ (Nat.le_of_ble_eq_true rfl) dX8_entry_141 ⟨Nat.le_of_ble_eq_true rfl, Nat.le_of_ble_eq_true rfl⟩ (fun H locs hW hS => ?_)
              refine lv_eqi (y := 0) (by decide) ?_
              refine lv_if_eq (tgt := 149) hx hb dX8_entry_144 (by decide) (fun _ => ?_) (fun c => absurd (by decide) c)
              refine lv_iload hx hb dX8_entry_149 (lv_at hl 0 rfl) ?_
              refine lv_iconst (v := (-1)) hx hb dX8_entry_151 (by decide) ?_
              refine lv_icmp_ne (tgt := 159) hx hb dX8_entry_152 (by decide) (fun _ => ?_) (fun c => absurd c c_6)
              refine lv_aload_n hx hb dX8_entry_159 rfl (lv_at hl 4 rfl) ?_
              refine gf_X8_47 hC hW m_8 rfl dX8_entry_160 ?_
              refine lv_iconst (v := 5) hx hb dX8_entry_163 (by decide) ?_
              refine lv_iload_n hx hb dX8_entry_164 rfl (lv_at hl 6 rfl) ?_
              refine lv_imul hx hb dX8_entry_165 ?_
              refine lv_iload hx hb dX8_entry_166 (lv_at hl 0 rfl) ?_
              refine lv_iadd hx hb dX8_entry_168 ?_
              refine w_iald hC hW m_44 (n := 60) rfl (e5_in2 (it_in hM (by assumption)) (eo_in hM (it_in hM (by assumption)) (by assumption))) dX8_entry_169 ?_
              refine lv_eqi (y := σ 44 0 ((((5 : Int32) * t) + (f_X8_entryOf t b u σ)).toNatClampNeg)) (by rw [us_k (by decide)]) ?_
              refine lv_istore (lv' := [(11, .int (σ 44 0 ((((5 : Int32) * t) + (f_X8_entryOf t b u σ)).toNatClampNeg))), (10, .int (f_X8_entryOf t b u σ)), (9, .int 1), (8, .int (f_X8_within r (-1) 7)), (7, .int 1), (0, .ref (ad 8 0)), (1, .int k), (2, .int t), (3, .int b), (4, .int u), (5, .int r), (6, .int d)]) hx hb dX8_entry_170 hl (by decide) rfl (fun ls hl => ?_)
              refine lv_iload hx hb dX8_entry_172 (lv_at hl 10 rfl) ?_
              refine lv_iconst (v := (-1)) hx hb dX8_entry_174 (by decide) ?_
              refine lv_icmp_ne (tgt := 266) hx hb dX8_entry_175 (by decide) (fun c_7 => ?_) (fun c_7 => ?_)
              · refine lv_iload hx hb dX8_entry_266 (lv_at hl 10 rfl) ?_
                refine lv_iconst (v := (-1)) hx hb dX8_entry_268 (by decide) ?_
                refine lv_icmp_eq (tgt := 328) hx hb dX8_entry_269 (by decide) (fun c => absurd c c_7) (fun _ => ?_)
                refine lv_iload hx hb dX8_entry_272 (lv_at hl 1 rfl) ?_
                refine lv_iconst (v := (-1)) hx hb dX8_entry_274 (by decide) ?_
                refine lv_icmp_ne (tgt := 287) hx hb dX8_entry_275 (by decide) (fun _ => ?_) (fun c => absurd c c_6)
                refine lv_iload hx hb dX8_entry_287 (lv_at hl 1 rfl) ?_
                refine lv_istore (lv' := [(12, .int (f_X8_entryOf t b u σ)), (11, .int (σ 44 0 ((((5 : Int32) * t) + (f_X8_entryOf t b u σ)).toNatClampNeg))), (10, .int (f_X8_entryOf t b u σ)), (9, .int 1), (8, .int (f_X8_within r (-1) 7)), (7, .int 1), (0, .ref (ad 8 0)), (1, .int k), (2, .int t), (3, .int b), (4, .int u), (5, .int r), (6, .int d)]) hx hb dX8_entry_289 hl (by decide) rfl (fun ls hl => ?_)
                refine lv_aload_n hx hb dX8_entry_291 rfl (lv_at hl 6 rfl) ?_
                refine gf_X8_37 hC hW m_8 rfl dX8_entry_292 ?_
                refine lv_iload_n hx hb dX8_entry_295 rfl (lv_at hl 8 rfl) ?_
                refine lv_dup2_11 hx hb dX8_entry_296 rfl rfl ?_
                refine w_iald hC hW m_41 (n := 12) rfl (by first | assumption | exact it_in hM (by assumption) | exact vp_in_c (y := 12) (by decide) (by decide) (by assumption) (by assumption) | (exfalso; contradiction)) dX8_entry_297 ?_
                refine lv_eqi (y := σ 41 0 t.toNatClampNeg) (by rw [us_k (by decide)]) ?_
                refine lv_iload hx hb dX8_entry_298 (lv_at hl 2 rfl) ?_
                refine lv_iconst (v := (-1)) hx hb dX8_entry_300 (by decide) ?_
                refine lv_icmp_ne (tgt := 308) hx hb dX8_entry_301 (by decide) (fun _ => ?_) (fun c => absurd c c_6)
                refine lv_iconst (v := 0) hx hb dX8_entry_308 (by decide) ?_
                refine lv_iadd hx hb dX8_entry_309 ?_
                refine w_iast hC hW hS m_41 (n := 12) (fun _ => rfl) (by first | assumption | exact it_in hM (by assumption) | exact vp_in_c (y := 12) (by decide) (by decide) (by assumption) (by assumption) | (exfalso; contradiction)) dX8_entry_310 (fun H locs hW hS => ?_)
                refine lv_aload_n hx hb dX8_entry_311 rfl (lv_at hl 6 rfl) ?_
                refine lv_iconst (v := 5) hx hb dX8_entry_312 (by decide) ?_
                refine lv_iload_n hx hb dX8_entry_313 rfl (lv_at hl 8 rfl) ?_
                refine lv_imul hx hb dX8_entry_314 ?_
                refine lv_iload hx hb dX8_entry_315 (lv_at hl 0 rfl) ?_
                refine lv_iadd hx hb dX8_entry_317 ?_
                refine lv_iload_n hx hb dX8_entry_318 rfl (lv_at hl 9 rfl) ?_
                refine lv_iload hx hb dX8_entry_319 (lv_at hl 10 rfl) ?_
                refine lv_iload hx hb dX8_entry_321 (lv_at hl 11 rfl) ?_
                refine lv_iload hx hb dX8_entry_323 (lv_at hl 12 rfl) ?_
                refine w_callV (As := [.int (((5 : Int32) * t) + (f_X8_entryOf t b u σ)), .int b, .int u, .int r, .int d]) (rest := []) (st2 := []) hC hW hS hl cv_X8_162 m_8 (by decide) rfl (c_X8_layEntry l hl9 D ca base ad (us (us σ 8 0 0 0) 41 0 t.toNatClampNeg ((σ 41 0 t.toNatClampNeg) + (0 : Int32))) (((5 : Int32) * t) + (f_X8_entryOf t b u σ)) b u r d (e5_in2 (it_in hM (by assumption)) (eo_in hM (it_in hM (by assumption)) (by assumption))) hb1 hd1) rfl rfl rfl ⟨Nat.le_of_ble_eq_true rfl, Nat.le_of_ble_eq_true rfl⟩ (Nat.le_of_ble_eq_true rfl) dX8_entry_325 ⟨Nat.le_of_ble_eq_true rfl, Nat.le_of_ble_eq_true rfl⟩ (fun H locs hW hS => ?_)
                refine lv_iload hx hb dX8_entry_328 (lv_at hl 1 rfl) ?_
                have hO : f_X8_entry k t b u r d σ = (σ 44 0 ((((5 : Int32) * t) + (f_X8_entryOf t b u σ)).toNatClampNeg), us (us (us (us (us (us σ 8 0 0 0) 41 0 t.toNatClampNeg ((σ 41 0 t.toNatClampNeg) + (0 : Int32))) 43 0 ((((5 : Int32) * t) + (f_X8_entryOf t b u σ)).toNatClampNeg) b) 42 0 ((((5 : Int32) * t) + (f_X8_entryOf t b u σ)).toNatClampNeg) u) 44 0 ((((5 : Int32) * t) + (f_X8_entryOf t b u σ)).toNatClampNeg) r) 45 0 ((((5 : Int32) * t) + (f_X8_entryOf t b u σ)).toNatClampNeg) d) := by rw [f_X8_entry, if_neg c_1, if_neg c_2, if_neg c_3, if_neg c_4, if_neg c_5, if_neg c_6, if_neg c_7]
                exact w_iretS hC hW hS hO (Nat.le_of_ble_eq_true rfl) (Nat.le_of_ble_eq_true rfl) dX8_entry_330
              · refine lv_iload hx hb dX8_entry_178 (lv_at hl 1 rfl) ?_
                refine lv_iconst (v := (-1)) hx hb dX8_entry_180 (by decide) ?_
                refine lv_icmp_eq (tgt := 266) hx hb dX8_entry_181 (by decide) (fun c => absurd c c_6) (fun _ => ?_)
                refine lv_iload hx hb dX8_entry_184 (lv_at hl 1 rfl) ?_
                refine lv_istore (lv' := [(12, .int (f_X8_entryOf t b u σ)), (11, .int (σ 44 0 ((((5 : Int32) * t) + (f_X8_entryOf t b u σ)).toNatClampNeg))), (10, .int (f_X8_entryOf t b u σ)), (9, .int 1), (8, .int (f_X8_within r (-1) 7)), (7, .int 1), (0, .ref (ad 8 0)), (1, .int k), (2, .int t), (3, .int b), (4, .int u), (5, .int r), (6, .int d)]) hx hb dX8_entry_186 hl (by decide) rfl (fun ls hl => ?_)
                have h_188 : ∀ (n188 k188 : Nat) (σ188 : Sg) (H : Heap) (locs : List Loc) (ls : Array Slot), 6 ≤ k188 + n188 → k188 ≤ 5 → (BZ σ188) → (σ188 41 = (us σ 8 0 0 0) 41) → Wd D ca (Ab base) ad ρm Lm σ188 H → va_S (Ab base) s.heap H locs → lv_has ls 14 [(12, .int (nI k188)), (11, .int (σ 44 0 ((((5 : Int32) * t) + (f_X8_entryOf t b u σ)).toNatClampNeg))), (0, .ref (ad 8 0)), (2, .int t)] → f_X8_entry k t b u r d σ = (f_X8_entry_K188 k t b u r d (σ 44 0 ((((5 : Int32) * t) + (f_X8_entryOf t b u σ)).toNatClampNeg)) (f_X8_entry_L188 k t b u r d n188 k188 σ188)) → W p l e ({ frames := 2, cells := 0, slots := 0, locals := 43 } : Room) s m args below meth c H locs 0 0 (MQ below (Rt D ca base ad ρm Lm (f_X8_entry k t b u r d σ).2 (some (.int (f_X8_entry k t b u r d σ).1))) args s 0 0 (Ab base)) (F0 m 188 ls []) := by
                  intro n188
                  induction n188 with
                  | zero =>
                    intro k188 σ188 H locs ls hk1_188 hk2_188 hB9 hk41_188 hW hS hl hO
                    exact absurd hk1_188 (by omega)
                  | succ n188 ih_188 =>
                    intro k188 σ188 H locs ls hk1_188 hk2_188 hB9 hk41_188 hW hS hl hO
                    refine lv_iload hx hb dX8_entry_188 (lv_at hl 0 rfl) ?_
                    refine lv_iconst (v := 1) hx hb dX8_entry_190 (by decide) ?_
                    refine lv_iadd hx hb dX8_entry_191 ?_
                    refine lv_aload_n hx hb dX8_entry_192 rfl (lv_at hl 2 rfl) ?_
                    refine gf_X8_37 hC hW m_8 rfl dX8_entry_193 ?_
                    refine lv_iload_n hx hb dX8_entry_196 rfl (lv_at hl 3 rfl) ?_
                    refine w_iald hC hW m_41 (n := 12) rfl (by first | assumption | exact it_in hM (by assumption) | exact vp_in_c (y := 12) (by decide) (by decide) (by assumption) (by assumption) | (exfalso; contradiction)) dX8_entry_197 ?_
                    refine lv_icmp_ge (tgt := 253) hx hb dX8_entry_198 (by decide) (fun c_8 => ?_) (fun c_8 => ?_)
                    · replace hl := lv_sub hl [1, 2, 3] (l' := [(11, .int (σ 44 0 ((((5 : Int32) * t) + (f_X8_entryOf t b u σ)).toNatClampNeg))), (0, .ref (ad 8 0)), (2, .int t)]) rfl
                      refine lv_aload_n hx hb dX8_entry_253 rfl (lv_at hl 1 rfl) ?_
                      refine gf_X8_37 hC hW m_8 rfl dX8_entry_254 ?_
                      refine lv_iload_n hx hb dX8_entry_257 rfl (lv_at hl 2 rfl) ?_
                      refine lv_dup2_11 hx hb dX8_entry_258 rfl rfl ?_
                      refine w_iald hC hW m_41 (n := 12) rfl (by first | assumption | exact it_in hM (by assumption) | exact vp_in_c (y := 12) (by decide) (by decide) (by assumption) (by assumption) | (exfalso; contradiction)) dX8_entry_259 ?_
                      refine lv_iconst (v := 1) hx hb dX8_entry_260 (by decide) ?_
                      refine lv_isub hx hb dX8_entry_261 ?_
                      refine w_iast hC hW hS m_41 (n := 12) (fun _ => rfl) (by first | assumption | exact it_in hM (by assumption) | exact vp_in_c (y := 12) (by decide) (by decide) (by assumption) (by assumption) | (exfalso; contradiction)) dX8_entry_262 (fun H locs hW hS => ?_)
                      refine lv_goto (tgt := 328) hx hb dX8_entry_263 (by decide) ?_
                      refine lv_iload hx hb dX8_entry_328 (lv_at hl 0 rfl) ?_
                      have hO : f_X8_entry k t b u r d σ = (σ 44 0 ((((5 : Int32) * t) + (f_X8_entryOf t b u σ)).toNatClampNeg), us σ188 41 0 t.toNatClampNeg ((σ188 41 0 t.toNatClampNeg) - (1 : Int32))) := by rw [hO, f_X8_entry_L188, if_pos c_8, f_X8_entry_K188]
                      exact w_iretS hC hW hS hO (Nat.le_of_ble_eq_true rfl) (Nat.le_of_ble_eq_true rfl) dX8_entry_330
                    · have hi_c_8 : k188 + 1 < 5 := mn_lt1 hM (it_in hM (by assumption)) (hk41_188.trans (us_kk (by decide))) (by omega) c_8
                      refine lv_iconst (v := 5) hx hb dX8_entry_201 (by decide) ?_
                      refine lv_iload_n hx hb dX8_entry_202 rfl (lv_at hl 3 rfl) ?_
                      refine lv_imul hx hb dX8_entry_203 ?_
                      refine lv_iload hx hb dX8_entry_204 (lv_at hl 0 rfl) ?_
                      refine lv_iadd hx hb dX8_entry_206 ?_
                      refine lv_iconst (v := 1) hx hb dX8_entry_207 (by decide) ?_
                      refine lv_iadd hx hb dX8_entry_208 ?_
                      refine lv_istore (lv' := [(13, .int ((((5 : Int32) * t) + (nI k188)) + (1 : Int32))), (12, .int (nI k188)), (11, .int (σ 44 0 ((((5 : Int32) * t) + (f_X8_entryOf t b u σ)).toNatClampNeg))), (0, .ref (ad 8 0)), (2, .int t)]) hx hb dX8_entry_209 hl (by decide) rfl (fun ls hl => ?_)
                      refine lv_aload_n hx hb dX8_entry_211 rfl (lv_at hl 3 rfl) ?_
                      refine lv_iload hx hb dX8_entry_212 (lv_at hl 0 rfl) ?_
                      refine lv_iconst (v := 1) hx hb dX8_entry_214 (by decide) ?_
                      refine lv_isub hx hb dX8_entry_215 ?_
                      refine lv_aload_n hx hb dX8_entry_216 rfl (lv_at hl 3 rfl) ?_
                      refine gf_X8_43 hC hW m_8 rfl dX8_entry_217 ?_
                      refine lv_iload hx hb dX8_entry_220 (lv_at hl 0 rfl) ?_
                      refine w_zald hC hW m_43 (n := 60) rfl (e5_in3 (it_in hM (by assumption)) (by omega)) dX8_entry_222 ?_
                      refine lv_aload_n hx hb dX8_entry_223 rfl (lv_at hl 3 rfl) ?_
                      refine gf_X8_40 hC hW m_8 rfl dX8_entry_224 ?_
                      refine lv_iload hx hb dX8_entry_227 (lv_at hl 0 rfl) ?_
                      refine w_iald hC hW m_42 (n := 60) rfl (e5_in3 (it_in hM (by assumption)) (by omega)) dX8_entry_229 ?_
                      refine lv_aload_n hx hb dX8_entry_230 rfl (lv_at hl 3 rfl) ?_
                      refine gf_X8_47 hC hW m_8 rfl dX8_entry_231 ?_
                      refine lv_iload hx hb dX8_entry_234 (lv_at hl 0 rfl) ?_
                      refine w_iald hC hW m_44 (n := 60) rfl (e5_in3 (it_in hM (by assumption)) (by omega)) dX8_entry_236 ?_
                      refine lv_aload_n hx hb dX8_entry_237 rfl (lv_at hl 3 rfl) ?_
                      refine gf_X8_50 hC hW m_8 rfl dX8_entry_238 ?_
                      refine lv_iload hx hb dX8_entry_241 (lv_at hl 0 rfl) ?_
                      refine w_zald hC hW m_45 (n := 60) rfl (e5_in3 (it_in hM (by assumption)) (by omega)) dX8_entry_243 ?_
                      refine w_callV (As := [.int (((((5 : Int32) * t) + (nI k188)) + (1 : Int32)) - (1 : Int32)), .int (σ188 43 0 (((((5 : Int32) * t) + (nI k188)) + (1 : Int32)).toNatClampNeg)), .int (σ188 42 0 (((((5 : Int32) * t) + (nI k188)) + (1 : Int32)).toNatClampNeg)), .int (σ188 44 0 (((((5 : Int32) * t) + (nI k188)) + (1 : Int32)).toNatClampNeg)), .int (σ188 45 0 (((((5 : Int32) * t) + (nI k188)) + (1 : Int32)).toNatClampNeg))]) (rest := []) (st2 := []) hC hW hS hl cv_X8_162 m_8 (by decide) rfl (c_X8_layEntry l hl9 D ca base ad σ188 (((((5 : Int32) * t) + (nI k188)) + (1 : Int32)) - (1 : Int32)) (σ188 43 0 (((((5 : Int32) * t) + (nI k188)) + (1 : Int32)).toNatClampNeg)) (σ188 42 0 (((((5 : Int32) * t) + (nI k188)) + (1 : Int32)).toNatClampNeg)) (σ188 44 0 (((((5 : Int32) * t) + (nI k188)) + (1 : Int32)).toNatClampNeg)) (σ188 45 0 (((((5 : Int32) * t) + (nI k188)) + (1 : Int32)).toNatClampNeg)) (e5_in4 (it_in hM (by assumption)) (by omega)) (hB9 _).1 (hB9 _).2) rfl rfl rfl ⟨Nat.le_of_ble_eq_true rfl, Nat.le_of_ble_eq_true rfl⟩ (Nat.le_of_ble_eq_true rfl) dX8_entry_244 ⟨Nat.le_of_ble_eq_true rfl, Nat.le_of_ble_eq_true rfl⟩ (fun H locs hW hS => ?_)
                      refine lv_iinc (v := nI (k188 + 1)) (lv' := [(12, .int (nI (k188 + 1))), (13, .int ((((5 : Int32) * t) + (nI k188)) + (1 : Int32))), (11, .int (σ 44 0 ((((5 : Int32) * t) + (f_X8_entryOf t b u σ)).toNatClampNeg))), (0, .ref (ad 8 0)), (2, .int t)]) hx hb dX8_entry_247 hl (k := 1) rfl (nI_1 _) (by decide) rfl (fun ls hl => ?_)
                      refine lv_goto (tgt := 188) hx hb dX8_entry_250 (by decide) ?_
                      refine ih_188 (k188 + 1) (us (us (us (us σ188 43 0 ((((((5 : Int32) * t) + (nI k188)) + (1 : Int32)) - (1 : Int32)).toNatClampNeg) (σ188 43 0 (((((5 : Int32) * t) + (nI k188)) + (1 : Int32)).toNatClampNeg))) 42 0 ((((((5 : Int32) * t) + (nI k188)) + (1 : Int32)) - (1 : Int32)).toNatClampNeg) (σ188 42 0 (((((5 : Int32) * t) + (nI k188)) + (1 : Int32)).toNatClampNeg))) 44 0 ((((((5 : Int32) * t) + (nI k188)) + (1 : Int32)) - (1 : Int32)).toNatClampNeg) (σ188 44 0 (((((5 : Int32) * t) + (nI k188)) + (1 : Int32)).toNatClampNeg))) 45 0 ((((((5 : Int32) * t) + (nI k188)) + (1 : Int32)) - (1 : Int32)).toNatClampNeg) (σ188 45 0 (((((5 : Int32) * t) + (nI k188)) + (1 : Int32)).toNatClampNeg))) _ _ _ (by omega) (by omega) (bz_45 (bz_fr (bz_fr (bz_43 hB9 (hB9 _).1) (us_kk (by decide)) (us_kk (by decide))) (us_kk (by decide)) (us_kk (by decide))) (hB9 _).2) (Eq.trans (show (us (us (us (us σ188 43 0 ((((((5 : Int32) * t) + (nI k188)) + (1 : Int32)) - (1 : Int32)).toNatClampNeg) (σ188 43 0 (((((5 : Int32) * t) + (nI k188)) + (1 : Int32)).toNatClampNeg))) 42 0 ((((((5 : Int32) * t) + (nI k188)) + (1 : Int32)) - (1 : Int32)).toNatClampNeg) (σ188 42 0 (((((5 : Int32) * t) + (nI k188)) + (1 : Int32)).toNatClampNeg))) 44 0 ((((((5 : Int32) * t) + (nI k188)) + (1 : Int32)) - (1 : Int32)).toNatClampNeg) (σ188 44 0 (((((5 : Int32) * t) + (nI k188)) + (1 : Int32)).toNatClampNeg))) 45 0 ((((((5 : Int32) * t) + (nI k188)) + (1 : Int32)) - (1 : Int32)).toNatClampNeg) (σ188 45 0 (((((5 : Int32) * t) + (nI k188)) + (1 : Int32)).toNatClampNeg))) 41 = σ188 41 from (by rw [us_kk (by decide), us_kk (by decide), us_kk (by decide), us_kk (by decide)])) hk41_188) hW hS (lv_sub hl [0, 2, 3, 4] rfl) ?_
                      rw [hO, f_X8_entry_L188, if_neg c_8]
                have hk0 := vp_lt (eo_in hM (it_in hM (by assumption)) (by assumption))
                refine h_188 6 (f_X8_entryOf t b u σ).toNatClampNeg (us σ 8 0 0 0) _ _ _ (by omega) (by omega) (bz_fr hB (us_kk (by decide)) (us_kk (by decide))) rfl hW hS (lv_sub hl [0, 1, 6, 8] (congrArg (fun z => ([(12, .int z), (11, .int (σ 44 0 ((((5 : Int32) * t) + (f_X8_entryOf t b u σ)).toNatClampNeg))), (0, .ref (ad 8 0)), (2, .int t)] : List (Nat × Value))) (nI_self (eo_in hM (it_in hM (by assumption)) (by assumption))))) ?_
                rw [f_X8_entry, if_neg c_1, if_neg c_2, if_neg c_3, if_neg c_4, if_neg c_5, if_neg c_6, if_pos c_7]
            · refine lv_iload hx hb dX8_entry_120 (lv_at hl 9 rfl) ?_
              refine lv_iconst (v := (-1)) hx hb dX8_entry_122 (by decide) ?_
              refine lv_icmp_eq (tgt := 140) hx hb dX8_entry_123 (by decide) (fun c_9 => ?_) (fun c_9 => ?_)
              · refine lv_iconst (v := 0) hx hb dX8_entry_140 (by decide) ?_
                refine w_callV (As := [.int 0]) (rest := []) (st2 := .int (f_X8_rf 0) :: []) hC hW hS hl cv_X8_154 m_8 (by decide) rfl (c_X8_refused l hl9 D ca base ad σ 0 ) rfl rfl rfl ⟨Nat.le_of_ble_eq_true rfl, Nat.le_of_ble_eq_true rfl⟩ (Nat.le_of_ble_eq_true rfl) dX8_entry_141 ⟨Nat.le_of_ble_eq_true rfl, Nat.le_of_ble_eq_true rfl⟩ (fun H locs hW hS => ?_)
                refine lv_eqi (y := 0) (by decide) ?_
                refine lv_if_eq (tgt := 149) hx hb dX8_entry_144 (by decide) (fun _ => ?_) (fun c => absurd (by decide) c)
                refine lv_iload hx hb dX8_entry_149 (lv_at hl 0 rfl) ?_
                refine lv_iconst (v := (-1)) hx hb dX8_entry_151 (by decide) ?_
                refine lv_icmp_ne (tgt := 159) hx hb dX8_entry_152 (by decide) (fun c => absurd c_6 c) (fun _ => ?_)
                refine lv_iconst (v := (-1)) hx hb dX8_entry_155 (by decide) ?_
                refine lv_goto (tgt := 170) hx hb dX8_entry_156 (by decide) ?_
                refine lv_istore (lv' := [(11, .int (-1)), (10, .int (f_X8_entryOf t b u σ)), (9, .int 1), (8, .int (f_X8_within r (-1) 7)), (7, .int 1), (0, .ref (ad 8 0)), (1, .int k), (2, .int t), (3, .int b), (4, .int u), (5, .int r), (6, .int d)]) hx hb dX8_entry_170 hl (by decide) rfl (fun ls hl => ?_)
                refine lv_iload hx hb dX8_entry_172 (lv_at hl 10 rfl) ?_
                refine lv_iconst (v := (-1)) hx hb dX8_entry_174 (by decide) ?_
                refine lv_icmp_ne (tgt := 266) hx hb dX8_entry_175 (by decide) (fun c => absurd c_9 c) (fun _ => ?_)
                refine lv_iload hx hb dX8_entry_178 (lv_at hl 1 rfl) ?_
                refine lv_iconst (v := (-1)) hx hb dX8_entry_180 (by decide) ?_
                refine lv_icmp_eq (tgt := 266) hx hb dX8_entry_181 (by decide) (fun _ => ?_) (fun c => absurd c_6 c)
                refine lv_iload hx hb dX8_entry_266 (lv_at hl 10 rfl) ?_
                refine lv_iconst (v := (-1)) hx hb dX8_entry_268 (by decide) ?_
                refine lv_icmp_eq (tgt := 328) hx hb dX8_entry_269 (by decide) (fun _ => ?_) (fun c => absurd c_9 c)
                refine lv_iload hx hb dX8_entry_328 (lv_at hl 0 rfl) ?_
                have hO : f_X8_entry k t b u r d σ = ((-1), us σ 8 0 0 0) := by rw [f_X8_entry, if_neg c_1, if_neg c_2, if_neg c_3, if_neg c_4, if_neg c_5, if_pos c_6, if_pos c_9]
                exact w_iretS hC hW hS hO (Nat.le_of_ble_eq_true rfl) (Nat.le_of_ble_eq_true rfl) dX8_entry_330
              · refine lv_aload_n hx hb dX8_entry_126 rfl (lv_at hl 4 rfl) ?_
                refine gf_X8_37 hC hW m_8 rfl dX8_entry_127 ?_
                refine lv_iload_n hx hb dX8_entry_130 rfl (lv_at hl 6 rfl) ?_
                refine w_iald hC hW m_41 (n := 12) rfl (by first | assumption | exact it_in hM (by assumption) | exact vp_in_c (y := 12) (by decide) (by decide) (by assumption) (by assumption) | (exfalso; contradiction)) dX8_entry_131 ?_
                refine lv_iconst (v := 5) hx hb dX8_entry_132 (by decide) ?_
                refine lv_icmp_ne (tgt := 140) hx hb dX8_entry_133 (by decide) (fun c_10 => ?_) (fun c_10 => ?_)
                · refine lv_iconst (v := 0) hx hb dX8_entry_140 (by decide) ?_
                  refine w_callV (As := [.int 0]) (rest := []) (st2 := .int (f_X8_rf 0) :: []) hC hW hS hl cv_X8_154 m_8 (by decide) rfl (c_X8_refused l hl9 D ca base ad σ 0 ) rfl rfl rfl ⟨Nat.le_of_ble_eq_true rfl, Nat.le_of_ble_eq_true rfl⟩ (Nat.le_of_ble_eq_true rfl) dX8_entry_141 ⟨Nat.le_of_ble_eq_true rfl, Nat.le_of_ble_eq_true rfl⟩ (fun H locs hW hS => ?_)
                  refine lv_eqi (y := 0) (by decide) ?_
                  refine lv_if_eq (tgt := 149) hx hb dX8_entry_144 (by decide) (fun _ => ?_) (fun c => absurd (by decide) c)
                  refine lv_iload hx hb dX8_entry_149 (lv_at hl 0 rfl) ?_
                  refine lv_iconst (v := (-1)) hx hb dX8_entry_151 (by decide) ?_
                  refine lv_icmp_ne (tgt := 159) hx hb dX8_entry_152 (by decide) (fun c => absurd c_6 c) (fun _ => ?_)
                  refine lv_iconst (v := (-1)) hx hb dX8_entry_155 (by decide) ?_
                  refine lv_goto (tgt := 170) hx hb dX8_entry_156 (by decide) ?_
                  refine lv_istore (lv' := [(11, .int (-1)), (10, .int (f_X8_entryOf t b u σ)), (9, .int 1), (8, .int (f_X8_within r (-1) 7)), (7, .int 1), (0, .ref (ad 8 0)), (1, .int k), (2, .int t), (3, .int b), (4, .int u), (5, .int r), (6, .int d)]) hx hb dX8_entry_170 hl (by decide) rfl (fun ls hl => ?_)
                  refine lv_iload hx hb dX8_entry_172 (lv_at hl 10 rfl) ?_
                  refine lv_iconst (v := (-1)) hx hb dX8_entry_174 (by decide) ?_
                  refine lv_icmp_ne (tgt := 266) hx hb dX8_entry_175 (by decide) (fun _ => ?_) (fun c => absurd c c_9)
                  refine lv_iload hx hb dX8_entry_266 (lv_at hl 10 rfl) ?_
                  refine lv_iconst (v := (-1)) hx hb dX8_entry_268 (by decide) ?_
                  refine lv_icmp_eq (tgt := 328) hx hb dX8_entry_269 (by decide) (fun c => absurd c c_9) (fun _ => ?_)
                  refine lv_iload hx hb dX8_entry_272 (lv_at hl 1 rfl) ?_
                  refine lv_iconst (v := (-1)) hx hb dX8_entry_274 (by decide) ?_
                  refine lv_icmp_ne (tgt := 287) hx hb dX8_entry_275 (by decide) (fun c => absurd c_6 c) (fun _ => ?_)
                  refine lv_aload_n hx hb dX8_entry_278 rfl (lv_at hl 5 rfl) ?_
                  refine gf_X8_37 hC hW m_8 rfl dX8_entry_279 ?_
                  refine lv_iload_n hx hb dX8_entry_282 rfl (lv_at hl 7 rfl) ?_
                  refine w_iald hC hW m_41 (n := 12) rfl (by first | assumption | exact it_in hM (by assumption) | exact vp_in_c (y := 12) (by decide) (by decide) (by assumption) (by assumption) | (exfalso; contradiction)) dX8_entry_283 ?_
                  refine lv_eqi (y := σ 41 0 t.toNatClampNeg) (by rw [us_k (by decide)]) ?_
                  refine lv_goto (tgt := 289) hx hb dX8_entry_284 (by decide) ?_
                  refine lv_istore (lv' := [(12, .int (σ 41 0 t.toNatClampNeg)), (11, .int (-1)), (10, .int (f_X8_entryOf t b u σ)), (9, .int 1), (8, .int (f_X8_within r (-1) 7)), (7, .int 1), (0, .ref (ad 8 0)), (1, .int k), (2, .int t), (3, .int b), (4, .int u), (5, .int r), (6, .int d)]) hx hb dX8_entry_289 hl (by decide) rfl (fun ls hl => ?_)
                  refine lv_aload_n hx hb dX8_entry_291 rfl (lv_at hl 6 rfl) ?_
                  refine gf_X8_37 hC hW m_8 rfl dX8_entry_292 ?_
                  refine lv_iload_n hx hb dX8_entry_295 rfl (lv_at hl 8 rfl) ?_
                  refine lv_dup2_11 hx hb dX8_entry_296 rfl rfl ?_
                  refine w_iald hC hW m_41 (n := 12) rfl (by first | assumption | exact it_in hM (by assumption) | exact vp_in_c (y := 12) (by decide) (by decide) (by assumption) (by assumption) | (exfalso; contradiction)) dX8_entry_297 ?_
                  refine lv_eqi (y := σ 41 0 t.toNatClampNeg) (by rw [us_k (by decide)]) ?_
                  refine lv_iload hx hb dX8_entry_298 (lv_at hl 2 rfl) ?_
                  refine lv_iconst (v := (-1)) hx hb dX8_entry_300 (by decide) ?_
                  refine lv_icmp_ne (tgt := 308) hx hb dX8_entry_301 (by decide) (fun c => absurd c_6 c) (fun _ => ?_)
                  refine lv_iconst (v := 1) hx hb dX8_entry_304 (by decide) ?_
                  refine lv_goto (tgt := 309) hx hb dX8_entry_305 (by decide) ?_
                  refine lv_iadd hx hb dX8_entry_309 ?_
                  refine w_iast hC hW hS m_41 (n := 12) (fun _ => rfl) (by first | assumption | exact it_in hM (by assumption) | exact vp_in_c (y := 12) (by decide) (by decide) (by assumption) (by assumption) | (exfalso; contradiction)) dX8_entry_310 (fun H locs hW hS => ?_)
                  refine lv_aload_n hx hb dX8_entry_311 rfl (lv_at hl 6 rfl) ?_
                  refine lv_iconst (v := 5) hx hb dX8_entry_312 (by decide) ?_
                  refine lv_iload_n hx hb dX8_entry_313 rfl (lv_at hl 8 rfl) ?_
                  refine lv_imul hx hb dX8_entry_314 ?_
                  refine lv_iload hx hb dX8_entry_315 (lv_at hl 0 rfl) ?_
                  refine lv_iadd hx hb dX8_entry_317 ?_
                  refine lv_iload_n hx hb dX8_entry_318 rfl (lv_at hl 9 rfl) ?_
                  refine lv_iload hx hb dX8_entry_319 (lv_at hl 10 rfl) ?_
                  refine lv_iload hx hb dX8_entry_321 (lv_at hl 11 rfl) ?_
                  refine lv_iload hx hb dX8_entry_323 (lv_at hl 12 rfl) ?_
                  refine w_callV (As := [.int (((5 : Int32) * t) + (σ 41 0 t.toNatClampNeg)), .int b, .int u, .int r, .int d]) (rest := []) (st2 := []) hC hW hS hl cv_X8_162 m_8 (by decide) rfl (c_X8_layEntry l hl9 D ca base ad (us (us σ 8 0 0 0) 41 0 t.toNatClampNeg ((σ 41 0 t.toNatClampNeg) + (1 : Int32))) (((5 : Int32) * t) + (σ 41 0 t.toNatClampNeg)) b u r d (e5_in2 (it_in hM (by assumption)) (mn5 hM (it_in hM (by assumption)) (by assumption))) hb1 hd1) rfl rfl rfl ⟨Nat.le_of_ble_eq_true rfl, Nat.le_of_ble_eq_true rfl⟩ (Nat.le_of_ble_eq_true rfl) dX8_entry_325 ⟨Nat.le_of_ble_eq_true rfl, Nat.le_of_ble_eq_true rfl⟩ (fun H locs hW hS => ?_)
                  refine lv_iload hx hb dX8_entry_328 (lv_at hl 1 rfl) ?_
                  have hO : f_X8_entry k t b u r d σ = ((-1), us (us (us (us (us (us σ 8 0 0 0) 41 0 t.toNatClampNeg ((σ 41 0 t.toNatClampNeg) + (1 : Int32))) 43 0 ((((5 : Int32) * t) + (σ 41 0 t.toNatClampNeg)).toNatClampNeg) b) 42 0 ((((5 : Int32) * t) + (σ 41 0 t.toNatClampNeg)).toNatClampNeg) u) 44 0 ((((5 : Int32) * t) + (σ 41 0 t.toNatClampNeg)).toNatClampNeg) r) 45 0 ((((5 : Int32) * t) + (σ 41 0 t.toNatClampNeg)).toNatClampNeg) d) := by rw [f_X8_entry, if_neg c_1, if_neg c_2, if_neg c_3, if_neg c_4, if_neg c_5, if_pos c_6, if_neg c_9, if_neg c_10]
                  exact w_iretS hC hW hS hO (Nat.le_of_ble_eq_true rfl) (Nat.le_of_ble_eq_true rfl) dX8_entry_330
                · refine lv_iconst (v := 4) hx hb dX8_entry_136 (by decide) ?_
                  refine lv_goto (tgt := 141) hx hb dX8_entry_137 (by decide) ?_
                  refine w_callV (As := [.int 4]) (rest := []) (st2 := .int (f_X8_rf 4) :: []) hC hW hS hl cv_X8_154 m_8 (by decide) rfl (c_X8_refused l hl9 D ca base ad σ 4 ) rfl rfl rfl ⟨Nat.le_of_ble_eq_true rfl, Nat.le_of_ble_eq_true rfl⟩ (Nat.le_of_ble_eq_true rfl) dX8_entry_141 ⟨Nat.le_of_ble_eq_true rfl, Nat.le_of_ble_eq_true rfl⟩ (fun H locs hW hS => ?_)
                  refine lv_eqi (y := 1) (by decide) ?_
                  refine lv_if_eq (tgt := 149) hx hb dX8_entry_144 (by decide) (fun c => absurd c (by decide)) (fun _ => ?_)
                  refine lv_iconst (v := 0) hx hb dX8_entry_147 (by decide) ?_
                  have hO : f_X8_entry k t b u r d σ = (0, us σ 8 0 0 4) := by rw [f_X8_entry, if_neg c_1, if_neg c_2, if_neg c_3, if_neg c_4, if_neg c_5, if_pos c_6, if_neg c_9, if_pos c_10]
                  exact w_iretS hC hW hS hO (Nat.le_of_ble_eq_true rfl) (Nat.le_of_ble_eq_true rfl) dX8_entry_148
theorem fr_f_X8_entry_K188 {kk : Nat}  (k : Int32) (t : Int32) (b : Int32) (u : Int32) (r : Int32) (d : Int32) (y188_11 : Int32) (τ188 : Sg) (h8 : kk ≠ 8) (h41 : kk ≠ 41) (h42 : kk ≠ 42) (h43 : kk ≠ 43) (h44 : kk ≠ 44) (h45 : kk ≠ 45) : (f_X8_entry_K188 k t b u r d y188_11 τ188).2 kk = τ188 kk := by
  rw [f_X8_entry_K188]
  repeat' split
  all_goals (first | (simp only [us_kk, ne_eq, not_false_eq_true, h8, h41, h42, h43, h44, h45]; done) | with_reducible rfl | (simp only [us_kk, ne_eq, not_false_eq_true, h8, h41, h42, h43, h44, h45]; with_reducible rfl))
theorem fr_f_X8_entry_L188 {kk : Nat}  (k : Int32) (t : Int32) (b : Int32) (u : Int32) (r : Int32) (d : Int32) (h8 : kk ≠ 8) (h41 : kk ≠ 41) (h42 : kk ≠ 42) (h43 : kk ≠ 43) (h44 : kk ≠ 44) (h45 : kk ≠ 45) : ∀ (y0 : Nat) (y1 : Nat) (σ : Sg), (f_X8_entry_L188 k t b u r d y0 y1 σ) kk = σ kk := by
  intro y0
  induction y0 with
  | zero => intros; rfl
  | succ n ih =>
    intros
    rw [f_X8_entry_L188]
    repeat' split
    all_goals (first | (simp only [ih, us_kk, ne_eq, not_false_eq_true, h8, h41, h42, h43, h44, h45, fr_f_X8_entry_K188]; done) | with_reducible rfl | (simp only [ih, us_kk, ne_eq, not_false_eq_true, h8, h41, h42, h43, h44, h45, fr_f_X8_entry_K188]; with_reducible rfl))
theorem fr_X8_entry {kk : Nat}  {k : Int32} {t : Int32} {b : Int32} {u : Int32} {r : Int32} {d : Int32} {σ : Sg} (h8 : kk ≠ 8) (h41 : kk ≠ 41) (h42 : kk ≠ 42) (h43 : kk ≠ 43) (h44 : kk ≠ 44) (h45 : kk ≠ 45) : (f_X8_entry k t b u r d σ).2 kk = σ kk := by
  rw [f_X8_entry]
  repeat' split
  all_goals (first | (simp only [us_kk, ne_eq, not_false_eq_true, h8, h41, h42, h43, h44, h45, fr_f_X8_entry_K188, fr_f_X8_entry_L188]; done) | with_reducible rfl | (simp only [us_kk, ne_eq, not_false_eq_true, h8, h41, h42, h43, h44, h45, fr_f_X8_entry_K188, fr_f_X8_entry_L188]; with_reducible rfl))
theorem fs_f_X8_entry_K188 {jj : Nat}  (k : Int32) (t : Int32) (b : Int32) (u : Int32) (r : Int32) (d : Int32) (y188_11 : Int32) (τ188 : Sg) (h0 : jj ≠ 0) : (f_X8_entry_K188 k t b u r d y188_11 τ188).2 8 0 jj = τ188 8 0 jj := by
  rw [f_X8_entry_K188]
  repeat' split
  all_goals (first | with_reducible rfl | (simp [us_k, us_j, ne_eq, not_false_eq_true, h0]; done))
theorem fs_f_X8_entry_L188 {jj : Nat}  (k : Int32) (t : Int32) (b : Int32) (u : Int32) (r : Int32) (d : Int32) (h0 : jj ≠ 0) : ∀ (y0 : Nat) (y1 : Nat) (σ : Sg), (f_X8_entry_L188 k t b u r d y0 y1 σ) 8 0 jj = σ 8 0 jj := by
  intro y0
  induction y0 with
  | zero => intros; rfl
  | succ n ih =>
    intros
    rw [f_X8_entry_L188]
    repeat' split
    all_goals (first | with_reducible rfl | (simp [ih, us_k, us_j, ne_eq, not_false_eq_true, h0, fs_f_X8_entry_K188]; done))
theorem fs_X8_entry {jj : Nat}  {k : Int32} {t : Int32} {b : Int32} {u : Int32} {r : Int32} {d : Int32} {σ : Sg} (h0 : jj ≠ 0) : (f_X8_entry k t b u r d σ).2 8 0 jj = σ 8 0 jj := by
  rw [f_X8_entry]
  repeat' split
  all_goals (first | with_reducible rfl | (simp [us_k, us_j, ne_eq, not_false_eq_true, h0, fs_f_X8_entry_K188, fs_f_X8_entry_L188]; done))
