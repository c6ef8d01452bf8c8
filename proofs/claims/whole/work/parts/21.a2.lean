def f_X3_rightsOf (d : Int32) (t : Int32) (σ : Sg) : Int32 :=
  if (f_X3_isCell d t) = 0 then 0
  else σ 16 0 (((d * (4 : Int32)) + t).toNatClampNeg)
theorem rc_in {d t : Int32} (h : ¬ f_X3_isCell d t = 0) : vp_in ((d * (4 : Int32)) + t) 16 := by
  unfold f_X3_isCell at h
  split at h
  · exact absurd rfl h
  · split at h
    · exact absurd rfl h
    · split at h
      · exact absurd rfl h
      · split at h
        · exact absurd rfl h
        · rename_i h1 h2 h3 h4
          obtain ⟨a, ha, rfl⟩ := vp_in_of (vp_in_c (y := 4) (n := 4) (by decide) (by decide) h1 h2) (by decide)
          obtain ⟨b, hb, rfl⟩ := vp_in_of (vp_in_c (y := 4) (n := 4) (by decide) (by decide) h3 h4) (by decide)
          rw [show (4 : Int32) = nI 4 from rfl, pk_mul, nI_add]
          exact vp_in_nI (by omega) (by decide)
set_option maxHeartbeats 4000000 in
set_option maxRecDepth 100000 in
theorem c_X3_rightsOf (l : Launch) (hl9 : l.stackTraces = false) (D : va_G) (ca : Nat → ClassId) (base : Nat) (ad : Adr) (σ : Sg) (d : Int32) (t : Int32)  : Mt l yX3_rightsOf cX3_rightsOf 3 (some .int) { frames := 1, cells := 0, slots := 0, locals := 21 } D ca base ad ρm Lm [.ref (ad 3 0), .int d, .int t] σ (some (.int (f_X3_rightsOf d t σ))) σ := by
  refine w_ofW (by decide) (Nat.le_of_ble_eq_true rfl) rfl ?_
  intro p e s m args below meth c hC hW hS ls hl hin
  have hx := hC.1
  have hb := hC.2.1
  refine lv_iload_n hx hb dX3_rightsOf_0 rfl (lv_at hl 1 rfl) ?_
  refine lv_iload_n hx hb dX3_rightsOf_1 rfl (lv_at hl 2 rfl) ?_
  refine w_callS (As := [.int d, .int t]) (rest := []) (st2 := .int (f_X3_isCell d t) :: []) hC hW hS hl cs_X3_18 (c_X3_isCell l hl9 D ca base ad σ d t ) rfl rfl rfl ⟨Nat.le_of_ble_eq_true rfl, Nat.le_of_ble_eq_true rfl⟩ (Nat.le_of_ble_eq_true rfl) dX3_rightsOf_2 ⟨Nat.le_of_ble_eq_true rfl, Nat.le_of_ble_eq_true rfl⟩ (fun H locs hW hS => ?_)
  refine lv_if_eq (tgt := 21) hx hb dX3_rightsOf_5 (by decide) (fun c_1 => ?_) (fun c_1 => ?_)
  · refine lv_iconst (v := 0) hx hb dX3_rightsOf_21 (by decide) ?_
    have hO : f_X3_rightsOf d t σ = 0 := by rw [f_X3_rightsOf, if_pos c_1]
    exact w_iretP hC hW hS hO (Nat.le_of_ble_eq_true rfl) (Nat.le_of_ble_eq_true rfl) dX3_rightsOf_22
  · refine lv_aload_n hx hb dX3_rightsOf_8 rfl (lv_at hl 0 rfl) ?_
    refine gf_X3_9 hC hW m_3 rfl dX3_rightsOf_9 ?_
    refine lv_iload_n hx hb dX3_rightsOf_12 rfl (lv_at hl 1 rfl) ?_
    refine lv_iconst (v := 4) hx hb dX3_rightsOf_13 (by decide) ?_
    refine lv_imul hx hb dX3_rightsOf_14 ?_
    refine lv_iload_n hx hb dX3_rightsOf_15 rfl (lv_at hl 2 rfl) ?_
    refine lv_iadd hx hb dX3_rightsOf_16 ?_
    refine w_iald hC hW m_16 (n := 16) rfl (rc_in (by assumption)) dX3_rightsOf_17 ?_
    refine lv_goto (tgt := 22) hx hb dX3_rightsOf_18 (by decide) ?_
    have hO : f_X3_rightsOf d t σ = σ 16 0 (((d * (4 : Int32)) + t).toNatClampNeg) := by rw [f_X3_rightsOf, if_neg c_1]
    exact w_iretP hC hW hS hO (Nat.le_of_ble_eq_true rfl) (Nat.le_of_ble_eq_true rfl) dX3_rightsOf_22
def f_X3_moveOf (d : Int32) (t : Int32) (σ : Sg) : Int32 :=
  if (f_X3_isCell d t) = 0 then (-1)
  else σ 17 0 (((d * (4 : Int32)) + t).toNatClampNeg)
set_option maxHeartbeats 4000000 in
set_option maxRecDepth 100000 in
theorem c_X3_moveOf (l : Launch) (hl9 : l.stackTraces = false) (D : va_G) (ca : Nat → ClassId) (base : Nat) (ad : Adr) (σ : Sg) (d : Int32) (t : Int32)  : Mt l yX3_moveOf cX3_moveOf 3 (some .int) { frames := 1, cells := 0, slots := 0, locals := 21 } D ca base ad ρm Lm [.ref (ad 3 0), .int d, .int t] σ (some (.int (f_X3_moveOf d t σ))) σ := by
  refine w_ofW (by decide) (Nat.le_of_ble_eq_true rfl) rfl ?_
  intro p e s m args below meth c hC hW hS ls hl hin
  have hx := hC.1
  have hb := hC.2.1
  refine lv_iload_n hx hb dX3_moveOf_0 rfl (lv_at hl 1 rfl) ?_
  refine lv_iload_n hx hb dX3_moveOf_1 rfl (lv_at hl 2 rfl) ?_
  refine w_callS (As := [.int d, .int t]) (rest := []) (st2 := .int (f_X3_isCell d t) :: []) hC hW hS hl cs_X3_18 (c_X3_isCell l hl9 D ca base ad σ d t ) rfl rfl rfl ⟨Nat.le_of_ble_eq_true rfl, Nat.le_of_ble_eq_true rfl⟩ (Nat.le_of_ble_eq_true rfl) dX3_moveOf_2 ⟨Nat.le_of_ble_eq_true rfl, Nat.le_of_ble_eq_true rfl⟩ (fun H locs hW hS => ?_)
  refine lv_if_eq (tgt := 21) hx hb dX3_moveOf_5 (by decide) (fun c_1 => ?_) (fun c_1 => ?_)
  · refine lv_iconst (v := (-1)) hx hb dX3_moveOf_21 (by decide) ?_
    have hO : f_X3_moveOf d t σ = (-1) := by rw [f_X3_moveOf, if_pos c_1]
    exact w_iretP hC hW hS hO (Nat.le_of_ble_eq_true rfl) (Nat.le_of_ble_eq_true rfl) dX3_moveOf_22
  · refine lv_aload_n hx hb dX3_moveOf_8 rfl (lv_at hl 0 rfl) ?_
    refine gf_X3_15 hC hW m_3 rfl dX3_moveOf_9 ?_
    refine lv_iload_n hx hb dX3_moveOf_12 rfl (lv_at hl 1 rfl) ?_
    refine lv_iconst (v := 4) hx hb dX3_moveOf_13 (by decide) ?_
    refine lv_imul hx hb dX3_moveOf_14 ?_
    refine lv_iload_n hx hb dX3_moveOf_15 rfl (lv_at hl 2 rfl) ?_
    refine lv_iadd hx hb dX3_moveOf_16 ?_
    refine w_iald hC hW m_17 (n := 16) rfl (rc_in (by assumption)) dX3_moveOf_17 ?_
    refine lv_goto (tgt := 22) hx hb dX3_moveOf_18 (by decide) ?_
    have hO : f_X3_moveOf d t σ = σ 17 0 (((d * (4 : Int32)) + t).toNatClampNeg) := by rw [f_X3_moveOf, if_neg c_1]
    exact w_iretP hC hW hS hO (Nat.le_of_ble_eq_true rfl) (Nat.le_of_ble_eq_true rfl) dX3_moveOf_22

def s_X3_setRights (d : Int32) (t : Int32) (v : Int32) (σ : Sg) : Sg :=
  if (f_X3_isCell d t) = 0 then σ
  else us σ 16 0 (((d * (4 : Int32)) + t).toNatClampNeg) v
set_option maxHeartbeats 4000000 in
set_option maxRecDepth 100000 in
theorem c_X3_setRights (l : Launch) (hl9 : l.stackTraces = false) (D : va_G) (ca : Nat → ClassId) (base : Nat) (ad : Adr) (σ : Sg) (d : Int32) (t : Int32) (v : Int32)  : Mt l yX3_setRights cX3_setRights 4 none { frames := 1, cells := 0, slots := 0, locals := 21 } D ca base ad ρm Lm [.ref (ad 3 0), .int d, .int t, .int v] σ none (s_X3_setRights d t v σ) := by
  refine w_ofW (by decide) (Nat.le_of_ble_eq_true rfl) rfl ?_
  intro p e s m args below meth c hC hW hS ls hl hin
  have hx := hC.1
  have hb := hC.2.1
  refine lv_iload_n hx hb dX3_setRights_0 rfl (lv_at hl 1 rfl) ?_
  refine lv_iload_n hx hb dX3_setRights_1 rfl (lv_at hl 2 rfl) ?_
  refine w_callS (As := [.int d, .int t]) (rest := []) (st2 := .int (f_X3_isCell d t) :: []) hC hW hS hl cs_X3_18 (c_X3_isCell l hl9 D ca base ad σ d t ) rfl rfl rfl ⟨Nat.le_of_ble_eq_true rfl, Nat.le_of_ble_eq_true rfl⟩ (Nat.le_of_ble_eq_true rfl) dX3_setRights_2 ⟨Nat.le_of_ble_eq_true rfl, Nat.le_of_ble_eq_true rfl⟩ (fun H locs hW hS => ?_)
  refine lv_if_eq (tgt := 19) hx hb dX3_setRights_5 (by decide) (fun c_1 => ?_) (fun c_1 => ?_)
  · have hO : s_X3_setRights d t v σ = σ := by rw [s_X3_setRights, if_pos c_1]
    exact w_vretV hC hW hS hO (Nat.le_of_ble_eq_true rfl) (Nat.le_of_ble_eq_true rfl) dX3_setRights_19
  · refine lv_aload_n hx hb dX3_setRights_8 rfl (lv_at hl 0 rfl) ?_
    refine gf_X3_9 hC hW m_3 rfl dX3_setRights_9 ?_
    refine lv_iload_n hx hb dX3_setRights_12 rfl (lv_at hl 1 rfl) ?_
    refine lv_iconst (v := 4) hx hb dX3_setRights_13 (by decide) ?_
    refine lv_imul hx hb dX3_setRights_14 ?_
    refine lv_iload_n hx hb dX3_setRights_15 rfl (lv_at hl 2 rfl) ?_
    refine lv_iadd hx hb dX3_setRights_16 ?_
    refine lv_iload_n hx hb dX3_setRights_17 rfl (lv_at hl 3 rfl) ?_
    refine w_iast hC hW hS m_16 (n := 16) (fun _ => rfl) (rc_in (by assumption)) dX3_setRights_18 (fun H locs hW hS => ?_)
    have hO : s_X3_setRights d t v σ = us σ 16 0 (((d * (4 : Int32)) + t).toNatClampNeg) v := by rw [s_X3_setRights, if_neg c_1]
    exact w_vretV hC hW hS hO (Nat.le_of_ble_eq_true rfl) (Nat.le_of_ble_eq_true rfl) dX3_setRights_19
theorem fr_X3_setRights {kk : Nat}  {d : Int32} {t : Int32} {v : Int32} {σ : Sg} (h16 : kk ≠ 16) : (s_X3_setRights d t v σ) kk = σ kk := by
  rw [s_X3_setRights]
  repeat' split
  all_goals (first | (simp only [us_kk, ne_eq, not_false_eq_true, h16]; done) | with_reducible rfl | (simp only [us_kk, ne_eq, not_false_eq_true, h16]; with_reducible rfl))

def s_X3_setMove (d : Int32) (t : Int32) (v : Int32) (σ : Sg) : Sg :=
  if (f_X3_isCell d t) = 0 then σ
  else us σ 17 0 (((d * (4 : Int32)) + t).toNatClampNeg) v
set_option maxHeartbeats 4000000 in
set_option maxRecDepth 100000 in
theorem c_X3_setMove (l : Launch) (hl9 : l.stackTraces = false) (D : va_G) (ca : Nat → ClassId) (base : Nat) (ad : Adr) (σ : Sg) (d : Int32) (t : Int32) (v : Int32)  : Mt l yX3_setMove cX3_setMove 4 none { frames := 1, cells := 0, slots := 0, locals := 21 } D ca base ad ρm Lm [.ref (ad 3 0), .int d, .int t, .int v] σ none (s_X3_setMove d t v σ) := by
  refine w_ofW (by decide) (Nat.le_of_ble_eq_true rfl) rfl ?_
  intro p e s m args below meth c hC hW hS ls hl hin
  have hx := hC.1
  have hb := hC.2.1
  refine lv_iload_n hx hb dX3_setMove_0 rfl (lv_at hl 1 rfl) ?_
  refine lv_iload_n hx hb dX3_setMove_1 rfl (lv_at hl 2 rfl) ?_
  refine w_callS (As := [.int d, .int t]) (rest := []) (st2 := .int (f_X3_isCell d t) :: []) hC hW hS hl cs_X3_18 (c_X3_isCell l hl9 D ca base ad σ d t ) rfl rfl rfl ⟨Nat.le_of_ble_eq_true rfl, Nat.le_of_ble_eq_true rfl⟩ (Nat.le_of_ble_eq_true rfl) dX3_setMove_2 ⟨Nat.le_of_ble_eq_true rfl, Nat.le_of_ble_eq_true rfl⟩ (fun H locs hW hS => ?_)
  refine lv_if_eq (tgt := 19) hx hb dX3_setMove_5 (by decide) (fun c_1 => ?_) (fun c_1 => ?_)
  · have hO : s_X3_setMove d t v σ = σ := by rw [s_X3_setMove, if_pos c_1]
    exact w_vretV hC hW hS hO (Nat.le_of_ble_eq_true rfl) (Nat.le_of_ble_eq_true rfl) dX3_setMove_19
  · refine lv_aload_n hx hb dX3_setMove_8 rfl (lv_at hl 0 rfl) ?_
    refine gf_X3_15 hC hW m_3 rfl dX3_setMove_9 ?_
    refine lv_iload_n hx hb dX3_setMove_12 rfl (lv_at hl 1 rfl) ?_
    refine lv_iconst (v := 4) hx hb dX3_setMove_13 (by decide) ?_
    refine lv_imul hx hb dX3_setMove_14 ?_
    refine lv_iload_n hx hb dX3_setMove_15 rfl (lv_at hl 2 rfl) ?_
    refine lv_iadd hx hb dX3_setMove_16 ?_
    refine lv_iload_n hx hb dX3_setMove_17 rfl (lv_at hl 3 rfl) ?_
    refine w_iast hC hW hS m_17 (n := 16) (fun _ => rfl) (rc_in (by assumption)) dX3_setMove_18 (fun H locs hW hS => ?_)
    have hO : s_X3_setMove d t v σ = us σ 17 0 (((d * (4 : Int32)) + t).toNatClampNeg) v := by rw [s_X3_setMove, if_neg c_1]
    exact w_vretV hC hW hS hO (Nat.le_of_ble_eq_true rfl) (Nat.le_of_ble_eq_true rfl) dX3_setMove_19
theorem fr_X3_setMove {kk : Nat}  {d : Int32} {t : Int32} {v : Int32} {σ : Sg} (h17 : kk ≠ 17) : (s_X3_setMove d t v σ) kk = σ kk := by
  rw [s_X3_setMove]
  repeat' split
  all_goals (first | (simp only [us_kk, ne_eq, not_false_eq_true, h17]; done) | with_reducible rfl | (simp only [us_kk, ne_eq, not_false_eq_true, h17]; with_reducible rfl))
/-- the log's ring: where it begins, how many there are -/
def LogInv (σ : Sg) : Prop := ∃ a b : Nat, a < 20 ∧ b ≤ 20 ∧ σ 1 0 1 = nI a ∧ σ 1 0 2 = nI b
def f_X1_isCell (x : Int32) (w : Int32) (σ : Sg) : Int32 :=
  if x < 0 then 0
  else if (σ 1 0 2) ≤ x then 0
  else if w < 0 then 0
  else if 6 ≤ w then 0
  else 1
set_option maxHeartbeats 4000000 in
set_option maxRecDepth 100000 in
theorem c_X1_isCell (l : Launch) (hl9 : l.stackTraces = false) (D : va_G) (ca : Nat → ClassId) (base : Nat) (ad : Adr) (σ : Sg) (x : Int32) (w : Int32)  : Mt l yX1_isCell cX1_isCell 3 (some .boolean) { frames := 0, cells := 0, slots := 0, locals := 0 } D ca base ad ρm Lm [.ref (ad 1 0), .int x, .int w] σ (some (.int (f_X1_isCell x w σ))) σ := by
  refine w_ofW (by decide) (Nat.le_of_ble_eq_true rfl) rfl ?_
  intro p e s m args below meth c hC hW hS ls hl hin
  have hx := hC.1
  have hb := hC.2.1
  refine lv_iload_n hx hb dX1_isCell_0 rfl (lv_at hl 1 rfl) ?_
  refine lv_if_lt (tgt := 26) hx hb dX1_isCell_1 (by decide) (fun c_1 => ?_) (fun c_1 => ?_)
  · refine lv_iconst (v := 0) hx hb dX1_isCell_26 (by decide) ?_
    have hO : f_X1_isCell x w σ = 0 := by rw [f_X1_isCell, if_pos c_1]
    exact w_zretP hC hW hS (by decide) hO (Nat.le_of_ble_eq_true rfl) (Nat.le_of_ble_eq_true rfl) dX1_isCell_27
  · refine lv_iload_n hx hb dX1_isCell_4 rfl (lv_at hl 1 rfl) ?_
    refine lv_aload_n hx hb dX1_isCell_5 rfl (lv_at hl 0 rfl) ?_
    refine gf_X1_19 hC hW m_1 dX1_isCell_6 ?_
    refine lv_icmp_ge (tgt := 26) hx hb dX1_isCell_9 (by decide) (fun c_2 => ?_) (fun c_2 => ?_)
    · refine lv_iconst (v := 0) hx hb dX1_isCell_26 (by decide) ?_
      have hO : f_X1_isCell x w σ = 0 := by rw [f_X1_isCell, if_neg c_1, if_pos c_2]
      exact w_zretP hC hW hS (by decide) hO (Nat.le_of_ble_eq_true rfl) (Nat.le_of_ble_eq_true rfl) dX1_isCell_27
    · refine lv_iload_n hx hb dX1_isCell_12 rfl (lv_at hl 2 rfl) ?_
      refine lv_if_lt (tgt := 26) hx hb dX1_isCell_13 (by decide) (fun c_3 => ?_) (fun c_3 => ?_)
      · refine lv_iconst (v := 0) hx hb dX1_isCell_26 (by decide) ?_
        have hO : f_X1_isCell x w σ = 0 := by rw [f_X1_isCell, if_neg c_1, if_neg c_2, if_pos c_3]
        exact w_zretP hC hW hS (by decide) hO (Nat.le_of_ble_eq_true rfl) (Nat.le_of_ble_eq_true rfl) dX1_isCell_27
      · refine lv_iload_n hx hb dX1_isCell_16 rfl (lv_at hl 2 rfl) ?_
        refine lv_bipush (v := 6) hx hb dX1_isCell_17 (by decide) ?_
        refine lv_icmp_ge (tgt := 26) hx hb dX1_isCell_19 (by decide) (fun c_4 => ?_) (fun c_4 => ?_)
        · refine lv_iconst (v := 0) hx hb dX1_isCell_26 (by decide) ?_
          have hO : f_X1_isCell x w σ = 0 := by rw [f_X1_isCell, if_neg c_1, if_neg c_2, if_neg c_3, if_pos c_4]
          exact w_zretP hC hW hS (by decide) hO (Nat.le_of_ble_eq_true rfl) (Nat.le_of_ble_eq_true rfl) dX1_isCell_27
        · refine lv_iconst (v := 1) hx hb dX1_isCell_22 (by decide) ?_
          refine lv_goto (tgt := 27) hx hb dX1_isCell_23 (by decide) ?_
          have hO : f_X1_isCell x w σ = 1 := by rw [f_X1_isCell, if_neg c_1, if_neg c_2, if_neg c_3, if_neg c_4]
          exact w_zretP hC hW hS (by decide) hO (Nat.le_of_ble_eq_true rfl) (Nat.le_of_ble_eq_true rfl) dX1_isCell_27
theorem bb_X1_isCell {x : Int32} {w : Int32} {σ : Sg} : f_X1_isCell x w σ &&& 1 = f_X1_isCell x w σ := by
  rw [f_X1_isCell]
  repeat' split
  all_goals first | decide

def f_X1_cellOf (x : Int32) (w : Int32) (σ : Sg) : Int32 :=
  ((((σ 1 0 1) + x) - ((σ 1 0 1) + x) / (20 : Int32) * (20 : Int32)) * (6 : Int32)) + w
set_option maxHeartbeats 4000000 in
set_option maxRecDepth 100000 in
theorem c_X1_cellOf (l : Launch) (hl9 : l.stackTraces = false) (D : va_G) (ca : Nat → ClassId) (base : Nat) (ad : Adr) (σ : Sg) (x : Int32) (w : Int32)  : Mt l yX1_cellOf cX1_cellOf 3 (some .int) { frames := 0, cells := 0, slots := 0, locals := 0 } D ca base ad ρm Lm [.ref (ad 1 0), .int x, .int w] σ (some (.int (f_X1_cellOf x w σ))) σ := by
  refine w_ofW (by decide) (Nat.le_of_ble_eq_true rfl) rfl ?_
  intro p e s m args below meth c hC hW hS ls hl hin
  have hx := hC.1
  have hb := hC.2.1
  refine lv_aload_n hx hb dX1_cellOf_0 rfl (lv_at hl 0 rfl) ?_
  refine gf_X1_26 hC hW m_1 dX1_cellOf_1 ?_
  refine lv_iload_n hx hb dX1_cellOf_4 rfl (lv_at hl 1 rfl) ?_
  refine lv_iadd hx hb dX1_cellOf_5 ?_
  refine lv_bipush (v := 20) hx hb dX1_cellOf_6 (by decide) ?_
  refine lv_irem hx hb dX1_cellOf_8 (by decide) ?_
  refine lv_bipush (v := 6) hx hb dX1_cellOf_9 (by decide) ?_
  refine lv_imul hx hb dX1_cellOf_11 ?_
  refine lv_iload_n hx hb dX1_cellOf_12 rfl (lv_at hl 2 rfl) ?_
  refine lv_iadd hx hb dX1_cellOf_13 ?_
  have hO : f_X1_cellOf x w σ = ((((σ 1 0 1) + x) - ((σ 1 0 1) + x) / (20 : Int32) * (20 : Int32)) * (6 : Int32)) + w := by rw [f_X1_cellOf]
  exact w_iretP hC hW hS hO (Nat.le_of_ble_eq_true rfl) (Nat.le_of_ble_eq_true rfl) dX1_cellOf_14
theorem cell_in {σ : Sg} {x t : Int32} (hI : LogInv σ) (h : ¬ f_X1_isCell x t σ = 0) : vp_in (f_X1_cellOf x t σ) 120 := by
  obtain ⟨a, b, ha, hb, h1, h2⟩ := hI
  unfold f_X1_isCell at h
  split at h
  · exact absurd rfl h
  · split at h
    · exact absurd rfl h
    · split at h
      · exact absurd rfl h
      · split at h
        · exact absurd rfl h
        · rename_i c1 c2 c3 c4
          rw [h2] at c2
          obtain ⟨j, hj, rfl⟩ := vp_in_of (vp_in_c (n := b) rfl (by omega) c1 c2) (by omega)
          obtain ⟨w, hw, rfl⟩ := vp_in_of (vp_in_c (y := 6) (n := 6) (by decide) (by decide) c3 c4) (by decide)
          unfold f_X1_cellOf
          rw [h1, nI_add, show (20 : Int32) = nI 20 from rfl, pk_rem (by omega) (by decide) (by decide), show (6 : Int32) = nI 6 from rfl, pk_mul, nI_add]
          have := Nat.mod_lt (a + j) (show 0 < 20 by decide)
          exact vp_in_nI (by omega) (by decide)
def f_X1_read (x : Int32) (w : Int32) (σ : Sg) : Int32 :=
  if (f_X1_isCell x w σ) = 0 then (-1)
  else σ 11 0 ((f_X1_cellOf x w σ).toNatClampNeg)
set_option maxHeartbeats 4000000 in
set_option maxRecDepth 100000 in
theorem c_X1_read (l : Launch) (hl9 : l.stackTraces = false) (D : va_G) (ca : Nat → ClassId) (base : Nat) (ad : Adr) (σ : Sg) (x : Int32) (w : Int32) (hI : LogInv σ) : Mt l yX1_read cX1_read 3 (some .int) { frames := 1, cells := 0, slots := 0, locals := 22 } D ca base ad ρm Lm [.ref (ad 1 0), .int x, .int w] σ (some (.int (f_X1_read x w σ))) σ := by
  refine w_ofW (by decide) (Nat.le_of_ble_eq_true rfl) rfl ?_
  intro p e s m args below meth c hC hW hS ls hl hin
  have hx := hC.1
  have hb := hC.2.1
  refine lv_aload_n hx hb dX1_read_0 rfl (lv_at hl 0 rfl) ?_
  refine lv_iload_n hx hb dX1_read_1 rfl (lv_at hl 1 rfl) ?_
  refine lv_iload_n hx hb dX1_read_2 rfl (lv_at hl 2 rfl) ?_
  refine w_callV (As := [.int x, .int w]) (rest := []) (st2 := .int (f_X1_isCell x w σ) :: []) hC hW hS hl cv_X1_39 m_1 (by decide) rfl (c_X1_isCell l hl9 D ca base ad σ x w ) rfl rfl rfl ⟨Nat.le_of_ble_eq_true rfl, Nat.le_of_ble_eq_true rfl⟩ (Nat.le_of_ble_eq_true rfl) dX1_read_3 ⟨Nat.le_of_ble_eq_true rfl, Nat.le_of_ble_eq_true rfl⟩ (fun H locs hW hS => ?_)
  refine lv_if_eq (tgt := 23) hx hb dX1_read_6 (by decide) (fun c_1 => ?_) (fun c_1 => ?_)
  · refine lv_iconst (v := (-1)) hx hb dX1_read_23 (by decide) ?_
    have hO : f_X1_read x w σ = (-1) := by rw [f_X1_read, if_pos c_1]
    exact w_iretP hC hW hS hO (Nat.le_of_ble_eq_true rfl) (Nat.le_of_ble_eq_true rfl) dX1_read_24
  · refine lv_aload_n hx hb dX1_read_9 rfl (lv_at hl 0 rfl) ?_
    refine gf_X1_11 hC hW m_1 rfl dX1_read_10 ?_
    refine lv_aload_n hx hb dX1_read_13 rfl (lv_at hl 0 rfl) ?_
    refine lv_iload_n hx hb dX1_read_14 rfl (lv_at hl 1 rfl) ?_
    refine lv_iload_n hx hb dX1_read_15 rfl (lv_at hl 2 rfl) ?_
    refine w_callV (As := [.int x, .int w]) (rest := .ref (ad 11 0) :: []) (st2 := .int (f_X1_cellOf x w σ) :: .ref (ad 11 0) :: []) hC hW hS hl cv_X1_43 m_1 (by decide) rfl (c_X1_cellOf l hl9 D ca base ad σ x w ) rfl rfl rfl ⟨Nat.le_of_ble_eq_true rfl, Nat.le_of_ble_eq_true rfl⟩ (Nat.le_of_ble_eq_true rfl) dX1_read_16 ⟨Nat.le_of_ble_eq_true rfl, Nat.le_of_ble_eq_true rfl⟩ (fun H locs hW hS => ?_)
    refine w_iald hC hW m_11 (n := 120) rfl (cell_in hI (by assumption)) dX1_read_19 ?_
    refine lv_goto (tgt := 24) hx hb dX1_read_20 (by decide) ?_
    have hO : f_X1_read x w σ = σ 11 0 ((f_X1_cellOf x w σ).toNatClampNeg) := by rw [f_X1_read, if_neg c_1]
    exact w_iretP hC hW hS hO (Nat.le_of_ble_eq_true rfl) (Nat.le_of_ble_eq_true rfl) dX1_read_24

def s_X1_write (x : Int32) (w : Int32) (v : Int32) (σ : Sg) : Sg :=
  if (f_X1_isCell x w σ) = 0 then σ
  else us σ 11 0 ((f_X1_cellOf x w σ).toNatClampNeg) v
set_option maxHeartbeats 4000000 in
set_option maxRecDepth 100000 in
theorem c_X1_write (l : Launch) (hl9 : l.stackTraces = false) (D : va_G) (ca : Nat → ClassId) (base : Nat) (ad : Adr) (σ : Sg) (x : Int32) (w : Int32) (v : Int32) (hI : LogInv σ) : Mt l yX1_write cX1_write 4 none { frames := 1, cells := 0, slots := 0, locals := 22 } D ca base ad ρm Lm [.ref (ad 1 0), .int x, .int w, .int v] σ none (s_X1_write x w v σ) := by
  refine w_ofW (by decide) (Nat.le_of_ble_eq_true rfl) rfl ?_
  intro p e s m args below meth c hC hW hS ls hl hin
  have hx := hC.1
  have hb := hC.2.1
  refine lv_aload_n hx hb dX1_write_0 rfl (lv_at hl 0 rfl) ?_
  refine lv_iload_n hx hb dX1_write_1 rfl (lv_at hl 1 rfl) ?_
  refine lv_iload_n hx hb dX1_write_2 rfl (lv_at hl 2 rfl) ?_
  refine w_callV (As := [.int x, .int w]) (rest := []) (st2 := .int (f_X1_isCell x w σ) :: []) hC hW hS hl cv_X1_39 m_1 (by decide) rfl (c_X1_isCell l hl9 D ca base ad σ x w ) rfl rfl rfl ⟨Nat.le_of_ble_eq_true rfl, Nat.le_of_ble_eq_true rfl⟩ (Nat.le_of_ble_eq_true rfl) dX1_write_3 ⟨Nat.le_of_ble_eq_true rfl, Nat.le_of_ble_eq_true rfl⟩ (fun H locs hW hS => ?_)
  refine lv_if_eq (tgt := 21) hx hb dX1_write_6 (by decide) (fun c_1 => ?_) (fun c_1 => ?_)
  · have hO : s_X1_write x w v σ = σ := by rw [s_X1_write, if_pos c_1]
    exact w_vretV hC hW hS hO (Nat.le_of_ble_eq_true rfl) (Nat.le_of_ble_eq_true rfl) dX1_write_21
  · refine lv_aload_n hx hb dX1_write_9 rfl (lv_at hl 0 rfl) ?_
    refine gf_X1_11 hC hW m_1 rfl dX1_write_10 ?_
    refine lv_aload_n hx hb dX1_write_13 rfl (lv_at hl 0 rfl) ?_
    refine lv_iload_n hx hb dX1_write_14 rfl (lv_at hl 1 rfl) ?_
    refine lv_iload_n hx hb dX1_write_15 rfl (lv_at hl 2 rfl) ?_
    refine w_callV (As := [.int x, .int w]) (rest := .ref (ad 11 0) :: []) (st2 := .int (f_X1_cellOf x w σ) :: .ref (ad 11 0) :: []) hC hW hS hl cv_X1_43 m_1 (by decide) rfl (c_X1_cellOf l hl9 D ca base ad σ x w ) rfl rfl rfl ⟨Nat.le_of_ble_eq_true rfl, Nat.le_of_ble_eq_true rfl⟩ (Nat.le_of_ble_eq_true rfl) dX1_write_16 ⟨Nat.le_of_ble_eq_true rfl, Nat.le_of_ble_eq_true rfl⟩ (fun H locs hW hS => ?_)
    refine lv_iload_n hx hb dX1_write_19 rfl (lv_at hl 3 rfl) ?_
    refine w_iast hC hW hS m_11 (n := 120) (fun _ => rfl) (cell_in hI (by assumption)) dX1_write_20 (fun H locs hW hS => ?_)
    have hO : s_X1_write x w v σ = us σ 11 0 ((f_X1_cellOf x w σ).toNatClampNeg) v := by rw [s_X1_write, if_neg c_1]
    exact w_vretV hC hW hS hO (Nat.le_of_ble_eq_true rfl) (Nat.le_of_ble_eq_true rfl) dX1_write_21
theorem fr_X1_write {kk : Nat}  {x : Int32} {w : Int32} {v : Int32} {σ : Sg} (h11 : kk ≠ 11) : (s_X1_write x w v σ) kk = σ kk := by
  rw [s_X1_write]
  repeat' split
  all_goals (first | (simp only [us_kk, ne_eq, not_false_eq_true, h11]; done) | with_reducible rfl | (simp only [us_kk, ne_eq, not_false_eq_true, h11]; with_reducible rfl))
theorem li_w {σ : Sg} {x w v : Int32} (h : LogInv σ) : LogInv (s_X1_write x w v σ) := by
  unfold s_X1_write
  split
  · exact h
  · obtain ⟨a, b, h1, h2, h3, h4⟩ := h
    exact ⟨a, b, h1, h2, by rw [us_k (by decide)]; exact h3, by rw [us_k (by decide)]; exact h4⟩
theorem li_one {σ : Sg} (h : LogInv σ) (c : ¬ σ 1 0 2 = 20) : LogInv (us σ 1 0 2 (σ 1 0 2 + 1)) := by
  obtain ⟨a, b, h1, h2, h3, h4⟩ := h
  have hb : b ≠ 20 := fun q => c (by rw [h4, q]; rfl)
  exact ⟨a, b + 1, h1, by omega, by rw [us_j (by decide)]; exact h3, by rw [us_h, h4, nI_1]⟩
theorem li_full {σ : Sg} (h : LogInv σ) (c : σ 1 0 2 = 20) (x y : Int32) : LogInv (us (us (us (us (us σ 1 0 4 x) 1 0 1 ((σ 1 0 1 + 1) - (σ 1 0 1 + 1) / 20 * 20)) 1 0 2 (σ 1 0 2 - 1)) 1 0 3 y) 1 0 2 ((σ 1 0 2 - 1) + 1)) := by
  obtain ⟨a, b, h1, h2, h3, h4⟩ := h
  refine ⟨(a + 1) % 20, 20, Nat.mod_lt _ (by decide), Nat.le_refl _, ?_, by rw [us_h, c]; decide⟩
  rw [us_j (by decide), us_j (by decide), us_j (by decide), us_h, h3, nI_1, show (20 : Int32) = nI 20 from rfl, pk_rem (by omega) (by decide) (by decide)]
theorem li_cnt {σ : Sg} (h : LogInv σ) {k : Nat} (hk : k ≤ 20) (c : ¬ σ 1 0 2 ≤ nI k) : k < 20 := by
  obtain ⟨a, b, h1, h2, h3, h4⟩ := h
  exact idx_lt4 c h4 h2 (by decide) hk
def f_X1_checkAfter_L8 (a : Int32) (x : Int32) : Nat → Nat → Int32 → Sg → Int32
  | 0, _, v3_8, _ => v3_8
  | n8 + 1, k8, v3_8, σ => if 4 < (nI k8) then v3_8
    else f_X1_checkAfter_L8 a x n8 (k8 + 1) (((31 : Int32) * v3_8) + (f_X1_read x (nI k8) σ)) σ
def f_X1_checkAfter (a : Int32) (x : Int32) (σ : Sg) : Int32 :=
  (f_X1_checkAfter_L8 a x 6 0 ((31 : Int32) * a) σ)
set_option maxHeartbeats 4000000 in
set_option maxRecDepth 100000 in
theorem c_X1_checkAfter (l : Launch) (hl9 : l.stackTraces = false) (D : va_G) (ca : Nat → ClassId) (base : Nat) (ad : Adr) (σ : Sg) (a : Int32) (x : Int32) (hI : LogInv σ) : Mt l yX1_checkAfter cX1_checkAfter 5 (some .int) { frames := 2, cells := 0, slots := 0, locals := 44 } D ca base ad ρm Lm [.ref (ad 1 0), .int a, .int x] σ (some (.int (f_X1_checkAfter a x σ))) σ := by
  refine w_ofW (by decide) (Nat.le_of_ble_eq_true rfl) rfl ?_
  intro p e s m args below meth c hC hW hS ls hl hin
  have hx := hC.1
  have hb := hC.2.1
  refine lv_bipush (v := 31) hx hb dX1_checkAfter_0 (by decide) ?_
  refine lv_iload_n hx hb dX1_checkAfter_2 rfl (lv_at hl 1 rfl) ?_
  refine lv_imul hx hb dX1_checkAfter_3 ?_
  refine lv_istore_n (lv' := [(3, .int ((31 : Int32) * a)), (0, .ref (ad 1 0)), (1, .int a), (2, .int x)]) hx hb dX1_checkAfter_4 rfl hl (by decide) rfl (fun ls hl => ?_)
  refine lv_iconst (v := 0) hx hb dX1_checkAfter_5 (by decide) ?_
  refine lv_istore (lv' := [(4, .int 0), (3, .int ((31 : Int32) * a)), (0, .ref (ad 1 0)), (1, .int a), (2, .int x)]) hx hb dX1_checkAfter_6 hl (by decide) rfl (fun ls hl => ?_)
  have h_8 : ∀ (n8 k8 : Nat) (v3_8 : Int32) (H : Heap) (locs : List Loc) (ls : Array Slot), 6 ≤ k8 + n8 → k8 ≤ 5 → Wd D ca (Ab base) ad ρm Lm σ H → va_S (Ab base) s.heap H locs → lv_has ls 5 [(4, .int (nI k8)), (3, .int v3_8), (0, .ref (ad 1 0)), (2, .int x)] → f_X1_checkAfter a x σ = ((f_X1_checkAfter_L8 a x n8 k8 v3_8 σ)) → W p l e ({ frames := 2, cells := 0, slots := 0, locals := 44 } : Room) s m args below meth c H locs 0 0 (MQ below (Rt D ca base ad ρm Lm σ (some (.int (f_X1_checkAfter a x σ)))) args s 0 0 (Ab base)) (F0 m 8 ls []) := by
    intro n8
    induction n8 with
    | zero =>
      intro k8 v3_8 H locs ls hk1_8 hk2_8 hW hS hl hO
      exact absurd hk1_8 (by omega)
    | succ n8 ih_8 =>
      intro k8 v3_8 H locs ls hk1_8 hk2_8 hW hS hl hO
      refine lv_iload hx hb dX1_checkAfter_8 (lv_at hl 0 rfl) ?_
      refine lv_iconst (v := 4) hx hb dX1_checkAfter_10 (by decide) ?_
      refine lv_icmp_gt (tgt := 33) hx hb dX1_checkAfter_11 (by decide) (fun c_1 => ?_) (fun c_1 => ?_)
      · replace hl := lv_sub hl [1, 2, 3] (l' := [(3, .int v3_8), (0, .ref (ad 1 0)), (2, .int x)]) rfl
        refine lv_iload_n hx hb dX1_checkAfter_33 rfl (lv_at hl 0 rfl) ?_
        have hO : f_X1_checkAfter a x σ = v3_8 := by rw [hO, f_X1_checkAfter_L8, if_pos c_1]
        exact w_iretP hC hW hS hO (Nat.le_of_ble_eq_true rfl) (Nat.le_of_ble_eq_true rfl) dX1_checkAfter_34
      · have hi_c_1 : k8 < 5 := idx_lt2 c_1 (by decide) (by decide) (by omega)
        refine lv_bipush (v := 31) hx hb dX1_checkAfter_14 (by decide) ?_
        refine lv_iload_n hx hb dX1_checkAfter_16 rfl (lv_at hl 1 rfl) ?_
        refine lv_imul hx hb dX1_checkAfter_17 ?_
        refine lv_aload_n hx hb dX1_checkAfter_18 rfl (lv_at hl 2 rfl) ?_
        refine lv_iload_n hx hb dX1_checkAfter_19 rfl (lv_at hl 3 rfl) ?_
        refine lv_iload hx hb dX1_checkAfter_20 (lv_at hl 0 rfl) ?_
        refine w_callV (As := [.int x, .int (nI k8)]) (rest := .int ((31 : Int32) * v3_8) :: []) (st2 := .int (f_X1_read x (nI k8) σ) :: .int ((31 : Int32) * v3_8) :: []) hC hW hS hl cv_X1_22 m_1 (by decide) rfl (c_X1_read l hl9 D ca base ad σ x (nI k8) (by first | assumption | decide | omega)) rfl rfl rfl ⟨Nat.le_of_ble_eq_true rfl, Nat.le_of_ble_eq_true rfl⟩ (Nat.le_of_ble_eq_true rfl) dX1_checkAfter_22 ⟨Nat.le_of_ble_eq_true rfl, Nat.le_of_ble_eq_true rfl⟩ (fun H locs hW hS => ?_)
        refine lv_iadd hx hb dX1_checkAfter_25 ?_
        refine lv_istore_n (lv' := [(3, .int (((31 : Int32) * v3_8) + (f_X1_read x (nI k8) σ))), (4, .int (nI k8)), (0, .ref (ad 1 0)), (2, .int x)]) hx hb dX1_checkAfter_26 rfl hl (by decide) rfl (fun ls hl => ?_)
        refine lv_iinc (v := nI (k8 + 1)) (lv' := [(4, .int (nI (k8 + 1))), (3, .int (((31 : Int32) * v3_8) + (f_X1_read x (nI k8) σ))), (0, .ref (ad 1 0)), (2, .int x)]) hx hb dX1_checkAfter_27 hl (k := 1) rfl (nI_1 _) (by decide) rfl (fun ls hl => ?_)
        refine lv_goto (tgt := 8) hx hb dX1_checkAfter_30 (by decide) ?_
        refine ih_8 (k8 + 1) (((31 : Int32) * v3_8) + (f_X1_read x (nI k8) σ)) _ _ _ (by omega) (by omega)  hW hS (lv_sub hl [0, 1, 2, 3] rfl) ?_
        rw [hO, f_X1_checkAfter_L8, if_neg c_1]
  refine h_8 6 0 ((31 : Int32) * a) _ _ _ (by omega) (by omega)  hW hS (lv_sub hl [0, 1, 2, 4] rfl) ?_
  rw [f_X1_checkAfter]

def f_X1_firstBroken_L7  : Nat → Nat → Int32 → Sg → Int32
  | 0, _, _, _ => 0
  | n7 + 1, k7, v1_7, σ => if (σ 1 0 2) ≤ (nI k7) then (-1)
    else if (f_X1_checkAfter v1_7 (nI k7) σ) = (f_X1_read (nI k7) 5 σ) then f_X1_firstBroken_L7 n7 (k7 + 1) (f_X1_read (nI k7) 5 σ) σ
    else nI k7
def f_X1_firstBroken  (σ : Sg) : Int32 :=
  f_X1_firstBroken_L7 21 0 (σ 1 0 4) σ
set_option maxHeartbeats 4000000 in
set_option maxRecDepth 100000 in
theorem c_X1_firstBroken (l : Launch) (hl9 : l.stackTraces = false) (D : va_G) (ca : Nat → ClassId) (base : Nat) (ad : Adr) (σ : Sg)  (hI : LogInv σ) : Mt l yX1_firstBroken cX1_firstBroken 4 (some .int) { frames := 3, cells := 0, slots := 0, locals := 68 } D ca base ad ρm Lm [.ref (ad 1 0)] σ (some (.int (f_X1_firstBroken σ))) σ := by
  refine w_ofW (by decide) (Nat.le_of_ble_eq_true rfl) rfl ?_
  intro p e s m args below meth c hC hW hS ls hl hin
  have hx := hC.1
  have hb := hC.2.1
  refine lv_aload_n hx hb dX1_firstBroken_0 rfl (lv_at hl 0 rfl) ?_
  refine gf_X1_15 hC hW m_1 dX1_firstBroken_1 ?_
  refine lv_istore_n (lv' := [(1, .int (σ 1 0 4)), (0, .ref (ad 1 0))]) hx hb dX1_firstBroken_4 rfl hl (by decide) rfl (fun ls hl => ?_)
  refine lv_iconst (v := 0) hx hb dX1_firstBroken_5 (by decide) ?_
  refine lv_istore_n (lv' := [(2, .int 0), (1, .int (σ 1 0 4)), (0, .ref (ad 1 0))]) hx hb dX1_firstBroken_6 rfl hl (by decide) rfl (fun ls hl => ?_)
  have h_7 : ∀ (n7 k7 : Nat) (v1_7 : Int32) (H : Heap) (locs : List Loc) (ls : Array Slot), 21 ≤ k7 + n7 → k7 ≤ 20 → Wd D ca (Ab base) ad ρm Lm σ H → va_S (Ab base) s.heap H locs → lv_has ls 4 [(2, .int (nI k7)), (1, .int v1_7), (0, .ref (ad 1 0))] → f_X1_firstBroken σ = (f_X1_firstBroken_L7 n7 k7 v1_7 σ) → W p l e ({ frames := 3, cells := 0, slots := 0, locals := 68 } : Room) s m args below meth c H locs 0 0 (MQ below (Rt D ca base ad ρm Lm σ (some (.int (f_X1_firstBroken σ)))) args s 0 0 (Ab base)) (F0 m 7 ls []) := by
    intro n7
    induction n7 with
    | zero =>
      intro k7 v1_7 H locs ls hk1_7 hk2_7 hW hS hl hO
      exact absurd hk1_7 (by omega)
    | succ n7 ih_7 =>
      intro k7 v1_7 H locs ls hk1_7 hk2_7 hW hS hl hO
      refine lv_iload_n hx hb dX1_firstBroken_7 rfl (lv_at hl 0 rfl) ?_
      refine lv_aload_n hx hb dX1_firstBroken_8 rfl (lv_at hl 2 rfl) ?_
      refine gf_X1_19 hC hW m_1 dX1_firstBroken_9 ?_
      refine lv_icmp_ge (tgt := 42) hx hb dX1_firstBroken_12 (by decide) (fun c_1 => ?_) (fun c_1 => ?_)
      · refine lv_iconst (v := (-1)) hx hb dX1_firstBroken_42 (by decide) ?_
        have hO : f_X1_firstBroken σ = (-1) := by rw [hO, f_X1_firstBroken_L7, if_pos c_1]
        exact w_iretP hC hW hS hO (Nat.le_of_ble_eq_true rfl) (Nat.le_of_ble_eq_true rfl) dX1_firstBroken_43
      · have hi_c_1 : k7 < 20 := li_cnt hI (by omega) c_1
        refine lv_aload_n hx hb dX1_firstBroken_15 rfl (lv_at hl 2 rfl) ?_
        refine lv_iload_n hx hb dX1_firstBroken_16 rfl (lv_at hl 0 rfl) ?_
        refine lv_iconst (v := 5) hx hb dX1_firstBroken_17 (by decide) ?_
        refine w_callV (As := [.int (nI k7), .int 5]) (rest := []) (st2 := .int (f_X1_read (nI k7) 5 σ) :: []) hC hW hS hl cv_X1_22 m_1 (by decide) rfl (c_X1_read l hl9 D ca base ad σ (nI k7) 5 (by first | assumption | decide | omega)) rfl rfl rfl ⟨Nat.le_of_ble_eq_true rfl, Nat.le_of_ble_eq_true rfl⟩ (Nat.le_of_ble_eq_true rfl) dX1_firstBroken_18 ⟨Nat.le_of_ble_eq_true rfl, Nat.le_of_ble_eq_true rfl⟩ (fun H locs hW hS => ?_)
        refine lv_istore_n (lv' := [(3, .int (f_X1_read (nI k7) 5 σ)), (2, .int (nI k7)), (1, .int v1_7), (0, .ref (ad 1 0))]) hx hb dX1_firstBroken_21 rfl hl (by decide) rfl (fun ls hl => ?_)
        refine lv_aload_n hx hb dX1_firstBroken_22 rfl (lv_at hl 3 rfl) ?_
        refine lv_iload_n hx hb dX1_firstBroken_23 rfl (lv_at hl 2 rfl) ?_
        refine lv_iload_n hx hb dX1_firstBroken_24 rfl (lv_at hl 1 rfl) ?_
        refine w_callV (As := [.int v1_7, .int (nI k7)]) (rest := []) (st2 := .int (f_X1_checkAfter v1_7 (nI k7) σ) :: []) hC hW hS hl cv_X1_36 m_1 (by decide) rfl (c_X1_checkAfter l hl9 D ca base ad σ v1_7 (nI k7) (by first | assumption | decide | omega)) rfl rfl rfl ⟨Nat.le_of_ble_eq_true rfl, Nat.le_of_ble_eq_true rfl⟩ (Nat.le_of_ble_eq_true rfl) dX1_firstBroken_25 ⟨Nat.le_of_ble_eq_true rfl, Nat.le_of_ble_eq_true rfl⟩ (fun H locs hW hS => ?_)
        refine lv_iload_n hx hb dX1_firstBroken_28 rfl (lv_at hl 0 rfl) ?_
        refine lv_icmp_eq (tgt := 34) hx hb dX1_firstBroken_29 (by decide) (fun c_2 => ?_) (fun c_2 => ?_)
        · refine lv_iload_n hx hb dX1_firstBroken_34 rfl (lv_at hl 0 rfl) ?_
          refine lv_istore_n (lv' := [(1, .int (f_X1_read (nI k7) 5 σ)), (3, .int (f_X1_read (nI k7) 5 σ)), (2, .int (nI k7)), (0, .ref (ad 1 0))]) hx hb dX1_firstBroken_35 rfl hl (by decide) rfl (fun ls hl => ?_)
          refine lv_iinc (v := nI (k7 + 1)) (lv' := [(2, .int (nI (k7 + 1))), (1, .int (f_X1_read (nI k7) 5 σ)), (3, .int (f_X1_read (nI k7) 5 σ)), (0, .ref (ad 1 0))]) hx hb dX1_firstBroken_36 hl (k := 2) rfl (nI_1 _) (by decide) rfl (fun ls hl => ?_)
          refine lv_goto (tgt := 7) hx hb dX1_firstBroken_39 (by decide) ?_
          refine ih_7 (k7 + 1) (f_X1_read (nI k7) 5 σ) _ _ _ (by omega) (by omega)  hW hS (lv_sub hl [0, 1, 3] rfl) ?_
          rw [hO, f_X1_firstBroken_L7, if_neg c_1, if_pos c_2]
        · refine lv_iload_n hx hb dX1_firstBroken_32 rfl (lv_at hl 1 rfl) ?_
          have hO : f_X1_firstBroken σ = nI k7 := by rw [hO, f_X1_firstBroken_L7, if_neg c_1, if_neg c_2]
          exact w_iretP hC hW hS hO (Nat.le_of_ble_eq_true rfl) (Nat.le_of_ble_eq_true rfl) dX1_firstBroken_33
  refine h_7 21 0 (σ 1 0 4) _ _ _ (by omega) (by omega)  hW hS (lv_sub hl [0, 1, 2] rfl) ?_
  rw [f_X1_firstBroken]

def s_X1_add (a : Int32) (b : Int32) (t : Int32) (r : Int32) (v : Int32) (σ : Sg) : Sg :=
  if (σ 1 0 2) = 0 then (if (σ 1 0 2) = 20 then s_X1_write ((σ 1 0 2) - (1 : Int32)) 5 (f_X1_checkAfter (σ 1 0 4) ((σ 1 0 2) - (1 : Int32)) (s_X1_write ((σ 1 0 2) - (1 : Int32)) 4 v (s_X1_write ((σ 1 0 2) - (1 : Int32)) 3 r (s_X1_write ((σ 1 0 2) - (1 : Int32)) 2 t (s_X1_write ((σ 1 0 2) - (1 : Int32)) 1 b (s_X1_write ((σ 1 0 2) - (1 : Int32)) 0 a (us (us (us (us (us σ 1 0 4 (f_X1_read 0 5 σ)) 1 0 1 (((σ 1 0 1) + (1 : Int32)) - ((σ 1 0 1) + (1 : Int32)) / (20 : Int32) * (20 : Int32))) 1 0 2 ((σ 1 0 2) - (1 : Int32))) 1 0 3 ((σ 1 0 3) + (1 : Int32))) 1 0 2 (((σ 1 0 2) - (1 : Int32)) + (1 : Int32))))))))) (s_X1_write ((σ 1 0 2) - (1 : Int32)) 4 v (s_X1_write ((σ 1 0 2) - (1 : Int32)) 3 r (s_X1_write ((σ 1 0 2) - (1 : Int32)) 2 t (s_X1_write ((σ 1 0 2) - (1 : Int32)) 1 b (s_X1_write ((σ 1 0 2) - (1 : Int32)) 0 a (us (us (us (us (us σ 1 0 4 (f_X1_read 0 5 σ)) 1 0 1 (((σ 1 0 1) + (1 : Int32)) - ((σ 1 0 1) + (1 : Int32)) / (20 : Int32) * (20 : Int32))) 1 0 2 ((σ 1 0 2) - (1 : Int32))) 1 0 3 ((σ 1 0 3) + (1 : Int32))) 1 0 2 (((σ 1 0 2) - (1 : Int32)) + (1 : Int32))))))))
    else s_X1_write (σ 1 0 2) 5 (f_X1_checkAfter (σ 1 0 4) (σ 1 0 2) (s_X1_write (σ 1 0 2) 4 v (s_X1_write (σ 1 0 2) 3 r (s_X1_write (σ 1 0 2) 2 t (s_X1_write (σ 1 0 2) 1 b (s_X1_write (σ 1 0 2) 0 a (us σ 1 0 2 ((σ 1 0 2) + (1 : Int32))))))))) (s_X1_write (σ 1 0 2) 4 v (s_X1_write (σ 1 0 2) 3 r (s_X1_write (σ 1 0 2) 2 t (s_X1_write (σ 1 0 2) 1 b (s_X1_write (σ 1 0 2) 0 a (us σ 1 0 2 ((σ 1 0 2) + (1 : Int32)))))))))
  else if (σ 1 0 2) = 20 then s_X1_write ((σ 1 0 2) - (1 : Int32)) 5 (f_X1_checkAfter (f_X1_read ((σ 1 0 2) - (1 : Int32)) 5 σ) ((σ 1 0 2) - (1 : Int32)) (s_X1_write ((σ 1 0 2) - (1 : Int32)) 4 v (s_X1_write ((σ 1 0 2) - (1 : Int32)) 3 r (s_X1_write ((σ 1 0 2) - (1 : Int32)) 2 t (s_X1_write ((σ 1 0 2) - (1 : Int32)) 1 b (s_X1_write ((σ 1 0 2) - (1 : Int32)) 0 a (us (us (us (us (us σ 1 0 4 (f_X1_read 0 5 σ)) 1 0 1 (((σ 1 0 1) + (1 : Int32)) - ((σ 1 0 1) + (1 : Int32)) / (20 : Int32) * (20 : Int32))) 1 0 2 ((σ 1 0 2) - (1 : Int32))) 1 0 3 ((σ 1 0 3) + (1 : Int32))) 1 0 2 (((σ 1 0 2) - (1 : Int32)) + (1 : Int32))))))))) (s_X1_write ((σ 1 0 2) - (1 : Int32)) 4 v (s_X1_write ((σ 1 0 2) - (1 : Int32)) 3 r (s_X1_write ((σ 1 0 2) - (1 : Int32)) 2 t (s_X1_write ((σ 1 0 2) - (1 : Int32)) 1 b (s_X1_write ((σ 1 0 2) - (1 : Int32)) 0 a (us (us (us (us (us σ 1 0 4 (f_X1_read 0 5 σ)) 1 0 1 (((σ 1 0 1) + (1 : Int32)) - ((σ 1 0 1) + (1 : Int32)) / (20 : Int32) * (20 : Int32))) 1 0 2 ((σ 1 0 2) - (1 : Int32))) 1 0 3 ((σ 1 0 3) + (1 : Int32))) 1 0 2 (((σ 1 0 2) - (1 : Int32)) + (1 : Int32))))))))
  else s_X1_write (σ 1 0 2) 5 (f_X1_checkAfter (f_X1_read ((σ 1 0 2) - (1 : Int32)) 5 σ) (σ 1 0 2) (s_X1_write (σ 1 0 2) 4 v (s_X1_write (σ 1 0 2) 3 r (s_X1_write (σ 1 0 2) 2 t (s_X1_write (σ 1 0 2) 1 b (s_X1_write (σ 1 0 2) 0 a (us σ 1 0 2 ((σ 1 0 2) + (1 : Int32))))))))) (s_X1_write (σ 1 0 2) 4 v (s_X1_write (σ 1 0 2) 3 r (s_X1_write (σ 1 0 2) 2 t (s_X1_write (σ 1 0 2) 1 b (s_X1_write (σ 1 0 2) 0 a (us σ 1 0 2 ((σ 1 0 2) + (1 : Int32))))))))
set_option maxHeartbeats 4000000 in
set_option maxRecDepth 100000 in
theorem c_X1_add (l : Launch) (hl9 : l.stackTraces = false) (D : va_G) (ca : Nat → ClassId) (base : Nat) (ad : Adr) (σ : Sg) (a : Int32) (b : Int32) (t : Int32) (r : Int32) (v : Int32) (hI : LogInv σ) : Mt l yX1_add cX1_add 8 none { frames := 3, cells := 0, slots := 0, locals := 68 } D ca base ad ρm Lm [.ref (ad 1 0), .int a, .int b, .int t, .int r, .int v] σ none (s_X1_add a b t r v σ) := by
  refine w_ofW (by decide) (Nat.le_of_ble_eq_true rfl) rfl ?_
  intro p e s m args below meth c hC hW hS ls hl hin
  have hx := hC.1
  have hb := hC.2.1
  refine lv_aload_n hx hb dX1_add_0 rfl (lv_at hl 0 rfl) ?_
  refine gf_X1_19 hC hW m_1 dX1_add_1 ?_
  refine lv_if_ne (tgt := 14) hx hb dX1_add_4 (by decide) (fun c_1 => ?_) (fun c_1 => ?_)
  · refine lv_aload_n hx hb dX1_add_14 rfl (lv_at hl 0 rfl) ?_
    refine lv_aload_n hx hb dX1_add_15 rfl (lv_at hl 0 rfl) ?_
    refine gf_X1_19 hC hW m_1 dX1_add_16 ?_
    refine lv_iconst (v := 1) hx hb dX1_add_19 (by decide) ?_
    refine lv_isub hx hb dX1_add_20 ?_
    refine lv_iconst (v := 5) hx hb dX1_add_21 (by decide) ?_
    refine w_callV (As := [.int ((σ 1 0 2) - (1 : Int32)), .int 5]) (rest := []) (st2 := .int (f_X1_read ((σ 1 0 2) - (1 : Int32)) 5 σ) :: []) hC hW hS hl cv_X1_22 m_1 (by decide) rfl (c_X1_read l hl9 D ca base ad σ ((σ 1 0 2) - (1 : Int32)) 5 (by repeat (first | exact hJ | exact hI | apply li_w))) rfl rfl rfl ⟨Nat.le_of_ble_eq_true rfl, Nat.le_of_ble_eq_true rfl⟩ (Nat.le_of_ble_eq_true rfl) dX1_add_22 ⟨Nat.le_of_ble_eq_true rfl, Nat.le_of_ble_eq_true rfl⟩ (fun H locs hW hS => ?_)
    refine lv_istore (lv' := [(6, .int (f_X1_read ((σ 1 0 2) - (1 : Int32)) 5 σ)), (0, .ref (ad 1 0)), (1, .int a), (2, .int b), (3, .int t), (4, .int r), (5, .int v)]) hx hb dX1_add_25 hl (by decide) rfl (fun ls hl => ?_)
    refine lv_aload_n hx hb dX1_add_27 rfl (lv_at hl 1 rfl) ?_
    refine gf_X1_19 hC hW m_1 dX1_add_28 ?_
    refine lv_bipush (v := 20) hx hb dX1_add_31 (by decide) ?_
    refine lv_icmp_ne (tgt := 79) hx hb dX1_add_33 (by decide) (fun c_2 => ?_) (fun c_2 => ?_)
    · refine lv_aload_n hx hb dX1_add_79 rfl (lv_at hl 1 rfl) ?_
      refine gf_X1_19 hC hW m_1 dX1_add_80 ?_
      refine lv_istore (lv' := [(7, .int (σ 1 0 2)), (6, .int (f_X1_read ((σ 1 0 2) - (1 : Int32)) 5 σ)), (0, .ref (ad 1 0)), (1, .int a), (2, .int b), (3, .int t), (4, .int r), (5, .int v)]) hx hb dX1_add_83 hl (by decide) rfl (fun ls hl => ?_)
      refine lv_aload_n hx hb dX1_add_85 rfl (lv_at hl 2 rfl) ?_
      refine lv_dup hx hb dX1_add_86 rfl ?_
      refine gf_X1_19 hC hW m_1 dX1_add_87 ?_
      refine lv_iconst (v := 1) hx hb dX1_add_90 (by decide) ?_
      refine lv_iadd hx hb dX1_add_91 ?_
      refine pf_X1_19 hC hW m_1 hS dX1_add_92 (fun H locs hW hS => ?_)
      have hJ : LogInv (us σ 1 0 2 ((σ 1 0 2) + (1 : Int32))) := li_one hI (by assumption)
      refine lv_aload_n hx hb dX1_add_95 rfl (lv_at hl 2 rfl) ?_
      refine lv_iload hx hb dX1_add_96 (lv_at hl 0 rfl) ?_
      refine lv_iconst (v := 0) hx hb dX1_add_98 (by decide) ?_
      refine lv_iload_n hx hb dX1_add_99 rfl (lv_at hl 3 rfl) ?_
      refine w_callV (As := [.int (σ 1 0 2), .int 0, .int a]) (rest := []) (st2 := []) hC hW hS hl cv_X1_32 m_1 (by decide) rfl (c_X1_write l hl9 D ca base ad (us σ 1 0 2 ((σ 1 0 2) + (1 : Int32))) (σ 1 0 2) 0 a (by repeat (first | exact hJ | exact hI | apply li_w))) rfl rfl rfl ⟨Nat.le_of_ble_eq_true rfl, Nat.le_of_ble_eq_true rfl⟩ (Nat.le_of_ble_eq_true rfl) dX1_add_100 ⟨Nat.le_of_ble_eq_true rfl, Nat.le_of_ble_eq_true rfl⟩ (fun H locs hW hS => ?_)
      refine lv_aload_n hx hb dX1_add_103 rfl (lv_at hl 2 rfl) ?_
      refine lv_iload hx hb dX1_add_104 (lv_at hl 0 rfl) ?_
      refine lv_iconst (v := 1) hx hb dX1_add_106 (by decide) ?_
      refine lv_iload_n hx hb dX1_add_107 rfl (lv_at hl 4 rfl) ?_
      refine w_callV (As := [.int (σ 1 0 2), .int 1, .int b]) (rest := []) (st2 := []) hC hW hS hl cv_X1_32 m_1 (by decide) rfl (c_X1_write l hl9 D ca base ad (s_X1_write (σ 1 0 2) 0 a (us σ 1 0 2 ((σ 1 0 2) + (1 : Int32)))) (σ 1 0 2) 1 b (by repeat (first | exact hJ | exact hI | apply li_w))) rfl rfl rfl ⟨Nat.le_of_ble_eq_true rfl, Nat.le_of_ble_eq_true rfl⟩ (Nat.le_of_ble_eq_true rfl) dX1_add_108 ⟨Nat.le_of_ble_eq_true rfl, Nat.le_of_ble_eq_true rfl⟩ (fun H locs hW hS => ?_)
      refine lv_aload_n hx hb dX1_add_111 rfl (lv_at hl 2 rfl) ?_
      refine lv_iload hx hb dX1_add_112 (lv_at hl 0 rfl) ?_
      refine lv_iconst (v := 2) hx hb dX1_add_114 (by decide) ?_
      refine lv_iload_n hx hb dX1_add_115 rfl (lv_at hl 5 rfl) ?_
      refine w_callV (As := [.int (σ 1 0 2), .int 2, .int t]) (rest := []) (st2 := []) hC hW hS hl cv_X1_32 m_1 (by decide) rfl (c_X1_write l hl9 D ca base ad (s_X1_write (σ 1 0 2) 1 b (s_X1_write (σ 1 0 2) 0 a (us σ 1 0 2 ((σ 1 0 2) + (1 : Int32))))) (σ 1 0 2) 2 t (by repeat (first | exact hJ | exact hI | apply li_w))) rfl rfl rfl ⟨Nat.le_of_ble_eq_true rfl, Nat.le_of_ble_eq_true rfl⟩ (Nat.le_of_ble_eq_true rfl) dX1_add_116 ⟨Nat.le_of_ble_eq_true rfl, Nat.le_of_ble_eq_true rfl⟩ (fun H locs hW hS => ?_)
      refine lv_aload_n hx hb dX1_add_119 rfl (lv_at hl 2 rfl) ?_
      refine lv_iload hx hb dX1_add_120 (lv_at hl 0 rfl) ?_
      refine lv_iconst (v := 3) hx hb dX1_add_122 (by decide) ?_
      refine lv_iload hx hb dX1_add_123 (lv_at hl 6 rfl) ?_
      refine w_callV (As := [.int (σ 1 0 2), .int 3, .int r]) (rest := []) (st2 := []) hC hW hS hl cv_X1_32 m_1 (by decide) rfl (c_X1_write l hl9 D ca base ad (s_X1_write (σ 1 0 2) 2 t (s_X1_write (σ 1 0 2) 1 b (s_X1_write (σ 1 0 2) 0 a (us σ 1 0 2 ((σ 1 0 2) + (1 : Int32)))))) (σ 1 0 2) 3 r (by repeat (first | exact hJ | exact hI | apply li_w))) rfl rfl rfl ⟨Nat.le_of_ble_eq_true rfl, Nat.le_of_ble_eq_true rfl⟩ (Nat.le_of_ble_eq_true rfl) dX1_add_125 ⟨Nat.le_of_ble_eq_true rfl, Nat.le_of_ble_eq_true rfl⟩ (fun H locs hW hS => ?_)
      refine lv_aload_n hx hb dX1_add_128 rfl (lv_at hl 2 rfl) ?_
      refine lv_iload hx hb dX1_add_129 (lv_at hl 0 rfl) ?_
      refine lv_iconst (v := 4) hx hb dX1_add_131 (by decide) ?_
      refine lv_iload hx hb dX1_add_132 (lv_at hl 7 rfl) ?_
      refine w_callV (As := [.int (σ 1 0 2), .int 4, .int v]) (rest := []) (st2 := []) hC hW hS hl cv_X1_32 m_1 (by decide) rfl (c_X1_write l hl9 D ca base ad (s_X1_write (σ 1 0 2) 3 r (s_X1_write (σ 1 0 2) 2 t (s_X1_write (σ 1 0 2) 1 b (s_X1_write (σ 1 0 2) 0 a (us σ 1 0 2 ((σ 1 0 2) + (1 : Int32))))))) (σ 1 0 2) 4 v (by repeat (first | exact hJ | exact hI | apply li_w))) rfl rfl rfl ⟨Nat.le_of_ble_eq_true rfl, Nat.le_of_ble_eq_true rfl⟩ (Nat.le_of_ble_eq_true rfl) dX1_add_134 ⟨Nat.le_of_ble_eq_true rfl, Nat.le_of_ble_eq_true rfl⟩ (fun H locs hW hS => ?_)
      refine lv_aload_n hx hb dX1_add_137 rfl (lv_at hl 2 rfl) ?_
      refine lv_iload hx hb dX1_add_138 (lv_at hl 0 rfl) ?_
      refine lv_iconst (v := 5) hx hb dX1_add_140 (by decide) ?_
      refine lv_aload_n hx hb dX1_add_141 rfl (lv_at hl 2 rfl) ?_
      refine lv_iload hx hb dX1_add_142 (lv_at hl 1 rfl) ?_
      refine lv_iload hx hb dX1_add_144 (lv_at hl 0 rfl) ?_
      refine w_callV (As := [.int (f_X1_read ((σ 1 0 2) - (1 : Int32)) 5 σ), .int (σ 1 0 2)]) (rest := .int 5 :: .int (σ 1 0 2) :: .ref (ad 1 0) :: []) (st2 := .int (f_X1_checkAfter (f_X1_read ((σ 1 0 2) - (1 : Int32)) 5 σ) (σ 1 0 2) (s_X1_write (σ 1 0 2) 4 v (s_X1_write (σ 1 0 2) 3 r (s_X1_write (σ 1 0 2) 2 t (s_X1_write (σ 1 0 2) 1 b (s_X1_write (σ 1 0 2) 0 a (us σ 1 0 2 ((σ 1 0 2) + (1 : Int32))))))))) :: .int 5 :: .int (σ 1 0 2) :: .ref (ad 1 0) :: []) hC hW hS hl cv_X1_36 m_1 (by decide) rfl (c_X1_checkAfter l hl9 D ca base ad (s_X1_write (σ 1 0 2) 4 v (s_X1_write (σ 1 0 2) 3 r (s_X1_write (σ 1 0 2) 2 t (s_X1_write (σ 1 0 2) 1 b (s_X1_write (σ 1 0 2) 0 a (us σ 1 0 2 ((σ 1 0 2) + (1 : Int32)))))))) (f_X1_read ((σ 1 0 2) - (1 : Int32)) 5 σ) (σ 1 0 2) (by repeat (first | exact hJ | exact hI | apply li_w))) rfl rfl rfl ⟨Nat.le_of_ble_eq_true rfl, Nat.le_of_ble_eq_true rfl⟩ (Nat.le_of_ble_eq_true rfl) dX1_add_146 ⟨Nat.le_of_ble_eq_true rfl, Nat.le_of_ble_eq_true rfl⟩ (fun H locs hW hS => ?_)
      refine w_callV (As := [.int (σ 1 0 2), .int 5, .int (f_X1_checkAfter (f_X1_read ((σ 1 0 2) - (1 : Int32)) 5 σ) (σ 1 0 2) (s_X1_write (σ 1 0 2) 4 v (s_X1_write (σ 1 0 2) 3 r (s_X1_write (σ 1 0 2) 2 t (s_X1_write (σ 1 0 2) 1 b (s_X1_write (σ 1 0 2) 0 a (us σ 1 0 2 ((σ 1 0 2) + (1 : Int32)))))))))]) (rest := []) (st2 := []) hC hW hS hl cv_X1_32 m_1 (by decide) rfl (c_X1_write l hl9 D ca base ad (s_X1_write (σ 1 0 2) 4 v (s_X1_write (σ 1 0 2) 3 r (s_X1_write (σ 1 0 2) 2 t (s_X1_write (σ 1 0 2) 1 b (s_X1_write (σ 1 0 2) 0 a (us σ 1 0 2 ((σ 1 0 2) + (1 : Int32)))))))) (σ 1 0 2) 5 (f_X1_checkAfter (f_X1_read ((σ 1 0 2) - (1 : Int32)) 5 σ) (σ 1 0 2) (s_X1_write (σ 1 0 2) 4 v (s_X1_write (σ 1 0 2) 3 r (s_X1_write (σ 1 0 2) 2 t (s_X1_write (σ 1 0 2) 1 b (s_X1_write (σ 1 0 2) 0 a (us σ 1 0 2 ((σ 1 0 2) + (1 : Int32))))))))) (by repeat (first | exact hJ | exact hI | apply li_w))) rfl rfl rfl ⟨Nat.le_of_ble_eq_true rfl, Nat.le_of_ble_eq_true rfl⟩ (Nat.le_of_ble_eq_true rfl) dX1_add_149 ⟨Nat.le_of_ble_eq_true rfl, Nat.le_of_ble_eq_true rfl⟩ (fun H locs hW hS => ?_)
      have hO : s_X1_add a b t r v σ = s_X1_write (σ 1 0 2) 5 (f_X1_checkAfter (f_X1_read ((σ 1 0 2) - (1 : Int32)) 5 σ) (σ 1 0 2) (s_X1_write (σ 1 0 2) 4 v (s_X1_write (σ 1 0 2) 3 r (s_X1_write (σ 1 0 2) 2 t (s_X1_write (σ 1 0 2) 1 b (s_X1_write (σ 1 0 2) 0 a (us σ 1 0 2 ((σ 1 0 2) + (1 : Int32))))))))) (s_X1_write (σ 1 0 2) 4 v (s_X1_write (σ 1 0 2) 3 r (s_X1_write (σ 1 0 2) 2 t (s_X1_write (σ 1 0 2) 1 b (s_X1_write (σ 1 0 2) 0 a (us σ 1 0 2 ((σ 1 0 2) + (1 : Int32)))))))) := by rw [s_X1_add, if_neg c_1, if_neg c_2]
      exact w_vretV hC hW hS hO (Nat.le_of_ble_eq_true rfl) (Nat.le_of_ble_eq_true rfl) dX1_add_152
    · refine lv_aload_n hx hb dX1_add_36 rfl (lv_at hl 1 rfl) ?_
      refine lv_aload_n hx hb dX1_add_37 rfl (lv_at hl 1 rfl) ?_
      refine lv_iconst (v := 0) hx hb dX1_add_38 (by decide) ?_
      refine lv_iconst (v := 5) hx hb dX1_add_39 (by decide) ?_
      refine w_callV (As := [.int 0, .int 5]) (rest := .ref (ad 1 0) :: []) (st2 := .int (f_X1_read 0 5 σ) :: .ref (ad 1 0) :: []) hC hW hS hl cv_X1_22 m_1 (by decide) rfl (c_X1_read l hl9 D ca base ad σ 0 5 (by repeat (first | exact hJ | exact hI | apply li_w))) rfl rfl rfl ⟨Nat.le_of_ble_eq_true rfl, Nat.le_of_ble_eq_true rfl⟩ (Nat.le_of_ble_eq_true rfl) dX1_add_40 ⟨Nat.le_of_ble_eq_true rfl, Nat.le_of_ble_eq_true rfl⟩ (fun H locs hW hS => ?_)
      refine pf_X1_15 hC hW m_1 hS dX1_add_43 (fun H locs hW hS => ?_)
      refine lv_aload_n hx hb dX1_add_46 rfl (lv_at hl 1 rfl) ?_
      refine lv_aload_n hx hb dX1_add_47 rfl (lv_at hl 1 rfl) ?_
      refine gf_X1_26 hC hW m_1 dX1_add_48 ?_
      refine lv_eqi (y := σ 1 0 1) (by rw [us_j (by decide)]) ?_
      refine lv_iconst (v := 1) hx hb dX1_add_51 (by decide) ?_
      refine lv_iadd hx hb dX1_add_52 ?_
      refine lv_bipush (v := 20) hx hb dX1_add_53 (by decide) ?_
      refine lv_irem hx hb dX1_add_55 (by decide) ?_
      refine pf_X1_26 hC hW m_1 hS dX1_add_56 (fun H locs hW hS => ?_)
      refine lv_aload_n hx hb dX1_add_59 rfl (lv_at hl 1 rfl) ?_
      refine lv_dup hx hb dX1_add_60 rfl ?_
      refine gf_X1_19 hC hW m_1 dX1_add_61 ?_
      refine lv_eqi (y := σ 1 0 2) (by rw [us_j (by decide), us_j (by decide)]) ?_
      refine lv_iconst (v := 1) hx hb dX1_add_64 (by decide) ?_
      refine lv_isub hx hb dX1_add_65 ?_
      refine pf_X1_19 hC hW m_1 hS dX1_add_66 (fun H locs hW hS => ?_)
      refine lv_aload_n hx hb dX1_add_69 rfl (lv_at hl 1 rfl) ?_
      refine lv_dup hx hb dX1_add_70 rfl ?_
      refine gf_X1_29 hC hW m_1 dX1_add_71 ?_
      refine lv_eqi (y := σ 1 0 3) (by rw [us_j (by decide), us_j (by decide), us_j (by decide)]) ?_
      refine lv_iconst (v := 1) hx hb dX1_add_74 (by decide) ?_
      refine lv_iadd hx hb dX1_add_75 ?_
      refine pf_X1_29 hC hW m_1 hS dX1_add_76 (fun H locs hW hS => ?_)
      refine lv_aload_n hx hb dX1_add_79 rfl (lv_at hl 1 rfl) ?_
      refine gf_X1_19 hC hW m_1 dX1_add_80 ?_
      refine lv_eqi (y := (σ 1 0 2) - (1 : Int32)) (by rw [us_j (by decide), us_h]) ?_
      refine lv_istore (lv' := [(7, .int ((σ 1 0 2) - (1 : Int32))), (6, .int (f_X1_read ((σ 1 0 2) - (1 : Int32)) 5 σ)), (0, .ref (ad 1 0)), (1, .int a), (2, .int b), (3, .int t), (4, .int r), (5, .int v)]) hx hb dX1_add_83 hl (by decide) rfl (fun ls hl => ?_)
      refine lv_aload_n hx hb dX1_add_85 rfl (lv_at hl 2 rfl) ?_
      refine lv_dup hx hb dX1_add_86 rfl ?_
      refine gf_X1_19 hC hW m_1 dX1_add_87 ?_
      refine lv_eqi (y := (σ 1 0 2) - (1 : Int32)) (by rw [us_j (by decide), us_h]) ?_
      refine lv_iconst (v := 1) hx hb dX1_add_90 (by decide) ?_
      refine lv_iadd hx hb dX1_add_91 ?_
      refine pf_X1_19 hC hW m_1 hS dX1_add_92 (fun H locs hW hS => ?_)
      have hJ : LogInv (us (us (us (us (us σ 1 0 4 (f_X1_read 0 5 σ)) 1 0 1 (((σ 1 0 1) + (1 : Int32)) - ((σ 1 0 1) + (1 : Int32)) / (20 : Int32) * (20 : Int32))) 1 0 2 ((σ 1 0 2) - (1 : Int32))) 1 0 3 ((σ 1 0 3) + (1 : Int32))) 1 0 2 (((σ 1 0 2) - (1 : Int32)) + (1 : Int32))) := li_full hI (by assumption) _ _
      refine lv_aload_n hx hb dX1_add_95 rfl (lv_at hl 2 rfl) ?_
      refine lv_iload hx hb dX1_add_96 (lv_at hl 0 rfl) ?_
      refine lv_iconst (v := 0) hx hb dX1_add_98 (by decide) ?_
      refine lv_iload_n hx hb dX1_add_99 rfl (lv_at hl 3 rfl) ?_
      refine w_callV (As := [.int ((σ 1 0 2) - (1 : Int32)), .int 0, .int a]) (rest := []) (st2 := []) hC hW hS hl cv_X1_32 m_1 (by decide) rfl (c_X1_write l hl9 D ca base ad (us (us (us (us (us σ 1 0 4 (f_X1_read 0 5 σ)) 1 0 1 (((σ 1 0 1) + (1 : Int32)) - ((σ 1 0 1) + (1 : Int32)) / (20 : Int32) * (20 : Int32))) 1 0 2 ((σ 1 0 2) - (1 : Int32))) 1 0 3 ((σ 1 0 3) + (1 : Int32))) 1 0 2 (((σ 1 0 2) - (1 : Int32)) + (1 : Int32))) ((σ 1 0 2) - (1 : Int32)) 0 a (by repeat (first | exact hJ | exact hI | apply li_w))) rfl rfl rfl ⟨Nat.le_of_ble_eq_true rfl, Nat.le_of_ble_eq_true rfl⟩ (Nat.le_of_ble_eq_true rfl) dX1_add_100 ⟨Nat.le_of_ble_eq_true rfl, Nat.le_of_ble_eq_true rfl⟩ (fun H locs hW hS => ?_)
      refine lv_aload_n hx hb dX1_add_103 rfl (lv_at hl 2 rfl) ?_
      refine lv_iload hx hb dX1_add_104 (lv_at hl 0 rfl) ?_
      refine lv_iconst (v := 1) hx hb dX1_add_106 (by decide) ?_
      refine lv_iload_n hx hb dX1_add_107 rfl (lv_at hl 4 rfl) ?_
      refine w_callV (As := [.int ((σ 1 0 2) - (1 : Int32)), .int 1, .int b]) (rest := []) (st2 := []) hC hW hS hl cv_X1_32 m_1 (by decide) rfl (c_X1_write l hl9 D ca base ad (s_X1_write ((σ 1 0 2) - (1 : Int32)) 0 a (us (us (us (us (us σ 1 0 4 (f_X1_read 0 5 σ)) 1 0 1 (((σ 1 0 1) + (1 : Int32)) - ((σ 1 0 1) + (1 : Int32)) / (20 : Int32) * (20 : Int32))) 1 0 2 ((σ 1 0 2) - (1 : Int32))) 1 0 3 ((σ 1 0 3) + (1 : Int32))) 1 0 2 (((σ 1 0 2) - (1 : Int32)) + (1 : Int32)))) ((σ 1 0 2) - (1 : Int32)) 1 b (by repeat (first | exact hJ | exact hI | apply li_w))) rfl rfl rfl ⟨Nat.le_of_ble_eq_true rfl, Nat.le_of_ble_eq_true rfl⟩ (Nat.le_of_ble_eq_true rfl) dX1_add_108 ⟨Nat.le_of_ble_eq_true rfl, Nat.le_of_ble_eq_true rfl⟩ (fun H locs hW hS => ?_)
      refine lv_aload_n hx hb dX1_add_111 rfl (lv_at hl 2 rfl) ?_
      refine lv_iload hx hb dX1_add_112 (lv_at hl 0 rfl) ?_
      refine lv_iconst (v := 2) hx hb dX1_add_114 (by decide) ?_
      refine lv_iload_n hx hb dX1_add_115 rfl (lv_at hl 5 rfl) ?_
      refine w_callV (As := [.int ((σ 1 0 2) - (1 : Int32)), .int 2, .int t]) (rest := []) (st2 := []) hC hW hS hl cv_X1_32 m_1 (by decide) rfl (c_X1_write l hl9 D ca base ad (s_X1_write ((σ 1 0 2) - (1 : Int32)) 1 b (s_X1_write ((σ 1 0 2) - (1 : Int32)) 0 a (us (us (us (us (us σ 1 0 4 (f_X1_read 0 5 σ)) 1 0 1 (((σ 1 0 1) + (1 : Int32)) - ((σ 1 0 1) + (1 : Int32)) / (20 : Int32) * (20 : Int32))) 1 0 2 ((σ 1 0 2) - (1 : Int32))) 1 0 3 ((σ 1 0 3) + (1 : Int32))) 1 0 2 (((σ 1 0 2) - (1 : Int32)) + (1 : Int32))))) ((σ 1 0 2) - (1 : Int32)) 2 t (by repeat (first | exact hJ | exact hI | apply li_w))) rfl rfl rfl ⟨Nat.le_of_ble_eq_true rfl, Nat.le_of_ble_eq_true rfl⟩ (Nat.le_of_ble_eq_true rfl) dX1_add_116 ⟨Nat.le_of_ble_eq_true rfl, Nat.le_of_ble_eq_true rfl⟩ (fun H locs hW hS => ?_)
      refine lv_aload_n hx hb dX1_add_119 rfl (lv_at hl 2 rfl) ?_
      refine lv_iload hx hb dX1_add_120 (lv_at hl 0 rfl) ?_
      refine lv_iconst (v := 3) hx hb dX1_add_122 (by decide) ?_
      refine lv_iload hx hb dX1_add_123 (lv_at hl 6 rfl) ?_
      refine w_callV (As := [.int ((σ 1 0 2) - (1 : Int32)), .int 3, .int r]) (rest := []) (st2 := []) hC hW hS hl cv_X1_32 m_1 (by decide) rfl (c_X1_write l hl9 D ca base ad (s_X1_write ((σ 1 0 2) - (1 : Int32)) 2 t (s_X1_write ((σ 1 0 2) - (1 : Int32)) 1 b (s_X1_write ((σ 1 0 2) - (1 : Int32)) 0 a (us (us (us (us (us σ 1 0 4 (f_X1_read 0 5 σ)) 1 0 1 (((σ 1 0 1) + (1 : Int32)) - ((σ 1 0 1) + (1 : Int32)) / (20 : Int32) * (20 : Int32))) 1 0 2 ((σ 1 0 2) - (1 : Int32))) 1 0 3 ((σ 1 0 3) + (1 : Int32))) 1 0 2 (((σ 1 0 2) - (1 : Int32)) + (1 : Int32)))))) ((σ 1 0 2) - (1 : Int32)) 3 r (by repeat (first | exact hJ | exact hI | apply li_w))) rfl rfl rfl ⟨Nat.le_of_ble_eq_true rfl, Nat.le_of_ble_eq_true rfl⟩ (Nat.le_of_ble_eq_true rfl) dX1_add_125 ⟨Nat.le_of_ble_eq_true rfl, Nat.le_of_ble_eq_true rfl⟩ (fun H locs hW hS => ?_)
      refine lv_aload_n hx hb dX1_add_128 rfl (lv_at hl 2 rfl) ?_
      refine lv_iload hx hb dX1_add_129 (lv_at hl 0 rfl) ?_
      refine lv_iconst (v := 4) hx hb dX1_add_131 (by decide) ?_
      refine lv_iload hx hb dX1_add_132 (lv_at hl 7 rfl) ?_
      refine w_callV (As := [.int ((σ 1 0 2) - (1 : Int32)), .int 4, .int v]) (rest := []) (st2 := []) hC hW hS hl cv_X1_32 m_1 (by decide) rfl (c_X1_write l hl9 D ca base ad (s_X1_write ((σ 1 0 2) - (1 : Int32)) 3 r (s_X1_write ((σ 1 0 2) - (1 : Int32)) 2 t (s_X1_write ((σ 1 0 2) - (1 : Int32)) 1 b (s_X1_write ((σ 1 0 2) - (1 : Int32)) 0 a (us (us (us (us (us σ 1 0 4 (f_X1_read 0 5 σ)) 1 0 1 (((σ 1 0 1) + (1 : Int32)) - ((σ 1 0 1) + (1 : Int32)) / (20 : Int32) * (20 : Int32))) 1 0 2 ((σ 1 0 2) - (1 : Int32))) 1 0 3 ((σ 1 0 3) + (1 : Int32))) 1 0 2 (((σ 1 0 2) - (1 : Int32)) + (1 : Int32))))))) ((σ 1 0 2) - (1 : Int32)) 4 v (by repeat (first | exact hJ | exact hI | apply li_w))) rfl rfl rfl ⟨Nat.le_of_ble_eq_true rfl, Nat.le_of_ble_eq_true rfl⟩ (Nat.le_of_ble_eq_true rfl) dX1_add_134 ⟨Nat.le_of_ble_eq_true rfl, Nat.le_of_ble_eq_true rfl⟩ (fun H locs hW hS => ?_)
      refine lv_aload_n hx hb dX1_add_137 rfl (lv_at hl 2 rfl) ?_
      refine lv_iload hx hb dX1_add_138 (lv_at hl 0 rfl) ?_
      refine lv_iconst (v := 5) hx hb dX1_add_140 (by decide) ?_
      refine lv_aload_n hx hb dX1_add_141 rfl (lv_at hl 2 rfl) ?_
      refine lv_iload hx hb dX1_add_142 (lv_at hl 1 rfl) ?_
      refine lv_iload hx hb dX1_add_144 (lv_at hl 0 rfl) ?_
      refine w_callV (As := [.int (f_X1_read ((σ 1 0 2) - (1 : Int32)) 5 σ), .int ((σ 1 0 2) - (1 : Int32))]) (rest := .int 5 :: .int ((σ 1 0 2) - (1 : Int32)) :: .ref (ad 1 0) :: []) (st2 := .int (f_X1_checkAfter (f_X1_read ((σ 1 0 2) - (1 : Int32)) 5 σ) ((σ 1 0 2) - (1 : Int32)) (s_X1_write ((σ 1 0 2) - (1 : Int32)) 4 v (s_X1_write ((σ 1 0 2) - (1 : Int32)) 3 r (s_X1_write ((σ 1 0 2) - (1 : Int32)) 2 t (s_X1_write ((σ 1 0 2) - (1 : Int32)) 1 b (s_X1_write ((σ 1 0 2) - (1 : Int32)) 0 a (us (us (us (us (us σ 1 0 4 (f_X1_read 0 5 σ)) 1 0 1 (((σ 1 0 1) + (1 : Int32)) - ((σ 1 0 1) + (1 : Int32)) / (20 : Int32) * (20 : Int32))) 1 0 2 ((σ 1 0 2) - (1 : Int32))) 1 0 3 ((σ 1 0 3) + (1 : Int32))) 1 0 2 (((σ 1 0 2) - (1 : Int32)) + (1 : Int32))))))))) :: .int 5 :: .int ((σ 1 0 2) - (1 : Int32)) :: .ref (ad 1 0) :: []) hC hW hS hl cv_X1_36 m_1 (by decide) rfl (c_X1_checkAfter l hl9 D ca base ad (s_X1_write ((σ 1 0 2) - (1 : Int32)) 4 v (s_X1_write ((σ 1 0 2) - (1 : Int32)) 3 r (s_X1_write ((σ 1 0 2) - (1 : Int32)) 2 t (s_X1_write ((σ 1 0 2) - (1 : Int32)) 1 b (s_X1_write ((σ 1 0 2) - (1 : Int32)) 0 a (us (us (us (us (us σ 1 0 4 (f_X1_read 0 5 σ)) 1 0 1 (((σ 1 0 1) + (1 : Int32)) - ((σ 1 0 1) + (1 : Int32)) / (20 : Int32) * (20 : Int32))) 1 0 2 ((σ 1 0 2) - (1 : Int32))) 1 0 3 ((σ 1 0 3) + (1 : Int32))) 1 0 2 (((σ 1 0 2) - (1 : Int32)) + (1 : Int32)))))))) (f_X1_read ((σ 1 0 2) - (1 : Int32)) 5 σ) ((σ 1 0 2) - (1 : Int32)) (by repeat (first | exact hJ | exact hI | apply li_w))) rfl rfl rfl ⟨Nat.le_of_ble_eq_true rfl, Nat.le_of_ble_eq_true rfl⟩ (Nat.le_of_ble_eq_true rfl) dX1_add_146 ⟨Nat.le_of_ble_eq_true rfl, Nat.le_of_ble_eq_true rfl⟩ (fun H locs hW hS => ?_)
      refine w_callV (As := [.int ((σ 1 0 2) - (1 : Int32)), .int 5, .int (f_X1_checkAfter (f_X1_read ((σ 1 0 2) - (1 : Int32)) 5 σ) ((σ 1 0 2) - (1 : Int32)) (s_X1_write ((σ 1 0 2) - (1 : Int32)) 4 v (s_X1_write ((σ 1 0 2) - (1 : Int32)) 3 r (s_X1_write ((σ 1 0 2) - (1 : Int32)) 2 t (s_X1_write ((σ 1 0 2) - (1 : Int32)) 1 b (s_X1_write ((σ 1 0 2) - (1 : Int32)) 0 a (us (us (us (us (us σ 1 0 4 (f_X1_read 0 5 σ)) 1 0 1 (((σ 1 0 1) + (1 : Int32)) - ((σ 1 0 1) + (1 : Int32)) / (20 : Int32) * (20 : Int32))) 1 0 2 ((σ 1 0 2) - (1 : Int32))) 1 0 3 ((σ 1 0 3) + (1 : Int32))) 1 0 2 (((σ 1 0 2) - (1 : Int32)) + (1 : Int32)))))))))]) (rest := []) (st2 := []) hC hW hS hl cv_X1_32 m_1 (by decide) rfl (c_X1_write l hl9 D ca base ad (s_X1_write ((σ 1 0 2) - (1 : Int32)) 4 v (s_X1_write ((σ 1 0 2) - (1 : Int32)) 3 r (s_X1_write ((σ 1 0 2) - (1 : Int32)) 2 t (s_X1_write ((σ 1 0 2) - (1 : Int32)) 1 b (s_X1_write ((σ 1 0 2) - (1 : Int32)) 0 a (us (us (us (us (us σ 1 0 4 (f_X1_read 0 5 σ)) 1 0 1 (((σ 1 0 1) + (1 : Int32)) - ((σ 1 0 1) + (1 : Int32)) / (20 : Int32) * (20 : Int32))) 1 0 2 ((σ 1 0 2) - (1 : Int32))) 1 0 3 ((σ 1 0 3) + (1 : Int32))) 1 0 2 (((σ 1 0 2) - (1 : Int32)) + (1 : Int32)))))))) ((σ 1 0 2) - (1 : Int32)) 5 (f_X1_checkAfter (f_X1_read ((σ 1 0 2) - (1 : Int32)) 5 σ) ((σ 1 0 2) - (1 : Int32)) (s_X1_write ((σ 1 0 2) - (1 : Int32)) 4 v (s_X1_write ((σ 1 0 2) - (1 : Int32)) 3 r (s_X1_write ((σ 1 0 2) - (1 : Int32)) 2 t (s_X1_write ((σ 1 0 2) - (1 : Int32)) 1 b (s_X1_write ((σ 1 0 2) - (1 : Int32)) 0 a (us (us (us (us (us σ 1 0 4 (f_X1_read 0 5 σ)) 1 0 1 (((σ 1 0 1) + (1 : Int32)) - ((σ 1 0 1) + (1 : Int32)) / (20 : Int32) * (20 : Int32))) 1 0 2 ((σ 1 0 2) - (1 : Int32))) 1 0 3 ((σ 1 0 3) + (1 : Int32))) 1 0 2 (((σ 1 0 2) - (1 : Int32)) + (1 : Int32))))))))) (by repeat (first | exact hJ | exact hI | apply li_w))) rfl rfl rfl ⟨Nat.le_of_ble_eq_true rfl, Nat.le_of_ble_eq_true rfl⟩ (Nat.le_of_ble_eq_true rfl) dX1_add_149 ⟨Nat.le_of_ble_eq_true rfl, Nat.le_of_ble_eq_true rfl⟩ (fun H locs hW hS => ?_)
      have hO : s_X1_add a b t r v σ = s_X1_write ((σ 1 0 2) - (1 : Int32)) 5 (f_X1_checkAfter (f_X1_read ((σ 1 0 2) - (1 : Int32)) 5 σ) ((σ 1 0 2) - (1 : Int32)) (s_X1_write ((σ 1 0 2) - (1 : Int32)) 4 v (s_X1_write ((σ 1 0 2) - (1 : Int32)) 3 r (s_X1_write ((σ 1 0 2) - (1 : Int32)) 2 t (s_X1_write ((σ 1 0 2) - (1 : Int32)) 1 b (s_X1_write ((σ 1 0 2) - (1 : Int32)) 0 a (us (us (us (us (us σ 1 0 4 (f_X1_read 0 5 σ)) 1 0 1 (((σ 1 0 1) + (1 : Int32)) - ((σ 1 0 1) + (1 : Int32)) / (20 : Int32) * (20 : Int32))) 1 0 2 ((σ 1 0 2) - (1 : Int32))) 1 0 3 ((σ 1 0 3) + (1 : Int32))) 1 0 2 (((σ 1 0 2) - (1 : Int32)) + (1 : Int32))))))))) (s_X1_write ((σ 1 0 2) - (1 : Int32)) 4 v (s_X1_write ((σ 1 0 2) - (1 : Int32)) 3 r (s_X1_write ((σ 1 0 2) - (1 : Int32)) 2 t (s_X1_write ((σ 1 0 2) - (1 : Int32)) 1 b (s_X1_write ((σ 1 0 2) - (1 : Int32)) 0 a (us (us (us (us (us σ 1 0 4 (f_X1_read 0 5 σ)) 1 0 1 (((σ 1 0 1) + (1 : Int32)) - ((σ 1 0 1) + (1 : Int32)) / (20 : Int32) * (20 : Int32))) 1 0 2 ((σ 1 0 2) - (1 : Int32))) 1 0 3 ((σ 1 0 3) + (1 : Int32))) 1 0 2 (((σ 1 0 2) - (1 : Int32)) + (1 : Int32)))))))) := by rw [s_X1_add, if_neg c_1, if_pos c_2]
      exact w_vretV hC hW hS hO (Nat.le_of_ble_eq_true rfl) (Nat.le_of_ble_eq_true rfl) dX1_add_152
  · refine lv_aload_n hx hb dX1_add_7 rfl (lv_at hl 0 rfl) ?_
    refine gf_X1_15 hC hW m_1 dX1_add_8 ?_
    refine lv_goto (tgt := 25) hx hb dX1_add_11 (by decide) ?_
    refine lv_istore (lv' := [(6, .int (σ 1 0 4)), (0, .ref (ad 1 0)), (1, .int a), (2, .int b), (3, .int t), (4, .int r), (5, .int v)]) hx hb dX1_add_25 hl (by decide) rfl (fun ls hl => ?_)
    refine lv_aload_n hx hb dX1_add_27 rfl (lv_at hl 1 rfl) ?_
    refine gf_X1_19 hC hW m_1 dX1_add_28 ?_
    refine lv_bipush (v := 20) hx hb dX1_add_31 (by decide) ?_
    refine lv_icmp_ne (tgt := 79) hx hb dX1_add_33 (by decide) (fun c_3 => ?_) (fun c_3 => ?_)
    · refine lv_aload_n hx hb dX1_add_79 rfl (lv_at hl 1 rfl) ?_
      refine gf_X1_19 hC hW m_1 dX1_add_80 ?_
      refine lv_istore (lv' := [(7, .int (σ 1 0 2)), (6, .int (σ 1 0 4)), (0, .ref (ad 1 0)), (1, .int a), (2, .int b), (3, .int t), (4, .int r), (5, .int v)]) hx hb dX1_add_83 hl (by decide) rfl (fun ls hl => ?_)
      refine lv_aload_n hx hb dX1_add_85 rfl (lv_at hl 2 rfl) ?_
      refine lv_dup hx hb dX1_add_86 rfl ?_
      refine gf_X1_19 hC hW m_1 dX1_add_87 ?_
      refine lv_iconst (v := 1) hx hb dX1_add_90 (by decide) ?_
      refine lv_iadd hx hb dX1_add_91 ?_
      refine pf_X1_19 hC hW m_1 hS dX1_add_92 (fun H locs hW hS => ?_)
      have hJ : LogInv (us σ 1 0 2 ((σ 1 0 2) + (1 : Int32))) := li_one hI (by assumption)
      refine lv_aload_n hx hb dX1_add_95 rfl (lv_at hl 2 rfl) ?_
      refine lv_iload hx hb dX1_add_96 (lv_at hl 0 rfl) ?_
      refine lv_iconst (v := 0) hx hb dX1_add_98 (by decide) ?_
      refine lv_iload_n hx hb dX1_add_99 rfl (lv_at hl 3 rfl) ?_
      refine w_callV (As := [.int (σ 1 0 2), .int 0, .int a]) (rest := []) (st2 := []) hC hW hS hl cv_X1_32 m_1 (by decide) rfl (c_X1_write l hl9 D ca base ad (us σ 1 0 2 ((σ 1 0 2) + (1 : Int32))) (σ 1 0 2) 0 a (by repeat (first | exact hJ | exact hI | apply li_w))) rfl rfl rfl ⟨Nat.le_of_ble_eq_true rfl, Nat.le_of_ble_eq_true rfl⟩ (Nat.le_of_ble_eq_true rfl) dX1_add_100 ⟨Nat.le_of_ble_eq_true rfl, Nat.le_of_ble_eq_true rfl⟩ (fun H locs hW hS => ?_)
      refine lv_aload_n hx hb dX1_add_103 rfl (lv_at hl 2 rfl) ?_
      refine lv_iload hx hb dX1_add_104 (lv_at hl 0 rfl) ?_
      refine lv_iconst (v := 1) hx hb dX1_add_106 (by decide) ?_
      refine lv_iload_n hx hb dX1_add_107 rfl (lv_at hl 4 rfl) ?_
      refine w_callV (As := [.int (σ 1 0 2), .int 1, .int b]) (rest := []) (st2 := []) hC hW hS hl cv_X1_32 m_1 (by decide) rfl (c_X1_write l hl9 D ca base ad (s_X1_write (σ 1 0 2) 0 a (us σ 1 0 2 ((σ 1 0 2) + (1 : Int32)))) (σ 1 0 2) 1 b (by repeat (first | exact hJ | exact hI | apply li_w))) rfl rfl rfl ⟨Nat.le_of_ble_eq_true rfl, Nat.le_of_ble_eq_true rfl⟩ (Nat.le_of_ble_eq_true rfl) dX1_add_108 ⟨Nat.le_of_ble_eq_true rfl, Nat.le_of_ble_eq_true rfl⟩ (fun H locs hW hS => ?_)
      refine lv_aload_n hx hb dX1_add_111 rfl (lv_at hl 2 rfl) ?_
      refine lv_iload hx hb dX1_add_112 (lv_at hl 0 rfl) ?_
      refine lv_iconst (v := 2) hx hb dX1_add_114 (by decide) ?_
      refine lv_iload_n hx hb dX1_add_115 rfl (lv_at hl 5 rfl) ?_
      refine w_callV (As := [.int (σ 1 0 2), .int 2, .int t]) (rest := []) (st2 := []) hC hW hS hl cv_X1_32 m_1 (by decide) rfl (c_X1_write l hl9 D ca base ad (s_X1_write (σ 1 0 2) 1 b (s_X1_write (σ 1 0 2) 0 a (us σ 1 0 2 ((σ 1 0 2) + (1 : Int32))))) (σ 1 0 2) 2 t (by repeat (first | exact hJ | exact hI | apply li_w))) rfl rfl rfl ⟨Nat.le_of_ble_eq_true rfl, Nat.le_of_ble_eq_true rfl⟩ (Nat.le_of_ble_eq_true rfl) dX1_add_116 ⟨Nat.le_of_ble_eq_true rfl, Nat.le_of_ble_eq_true rfl⟩ (fun H locs hW hS => ?_)
      refine lv_aload_n hx hb dX1_add_119 rfl (lv_at hl 2 rfl) ?_
      refine lv_iload hx hb dX1_add_120 (lv_at hl 0 rfl) ?_
      refine lv_iconst (v := 3) hx hb dX1_add_122 (by decide) ?_
      refine lv_iload hx hb dX1_add_123 (lv_at hl 6 rfl) ?_
      refine w_callV (As := [.int (σ 1 0 2), .int 3, .int r]) (rest := []) (st2 := []) hC hW hS hl cv_X1_32 m_1 (by decide) rfl (c_X1_write l hl9 D ca base ad (s_X1_write (σ 1 0 2) 2 t (s_X1_write (σ 1 0 2) 1 b (s_X1_write (σ 1 0 2) 0 a (us σ 1 0 2 ((σ 1 0 2) + (1 : Int32)))))) (σ 1 0 2) 3 r (by repeat (first | exact hJ | exact hI | apply li_w))) rfl rfl rfl ⟨Nat.le_of_ble_eq_true rfl, Nat.le_of_ble_eq_true rfl⟩ (Nat.le_of_ble_eq_true rfl) dX1_add_125 ⟨Nat.le_of_ble_eq_true rfl, Nat.le_of_ble_eq_true rfl⟩ (fun H locs hW hS => ?_)
      refine lv_aload_n hx hb dX1_add_128 rfl (lv_at hl 2 rfl) ?_
      refine lv_iload hx hb dX1_add_129 (lv_at hl 0 rfl) ?_
      refine lv_iconst (v := 4) hx hb dX1_add_131 (by decide) ?_
      refine lv_iload hx hb dX1_add_132 (lv_at hl 7 rfl) ?_
      refine w_callV (As := [.int (σ 1 0 2), .int 4, .int v]) (rest := []) (st2 := []) hC hW hS hl cv_X1_32 m_1 (by decide) rfl (c_X1_write l hl9 D ca base ad (s_X1_write (σ 1 0 2) 3 r (s_X1_write (σ 1 0 2) 2 t (s_X1_write (σ 1 0 2) 1 b (s_X1_write (σ 1 0 2) 0 a (us σ 1 0 2 ((σ 1 0 2) + (1 : Int32))))))) (σ 1 0 2) 4 v (by repeat (first | exact hJ | exact hI | apply li_w))) rfl rfl rfl ⟨Nat.le_of_ble_eq_true rfl, Nat.le_of_ble_eq_true rfl⟩ (Nat.le_of_ble_eq_true rfl) dX1_add_134 ⟨Nat.le_of_ble_eq_true rfl, Nat.le_of_ble_eq_true rfl⟩ (fun H locs hW hS => ?_)
      refine lv_aload_n hx hb dX1_add_137 rfl (lv_at hl 2 rfl) ?_
      refine lv_iload hx hb dX1_add_138 (lv_at hl 0 rfl) ?_
      refine lv_iconst (v := 5) hx hb dX1_add_140 (by decide) ?_
      refine lv_aload_n hx hb dX1_add_141 rfl (lv_at hl 2 rfl) ?_
      refine lv_iload hx hb dX1_add_142 (lv_at hl 1 rfl) ?_
      refine lv_iload hx hb dX1_add_144 (lv_at hl 0 rfl) ?_
      refine w_callV (As := [.int (σ 1 0 4), .int (σ 1 0 2)]) (rest := .int 5 :: .int (σ 1 0 2) :: .ref (ad 1 0) :: []) (st2 := .int (f_X1_checkAfter (σ 1 0 4) (σ 1 0 2) (s_X1_write (σ 1 0 2) 4 v (s_X1_write (σ 1 0 2) 3 r (s_X1_write (σ 1 0 2) 2 t (s_X1_write (σ 1 0 2) 1 b (s_X1_write (σ 1 0 2) 0 a (us σ 1 0 2 ((σ 1 0 2) + (1 : Int32))))))))) :: .int 5 :: .int (σ 1 0 2) :: .ref (ad 1 0) :: []) hC hW hS hl cv_X1_36 m_1 (by decide) rfl (c_X1_checkAfter l hl9 D ca base ad (s_X1_write (σ 1 0 2) 4 v (s_X1_write (σ 1 0 2) 3 r (s_X1_write (σ 1 0 2) 2 t (s_X1_write (σ 1 0 2) 1 b (s_X1_write (σ 1 0 2) 0 a (us σ 1 0 2 ((σ 1 0 2) + (1 : Int32)))))))) (σ 1 0 4) (σ 1 0 2) (by repeat (first | exact hJ | exact hI | apply li_w))) rfl rfl rfl ⟨Nat.le_of_ble_eq_true rfl, Nat.le_of_ble_eq_true rfl⟩ (Nat.le_of_ble_eq_true rfl) dX1_add_146 ⟨Nat.le_of_ble_eq_true rfl, Nat.le_of_ble_eq_true rfl⟩ (fun H locs hW hS => ?_)
      refine w_callV (As := [.int (σ 1 0 2), .int 5, .int (f_X1_checkAfter (σ 1 0 4) (σ 1 0 2) (s_X1_write (σ 1 0 2) 4 v (s_X1_write (σ 1 0 2) 3 r (s_X1_write (σ 1 0 2) 2 t (s_X1_write (σ 1 0 2) 1 b (s_X1_write (σ 1 0 2) 0 a (us σ 1 0 2 ((σ 1 0 2) + (1 : Int32)))))))))]) (rest := []) (st2 := []) hC hW hS hl cv_X1_32 m_1 (by decide) rfl (c_X1_write l hl9 D ca base ad (s_X1_write (σ 1 0 2) 4 v (s_X1_write (σ 1 0 2) 3 r (s_X1_write (σ 1 0 2) 2 t (s_X1_write (σ 1 0 2) 1 b (s_X1_write (σ 1 0 2) 0 a (us σ 1 0 2 ((σ 1 0 2) + (1 : Int32)))))))) (σ 1 0 2) 5 (f_X1_checkAfter (σ 1 0 4) (σ 1 0 2) (s_X1_write (σ 1 0 2) 4 v (s_X1_write (σ 1 0 2) 3 r (s_X1_write (σ 1 0 2) 2 t (s_X1_write (σ 1 0 2) 1 b (s_X1_write (σ 1 0 2) 0 a (us σ 1 0 2 ((σ 1 0 2) + (1 : Int32))))))))) (by repeat (first | exact hJ | exact hI | apply li_w))) rfl rfl rfl ⟨Nat.le_of_ble_eq_true rfl, Nat.le_of_ble_eq_true rfl⟩ (Nat.le_of_ble_eq_true rfl) dX1_add_149 ⟨Nat.le_of_ble_eq_true rfl, Nat.le_of_ble_eq_true rfl⟩ (fun H locs hW hS => ?_)
      have hO : s_X1_add a b t r v σ = s_X1_write (σ 1 0 2) 5 (f_X1_checkAfter (σ 1 0 4) (σ 1 0 2) (s_X1_write (σ 1 0 2) 4 v (s_X1_write (σ 1 0 2) 3 r (s_X1_write (σ 1 0 2) 2 t (s_X1_write (σ 1 0 2) 1 b (s_X1_write (σ 1 0 2) 0 a (us σ 1 0 2 ((σ 1 0 2) + (1 : Int32))))))))) (s_X1_write (σ 1 0 2) 4 v (s_X1_write (σ 1 0 2) 3 r (s_X1_write (σ 1 0 2) 2 t (s_X1_write (σ 1 0 2) 1 b (s_X1_write (σ 1 0 2) 0 a (us σ 1 0 2 ((σ 1 0 2) + (1 : Int32)))))))) := by rw [s_X1_add, if_pos c_1, if_neg c_3]
      exact w_vretV hC hW hS hO (Nat.le_of_ble_eq_true rfl) (Nat.le_of_ble_eq_true rfl) dX1_add_152
    · refine lv_aload_n hx hb dX1_add_36 rfl (lv_at hl 1 rfl) ?_
      refine lv_aload_n hx hb dX1_add_37 rfl (lv_at hl 1 rfl) ?_
      refine lv_iconst (v := 0) hx hb dX1_add_38 (by decide) ?_
      refine lv_iconst (v := 5) hx hb dX1_add_39 (by decide) ?_
      refine w_callV (As := [.int 0, .int 5]) (rest := .ref (ad 1 0) :: []) (st2 := .int (f_X1_read 0 5 σ) :: .ref (ad 1 0) :: []) hC hW hS hl cv_X1_22 m_1 (by decide) rfl (c_X1_read l hl9 D ca base ad σ 0 5 (by repeat (first | exact hJ | exact hI | apply li_w))) rfl rfl rfl ⟨Nat.le_of_ble_eq_true rfl, Nat.le_of_ble_eq_true rfl⟩ (Nat.le_of_ble_eq_true rfl) dX1_add_40 ⟨Nat.le_of_ble_eq_true rfl, Nat.le_of_ble_eq_true rfl⟩ (fun H locs hW hS => ?_)
      refine pf_X1_15 hC hW m_1 hS dX1_add_43 (fun H locs hW hS => ?_)
      refine lv_aload_n hx hb dX1_add_46 rfl (lv_at hl 1 rfl) ?_
      refine lv_aload_n hx hb dX1_add_47 rfl (lv_at hl 1 rfl) ?_
      refine gf_X1_26 hC hW m_1 dX1_add_48 ?_
      refine lv_eqi (y := σ 1 0 1) (by rw [us_j (by decide)]) ?_
      refine lv_iconst (v := 1) hx hb dX1_add_51 (by decide) ?_
      refine lv_iadd hx hb dX1_add_52 ?_
      refine lv_bipush (v := 20) hx hb dX1_add_53 (by decide) ?_
      refine lv_irem hx hb dX1_add_55 (by decide) ?_
      refine pf_X1_26 hC hW m_1 hS dX1_add_56 (fun H locs hW hS => ?_)
      refine lv_aload_n hx hb dX1_add_59 rfl (lv_at hl 1 rfl) ?_
      refine lv_dup hx hb dX1_add_60 rfl ?_
      refine gf_X1_19 hC hW m_1 dX1_add_61 ?_
      refine lv_eqi (y := σ 1 0 2) (by rw [us_j (by decide), us_j (by decide)]) ?_
      refine lv_iconst (v := 1) hx hb dX1_add_64 (by decide) ?_
      refine lv_isub hx hb dX1_add_65 ?_
      refine pf_X1_19 hC hW m_1 hS dX1_add_66 (fun H locs hW hS => ?_)
      refine lv_aload_n hx hb dX1_add_69 rfl (lv_at hl 1 rfl) ?_
      refine lv_dup hx hb dX1_add_70 rfl ?_
      refine gf_X1_29 hC hW m_1 dX1_add_71 ?_
      refine lv_eqi (y := σ 1 0 3) (by rw [us_j (by decide), us_j (by decide), us_j (by decide)]) ?_
      refine lv_iconst (v := 1) hx hb dX1_add_74 (by decide) ?_
      refine lv_iadd hx hb dX1_add_75 ?_
      refine pf_X1_29 hC hW m_1 hS dX1_add_76 (fun H locs hW hS => ?_)
      refine lv_aload_n hx hb dX1_add_79 rfl (lv_at hl 1 rfl) ?_
      refine gf_X1_19 hC hW m_1 dX1_add_80 ?_
      refine lv_eqi (y := (σ 1 0 2) - (1 : Int32)) (by rw [us_j (by decide), us_h]) ?_
      refine lv_istore (lv' := [(7, .int ((σ 1 0 2) - (1 : Int32))), (6, .int (σ 1 0 4)), (0, .ref (ad 1 0)), (1, .int a), (2, .int b), (3, .int t), (4, .int r), (5, .int v)]) hx hb dX1_add_83 hl (by decide) rfl (fun ls hl => ?_)
      refine lv_aload_n hx hb dX1_add_85 rfl (lv_at hl 2 rfl) ?_
      refine lv_dup hx hb dX1_add_86 rfl ?_
      refine gf_X1_19 hC hW m_1 dX1_add_87 ?_
      refine lv_eqi (y := (σ 1 0 2) - (1 : Int32)) (by rw [us_j (by decide), us_h]) ?_
      refine lv_iconst (v := 1) hx hb dX1_add_90 (by decide) ?_
      refine lv_iadd hx hb dX1_add_91 ?_
      refine pf_X1_19 hC hW m_1 hS dX1_add_92 (fun H locs hW hS => ?_)
      have hJ : LogInv (us (us (us (us (us σ 1 0 4 (f_X1_read 0 5 σ)) 1 0 1 (((σ 1 0 1) + (1 : Int32)) - ((σ 1 0 1) + (1 : Int32)) / (20 : Int32) * (20 : Int32))) 1 0 2 ((σ 1 0 2) - (1 : Int32))) 1 0 3 ((σ 1 0 3) + (1 : Int32))) 1 0 2 (((σ 1 0 2) - (1 : Int32)) + (1 : Int32))) := li_full hI (by assumption) _ _
      refine lv_aload_n hx hb dX1_add_95 rfl (lv_at hl 2 rfl) ?_
      refine lv_iload hx hb dX1_add_96 (lv_at hl 0 rfl) ?_
      refine lv_iconst (v := 0) hx hb dX1_add_98 (by decide) ?_
      refine lv_iload_n hx hb dX1_add_99 rfl (lv_at hl 3 rfl) ?_
      refine w_callV (As := [.int ((σ 1 0 2) - (1 : Int32)), .int 0, .int a]) (rest := []) (st2 := []) hC hW hS hl cv_X1_32 m_1 (by decide) rfl (c_X1_write l hl9 D ca base ad (us (us (us (us (us σ 1 0 4 (f_X1_read 0 5 σ)) 1 0 1 (((σ 1 0 1) + (1 : Int32)) - ((σ 1 0 1) + (1 : Int32)) / (20 : Int32) * (20 : Int32))) 1 0 2 ((σ 1 0 2) - (1 : Int32))) 1 0 3 ((σ 1 0 3) + (1 : Int32))) 1 0 2 (((σ 1 0 2) - (1 : Int32)) + (1 : Int32))) ((σ 1 0 2) - (1 : Int32)) 0 a (by repeat (first | exact hJ | exact hI | apply li_w))) rfl rfl rfl ⟨Nat.le_of_ble_eq_true rfl, Nat.le_of_ble_eq_true rfl⟩ (Nat.le_of_ble_eq_true rfl) dX1_add_100 ⟨Nat.le_of_ble_eq_true rfl, Nat.le_of_ble_eq_true rfl⟩ (fun H locs hW hS => ?_)
      refine lv_aload_n hx hb dX1_add_103 rfl (lv_at hl 2 rfl) ?_
      refine lv_iload hx hb dX1_add_104 (lv_at hl 0 rfl) ?_
      refine lv_iconst (v := 1) hx hb dX1_add_106 (by decide) ?_
      refine lv_iload_n hx hb dX1_add_107 rfl (lv_at hl 4 rfl) ?_
      refine w_callV (As := [.int ((σ 1 0 2) - (1 : Int32)), .int 1, .int b]) (rest := []) (st2 := []) hC hW hS hl cv_X1_32 m_1 (by decide) rfl (c_X1_write l hl9 D ca base ad (s_X1_write ((σ 1 0 2) - (1 : Int32)) 0 a (us (us (us (us (us σ 1 0 4 (f_X1_read 0 5 σ)) 1 0 1 (((σ 1 0 1) + (1 : Int32)) - ((σ 1 0 1) + (1 : Int32)) / (20 : Int32) * (20 : Int32))) 1 0 2 ((σ 1 0 2) - (1 : Int32))) 1 0 3 ((σ 1 0 3) + (1 : Int32))) 1 0 2 (((σ 1 0 2) - (1 : Int32)) + (1 : Int32)))) ((σ 1 0 2) - (1 : Int32)) 1 b (by repeat (first | exact hJ | exact hI | apply li_w))) rfl rfl rfl ⟨Nat.le_of_ble_eq_true rfl, Nat.le_of_ble_eq_true rfl⟩ (Nat.le_of_ble_eq_true rfl) dX1_add_108 ⟨Nat.le_of_ble_eq_true rfl, Nat.le_of_ble_eq_true rfl⟩ (fun H locs hW hS => ?_)
      refine lv_aload_n hx hb dX1_add_111 rfl (lv_at hl 2 rfl) ?_
      refine lv_iload hx hb dX1_add_112 (lv_at hl 0 rfl) ?_
      refine lv_iconst (v := 2) hx hb dX1_add_114 (by decide) ?_
      refine lv_iload_n hx hb dX1_add_115 rfl (lv_at hl 5 rfl) ?_
      refine w_callV (As := [.int ((σ 1 0 2) - (1 : Int32)), .int 2, .int t]) (rest := []) (st2 := []) hC hW hS hl cv_X1_32 m_1 (by decide) rfl (c_X1_write l hl9 D ca base ad (s_X1_write ((σ 1 0 2) - (1 : Int32)) 1 b (s_X1_write ((σ 1 0 2) - (1 : Int32)) 0 a (us (us (us (us (us σ 1 0 4 (f_X1_read 0 5 σ)) 1 0 1 (((σ 1 0 1) + (1 : Int32)) - ((σ 1 0 1) + (1 : Int32)) / (20 : Int32) * (20 : Int32))) 1 0 2 ((σ 1 0 2) - (1 : Int32))) 1 0 3 ((σ 1 0 3) + (1 : Int32))) 1 0 2 (((σ 1 0 2) - (1 : Int32)) + (1 : Int32))))) ((σ 1 0 2) - (1 : Int32)) 2 t (by repeat (first | exact hJ | exact hI | apply li_w))) rfl rfl rfl ⟨Nat.le_of_ble_eq_true rfl, Nat.le_of_ble_eq_true rfl⟩ (Nat.le_of_ble_eq_true rfl) dX1_add_116 ⟨Nat.le_of_ble_eq_true rfl, Nat.le_of_ble_eq_true rfl⟩ (fun H locs hW hS => ?_)
      refine lv_aload_n hx hb dX1_add_119 rfl (lv_at hl 2 rfl) ?_
      refine lv_iload hx hb dX1_add_120 (lv_at hl 0 rfl) ?_
      refine lv_iconst (v := 3) hx hb dX1_add_122 (by decide) ?_
      refine lv_iload hx hb dX1_add_123 (lv_at hl 6 rfl) ?_
      refine w_callV (As := [.int ((σ 1 0 2) - (1 : Int32)), .int 3, .int r]) (rest := []) (st2 := []) hC hW hS hl cv_X1_32 m_1 (by decide) rfl (c_X1_write l hl9 D ca base ad (s_X1_write ((σ 1 0 2) - (1 : Int32)) 2 t (s_X1_write ((σ 1 0 2) - (1 : Int32)) 1 b (s_X1_write ((σ 1 0 2) - (1 : Int32)) 0 a (us (us (us (us (us σ 1 0 4 (f_X1_read 0 5 σ)) 1 0 1 (((σ 1 0 1) + (1 : Int32)) - ((σ 1 0 1) + (1 : Int32)) / (20 : Int32) * (20 : Int32))) 1 0 2 ((σ 1 0 2) - (1 : Int32))) 1 0 3 ((σ 1 0 3) + (1 : Int32))) 1 0 2 (((σ 1 0 2) - (1 : Int32)) + (1 : Int32)))))) ((σ 1 0 2) - (1 : Int32)) 3 r (by repeat (first | exact hJ | exact hI | apply li_w))) rfl rfl rfl ⟨Nat.le_of_ble_eq_true rfl, Nat.le_of_ble_eq_true rfl⟩ (Nat.le_of_ble_eq_true rfl) dX1_add_125 ⟨Nat.le_of_ble_eq_true rfl, Nat.le_of_ble_eq_true rfl⟩ (fun H locs hW hS => ?_)
      refine lv_aload_n hx hb dX1_add_128 rfl (lv_at hl 2 rfl) ?_
      refine lv_iload hx hb dX1_add_129 (lv_at hl 0 rfl) ?_
      refine lv_iconst (v := 4) hx hb dX1_add_131 (by decide) ?_
      refine lv_iload hx hb dX1_add_132 (lv_at hl 7 rfl) ?_
      refine w_callV (As := [.int ((σ 1 0 2) - (1 : Int32)), .int 4, .int v]) (rest := []) (st2 := []) hC hW hS hl cv_X1_32 m_1 (by decide) rfl (c_X1_write l hl9 D ca base ad (s_X1_write ((σ 1 0 2) - (1 : Int32)) 3 r (s_X1_write ((σ 1 0 2) - (1 : Int32)) 2 t (s_X1_write ((σ 1 0 2) - (1 : Int32)) 1 b (s_X1_write ((σ 1 0 2) - (1 : Int32)) 0 a (us (us (us (us (us σ 1 0 4 (f_X1_read 0 5 σ)) 1 0 1 (((σ 1 0 1) + (1 : Int32)) - ((σ 1 0 1) + (1 : Int32)) / (20 : Int32) * (20 : Int32))) 1 0 2 ((σ 1 0 2) - (1 : Int32))) 1 0 3 ((σ 1 0 3) + (1 : Int32))) 1 0 2 (((σ 1 0 2) - (1 : Int32)) + (1 : Int32))))))) ((σ 1 0 2) - (1 : Int32)) 4 v (by repeat (first | exact hJ | exact hI | apply li_w))) rfl rfl rfl ⟨Nat.le_of_ble_eq_true rfl, Nat.le_of_ble_eq_true rfl⟩ (Nat.le_of_ble_eq_true rfl) dX1_add_134 ⟨Nat.le_of_ble_eq_true rfl, Nat.le_of_ble_eq_true rfl⟩ (fun H locs hW hS => ?_)
      refine lv_aload_n hx hb dX1_add_137 rfl (lv_at hl 2 rfl) ?_
      refine lv_iload hx hb dX1_add_138 (lv_at hl 0 rfl) ?_
      refine lv_iconst (v := 5) hx hb dX1_add_140 (by decide) ?_
      refine lv_aload_n hx hb dX1_add_141 rfl (lv_at hl 2 rfl) ?_
      refine lv_iload hx hb dX1_add_142 (lv_at hl 1 rfl) ?_
      refine lv_iload hx hb dX1_add_144 (lv_at hl 0 rfl) ?_
      refine w_callV (As := [.int (σ 1 0 4), .int ((σ 1 0 2) - (1 : Int32))]) (rest := .int 5 :: .int ((σ 1 0 2) - (1 : Int32)) :: .ref (ad 1 0) :: []) (st2 := .int (f_X1_checkAfter (σ 1 0 4) ((σ 1 0 2) - (1 : Int32)) (s_X1_write ((σ 1 0 2) - (1 : Int32)) 4 v (s_X1_write ((σ 1 0 2) - (1 : Int32)) 3 r (s_X1_write ((σ 1 0 2) - (1 : Int32)) 2 t (s_X1_write ((σ 1 0 2) - (1 : Int32)) 1 b (s_X1_write ((σ 1 0 2) - (1 : Int32)) 0 a (us (us (us (us (us σ 1 0 4 (f_X1_read 0 5 σ)) 1 0 1 (((σ 1 0 1) + (1 : Int32)) - ((σ 1 0 1) + (1 : Int32)) / (20 : Int32) * (20 : Int32))) 1 0 2 ((σ 1 0 2) - (1 : Int32))) 1 0 3 ((σ 1 0 3) + (1 : Int32))) 1 0 2 (((σ 1 0 2) - (1 : Int32)) + (1 : Int32))))))))) :: .int 5 :: .int ((σ 1 0 2) - (1 : Int32)) :: .ref (ad 1 0) :: []) hC hW hS hl cv_X1_36 m_1 (by decide) rfl (c_X1_checkAfter l hl9 D ca base ad (s_X1_write ((σ 1 0 2) - (1 : Int32)) 4 v (s_X1_write ((σ 1 0 2) - (1 : Int32)) 3 r (s_X1_write ((σ 1 0 2) - (1 : Int32)) 2 t (s_X1_write ((σ 1 0 2) - (1 : Int32)) 1 b (s_X1_write ((σ 1 0 2) - (1 : Int32)) 0 a (us (us (us (us (us σ 1 0 4 (f_X1_read 0 5 σ)) 1 0 1 (((σ 1 0 1) + (1 : Int32)) - ((σ 1 0 1) + (1 : Int32)) / (20 : Int32) * (20 : Int32))) 1 0 2 ((σ 1 0 2) - (1 : Int32))) 1 0 3 ((σ 1 0 3) + (1 : Int32))) 1 0 2 (((σ 1 0 2) - (1 : Int32)) + (1 : Int32)))))))) (σ 1 0 4) ((σ 1 0 2) - (1 : Int32)) (by repeat (first | exact hJ | exact hI | apply li_w))) rfl rfl rfl ⟨Nat.le_of_ble_eq_true rfl, Nat.le_of_ble_eq_true rfl⟩ (Nat.le_of_ble_eq_true rfl) dX1_add_146 ⟨Nat.le_of_ble_eq_true rfl, Nat.le_of_ble_eq_true rfl⟩ (fun H locs hW hS => ?_)
      refine w_callV (As := [.int ((σ 1 0 2) - (1 : Int32)), .int 5, .int (f_X1_checkAfter (σ 1 0 4) ((σ 1 0 2) - (1 : Int32)) (s_X1_write ((σ 1 0 2) - (1 : Int32)) 4 v (s_X1_write ((σ 1 0 2) - (1 : Int32)) 3 r (s_X1_write ((σ 1 0 2) - (1 : Int32)) 2 t (s_X1_write ((σ 1 0 2) - (1 : Int32)) 1 b (s_X1_write ((σ 1 0 2) - (1 : Int32)) 0 a (us (us (us (us (us σ 1 0 4 (f_X1_read 0 5 σ)) 1 0 1 (((σ 1 0 1) + (1 : Int32)) - ((σ 1 0 1) + (1 : Int32)) / (20 : Int32) * (20 : Int32))) 1 0 2 ((σ 1 0 2) - (1 : Int32))) 1 0 3 ((σ 1 0 3) + (1 : Int32))) 1 0 2 (((σ 1 0 2) - (1 : Int32)) + (1 : Int32)))))))))]) (rest := []) (st2 := []) hC hW hS hl cv_X1_32 m_1 (by decide) rfl (c_X1_write l hl9 D ca base ad (s_X1_write ((σ 1 0 2) - (1 : Int32)) 4 v (s_X1_write ((σ 1 0 2) - (1 : Int32)) 3 r (s_X1_write ((σ 1 0 2) - (1 : Int32)) 2 t (s_X1_write ((σ 1 0 2) - (1 : Int32)) 1 b (s_X1_write ((σ 1 0 2) - (1 : Int32)) 0 a (us (us (us (us (us σ 1 0 4 (f_X1_read 0 5 σ)) 1 0 1 (((σ 1 0 1) + (1 : Int32)) - ((σ 1 0 1) + (1 : Int32)) / (20 : Int32) * (20 : Int32))) 1 0 2 ((σ 1 0 2) - (1 : Int32))) 1 0 3 ((σ 1 0 3) + (1 : Int32))) 1 0 2 (((σ 1 0 2) - (1 : Int32)) + (1 : Int32)))))))) ((σ 1 0 2) - (1 : Int32)) 5 (f_X1_checkAfter (σ 1 0 4) ((σ 1 0 2) - (1 : Int32)) (s_X1_write ((σ 1 0 2) - (1 : Int32)) 4 v (s_X1_write ((σ 1 0 2) - (1 : Int32)) 3 r (s_X1_write ((σ 1 0 2) - (1 : Int32)) 2 t (s_X1_write ((σ 1 0 2) - (1 : Int32)) 1 b (s_X1_write ((σ 1 0 2) - (1 : Int32)) 0 a (us (us (us (us (us σ 1 0 4 (f_X1_read 0 5 σ)) 1 0 1 (((σ 1 0 1) + (1 : Int32)) - ((σ 1 0 1) + (1 : Int32)) / (20 : Int32) * (20 : Int32))) 1 0 2 ((σ 1 0 2) - (1 : Int32))) 1 0 3 ((σ 1 0 3) + (1 : Int32))) 1 0 2 (((σ 1 0 2) - (1 : Int32)) + (1 : Int32))))))))) (by repeat (first | exact hJ | exact hI | apply li_w))) rfl rfl rfl ⟨Nat.le_of_ble_eq_true rfl, Nat.le_of_ble_eq_true rfl⟩ (Nat.le_of_ble_eq_true rfl) dX1_add_149 ⟨Nat.le_of_ble_eq_true rfl, Nat.le_of_ble_eq_true rfl⟩ (fun H locs hW hS => ?_)
      have hO : s_X1_add a b t r v σ = s_X1_write ((σ 1 0 2) - (1 : Int32)) 5 (f_X1_checkAfter (σ 1 0 4) ((σ 1 0 2) - (1 : Int32)) (s_X1_write ((σ 1 0 2) - (1 : Int32)) 4 v (s_X1_write ((σ 1 0 2) - (1 : Int32)) 3 r (s_X1_write ((σ 1 0 2) - (1 : Int32)) 2 t (s_X1_write ((σ 1 0 2) - (1 : Int32)) 1 b (s_X1_write ((σ 1 0 2) - (1 : Int32)) 0 a (us (us (us (us (us σ 1 0 4 (f_X1_read 0 5 σ)) 1 0 1 (((σ 1 0 1) + (1 : Int32)) - ((σ 1 0 1) + (1 : Int32)) / (20 : Int32) * (20 : Int32))) 1 0 2 ((σ 1 0 2) - (1 : Int32))) 1 0 3 ((σ 1 0 3) + (1 : Int32))) 1 0 2 (((σ 1 0 2) - (1 : Int32)) + (1 : Int32))))))))) (s_X1_write ((σ 1 0 2) - (1 : Int32)) 4 v (s_X1_write ((σ 1 0 2) - (1 : Int32)) 3 r (s_X1_write ((σ 1 0 2) - (1 : Int32)) 2 t (s_X1_write ((σ 1 0 2) - (1 : Int32)) 1 b (s_X1_write ((σ 1 0 2) - (1 : Int32)) 0 a (us (us (us (us (us σ 1 0 4 (f_X1_read 0 5 σ)) 1 0 1 (((σ 1 0 1) + (1 : Int32)) - ((σ 1 0 1) + (1 : Int32)) / (20 : Int32) * (20 : Int32))) 1 0 2 ((σ 1 0 2) - (1 : Int32))) 1 0 3 ((σ 1 0 3) + (1 : Int32))) 1 0 2 (((σ 1 0 2) - (1 : Int32)) + (1 : Int32)))))))) := by rw [s_X1_add, if_pos c_1, if_pos c_3]
      exact w_vretV hC hW hS hO (Nat.le_of_ble_eq_true rfl) (Nat.le_of_ble_eq_true rfl) dX1_add_152
theorem fr_X1_add {kk : Nat}  {a : Int32} {b : Int32} {t : Int32} {r : Int32} {v : Int32} {σ : Sg} (h1 : kk ≠ 1) (h11 : kk ≠ 11) : (s_X1_add a b t r v σ) kk = σ kk := by
  rw [s_X1_add]
  repeat' split
  all_goals (first | (simp only [us_kk, ne_eq, not_false_eq_true, h1, h11, fr_X1_write]; done) | with_reducible rfl | (simp only [us_kk, ne_eq, not_false_eq_true, h1, h11, fr_X1_write]; with_reducible rfl))
def s_X4_clear_L7  : Nat → Nat → Sg → Sg
  | 0, _, σ7 => σ7
  | n7 + 1, k7, σ7 => if 192 ≤ (nI k7) then σ7
    else s_X4_clear_L7 n7 (k7 + 1) (us σ7 19 0 k7 (-1))
def s_X4_clear  (σ : Sg) : Sg :=
  (s_X4_clear_L7 193 0 (us σ 4 0 2 0))
set_option maxHeartbeats 4000000 in
set_option maxRecDepth 100000 in
theorem c_X4_clear (l : Launch) (hl9 : l.stackTraces = false) (D : va_G) (ca : Nat → ClassId) (base : Nat) (ad : Adr) (σ : Sg)   : Mt l yX4_clear cX4_clear 2 none { frames := 0, cells := 0, slots := 0, locals := 0 } D ca base ad ρm Lm [.ref (ad 4 0)] σ none (s_X4_clear σ) := by
  refine w_ofW (by decide) (Nat.le_of_ble_eq_true rfl) rfl ?_
  intro p e s m args below meth c hC hW hS ls hl hin
  have hx := hC.1
  have hb := hC.2.1
  refine lv_aload_n hx hb dX4_clear_0 rfl (lv_at hl 0 rfl) ?_
  refine lv_iconst (v := 0) hx hb dX4_clear_1 (by decide) ?_
  refine pf_X4_18 hC hW m_4 hS dX4_clear_2 (fun H locs hW hS => ?_)
  refine lv_iconst (v := 0) hx hb dX4_clear_5 (by decide) ?_
  refine lv_istore_n (lv' := [(1, .int 0), (0, .ref (ad 4 0))]) hx hb dX4_clear_6 rfl hl (by decide) rfl (fun ls hl => ?_)
  have h_7 : ∀ (n7 k7 : Nat) (σ7 : Sg) (H : Heap) (locs : List Loc) (ls : Array Slot), 193 ≤ k7 + n7 → k7 ≤ 192 → Wd D ca (Ab base) ad ρm Lm σ7 H → va_S (Ab base) s.heap H locs → lv_has ls 2 [(1, .int (nI k7)), (0, .ref (ad 4 0))] → s_X4_clear σ = ((s_X4_clear_L7 n7 k7 σ7)) → W p l e ({ frames := 0, cells := 0, slots := 0, locals := 0 } : Room) s m args below meth c H locs 0 0 (MQ below (Rt D ca base ad ρm Lm (s_X4_clear σ) none) args s 0 0 (Ab base)) (F0 m 7 ls []) := by
    intro n7
    induction n7 with
    | zero =>
      intro k7 σ7 H locs ls hk1_7 hk2_7 hW hS hl hO
      exact absurd hk1_7 (by omega)
    | succ n7 ih_7 =>
      intro k7 σ7 H locs ls hk1_7 hk2_7 hW hS hl hO
      refine lv_iload_n hx hb dX4_clear_7 rfl (lv_at hl 0 rfl) ?_
      refine lv_sipush (v := 192) hx hb dX4_clear_8 (by decide) ?_
      refine lv_icmp_ge (tgt := 27) hx hb dX4_clear_11 (by decide) (fun c_1 => ?_) (fun c_1 => ?_)
      · replace hl := lv_sub hl [1] (l' := [(0, .ref (ad 4 0))]) rfl
        have hO : s_X4_clear σ = σ7 := by rw [hO, s_X4_clear_L7, if_pos c_1]
        exact w_vretV hC hW hS hO (Nat.le_of_ble_eq_true rfl) (Nat.le_of_ble_eq_true rfl) dX4_clear_27
      · have hi_c_1 : k7 < 192 := idx_lt c_1 (by decide) (by decide) (by omega)
        refine lv_aload_n hx hb dX4_clear_14 rfl (lv_at hl 1 rfl) ?_
        refine gf_X4_15 hC hW m_4 rfl dX4_clear_15 ?_
        refine lv_iload_n hx hb dX4_clear_18 rfl (lv_at hl 0 rfl) ?_
        refine lv_iconst (v := (-1)) hx hb dX4_clear_19 (by decide) ?_
        refine w_iast hC hW hS m_19 (n := 192) (fun _ => rfl) (vp_in_nI (by omega) (by omega)) dX4_clear_20 (fun H locs hW hS => ?_)
        rw [nI_clamp (by omega)] at hW
        refine lv_iinc (v := nI (k7 + 1)) (lv' := [(1, .int (nI (k7 + 1))), (0, .ref (ad 4 0))]) hx hb dX4_clear_21 hl (k := 0) rfl (nI_1 _) (by decide) rfl (fun ls hl => ?_)
        refine lv_goto (tgt := 7) hx hb dX4_clear_24 (by decide) ?_
        refine ih_7 (k7 + 1) (us σ7 19 0 k7 (-1)) _ _ _ (by omega) (by omega)  hW hS (lv_sub hl [0, 1] rfl) ?_
        rw [hO, s_X4_clear_L7, if_neg c_1]
  refine h_7 193 0 (us σ 4 0 2 0) _ _ _ (by omega) (by omega)  hW hS (lv_sub hl [0, 1] rfl) ?_
  rw [s_X4_clear]
theorem fr_s_X4_clear_L7 {kk : Nat}  (h4 : kk ≠ 4) (h19 : kk ≠ 19) : ∀ (y0 : Nat) (y1 : Nat) (σ : Sg), (s_X4_clear_L7 y0 y1 σ) kk = σ kk := by
  intro y0
  induction y0 with
  | zero => intros; rfl
  | succ n ih =>
    intros
    rw [s_X4_clear_L7]
    repeat' split
    all_goals (first | (simp only [ih, us_kk, ne_eq, not_false_eq_true, h4, h19]; done) | with_reducible rfl | (simp only [ih, us_kk, ne_eq, not_false_eq_true, h4, h19]; with_reducible rfl))
theorem fr_X4_clear {kk : Nat}   {σ : Sg} (h4 : kk ≠ 4) (h19 : kk ≠ 19) : (s_X4_clear σ) kk = σ kk := by
  rw [s_X4_clear]
  repeat' split
  all_goals (first | (simp only [us_kk, ne_eq, not_false_eq_true, h4, h19, fr_s_X4_clear_L7]; done) | with_reducible rfl | (simp only [us_kk, ne_eq, not_false_eq_true, h4, h19, fr_s_X4_clear_L7]; with_reducible rfl))

def s_X4_add (i : Nat) (a : Int32) (σ : Sg) : Sg :=
  if (((((σ 0 i 0) * (4 : Int32)) + (σ 0 i 1)) * (8 : Int32)) + (σ 0 i 4)) < 0 then σ
  else if 192 ≤ (((((σ 0 i 0) * (4 : Int32)) + (σ 0 i 1)) * (8 : Int32)) + (σ 0 i 4)) then σ
  else if (σ 19 0 ((((((σ 0 i 0) * (4 : Int32)) + (σ 0 i 1)) * (8 : Int32)) + (σ 0 i 4)).toNatClampNeg)) = (-1) then (if 192 ≤ (σ 4 0 2) then σ
    else us (us (us σ 19 0 ((((((σ 0 i 0) * (4 : Int32)) + (σ 0 i 1)) * (8 : Int32)) + (σ 0 i 4)).toNatClampNeg) a) 18 0 ((σ 4 0 2).toNatClampNeg) (((((σ 0 i 0) * (4 : Int32)) + (σ 0 i 1)) * (8 : Int32)) + (σ 0 i 4))) 4 0 2 ((σ 4 0 2) + (1 : Int32)))
  else σ
set_option maxHeartbeats 4000000 in
set_option maxRecDepth 100000 in
theorem c_X4_add (l : Launch) (hl9 : l.stackTraces = false) (D : va_G) (ca : Nat → ClassId) (base : Nat) (ad : Adr) (σ : Sg) (i : Nat) (a : Int32) (hi : i < 12) (hI : ¬ σ 4 0 2 < 0) : Mt l yX4_add cX4_add 4 none { frames := 0, cells := 0, slots := 0, locals := 0 } D ca base ad ρm Lm [.ref (ad 4 0), .ref (ad 0 i), .int a] σ none (s_X4_add i a σ) := by
  refine w_ofW (by decide) (Nat.le_of_ble_eq_true rfl) rfl ?_
  intro p e s m args below meth c hC hW hS ls hl hin
  have hx := hC.1
  have hb := hC.2.1
  refine lv_aload_n hx hb dX4_add_0 rfl (lv_at hl 1 rfl) ?_
  refine gf_X4_22 hC hW (mm_0 hi) dX4_add_1 ?_
  refine lv_iconst (v := 4) hx hb dX4_add_4 (by decide) ?_
  refine lv_imul hx hb dX4_add_5 ?_
  refine lv_aload_n hx hb dX4_add_6 rfl (lv_at hl 1 rfl) ?_
  refine gf_X4_27 hC hW (mm_0 hi) dX4_add_7 ?_
  refine lv_iadd hx hb dX4_add_10 ?_
  refine lv_bipush (v := 8) hx hb dX4_add_11 (by decide) ?_
  refine lv_imul hx hb dX4_add_13 ?_
  refine lv_aload_n hx hb dX4_add_14 rfl (lv_at hl 1 rfl) ?_
  refine gf_X4_30 hC hW (mm_0 hi) dX4_add_15 ?_
  refine lv_iadd hx hb dX4_add_18 ?_
  refine lv_istore_n (lv' := [(3, .int (((((σ 0 i 0) * (4 : Int32)) + (σ 0 i 1)) * (8 : Int32)) + (σ 0 i 4))), (0, .ref (ad 4 0)), (1, .ref (ad 0 i)), (2, .int a)]) hx hb dX4_add_19 rfl hl (by decide) rfl (fun ls hl => ?_)
  refine lv_iload_n hx hb dX4_add_20 rfl (lv_at hl 0 rfl) ?_
  refine lv_if_lt (tgt := 78) hx hb dX4_add_21 (by decide) (fun c_1 => ?_) (fun c_1 => ?_)
  · have hO : s_X4_add i a σ = σ := by rw [s_X4_add, if_pos c_1]
    exact w_vretV hC hW hS hO (Nat.le_of_ble_eq_true rfl) (Nat.le_of_ble_eq_true rfl) dX4_add_78
  · refine lv_iload_n hx hb dX4_add_24 rfl (lv_at hl 0 rfl) ?_
    refine lv_sipush (v := 192) hx hb dX4_add_25 (by decide) ?_
    refine lv_icmp_ge (tgt := 78) hx hb dX4_add_28 (by decide) (fun c_2 => ?_) (fun c_2 => ?_)
    · have hO : s_X4_add i a σ = σ := by rw [s_X4_add, if_neg c_1, if_pos c_2]
      exact w_vretV hC hW hS hO (Nat.le_of_ble_eq_true rfl) (Nat.le_of_ble_eq_true rfl) dX4_add_78
    · refine lv_aload_n hx hb dX4_add_31 rfl (lv_at hl 1 rfl) ?_
      refine gf_X4_15 hC hW m_4 rfl dX4_add_32 ?_
      refine lv_iload_n hx hb dX4_add_35 rfl (lv_at hl 0 rfl) ?_
      refine w_iald hC hW m_19 (n := 192) rfl (by first | assumption | exact vp_in_c (y := 192) (by decide) (by decide) (by assumption) (by assumption) | exact vp_in_d (y := 192) (by decide) (by decide) (by assumption) (by assumption)) dX4_add_36 ?_
      refine lv_iconst (v := (-1)) hx hb dX4_add_37 (by decide) ?_
      refine lv_icmp_ne (tgt := 78) hx hb dX4_add_38 (by decide) (fun c_3 => ?_) (fun c_3 => ?_)
      · have hO : s_X4_add i a σ = σ := by rw [s_X4_add, if_neg c_1, if_neg c_2, if_neg c_3]
        exact w_vretV hC hW hS hO (Nat.le_of_ble_eq_true rfl) (Nat.le_of_ble_eq_true rfl) dX4_add_78
      · refine lv_aload_n hx hb dX4_add_41 rfl (lv_at hl 1 rfl) ?_
        refine gf_X4_18 hC hW m_4 dX4_add_42 ?_
        refine lv_sipush (v := 192) hx hb dX4_add_45 (by decide) ?_
        refine lv_icmp_ge (tgt := 78) hx hb dX4_add_48 (by decide) (fun c_4 => ?_) (fun c_4 => ?_)
        · have hO : s_X4_add i a σ = σ := by rw [s_X4_add, if_neg c_1, if_neg c_2, if_pos c_3, if_pos c_4]
          exact w_vretV hC hW hS hO (Nat.le_of_ble_eq_true rfl) (Nat.le_of_ble_eq_true rfl) dX4_add_78
        · refine lv_aload_n hx hb dX4_add_51 rfl (lv_at hl 1 rfl) ?_
          refine gf_X4_15 hC hW m_4 rfl dX4_add_52 ?_
          refine lv_iload_n hx hb dX4_add_55 rfl (lv_at hl 0 rfl) ?_
          refine lv_iload_n hx hb dX4_add_56 rfl (lv_at hl 3 rfl) ?_
          refine w_iast hC hW hS m_19 (n := 192) (fun _ => rfl) (by first | assumption | exact vp_in_c (y := 192) (by decide) (by decide) (by assumption) (by assumption) | exact vp_in_d (y := 192) (by decide) (by decide) (by assumption) (by assumption)) dX4_add_57 (fun H locs hW hS => ?_)
          refine lv_aload_n hx hb dX4_add_58 rfl (lv_at hl 1 rfl) ?_
          refine gf_X4_11 hC hW m_4 rfl dX4_add_59 ?_
          refine lv_aload_n hx hb dX4_add_62 rfl (lv_at hl 1 rfl) ?_
          refine gf_X4_18 hC hW m_4 dX4_add_63 ?_
          refine lv_eqi (y := σ 4 0 2) (by rw [us_k (by decide)]) ?_
          refine lv_iload_n hx hb dX4_add_66 rfl (lv_at hl 0 rfl) ?_
          refine w_iast hC hW hS m_18 (n := 192) (fun _ => rfl) (by first | assumption | exact vp_in_c (y := 192) (by decide) (by decide) (by assumption) (by assumption) | exact vp_in_d (y := 192) (by decide) (by decide) (by assumption) (by assumption)) dX4_add_67 (fun H locs hW hS => ?_)
          refine lv_aload_n hx hb dX4_add_68 rfl (lv_at hl 1 rfl) ?_
          refine lv_dup hx hb dX4_add_69 rfl ?_
          refine gf_X4_18 hC hW m_4 dX4_add_70 ?_
          refine lv_eqi (y := σ 4 0 2) (by rw [us_k (by decide), us_k (by decide)]) ?_
          refine lv_iconst (v := 1) hx hb dX4_add_73 (by decide) ?_
          refine lv_iadd hx hb dX4_add_74 ?_
          refine pf_X4_18 hC hW m_4 hS dX4_add_75 (fun H locs hW hS => ?_)
          have hO : s_X4_add i a σ = us (us (us σ 19 0 ((((((σ 0 i 0) * (4 : Int32)) + (σ 0 i 1)) * (8 : Int32)) + (σ 0 i 4)).toNatClampNeg) a) 18 0 ((σ 4 0 2).toNatClampNeg) (((((σ 0 i 0) * (4 : Int32)) + (σ 0 i 1)) * (8 : Int32)) + (σ 0 i 4))) 4 0 2 ((σ 4 0 2) + (1 : Int32)) := by rw [s_X4_add, if_neg c_1, if_neg c_2, if_pos c_3, if_neg c_4]
          exact w_vretV hC hW hS hO (Nat.le_of_ble_eq_true rfl) (Nat.le_of_ble_eq_true rfl) dX4_add_78
theorem fr_X4_add {kk : Nat}  {i : Nat} {a : Int32} {σ : Sg} (h4 : kk ≠ 4) (h18 : kk ≠ 18) (h19 : kk ≠ 19) : (s_X4_add i a σ) kk = σ kk := by
  rw [s_X4_add]
  repeat' split
  all_goals (first | (simp only [us_kk, ne_eq, not_false_eq_true, h4, h18, h19]; done) | with_reducible rfl | (simp only [us_kk, ne_eq, not_false_eq_true, h4, h18, h19]; with_reducible rfl))

def f_X4_restore (i : Nat) (x : Int32) (σ : Sg) : Int32 × Sg :=
  if x < 0 then ((-1), σ)
  else if x < 192 then (if (σ 18 0 x.toNatClampNeg) < 0 then ((-1), σ)
    else if (σ 18 0 x.toNatClampNeg) < 192 then (σ 19 0 ((σ 18 0 x.toNatClampNeg).toNatClampNeg), us (us (us σ 0 i 4 ((σ 18 0 x.toNatClampNeg) - (σ 18 0 x.toNatClampNeg) / (8 : Int32) * (8 : Int32))) 0 i 1 (((σ 18 0 x.toNatClampNeg) / (8 : Int32)) - ((σ 18 0 x.toNatClampNeg) / (8 : Int32)) / (4 : Int32) * (4 : Int32))) 0 i 0 (((σ 18 0 x.toNatClampNeg) / (8 : Int32)) / (4 : Int32)))
    else ((-1), σ))
  else ((-1), σ)
set_option maxHeartbeats 4000000 in
set_option maxRecDepth 100000 in
theorem c_X4_restore (l : Launch) (hl9 : l.stackTraces = false) (D : va_G) (ca : Nat → ClassId) (base : Nat) (ad : Adr) (σ : Sg) (i : Nat) (x : Int32) (hi : i < 12) : Mt l yX4_restore cX4_restore 4 (some .int) { frames := 0, cells := 0, slots := 0, locals := 0 } D ca base ad ρm Lm [.ref (ad 4 0), .ref (ad 0 i), .int x] σ (some (.int (f_X4_restore i x σ).1)) (f_X4_restore i x σ).2 := by
  refine w_ofW (by decide) (Nat.le_of_ble_eq_true rfl) rfl ?_
  intro p e s m args below meth c hC hW hS ls hl hin
  have hx := hC.1
  have hb := hC.2.1
  refine lv_iload_n hx hb dX4_restore_0 rfl (lv_at hl 2 rfl) ?_
  refine lv_if_lt (tgt := 11) hx hb dX4_restore_1 (by decide) (fun c_1 => ?_) (fun c_1 => ?_)
  · refine lv_iconst (v := (-1)) hx hb dX4_restore_11 (by decide) ?_
    have hO : f_X4_restore i x σ = ((-1), σ) := by rw [f_X4_restore, if_pos c_1]
    exact w_iretS hC hW hS hO (Nat.le_of_ble_eq_true rfl) (Nat.le_of_ble_eq_true rfl) dX4_restore_12
  · refine lv_iload_n hx hb dX4_restore_4 rfl (lv_at hl 2 rfl) ?_
    refine lv_sipush (v := 192) hx hb dX4_restore_5 (by decide) ?_
    refine lv_icmp_lt (tgt := 13) hx hb dX4_restore_8 (by decide) (fun c_2 => ?_) (fun c_2 => ?_)
    · refine lv_aload_n hx hb dX4_restore_13 rfl (lv_at hl 0 rfl) ?_
      refine gf_X4_11 hC hW m_4 rfl dX4_restore_14 ?_
      refine lv_iload_n hx hb dX4_restore_17 rfl (lv_at hl 2 rfl) ?_
      refine w_iald hC hW m_18 (n := 192) rfl (by first | assumption | exact vp_in_c (y := 192) (by decide) (by decide) (by assumption) (by assumption) | exact vp_in_d (y := 192) (by decide) (by decide) (by assumption) (by assumption)) dX4_restore_18 ?_
      refine lv_istore_n (lv' := [(3, .int (σ 18 0 x.toNatClampNeg)), (0, .ref (ad 4 0)), (1, .ref (ad 0 i)), (2, .int x)]) hx hb dX4_restore_19 rfl hl (by decide) rfl (fun ls hl => ?_)
      refine lv_iload_n hx hb dX4_restore_20 rfl (lv_at hl 0 rfl) ?_
      refine lv_if_lt (tgt := 31) hx hb dX4_restore_21 (by decide) (fun c_3 => ?_) (fun c_3 => ?_)
      · refine lv_iconst (v := (-1)) hx hb dX4_restore_31 (by decide) ?_
        have hO : f_X4_restore i x σ = ((-1), σ) := by rw [f_X4_restore, if_neg c_1, if_pos c_2, if_pos c_3]
        exact w_iretS hC hW hS hO (Nat.le_of_ble_eq_true rfl) (Nat.le_of_ble_eq_true rfl) dX4_restore_32
      · refine lv_iload_n hx hb dX4_restore_24 rfl (lv_at hl 0 rfl) ?_
        refine lv_sipush (v := 192) hx hb dX4_restore_25 (by decide) ?_
        refine lv_icmp_lt (tgt := 33) hx hb dX4_restore_28 (by decide) (fun c_4 => ?_) (fun c_4 => ?_)
        · refine lv_aload_n hx hb dX4_restore_33 rfl (lv_at hl 2 rfl) ?_
          refine lv_iload_n hx hb dX4_restore_34 rfl (lv_at hl 0 rfl) ?_
          refine lv_bipush (v := 8) hx hb dX4_restore_35 (by decide) ?_
          refine lv_irem hx hb dX4_restore_37 (by decide) ?_
          refine pf_X4_30 hC hW (mm_0 hi) hS dX4_restore_38 (fun H locs hW hS => ?_)
          refine lv_aload_n hx hb dX4_restore_41 rfl (lv_at hl 2 rfl) ?_
          refine lv_iload_n hx hb dX4_restore_42 rfl (lv_at hl 0 rfl) ?_
          refine lv_bipush (v := 8) hx hb dX4_restore_43 (by decide) ?_
          refine lv_idiv hx hb dX4_restore_45 (by decide) ?_
          refine lv_iconst (v := 4) hx hb dX4_restore_46 (by decide) ?_
          refine lv_irem hx hb dX4_restore_47 (by decide) ?_
          refine pf_X4_27 hC hW (mm_0 hi) hS dX4_restore_48 (fun H locs hW hS => ?_)
          refine lv_aload_n hx hb dX4_restore_51 rfl (lv_at hl 2 rfl) ?_
          refine lv_iload_n hx hb dX4_restore_52 rfl (lv_at hl 0 rfl) ?_
          refine lv_bipush (v := 8) hx hb dX4_restore_53 (by decide) ?_
          refine lv_idiv hx hb dX4_restore_55 (by decide) ?_
          refine lv_iconst (v := 4) hx hb dX4_restore_56 (by decide) ?_
          refine lv_idiv hx hb dX4_restore_57 (by decide) ?_
          refine pf_X4_22 hC hW (mm_0 hi) hS dX4_restore_58 (fun H locs hW hS => ?_)
          refine lv_aload_n hx hb dX4_restore_61 rfl (lv_at hl 1 rfl) ?_
          refine gf_X4_15 hC hW m_4 rfl dX4_restore_62 ?_
          refine lv_iload_n hx hb dX4_restore_65 rfl (lv_at hl 0 rfl) ?_
          refine w_iald hC hW m_19 (n := 192) rfl (by first | assumption | exact vp_in_c (y := 192) (by decide) (by decide) (by assumption) (by assumption) | exact vp_in_d (y := 192) (by decide) (by decide) (by assumption) (by assumption)) dX4_restore_66 ?_
          refine lv_eqi (y := σ 19 0 ((σ 18 0 x.toNatClampNeg).toNatClampNeg)) (by rw [us_k (by decide), us_k (by decide), us_k (by decide)]) ?_
          have hO : f_X4_restore i x σ = (σ 19 0 ((σ 18 0 x.toNatClampNeg).toNatClampNeg), us (us (us σ 0 i 4 ((σ 18 0 x.toNatClampNeg) - (σ 18 0 x.toNatClampNeg) / (8 : Int32) * (8 : Int32))) 0 i 1 (((σ 18 0 x.toNatClampNeg) / (8 : Int32)) - ((σ 18 0 x.toNatClampNeg) / (8 : Int32)) / (4 : Int32) * (4 : Int32))) 0 i 0 (((σ 18 0 x.toNatClampNeg) / (8 : Int32)) / (4 : Int32))) := by rw [f_X4_restore, if_neg c_1, if_pos c_2, if_neg c_3, if_pos c_4]
          exact w_iretS hC hW hS hO (Nat.le_of_ble_eq_true rfl) (Nat.le_of_ble_eq_true rfl) dX4_restore_67
        · refine lv_iconst (v := (-1)) hx hb dX4_restore_31 (by decide) ?_
          have hO : f_X4_restore i x σ = ((-1), σ) := by rw [f_X4_restore, if_neg c_1, if_pos c_2, if_neg c_3, if_neg c_4]
          exact w_iretS hC hW hS hO (Nat.le_of_ble_eq_true rfl) (Nat.le_of_ble_eq_true rfl) dX4_restore_32
    · refine lv_iconst (v := (-1)) hx hb dX4_restore_11 (by decide) ?_
      have hO : f_X4_restore i x σ = ((-1), σ) := by rw [f_X4_restore, if_neg c_1, if_neg c_2]
      exact w_iretS hC hW hS hO (Nat.le_of_ble_eq_true rfl) (Nat.le_of_ble_eq_true rfl) dX4_restore_12
theorem fr_X4_restore {kk : Nat}  {i : Nat} {x : Int32} {σ : Sg} (h0 : kk ≠ 0) : (f_X4_restore i x σ).2 kk = σ kk := by
  rw [f_X4_restore]
  repeat' split
  all_goals (first | (simp only [us_kk, ne_eq, not_false_eq_true, h0]; done) | with_reducible rfl | (simp only [us_kk, ne_eq, not_false_eq_true, h0]; with_reducible rfl))
