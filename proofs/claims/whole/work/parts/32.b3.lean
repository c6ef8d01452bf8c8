theorem w4_in {v : Int32} (h : ¬ f_X8_within v 0 3 = 0) : vp_in v 4 := wi_in (a := 0) (b := 4) h rfl (by decide) (by decide) (by decide) (by decide) (by decide)
theorem wn_ok {k t b : Int32} {σ : Sg} (h : f_X8_whyNot k t b σ = 0) : ¬ f_X8_isProcess k σ = 0 ∧ ¬ f_X8_isThing t σ = 0 ∧ ¬ b = 0 ∧ ¬ f_X8_mayChange k t σ = 0 := by
  unfold f_X8_whyNot at h
  repeat' split at h
  all_goals first | exact absurd h (by decide) | exact ⟨by assumption, by assumption, by assumption, by assumption⟩
theorem wv_ok {k t r : Int32} {σ : Sg} (h : f_X8_whyNoVerdict k t r σ = 0) : ¬ f_X8_isProcess k σ = 0 ∧ ¬ f_X8_isThing t σ = 0 ∧ ¬ f_X8_isRight r = 0 := by
  unfold f_X8_whyNoVerdict at h
  repeat' split at h
  all_goals first | exact absurd h (by decide) | exact ⟨by assumption, by assumption, by assumption⟩
theorem pc_in {σ : Sg} (hM : MInv σ) (h : ¬ σ 8 0 18 = 8) : vp_in (σ 8 0 18) 8 := by
  obtain ⟨n, h1, h2⟩ := hM.2.1
  rw [h2] at h ⊢
  have : n ≠ 8 := fun q => h (by rw [q]; rfl)
  exact vp_in_nI (by omega) (by decide)
theorem tc_in {σ : Sg} (hM : MInv σ) (h : ¬ σ 8 0 3 = 12) : vp_in (σ 8 0 3) 12 := by
  obtain ⟨n, h1, h2⟩ := hM.1
  rw [h2] at h ⊢
  have : n ≠ 12 := fun q => h (by rw [q]; rfl)
  exact vp_in_nI (by omega) (by decide)
theorem kc_in2 {σ : Sg} (hM : MInv σ) (h : ¬ σ 8 0 27 = 10) : vp_in (σ 8 0 27) 10 := by
  obtain ⟨n, h1, h2, -⟩ := hM.2.2.1
  rw [h2] at h ⊢
  have : n ≠ 10 := fun q => h (by rw [q]; rfl)
  exact vp_in_nI (by omega) (by decide)
theorem b_zo {a b : Int32} {p : Prop} [Decidable p] (ha : a &&& 1 = a) (hb : b &&& 1 = b) : (if p then a else b) &&& 1 = (if p then a else b) := by split <;> assumption
def f_X8_groups (u : Int32) (σ : Sg) : Int32 × Sg :=
  if (f_X8_isSix u) = 0 then (0, us σ 8 0 0 1)
  else (f_X8_groupsOf u (us σ 8 0 0 0), us σ 8 0 0 0)
set_option maxHeartbeats 4000000 in
set_option maxRecDepth 100000 in
theorem c_X8_groups (l : Launch) (hl9 : l.stackTraces = false) (D : va_G) (ca : Nat → ClassId) (base : Nat) (ad : Adr) (σ : Sg) (u : Int32) (hM : MInv σ) : Mt l yX8_groups cX8_groups 2 (some .int) { frames := 3, cells := 0, slots := 0, locals := 68 } D ca base ad ρm Lm [.ref (ad 8 0), .int u] σ (some (.int (f_X8_groups u σ).1)) (f_X8_groups u σ).2 := by
  refine w_ofW (by decide) (Nat.le_of_ble_eq_true rfl) rfl ?_
  intro p e s m args below meth c hC hW hS ls hl hin
  have hx := hC.1
  have hb := hC.2.1
  refine lv_aload_n hx hb dX8_groups_0 rfl (lv_at hl 0 rfl) ?_
  refine lv_iload_n hx hb dX8_groups_1 rfl (lv_at hl 1 rfl) ?_
  refine w_callS (As := [.int u]) (rest := .ref (ad 8 0) :: []) (st2 := .int (f_X8_isSix u) :: .ref (ad 8 0) :: []) hC hW hS hl cs_X8_150 (c_X8_isSix l hl9 D ca base ad σ u ) rfl rfl rfl ⟨Nat.le_of_ble_eq_true rfl, Nat.le_of_ble_eq_true rfl⟩ (Nat.le_of_ble_eq_true rfl) dX8_groups_2 ⟨Nat.le_of_ble_eq_true rfl, Nat.le_of_ble_eq_true rfl⟩ (fun H locs hW hS => ?_)
  refine lv_if_eq (tgt := 12) hx hb dX8_groups_5 (by decide) (fun c_1 => ?_) (fun c_1 => ?_)
  · refine lv_iconst (v := 1) hx hb dX8_groups_12 (by decide) ?_
    refine w_callV (As := [.int 1]) (rest := []) (st2 := .int (f_X8_rf 1) :: []) hC hW hS hl cv_X8_154 m_8 (by decide) rfl (c_X8_refused l hl9 D ca base ad σ 1 ) rfl rfl rfl ⟨Nat.le_of_ble_eq_true rfl, Nat.le_of_ble_eq_true rfl⟩ (Nat.le_of_ble_eq_true rfl) dX8_groups_13 ⟨Nat.le_of_ble_eq_true rfl, Nat.le_of_ble_eq_true rfl⟩ (fun H locs hW hS => ?_)
    refine lv_eqi (y := 1) (by decide) ?_
    refine lv_if_eq (tgt := 23) hx hb dX8_groups_16 (by decide) (fun c => absurd c (by decide)) (fun _ => ?_)
    refine lv_iconst (v := 0) hx hb dX8_groups_19 (by decide) ?_
    refine lv_goto (tgt := 28) hx hb dX8_groups_20 (by decide) ?_
    have hO : f_X8_groups u σ = (0, us σ 8 0 0 1) := by rw [f_X8_groups, if_pos c_1]
    exact w_iretS hC hW hS hO (Nat.le_of_ble_eq_true rfl) (Nat.le_of_ble_eq_true rfl) dX8_groups_28
  · refine lv_iconst (v := 0) hx hb dX8_groups_8 (by decide) ?_
    refine lv_goto (tgt := 13) hx hb dX8_groups_9 (by decide) ?_
    refine w_callV (As := [.int 0]) (rest := []) (st2 := .int (f_X8_rf 0) :: []) hC hW hS hl cv_X8_154 m_8 (by decide) rfl (c_X8_refused l hl9 D ca base ad σ 0 ) rfl rfl rfl ⟨Nat.le_of_ble_eq_true rfl, Nat.le_of_ble_eq_true rfl⟩ (Nat.le_of_ble_eq_true rfl) dX8_groups_13 ⟨Nat.le_of_ble_eq_true rfl, Nat.le_of_ble_eq_true rfl⟩ (fun H locs hW hS => ?_)
    refine lv_eqi (y := 0) (by decide) ?_
    refine lv_if_eq (tgt := 23) hx hb dX8_groups_16 (by decide) (fun _ => ?_) (fun c => absurd (by decide) c)
    refine lv_aload_n hx hb dX8_groups_23 rfl (lv_at hl 0 rfl) ?_
    refine lv_iload_n hx hb dX8_groups_24 rfl (lv_at hl 1 rfl) ?_
    refine w_callV (As := [.int u]) (rest := []) (st2 := .int (f_X8_groupsOf u (us σ 8 0 0 0)) :: []) hC hW hS hl cv_X8_156 m_8 (by decide) rfl (c_X8_groupsOf l hl9 D ca base ad (us σ 8 0 0 0) u ) rfl rfl rfl ⟨Nat.le_of_ble_eq_true rfl, Nat.le_of_ble_eq_true rfl⟩ (Nat.le_of_ble_eq_true rfl) dX8_groups_25 ⟨Nat.le_of_ble_eq_true rfl, Nat.le_of_ble_eq_true rfl⟩ (fun H locs hW hS => ?_)
    have hO : f_X8_groups u σ = (f_X8_groupsOf u (us σ 8 0 0 0), us σ 8 0 0 0) := by rw [f_X8_groups, if_neg c_1]
    exact w_iretS hC hW hS hO (Nat.le_of_ble_eq_true rfl) (Nat.le_of_ble_eq_true rfl) dX8_groups_28
theorem fr_X8_groups {kk : Nat}  {u : Int32} {σ : Sg} (h8 : kk ≠ 8) : (f_X8_groups u σ).2 kk = σ kk := by
  rw [f_X8_groups]
  repeat' split
  all_goals (first | (simp only [us_kk, ne_eq, not_false_eq_true, h8]; done) | with_reducible rfl | (simp only [us_kk, ne_eq, not_false_eq_true, h8]; with_reducible rfl))
theorem fs_X8_groups {jj : Nat}  {u : Int32} {σ : Sg} (h0 : jj ≠ 0) : (f_X8_groups u σ).2 8 0 jj = σ 8 0 jj := by
  rw [f_X8_groups]
  repeat' split
  all_goals (first | with_reducible rfl | (simp [us_k, us_j, ne_eq, not_false_eq_true, h0]; done))

def f_X8_member (g : Int32) (b : Int32) (x : Int32) (is : Int32) (σ : Sg) : Int32 × Sg :=
  if (f_X8_isSix g) = 0 then (0, us σ 8 0 0 1)
  else if (f_X8_isSix x) = 0 then (0, us σ 8 0 0 1)
  else if b = 0 then (if b = 0 then (if is = 0 then (f_X8_hasBit (σ 31 0 g.toNatClampNeg) x, us (us σ 8 0 0 0) 31 0 g.toNatClampNeg ((σ 31 0 g.toNatClampNeg) &&& (((1 : Int32) <<< (x &&& 31)) ^^^ (-1 : Int32))))
      else (f_X8_hasBit (σ 31 0 g.toNatClampNeg) x, us (us σ 8 0 0 0) 31 0 g.toNatClampNeg ((σ 31 0 g.toNatClampNeg) ||| ((1 : Int32) <<< (x &&& 31)))))
    else if is = 0 then (f_X8_hasBit (σ 32 0 g.toNatClampNeg) x, us (us σ 8 0 0 0) 32 0 g.toNatClampNeg ((σ 32 0 g.toNatClampNeg) &&& (((1 : Int32) <<< (x &&& 31)) ^^^ (-1 : Int32))))
    else (f_X8_hasBit (σ 32 0 g.toNatClampNeg) x, us (us σ 8 0 0 0) 32 0 g.toNatClampNeg ((σ 32 0 g.toNatClampNeg) ||| ((1 : Int32) <<< (x &&& 31)))))
  else if is = 0 then (if b = 0 then (if is = 0 then (f_X8_hasBit (σ 31 0 g.toNatClampNeg) x, us (us σ 8 0 0 0) 31 0 g.toNatClampNeg ((σ 31 0 g.toNatClampNeg) &&& (((1 : Int32) <<< (x &&& 31)) ^^^ (-1 : Int32))))
      else (f_X8_hasBit (σ 31 0 g.toNatClampNeg) x, us (us σ 8 0 0 0) 31 0 g.toNatClampNeg ((σ 31 0 g.toNatClampNeg) ||| ((1 : Int32) <<< (x &&& 31)))))
    else if is = 0 then (f_X8_hasBit (σ 32 0 g.toNatClampNeg) x, us (us σ 8 0 0 0) 32 0 g.toNatClampNeg ((σ 32 0 g.toNatClampNeg) &&& (((1 : Int32) <<< (x &&& 31)) ^^^ (-1 : Int32))))
    else (f_X8_hasBit (σ 32 0 g.toNatClampNeg) x, us (us σ 8 0 0 0) 32 0 g.toNatClampNeg ((σ 32 0 g.toNatClampNeg) ||| ((1 : Int32) <<< (x &&& 31)))))
  else if (f_X8_hasBit (f_X8_above ((1 : Int32) <<< (g &&& 31)) σ) x) = 0 then (if b = 0 then (if is = 0 then (f_X8_hasBit (σ 31 0 g.toNatClampNeg) x, us (us σ 8 0 0 0) 31 0 g.toNatClampNeg ((σ 31 0 g.toNatClampNeg) &&& (((1 : Int32) <<< (x &&& 31)) ^^^ (-1 : Int32))))
      else (f_X8_hasBit (σ 31 0 g.toNatClampNeg) x, us (us σ 8 0 0 0) 31 0 g.toNatClampNeg ((σ 31 0 g.toNatClampNeg) ||| ((1 : Int32) <<< (x &&& 31)))))
    else if is = 0 then (f_X8_hasBit (σ 32 0 g.toNatClampNeg) x, us (us σ 8 0 0 0) 32 0 g.toNatClampNeg ((σ 32 0 g.toNatClampNeg) &&& (((1 : Int32) <<< (x &&& 31)) ^^^ (-1 : Int32))))
    else (f_X8_hasBit (σ 32 0 g.toNatClampNeg) x, us (us σ 8 0 0 0) 32 0 g.toNatClampNeg ((σ 32 0 g.toNatClampNeg) ||| ((1 : Int32) <<< (x &&& 31)))))
  else (0, us σ 8 0 0 2)
set_option maxHeartbeats 4000000 in
set_option maxRecDepth 100000 in
theorem c_X8_member (l : Launch) (hl9 : l.stackTraces = false) (D : va_G) (ca : Nat → ClassId) (base : Nat) (ad : Adr) (σ : Sg) (g : Int32) (b : Int32) (x : Int32) (is : Int32) (hM : MInv σ) : Mt l yX8_member cX8_member 9 (some .boolean) { frames := 2, cells := 0, slots := 0, locals := 45 } D ca base ad ρm Lm [.ref (ad 8 0), .int g, .int b, .int x, .int is] σ (some (.int (f_X8_member g b x is σ).1)) (f_X8_member g b x is σ).2 := by
  refine w_ofW (by decide) (Nat.le_of_ble_eq_true rfl) rfl ?_
  intro p e s m args below meth c hC hW hS ls hl hin
  have hx := hC.1
  have hb := hC.2.1
  refine lv_iload_n hx hb dX8_member_0 rfl (lv_at hl 1 rfl) ?_
  refine w_callS (As := [.int g]) (rest := []) (st2 := .int (f_X8_isSix g) :: []) hC hW hS hl cs_X8_150 (c_X8_isSix l hl9 D ca base ad σ g ) rfl rfl rfl ⟨Nat.le_of_ble_eq_true rfl, Nat.le_of_ble_eq_true rfl⟩ (Nat.le_of_ble_eq_true rfl) dX8_member_1 ⟨Nat.le_of_ble_eq_true rfl, Nat.le_of_ble_eq_true rfl⟩ (fun H locs hW hS => ?_)
  refine lv_if_eq (tgt := 18) hx hb dX8_member_4 (by decide) (fun c_1 => ?_) (fun c_1 => ?_)
  · refine lv_iconst (v := 0) hx hb dX8_member_18 (by decide) ?_
    refine lv_istore (lv' := [(5, .int 0), (0, .ref (ad 8 0)), (1, .int g), (2, .int b), (3, .int x), (4, .int is)]) hx hb dX8_member_19 hl (by decide) rfl (fun ls hl => ?_)
    refine lv_iload hx hb dX8_member_21 (lv_at hl 0 rfl) ?_
    refine lv_if_eq (tgt := 53) hx hb dX8_member_23 (by decide) (fun _ => ?_) (fun c => absurd (by decide) c)
    refine lv_iconst (v := 0) hx hb dX8_member_53 (by decide) ?_
    refine lv_istore (lv' := [(6, .int 0), (5, .int 0), (0, .ref (ad 8 0)), (1, .int g), (2, .int b), (3, .int x), (4, .int is)]) hx hb dX8_member_54 hl (by decide) rfl (fun ls hl => ?_)
    refine lv_aload_n hx hb dX8_member_56 rfl (lv_at hl 2 rfl) ?_
    refine lv_iload hx hb dX8_member_57 (lv_at hl 1 rfl) ?_
    refine lv_if_ne (tgt := 66) hx hb dX8_member_59 (by decide) (fun c => absurd (by decide) c) (fun _ => ?_)
    refine lv_iconst (v := 1) hx hb dX8_member_62 (by decide) ?_
    refine lv_goto (tgt := 76) hx hb dX8_member_63 (by decide) ?_
    refine w_callV (As := [.int 1]) (rest := []) (st2 := .int (f_X8_rf 1) :: []) hC hW hS hl cv_X8_154 m_8 (by decide) rfl (c_X8_refused l hl9 D ca base ad σ 1 ) rfl rfl rfl ⟨Nat.le_of_ble_eq_true rfl, Nat.le_of_ble_eq_true rfl⟩ (Nat.le_of_ble_eq_true rfl) dX8_member_76 ⟨Nat.le_of_ble_eq_true rfl, Nat.le_of_ble_eq_true rfl⟩ (fun H locs hW hS => ?_)
    refine lv_eqi (y := 1) (by decide) ?_
    refine lv_if_eq (tgt := 84) hx hb dX8_member_79 (by decide) (fun c => absurd c (by decide)) (fun _ => ?_)
    refine lv_iconst (v := 0) hx hb dX8_member_82 (by decide) ?_
    have hO : f_X8_member g b x is σ = (0, us σ 8 0 0 1) := by rw [f_X8_member, if_pos c_1]
    exact w_zretS hC hW hS (by decide) hO (Nat.le_of_ble_eq_true rfl) (Nat.le_of_ble_eq_true rfl) dX8_member_83
  · refine lv_iload_n hx hb dX8_member_7 rfl (lv_at hl 3 rfl) ?_
    refine w_callS (As := [.int x]) (rest := []) (st2 := .int (f_X8_isSix x) :: []) hC hW hS hl cs_X8_150 (c_X8_isSix l hl9 D ca base ad σ x ) rfl rfl rfl ⟨Nat.le_of_ble_eq_true rfl, Nat.le_of_ble_eq_true rfl⟩ (Nat.le_of_ble_eq_true rfl) dX8_member_8 ⟨Nat.le_of_ble_eq_true rfl, Nat.le_of_ble_eq_true rfl⟩ (fun H locs hW hS => ?_)
    refine lv_if_eq (tgt := 18) hx hb dX8_member_11 (by decide) (fun c_2 => ?_) (fun c_2 => ?_)
    · refine lv_iconst (v := 0) hx hb dX8_member_18 (by decide) ?_
      refine lv_istore (lv' := [(5, .int 0), (0, .ref (ad 8 0)), (1, .int g), (2, .int b), (3, .int x), (4, .int is)]) hx hb dX8_member_19 hl (by decide) rfl (fun ls hl => ?_)
      refine lv_iload hx hb dX8_member_21 (lv_at hl 0 rfl) ?_
      refine lv_if_eq (tgt := 53) hx hb dX8_member_23 (by decide) (fun _ => ?_) (fun c => absurd (by decide) c)
      refine lv_iconst (v := 0) hx hb dX8_member_53 (by decide) ?_
      refine lv_istore (lv' := [(6, .int 0), (5, .int 0), (0, .ref (ad 8 0)), (1, .int g), (2, .int b), (3, .int x), (4, .int is)]) hx hb dX8_member_54 hl (by decide) rfl (fun ls hl => ?_)
      refine lv_aload_n hx hb dX8_member_56 rfl (lv_at hl 2 rfl) ?_
      refine lv_iload hx hb dX8_member_57 (lv_at hl 1 rfl) ?_
      refine lv_if_ne (tgt := 66) hx hb dX8_member_59 (by decide) (fun c => absurd (by decide) c) (fun _ => ?_)
      refine lv_iconst (v := 1) hx hb dX8_member_62 (by decide) ?_
      refine lv_goto (tgt := 76) hx hb dX8_member_63 (by decide) ?_
      refine w_callV (As := [.int 1]) (rest := []) (st2 := .int (f_X8_rf 1) :: []) hC hW hS hl cv_X8_154 m_8 (by decide) rfl (c_X8_refused l hl9 D ca base ad σ 1 ) rfl rfl rfl ⟨Nat.le_of_ble_eq_true rfl, Nat.le_of_ble_eq_true rfl⟩ (Nat.le_of_ble_eq_true rfl) dX8_member_76 ⟨Nat.le_of_ble_eq_true rfl, Nat.le_of_ble_eq_true rfl⟩ (fun H locs hW hS => ?_)
      refine lv_eqi (y := 1) (by decide) ?_
      refine lv_if_eq (tgt := 84) hx hb dX8_member_79 (by decide) (fun c => absurd c (by decide)) (fun _ => ?_)
      refine lv_iconst (v := 0) hx hb dX8_member_82 (by decide) ?_
      have hO : f_X8_member g b x is σ = (0, us σ 8 0 0 1) := by rw [f_X8_member, if_neg c_1, if_pos c_2]
      exact w_zretS hC hW hS (by decide) hO (Nat.le_of_ble_eq_true rfl) (Nat.le_of_ble_eq_true rfl) dX8_member_83
    · refine lv_iconst (v := 1) hx hb dX8_member_14 (by decide) ?_
      refine lv_goto (tgt := 19) hx hb dX8_member_15 (by decide) ?_
      refine lv_istore (lv' := [(5, .int 1), (0, .ref (ad 8 0)), (1, .int g), (2, .int b), (3, .int x), (4, .int is)]) hx hb dX8_member_19 hl (by decide) rfl (fun ls hl => ?_)
      refine lv_iload hx hb dX8_member_21 (lv_at hl 0 rfl) ?_
      refine lv_if_eq (tgt := 53) hx hb dX8_member_23 (by decide) (fun c => absurd c (by decide)) (fun _ => ?_)
      refine lv_iload_n hx hb dX8_member_26 rfl (lv_at hl 3 rfl) ?_
      refine lv_if_eq (tgt := 53) hx hb dX8_member_27 (by decide) (fun c_3 => ?_) (fun c_3 => ?_)
      · refine lv_iconst (v := 0) hx hb dX8_member_53 (by decide) ?_
        refine lv_istore (lv' := [(6, .int 0), (5, .int 1), (0, .ref (ad 8 0)), (1, .int g), (2, .int b), (3, .int x), (4, .int is)]) hx hb dX8_member_54 hl (by decide) rfl (fun ls hl => ?_)
        refine lv_aload_n hx hb dX8_member_56 rfl (lv_at hl 2 rfl) ?_
        refine lv_iload hx hb dX8_member_57 (lv_at hl 1 rfl) ?_
        refine lv_if_ne (tgt := 66) hx hb dX8_member_59 (by decide) (fun _ => ?_) (fun c => absurd c (by decide))
        refine lv_iload hx hb dX8_member_66 (lv_at hl 0 rfl) ?_
        refine lv_if_eq (tgt := 75) hx hb dX8_member_68 (by decide) (fun _ => ?_) (fun c => absurd (by decide) c)
        refine lv_iconst (v := 0) hx hb dX8_member_75 (by decide) ?_
        refine w_callV (As := [.int 0]) (rest := []) (st2 := .int (f_X8_rf 0) :: []) hC hW hS hl cv_X8_154 m_8 (by decide) rfl (c_X8_refused l hl9 D ca base ad σ 0 ) rfl rfl rfl ⟨Nat.le_of_ble_eq_true rfl, Nat.le_of_ble_eq_true rfl⟩ (Nat.le_of_ble_eq_true rfl) dX8_member_76 ⟨Nat.le_of_ble_eq_true rfl, Nat.le_of_ble_eq_true rfl⟩ (fun H locs hW hS => ?_)
        refine lv_eqi (y := 0) (by decide) ?_
        refine lv_if_eq (tgt := 84) hx hb dX8_member_79 (by decide) (fun _ => ?_) (fun c => absurd (by decide) c)
        refine lv_iload_n hx hb dX8_member_84 rfl (lv_at hl 4 rfl) ?_
        refine lv_if_eq (tgt := 95) hx hb dX8_member_85 (by decide) (fun c_4 => ?_) (fun c_4 => ?_)
        · refine lv_aload_n hx hb dX8_member_95 rfl (lv_at hl 2 rfl) ?_
          refine gf_X8_7 hC hW m_8 rfl dX8_member_96 ?_
          refine lv_astore (lv' := [(7, .ref (ad 31 0)), (6, .int 0), (5, .int 1), (0, .ref (ad 8 0)), (1, .int g), (2, .int b), (3, .int x), (4, .int is)]) hx hb dX8_member_99 hl (by decide) rfl (fun ls hl => ?_)
          refine lv_aload hx hb dX8_member_101 (lv_at hl 0 rfl) ?_
          refine lv_iload_n hx hb dX8_member_103 rfl (lv_at hl 4 rfl) ?_
          refine w_iald hC hW m_31 (n := 6) rfl (by first | assumption | exact six_in (by assumption) | exact vp_in_c (y := 6) (by decide) (by decide) (by assumption) (by assumption) | (exfalso; contradiction)) dX8_member_104 ?_
          refine lv_eqi (y := σ 31 0 g.toNatClampNeg) (by rw [us_k (by decide)]) ?_
          refine lv_iload_n hx hb dX8_member_105 rfl (lv_at hl 6 rfl) ?_
          refine w_callS (As := [.int (σ 31 0 g.toNatClampNeg), .int x]) (rest := []) (st2 := .int (f_X8_hasBit (σ 31 0 g.toNatClampNeg) x) :: []) hC hW hS hl cs_X8_142 (c_X8_hasBit l hl9 D ca base ad (us σ 8 0 0 0) (σ 31 0 g.toNatClampNeg) x ) rfl rfl rfl ⟨Nat.le_of_ble_eq_true rfl, Nat.le_of_ble_eq_true rfl⟩ (Nat.le_of_ble_eq_true rfl) dX8_member_106 ⟨Nat.le_of_ble_eq_true rfl, Nat.le_of_ble_eq_true rfl⟩ (fun H locs hW hS => ?_)
          refine lv_istore (lv' := [(8, .int (f_X8_hasBit (σ 31 0 g.toNatClampNeg) x)), (7, .ref (ad 31 0)), (6, .int 0), (5, .int 1), (0, .ref (ad 8 0)), (1, .int g), (2, .int b), (3, .int x), (4, .int is)]) hx hb dX8_member_109 hl (by decide) rfl (fun ls hl => ?_)
          refine lv_aload hx hb dX8_member_111 (lv_at hl 1 rfl) ?_
          refine lv_iload_n hx hb dX8_member_113 rfl (lv_at hl 5 rfl) ?_
          refine lv_iload hx hb dX8_member_114 (lv_at hl 8 rfl) ?_
          refine lv_if_eq (tgt := 130) hx hb dX8_member_116 (by decide) (fun c_5 => ?_) (fun c_5 => ?_)
          · refine lv_aload hx hb dX8_member_130 (lv_at hl 1 rfl) ?_
            refine lv_iload_n hx hb dX8_member_132 rfl (lv_at hl 5 rfl) ?_
            refine w_iald hC hW m_31 (n := 6) rfl (by first | assumption | exact six_in (by assumption) | exact vp_in_c (y := 6) (by decide) (by decide) (by assumption) (by assumption) | (exfalso; contradiction)) dX8_member_133 ?_
            refine lv_eqi (y := σ 31 0 g.toNatClampNeg) (by rw [us_k (by decide)]) ?_
            refine lv_iconst (v := 1) hx hb dX8_member_134 (by decide) ?_
            refine lv_iload_n hx hb dX8_member_135 rfl (lv_at hl 7 rfl) ?_
            refine lv_ishl hx hb dX8_member_136 ?_
            refine lv_iconst (v := (-1)) hx hb dX8_member_137 (by decide) ?_
            refine lv_ixor hx hb dX8_member_138 ?_
            refine lv_iand hx hb dX8_member_139 ?_
            refine w_iast hC hW hS m_31 (n := 6) (fun _ => rfl) (by first | assumption | exact six_in (by assumption) | exact vp_in_c (y := 6) (by decide) (by decide) (by assumption) (by assumption) | (exfalso; contradiction)) dX8_member_140 (fun H locs hW hS => ?_)
            refine lv_iload hx hb dX8_member_141 (lv_at hl 0 rfl) ?_
            have hO : f_X8_member g b x is σ = (f_X8_hasBit (σ 31 0 g.toNatClampNeg) x, us (us σ 8 0 0 0) 31 0 g.toNatClampNeg ((σ 31 0 g.toNatClampNeg) &&& (((1 : Int32) <<< (x &&& 31)) ^^^ (-1 : Int32)))) := by rw [f_X8_member, if_neg c_1, if_neg c_2, if_pos c_3, if_pos c_4, if_pos c_5]
            exact w_zretS hC hW hS bb_X8_hasBit hO (Nat.le_of_ble_eq_true rfl) (Nat.le_of_ble_eq_true rfl) dX8_member_143
          · refine lv_aload hx hb dX8_member_119 (lv_at hl 1 rfl) ?_
            refine lv_iload_n hx hb dX8_member_121 rfl (lv_at hl 5 rfl) ?_
            refine w_iald hC hW m_31 (n := 6) rfl (by first | assumption | exact six_in (by assumption) | exact vp_in_c (y := 6) (by decide) (by decide) (by assumption) (by assumption) | (exfalso; contradiction)) dX8_member_122 ?_
            refine lv_eqi (y := σ 31 0 g.toNatClampNeg) (by rw [us_k (by decide)]) ?_
            refine lv_iconst (v := 1) hx hb dX8_member_123 (by decide) ?_
            refine lv_iload_n hx hb dX8_member_124 rfl (lv_at hl 7 rfl) ?_
            refine lv_ishl hx hb dX8_member_125 ?_
            refine lv_ior hx hb dX8_member_126 ?_
            refine lv_goto (tgt := 140) hx hb dX8_member_127 (by decide) ?_
            refine w_iast hC hW hS m_31 (n := 6) (fun _ => rfl) (by first | assumption | exact six_in (by assumption) | exact vp_in_c (y := 6) (by decide) (by decide) (by assumption) (by assumption) | (exfalso; contradiction)) dX8_member_140 (fun H locs hW hS => ?_)
            refine lv_iload hx hb dX8_member_141 (lv_at hl 0 rfl) ?_
            have hO : f_X8_member g b x is σ = (f_X8_hasBit (σ 31 0 g.toNatClampNeg) x, us (us σ 8 0 0 0) 31 0 g.toNatClampNeg ((σ 31 0 g.toNatClampNeg) ||| ((1 : Int32) <<< (x &&& 31)))) := by rw [f_X8_member, if_neg c_1, if_neg c_2, if_pos c_3, if_pos c_4, if_neg c_5]
            exact w_zretS hC hW hS bb_X8_hasBit hO (Nat.le_of_ble_eq_true rfl) (Nat.le_of_ble_eq_true rfl) dX8_member_143
        · refine lv_aload_n hx hb dX8_member_88 rfl (lv_at hl 2 rfl) ?_
          refine gf_X8_13 hC hW m_8 rfl dX8_member_89 ?_
          refine lv_goto (tgt := 99) hx hb dX8_member_92 (by decide) ?_
          refine lv_astore (lv' := [(7, .ref (ad 32 0)), (6, .int 0), (5, .int 1), (0, .ref (ad 8 0)), (1, .int g), (2, .int b), (3, .int x), (4, .int is)]) hx hb dX8_member_99 hl (by decide) rfl (fun ls hl => ?_)
          refine lv_aload hx hb dX8_member_101 (lv_at hl 0 rfl) ?_
          refine lv_iload_n hx hb dX8_member_103 rfl (lv_at hl 4 rfl) ?_
          refine w_iald hC hW m_32 (n := 6) rfl (by first | assumption | exact six_in (by assumption) | exact vp_in_c (y := 6) (by decide) (by decide) (by assumption) (by assumption) | (exfalso; contradiction)) dX8_member_104 ?_
          refine lv_eqi (y := σ 32 0 g.toNatClampNeg) (by rw [us_k (by decide)]) ?_
          refine lv_iload_n hx hb dX8_member_105 rfl (lv_at hl 6 rfl) ?_
          refine w_callS (As := [.int (σ 32 0 g.toNatClampNeg), .int x]) (rest := []) (st2 := .int (f_X8_hasBit (σ 32 0 g.toNatClampNeg) x) :: []) hC hW hS hl cs_X8_142 (c_X8_hasBit l hl9 D ca base ad (us σ 8 0 0 0) (σ 32 0 g.toNatClampNeg) x ) rfl rfl rfl ⟨Nat.le_of_ble_eq_true rfl, Nat.le_of_ble_eq_true rfl⟩ (Nat.le_of_ble_eq_true rfl) dX8_member_106 ⟨Nat.le_of_ble_eq_true rfl, Nat.le_of_ble_eq_true rfl⟩ (fun H locs hW hS => ?_)
          refine lv_istore (lv' := [(8, .int (f_X8_hasBit (σ 32 0 g.toNatClampNeg) x)), (7, .ref (ad 32 0)), (6, .int 0), (5, .int 1), (0, .ref (ad 8 0)), (1, .int g), (2, .int b), (3, .int x), (4, .int is)]) hx hb dX8_member_109 hl (by decide) rfl (fun ls hl => ?_)
          refine lv_aload hx hb dX8_member_111 (lv_at hl 1 rfl) ?_
          refine lv_iload_n hx hb dX8_member_113 rfl (lv_at hl 5 rfl) ?_
          refine lv_iload hx hb dX8_member_114 (lv_at hl 8 rfl) ?_
          refine lv_if_eq (tgt := 130) hx hb dX8_member_116 (by decide) (fun c_6 => ?_) (fun c_6 => ?_)
          · refine lv_aload hx hb dX8_member_130 (lv_at hl 1 rfl) ?_
            refine lv_iload_n hx hb dX8_member_132 rfl (lv_at hl 5 rfl) ?_
            refine w_iald hC hW m_32 (n := 6) rfl (by first | assumption | exact six_in (by assumption) | exact vp_in_c (y := 6) (by decide) (by decide) (by assumption) (by assumption) | (exfalso; contradiction)) dX8_member_133 ?_
            refine lv_eqi (y := σ 32 0 g.toNatClampNeg) (by rw [us_k (by decide)]) ?_
            refine lv_iconst (v := 1) hx hb dX8_member_134 (by decide) ?_
            refine lv_iload_n hx hb dX8_member_135 rfl (lv_at hl 7 rfl) ?_
            refine lv_ishl hx hb dX8_member_136 ?_
            refine lv_iconst (v := (-1)) hx hb dX8_member_137 (by decide) ?_
            refine lv_ixor hx hb dX8_member_138 ?_
            refine lv_iand hx hb dX8_member_139 ?_
            refine w_iast hC hW hS m_32 (n := 6) (fun _ => rfl) (by first | assumption | exact six_in (by assumption) | exact vp_in_c (y := 6) (by decide) (by decide) (by assumption) (by assumption) | (exfalso; contradiction)) dX8_member_140 (fun H locs hW hS => ?_)
            refine lv_iload hx hb dX8_member_141 (lv_at hl 0 rfl) ?_
            have hO : f_X8_member g b x is σ = (f_X8_hasBit (σ 32 0 g.toNatClampNeg) x, us (us σ 8 0 0 0) 32 0 g.toNatClampNeg ((σ 32 0 g.toNatClampNeg) &&& (((1 : Int32) <<< (x &&& 31)) ^^^ (-1 : Int32)))) := by rw [f_X8_member, if_neg c_1, if_neg c_2, if_pos c_3, if_neg c_4, if_pos c_6]
            exact w_zretS hC hW hS bb_X8_hasBit hO (Nat.le_of_ble_eq_true rfl) (Nat.le_of_ble_eq_true rfl) dX8_member_143
          · refine lv_aload hx hb dX8_member_119 (lv_at hl 1 rfl) ?_
            refine lv_iload_n hx hb dX8_member_121 rfl (lv_at hl 5 rfl) ?_
            refine w_iald hC hW m_32 (n := 6) rfl (by first | assumption | exact six_in (by assumption) | exact vp_in_c (y := 6) (by decide) (by decide) (by assumption) (by assumption) | (exfalso; contradiction)) dX8_member_122 ?_
            refine lv_eqi (y := σ 32 0 g.toNatClampNeg) (by rw [us_k (by decide)]) ?_
            refine lv_iconst (v := 1) hx hb dX8_member_123 (by decide) ?_
            refine lv_iload_n hx hb dX8_member_124 rfl (lv_at hl 7 rfl) ?_
            refine lv_ishl hx hb dX8_member_125 ?_
            refine lv_ior hx hb dX8_member_126 ?_
            refine lv_goto (tgt := 140) hx hb dX8_member_127 (by decide) ?_
            refine w_iast hC hW hS m_32 (n := 6) (fun _ => rfl) (by first | assumption | exact six_in (by assumption) | exact vp_in_c (y := 6) (by decide) (by decide) (by assumption) (by assumption) | (exfalso; contradiction)) dX8_member_140 (fun H locs hW hS => ?_)
            refine lv_iload hx hb dX8_member_141 (lv_at hl 0 rfl) ?_
            have hO : f_X8_member g b x is σ = (f_X8_hasBit (σ 32 0 g.toNatClampNeg) x, us (us σ 8 0 0 0) 32 0 g.toNatClampNeg ((σ 32 0 g.toNatClampNeg) ||| ((1 : Int32) <<< (x &&& 31)))) := by rw [f_X8_member, if_neg c_1, if_neg c_2, if_pos c_3, if_neg c_4, if_neg c_6]
            exact w_zretS hC hW hS bb_X8_hasBit hO (Nat.le_of_ble_eq_true rfl) (Nat.le_of_ble_eq_true rfl) dX8_member_143
      · refine lv_iload hx hb dX8_member_30 (lv_at hl 5 rfl) ?_
        refine lv_if_eq (tgt := 53) hx hb dX8_member_32 (by decide) (fun c_7 => ?_) (fun c_7 => ?_)
        · refine lv_iconst (v := 0) hx hb dX8_member_53 (by decide) ?_
          refine lv_istore (lv' := [(6, .int 0), (5, .int 1), (0, .ref (ad 8 0)), (1, .int g), (2, .int b), (3, .int x), (4, .int is)]) hx hb dX8_member_54 hl (by decide) rfl (fun ls hl => ?_)
          refine lv_aload_n hx hb dX8_member_56 rfl (lv_at hl 2 rfl) ?_
          refine lv_iload hx hb dX8_member_57 (lv_at hl 1 rfl) ?_
          refine lv_if_ne (tgt := 66) hx hb dX8_member_59 (by decide) (fun _ => ?_) (fun c => absurd c (by decide))
          refine lv_iload hx hb dX8_member_66 (lv_at hl 0 rfl) ?_
          refine lv_if_eq (tgt := 75) hx hb dX8_member_68 (by decide) (fun _ => ?_) (fun c => absurd (by decide) c)
          refine lv_iconst (v := 0) hx hb dX8_member_75 (by decide) ?_
          refine w_callV (As := [.int 0]) (rest := []) (st2 := .int (f_X8_rf 0) :: []) hC hW hS hl cv_X8_154 m_8 (by decide) rfl (c_X8_refused l hl9 D ca base ad σ 0 ) rfl rfl rfl ⟨Nat.le_of_ble_eq_true rfl, Nat.le_of_ble_eq_true rfl⟩ (Nat.le_of_ble_eq_true rfl) dX8_member_76 ⟨Nat.le_of_ble_eq_true rfl, Nat.le_of_ble_eq_true rfl⟩ (fun H locs hW hS => ?_)
          refine lv_eqi (y := 0) (by decide) ?_
          refine lv_if_eq (tgt := 84) hx hb dX8_member_79 (by decide) (fun _ => ?_) (fun c => absurd (by decide) c)
          refine lv_iload_n hx hb dX8_member_84 rfl (lv_at hl 4 rfl) ?_
          refine lv_if_eq (tgt := 95) hx hb dX8_member_85 (by decide) (fun c_8 => ?_) (fun c_8 => ?_)
          · refine lv_aload_n hx hb dX8_member_95 rfl (lv_at hl 2 rfl) ?_
            refine gf_X8_7 hC hW m_8 rfl dX8_member_96 ?_
            refine lv_astore (lv' := [(7, .ref (ad 31 0)), (6, .int 0), (5, .int 1), (0, .ref (ad 8 0)), (1, .int g), (2, .int b), (3, .int x), (4, .int is)]) hx hb dX8_member_99 hl (by decide) rfl (fun ls hl => ?_)
            refine lv_aload hx hb dX8_member_101 (lv_at hl 0 rfl) ?_
            refine lv_iload_n hx hb dX8_member_103 rfl (lv_at hl 4 rfl) ?_
            refine w_iald hC hW m_31 (n := 6) rfl (by first | assumption | exact six_in (by assumption) | exact vp_in_c (y := 6) (by decide) (by decide) (by assumption) (by assumption) | (exfalso; contradiction)) dX8_member_104 ?_
            refine lv_eqi (y := σ 31 0 g.toNatClampNeg) (by rw [us_k (by decide)]) ?_
            refine lv_iload_n hx hb dX8_member_105 rfl (lv_at hl 6 rfl) ?_
            refine w_callS (As := [.int (σ 31 0 g.toNatClampNeg), .int x]) (rest := []) (st2 := .int (f_X8_hasBit (σ 31 0 g.toNatClampNeg) x) :: []) hC hW hS hl cs_X8_142 (c_X8_hasBit l hl9 D ca base ad (us σ 8 0 0 0) (σ 31 0 g.toNatClampNeg) x ) rfl rfl rfl ⟨Nat.le_of_ble_eq_true rfl, Nat.le_of_ble_eq_true rfl⟩ (Nat.le_of_ble_eq_true rfl) dX8_member_106 ⟨Nat.le_of_ble_eq_true rfl, Nat.le_of_ble_eq_true rfl⟩ (fun H locs hW hS => ?_)
            refine lv_istore (lv' := [(8, .int (f_X8_hasBit (σ 31 0 g.toNatClampNeg) x)), (7, .ref (ad 31 0)), (6, .int 0), (5, .int 1), (0, .ref (ad 8 0)), (1, .int g), (2, .int b), (3, .int x), (4, .int is)]) hx hb dX8_member_109 hl (by decide) rfl (fun ls hl => ?_)
            refine lv_aload hx hb dX8_member_111 (lv_at hl 1 rfl) ?_
            refine lv_iload_n hx hb dX8_member_113 rfl (lv_at hl 5 rfl) ?_
            refine lv_iload hx hb dX8_member_114 (lv_at hl 8 rfl) ?_
            refine lv_if_eq (tgt := 130) hx hb dX8_member_116 (by decide) (fun c_9 => ?_) (fun c_9 => ?_)
            · refine lv_aload hx hb dX8_member_130 (lv_at hl 1 rfl) ?_
              refine lv_iload_n hx hb dX8_member_132 rfl (lv_at hl 5 rfl) ?_
              refine w_iald hC hW m_31 (n := 6) rfl (by first | assumption | exact six_in (by assumption) | exact vp_in_c (y := 6) (by decide) (by decide) (by assumption) (by assumption) | (exfalso; contradiction)) dX8_member_133 ?_
              refine lv_eqi (y := σ 31 0 g.toNatClampNeg) (by rw [us_k (by decide)]) ?_
              refine lv_iconst (v := 1) hx hb dX8_member_134 (by decide) ?_
              refine lv_iload_n hx hb dX8_member_135 rfl (lv_at hl 7 rfl) ?_
              refine lv_ishl hx hb dX8_member_136 ?_
              refine lv_iconst (v := (-1)) hx hb dX8_member_137 (by decide) ?_
              refine lv_ixor hx hb dX8_member_138 ?_
              refine lv_iand hx hb dX8_member_139 ?_
              refine w_iast hC hW hS m_31 (n := 6) (fun _ => rfl) (by first | assumption | exact six_in (by assumption) | exact vp_in_c (y := 6) (by decide) (by decide) (by assumption) (by assumption) | (exfalso; contradiction)) dX8_member_140 (fun H locs hW hS => ?_)
              refine lv_iload hx hb dX8_member_141 (lv_at hl 0 rfl) ?_
              have hO : f_X8_member g b x is σ = (f_X8_hasBit (σ 31 0 g.toNatClampNeg) x, us (us σ 8 0 0 0) 31 0 g.toNatClampNeg ((σ 31 0 g.toNatClampNeg) &&& (((1 : Int32) <<< (x &&& 31)) ^^^ (-1 : Int32)))) := by rw [f_X8_member, if_neg c_1, if_neg c_2, if_neg c_3, if_pos c_7, if_pos c_8, if_pos c_9]
              exact w_zretS hC hW hS bb_X8_hasBit hO (Nat.le_of_ble_eq_true rfl) (Nat.le_of_ble_eq_true rfl) dX8_member_143
            · refine lv_aload hx hb dX8_member_119 (lv_at hl 1 rfl) ?_
              refine lv_iload_n hx hb dX8_member_121 rfl (lv_at hl 5 rfl) ?_
              refine w_iald hC hW m_31 (n := 6) rfl (by first | assumption | exact six_in (by assumption) | exact vp_in_c (y := 6) (by decide) (by decide) (by assumption) (by assumption) | (exfalso; contradiction)) dX8_member_122 ?_
              refine lv_eqi (y := σ 31 0 g.toNatClampNeg) (by rw [us_k (by decide)]) ?_
              refine lv_iconst (v := 1) hx hb dX8_member_123 (by decide) ?_
              refine lv_iload_n hx hb dX8_member_124 rfl (lv_at hl 7 rfl) ?_
              refine lv_ishl hx hb dX8_member_125 ?_
              refine lv_ior hx hb dX8_member_126 ?_
              refine lv_goto (tgt := 140) hx hb dX8_member_127 (by decide) ?_
              refine w_iast hC hW hS m_31 (n := 6) (fun _ => rfl) (by first | assumption | exact six_in (by assumption) | exact vp_in_c (y := 6) (by decide) (by decide) (by assumption) (by assumption) | (exfalso; contradiction)) dX8_member_140 (fun H locs hW hS => ?_)
              refine lv_iload hx hb dX8_member_141 (lv_at hl 0 rfl) ?_
              have hO : f_X8_member g b x is σ = (f_X8_hasBit (σ 31 0 g.toNatClampNeg) x, us (us σ 8 0 0 0) 31 0 g.toNatClampNeg ((σ 31 0 g.toNatClampNeg) ||| ((1 : Int32) <<< (x &&& 31)))) := by rw [f_X8_member, if_neg c_1, if_neg c_2, if_neg c_3, if_pos c_7, if_pos c_8, if_neg c_9]
              exact w_zretS hC hW hS bb_X8_hasBit hO (Nat.le_of_ble_eq_true rfl) (Nat.le_of_ble_eq_true rfl) dX8_member_143
          · refine lv_aload_n hx hb dX8_member_88 rfl (lv_at hl 2 rfl) ?_
            refine gf_X8_13 hC hW m_8 rfl dX8_member_89 ?_
            refine lv_goto (tgt := 99) hx hb dX8_member_92 (by decide) ?_
            refine lv_astore (lv' := [(7, .ref (ad 32 0)), (6, .int 0), (5, .int 1), (0, .ref (ad 8 0)), (1, .int g), (2, .int b), (3, .int x), (4, .int is)]) hx hb dX8_member_99 hl (by decide) rfl (fun ls hl => ?_)
            refine lv_aload hx hb dX8_member_101 (lv_at hl 0 rfl) ?_
            refine lv_iload_n hx hb dX8_member_103 rfl (lv_at hl 4 rfl) ?_
            refine w_iald hC hW m_32 (n := 6) rfl (by first | assumption | exact six_in (by assumption) | exact vp_in_c (y := 6) (by decide) (by decide) (by assumption) (by assumption) | (exfalso; contradiction)) dX8_member_104 ?_
            refine lv_eqi (y := σ 32 0 g.toNatClampNeg) (by rw [us_k (by decide)]) ?_
            refine lv_iload_n hx hb dX8_member_105 rfl (lv_at hl 6 rfl) ?_
            refine w_callS (As := [.int (σ 32 0 g.toNatClampNeg), .int x]) (rest := []) (st2 := .int (f_X8_hasBit (σ 32 0 g.toNatClampNeg) x) :: []) hC hW hS hl cs_X8_142 (c_X8_hasBit l hl9 D ca base ad (us σ 8 0 0 0) (σ 32 0 g.toNatClampNeg) x ) rfl rfl rfl ⟨Nat.le_of_ble_eq_true rfl, Nat.le_of_ble_eq_true rfl⟩ (Nat.le_of_ble_eq_true rfl) dX8_member_106 ⟨Nat.le_of_ble_eq_true rfl, Nat.le_of_ble_eq_true rfl⟩ (fun H locs hW hS => ?_)
            refine lv_istore (lv' := [(8, .int (f_X8_hasBit (σ 32 0 g.toNatClampNeg) x)), (7, .ref (ad 32 0)), (6, .int 0), (5, .int 1), (0, .ref (ad 8 0)), (1, .int g), (2, .int b), (3, .int x), (4, .int is)]) hx hb dX8_member_109 hl (by decide) rfl (fun ls hl => ?_)
            refine lv_aload hx hb dX8_member_111 (lv_at hl 1 rfl) ?_
            refine lv_iload_n hx hb dX8_member_113 rfl (lv_at hl 5 rfl) ?_
            refine lv_iload hx hb dX8_member_114 (lv_at hl 8 rfl) ?_
            refine lv_if_eq (tgt := 130) hx hb dX8_member_116 (by decide) (fun c_10 => ?_) (fun c_10 => ?_)
            · refine lv_aload hx hb dX8_member_130 (lv_at hl 1 rfl) ?_
              refine lv_iload_n hx hb dX8_member_132 rfl (lv_at hl 5 rfl) ?_
              refine w_iald hC hW m_32 (n := 6) rfl (by first | assumption | exact six_in (by assumption) | exact vp_in_c (y := 6) (by decide) (by decide) (by assumption) (by assumption) | (exfalso; contradiction)) dX8_member_133 ?_
              refine lv_eqi (y := σ 32 0 g.toNatClampNeg) (by rw [us_k (by decide)]) ?_
              refine lv_iconst (v := 1) hx hb dX8_member_134 (by decide) ?_
              refine lv_iload_n hx hb dX8_member_135 rfl (lv_at hl 7 rfl) ?_
              refine lv_ishl hx hb dX8_member_136 ?_
              refine lv_iconst (v := (-1)) hx hb dX8_member_137 (by decide) ?_
              refine lv_ixor hx hb dX8_member_138 ?_
              refine lv_iand hx hb dX8_member_139 ?_
              refine w_iast hC hW hS m_32 (n := 6) (fun _ => rfl) (by first | assumption | exact six_in (by assumption) | exact vp_in_c (y := 6) (by decide) (by decide) (by assumption) (by assumption) | (exfalso; contradiction)) dX8_member_140 (fun H locs hW hS => ?_)
              refine lv_iload hx hb dX8_member_141 (lv_at hl 0 rfl) ?_
              have hO : f_X8_member g b x is σ = (f_X8_hasBit (σ 32 0 g.toNatClampNeg) x, us (us σ 8 0 0 0) 32 0 g.toNatClampNeg ((σ 32 0 g.toNatClampNeg) &&& (((1 : Int32) <<< (x &&& 31)) ^^^ (-1 : Int32)))) := by rw [f_X8_member, if_neg c_1, if_neg c_2, if_neg c_3, if_pos c_7, if_neg c_8, if_pos c_10]
              exact w_zretS hC hW hS bb_X8_hasBit hO (Nat.le_of_ble_eq_true rfl) (Nat.le_of_ble_eq_true rfl) dX8_member_143
            · refine lv_aload hx hb dX8_member_119 (lv_at hl 1 rfl) ?_
              refine lv_iload_n hx hb dX8_member_121 rfl (lv_at hl 5 rfl) ?_
              refine w_iald hC hW m_32 (n := 6) rfl (by first | assumption | exact six_in (by assumption) | exact vp_in_c (y := 6) (by decide) (by decide) (by assumption) (by assumption) | (exfalso; contradiction)) dX8_member_122 ?_
              refine lv_eqi (y := σ 32 0 g.toNatClampNeg) (by rw [us_k (by decide)]) ?_
              refine lv_iconst (v := 1) hx hb dX8_member_123 (by decide) ?_
              refine lv_iload_n hx hb dX8_member_124 rfl (lv_at hl 7 rfl) ?_
              refine lv_ishl hx hb dX8_member_125 ?_
              refine lv_ior hx hb dX8_member_126 ?_
              refine lv_goto (tgt := 140) hx hb dX8_member_127 (by decide) ?_
              refine w_iast hC hW hS m_32 (n := 6) (fun _ => rfl) (by first | assumption | exact six_in (by assumption) | exact vp_in_c (y := 6) (by decide) (by decide) (by assumption) (by assumption) | (exfalso; contradiction)) dX8_member_140 (fun H locs hW hS => ?_)
              refine lv_iload hx hb dX8_member_141 (lv_at hl 0 rfl) ?_
              have hO : f_X8_member g b x is σ = (f_X8_hasBit (σ 32 0 g.toNatClampNeg) x, us (us σ 8 0 0 0) 32 0 g.toNatClampNeg ((σ 32 0 g.toNatClampNeg) ||| ((1 : Int32) <<< (x &&& 31)))) := by rw [f_X8_member, if_neg c_1, if_neg c_2, if_neg c_3, if_pos c_7, if_neg c_8, if_neg c_10]
              exact w_zretS hC hW hS bb_X8_hasBit hO (Nat.le_of_ble_eq_true rfl) (Nat.le_of_ble_eq_true rfl) dX8_member_143
        · refine lv_aload_n hx hb dX8_member_35 rfl (lv_at hl 1 rfl) ?_
          refine lv_iconst (v := 1) hx hb dX8_member_36 (by decide) ?_
          refine lv_iload_n hx hb dX8_member_37 rfl (lv_at hl 2 rfl) ?_
          refine lv_ishl hx hb dX8_member_38 ?_
          refine w_callV (As := [.int ((1 : Int32) <<< (g &&& 31))]) (rest := []) (st2 := .int (f_X8_above ((1 : Int32) <<< (g &&& 31)) σ) :: []) hC hW hS hl cv_X8_146 m_8 (by decide) rfl (c_X8_above l hl9 D ca base ad σ ((1 : Int32) <<< (g &&& 31)) ) rfl rfl rfl ⟨Nat.le_of_ble_eq_true rfl, Nat.le_of_ble_eq_true rfl⟩ (Nat.le_of_ble_eq_true rfl) dX8_member_39 ⟨Nat.le_of_ble_eq_true rfl, Nat.le_of_ble_eq_true rfl⟩ (fun H locs hW hS => ?_)
          refine lv_iload_n hx hb dX8_member_42 rfl (lv_at hl 4 rfl) ?_
          refine w_callS (As := [.int (f_X8_above ((1 : Int32) <<< (g &&& 31)) σ), .int x]) (rest := []) (st2 := .int (f_X8_hasBit (f_X8_above ((1 : Int32) <<< (g &&& 31)) σ) x) :: []) hC hW hS hl cs_X8_142 (c_X8_hasBit l hl9 D ca base ad σ (f_X8_above ((1 : Int32) <<< (g &&& 31)) σ) x ) rfl rfl rfl ⟨Nat.le_of_ble_eq_true rfl, Nat.le_of_ble_eq_true rfl⟩ (Nat.le_of_ble_eq_true rfl) dX8_member_43 ⟨Nat.le_of_ble_eq_true rfl, Nat.le_of_ble_eq_true rfl⟩ (fun H locs hW hS => ?_)
          refine lv_if_eq (tgt := 53) hx hb dX8_member_46 (by decide) (fun c_11 => ?_) (fun c_11 => ?_)
          · refine lv_iconst (v := 0) hx hb dX8_member_53 (by decide) ?_
            refine lv_istore (lv' := [(6, .int 0), (5, .int 1), (0, .ref (ad 8 0)), (1, .int g), (2, .int b), (3, .int x), (4, .int is)]) hx hb dX8_member_54 hl (by decide) rfl (fun ls hl => ?_)
            refine lv_aload_n hx hb dX8_member_56 rfl (lv_at hl 2 rfl) ?_
            refine lv_iload hx hb dX8_member_57 (lv_at hl 1 rfl) ?_
            refine lv_if_ne (tgt := 66) hx hb dX8_member_59 (by decide) (fun _ => ?_) (fun c => absurd c (by decide))
            refine lv_iload hx hb dX8_member_66 (lv_at hl 0 rfl) ?_
            refine lv_if_eq (tgt := 75) hx hb dX8_member_68 (by decide) (fun _ => ?_) (fun c => absurd (by decide) c)
            refine lv_iconst (v := 0) hx hb dX8_member_75 (by decide) ?_
            refine w_callV (As := [.int 0]) (rest := []) (st2 := .int (f_X8_rf 0) :: []) hC hW hS hl cv_X8_154 m_8 (by decide) rfl (c_X8_refused l hl9 D ca base ad σ 0 ) rfl rfl rfl ⟨Nat.le_of_ble_eq_true rfl, Nat.le_of_ble_eq_true rfl⟩ (Nat.le_of_ble_eq_true rfl) dX8_member_76 ⟨Nat.le_of_ble_eq_true rfl, Nat.le_of_ble_eq_true rfl⟩ (fun H locs hW hS => ?_)
            refine lv_eqi (y := 0) (by decide) ?_
            refine lv_if_eq (tgt := 84) hx hb dX8_member_79 (by decide) (fun _ => ?_) (fun c => absurd (by decide) c)
            refine lv_iload_n hx hb dX8_member_84 rfl (lv_at hl 4 rfl) ?_
            refine lv_if_eq (tgt := 95) hx hb dX8_member_85 (by decide) (fun c_12 => ?_) (fun c_12 => ?_)
            · refine lv_aload_n hx hb dX8_member_95 rfl (lv_at hl 2 rfl) ?_
              refine gf_X8_7 hC hW m_8 rfl dX8_member_96 ?_
              refine lv_astore (lv' := [(7, .ref (ad 31 0)), (6, .int 0), (5, .int 1), (0, .ref (ad 8 0)), (1, .int g), (2, .int b), (3, .int x), (4, .int is)]) hx hb dX8_member_99 hl (by decide) rfl (fun ls hl => ?_)
              refine lv_aload hx hb dX8_member_101 (lv_at hl 0 rfl) ?_
              refine lv_iload_n hx hb dX8_member_103 rfl (lv_at hl 4 rfl) ?_
              refine w_iald hC hW m_31 (n := 6) rfl (by first | assumption | exact six_in (by assumption) | exact vp_in_c (y := 6) (by decide) (by decide) (by assumption) (by assumption) | (exfalso; contradiction)) dX8_member_104 ?_
              refine lv_eqi (y := σ 31 0 g.toNatClampNeg) (by rw [us_k (by decide)]) ?_
              refine lv_iload_n hx hb dX8_member_105 rfl (lv_at hl 6 rfl) ?_
              refine w_callS (As := [.int (σ 31 0 g.toNatClampNeg), .int x]) (rest := []) (st2 := .int (f_X8_hasBit (σ 31 0 g.toNatClampNeg) x) :: []) hC hW hS hl cs_X8_142 (c_X8_hasBit l hl9 D ca base ad (us σ 8 0 0 0) (σ 31 0 g.toNatClampNeg) x ) rfl rfl rfl ⟨Nat.le_of_ble_eq_true rfl, Nat.le_of_ble_eq_true rfl⟩ (Nat.le_of_ble_eq_true rfl) dX8_member_106 ⟨Nat.le_of_ble_eq_true rfl, Nat.le_of_ble_eq_true rfl⟩ (fun H locs hW hS => ?_)
              refine lv_istore (lv' := [(8, .int (f_X8_hasBit (σ 31 0 g.toNatClampNeg) x)), (7, .ref (ad 31 0)), (6, .int 0), (5, .int 1), (0, .ref (ad 8 0)), (1, .int g), (2, .int b), (3, .int x), (4, .int is)]) hx hb dX8_member_109 hl (by decide) rfl (fun ls hl => ?_)
              refine lv_aload hx hb dX8_member_111 (lv_at hl 1 rfl) ?_
              refine lv_iload_n hx hb dX8_member_113 rfl (lv_at hl 5 rfl) ?_
              refine lv_iload hx hb dX8_member_114 (lv_at hl 8 rfl) ?_
              refine lv_if_eq (tgt := 130) hx hb dX8_member_116 (by decide) (fun c_13 => ?_) (fun c_13 => ?_)
              · refine lv_aload hx hb dX8_member_130 (lv_at hl 1 rfl) ?_
                refine lv_iload_n hx hb dX8_member_132 rfl (lv_at hl 5 rfl) ?_
                refine w_iald hC hW m_31 (n := 6) rfl (by first | assumption | exact six_in (by assumption) | exact vp_in_c (y := 6) (by decide) (by decide) (by assumption) (by assumption) | (exfalso; contradiction)) dX8_member_133 ?_
                refine lv_eqi (y := σ 31 0 g.toNatClampNeg) (by rw [us_k (by decide)]) ?_
                refine lv_iconst (v := 1) hx hb dX8_member_134 (by decide) ?_
                refine lv_iload_n hx hb dX8_member_135 rfl (lv_at hl 7 rfl) ?_
                refine lv_ishl hx hb dX8_member_136 ?_
                refine lv_iconst (v := (-1)) hx hb dX8_member_137 (by decide) ?_
                refine lv_ixor hx hb dX8_member_138 ?_
                refine lv_iand hx hb dX8_member_139 ?_
                refine w_iast hC hW hS m_31 (n := 6) (fun _ => rfl) (by first | assumption | exact six_in (by assumption) | exact vp_in_c (y := 6) (by decide) (by decide) (by assumption) (by assumption) | (exfalso; contradiction)) dX8_member_140 (fun H locs hW hS => ?_)
                refine lv_iload hx hb dX8_member_141 (lv_at hl 0 rfl) ?_
                have hO : f_X8_member g b x is σ = (f_X8_hasBit (σ 31 0 g.toNatClampNeg) x, us (us σ 8 0 0 0) 31 0 g.toNatClampNeg ((σ 31 0 g.toNatClampNeg) &&& (((1 : Int32) <<< (x &&& 31)) ^^^ (-1 : Int32)))) := by rw [f_X8_member, if_neg c_1, if_neg c_2, if_neg c_3, if_neg c_7, if_pos c_11, if_pos c_12, if_pos c_13]
                exact w_zretS hC hW hS bb_X8_hasBit hO (Nat.le_of_ble_eq_true rfl) (Nat.le_of_ble_eq_true rfl) dX8_member_143
              · refine lv_aload hx hb dX8_member_119 (lv_at hl 1 rfl) ?_
                refine lv_iload_n hx hb dX8_member_121 rfl (lv_at hl 5 rfl) ?_
                refine w_iald hC hW m_31 (n := 6) rfl (by first | assumption | exact six_in (by assumption) | exact vp_in_c (y := 6) (by decide) (by decide) (by assumption) (by assumption) | (exfalso; contradiction)) dX8_member_122 ?_
                refine lv_eqi (y := σ 31 0 g.toNatClampNeg) (by rw [us_k (by decide)]) ?_
                refine lv_iconst (v := 1) hx hb dX8_member_123 (by decide) ?_
                refine lv_iload_n hx hb dX8_member_124 rfl (lv_at hl 7 rfl) ?_
                refine lv_ishl hx hb dX8_member_125 ?_
                refine lv_ior hx hb dX8_member_126 ?_
                refine lv_goto (tgt := 140) hx hb dX8_member_127 (by decide) ?_
                refine w_iast hC hW hS m_31 (n := 6) (fun _ => rfl) (by first | assumption | exact six_in (by assumption) | exact vp_in_c (y := 6) (by decide) (by decide) (by assumption) (by assumption) | (exfalso; contradiction)) dX8_member_140 (fun H locs hW hS => ?_)
                refine lv_iload hx hb dX8_member_141 (lv_at hl 0 rfl) ?_
                have hO : f_X8_member g b x is σ = (f_X8_hasBit (σ 31 0 g.toNatClampNeg) x, us (us σ 8 0 0 0) 31 0 g.toNatClampNeg ((σ 31 0 g.toNatClampNeg) ||| ((1 : Int32) <<< (x &&& 31)))) := by rw [f_X8_member, if_neg c_1, if_neg c_2, if_neg c_3, if_neg c_7, if_pos c_11, if_pos c_12, if_neg c_13]
                exact w_zretS hC hW hS bb_X8_hasBit hO (Nat.le_of_ble_eq_true rfl) (Nat.le_of_ble_eq_true rfl) dX8_member_143
            · refine lv_aload_n hx hb dX8_member_88 rfl (lv_at hl 2 rfl) ?_
              refine gf_X8_13 hC hW m_8 rfl dX8_member_89 ?_
              refine lv_goto (tgt := 99) hx hb dX8_member_92 (by decide) ?_
              refine lv_astore (lv' := [(7, .ref (ad 32 0)), (6, .int 0), (5, .int 1), (0, .ref (ad 8 0)), (1, .int g), (2, .int b), (3, .int x), (4, .int is)]) hx hb dX8_member_99 hl (by decide) rfl (fun ls hl => ?_)
              refine lv_aload hx hb dX8_member_101 (lv_at hl 0 rfl) ?_
              refine lv_iload_n hx hb dX8_member_103 rfl (lv_at hl 4 rfl) ?_
              refine w_iald hC hW m_32 (n := 6) rfl (by first | assumption | exact six_in (by assumption) | exact vp_in_c (y := 6) (by decide) (by decide) (by assumption) (by assumption) | (exfalso; contradiction)) dX8_member_104 ?_
              refine lv_eqi (y := σ 32 0 g.toNatClampNeg) (by rw [us_k (by decide)]) ?_
              refine lv_iload_n hx hb dX8_member_105 rfl (lv_at hl 6 rfl) ?_
              refine w_callS (As := [.int (σ 32 0 g.toNatClampNeg), .int x]) (rest := []) (st2 := .int (f_X8_hasBit (σ 32 0 g.toNatClampNeg) x) :: []) hC hW hS hl cs_X8_142 (c_X8_hasBit l hl9 D ca base ad (us σ 8 0 0 0) (σ 32 0 g.toNatClampNeg) x ) rfl rfl rfl ⟨Nat.le_of_ble_eq_true rfl, Nat.le_of_ble_eq_true rfl⟩ (Nat.le_of_ble_eq_true rfl) dX8_member_106 ⟨Nat.le_of_ble_eq_true rfl, Nat.le_of_ble_eq_true rfl⟩ (fun H locs hW hS => ?_)
              refine lv_istore (lv' := [(8, .int (f_X8_hasBit (σ 32 0 g.toNatClampNeg) x)), (7, .ref (ad 32 0)), (6, .int 0), (5, .int 1), (0, .ref (ad 8 0)), (1, .int g), (2, .int b), (3, .int x), (4, .int is)]) hx hb dX8_member_109 hl (by decide) rfl (fun ls hl => ?_)
              refine lv_aload hx hb dX8_member_111 (lv_at hl 1 rfl) ?_
              refine lv_iload_n hx hb dX8_member_113 rfl (lv_at hl 5 rfl) ?_
              refine lv_iload hx hb dX8_member_114 (lv_at hl 8 rfl) ?_
              refine lv_if_eq (tgt := 130) hx hb dX8_member_116 (by decide) (fun c_14 => ?_) (fun c_14 => ?_)
              · refine lv_aload hx hb dX8_member_130 (lv_at hl 1 rfl) ?_
                refine lv_iload_n hx hb dX8_member_132 rfl (lv_at hl 5 rfl) ?_
                refine w_iald hC hW m_32 (n := 6) rfl (by first | assumption | exact six_in (by assumption) | exact vp_in_c (y := 6) (by decide) (by decide) (by assumption) (by assumption) | (exfalso; contradiction)) dX8_member_133 ?_
                refine lv_eqi (y := σ 32 0 g.toNatClampNeg) (by rw [us_k (by decide)]) ?_
                refine lv_iconst (v := 1) hx hb dX8_member_134 (by decide) ?_
                refine lv_iload_n hx hb dX8_member_135 rfl (lv_at hl 7 rfl) ?_
                refine lv_ishl hx hb dX8_member_136 ?_
                refine lv_iconst (v := (-1)) hx hb dX8_member_137 (by decide) ?_
                refine lv_ixor hx hb dX8_member_138 ?_
                refine lv_iand hx hb dX8_member_139 ?_
                refine w_iast hC hW hS m_32 (n := 6) (fun _ => rfl) (by first | assumption | exact six_in (by assumption) | exact vp_in_c (y := 6) (by decide) (by decide) (by assumption) (by assumption) | (exfalso; contradiction)) dX8_member_140 (fun H locs hW hS => ?_)
                refine lv_iload hx hb dX8_member_141 (lv_at hl 0 rfl) ?_
                have hO : f_X8_member g b x is σ = (f_X8_hasBit (σ 32 0 g.toNatClampNeg) x, us (us σ 8 0 0 0) 32 0 g.toNatClampNeg ((σ 32 0 g.toNatClampNeg) &&& (((1 : Int32) <<< (x &&& 31)) ^^^ (-1 : Int32)))) := by rw [f_X8_member, if_neg c_1, if_neg c_2, if_neg c_3, if_neg c_7, if_pos c_11, if_neg c_12, if_pos c_14]
                exact w_zretS hC hW hS bb_X8_hasBit hO (Nat.le_of_ble_eq_true rfl) (Nat.le_of_ble_eq_true rfl) dX8_member_143
              · refine lv_aload hx hb dX8_member_119 (lv_at hl 1 rfl) ?_
                refine lv_iload_n hx hb dX8_member_121 rfl (lv_at hl 5 rfl) ?_
                refine w_iald hC hW m_32 (n := 6) rfl (by first | assumption | exact six_in (by assumption) | exact vp_in_c (y := 6) (by decide) (by decide) (by assumption) (by assumption) | (exfalso; contradiction)) dX8_member_122 ?_
                refine lv_eqi (y := σ 32 0 g.toNatClampNeg) (by rw [us_k (by decide)]) ?_
                refine lv_iconst (v := 1) hx hb dX8_member_123 (by decide) ?_
                refine lv_iload_n hx hb dX8_member_124 rfl (lv_at hl 7 rfl) ?_
                refine lv_ishl hx hb dX8_member_125 ?_
                refine lv_ior hx hb dX8_member_126 ?_
                refine lv_goto (tgt := 140) hx hb dX8_member_127 (by decide) ?_
                refine w_iast hC hW hS m_32 (n := 6) (fun _ => rfl) (by first | assumption | exact six_in (by assumption) | exact vp_in_c (y := 6) (by decide) (by decide) (by assumption) (by assumption) | (exfalso; contradiction)) dX8_member_140 (fun H locs hW hS => ?_)
                refine lv_iload hx hb dX8_member_141 (lv_at hl 0 rfl) ?_
                have hO : f_X8_member g b x is σ = (f_X8_hasBit (σ 32 0 g.toNatClampNeg) x, us (us σ 8 0 0 0) 32 0 g.toNatClampNeg ((σ 32 0 g.toNatClampNeg) ||| ((1 : Int32) <<< (x &&& 31)))) := by rw [f_X8_member, if_neg c_1, if_neg c_2, if_neg c_3, if_neg c_7, if_pos c_11, if_neg c_12, if_neg c_14]
                exact w_zretS hC hW hS bb_X8_hasBit hO (Nat.le_of_ble_eq_true rfl) (Nat.le_of_ble_eq_true rfl) dX8_member_143
          · refine lv_iconst (v := 1) hx hb dX8_member_49 (by decide) ?_
            refine lv_goto (tgt := 54) hx hb dX8_member_50 (by decide) ?_
            refine lv_istore (lv' := [(6, .int 1), (5, .int 1), (0, .ref (ad 8 0)), (1, .int g), (2, .int b), (3, .int x), (4, .int is)]) hx hb dX8_member_54 hl (by decide) rfl (fun ls hl => ?_)
            refine lv_aload_n hx hb dX8_member_56 rfl (lv_at hl 2 rfl) ?_
            refine lv_iload hx hb dX8_member_57 (lv_at hl 1 rfl) ?_
            refine lv_if_ne (tgt := 66) hx hb dX8_member_59 (by decide) (fun _ => ?_) (fun c => absurd c (by decide))
            refine lv_iload hx hb dX8_member_66 (lv_at hl 0 rfl) ?_
            refine lv_if_eq (tgt := 75) hx hb dX8_member_68 (by decide) (fun c => absurd c (by decide)) (fun _ => ?_)
            refine lv_iconst (v := 2) hx hb dX8_member_71 (by decide) ?_
            refine lv_goto (tgt := 76) hx hb dX8_member_72 (by decide) ?_
            refine w_callV (As := [.int 2]) (rest := []) (st2 := .int (f_X8_rf 2) :: []) hC hW hS hl cv_X8_154 m_8 (by decide) rfl (c_X8_refused l hl9 D ca base ad σ 2 ) rfl rfl rfl ⟨Nat.le_of_ble_eq_true rfl, Nat.le_of_ble_eq_true rfl⟩ (Nat.le_of_ble_eq_true rfl) dX8_member_76 ⟨Nat.le_of_ble_eq_true rfl, Nat.le_of_ble_eq_true rfl⟩ (fun H locs hW hS => ?_)
            refine lv_eqi (y := 1) (by decide) ?_
            refine lv_if_eq (tgt := 84) hx hb dX8_member_79 (by decide) (fun c => absurd c (by decide)) (fun _ => ?_)
            refine lv_iconst (v := 0) hx hb dX8_member_82 (by decide) ?_
            have hO : f_X8_member g b x is σ = (0, us σ 8 0 0 2) := by rw [f_X8_member, if_neg c_1, if_neg c_2, if_neg c_3, if_neg c_7, if_neg c_11]
            exact w_zretS hC hW hS (by decide) hO (Nat.le_of_ble_eq_true rfl) (Nat.le_of_ble_eq_true rfl) dX8_member_83
theorem fr_X8_member {kk : Nat}  {g : Int32} {b : Int32} {x : Int32} {is : Int32} {σ : Sg} (h8 : kk ≠ 8) (h31 : kk ≠ 31) (h32 : kk ≠ 32) : (f_X8_member g b x is σ).2 kk = σ kk := by
  rw [f_X8_member]
  repeat' split
  all_goals (first | (simp only [us_kk, ne_eq, not_false_eq_true, h8, h31, h32]; done) | with_reducible rfl | (simp only [us_kk, ne_eq, not_false_eq_true, h8, h31, h32]; with_reducible rfl))
theorem fs_X8_member {jj : Nat}  {g : Int32} {b : Int32} {x : Int32} {is : Int32} {σ : Sg} (h0 : jj ≠ 0) : (f_X8_member g b x is σ).2 8 0 jj = σ 8 0 jj := by
  rw [f_X8_member]
  repeat' split
  all_goals (first | with_reducible rfl | (simp [us_k, us_j, ne_eq, not_false_eq_true, h0]; done))

def f_X8_type (t : Int32) (v : Int32) (σ : Sg) : Int32 × Sg :=
  if (f_X8_isThing t σ) = 0 then (0, us σ 8 0 0 1)
  else if (f_X8_within v 0 3) = 0 then (0, us σ 8 0 0 2)
  else (σ 37 0 t.toNatClampNeg, us (us σ 8 0 0 0) 37 0 t.toNatClampNeg v)
set_option maxHeartbeats 4000000 in
set_option maxRecDepth 100000 in
theorem c_X8_type (l : Launch) (hl9 : l.stackTraces = false) (D : va_G) (ca : Nat → ClassId) (base : Nat) (ad : Adr) (σ : Sg) (t : Int32) (v : Int32) (hM : MInv σ) : Mt l yX8_type cX8_type 4 (some .int) { frames := 2, cells := 0, slots := 0, locals := 43 } D ca base ad ρm Lm [.ref (ad 8 0), .int t, .int v] σ (some (.int (f_X8_type t v σ).1)) (f_X8_type t v σ).2 := by
  refine w_ofW (by decide) (Nat.le_of_ble_eq_true rfl) rfl ?_
  intro p e s m args below meth c hC hW hS ls hl hin
  have hx := hC.1
  have hb := hC.2.1
  refine lv_aload_n hx hb dX8_type_0 rfl (lv_at hl 0 rfl) ?_
  refine lv_aload_n hx hb dX8_type_1 rfl (lv_at hl 0 rfl) ?_
  refine lv_iload_n hx hb dX8_type_2 rfl (lv_at hl 1 rfl) ?_
  refine w_callV (As := [.int t]) (rest := .ref (ad 8 0) :: []) (st2 := .int (f_X8_isThing t σ) :: .ref (ad 8 0) :: []) hC hW hS hl cv_X8_159 m_8 (by decide) rfl (c_X8_isThing l hl9 D ca base ad σ t ) rfl rfl rfl ⟨Nat.le_of_ble_eq_true rfl, Nat.le_of_ble_eq_true rfl⟩ (Nat.le_of_ble_eq_true rfl) dX8_type_3 ⟨Nat.le_of_ble_eq_true rfl, Nat.le_of_ble_eq_true rfl⟩ (fun H locs hW hS => ?_)
  refine lv_if_ne (tgt := 13) hx hb dX8_type_6 (by decide) (fun c_1 => ?_) (fun c_1 => ?_)
  · refine lv_iload_n hx hb dX8_type_13 rfl (lv_at hl 2 rfl) ?_
    refine lv_iconst (v := 0) hx hb dX8_type_14 (by decide) ?_
    refine lv_iconst (v := 3) hx hb dX8_type_15 (by decide) ?_
    refine w_callS (As := [.int v, .int 0, .int 3]) (rest := .ref (ad 8 0) :: []) (st2 := .int (f_X8_within v 0 3) :: .ref (ad 8 0) :: []) hC hW hS hl cs_X8_129 (c_X8_within l hl9 D ca base ad σ v 0 3 ) rfl rfl rfl ⟨Nat.le_of_ble_eq_true rfl, Nat.le_of_ble_eq_true rfl⟩ (Nat.le_of_ble_eq_true rfl) dX8_type_16 ⟨Nat.le_of_ble_eq_true rfl, Nat.le_of_ble_eq_true rfl⟩ (fun H locs hW hS => ?_)
    refine lv_if_ne (tgt := 26) hx hb dX8_type_19 (by decide) (fun c_2 => ?_) (fun c_2 => ?_)
    · refine lv_iconst (v := 0) hx hb dX8_type_26 (by decide) ?_
      refine w_callV (As := [.int 0]) (rest := []) (st2 := .int (f_X8_rf 0) :: []) hC hW hS hl cv_X8_154 m_8 (by decide) rfl (c_X8_refused l hl9 D ca base ad σ 0 ) rfl rfl rfl ⟨Nat.le_of_ble_eq_true rfl, Nat.le_of_ble_eq_true rfl⟩ (Nat.le_of_ble_eq_true rfl) dX8_type_27 ⟨Nat.le_of_ble_eq_true rfl, Nat.le_of_ble_eq_true rfl⟩ (fun H locs hW hS => ?_)
      refine lv_eqi (y := 0) (by decide) ?_
      refine lv_if_eq (tgt := 35) hx hb dX8_type_30 (by decide) (fun _ => ?_) (fun c => absurd (by decide) c)
      refine lv_aload_n hx hb dX8_type_35 rfl (lv_at hl 0 rfl) ?_
      refine gf_X8_25 hC hW m_8 rfl dX8_type_36 ?_
      refine lv_iload_n hx hb dX8_type_39 rfl (lv_at hl 1 rfl) ?_
      refine w_iald hC hW m_37 (n := 12) rfl (by first | assumption | exact it_in hM (by assumption) | exact vp_in_c (y := 12) (by decide) (by decide) (by assumption) (by assumption) | (exfalso; contradiction)) dX8_type_40 ?_
      refine lv_eqi (y := σ 37 0 t.toNatClampNeg) (by rw [us_k (by decide)]) ?_
      refine lv_istore_n (lv' := [(3, .int (σ 37 0 t.toNatClampNeg)), (0, .ref (ad 8 0)), (1, .int t), (2, .int v)]) hx hb dX8_type_41 rfl hl (by decide) rfl (fun ls hl => ?_)
      refine lv_aload_n hx hb dX8_type_42 rfl (lv_at hl 1 rfl) ?_
      refine gf_X8_25 hC hW m_8 rfl dX8_type_43 ?_
      refine lv_iload_n hx hb dX8_type_46 rfl (lv_at hl 2 rfl) ?_
      refine lv_iload_n hx hb dX8_type_47 rfl (lv_at hl 3 rfl) ?_
      refine w_iast hC hW hS m_37 (n := 12) (fun _ => rfl) (by first | assumption | exact it_in hM (by assumption) | exact vp_in_c (y := 12) (by decide) (by decide) (by assumption) (by assumption) | (exfalso; contradiction)) dX8_type_48 (fun H locs hW hS => ?_)
      refine lv_iload_n hx hb dX8_type_49 rfl (lv_at hl 0 rfl) ?_
      have hO : f_X8_type t v σ = (σ 37 0 t.toNatClampNeg, us (us σ 8 0 0 0) 37 0 t.toNatClampNeg v) := by rw [f_X8_type, if_neg c_1, if_neg c_2]
      exact w_iretS hC hW hS hO (Nat.le_of_ble_eq_true rfl) (Nat.le_of_ble_eq_true rfl) dX8_type_50
    · refine lv_iconst (v := 2) hx hb dX8_type_22 (by decide) ?_
      refine lv_goto (tgt := 27) hx hb dX8_type_23 (by decide) ?_
      refine w_callV (As := [.int 2]) (rest := []) (st2 := .int (f_X8_rf 2) :: []) hC hW hS hl cv_X8_154 m_8 (by decide) rfl (c_X8_refused l hl9 D ca base ad σ 2 ) rfl rfl rfl ⟨Nat.le_of_ble_eq_true rfl, Nat.le_of_ble_eq_true rfl⟩ (Nat.le_of_ble_eq_true rfl) dX8_type_27 ⟨Nat.le_of_ble_eq_true rfl, Nat.le_of_ble_eq_true rfl⟩ (fun H locs hW hS => ?_)
      refine lv_eqi (y := 1) (by decide) ?_
      refine lv_if_eq (tgt := 35) hx hb dX8_type_30 (by decide) (fun c => absurd c (by decide)) (fun _ => ?_)
      refine lv_iconst (v := 0) hx hb dX8_type_33 (by decide) ?_
      have hO : f_X8_type t v σ = (0, us σ 8 0 0 2) := by rw [f_X8_type, if_neg c_1, if_pos c_2]
      exact w_iretS hC hW hS hO (Nat.le_of_ble_eq_true rfl) (Nat.le_of_ble_eq_true rfl) dX8_type_34
  · refine lv_iconst (v := 1) hx hb dX8_type_9 (by decide) ?_
    refine lv_goto (tgt := 27) hx hb dX8_type_10 (by decide) ?_
    refine w_callV (As := [.int 1]) (rest := []) (st2 := .int (f_X8_rf 1) :: []) hC hW hS hl cv_X8_154 m_8 (by decide) rfl (c_X8_refused l hl9 D ca base ad σ 1 ) rfl rfl rfl ⟨Nat.le_of_ble_eq_true rfl, Nat.le_of_ble_eq_true rfl⟩ (Nat.le_of_ble_eq_true rfl) dX8_type_27 ⟨Nat.le_of_ble_eq_true rfl, Nat.le_of_ble_eq_true rfl⟩ (fun H locs hW hS => ?_)
    refine lv_eqi (y := 1) (by decide) ?_
    refine lv_if_eq (tgt := 35) hx hb dX8_type_30 (by decide) (fun c => absurd c (by decide)) (fun _ => ?_)
    refine lv_iconst (v := 0) hx hb dX8_type_33 (by decide) ?_
    have hO : f_X8_type t v σ = (0, us σ 8 0 0 1) := by rw [f_X8_type, if_pos c_1]
    exact w_iretS hC hW hS hO (Nat.le_of_ble_eq_true rfl) (Nat.le_of_ble_eq_true rfl) dX8_type_34
theorem fr_X8_type {kk : Nat}  {t : Int32} {v : Int32} {σ : Sg} (h8 : kk ≠ 8) (h37 : kk ≠ 37) : (f_X8_type t v σ).2 kk = σ kk := by
  rw [f_X8_type]
  repeat' split
  all_goals (first | (simp only [us_kk, ne_eq, not_false_eq_true, h8, h37]; done) | with_reducible rfl | (simp only [us_kk, ne_eq, not_false_eq_true, h8, h37]; with_reducible rfl))
theorem fs_X8_type {jj : Nat}  {t : Int32} {v : Int32} {σ : Sg} (h0 : jj ≠ 0) : (f_X8_type t v σ).2 8 0 jj = σ 8 0 jj := by
  rw [f_X8_type]
  repeat' split
  all_goals (first | with_reducible rfl | (simp [us_k, us_j, ne_eq, not_false_eq_true, h0]; done))

def f_X8_mode (k : Int32) (t : Int32) (v : Int32) (σ : Sg) : Int32 × Sg :=
  if (f_X8_rf (f_X8_whyNot k t (f_X8_within v 0 1023) σ)) = 0 then (σ 36 0 t.toNatClampNeg, us (us σ 8 0 0 (f_X8_whyNot k t (f_X8_within v 0 1023) σ)) 36 0 t.toNatClampNeg v)
  else (0, us σ 8 0 0 (f_X8_whyNot k t (f_X8_within v 0 1023) σ))
set_option maxHeartbeats 4000000 in
set_option maxRecDepth 100000 in
theorem c_X8_mode (l : Launch) (hl9 : l.stackTraces = false) (D : va_G) (ca : Nat → ClassId) (base : Nat) (ad : Adr) (σ : Sg) (k : Int32) (t : Int32) (v : Int32) (hM : MInv σ) : Mt l yX8_mode cX8_mode 5 (some .int) { frames := 3, cells := 0, slots := 0, locals := 67 } D ca base ad ρm Lm [.ref (ad 8 0), .int k, .int t, .int v] σ (some (.int (f_X8_mode k t v σ).1)) (f_X8_mode k t v σ).2 := by
  refine w_ofW (by decide) (Nat.le_of_ble_eq_true rfl) rfl ?_
  intro p e s m args below meth c hC hW hS ls hl hin
  have hx := hC.1
  have hb := hC.2.1
  refine lv_aload_n hx hb dX8_mode_0 rfl (lv_at hl 0 rfl) ?_
  refine lv_aload_n hx hb dX8_mode_1 rfl (lv_at hl 0 rfl) ?_
  refine lv_iload_n hx hb dX8_mode_2 rfl (lv_at hl 1 rfl) ?_
  refine lv_iload_n hx hb dX8_mode_3 rfl (lv_at hl 2 rfl) ?_
  refine lv_iload_n hx hb dX8_mode_4 rfl (lv_at hl 3 rfl) ?_
  refine lv_iconst (v := 0) hx hb dX8_mode_5 (by decide) ?_
  refine lv_sipush (v := 1023) hx hb dX8_mode_6 (by decide) ?_
  refine w_callS (As := [.int v, .int 0, .int 1023]) (rest := .int t :: .int k :: .ref (ad 8 0) :: .ref (ad 8 0) :: []) (st2 := .int (f_X8_within v 0 1023) :: .int t :: .int k :: .ref (ad 8 0) :: .ref (ad 8 0) :: []) hC hW hS hl cs_X8_129 (c_X8_within l hl9 D ca base ad σ v 0 1023 ) rfl rfl rfl ⟨Nat.le_of_ble_eq_true rfl, Nat.le_of_ble_eq_true rfl⟩ (Nat.le_of_ble_eq_true rfl) dX8_mode_9 ⟨Nat.le_of_ble_eq_true rfl, Nat.le_of_ble_eq_true rfl⟩ (fun H locs hW hS => ?_)
  refine w_callV (As := [.int k, .int t, .int (f_X8_within v 0 1023)]) (rest := .ref (ad 8 0) :: []) (st2 := .int (f_X8_whyNot k t (f_X8_within v 0 1023) σ) :: .ref (ad 8 0) :: []) hC hW hS hl cv_X8_172 m_8 (by decide) rfl (c_X8_whyNot l hl9 D ca base ad σ k t (f_X8_within v 0 1023) hM) rfl rfl rfl ⟨Nat.le_of_ble_eq_true rfl, Nat.le_of_ble_eq_true rfl⟩ (Nat.le_of_ble_eq_true rfl) dX8_mode_12 ⟨Nat.le_of_ble_eq_true rfl, Nat.le_of_ble_eq_true rfl⟩ (fun H locs hW hS => ?_)
  refine w_callV (As := [.int (f_X8_whyNot k t (f_X8_within v 0 1023) σ)]) (rest := []) (st2 := .int (f_X8_rf (f_X8_whyNot k t (f_X8_within v 0 1023) σ)) :: []) hC hW hS hl cv_X8_154 m_8 (by decide) rfl (c_X8_refused l hl9 D ca base ad σ (f_X8_whyNot k t (f_X8_within v 0 1023) σ) ) rfl rfl rfl ⟨Nat.le_of_ble_eq_true rfl, Nat.le_of_ble_eq_true rfl⟩ (Nat.le_of_ble_eq_true rfl) dX8_mode_15 ⟨Nat.le_of_ble_eq_true rfl, Nat.le_of_ble_eq_true rfl⟩ (fun H locs hW hS => ?_)
  refine lv_if_eq (tgt := 23) hx hb dX8_mode_18 (by decide) (fun c_1 => ?_) (fun c_1 => ?_)
  · have hw := wn_ok (rf0 c_1)
    have ht := it_in hM hw.2.1
    have hk := ip_in hM hw.1
    refine lv_aload_n hx hb dX8_mode_23 rfl (lv_at hl 0 rfl) ?_
    refine gf_X8_22 hC hW m_8 rfl dX8_mode_24 ?_
    refine lv_iload_n hx hb dX8_mode_27 rfl (lv_at hl 2 rfl) ?_
    refine w_iald hC hW m_36 (n := 12) rfl (by first | assumption | exact it_in hM (by assumption) | exact vp_in_c (y := 12) (by decide) (by decide) (by assumption) (by assumption) | (exfalso; contradiction)) dX8_mode_28 ?_
    refine lv_eqi (y := σ 36 0 t.toNatClampNeg) (by rw [us_k (by decide)]) ?_
    refine lv_istore (lv' := [(4, .int (σ 36 0 t.toNatClampNeg)), (0, .ref (ad 8 0)), (1, .int k), (2, .int t), (3, .int v)]) hx hb dX8_mode_29 hl (by decide) rfl (fun ls hl => ?_)
    refine lv_aload_n hx hb dX8_mode_31 rfl (lv_at hl 1 rfl) ?_
    refine gf_X8_22 hC hW m_8 rfl dX8_mode_32 ?_
    refine lv_iload_n hx hb dX8_mode_35 rfl (lv_at hl 3 rfl) ?_
    refine lv_iload_n hx hb dX8_mode_36 rfl (lv_at hl 4 rfl) ?_
    refine w_iast hC hW hS m_36 (n := 12) (fun _ => rfl) (by first | assumption | exact it_in hM (by assumption) | exact vp_in_c (y := 12) (by decide) (by decide) (by assumption) (by assumption) | (exfalso; contradiction)) dX8_mode_37 (fun H locs hW hS => ?_)
    refine lv_iload hx hb dX8_mode_38 (lv_at hl 0 rfl) ?_
    have hO : f_X8_mode k t v σ = (σ 36 0 t.toNatClampNeg, us (us σ 8 0 0 (f_X8_whyNot k t (f_X8_within v 0 1023) σ)) 36 0 t.toNatClampNeg v) := by rw [f_X8_mode, if_pos c_1]
    exact w_iretS hC hW hS hO (Nat.le_of_ble_eq_true rfl) (Nat.le_of_ble_eq_true rfl) dX8_mode_40
  · refine lv_iconst (v := 0) hx hb dX8_mode_21 (by decide) ?_
    have hO : f_X8_mode k t v σ = (0, us σ 8 0 0 (f_X8_whyNot k t (f_X8_within v 0 1023) σ)) := by rw [f_X8_mode, if_neg c_1]
    exact w_iretS hC hW hS hO (Nat.le_of_ble_eq_true rfl) (Nat.le_of_ble_eq_true rfl) dX8_mode_22
theorem fr_X8_mode {kk : Nat}  {k : Int32} {t : Int32} {v : Int32} {σ : Sg} (h8 : kk ≠ 8) (h36 : kk ≠ 36) : (f_X8_mode k t v σ).2 kk = σ kk := by
  rw [f_X8_mode]
  repeat' split
  all_goals (first | (simp only [us_kk, ne_eq, not_false_eq_true, h8, h36]; done) | with_reducible rfl | (simp only [us_kk, ne_eq, not_false_eq_true, h8, h36]; with_reducible rfl))
theorem fs_X8_mode {jj : Nat}  {k : Int32} {t : Int32} {v : Int32} {σ : Sg} (h0 : jj ≠ 0) : (f_X8_mode k t v σ).2 8 0 jj = σ 8 0 jj := by
  rw [f_X8_mode]
  repeat' split
  all_goals (first | with_reducible rfl | (simp [us_k, us_j, ne_eq, not_false_eq_true, h0]; done))

def f_X8_mask (k : Int32) (t : Int32) (v : Int32) (σ : Sg) : Int32 × Sg :=
  if (f_X8_rf (f_X8_whyNot k t (f_X8_within v 0 7) σ)) = 0 then (σ 40 0 t.toNatClampNeg, us (us σ 8 0 0 (f_X8_whyNot k t (f_X8_within v 0 7) σ)) 40 0 t.toNatClampNeg v)
  else (0, us σ 8 0 0 (f_X8_whyNot k t (f_X8_within v 0 7) σ))
set_option maxHeartbeats 4000000 in
set_option maxRecDepth 100000 in
theorem c_X8_mask (l : Launch) (hl9 : l.stackTraces = false) (D : va_G) (ca : Nat → ClassId) (base : Nat) (ad : Adr) (σ : Sg) (k : Int32) (t : Int32) (v : Int32) (hM : MInv σ) : Mt l yX8_mask cX8_mask 5 (some .int) { frames := 3, cells := 0, slots := 0, locals := 67 } D ca base ad ρm Lm [.ref (ad 8 0), .int k, .int t, .int v] σ (some (.int (f_X8_mask k t v σ).1)) (f_X8_mask k t v σ).2 := by
  refine w_ofW (by decide) (Nat.le_of_ble_eq_true rfl) rfl ?_
  intro p e s m args below meth c hC hW hS ls hl hin
  have hx := hC.1
  have hb := hC.2.1
  refine lv_aload_n hx hb dX8_mask_0 rfl (lv_at hl 0 rfl) ?_
  refine lv_aload_n hx hb dX8_mask_1 rfl (lv_at hl 0 rfl) ?_
  refine lv_iload_n hx hb dX8_mask_2 rfl (lv_at hl 1 rfl) ?_
  refine lv_iload_n hx hb dX8_mask_3 rfl (lv_at hl 2 rfl) ?_
  refine lv_iload_n hx hb dX8_mask_4 rfl (lv_at hl 3 rfl) ?_
  refine lv_iconst (v := 0) hx hb dX8_mask_5 (by decide) ?_
  refine lv_bipush (v := 7) hx hb dX8_mask_6 (by decide) ?_
  refine w_callS (As := [.int v, .int 0, .int 7]) (rest := .int t :: .int k :: .ref (ad 8 0) :: .ref (ad 8 0) :: []) (st2 := .int (f_X8_within v 0 7) :: .int t :: .int k :: .ref (ad 8 0) :: .ref (ad 8 0) :: []) hC hW hS hl cs_X8_129 (c_X8_within l hl9 D ca base ad σ v 0 7 ) rfl rfl rfl ⟨Nat.le_of_ble_eq_true rfl, Nat.le_of_ble_eq_true rfl⟩ (Nat.le_of_ble_eq_true rfl) dX8_mask_8 ⟨Nat.le_of_ble_eq_true rfl, Nat.le_of_ble_eq_true rfl⟩ (fun H locs hW hS => ?_)
  refine w_callV (As := [.int k, .int t, .int (f_X8_within v 0 7)]) (rest := .ref (ad 8 0) :: []) (st2 := .int (f_X8_whyNot k t (f_X8_within v 0 7) σ) :: .ref (ad 8 0) :: []) hC hW hS hl cv_X8_172 m_8 (by decide) rfl (c_X8_whyNot l hl9 D ca base ad σ k t (f_X8_within v 0 7) hM) rfl rfl rfl ⟨Nat.le_of_ble_eq_true rfl, Nat.le_of_ble_eq_true rfl⟩ (Nat.le_of_ble_eq_true rfl) dX8_mask_11 ⟨Nat.le_of_ble_eq_true rfl, Nat.le_of_ble_eq_true rfl⟩ (fun H locs hW hS => ?_)
  refine w_callV (As := [.int (f_X8_whyNot k t (f_X8_within v 0 7) σ)]) (rest := []) (st2 := .int (f_X8_rf (f_X8_whyNot k t (f_X8_within v 0 7) σ)) :: []) hC hW hS hl cv_X8_154 m_8 (by decide) rfl (c_X8_refused l hl9 D ca base ad σ (f_X8_whyNot k t (f_X8_within v 0 7) σ) ) rfl rfl rfl ⟨Nat.le_of_ble_eq_true rfl, Nat.le_of_ble_eq_true rfl⟩ (Nat.le_of_ble_eq_true rfl) dX8_mask_14 ⟨Nat.le_of_ble_eq_true rfl, Nat.le_of_ble_eq_true rfl⟩ (fun H locs hW hS => ?_)
  refine lv_if_eq (tgt := 22) hx hb dX8_mask_17 (by decide) (fun c_1 => ?_) (fun c_1 => ?_)
  · have hw := wn_ok (rf0 c_1)
    have ht := it_in hM hw.2.1
    have hk := ip_in hM hw.1
    refine lv_aload_n hx hb dX8_mask_22 rfl (lv_at hl 0 rfl) ?_
    refine gf_X8_34 hC hW m_8 rfl dX8_mask_23 ?_
    refine lv_iload_n hx hb dX8_mask_26 rfl (lv_at hl 2 rfl) ?_
    refine w_iald hC hW m_40 (n := 12) rfl (by first | assumption | exact it_in hM (by assumption) | exact vp_in_c (y := 12) (by decide) (by decide) (by assumption) (by assumption) | (exfalso; contradiction)) dX8_mask_27 ?_
    refine lv_eqi (y := σ 40 0 t.toNatClampNeg) (by rw [us_k (by decide)]) ?_
    refine lv_istore (lv' := [(4, .int (σ 40 0 t.toNatClampNeg)), (0, .ref (ad 8 0)), (1, .int k), (2, .int t), (3, .int v)]) hx hb dX8_mask_28 hl (by decide) rfl (fun ls hl => ?_)
    refine lv_aload_n hx hb dX8_mask_30 rfl (lv_at hl 1 rfl) ?_
    refine gf_X8_34 hC hW m_8 rfl dX8_mask_31 ?_
    refine lv_iload_n hx hb dX8_mask_34 rfl (lv_at hl 3 rfl) ?_
    refine lv_iload_n hx hb dX8_mask_35 rfl (lv_at hl 4 rfl) ?_
    refine w_iast hC hW hS m_40 (n := 12) (fun _ => rfl) (by first | assumption | exact it_in hM (by assumption) | exact vp_in_c (y := 12) (by decide) (by decide) (by assumption) (by assumption) | (exfalso; contradiction)) dX8_mask_36 (fun H locs hW hS => ?_)
    refine lv_iload hx hb dX8_mask_37 (lv_at hl 0 rfl) ?_
    have hO : f_X8_mask k t v σ = (σ 40 0 t.toNatClampNeg, us (us σ 8 0 0 (f_X8_whyNot k t (f_X8_within v 0 7) σ)) 40 0 t.toNatClampNeg v) := by rw [f_X8_mask, if_pos c_1]
    exact w_iretS hC hW hS hO (Nat.le_of_ble_eq_true rfl) (Nat.le_of_ble_eq_true rfl) dX8_mask_39
  · refine lv_iconst (v := 0) hx hb dX8_mask_20 (by decide) ?_
    have hO : f_X8_mask k t v σ = (0, us σ 8 0 0 (f_X8_whyNot k t (f_X8_within v 0 7) σ)) := by rw [f_X8_mask, if_neg c_1]
    exact w_iretS hC hW hS hO (Nat.le_of_ble_eq_true rfl) (Nat.le_of_ble_eq_true rfl) dX8_mask_21
theorem fr_X8_mask {kk : Nat}  {k : Int32} {t : Int32} {v : Int32} {σ : Sg} (h8 : kk ≠ 8) (h40 : kk ≠ 40) : (f_X8_mask k t v σ).2 kk = σ kk := by
  rw [f_X8_mask]
  repeat' split
  all_goals (first | (simp only [us_kk, ne_eq, not_false_eq_true, h8, h40]; done) | with_reducible rfl | (simp only [us_kk, ne_eq, not_false_eq_true, h8, h40]; with_reducible rfl))
theorem fs_X8_mask {jj : Nat}  {k : Int32} {t : Int32} {v : Int32} {σ : Sg} (h0 : jj ≠ 0) : (f_X8_mask k t v σ).2 8 0 jj = σ 8 0 jj := by
  rw [f_X8_mask]
  repeat' split
  all_goals (first | with_reducible rfl | (simp [us_k, us_j, ne_eq, not_false_eq_true, h0]; done))

def f_X8_give (k : Int32) (t : Int32) (v : Int32) (σ : Sg) : Int32 × Sg :=
  if (f_X8_isProcess k σ) = 0 then (0, us σ 8 0 0 1)
  else if (f_X8_isThing t σ) = 0 then (0, us σ 8 0 0 1)
  else if (f_X8_isSix v) = 0 then (0, us σ 8 0 0 1)
  else if (f_X8_hasBit (σ 53 0 k.toNatClampNeg) 1) = 0 then (if (σ 49 0 k.toNatClampNeg) = (σ 34 0 t.toNatClampNeg) then (if v = (σ 34 0 t.toNatClampNeg) then (σ 34 0 t.toNatClampNeg, us (us σ 8 0 0 0) 34 0 t.toNatClampNeg v)
      else (0, us σ 8 0 0 2))
    else (0, us σ 8 0 0 2))
  else (σ 34 0 t.toNatClampNeg, us (us σ 8 0 0 0) 34 0 t.toNatClampNeg v)
set_option maxHeartbeats 4000000 in
set_option maxRecDepth 100000 in
theorem c_X8_give (l : Launch) (hl9 : l.stackTraces = false) (D : va_G) (ca : Nat → ClassId) (base : Nat) (ad : Adr) (σ : Sg) (k : Int32) (t : Int32) (v : Int32) (hM : MInv σ) : Mt l yX8_give cX8_give 7 (some .int) { frames := 2, cells := 0, slots := 0, locals := 43 } D ca base ad ρm Lm [.ref (ad 8 0), .int k, .int t, .int v] σ (some (.int (f_X8_give k t v σ).1)) (f_X8_give k t v σ).2 := by
  refine w_ofW (by decide) (Nat.le_of_ble_eq_true rfl) rfl ?_
  intro p e s m args below meth c hC hW hS ls hl hin
  have hx := hC.1
  have hb := hC.2.1
  refine lv_aload_n hx hb dX8_give_0 rfl (lv_at hl 0 rfl) ?_
  refine lv_iload_n hx hb dX8_give_1 rfl (lv_at hl 1 rfl) ?_
  refine w_callV (As := [.int k]) (rest := []) (st2 := .int (f_X8_isProcess k σ) :: []) hC hW hS hl cv_X8_166 m_8 (by decide) rfl (c_X8_isProcess l hl9 D ca base ad σ k ) rfl rfl rfl ⟨Nat.le_of_ble_eq_true rfl, Nat.le_of_ble_eq_true rfl⟩ (Nat.le_of_ble_eq_true rfl) dX8_give_2 ⟨Nat.le_of_ble_eq_true rfl, Nat.le_of_ble_eq_true rfl⟩ (fun H locs hW hS => ?_)
  refine lv_if_eq (tgt := 27) hx hb dX8_give_5 (by decide) (fun c_1 => ?_) (fun c_1 => ?_)
  · refine lv_iconst (v := 0) hx hb dX8_give_27 (by decide) ?_
    refine lv_istore (lv' := [(4, .int 0), (0, .ref (ad 8 0)), (1, .int k), (2, .int t), (3, .int v)]) hx hb dX8_give_28 hl (by decide) rfl (fun ls hl => ?_)
    refine lv_iload hx hb dX8_give_30 (lv_at hl 0 rfl) ?_
    refine lv_if_eq (tgt := 77) hx hb dX8_give_32 (by decide) (fun _ => ?_) (fun c => absurd (by decide) c)
    refine lv_iconst (v := 0) hx hb dX8_give_77 (by decide) ?_
    refine lv_istore (lv' := [(5, .int 0), (4, .int 0), (0, .ref (ad 8 0)), (1, .int k), (2, .int t), (3, .int v)]) hx hb dX8_give_78 hl (by decide) rfl (fun ls hl => ?_)
    refine lv_aload_n hx hb dX8_give_80 rfl (lv_at hl 2 rfl) ?_
    refine lv_iload hx hb dX8_give_81 (lv_at hl 1 rfl) ?_
    refine lv_if_ne (tgt := 90) hx hb dX8_give_83 (by decide) (fun c => absurd (by decide) c) (fun _ => ?_)
    refine lv_iconst (v := 1) hx hb dX8_give_86 (by decide) ?_
    refine lv_goto (tgt := 100) hx hb dX8_give_87 (by decide) ?_
    refine w_callV (As := [.int 1]) (rest := []) (st2 := .int (f_X8_rf 1) :: []) hC hW hS hl cv_X8_154 m_8 (by decide) rfl (c_X8_refused l hl9 D ca base ad σ 1 ) rfl rfl rfl ⟨Nat.le_of_ble_eq_true rfl, Nat.le_of_ble_eq_true rfl⟩ (Nat.le_of_ble_eq_true rfl) dX8_give_100 ⟨Nat.le_of_ble_eq_true rfl, Nat.le_of_ble_eq_true rfl⟩ (fun H locs hW hS => ?_)
    refine lv_eqi (y := 1) (by decide) ?_
    refine lv_if_eq (tgt := 108) hx hb dX8_give_103 (by decide) (fun c => absurd c (by decide)) (fun _ => ?_)
    refine lv_iconst (v := 0) hx hb dX8_give_106 (by decide) ?_
    have hO : f_X8_give k t v σ = (0, us σ 8 0 0 1) := by rw [f_X8_give, if_pos c_1]
    exact w_iretS hC hW hS hO (Nat.le_of_ble_eq_true rfl) (Nat.le_of_ble_eq_true rfl) dX8_give_107
  · refine lv_aload_n hx hb dX8_give_8 rfl (lv_at hl 0 rfl) ?_
    refine lv_iload_n hx hb dX8_give_9 rfl (lv_at hl 2 rfl) ?_
    refine w_callV (As := [.int t]) (rest := []) (st2 := .int (f_X8_isThing t σ) :: []) hC hW hS hl cv_X8_159 m_8 (by decide) rfl (c_X8_isThing l hl9 D ca base ad σ t ) rfl rfl rfl ⟨Nat.le_of_ble_eq_true rfl, Nat.le_of_ble_eq_true rfl⟩ (Nat.le_of_ble_eq_true rfl) dX8_give_10 ⟨Nat.le_of_ble_eq_true rfl, Nat.le_of_ble_eq_true rfl⟩ (fun H locs hW hS => ?_)
    refine lv_if_eq (tgt := 27) hx hb dX8_give_13 (by decide) (fun c_2 => ?_) (fun c_2 => ?_)
    · refine lv_iconst (v := 0) hx hb dX8_give_27 (by decide) ?_
      refine lv_istore (lv' := [(4, .int 0), (0, .ref (ad 8 0)), (1, .int k), (2, .int t), (3, .int v)]) hx hb dX8_give_28 hl (by decide) rfl (fun ls hl => ?_)
      refine lv_iload hx hb dX8_give_30 (lv_at hl 0 rfl) ?_
      refine lv_if_eq (tgt := 77) hx hb dX8_give_32 (by decide) (fun _ => ?_) (fun c => absurd (by decide) c)
      refine lv_iconst (v := 0) hx hb dX8_give_77 (by decide) ?_
      refine lv_istore (lv' := [(5, .int 0), (4, .int 0), (0, .ref (ad 8 0)), (1, .int k), (2, .int t), (3, .int v)]) hx hb dX8_give_78 hl (by decide) rfl (fun ls hl => ?_)
      refine lv_aload_n hx hb dX8_give_80 rfl (lv_at hl 2 rfl) ?_
      refine lv_iload hx hb dX8_give_81 (lv_at hl 1 rfl) ?_
      refine lv_if_ne (tgt := 90) hx hb dX8_give_83 (by decide) (fun c => absurd (by decide) c) (fun _ => ?_)
      refine lv_iconst (v := 1) hx hb dX8_give_86 (by decide) ?_
      refine lv_goto (tgt := 100) hx hb dX8_give_87 (by decide) ?_
      refine w_callV (As := [.int 1]) (rest := []) (st2 := .int (f_X8_rf 1) :: []) hC hW hS hl cv_X8_154 m_8 (by decide) rfl (c_X8_refused l hl9 D ca base ad σ 1 ) rfl rfl rfl ⟨Nat.le_of_ble_eq_true rfl, Nat.le_of_ble_eq_true rfl⟩ (Nat.le_of_ble_eq_true rfl) dX8_give_100 ⟨Nat.le_of_ble_eq_true rfl, Nat.le_of_ble_eq_true rfl⟩ (fun H locs hW hS => ?_)
      refine lv_eqi (y := 1) (by decide) ?_
      refine lv_if_eq (tgt := 108) hx hb dX8_give_103 (by decide) (fun c => absurd c (by decide)) (fun _ => ?_)
      refine lv_iconst (v := 0) hx hb dX8_give_106 (by decide) ?_
      have hO : f_X8_give k t v σ = (0, us σ 8 0 0 1) := by rw [f_X8_give, if_neg c_1, if_pos c_2]
      exact w_iretS hC hW hS hO (Nat.le_of_ble_eq_true rfl) (Nat.le_of_ble_eq_true rfl) dX8_give_107
    · refine lv_iload_n hx hb dX8_give_16 rfl (lv_at hl 3 rfl) ?_
      refine w_callS (As := [.int v]) (rest := []) (st2 := .int (f_X8_isSix v) :: []) hC hW hS hl cs_X8_150 (c_X8_isSix l hl9 D ca base ad σ v ) rfl rfl rfl ⟨Nat.le_of_ble_eq_true rfl, Nat.le_of_ble_eq_true rfl⟩ (Nat.le_of_ble_eq_true rfl) dX8_give_17 ⟨Nat.le_of_ble_eq_true rfl, Nat.le_of_ble_eq_true rfl⟩ (fun H locs hW hS => ?_)
      refine lv_if_eq (tgt := 27) hx hb dX8_give_20 (by decide) (fun c_3 => ?_) (fun c_3 => ?_)
      · refine lv_iconst (v := 0) hx hb dX8_give_27 (by decide) ?_
        refine lv_istore (lv' := [(4, .int 0), (0, .ref (ad 8 0)), (1, .int k), (2, .int t), (3, .int v)]) hx hb dX8_give_28 hl (by decide) rfl (fun ls hl => ?_)
        refine lv_iload hx hb dX8_give_30 (lv_at hl 0 rfl) ?_
        refine lv_if_eq (tgt := 77) hx hb dX8_give_32 (by decide) (fun _ => ?_) (fun c => absurd (by decide) c)
        refine lv_iconst (v := 0) hx hb dX8_give_77 (by decide) ?_
        refine lv_istore (lv' := [(5, .int 0), (4, .int 0), (0, .ref (ad 8 0)), (1, .int k), (2, .int t), (3, .int v)]) hx hb dX8_give_78 hl (by decide) rfl (fun ls hl => ?_)
        refine lv_aload_n hx hb dX8_give_80 rfl (lv_at hl 2 rfl) ?_
        refine lv_iload hx hb dX8_give_81 (lv_at hl 1 rfl) ?_
        refine lv_if_ne (tgt := 90) hx hb dX8_give_83 (by decide) (fun c => absurd (by decide) c) (fun _ => ?_)
        refine lv_iconst (v := 1) hx hb dX8_give_86 (by decide) ?_
        refine lv_goto (tgt := 100) hx hb dX8_give_87 (by decide) ?_
        refine w_callV (As := [.int 1]) (rest := []) (st2 := .int (f_X8_rf 1) :: []) hC hW hS hl cv_X8_154 m_8 (by decide) rfl (c_X8_refused l hl9 D ca base ad σ 1 ) rfl rfl rfl ⟨Nat.le_of_ble_eq_true rfl, Nat.le_of_ble_eq_true rfl⟩ (Nat.le_of_ble_eq_true rfl) dX8_give_100 ⟨Nat.le_of_ble_eq_true rfl, Nat.le_of_ble_eq_true rfl⟩ (fun H locs hW hS => ?_)
        refine lv_eqi (y := 1) (by decide) ?_
        refine lv_if_eq (tgt := 108) hx hb dX8_give_103 (by decide) (fun c => absurd c (by decide)) (fun _ => ?_)
        refine lv_iconst (v := 0) hx hb dX8_give_106 (by decide) ?_
        have hO : f_X8_give k t v σ = (0, us σ 8 0 0 1) := by rw [f_X8_give, if_neg c_1, if_neg c_2, if_pos c_3]
        exact w_iretS hC hW hS hO (Nat.le_of_ble_eq_true rfl) (Nat.le_of_ble_eq_true rfl) dX8_give_107
      · refine lv_iconst (v := 1) hx hb dX8_give_23 (by decide) ?_
        refine lv_goto (tgt := 28) hx hb dX8_give_24 (by decide) ?_
        refine lv_istore (lv' := [(4, .int 1), (0, .ref (ad 8 0)), (1, .int k), (2, .int t), (3, .int v)]) hx hb dX8_give_28 hl (by decide) rfl (fun ls hl => ?_)
        refine lv_iload hx hb dX8_give_30 (lv_at hl 0 rfl) ?_
        refine lv_if_eq (tgt := 77) hx hb dX8_give_32 (by decide) (fun c => absurd c (by decide)) (fun _ => ?_)
        refine lv_aload_n hx hb dX8_give_35 rfl (lv_at hl 1 rfl) ?_
        refine gf_X8_71 hC hW m_8 rfl dX8_give_36 ?_
        refine lv_iload_n hx hb dX8_give_39 rfl (lv_at hl 2 rfl) ?_
        refine w_iald hC hW m_53 (n := 8) rfl (by first | assumption | exact ip_in hM (by assumption) | exact vp_in_c (y := 8) (by decide) (by decide) (by assumption) (by assumption) | (exfalso; contradiction)) dX8_give_40 ?_
        refine lv_iconst (v := 1) hx hb dX8_give_41 (by decide) ?_
        refine w_callS (As := [.int (σ 53 0 k.toNatClampNeg), .int 1]) (rest := []) (st2 := .int (f_X8_hasBit (σ 53 0 k.toNatClampNeg) 1) :: []) hC hW hS hl cs_X8_142 (c_X8_hasBit l hl9 D ca base ad σ (σ 53 0 k.toNatClampNeg) 1 ) rfl rfl rfl ⟨Nat.le_of_ble_eq_true rfl, Nat.le_of_ble_eq_true rfl⟩ (Nat.le_of_ble_eq_true rfl) dX8_give_42 ⟨Nat.le_of_ble_eq_true rfl, Nat.le_of_ble_eq_true rfl⟩ (fun H locs hW hS => ?_)
        refine lv_if_ne (tgt := 73) hx hb dX8_give_45 (by decide) (fun c_4 => ?_) (fun c_4 => ?_)
        · refine lv_iconst (v := 1) hx hb dX8_give_73 (by decide) ?_
          refine lv_goto (tgt := 78) hx hb dX8_give_74 (by decide) ?_
          refine lv_istore (lv' := [(5, .int 1), (4, .int 1), (0, .ref (ad 8 0)), (1, .int k), (2, .int t), (3, .int v)]) hx hb dX8_give_78 hl (by decide) rfl (fun ls hl => ?_)
          refine lv_aload_n hx hb dX8_give_80 rfl (lv_at hl 2 rfl) ?_
          refine lv_iload hx hb dX8_give_81 (lv_at hl 1 rfl) ?_
          refine lv_if_ne (tgt := 90) hx hb dX8_give_83 (by decide) (fun _ => ?_) (fun c => absurd c (by decide))
          refine lv_iload hx hb dX8_give_90 (lv_at hl 0 rfl) ?_
          refine lv_if_ne (tgt := 99) hx hb dX8_give_92 (by decide) (fun _ => ?_) (fun c => absurd c (by decide))
          refine lv_iconst (v := 0) hx hb dX8_give_99 (by decide) ?_
          refine w_callV (As := [.int 0]) (rest := []) (st2 := .int (f_X8_rf 0) :: []) hC hW hS hl cv_X8_154 m_8 (by decide) rfl (c_X8_refused l hl9 D ca base ad σ 0 ) rfl rfl rfl ⟨Nat.le_of_ble_eq_true rfl, Nat.le_of_ble_eq_true rfl⟩ (Nat.le_of_ble_eq_true rfl) dX8_give_100 ⟨Nat.le_of_ble_eq_true rfl, Nat.le_of_ble_eq_true rfl⟩ (fun H locs hW hS => ?_)
          refine lv_eqi (y := 0) (by decide) ?_
          refine lv_if_eq (tgt := 108) hx hb dX8_give_103 (by decide) (fun _ => ?_) (fun c => absurd (by decide) c)
          refine lv_aload_n hx hb dX8_give_108 rfl (lv_at hl 2 rfl) ?_
          refine gf_X8_16 hC hW m_8 rfl dX8_give_109 ?_
          refine lv_iload_n hx hb dX8_give_112 rfl (lv_at hl 4 rfl) ?_
          refine w_iald hC hW m_34 (n := 12) rfl (by first | assumption | exact it_in hM (by assumption) | exact vp_in_c (y := 12) (by decide) (by decide) (by assumption) (by assumption) | (exfalso; contradiction)) dX8_give_113 ?_
          refine lv_eqi (y := σ 34 0 t.toNatClampNeg) (by rw [us_k (by decide)]) ?_
          refine lv_istore (lv' := [(6, .int (σ 34 0 t.toNatClampNeg)), (5, .int 1), (4, .int 1), (0, .ref (ad 8 0)), (1, .int k), (2, .int t), (3, .int v)]) hx hb dX8_give_114 hl (by decide) rfl (fun ls hl => ?_)
          refine lv_aload_n hx hb dX8_give_116 rfl (lv_at hl 3 rfl) ?_
          refine gf_X8_16 hC hW m_8 rfl dX8_give_117 ?_
          refine lv_iload_n hx hb dX8_give_120 rfl (lv_at hl 5 rfl) ?_
          refine lv_iload_n hx hb dX8_give_121 rfl (lv_at hl 6 rfl) ?_
          refine w_iast hC hW hS m_34 (n := 12) (fun _ => rfl) (by first | assumption | exact it_in hM (by assumption) | exact vp_in_c (y := 12) (by decide) (by decide) (by assumption) (by assumption) | (exfalso; contradiction)) dX8_give_122 (fun H locs hW hS => ?_)
          refine lv_iload hx hb dX8_give_123 (lv_at hl 0 rfl) ?_
          have hO : f_X8_give k t v σ = (σ 34 0 t.toNatClampNeg, us (us σ 8 0 0 0) 34 0 t.toNatClampNeg v) := by rw [f_X8_give, if_neg c_1, if_neg c_2, if_neg c_3, if_neg c_4]
          exact w_iretS hC hW hS hO (Nat.le_of_ble_eq_true rfl) (Nat.le_of_ble_eq_true rfl) dX8_give_125
        · refine lv_aload_n hx hb dX8_give_48 rfl (lv_at hl 1 rfl) ?_
          refine gf_X8_59 hC hW m_8 rfl dX8_give_49 ?_
          refine lv_iload_n hx hb dX8_give_52 rfl (lv_at hl 2 rfl) ?_
          refine w_iald hC hW m_49 (n := 8) rfl (by first | assumption | exact ip_in hM (by assumption) | exact vp_in_c (y := 8) (by decide) (by decide) (by assumption) (by assumption) | (exfalso; contradiction)) dX8_give_53 ?_
          refine lv_aload_n hx hb dX8_give_54 rfl (lv_at hl 1 rfl) ?_
          refine gf_X8_16 hC hW m_8 rfl dX8_give_55 ?_
          refine lv_iload_n hx hb dX8_give_58 rfl (lv_at hl 3 rfl) ?_
          refine w_iald hC hW m_34 (n := 12) rfl (by first | assumption | exact it_in hM (by assumption) | exact vp_in_c (y := 12) (by decide) (by decide) (by assumption) (by assumption) | (exfalso; contradiction)) dX8_give_59 ?_
          refine lv_icmp_ne (tgt := 77) hx hb dX8_give_60 (by decide) (fun c_5 => ?_) (fun c_5 => ?_)
          · refine lv_iconst (v := 0) hx hb dX8_give_77 (by decide) ?_
            refine lv_istore (lv' := [(5, .int 0), (4, .int 1), (0, .ref (ad 8 0)), (1, .int k), (2, .int t), (3, .int v)]) hx hb dX8_give_78 hl (by decide) rfl (fun ls hl => ?_)
            refine lv_aload_n hx hb dX8_give_80 rfl (lv_at hl 2 rfl) ?_
            refine lv_iload hx hb dX8_give_81 (lv_at hl 1 rfl) ?_
            refine lv_if_ne (tgt := 90) hx hb dX8_give_83 (by decide) (fun _ => ?_) (fun c => absurd c (by decide))
            refine lv_iload hx hb dX8_give_90 (lv_at hl 0 rfl) ?_
            refine lv_if_ne (tgt := 99) hx hb dX8_give_92 (by decide) (fun c => absurd (by decide) c) (fun _ => ?_)
            refine lv_iconst (v := 2) hx hb dX8_give_95 (by decide) ?_
            refine lv_goto (tgt := 100) hx hb dX8_give_96 (by decide) ?_
            refine w_callV (As := [.int 2]) (rest := []) (st2 := .int (f_X8_rf 2) :: []) hC hW hS hl cv_X8_154 m_8 (by decide) rfl (c_X8_refused l hl9 D ca base ad σ 2 ) rfl rfl rfl ⟨Nat.le_of_ble_eq_true rfl, Nat.le_of_ble_eq_true rfl⟩ (Nat.le_of_ble_eq_true rfl) dX8_give_100 ⟨Nat.le_of_ble_eq_true rfl, Nat.le_of_ble_eq_true rfl⟩ (fun H locs hW hS => ?_)
            refine lv_eqi (y := 1) (by decide) ?_
            refine lv_if_eq (tgt := 108) hx hb dX8_give_103 (by decide) (fun c => absurd c (by decide)) (fun _ => ?_)
            refine lv_iconst (v := 0) hx hb dX8_give_106 (by decide) ?_
            have hO : f_X8_give k t v σ = (0, us σ 8 0 0 2) := by rw [f_X8_give, if_neg c_1, if_neg c_2, if_neg c_3, if_pos c_4, if_neg c_5]
            exact w_iretS hC hW hS hO (Nat.le_of_ble_eq_true rfl) (Nat.le_of_ble_eq_true rfl) dX8_give_107
          · refine lv_iload_n hx hb dX8_give_63 rfl (lv_at hl 4 rfl) ?_
            refine lv_aload_n hx hb dX8_give_64 rfl (lv_at hl 1 rfl) ?_
            refine gf_X8_16 hC hW m_8 rfl dX8_give_65 ?_
            refine lv_iload_n hx hb dX8_give_68 rfl (lv_at hl 3 rfl) ?_
            refine w_iald hC hW m_34 (n := 12) rfl (by first | assumption | exact it_in hM (by assumption) | exact vp_in_c (y := 12) (by decide) (by decide) (by assumption) (by assumption) | (exfalso; contradiction)) dX8_give_69 ?_
            refine lv_icmp_ne (tgt := 77) hx hb dX8_give_70 (by decide) (fun c_6 => ?_) (fun c_6 => ?_)
            · refine lv_iconst (v := 0) hx hb dX8_give_77 (by decide) ?_
              refine lv_istore (lv' := [(5, .int 0), (4, .int 1), (0, .ref (ad 8 0)), (1, .int k), (2, .int t), (3, .int v)]) hx hb dX8_give_78 hl (by decide) rfl (fun ls hl => ?_)
              refine lv_aload_n hx hb dX8_give_80 rfl (lv_at hl 2 rfl) ?_
              refine lv_iload hx hb dX8_give_81 (lv_at hl 1 rfl) ?_
              refine lv_if_ne (tgt := 90) hx hb dX8_give_83 (by decide) (fun _ => ?_) (fun c => absurd c (by decide))
              refine lv_iload hx hb dX8_give_90 (lv_at hl 0 rfl) ?_
              refine lv_if_ne (tgt := 99) hx hb dX8_give_92 (by decide) (fun c => absurd (by decide) c) (fun _ => ?_)
              refine lv_iconst (v := 2) hx hb dX8_give_95 (by decide) ?_
              refine lv_goto (tgt := 100) hx hb dX8_give_96 (by decide) ?_
              refine w_callV (As := [.int 2]) (rest := []) (st2 := .int (f_X8_rf 2) :: []) hC hW hS hl cv_X8_154 m_8 (by decide) rfl (c_X8_refused l hl9 D ca base ad σ 2 ) rfl rfl rfl ⟨Nat.le_of_ble_eq_true rfl, Nat.le_of_ble_eq_true rfl⟩ (Nat.le_of_ble_eq_true rfl) dX8_give_100 ⟨Nat.le_of_ble_eq_true rfl, Nat.le_of_ble_eq_true rfl⟩ (fun H locs hW hS => ?_)
              refine lv_eqi (y := 1) (by decide) ?_
              refine lv_if_eq (tgt := 108) hx hb dX8_give_103 (by decide) (fun c => absurd c (by decide)) (fun _ => ?_)
              refine lv_iconst (v := 0) hx hb dX8_give_106 (by decide) ?_
              have hO : f_X8_give k t v σ = (0, us σ 8 0 0 2) := by rw [f_X8_give, if_neg c_1, if_neg c_2, if_neg c_3, if_pos c_4, if_pos c_5, if_neg c_6]
              exact w_iretS hC hW hS hO (Nat.le_of_ble_eq_true rfl) (Nat.le_of_ble_eq_true rfl) dX8_give_107
            · refine lv_iconst (v := 1) hx hb dX8_give_73 (by decide) ?_
              refine lv_goto (tgt := 78) hx hb dX8_give_74 (by decide) ?_
              refine lv_istore (lv' := [(5, .int 1), (4, .int 1), (0, .ref (ad 8 0)), (1, .int k), (2, .int t), (3, .int v)]) hx hb dX8_give_78 hl (by decide) rfl (fun ls hl => ?_)
              refine lv_aload_n hx hb dX8_give_80 rfl (lv_at hl 2 rfl) ?_
              refine lv_iload hx hb dX8_give_81 (lv_at hl 1 rfl) ?_
              refine lv_if_ne (tgt := 90) hx hb dX8_give_83 (by decide) (fun _ => ?_) (fun c => absurd c (by decide))
              refine lv_iload hx hb dX8_give_90 (lv_at hl 0 rfl) ?_
              refine lv_if_ne (tgt := 99) hx hb dX8_give_92 (by decide) (fun _ => ?_) (fun c => absurd c (by decide))
              refine lv_iconst (v := 0) hx hb dX8_give_99 (by decide) ?_
              refine w_callV (As := [.int 0]) (rest := []) (st2 := .int (f_X8_rf 0) :: []) hC hW hS hl cv_X8_154 m_8 (by decide) rfl (c_X8_refused l hl9 D ca base ad σ 0 ) rfl rfl rfl ⟨Nat.le_of_ble_eq_true rfl, Nat.le_of_ble_eq_true rfl⟩ (Nat.le_of_ble_eq_true rfl) dX8_give_100 ⟨Nat.le_of_ble_eq_true rfl, Nat.le_of_ble_eq_true rfl⟩ (fun H locs hW hS => ?_)
              refine lv_eqi (y := 0) (by decide) ?_
              refine lv_if_eq (tgt := 108) hx hb dX8_give_103 (by decide) (fun _ => ?_) (fun c => absurd (by decide) c)
              refine lv_aload_n hx hb dX8_give_108 rfl (lv_at hl 2 rfl) ?_
              refine gf_X8_16 hC hW m_8 rfl dX8_give_109 ?_
              refine lv_iload_n hx hb dX8_give_112 rfl (lv_at hl 4 rfl) ?_
              refine w_iald hC hW m_34 (n := 12) rfl (by first | assumption | exact it_in hM (by assumption) | exact vp_in_c (y := 12) (by decide) (by decide) (by assumption) (by assumption) | (exfalso; contradiction)) dX8_give_113 ?_
              refine lv_eqi (y := σ 34 0 t.toNatClampNeg) (by rw [us_k (by decide)]) ?_
              refine lv_istore (lv' := [(6, .int (σ 34 0 t.toNatClampNeg)), (5, .int 1), (4, .int 1), (0, .ref (ad 8 0)), (1, .int k), (2, .int t), (3, .int v)]) hx hb dX8_give_114 hl (by decide) rfl (fun ls hl => ?_)
              refine lv_aload_n hx hb dX8_give_116 rfl (lv_at hl 3 rfl) ?_
              refine gf_X8_16 hC hW m_8 rfl dX8_give_117 ?_
              refine lv_iload_n hx hb dX8_give_120 rfl (lv_at hl 5 rfl) ?_
              refine lv_iload_n hx hb dX8_give_121 rfl (lv_at hl 6 rfl) ?_
              refine w_iast hC hW hS m_34 (n := 12) (fun _ => rfl) (by first | assumption | exact it_in hM (by assumption) | exact vp_in_c (y := 12) (by decide) (by decide) (by assumption) (by assumption) | (exfalso; contradiction)) dX8_give_122 (fun H locs hW hS => ?_)
              refine lv_iload hx hb dX8_give_123 (lv_at hl 0 rfl) ?_
              have hO : f_X8_give k t v σ = (σ 34 0 t.toNatClampNeg, us (us σ 8 0 0 0) 34 0 t.toNatClampNeg v) := by rw [f_X8_give, if_neg c_1, if_neg c_2, if_neg c_3, if_pos c_4, if_pos c_5, if_pos c_6]
              exact w_iretS hC hW hS hO (Nat.le_of_ble_eq_true rfl) (Nat.le_of_ble_eq_true rfl) dX8_give_125
theorem fr_X8_give {kk : Nat}  {k : Int32} {t : Int32} {v : Int32} {σ : Sg} (h8 : kk ≠ 8) (h34 : kk ≠ 34) : (f_X8_give k t v σ).2 kk = σ kk := by
  rw [f_X8_give]
  repeat' split
  all_goals (first | (simp only [us_kk, ne_eq, not_false_eq_true, h8, h34]; done) | with_reducible rfl | (simp only [us_kk, ne_eq, not_false_eq_true, h8, h34]; with_reducible rfl))
theorem fs_X8_give {jj : Nat}  {k : Int32} {t : Int32} {v : Int32} {σ : Sg} (h0 : jj ≠ 0) : (f_X8_give k t v σ).2 8 0 jj = σ 8 0 jj := by
  rw [f_X8_give]
  repeat' split
  all_goals (first | with_reducible rfl | (simp [us_k, us_j, ne_eq, not_false_eq_true, h0]; done))

def f_X8_label (k : Int32) (t : Int32) (v : Int32) (w : Int32) (σ : Sg) : Int32 × Sg :=
  if (f_X8_isProcess k σ) = 0 then (if (f_X8_within v 0 3) = 0 then (0, us σ 8 0 0 1)
    else if (f_X8_within w 0 7) = 0 then (0, us σ 8 0 0 1)
    else (0, us σ 8 0 0 1))
  else if (f_X8_isThing t σ) = 0 then (if (f_X8_within v 0 3) = 0 then (0, us σ 8 0 0 1)
    else if (f_X8_within w 0 7) = 0 then (0, us σ 8 0 0 1)
    else (0, us σ 8 0 0 1))
  else if (f_X8_within v 0 3) = 0 then (0, us σ 8 0 0 2)
  else if (f_X8_within w 0 7) = 0 then (0, us σ 8 0 0 2)
  else if (f_X8_hasBit (σ 53 0 k.toNatClampNeg) 2) = 0 then (0, us σ 8 0 0 3)
  else if (σ 51 0 k.toNatClampNeg) < v then (0, us σ 8 0 0 3)
  else if (w &&& ((σ 52 0 k.toNatClampNeg) ^^^ (-1 : Int32))) = 0 then (((10 : Int32) * (σ 38 0 t.toNatClampNeg)) + (σ 39 0 t.toNatClampNeg), us (us (us σ 8 0 0 0) 38 0 t.toNatClampNeg v) 39 0 t.toNatClampNeg w)
  else (0, us σ 8 0 0 3)
set_option maxHeartbeats 4000000 in
set_option maxRecDepth 100000 in
theorem c_X8_label (l : Launch) (hl9 : l.stackTraces = false) (D : va_G) (ca : Nat → ClassId) (base : Nat) (ad : Adr) (σ : Sg) (k : Int32) (t : Int32) (v : Int32) (w : Int32) (hM : MInv σ) : Mt l yX8_label cX8_label 9 (some .int) { frames := 2, cells := 0, slots := 0, locals := 43 } D ca base ad ρm Lm [.ref (ad 8 0), .int k, .int t, .int v, .int w] σ (some (.int (f_X8_label k t v w σ).1)) (f_X8_label k t v w σ).2 := by
  refine w_ofW (by decide) (Nat.le_of_ble_eq_true rfl) rfl ?_
  intro p e s m args below meth c hC hW hS ls hl hin
  have hx := hC.1
  have hb := hC.2.1
  refine lv_aload_n hx hb dX8_label_0 rfl (lv_at hl 0 rfl) ?_
  refine lv_iload_n hx hb dX8_label_1 rfl (lv_at hl 1 rfl) ?_
  refine w_callV (As := [.int k]) (rest := []) (st2 := .int (f_X8_isProcess k σ) :: []) hC hW hS hl cv_X8_166 m_8 (by decide) rfl (c_X8_isProcess l hl9 D ca base ad σ k ) rfl rfl rfl ⟨Nat.le_of_ble_eq_true rfl, Nat.le_of_ble_eq_true rfl⟩ (Nat.le_of_ble_eq_true rfl) dX8_label_2 ⟨Nat.le_of_ble_eq_true rfl, Nat.le_of_ble_eq_true rfl⟩ (fun H locs hW hS => ?_)
  refine lv_if_eq (tgt := 20) hx hb dX8_label_5 (by decide) (fun c_1 => ?_) (fun c_1 => ?_)
  · refine lv_iconst (v := 0) hx hb dX8_label_20 (by decide) ?_
    refine lv_istore (lv' := [(5, .int 0), (0, .ref (ad 8 0)), (1, .int k), (2, .int t), (3, .int v), (4, .int w)]) hx hb dX8_label_21 hl (by decide) rfl (fun ls hl => ?_)
    refine lv_iload_n hx hb dX8_label_23 rfl (lv_at hl 4 rfl) ?_
    refine lv_iconst (v := 0) hx hb dX8_label_24 (by decide) ?_
    refine lv_iconst (v := 3) hx hb dX8_label_25 (by decide) ?_
    refine w_callS (As := [.int v, .int 0, .int 3]) (rest := []) (st2 := .int (f_X8_within v 0 3) :: []) hC hW hS hl cs_X8_129 (c_X8_within l hl9 D ca base ad σ v 0 3 ) rfl rfl rfl ⟨Nat.le_of_ble_eq_true rfl, Nat.le_of_ble_eq_true rfl⟩ (Nat.le_of_ble_eq_true rfl) dX8_label_26 ⟨Nat.le_of_ble_eq_true rfl, Nat.le_of_ble_eq_true rfl⟩ (fun H locs hW hS => ?_)
    refine lv_if_eq (tgt := 47) hx hb dX8_label_29 (by decide) (fun c_2 => ?_) (fun c_2 => ?_)
    · refine lv_iconst (v := 0) hx hb dX8_label_47 (by decide) ?_
      refine lv_istore (lv' := [(6, .int 0), (5, .int 0), (0, .ref (ad 8 0)), (1, .int k), (2, .int t), (3, .int v), (4, .int w)]) hx hb dX8_label_48 hl (by decide) rfl (fun ls hl => ?_)
      refine lv_iload hx hb dX8_label_50 (lv_at hl 1 rfl) ?_
      refine lv_if_eq (tgt := 101) hx hb dX8_label_52 (by decide) (fun _ => ?_) (fun c => absurd (by decide) c)
      refine lv_iconst (v := 0) hx hb dX8_label_101 (by decide) ?_
      refine lv_istore (lv' := [(7, .int 0), (6, .int 0), (5, .int 0), (0, .ref (ad 8 0)), (1, .int k), (2, .int t), (3, .int v), (4, .int w)]) hx hb dX8_label_102 hl (by decide) rfl (fun ls hl => ?_)
      refine lv_aload_n hx hb dX8_label_104 rfl (lv_at hl 3 rfl) ?_
      refine lv_iload hx hb dX8_label_105 (lv_at hl 2 rfl) ?_
      refine lv_if_ne (tgt := 114) hx hb dX8_label_107 (by decide) (fun c => absurd (by decide) c) (fun _ => ?_)
      refine lv_iconst (v := 1) hx hb dX8_label_110 (by decide) ?_
      refine lv_goto (tgt := 133) hx hb dX8_label_111 (by decide) ?_
      refine w_callV (As := [.int 1]) (rest := []) (st2 := .int (f_X8_rf 1) :: []) hC hW hS hl cv_X8_154 m_8 (by decide) rfl (c_X8_refused l hl9 D ca base ad σ 1 ) rfl rfl rfl ⟨Nat.le_of_ble_eq_true rfl, Nat.le_of_ble_eq_true rfl⟩ (Nat.le_of_ble_eq_true rfl) dX8_label_133 ⟨Nat.le_of_ble_eq_true rfl, Nat.le_of_ble_eq_true rfl⟩ (fun H locs hW hS => ?_)
      refine lv_eqi (y := 1) (by decide) ?_
      refine lv_if_eq (tgt := 141) hx hb dX8_label_136 (by decide) (fun c => absurd c (by decide)) (fun _ => ?_)
      refine lv_iconst (v := 0) hx hb dX8_label_139 (by decide) ?_
      have hO : f_X8_label k t v w σ = (0, us σ 8 0 0 1) := by rw [f_X8_label, if_pos c_1, if_pos c_2]
      exact w_iretS hC hW hS hO (Nat.le_of_ble_eq_true rfl) (Nat.le_of_ble_eq_true rfl) dX8_label_140
    · refine lv_iload hx hb dX8_label_32 (lv_at hl 5 rfl) ?_
      refine lv_iconst (v := 0) hx hb dX8_label_34 (by decide) ?_
      refine lv_bipush (v := 7) hx hb dX8_label_35 (by decide) ?_
      refine w_callS (As := [.int w, .int 0, .int 7]) (rest := []) (st2 := .int (f_X8_within w 0 7) :: []) hC hW hS hl cs_X8_129 (c_X8_within l hl9 D ca base ad σ w 0 7 ) rfl rfl rfl ⟨Nat.le_of_ble_eq_true rfl, Nat.le_of_ble_eq_true rfl⟩ (Nat.le_of_ble_eq_true rfl) dX8_label_37 ⟨Nat.le_of_ble_eq_true rfl, Nat.le_of_ble_eq_true rfl⟩ (fun H locs hW hS => ?_)
      refine lv_if_eq (tgt := 47) hx hb dX8_label_40 (by decide) (fun c_3 => ?_) (fun c_3 => ?_)
      · refine lv_iconst (v := 0) hx hb dX8_label_47 (by decide) ?_
        refine lv_istore (lv' := [(6, .int 0), (5, .int 0), (0, .ref (ad 8 0)), (1, .int k), (2, .int t), (3, .int v), (4, .int w)]) hx hb dX8_label_48 hl (by decide) rfl (fun ls hl => ?_)
        refine lv_iload hx hb dX8_label_50 (lv_at hl 1 rfl) ?_
        refine lv_if_eq (tgt := 101) hx hb dX8_label_52 (by decide) (fun _ => ?_) (fun c => absurd (by decide) c)
        refine lv_iconst (v := 0) hx hb dX8_label_101 (by decide) ?_
        refine lv_istore (lv' := [(7, .int 0), (6, .int 0), (5, .int 0), (0, .ref (ad 8 0)), (1, .int k), (2, .int t), (3, .int v), (4, .int w)]) hx hb dX8_label_102 hl (by decide) rfl (fun ls hl => ?_)
        refine lv_aload_n hx hb dX8_label_104 rfl (lv_at hl 3 rfl) ?_
        refine lv_iload hx hb dX8_label_105 (lv_at hl 2 rfl) ?_
        refine lv_if_ne (tgt := 114) hx hb dX8_label_107 (by decide) (fun c => absurd (by decide) c) (fun _ => ?_)
        refine lv_iconst (v := 1) hx hb dX8_label_110 (by decide) ?_
        refine lv_goto (tgt := 133) hx hb dX8_label_111 (by decide) ?_
        refine w_callV (As := [.int 1]) (rest := []) (st2 := .int (f_X8_rf 1) :: []) hC hW hS hl cv_X8_154 m_8 (by decide) rfl (c_X8_refused l hl9 D ca base ad σ 1 ) rfl rfl rfl ⟨Nat.le_of_ble_eq_true rfl, Nat.le_of_ble_eq_true rfl⟩ (Nat.le_of_ble_eq_true rfl) dX8_label_133 ⟨Nat.le_of_ble_eq_true rfl, Nat.le_of_ble_eq_true rfl⟩ (fun H locs hW hS => ?_)
        refine lv_eqi (y := 1) (by decide) ?_
        refine lv_if_eq (tgt := 141) hx hb dX8_label_136 (by decide) (fun c => absurd c (by decide)) (fun _ => ?_)
        refine lv_iconst (v := 0) hx hb dX8_label_139 (by decide) ?_
        have hO : f_X8_label k t v w σ = (0, us σ 8 0 0 1) := by rw [f_X8_label, if_pos c_1, if_neg c_2, if_pos c_3]
        exact w_iretS hC hW hS hO (Nat.le_of_ble_eq_true rfl) (Nat.le_of_ble_eq_true rfl) dX8_label_140
      · refine lv_iconst (v := 1) hx hb dX8_label_43 (by decide) ?_
        refine lv_goto (tgt := 48) hx hb dX8_label_44 (by decide) ?_
        refine lv_istore (lv' := [(6, .int 1), (5, .int 0), (0, .ref (ad 8 0)), (1, .int k), (2, .int t), (3, .int v), (4, .int w)]) hx hb dX8_label_48 hl (by decide) rfl (fun ls hl => ?_)
        refine lv_iload hx hb dX8_label_50 (lv_at hl 1 rfl) ?_
        refine lv_if_eq (tgt := 101) hx hb dX8_label_52 (by decide) (fun _ => ?_) (fun c => absurd (by decide) c)
        refine lv_iconst (v := 0) hx hb dX8_label_101 (by decide) ?_
        refine lv_istore (lv' := [(7, .int 0), (6, .int 1), (5, .int 0), (0, .ref (ad 8 0)), (1, .int k), (2, .int t), (3, .int v), (4, .int w)]) hx hb dX8_label_102 hl (by decide) rfl (fun ls hl => ?_)
        refine lv_aload_n hx hb dX8_label_104 rfl (lv_at hl 3 rfl) ?_
        refine lv_iload hx hb dX8_label_105 (lv_at hl 2 rfl) ?_
        refine lv_if_ne (tgt := 114) hx hb dX8_label_107 (by decide) (fun c => absurd (by decide) c) (fun _ => ?_)
        refine lv_iconst (v := 1) hx hb dX8_label_110 (by decide) ?_
        refine lv_goto (tgt := 133) hx hb dX8_label_111 (by decide) ?_
        refine w_callV (As := [.int 1]) (rest := []) (st2 := .int (f_X8_rf 1) :: []) hC hW hS hl cv_X8_154 m_8 (by decide) rfl (c_X8_refused l hl9 D ca base ad σ 1 ) rfl rfl rfl ⟨Nat.le_of_ble_eq_true rfl, Nat.le_of_ble_eq_true rfl⟩ (Nat.le_of_ble_eq_true rfl) dX8_label_133 ⟨Nat.le_of_ble_eq_true rfl, Nat.le_of_ble_eq_true rfl⟩ (fun H locs hW hS => ?_)
        refine lv_eqi (y := 1) (by decide) ?_
        refine lv_if_eq (tgt := 141) hx hb dX8_label_136 (by decide) (fun c => absurd c (by decide)) (fun _ => ?_)
        refine lv_iconst (v := 0) hx hb dX8_label_139 (by decide) ?_
        have hO : f_X8_label k t v w σ = (0, us σ 8 0 0 1) := by rw [f_X8_label, if_pos c_1, if_neg c_2, if_neg c_3]
        exact w_iretS hC hW hS hO (Nat.le_of_ble_eq_true rfl) (Nat.le_of_ble_eq_true rfl) dX8_label_140
  · refine lv_aload_n hx hb dX8_label_8 rfl (lv_at hl 0 rfl) ?_
    refine lv_iload_n hx hb dX8_label_9 rfl (lv_at hl 2 rfl) ?_
    refine w_callV (As := [.int t]) (rest := []) (st2 := .int (f_X8_isThing t σ) :: []) hC hW hS hl cv_X8_159 m_8 (by decide) rfl (c_X8_isThing l hl9 D ca base ad σ t ) rfl rfl rfl ⟨Nat.le_of_ble_eq_true rfl, Nat.le_of_ble_eq_true rfl⟩ (Nat.le_of_ble_eq_true rfl) dX8_label_10 ⟨Nat.le_of_ble_eq_true rfl, Nat.le_of_ble_eq_true rfl⟩ (fun H locs hW hS => ?_)
    refine lv_if_eq (tgt := 20) hx hb dX8_label_13 (by decide) (fun c_4 => ?_) (fun c_4 => ?_)
    · refine lv_iconst (v := 0) hx hb dX8_label_20 (by decide) ?_
      refine lv_istore (lv' := [(5, .int 0), (0, .ref (ad 8 0)), (1, .int k), (2, .int t), (3, .int v), (4, .int w)]) hx hb dX8_label_21 hl (by decide) rfl (fun ls hl => ?_)
      refine lv_iload_n hx hb dX8_label_23 rfl (lv_at hl 4 rfl) ?_
      refine lv_iconst (v := 0) hx hb dX8_label_24 (by decide) ?_
      refine lv_iconst (v := 3) hx hb dX8_label_25 (by decide) ?_
      refine w_callS (As := [.int v, .int 0, .int 3]) (rest := []) (st2 := .int (f_X8_within v 0 3) :: []) hC hW hS hl cs_X8_129 (c_X8_within l hl9 D ca base ad σ v 0 3 ) rfl rfl rfl ⟨Nat.le_of_ble_eq_true rfl, Nat.le_of_ble_eq_true rfl⟩ (Nat.le_of_ble_eq_true rfl) dX8_label_26 ⟨Nat.le_of_ble_eq_true rfl, Nat.le_of_ble_eq_true rfl⟩ (fun H locs hW hS => ?_)
      refine lv_if_eq (tgt := 47) hx hb dX8_label_29 (by decide) (fun c_5 => ?_) (fun c_5 => ?_)
      · refine lv_iconst (v := 0) hx hb dX8_label_47 (by decide) ?_
        refine lv_istore (lv' := [(6, .int 0), (5, .int 0), (0, .ref (ad 8 0)), (1, .int k), (2, .int t), (3, .int v), (4, .int w)]) hx hb dX8_label_48 hl (by decide) rfl (fun ls hl => ?_)
        refine lv_iload hx hb dX8_label_50 (lv_at hl 1 rfl) ?_
        refine lv_if_eq (tgt := 101) hx hb dX8_label_52 (by decide) (fun _ => ?_) (fun c => absurd (by decide) c)
        refine lv_iconst (v := 0) hx hb dX8_label_101 (by decide) ?_
        refine lv_istore (lv' := [(7, .int 0), (6, .int 0), (5, .int 0), (0, .ref (ad 8 0)), (1, .int k), (2, .int t), (3, .int v), (4, .int w)]) hx hb dX8_label_102 hl (by decide) rfl (fun ls hl => ?_)
        refine lv_aload_n hx hb dX8_label_104 rfl (lv_at hl 3 rfl) ?_
        refine lv_iload hx hb dX8_label_105 (lv_at hl 2 rfl) ?_
        refine lv_if_ne (tgt := 114) hx hb dX8_label_107 (by decide) (fun c => absurd (by decide) c) (fun _ => ?_)
        refine lv_iconst (v := 1) hx hb dX8_label_110 (by decide) ?_
        refine lv_goto (tgt := 133) hx hb dX8_label_111 (by decide) ?_
        refine w_callV (As := [.int 1]) (rest := []) (st2 := .int (f_X8_rf 1) :: []) hC hW hS hl cv_X8_154 m_8 (by decide) rfl (c_X8_refused l hl9 D ca base ad σ 1 ) rfl rfl rfl ⟨Nat.le_of_ble_eq_true rfl, Nat.le_of_ble_eq_true rfl⟩ (Nat.le_of_ble_eq_true rfl) dX8_label_133 ⟨Nat.le_of_ble_eq_true rfl, Nat.le_of_ble_eq_true rfl⟩ (fun H locs hW hS => ?_)
        refine lv_eqi (y := 1) (by decide) ?_
        refine lv_if_eq (tgt := 141) hx hb dX8_label_136 (by decide) (fun c => absurd c (by decide)) (fun _ => ?_)
        refine lv_iconst (v := 0) hx hb dX8_label_139 (by decide) ?_
        have hO : f_X8_label k t v w σ = (0, us σ 8 0 0 1) := by rw [f_X8_label, if_neg c_1, if_pos c_4, if_pos c_5]
        exact w_iretS hC hW hS hO (Nat.le_of_ble_eq_true rfl) (Nat.le_of_ble_eq_true rfl) dX8_label_140
      · refine lv_iload hx hb dX8_label_32 (lv_at hl 5 rfl) ?_
        refine lv_iconst (v := 0) hx hb dX8_label_34 (by decide) ?_
        refine lv_bipush (v := 7) hx hb dX8_label_35 (by decide) ?_
        refine w_callS (As := [.int w, .int 0, .int 7]) (rest := []) (st2 := .int (f_X8_within w 0 7) :: []) hC hW hS hl cs_X8_129 (c_X8_within l hl9 D ca base ad σ w 0 7 ) rfl rfl rfl ⟨Nat.le_of_ble_eq_true rfl, Nat.le_of_ble_eq_true rfl⟩ (Nat.le_of_ble_eq_true rfl) dX8_label_37 ⟨Nat.le_of_ble_eq_true rfl, Nat.le_of_ble_eq_true rfl⟩ (fun H locs hW hS => ?_)
        refine lv_if_eq (tgt := 47) hx hb dX8_label_40 (by decide) (fun c_6 => ?_) (fun c_6 => ?_)
        · refine lv_iconst (v := 0) hx hb dX8_label_47 (by decide) ?_
          refine lv_istore (lv' := [(6, .int 0), (5, .int 0), (0, .ref (ad 8 0)), (1, .int k), (2, .int t), (3, .int v), (4, .int w)]) hx hb dX8_label_48 hl (by decide) rfl (fun ls hl => ?_)
          refine lv_iload hx hb dX8_label_50 (lv_at hl 1 rfl) ?_
          refine lv_if_eq (tgt := 101) hx hb dX8_label_52 (by decide) (fun _ => ?_) (fun c => absurd (by decide) c)
          refine lv_iconst (v := 0) hx hb dX8_label_101 (by decide) ?_
          refine lv_istore (lv' := [(7, .int 0), (6, .int 0), (5, .int 0), (0, .ref (ad 8 0)), (1, .int k), (2, .int t), (3, .int v), (4, .int w)]) hx hb dX8_label_102 hl (by decide) rfl (fun ls hl => ?_)
          refine lv_aload_n hx hb dX8_label_104 rfl (lv_at hl 3 rfl) ?_
          refine lv_iload hx hb dX8_label_105 (lv_at hl 2 rfl) ?_
          refine lv_if_ne (tgt := 114) hx hb dX8_label_107 (by decide) (fun c => absurd (by decide) c) (fun _ => ?_)
          refine lv_iconst (v := 1) hx hb dX8_label_110 (by decide) ?_
          refine lv_goto (tgt := 133) hx hb dX8_label_111 (by decide) ?_
          refine w_callV (As := [.int 1]) (rest := []) (st2 := .int (f_X8_rf 1) :: []) hC hW hS hl cv_X8_154 m_8 (by decide) rfl (c_X8_refused l hl9 D ca base ad σ 1 ) rfl rfl rfl ⟨Nat.le_of_ble_eq_true rfl, Nat.le_of_ble_eq_true rfl⟩ (Nat.le_of_ble_eq_true rfl) dX8_label_133 ⟨Nat.le_of_ble_eq_true rfl, Nat.le_of_ble_eq_true rfl⟩ (fun H locs hW hS => ?_)
          refine lv_eqi (y := 1) (by decide) ?_
          refine lv_if_eq (tgt := 141) hx hb dX8_label_136 (by decide) (fun c => absurd c (by decide)) (fun _ => ?_)
          refine lv_iconst (v := 0) hx hb dX8_label_139 (by decide) ?_
          have hO : f_X8_label k t v w σ = (0, us σ 8 0 0 1) := by rw [f_X8_label, if_neg c_1, if_pos c_4, if_neg c_5, if_pos c_6]
          exact w_iretS hC hW hS hO (Nat.le_of_ble_eq_true rfl) (Nat.le_of_ble_eq_true rfl) dX8_label_140
        · refine lv_iconst (v := 1) hx hb dX8_label_43 (by decide) ?_
          refine lv_goto (tgt := 48) hx hb dX8_label_44 (by decide) ?_
          refine lv_istore (lv' := [(6, .int 1), (5, .int 0), (0, .ref (ad 8 0)), (1, .int k), (2, .int t), (3, .int v), (4, .int w)]) hx hb dX8_label_48 hl (by decide) rfl (fun ls hl => ?_)
          refine lv_iload hx hb dX8_label_50 (lv_at hl 1 rfl) ?_
          refine lv_if_eq (tgt := 101) hx hb dX8_label_52 (by decide) (fun _ => ?_) (fun c => absurd (by decide) c)
          refine lv_iconst (v := 0) hx hb dX8_label_101 (by decide) ?_
          refine lv_istore (lv' := [(7, .int 0), (6, .int 1), (5, .int 0), (0, .ref (ad 8 0)), (1, .int k), (2, .int t), (3, .int v), (4, .int w)]) hx hb dX8_label_102 hl (by decide) rfl (fun ls hl => ?_)
          refine lv_aload_n hx hb dX8_label_104 rfl (lv_at hl 3 rfl) ?_
          refine lv_iload hx hb dX8_label_105 (lv_at hl 2 rfl) ?_
          refine lv_if_ne (tgt := 114) hx hb dX8_label_107 (by decide) (fun c => absurd (by decide) c) (fun _ => ?_)
          refine lv_iconst (v := 1) hx hb dX8_label_110 (by decide) ?_
          refine lv_goto (tgt := 133) hx hb dX8_label_111 (by decide) ?_
          refine w_callV (As := [.int 1]) (rest := []) (st2 := .int (f_X8_rf 1) :: []) hC hW hS hl cv_X8_154 m_8 (by decide) rfl (c_X8_refused l hl9 D ca base ad σ 1 ) rfl rfl rfl ⟨Nat.le_of_ble_eq_true rfl, Nat.le_of_ble_eq_true rfl⟩ (Nat.le_of_ble_eq_true rfl) dX8_label_133 ⟨Nat.le_of_ble_eq_true rfl, Nat.le_of_ble_eq_true rfl⟩ (fun H locs hW hS => ?_)
          refine lv_eqi (y := 1) (by decide) ?_
          refine lv_if_eq (tgt := 141) hx hb dX8_label_136 (by decide) (fun c => absurd c (by decide)) (fun _ => ?_)
          refine lv_iconst (v := 0) hx hb dX8_label_139 (by decide) ?_
          have hO : f_X8_label k t v w σ = (0, us σ 8 0 0 1) := by rw [f_X8_label, if_neg c_1, if_pos c_4, if_neg c_5, if_neg c_6]
          exact w_iretS hC hW hS hO (Nat.le_of_ble_eq_true rfl) (Nat.le_of_ble_eq_true rfl) dX8_label_140
    · refine lv_iconst (v := 1) hx hb dX8_label_16 (by decide) ?_
      refine lv_goto (tgt := 21) hx hb dX8_label_17 (by decide) ?_
      refine lv_istore (lv' := [(5, .int 1), (0, .ref (ad 8 0)), (1, .int k), (2, .int t), (3, .int v), (4, .int w)]) hx hb dX8_label_21 hl (by decide) rfl (fun ls hl => ?_)
      refine lv_iload_n hx hb dX8_label_23 rfl (lv_at hl 4 rfl) ?_
      refine lv_iconst (v := 0) hx hb dX8_label_24 (by decide) ?_
      refine lv_iconst (v := 3) hx hb dX8_label_25 (by decide) ?_
      refine w_callS (As := [.int v, .int 0, .int 3]) (rest := []) (st2 := .int (f_X8_within v 0 3) :: []) hC hW hS hl cs_X8_129 (c_X8_within l hl9 D ca base ad σ v 0 3 ) rfl rfl rfl ⟨Nat.le_of_ble_eq_true rfl, Nat.le_of_ble_eq_true rfl⟩ (Nat.le_of_ble_eq_true rfl) dX8_label_26 ⟨Nat.le_of_ble_eq_true rfl, Nat.le_of_ble_eq_true rfl⟩ (fun H locs hW hS => ?_)
      refine lv_if_eq (tgt := 47) hx hb dX8_label_29 (by decide) (fun c_7 => ?_) (fun c_7 => ?_)
      · refine lv_iconst (v := 0) hx hb dX8_label_47 (by decide) ?_
        refine lv_istore (lv' := [(6, .int 0), (5, .int 1), (0, .ref (ad 8 0)), (1, .int k), (2, .int t), (3, .int v), (4, .int w)]) hx hb dX8_label_48 hl (by decide) rfl (fun ls hl => ?_)
        refine lv_iload hx hb dX8_label_50 (lv_at hl 1 rfl) ?_
        refine lv_if_eq (tgt := 101) hx hb dX8_label_52 (by decide) (fun c => absurd c (by decide)) (fun _ => ?_)
        refine lv_iload hx hb dX8_label_55 (lv_at hl 0 rfl) ?_
        refine lv_if_eq (tgt := 101) hx hb dX8_label_57 (by decide) (fun _ => ?_) (fun c => absurd (by decide) c)
        refine lv_iconst (v := 0) hx hb dX8_label_101 (by decide) ?_
        refine lv_istore (lv' := [(7, .int 0), (6, .int 0), (5, .int 1), (0, .ref (ad 8 0)), (1, .int k), (2, .int t), (3, .int v), (4, .int w)]) hx hb dX8_label_102 hl (by decide) rfl (fun ls hl => ?_)
        refine lv_aload_n hx hb dX8_label_104 rfl (lv_at hl 3 rfl) ?_
        refine lv_iload hx hb dX8_label_105 (lv_at hl 2 rfl) ?_
        refine lv_if_ne (tgt := 114) hx hb dX8_label_107 (by decide) (fun _ => ?_) (fun c => absurd c (by decide))
        refine lv_iload hx hb dX8_label_114 (lv_at hl 1 rfl) ?_
        refine lv_if_ne (tgt := 123) hx hb dX8_label_116 (by decide) (fun c => absurd (by decide) c) (fun _ => ?_)
        refine lv_iconst (v := 2) hx hb dX8_label_119 (by decide) ?_
        refine lv_goto (tgt := 133) hx hb dX8_label_120 (by decide) ?_
        refine w_callV (As := [.int 2]) (rest := []) (st2 := .int (f_X8_rf 2) :: []) hC hW hS hl cv_X8_154 m_8 (by decide) rfl (c_X8_refused l hl9 D ca base ad σ 2 ) rfl rfl rfl ⟨Nat.le_of_ble_eq_true rfl, Nat.le_of_ble_eq_true rfl⟩ (Nat.le_of_ble_eq_true rfl) dX8_label_133 ⟨Nat.le_of_ble_eq_true rfl, Nat.le_of_ble_eq_true rfl⟩ (fun H locs hW hS => ?_)
        refine lv_eqi (y := 1) (by decide) ?_
        refine lv_if_eq (tgt := 141) hx hb dX8_label_136 (by decide) (fun c => absurd c (by decide)) (fun _ => ?_)
        refine lv_iconst (v := 0) hx hb dX8_label_139 (by decide) ?_
        have hO : f_X8_label k t v w σ = (0, us σ 8 0 0 2) := by rw [f_X8_label, if_neg c_1, if_neg c_4, if_pos c_7]
        exact w_iretS hC hW hS hO (Nat.le_of_ble_eq_true rfl) (Nat.le_of_ble_eq_true rfl) dX8_label_140
      · refine lv_iload hx hb dX8_label_32 (lv_at hl 5 rfl) ?_
        refine lv_iconst (v := 0) hx hb dX8_label_34 (by decide) ?_
        refine lv_bipush (v := 7) hx hb dX8_label_35 (by decide) ?_
        refine w_callS (As := [.int w, .int 0, .int 7]) (rest := []) (st2 := .int (f_X8_within w 0 7) :: []) hC hW hS hl cs_X8_129 (c_X8_within l hl9 D ca base ad σ w 0 7 ) rfl rfl rfl ⟨Nat.le_of_ble_eq_true rfl, Nat.le_of_ble_eq_true rfl⟩ (Nat.le_of_ble_eq_true rfl) dX8_label_37 ⟨Nat.le_of_ble_eq_true rfl, Nat.le_of_ble_eq_true rfl⟩ (fun H locs hW hS => ?_)
        refine lv_if_eq (tgt := 47) hx hb dX8_label_40 (by decide) (fun c_8 => ?_) (fun c_8 => ?_)
        · refine lv_iconst (v := 0) hx hb dX8_label_47 (by decide) ?_
          refine lv_istore (lv' := [(6, .int 0), (5, .int 1), (0, .ref (ad 8 0)), (1, .int k), (2, .int t), (3, .int v), (4, .int w)]) hx hb dX8_label_48 hl (by decide) rfl (fun ls hl => ?_)
          refine lv_iload hx hb dX8_label_50 (lv_at hl 1 rfl) ?_
          refine lv_if_eq (tgt := 101) hx hb dX8_label_52 (by decide) (fun c => absurd c (by decide)) (fun _ => ?_)
          refine lv_iload hx hb dX8_label_55 (lv_at hl 0 rfl) ?_
          refine lv_if_eq (tgt := 101) hx hb dX8_label_57 (by decide) (fun _ => ?_) (fun c => absurd (by decide) c)
          refine lv_iconst (v := 0) hx hb dX8_label_101 (by decide) ?_
          refine lv_istore (lv' := [(7, .int 0), (6, .int 0), (5, .int 1), (0, .ref (ad 8 0)), (1, .int k), (2, .int t), (3, .int v), (4, .int w)]) hx hb dX8_label_102 hl (by decide) rfl (fun ls hl => ?_)
          refine lv_aload_n hx hb dX8_label_104 rfl (lv_at hl 3 rfl) ?_
          refine lv_iload hx hb dX8_label_105 (lv_at hl 2 rfl) ?_
          refine lv_if_ne (tgt := 114) hx hb dX8_label_107 (by decide) (fun _ => ?_) (fun c => absurd c (by decide))
          refine lv_iload hx hb dX8_label_114 (lv_at hl 1 rfl) ?_
          refine lv_if_ne (tgt := 123) hx hb dX8_label_116 (by decide) (fun c => absurd (by decide) c) (fun _ => ?_)
          refine lv_iconst (v := 2) hx hb dX8_label_119 (by decide) ?_
          refine lv_goto (tgt := 133) hx hb dX8_label_120 (by decide) ?_
          refine w_callV (As := [.int 2]) (rest := []) (st2 := .int (f_X8_rf 2) :: []) hC hW hS hl cv_X8_154 m_8 (by decide) rfl (c_X8_refused l hl9 D ca base ad σ 2 ) rfl rfl rfl ⟨Nat.le_of_ble_eq_true rfl, Nat.le_of_ble_eq_true rfl⟩ (Nat.le_of_ble_eq_true rfl) dX8_label_133 ⟨Nat.le_of_ble_eq_true rfl, Nat.le_of_ble_eq_true rfl⟩ (fun H locs hW hS => ?_)
          refine lv_eqi (y := 1) (by decide) ?_
          refine lv_if_eq (tgt := 141) hx hb dX8_label_136 (by decide) (fun c => absurd c (by decide)) (fun _ => ?_)
          refine lv_iconst (v := 0) hx hb dX8_label_139 (by decide) ?_
          have hO : f_X8_label k t v w σ = (0, us σ 8 0 0 2) := by rw [f_X8_label, if_neg c_1, if_neg c_4, if_neg c_7, if_pos c_8]
          exact w_iretS hC hW hS hO (Nat.le_of_ble_eq_true rfl) (Nat.le_of_ble_eq_true rfl) dX8_label_140
        · refine lv_iconst (v := 1) hx hb dX8_label_43 (by decide) ?_
          refine lv_goto (tgt := 48) hx hb dX8_label_44 (by decide) ?_
          refine lv_istore (lv' := [(6, .int 1), (5, .int 1), (0, .ref (ad 8 0)), (1, .int k), (2, .int t), (3, .int v), (4, .int w)]) hx hb dX8_label_48 hl (by decide) rfl (fun ls hl => ?_)
          refine lv_iload hx hb dX8_label_50 (lv_at hl 1 rfl) ?_
          refine lv_if_eq (tgt := 101) hx hb dX8_label_52 (by decide) (fun c => absurd c (by decide)) (fun _ => ?_)
          refine lv_iload hx hb dX8_label_55 (lv_at hl 0 rfl) ?_
          refine lv_if_eq (tgt := 101) hx hb dX8_label_57 (by decide) (fun c => absurd c (by decide)) (fun _ => ?_)
          refine lv_aload_n hx hb dX8_label_60 rfl (lv_at hl 2 rfl) ?_
          refine gf_X8_71 hC hW m_8 rfl dX8_label_61 ?_
          refine lv_iload_n hx hb dX8_label_64 rfl (lv_at hl 3 rfl) ?_
          refine w_iald hC hW m_53 (n := 8) rfl (by first | assumption | exact ip_in hM (by assumption) | exact vp_in_c (y := 8) (by decide) (by decide) (by assumption) (by assumption) | (exfalso; contradiction)) dX8_label_65 ?_
          refine lv_iconst (v := 2) hx hb dX8_label_66 (by decide) ?_
          refine w_callS (As := [.int (σ 53 0 k.toNatClampNeg), .int 2]) (rest := []) (st2 := .int (f_X8_hasBit (σ 53 0 k.toNatClampNeg) 2) :: []) hC hW hS hl cs_X8_142 (c_X8_hasBit l hl9 D ca base ad σ (σ 53 0 k.toNatClampNeg) 2 ) rfl rfl rfl ⟨Nat.le_of_ble_eq_true rfl, Nat.le_of_ble_eq_true rfl⟩ (Nat.le_of_ble_eq_true rfl) dX8_label_67 ⟨Nat.le_of_ble_eq_true rfl, Nat.le_of_ble_eq_true rfl⟩ (fun H locs hW hS => ?_)
          refine lv_if_eq (tgt := 101) hx hb dX8_label_70 (by decide) (fun c_9 => ?_) (fun c_9 => ?_)
          · refine lv_iconst (v := 0) hx hb dX8_label_101 (by decide) ?_
            refine lv_istore (lv' := [(7, .int 0), (6, .int 1), (5, .int 1), (0, .ref (ad 8 0)), (1, .int k), (2, .int t), (3, .int v), (4, .int w)]) hx hb dX8_label_102 hl (by decide) rfl (fun ls hl => ?_)
            refine lv_aload_n hx hb dX8_label_104 rfl (lv_at hl 3 rfl) ?_
            refine lv_iload hx hb dX8_label_105 (lv_at hl 2 rfl) ?_
            refine lv_if_ne (tgt := 114) hx hb dX8_label_107 (by decide) (fun _ => ?_) (fun c => absurd c (by decide))
            refine lv_iload hx hb dX8_label_114 (lv_at hl 1 rfl) ?_
            refine lv_if_ne (tgt := 123) hx hb dX8_label_116 (by decide) (fun _ => ?_) (fun c => absurd c (by decide))
            refine lv_iload hx hb dX8_label_123 (lv_at hl 0 rfl) ?_
            refine lv_if_ne (tgt := 132) hx hb dX8_label_125 (by decide) (fun c => absurd (by decide) c) (fun _ => ?_)
            refine lv_iconst (v := 3) hx hb dX8_label_128 (by decide) ?_
            refine lv_goto (tgt := 133) hx hb dX8_label_129 (by decide) ?_
            refine w_callV (As := [.int 3]) (rest := []) (st2 := .int (f_X8_rf 3) :: []) hC hW hS hl cv_X8_154 m_8 (by decide) rfl (c_X8_refused l hl9 D ca base ad σ 3 ) rfl rfl rfl ⟨Nat.le_of_ble_eq_true rfl, Nat.le_of_ble_eq_true rfl⟩ (Nat.le_of_ble_eq_true rfl) dX8_label_133 ⟨Nat.le_of_ble_eq_true rfl, Nat.le_of_ble_eq_true rfl⟩ (fun H locs hW hS => ?_)
            refine lv_eqi (y := 1) (by decide) ?_
            refine lv_if_eq (tgt := 141) hx hb dX8_label_136 (by decide) (fun c => absurd c (by decide)) (fun _ => ?_)
            refine lv_iconst (v := 0) hx hb dX8_label_139 (by decide) ?_
            have hO : f_X8_label k t v w σ = (0, us σ 8 0 0 3) := by rw [f_X8_label, if_neg c_1, if_neg c_4, if_neg c_7, if_neg c_8, if_pos c_9]
            exact w_iretS hC hW hS hO (Nat.le_of_ble_eq_true rfl) (Nat.le_of_ble_eq_true rfl) dX8_label_140
          · refine lv_iload_n hx hb dX8_label_73 rfl (lv_at hl 5 rfl) ?_
            refine lv_aload_n hx hb dX8_label_74 rfl (lv_at hl 2 rfl) ?_
            refine gf_X8_65 hC hW m_8 rfl dX8_label_75 ?_
            refine lv_iload_n hx hb dX8_label_78 rfl (lv_at hl 3 rfl) ?_
            refine w_iald hC hW m_51 (n := 8) rfl (by first | assumption | exact ip_in hM (by assumption) | exact vp_in_c (y := 8) (by decide) (by decide) (by assumption) (by assumption) | (exfalso; contradiction)) dX8_label_79 ?_
            refine lv_icmp_gt (tgt := 101) hx hb dX8_label_80 (by decide) (fun c_10 => ?_) (fun c_10 => ?_)
            · refine lv_iconst (v := 0) hx hb dX8_label_101 (by decide) ?_
              refine lv_istore (lv' := [(7, .int 0), (6, .int 1), (5, .int 1), (0, .ref (ad 8 0)), (1, .int k), (2, .int t), (3, .int v), (4, .int w)]) hx hb dX8_label_102 hl (by decide) rfl (fun ls hl => ?_)
              refine lv_aload_n hx hb dX8_label_104 rfl (lv_at hl 3 rfl) ?_
              refine lv_iload hx hb dX8_label_105 (lv_at hl 2 rfl) ?_
              refine lv_if_ne (tgt := 114) hx hb dX8_label_107 (by decide) (fun _ => ?_) (fun c => absurd c (by decide))
              refine lv_iload hx hb dX8_label_114 (lv_at hl 1 rfl) ?_
              refine lv_if_ne (tgt := 123) hx hb dX8_label_116 (by decide) (fun _ => ?_) (fun c => absurd c (by decide))
              refine lv_iload hx hb dX8_label_123 (lv_at hl 0 rfl) ?_
              refine lv_if_ne (tgt := 132) hx hb dX8_label_125 (by decide) (fun c => absurd (by decide) c) (fun _ => ?_)
              refine lv_iconst (v := 3) hx hb dX8_label_128 (by decide) ?_
              refine lv_goto (tgt := 133) hx hb dX8_label_129 (by decide) ?_
              refine w_callV (As := [.int 3]) (rest := []) (st2 := .int (f_X8_rf 3) :: []) hC hW hS hl cv_X8_154 m_8 (by decide) rfl (c_X8_refused l hl9 D ca base ad σ 3 ) rfl rfl rfl ⟨Nat.le_of_ble_eq_true rfl, Nat.le_of_ble_eq_true rfl⟩ (Nat.le_of_ble_eq_true rfl) dX8_label_133 ⟨Nat.le_of_ble_eq_true rfl, Nat.le_of_ble_eq_true rfl⟩ (fun H locs hW hS => ?_)
              refine lv_eqi (y := 1) (by decide) ?_
              refine lv_if_eq (tgt := 141) hx hb dX8_label_136 (by decide) (fun c => absurd c (by decide)) (fun _ => ?_)
              refine lv_iconst (v := 0) hx hb dX8_label_139 (by decide) ?_
              have hO : f_X8_label k t v w σ = (0, us σ 8 0 0 3) := by rw [f_X8_label, if_neg c_1, if_neg c_4, if_neg c_7, if_neg c_8, if_neg c_9, if_pos c_10]
              exact w_iretS hC hW hS hO (Nat.le_of_ble_eq_true rfl) (Nat.le_of_ble_eq_true rfl) dX8_label_140
            · refine lv_iload hx hb dX8_label_83 (lv_at hl 6 rfl) ?_
              refine lv_aload_n hx hb dX8_label_85 rfl (lv_at hl 2 rfl) ?_
              refine gf_X8_68 hC hW m_8 rfl dX8_label_86 ?_
              refine lv_iload_n hx hb dX8_label_89 rfl (lv_at hl 3 rfl) ?_
              refine w_iald hC hW m_52 (n := 8) rfl (by first | assumption | exact ip_in hM (by assumption) | exact vp_in_c (y := 8) (by decide) (by decide) (by assumption) (by assumption) | (exfalso; contradiction)) dX8_label_90 ?_
              refine lv_iconst (v := (-1)) hx hb dX8_label_91 (by decide) ?_
              refine lv_ixor hx hb dX8_label_92 ?_
              refine lv_iand hx hb dX8_label_93 ?_
              refine lv_if_ne (tgt := 101) hx hb dX8_label_94 (by decide) (fun c_11 => ?_) (fun c_11 => ?_)
              · refine lv_iconst (v := 0) hx hb dX8_label_101 (by decide) ?_
                refine lv_istore (lv' := [(7, .int 0), (6, .int 1), (5, .int 1), (0, .ref (ad 8 0)), (1, .int k), (2, .int t), (3, .int v), (4, .int w)]) hx hb dX8_label_102 hl (by decide) rfl (fun ls hl => ?_)
                refine lv_aload_n hx hb dX8_label_104 rfl (lv_at hl 3 rfl) ?_
                refine lv_iload hx hb dX8_label_105 (lv_at hl 2 rfl) ?_
                refine lv_if_ne (tgt := 114) hx hb dX8_label_107 (by decide) (fun _ => ?_) (fun c => absurd c (by decide))
                refine lv_iload hx hb dX8_label_114 (lv_at hl 1 rfl) ?_
                refine lv_if_ne (tgt := 123) hx hb dX8_label_116 (by decide) (fun _ => ?_) (fun c => absurd c (by decide))
                refine lv_iload hx hb dX8_label_123 (lv_at hl 0 rfl) ?_
                refine lv_if_ne (tgt := 132) hx hb dX8_label_125 (by decide) (fun c => absurd (by decide) c) (fun _ => ?_)
                refine lv_iconst (v := 3) hx hb dX8_label_128 (by decide) ?_
                refine lv_goto (tgt := 133) hx hb dX8_label_129 (by decide) ?_
                refine w_callV (As := [.int 3]) (rest := []) (st2 := .int (f_X8_rf 3) :: []) hC hW hS hl cv_X8_154 m_8 (by decide) rfl (c_X8_refused l hl9 D ca base ad σ 3 ) rfl rfl rfl ⟨Nat.le_of_ble_eq_true rfl, Nat.le_of_ble_eq_true rfl⟩ (Nat.le_of_ble_eq_true rfl) dX8_label_133 ⟨Nat.le_of_ble_eq_true rfl, Nat.le_of_ble_eq_true rfl⟩ (fun H locs hW hS => ?_)
                refine lv_eqi (y := 1) (by decide) ?_
                refine lv_if_eq (tgt := 141) hx hb dX8_label_136 (by decide) (fun c => absurd c (by decide)) (fun _ => ?_)
                refine lv_iconst (v := 0) hx hb dX8_label_139 (by decide) ?_
                have hO : f_X8_label k t v w σ = (0, us σ 8 0 0 3) := by rw [f_X8_label, if_neg c_1, if_neg c_4, if_neg c_7, if_neg c_8, if_neg c_9, if_neg c_10, if_neg c_11]
                exact w_iretS hC hW hS hO (Nat.le_of_ble_eq_true rfl) (Nat.le_of_ble_eq_true rfl) dX8_label_140
              · refine lv_iconst (v := 1) hx hb dX8_label_97 (by decide) ?_
                refine lv_goto (tgt := 102) hx hb dX8_label_98 (by decide) ?_
                refine lv_istore (lv' := [(7, .int 1), (6, .int 1), (5, .int 1), (0, .ref (ad 8 0)), (1, .int k), (2, .int t), (3, .int v), (4, .int w)]) hx hb dX8_label_102 hl (by decide) rfl (fun ls hl => ?_)
                refine lv_aload_n hx hb dX8_label_104 rfl (lv_at hl 3 rfl) ?_
                refine lv_iload hx hb dX8_label_105 (lv_at hl 2 rfl) ?_
                refine lv_if_ne (tgt := 114) hx hb dX8_label_107 (by decide) (fun _ => ?_) (fun c => absurd c (by decide))
                refine lv_iload hx hb dX8_label_114 (lv_at hl 1 rfl) ?_
                refine lv_if_ne (tgt := 123) hx hb dX8_label_116 (by decide) (fun _ => ?_) (fun c => absurd c (by decide))
                refine lv_iload hx hb dX8_label_123 (lv_at hl 0 rfl) ?_
                refine lv_if_ne (tgt := 132) hx hb dX8_label_125 (by decide) (fun _ => ?_) (fun c => absurd c (by decide))
                refine lv_iconst (v := 0) hx hb dX8_label_132 (by decide) ?_
                refine w_callV (As := [.int 0]) (rest := []) (st2 := .int (f_X8_rf 0) :: []) hC hW hS hl cv_X8_154 m_8 (by decide) rfl (c_X8_refused l hl9 D ca base ad σ 0 ) rfl rfl rfl ⟨Nat.le_of_ble_eq_true rfl, Nat.le_of_ble_eq_true rfl⟩ (Nat.le_of_ble_eq_true rfl) dX8_label_133 ⟨Nat.le_of_ble_eq_true rfl, Nat.le_of_ble_eq_true rfl⟩ (fun H locs hW hS => ?_)
                refine lv_eqi (y := 0) (by decide) ?_
                refine lv_if_eq (tgt := 141) hx hb dX8_label_136 (by decide) (fun _ => ?_) (fun c => absurd (by decide) c)
                refine lv_bipush (v := 10) hx hb dX8_label_141 (by decide) ?_
                refine lv_aload_n hx hb dX8_label_143 rfl (lv_at hl 3 rfl) ?_
                refine gf_X8_28 hC hW m_8 rfl dX8_label_144 ?_
                refine lv_iload_n hx hb dX8_label_147 rfl (lv_at hl 5 rfl) ?_
                refine w_iald hC hW m_38 (n := 12) rfl (by first | assumption | exact it_in hM (by assumption) | exact vp_in_c (y := 12) (by decide) (by decide) (by assumption) (by assumption) | (exfalso; contradiction)) dX8_label_148 ?_
                refine lv_eqi (y := σ 38 0 t.toNatClampNeg) (by rw [us_k (by decide)]) ?_
                refine lv_imul hx hb dX8_label_149 ?_
                refine lv_aload_n hx hb dX8_label_150 rfl (lv_at hl 3 rfl) ?_
                refine gf_X8_31 hC hW m_8 rfl dX8_label_151 ?_
                refine lv_iload_n hx hb dX8_label_154 rfl (lv_at hl 5 rfl) ?_
                refine w_iald hC hW m_39 (n := 12) rfl (by first | assumption | exact it_in hM (by assumption) | exact vp_in_c (y := 12) (by decide) (by decide) (by assumption) (by assumption) | (exfalso; contradiction)) dX8_label_155 ?_
                refine lv_eqi (y := σ 39 0 t.toNatClampNeg) (by rw [us_k (by decide)]) ?_
                refine lv_iadd hx hb dX8_label_156 ?_
                refine lv_istore (lv' := [(8, .int (((10 : Int32) * (σ 38 0 t.toNatClampNeg)) + (σ 39 0 t.toNatClampNeg))), (7, .int 1), (6, .int 1), (5, .int 1), (0, .ref (ad 8 0)), (1, .int k), (2, .int t), (3, .int v), (4, .int w)]) hx hb dX8_label_157 hl (by decide) rfl (fun ls hl => ?_)
                refine lv_aload_n hx hb dX8_label_159 rfl (lv_at hl 4 rfl) ?_
                refine gf_X8_28 hC hW m_8 rfl dX8_label_160 ?_
                refine lv_iload_n hx hb dX8_label_163 rfl (lv_at hl 6 rfl) ?_
                refine lv_iload_n hx hb dX8_label_164 rfl (lv_at hl 7 rfl) ?_
                refine w_iast hC hW hS m_38 (n := 12) (fun _ => rfl) (by first | assumption | exact it_in hM (by assumption) | exact vp_in_c (y := 12) (by decide) (by decide) (by assumption) (by assumption) | (exfalso; contradiction)) dX8_label_165 (fun H locs hW hS => ?_)
                refine lv_aload_n hx hb dX8_label_166 rfl (lv_at hl 4 rfl) ?_
                refine gf_X8_31 hC hW m_8 rfl dX8_label_167 ?_
                refine lv_iload_n hx hb dX8_label_170 rfl (lv_at hl 6 rfl) ?_
                refine lv_iload hx hb dX8_label_171 (lv_at hl 8 rfl) ?_
                refine w_iast hC hW hS m_39 (n := 12) (fun _ => rfl) (by first | assumption | exact it_in hM (by assumption) | exact vp_in_c (y := 12) (by decide) (by decide) (by assumption) (by assumption) | (exfalso; contradiction)) dX8_label_173 (fun H locs hW hS => ?_)
                refine lv_iload hx hb dX8_label_174 (lv_at hl 0 rfl) ?_
                have hO : f_X8_label k t v w σ = (((10 : Int32) * (σ 38 0 t.toNatClampNeg)) + (σ 39 0 t.toNatClampNeg), us (us (us σ 8 0 0 0) 38 0 t.toNatClampNeg v) 39 0 t.toNatClampNeg w) := by rw [f_X8_label, if_neg c_1, if_neg c_4, if_neg c_7, if_neg c_8, if_neg c_9, if_neg c_10, if_pos c_11]
                exact w_iretS hC hW hS hO (Nat.le_of_ble_eq_true rfl) (Nat.le_of_ble_eq_true rfl) dX8_label_176
theorem fr_X8_label {kk : Nat}  {k : Int32} {t : Int32} {v : Int32} {w : Int32} {σ : Sg} (h8 : kk ≠ 8) (h38 : kk ≠ 38) (h39 : kk ≠ 39) : (f_X8_label k t v w σ).2 kk = σ kk := by
  rw [f_X8_label]
  repeat' split
  all_goals (first | (simp only [us_kk, ne_eq, not_false_eq_true, h8, h38, h39]; done) | with_reducible rfl | (simp only [us_kk, ne_eq, not_false_eq_true, h8, h38, h39]; with_reducible rfl))
theorem fs_X8_label {jj : Nat}  {k : Int32} {t : Int32} {v : Int32} {w : Int32} {σ : Sg} (h0 : jj ≠ 0) : (f_X8_label k t v w σ).2 8 0 jj = σ 8 0 jj := by
  rw [f_X8_label]
  repeat' split
  all_goals (first | with_reducible rfl | (simp [us_k, us_j, ne_eq, not_false_eq_true, h0]; done))

def f_X8_rule (d : Int32) (t : Int32) (v : Int32) (σ : Sg) : Int32 × Sg :=
  if (f_X8_within d 0 3) = 0 then (0, us σ 8 0 0 1)
  else if (f_X8_within t 0 3) = 0 then (0, us σ 8 0 0 2)
  else if (f_X8_within v 0 7) = 0 then (0, us σ 8 0 0 2)
  else (σ 46 0 ((((4 : Int32) * d) + t).toNatClampNeg), us (us σ 8 0 0 0) 46 0 ((((4 : Int32) * d) + t).toNatClampNeg) v)
set_option maxHeartbeats 4000000 in
set_option maxRecDepth 100000 in
theorem c_X8_rule (l : Launch) (hl9 : l.stackTraces = false) (D : va_G) (ca : Nat → ClassId) (base : Nat) (ad : Adr) (σ : Sg) (d : Int32) (t : Int32) (v : Int32) (hM : MInv σ) : Mt l yX8_rule cX8_rule 5 (some .int) { frames := 1, cells := 0, slots := 0, locals := 22 } D ca base ad ρm Lm [.ref (ad 8 0), .int d, .int t, .int v] σ (some (.int (f_X8_rule d t v σ).1)) (f_X8_rule d t v σ).2 := by
  refine w_ofW (by decide) (Nat.le_of_ble_eq_true rfl) rfl ?_
  intro p e s m args below meth c hC hW hS ls hl hin
  have hx := hC.1
  have hb := hC.2.1
  refine lv_aload_n hx hb dX8_rule_0 rfl (lv_at hl 0 rfl) ?_
  refine lv_iload_n hx hb dX8_rule_1 rfl (lv_at hl 1 rfl) ?_
  refine lv_iconst (v := 0) hx hb dX8_rule_2 (by decide) ?_
  refine lv_iconst (v := 3) hx hb dX8_rule_3 (by decide) ?_
  refine w_callS (As := [.int d, .int 0, .int 3]) (rest := .ref (ad 8 0) :: []) (st2 := .int (f_X8_within d 0 3) :: .ref (ad 8 0) :: []) hC hW hS hl cs_X8_129 (c_X8_within l hl9 D ca base ad σ d 0 3 ) rfl rfl rfl ⟨Nat.le_of_ble_eq_true rfl, Nat.le_of_ble_eq_true rfl⟩ (Nat.le_of_ble_eq_true rfl) dX8_rule_4 ⟨Nat.le_of_ble_eq_true rfl, Nat.le_of_ble_eq_true rfl⟩ (fun H locs hW hS => ?_)
  refine lv_if_ne (tgt := 14) hx hb dX8_rule_7 (by decide) (fun c_1 => ?_) (fun c_1 => ?_)
  · refine lv_iload_n hx hb dX8_rule_14 rfl (lv_at hl 2 rfl) ?_
    refine lv_iconst (v := 0) hx hb dX8_rule_15 (by decide) ?_
    refine lv_iconst (v := 3) hx hb dX8_rule_16 (by decide) ?_
    refine w_callS (As := [.int t, .int 0, .int 3]) (rest := .ref (ad 8 0) :: []) (st2 := .int (f_X8_within t 0 3) :: .ref (ad 8 0) :: []) hC hW hS hl cs_X8_129 (c_X8_within l hl9 D ca base ad σ t 0 3 ) rfl rfl rfl ⟨Nat.le_of_ble_eq_true rfl, Nat.le_of_ble_eq_true rfl⟩ (Nat.le_of_ble_eq_true rfl) dX8_rule_17 ⟨Nat.le_of_ble_eq_true rfl, Nat.le_of_ble_eq_true rfl⟩ (fun H locs hW hS => ?_)
    refine lv_if_eq (tgt := 33) hx hb dX8_rule_20 (by decide) (fun c_2 => ?_) (fun c_2 => ?_)
    · refine lv_iconst (v := 2) hx hb dX8_rule_33 (by decide) ?_
      refine lv_goto (tgt := 38) hx hb dX8_rule_34 (by decide) ?_
      refine w_callV (As := [.int 2]) (rest := []) (st2 := .int (f_X8_rf 2) :: []) hC hW hS hl cv_X8_154 m_8 (by decide) rfl (c_X8_refused l hl9 D ca base ad σ 2 ) rfl rfl rfl ⟨Nat.le_of_ble_eq_true rfl, Nat.le_of_ble_eq_true rfl⟩ (Nat.le_of_ble_eq_true rfl) dX8_rule_38 ⟨Nat.le_of_ble_eq_true rfl, Nat.le_of_ble_eq_true rfl⟩ (fun H locs hW hS => ?_)
      refine lv_eqi (y := 1) (by decide) ?_
      refine lv_if_eq (tgt := 46) hx hb dX8_rule_41 (by decide) (fun c => absurd c (by decide)) (fun _ => ?_)
      refine lv_iconst (v := 0) hx hb dX8_rule_44 (by decide) ?_
      have hO : f_X8_rule d t v σ = (0, us σ 8 0 0 2) := by rw [f_X8_rule, if_neg c_1, if_pos c_2]
      exact w_iretS hC hW hS hO (Nat.le_of_ble_eq_true rfl) (Nat.le_of_ble_eq_true rfl) dX8_rule_45
    · refine lv_iload_n hx hb dX8_rule_23 rfl (lv_at hl 3 rfl) ?_
      refine lv_iconst (v := 0) hx hb dX8_rule_24 (by decide) ?_
      refine lv_bipush (v := 7) hx hb dX8_rule_25 (by decide) ?_
      refine w_callS (As := [.int v, .int 0, .int 7]) (rest := .ref (ad 8 0) :: []) (st2 := .int (f_X8_within v 0 7) :: .ref (ad 8 0) :: []) hC hW hS hl cs_X8_129 (c_X8_within l hl9 D ca base ad σ v 0 7 ) rfl rfl rfl ⟨Nat.le_of_ble_eq_true rfl, Nat.le_of_ble_eq_true rfl⟩ (Nat.le_of_ble_eq_true rfl) dX8_rule_27 ⟨Nat.le_of_ble_eq_true rfl, Nat.le_of_ble_eq_true rfl⟩ (fun H locs hW hS => ?_)
      refine lv_if_ne (tgt := 37) hx hb dX8_rule_30 (by decide) (fun c_3 => ?_) (fun c_3 => ?_)
      · refine lv_iconst (v := 0) hx hb dX8_rule_37 (by decide) ?_
        refine w_callV (As := [.int 0]) (rest := []) (st2 := .int (f_X8_rf 0) :: []) hC hW hS hl cv_X8_154 m_8 (by decide) rfl (c_X8_refused l hl9 D ca base ad σ 0 ) rfl rfl rfl ⟨Nat.le_of_ble_eq_true rfl, Nat.le_of_ble_eq_true rfl⟩ (Nat.le_of_ble_eq_true rfl) dX8_rule_38 ⟨Nat.le_of_ble_eq_true rfl, Nat.le_of_ble_eq_true rfl⟩ (fun H locs hW hS => ?_)
        refine lv_eqi (y := 0) (by decide) ?_
        refine lv_if_eq (tgt := 46) hx hb dX8_rule_41 (by decide) (fun _ => ?_) (fun c => absurd (by decide) c)
        refine lv_aload_n hx hb dX8_rule_46 rfl (lv_at hl 0 rfl) ?_
        refine gf_X8_53 hC hW m_8 rfl dX8_rule_47 ?_
        refine lv_iconst (v := 4) hx hb dX8_rule_50 (by decide) ?_
        refine lv_iload_n hx hb dX8_rule_51 rfl (lv_at hl 1 rfl) ?_
        refine lv_imul hx hb dX8_rule_52 ?_
        refine lv_iload_n hx hb dX8_rule_53 rfl (lv_at hl 2 rfl) ?_
        refine lv_iadd hx hb dX8_rule_54 ?_
        refine w_iald hC hW m_46 (n := 16) rfl (r4_in (w4_in (v := d) (by assumption)) (w4_in (v := t) (by assumption))) dX8_rule_55 ?_
        refine lv_eqi (y := σ 46 0 ((((4 : Int32) * d) + t).toNatClampNeg)) (by rw [us_k (by decide)]) ?_
        refine lv_istore (lv' := [(4, .int (σ 46 0 ((((4 : Int32) * d) + t).toNatClampNeg))), (0, .ref (ad 8 0)), (1, .int d), (2, .int t), (3, .int v)]) hx hb dX8_rule_56 hl (by decide) rfl (fun ls hl => ?_)
        refine lv_aload_n hx hb dX8_rule_58 rfl (lv_at hl 1 rfl) ?_
        refine gf_X8_53 hC hW m_8 rfl dX8_rule_59 ?_
        refine lv_iconst (v := 4) hx hb dX8_rule_62 (by decide) ?_
        refine lv_iload_n hx hb dX8_rule_63 rfl (lv_at hl 2 rfl) ?_
        refine lv_imul hx hb dX8_rule_64 ?_
        refine lv_iload_n hx hb dX8_rule_65 rfl (lv_at hl 3 rfl) ?_
        refine lv_iadd hx hb dX8_rule_66 ?_
        refine lv_iload_n hx hb dX8_rule_67 rfl (lv_at hl 4 rfl) ?_
        refine w_iast hC hW hS m_46 (n := 16) (fun _ => rfl) (r4_in (w4_in (v := d) (by assumption)) (w4_in (v := t) (by assumption))) dX8_rule_68 (fun H locs hW hS => ?_)
        refine lv_iload hx hb dX8_rule_69 (lv_at hl 0 rfl) ?_
        have hO : f_X8_rule d t v σ = (σ 46 0 ((((4 : Int32) * d) + t).toNatClampNeg), us (us σ 8 0 0 0) 46 0 ((((4 : Int32) * d) + t).toNatClampNeg) v) := by rw [f_X8_rule, if_neg c_1, if_neg c_2, if_neg c_3]
        exact w_iretS hC hW hS hO (Nat.le_of_ble_eq_true rfl) (Nat.le_of_ble_eq_true rfl) dX8_rule_71
      · refine lv_iconst (v := 2) hx hb dX8_rule_33 (by decide) ?_
        refine lv_goto (tgt := 38) hx hb dX8_rule_34 (by decide) ?_
        refine w_callV (As := [.int 2]) (rest := []) (st2 := .int (f_X8_rf 2) :: []) hC hW hS hl cv_X8_154 m_8 (by decide) rfl (c_X8_refused l hl9 D ca base ad σ 2 ) rfl rfl rfl ⟨Nat.le_of_ble_eq_true rfl, Nat.le_of_ble_eq_true rfl⟩ (Nat.le_of_ble_eq_true rfl) dX8_rule_38 ⟨Nat.le_of_ble_eq_true rfl, Nat.le_of_ble_eq_true rfl⟩ (fun H locs hW hS => ?_)
        refine lv_eqi (y := 1) (by decide) ?_
        refine lv_if_eq (tgt := 46) hx hb dX8_rule_41 (by decide) (fun c => absurd c (by decide)) (fun _ => ?_)
        refine lv_iconst (v := 0) hx hb dX8_rule_44 (by decide) ?_
        have hO : f_X8_rule d t v σ = (0, us σ 8 0 0 2) := by rw [f_X8_rule, if_neg c_1, if_neg c_2, if_pos c_3]
        exact w_iretS hC hW hS hO (Nat.le_of_ble_eq_true rfl) (Nat.le_of_ble_eq_true rfl) dX8_rule_45
  · refine lv_iconst (v := 1) hx hb dX8_rule_10 (by decide) ?_
    refine lv_goto (tgt := 38) hx hb dX8_rule_11 (by decide) ?_
    refine w_callV (As := [.int 1]) (rest := []) (st2 := .int (f_X8_rf 1) :: []) hC hW hS hl cv_X8_154 m_8 (by decide) rfl (c_X8_refused l hl9 D ca base ad σ 1 ) rfl rfl rfl ⟨Nat.le_of_ble_eq_true rfl, Nat.le_of_ble_eq_true rfl⟩ (Nat.le_of_ble_eq_true rfl) dX8_rule_38 ⟨Nat.le_of_ble_eq_true rfl, Nat.le_of_ble_eq_true rfl⟩ (fun H locs hW hS => ?_)
    refine lv_eqi (y := 1) (by decide) ?_
    refine lv_if_eq (tgt := 46) hx hb dX8_rule_41 (by decide) (fun c => absurd c (by decide)) (fun _ => ?_)
    refine lv_iconst (v := 0) hx hb dX8_rule_44 (by decide) ?_
    have hO : f_X8_rule d t v σ = (0, us σ 8 0 0 1) := by rw [f_X8_rule, if_pos c_1]
    exact w_iretS hC hW hS hO (Nat.le_of_ble_eq_true rfl) (Nat.le_of_ble_eq_true rfl) dX8_rule_45
theorem fr_X8_rule {kk : Nat}  {d : Int32} {t : Int32} {v : Int32} {σ : Sg} (h8 : kk ≠ 8) (h46 : kk ≠ 46) : (f_X8_rule d t v σ).2 kk = σ kk := by
  rw [f_X8_rule]
  repeat' split
  all_goals (first | (simp only [us_kk, ne_eq, not_false_eq_true, h8, h46]; done) | with_reducible rfl | (simp only [us_kk, ne_eq, not_false_eq_true, h8, h46]; with_reducible rfl))
theorem fs_X8_rule {jj : Nat}  {d : Int32} {t : Int32} {v : Int32} {σ : Sg} (h0 : jj ≠ 0) : (f_X8_rule d t v σ).2 8 0 jj = σ 8 0 jj := by
  rw [f_X8_rule]
  repeat' split
  all_goals (first | with_reducible rfl | (simp [us_k, us_j, ne_eq, not_false_eq_true, h0]; done))

def f_X8_move (d : Int32) (t : Int32) (v : Int32) (σ : Sg) : Int32 × Sg :=
  if (f_X8_within d 0 3) = 0 then (0, us σ 8 0 0 1)
  else if (f_X8_within v (-1) 3) = 0 then (0, us σ 8 0 0 1)
  else if (f_X8_within t 0 3) = 0 then (0, us σ 8 0 0 2)
  else (σ 47 0 ((((4 : Int32) * d) + t).toNatClampNeg), us (us σ 8 0 0 0) 47 0 ((((4 : Int32) * d) + t).toNatClampNeg) v)
set_option maxHeartbeats 4000000 in
set_option maxRecDepth 100000 in
theorem c_X8_move (l : Launch) (hl9 : l.stackTraces = false) (D : va_G) (ca : Nat → ClassId) (base : Nat) (ad : Adr) (σ : Sg) (d : Int32) (t : Int32) (v : Int32) (hM : MInv σ) : Mt l yX8_move cX8_move 6 (some .int) { frames := 1, cells := 0, slots := 0, locals := 22 } D ca base ad ρm Lm [.ref (ad 8 0), .int d, .int t, .int v] σ (some (.int (f_X8_move d t v σ).1)) (f_X8_move d t v σ).2 := by
  refine w_ofW (by decide) (Nat.le_of_ble_eq_true rfl) rfl ?_
  intro p e s m args below meth c hC hW hS ls hl hin
  have hx := hC.1
  have hb := hC.2.1
  refine lv_iload_n hx hb dX8_move_0 rfl (lv_at hl 1 rfl) ?_
  refine lv_iconst (v := 0) hx hb dX8_move_1 (by decide) ?_
  refine lv_iconst (v := 3) hx hb dX8_move_2 (by decide) ?_
  refine w_callS (As := [.int d, .int 0, .int 3]) (rest := []) (st2 := .int (f_X8_within d 0 3) :: []) hC hW hS hl cs_X8_129 (c_X8_within l hl9 D ca base ad σ d 0 3 ) rfl rfl rfl ⟨Nat.le_of_ble_eq_true rfl, Nat.le_of_ble_eq_true rfl⟩ (Nat.le_of_ble_eq_true rfl) dX8_move_3 ⟨Nat.le_of_ble_eq_true rfl, Nat.le_of_ble_eq_true rfl⟩ (fun H locs hW hS => ?_)
  refine lv_if_eq (tgt := 22) hx hb dX8_move_6 (by decide) (fun c_1 => ?_) (fun c_1 => ?_)
  · refine lv_iconst (v := 0) hx hb dX8_move_22 (by decide) ?_
    refine lv_istore (lv' := [(4, .int 0), (0, .ref (ad 8 0)), (1, .int d), (2, .int t), (3, .int v)]) hx hb dX8_move_23 hl (by decide) rfl (fun ls hl => ?_)
    refine lv_aload_n hx hb dX8_move_25 rfl (lv_at hl 1 rfl) ?_
    refine lv_iload hx hb dX8_move_26 (lv_at hl 0 rfl) ?_
    refine lv_if_ne (tgt := 35) hx hb dX8_move_28 (by decide) (fun c => absurd (by decide) c) (fun _ => ?_)
    refine lv_iconst (v := 1) hx hb dX8_move_31 (by decide) ?_
    refine lv_goto (tgt := 49) hx hb dX8_move_32 (by decide) ?_
    refine w_callV (As := [.int 1]) (rest := []) (st2 := .int (f_X8_rf 1) :: []) hC hW hS hl cv_X8_154 m_8 (by decide) rfl (c_X8_refused l hl9 D ca base ad σ 1 ) rfl rfl rfl ⟨Nat.le_of_ble_eq_true rfl, Nat.le_of_ble_eq_true rfl⟩ (Nat.le_of_ble_eq_true rfl) dX8_move_49 ⟨Nat.le_of_ble_eq_true rfl, Nat.le_of_ble_eq_true rfl⟩ (fun H locs hW hS => ?_)
    refine lv_eqi (y := 1) (by decide) ?_
    refine lv_if_eq (tgt := 57) hx hb dX8_move_52 (by decide) (fun c => absurd c (by decide)) (fun _ => ?_)
    refine lv_iconst (v := 0) hx hb dX8_move_55 (by decide) ?_
    have hO : f_X8_move d t v σ = (0, us σ 8 0 0 1) := by rw [f_X8_move, if_pos c_1]
    exact w_iretS hC hW hS hO (Nat.le_of_ble_eq_true rfl) (Nat.le_of_ble_eq_true rfl) dX8_move_56
  · refine lv_iload_n hx hb dX8_move_9 rfl (lv_at hl 3 rfl) ?_
    refine lv_iconst (v := (-1)) hx hb dX8_move_10 (by decide) ?_
    refine lv_iconst (v := 3) hx hb dX8_move_11 (by decide) ?_
    refine w_callS (As := [.int v, .int (-1), .int 3]) (rest := []) (st2 := .int (f_X8_within v (-1) 3) :: []) hC hW hS hl cs_X8_129 (c_X8_within l hl9 D ca base ad σ v (-1) 3 ) rfl rfl rfl ⟨Nat.le_of_ble_eq_true rfl, Nat.le_of_ble_eq_true rfl⟩ (Nat.le_of_ble_eq_true rfl) dX8_move_12 ⟨Nat.le_of_ble_eq_true rfl, Nat.le_of_ble_eq_true rfl⟩ (fun H locs hW hS => ?_)
    refine lv_if_eq (tgt := 22) hx hb dX8_move_15 (by decide) (fun c_2 => ?_) (fun c_2 => ?_)
    · refine lv_iconst (v := 0) hx hb dX8_move_22 (by decide) ?_
      refine lv_istore (lv' := [(4, .int 0), (0, .ref (ad 8 0)), (1, .int d), (2, .int t), (3, .int v)]) hx hb dX8_move_23 hl (by decide) rfl (fun ls hl => ?_)
      refine lv_aload_n hx hb dX8_move_25 rfl (lv_at hl 1 rfl) ?_
      refine lv_iload hx hb dX8_move_26 (lv_at hl 0 rfl) ?_
      refine lv_if_ne (tgt := 35) hx hb dX8_move_28 (by decide) (fun c => absurd (by decide) c) (fun _ => ?_)
      refine lv_iconst (v := 1) hx hb dX8_move_31 (by decide) ?_
      refine lv_goto (tgt := 49) hx hb dX8_move_32 (by decide) ?_
      refine w_callV (As := [.int 1]) (rest := []) (st2 := .int (f_X8_rf 1) :: []) hC hW hS hl cv_X8_154 m_8 (by decide) rfl (c_X8_refused l hl9 D ca base ad σ 1 ) rfl rfl rfl ⟨Nat.le_of_ble_eq_true rfl, Nat.le_of_ble_eq_true rfl⟩ (Nat.le_of_ble_eq_true rfl) dX8_move_49 ⟨Nat.le_of_ble_eq_true rfl, Nat.le_of_ble_eq_true rfl⟩ (fun H locs hW hS => ?_)
      refine lv_eqi (y := 1) (by decide) ?_
      refine lv_if_eq (tgt := 57) hx hb dX8_move_52 (by decide) (fun c => absurd c (by decide)) (fun _ => ?_)
      refine lv_iconst (v := 0) hx hb dX8_move_55 (by decide) ?_
      have hO : f_X8_move d t v σ = (0, us σ 8 0 0 1) := by rw [f_X8_move, if_neg c_1, if_pos c_2]
      exact w_iretS hC hW hS hO (Nat.le_of_ble_eq_true rfl) (Nat.le_of_ble_eq_true rfl) dX8_move_56
    · refine lv_iconst (v := 1) hx hb dX8_move_18 (by decide) ?_
      refine lv_goto (tgt := 23) hx hb dX8_move_19 (by decide) ?_
      refine lv_istore (lv' := [(4, .int 1), (0, .ref (ad 8 0)), (1, .int d), (2, .int t), (3, .int v)]) hx hb dX8_move_23 hl (by decide) rfl (fun ls hl => ?_)
      refine lv_aload_n hx hb dX8_move_25 rfl (lv_at hl 1 rfl) ?_
      refine lv_iload hx hb dX8_move_26 (lv_at hl 0 rfl) ?_
      refine lv_if_ne (tgt := 35) hx hb dX8_move_28 (by decide) (fun _ => ?_) (fun c => absurd c (by decide))
      refine lv_iload_n hx hb dX8_move_35 rfl (lv_at hl 3 rfl) ?_
      refine lv_iconst (v := 0) hx hb dX8_move_36 (by decide) ?_
      refine lv_iconst (v := 3) hx hb dX8_move_37 (by decide) ?_
      refine w_callS (As := [.int t, .int 0, .int 3]) (rest := .ref (ad 8 0) :: []) (st2 := .int (f_X8_within t 0 3) :: .ref (ad 8 0) :: []) hC hW hS hl cs_X8_129 (c_X8_within l hl9 D ca base ad σ t 0 3 ) rfl rfl rfl ⟨Nat.le_of_ble_eq_true rfl, Nat.le_of_ble_eq_true rfl⟩ (Nat.le_of_ble_eq_true rfl) dX8_move_38 ⟨Nat.le_of_ble_eq_true rfl, Nat.le_of_ble_eq_true rfl⟩ (fun H locs hW hS => ?_)
      refine lv_if_ne (tgt := 48) hx hb dX8_move_41 (by decide) (fun c_3 => ?_) (fun c_3 => ?_)
      · refine lv_iconst (v := 0) hx hb dX8_move_48 (by decide) ?_
        refine w_callV (As := [.int 0]) (rest := []) (st2 := .int (f_X8_rf 0) :: []) hC hW hS hl cv_X8_154 m_8 (by decide) rfl (c_X8_refused l hl9 D ca base ad σ 0 ) rfl rfl rfl ⟨Nat.le_of_ble_eq_true rfl, Nat.le_of_ble_eq_true rfl⟩ (Nat.le_of_ble_eq_true rfl) dX8_move_49 ⟨Nat.le_of_ble_eq_true rfl, Nat.le_of_ble_eq_true rfl⟩ (fun H locs hW hS => ?_)
        refine lv_eqi (y := 0) (by decide) ?_
        refine lv_if_eq (tgt := 57) hx hb dX8_move_52 (by decide) (fun _ => ?_) (fun c => absurd (by decide) c)
        refine lv_aload_n hx hb dX8_move_57 rfl (lv_at hl 1 rfl) ?_
        refine gf_X8_56 hC hW m_8 rfl dX8_move_58 ?_
        refine lv_iconst (v := 4) hx hb dX8_move_61 (by decide) ?_
        refine lv_iload_n hx hb dX8_move_62 rfl (lv_at hl 2 rfl) ?_
        refine lv_imul hx hb dX8_move_63 ?_
        refine lv_iload_n hx hb dX8_move_64 rfl (lv_at hl 3 rfl) ?_
        refine lv_iadd hx hb dX8_move_65 ?_
        refine w_iald hC hW m_47 (n := 16) rfl (r4_in (w4_in (v := d) (by assumption)) (w4_in (v := t) (by assumption))) dX8_move_66 ?_
        refine lv_eqi (y := σ 47 0 ((((4 : Int32) * d) + t).toNatClampNeg)) (by rw [us_k (by decide)]) ?_
        refine lv_istore (lv' := [(5, .int (σ 47 0 ((((4 : Int32) * d) + t).toNatClampNeg))), (4, .int 1), (0, .ref (ad 8 0)), (1, .int d), (2, .int t), (3, .int v)]) hx hb dX8_move_67 hl (by decide) rfl (fun ls hl => ?_)
        refine lv_aload_n hx hb dX8_move_69 rfl (lv_at hl 2 rfl) ?_
        refine gf_X8_56 hC hW m_8 rfl dX8_move_70 ?_
        refine lv_iconst (v := 4) hx hb dX8_move_73 (by decide) ?_
        refine lv_iload_n hx hb dX8_move_74 rfl (lv_at hl 3 rfl) ?_
        refine lv_imul hx hb dX8_move_75 ?_
        refine lv_iload_n hx hb dX8_move_76 rfl (lv_at hl 4 rfl) ?_
        refine lv_iadd hx hb dX8_move_77 ?_
        refine lv_iload_n hx hb dX8_move_78 rfl (lv_at hl 5 rfl) ?_
        refine w_iast hC hW hS m_47 (n := 16) (fun _ => rfl) (r4_in (w4_in (v := d) (by assumption)) (w4_in (v := t) (by assumption))) dX8_move_79 (fun H locs hW hS => ?_)
        refine lv_iload hx hb dX8_move_80 (lv_at hl 0 rfl) ?_
        have hO : f_X8_move d t v σ = (σ 47 0 ((((4 : Int32) * d) + t).toNatClampNeg), us (us σ 8 0 0 0) 47 0 ((((4 : Int32) * d) + t).toNatClampNeg) v) := by rw [f_X8_move, if_neg c_1, if_neg c_2, if_neg c_3]
        exact w_iretS hC hW hS hO (Nat.le_of_ble_eq_true rfl) (Nat.le_of_ble_eq_true rfl) dX8_move_82
      · refine lv_iconst (v := 2) hx hb dX8_move_44 (by decide) ?_
        refine lv_goto (tgt := 49) hx hb dX8_move_45 (by decide) ?_
        refine w_callV (As := [.int 2]) (rest := []) (st2 := .int (f_X8_rf 2) :: []) hC hW hS hl cv_X8_154 m_8 (by decide) rfl (c_X8_refused l hl9 D ca base ad σ 2 ) rfl rfl rfl ⟨Nat.le_of_ble_eq_true rfl, Nat.le_of_ble_eq_true rfl⟩ (Nat.le_of_ble_eq_true rfl) dX8_move_49 ⟨Nat.le_of_ble_eq_true rfl, Nat.le_of_ble_eq_true rfl⟩ (fun H locs hW hS => ?_)
        refine lv_eqi (y := 1) (by decide) ?_
        refine lv_if_eq (tgt := 57) hx hb dX8_move_52 (by decide) (fun c => absurd c (by decide)) (fun _ => ?_)
        refine lv_iconst (v := 0) hx hb dX8_move_55 (by decide) ?_
        have hO : f_X8_move d t v σ = (0, us σ 8 0 0 2) := by rw [f_X8_move, if_neg c_1, if_neg c_2, if_pos c_3]
        exact w_iretS hC hW hS hO (Nat.le_of_ble_eq_true rfl) (Nat.le_of_ble_eq_true rfl) dX8_move_56
theorem fr_X8_move {kk : Nat}  {d : Int32} {t : Int32} {v : Int32} {σ : Sg} (h8 : kk ≠ 8) (h47 : kk ≠ 47) : (f_X8_move d t v σ).2 kk = σ kk := by
  rw [f_X8_move]
  repeat' split
  all_goals (first | (simp only [us_kk, ne_eq, not_false_eq_true, h8, h47]; done) | with_reducible rfl | (simp only [us_kk, ne_eq, not_false_eq_true, h8, h47]; with_reducible rfl))
theorem fs_X8_move {jj : Nat}  {d : Int32} {t : Int32} {v : Int32} {σ : Sg} (h0 : jj ≠ 0) : (f_X8_move d t v σ).2 8 0 jj = σ 8 0 jj := by
  rw [f_X8_move]
  repeat' split
  all_goals (first | with_reducible rfl | (simp [us_k, us_j, ne_eq, not_false_eq_true, h0]; done))

def f_X8_process (u : Int32) (d : Int32) (v : Int32) (w : Int32) (f : Int32) (b : Int32) (σ : Sg) : Int32 × Sg :=
  if (f_X8_isSix u) = 0 then (if (f_X8_within v 0 3) = 0 then (0, us σ 8 0 0 1)
    else if (f_X8_within w 0 7) = 0 then (0, us σ 8 0 0 1)
    else if (f_X8_within f 0 7) = 0 then (0, us σ 8 0 0 1)
    else if (f_X8_within b 0 7) = 0 then (0, us σ 8 0 0 1)
    else if (f &&& (b ^^^ (-1 : Int32))) = 0 then (0, us σ 8 0 0 1)
    else (0, us σ 8 0 0 1))
  else if (f_X8_within d 0 3) = 0 then (if (f_X8_within v 0 3) = 0 then (0, us σ 8 0 0 1)
    else if (f_X8_within w 0 7) = 0 then (0, us σ 8 0 0 1)
    else if (f_X8_within f 0 7) = 0 then (0, us σ 8 0 0 1)
    else if (f_X8_within b 0 7) = 0 then (0, us σ 8 0 0 1)
    else if (f &&& (b ^^^ (-1 : Int32))) = 0 then (0, us σ 8 0 0 1)
    else (0, us σ 8 0 0 1))
  else if (f_X8_within v 0 3) = 0 then (0, us σ 8 0 0 2)
  else if (f_X8_within w 0 7) = 0 then (0, us σ 8 0 0 2)
  else if (f_X8_within f 0 7) = 0 then (0, us σ 8 0 0 2)
  else if (f_X8_within b 0 7) = 0 then (0, us σ 8 0 0 2)
  else if (f &&& (b ^^^ (-1 : Int32))) = 0 then (if (σ 8 0 18) = 8 then (0, us σ 8 0 0 3)
    else (σ 8 0 18, us (us (us (us (us (us (us (us (us σ 8 0 0 0) 8 0 18 ((σ 8 0 18) + (1 : Int32))) 49 0 ((σ 8 0 18).toNatClampNeg) u) 50 0 ((σ 8 0 18).toNatClampNeg) d) 51 0 ((σ 8 0 18).toNatClampNeg) v) 52 0 ((σ 8 0 18).toNatClampNeg) w) 53 0 ((σ 8 0 18).toNatClampNeg) f) 54 0 ((σ 8 0 18).toNatClampNeg) b) 56 0 ((σ 8 0 18).toNatClampNeg) 7))
  else (0, us σ 8 0 0 2)
set_option maxHeartbeats 4000000 in
set_option maxRecDepth 100000 in
theorem c_X8_process (l : Launch) (hl9 : l.stackTraces = false) (D : va_G) (ca : Nat → ClassId) (base : Nat) (ad : Adr) (σ : Sg) (u : Int32) (d : Int32) (v : Int32) (w : Int32) (f : Int32) (b : Int32) (hM : MInv σ) : Mt l yX8_process cX8_process 10 (some .int) { frames := 2, cells := 0, slots := 0, locals := 42 } D ca base ad ρm Lm [.ref (ad 8 0), .int u, .int d, .int v, .int w, .int f, .int b] σ (some (.int (f_X8_process u d v w f b σ).1)) (f_X8_process u d v w f b σ).2 := by
  refine w_ofW (by decide) (Nat.le_of_ble_eq_true rfl) rfl ?_
  intro p e s m args below meth c hC hW hS ls hl hin
  have hx := hC.1
  have hb := hC.2.1
  refine lv_iload_n hx hb dX8_process_0 rfl (lv_at hl 1 rfl) ?_
  refine w_callS (As := [.int u]) (rest := []) (st2 := .int (f_X8_isSix u) :: []) hC hW hS hl cs_X8_150 (c_X8_isSix l hl9 D ca base ad σ u ) rfl rfl rfl ⟨Nat.le_of_ble_eq_true rfl, Nat.le_of_ble_eq_true rfl⟩ (Nat.le_of_ble_eq_true rfl) dX8_process_1 ⟨Nat.le_of_ble_eq_true rfl, Nat.le_of_ble_eq_true rfl⟩ (fun H locs hW hS => ?_)
  refine lv_if_eq (tgt := 20) hx hb dX8_process_4 (by decide) (fun c_1 => ?_) (fun c_1 => ?_)
  · refine lv_iconst (v := 0) hx hb dX8_process_20 (by decide) ?_
    refine lv_istore (lv' := [(7, .int 0), (0, .ref (ad 8 0)), (1, .int u), (2, .int d), (3, .int v), (4, .int w), (5, .int f), (6, .int b)]) hx hb dX8_process_21 hl (by decide) rfl (fun ls hl => ?_)
    refine lv_iload_n hx hb dX8_process_23 rfl (lv_at hl 4 rfl) ?_
    refine lv_iconst (v := 0) hx hb dX8_process_24 (by decide) ?_
    refine lv_iconst (v := 3) hx hb dX8_process_25 (by decide) ?_
    refine w_callS (As := [.int v, .int 0, .int 3]) (rest := []) (st2 := .int (f_X8_within v 0 3) :: []) hC hW hS hl cs_X8_129 (c_X8_within l hl9 D ca base ad σ v 0 3 ) rfl rfl rfl ⟨Nat.le_of_ble_eq_true rfl, Nat.le_of_ble_eq_true rfl⟩ (Nat.le_of_ble_eq_true rfl) dX8_process_26 ⟨Nat.le_of_ble_eq_true rfl, Nat.le_of_ble_eq_true rfl⟩ (fun H locs hW hS => ?_)
    refine lv_if_eq (tgt := 79) hx hb dX8_process_29 (by decide) (fun c_2 => ?_) (fun c_2 => ?_)
    · refine lv_iconst (v := 0) hx hb dX8_process_79 (by decide) ?_
      refine lv_istore (lv' := [(8, .int 0), (7, .int 0), (0, .ref (ad 8 0)), (1, .int u), (2, .int d), (3, .int v), (4, .int w), (5, .int f), (6, .int b)]) hx hb dX8_process_80 hl (by decide) rfl (fun ls hl => ?_)
      refine lv_aload_n hx hb dX8_process_82 rfl (lv_at hl 2 rfl) ?_
      refine lv_iload hx hb dX8_process_83 (lv_at hl 1 rfl) ?_
      refine lv_if_ne (tgt := 92) hx hb dX8_process_85 (by decide) (fun c => absurd (by decide) c) (fun _ => ?_)
      refine lv_iconst (v := 1) hx hb dX8_process_88 (by decide) ?_
      refine lv_goto (tgt := 115) hx hb dX8_process_89 (by decide) ?_
      refine w_callV (As := [.int 1]) (rest := []) (st2 := .int (f_X8_rf 1) :: []) hC hW hS hl cv_X8_154 m_8 (by decide) rfl (c_X8_refused l hl9 D ca base ad σ 1 ) rfl rfl rfl ⟨Nat.le_of_ble_eq_true rfl, Nat.le_of_ble_eq_true rfl⟩ (Nat.le_of_ble_eq_true rfl) dX8_process_115 ⟨Nat.le_of_ble_eq_true rfl, Nat.le_of_ble_eq_true rfl⟩ (fun H locs hW hS => ?_)
      refine lv_eqi (y := 1) (by decide) ?_
      refine lv_if_eq (tgt := 123) hx hb dX8_process_118 (by decide) (fun c => absurd c (by decide)) (fun _ => ?_)
      refine lv_iconst (v := 0) hx hb dX8_process_121 (by decide) ?_
      have hO : f_X8_process u d v w f b σ = (0, us σ 8 0 0 1) := by rw [f_X8_process, if_pos c_1, if_pos c_2]
      exact w_iretS hC hW hS hO (Nat.le_of_ble_eq_true rfl) (Nat.le_of_ble_eq_true rfl) dX8_process_122
    · refine lv_iload hx hb dX8_process_32 (lv_at hl 5 rfl) ?_
      refine lv_iconst (v := 0) hx hb dX8_process_34 (by decide) ?_
      refine lv_bipush (v := 7) hx hb dX8_process_35 (by decide) ?_
      refine w_callS (As := [.int w, .int 0, .int 7]) (rest := []) (st2 := .int (f_X8_within w 0 7) :: []) hC hW hS hl cs_X8_129 (c_X8_within l hl9 D ca base ad σ w 0 7 ) rfl rfl rfl ⟨Nat.le_of_ble_eq_true rfl, Nat.le_of_ble_eq_true rfl⟩ (Nat.le_of_ble_eq_true rfl) dX8_process_37 ⟨Nat.le_of_ble_eq_true rfl, Nat.le_of_ble_eq_true rfl⟩ (fun H locs hW hS => ?_)
      refine lv_if_eq (tgt := 79) hx hb dX8_process_40 (by decide) (fun c_3 => ?_) (fun c_3 => ?_)
      · refine lv_iconst (v := 0) hx hb dX8_process_79 (by decide) ?_
        refine lv_istore (lv' := [(8, .int 0), (7, .int 0), (0, .ref (ad 8 0)), (1, .int u), (2, .int d), (3, .int v), (4, .int w), (5, .int f), (6, .int b)]) hx hb dX8_process_80 hl (by decide) rfl (fun ls hl => ?_)
        refine lv_aload_n hx hb dX8_process_82 rfl (lv_at hl 2 rfl) ?_
        refine lv_iload hx hb dX8_process_83 (lv_at hl 1 rfl) ?_
        refine lv_if_ne (tgt := 92) hx hb dX8_process_85 (by decide) (fun c => absurd (by decide) c) (fun _ => ?_)
        refine lv_iconst (v := 1) hx hb dX8_process_88 (by decide) ?_
        refine lv_goto (tgt := 115) hx hb dX8_process_89 (by decide) ?_
        refine w_callV (As := [.int 1]) (rest := []) (st2 := .int (f_X8_rf 1) :: []) hC hW hS hl cv_X8_154 m_8 (by decide) rfl (c_X8_refused l hl9 D ca base ad σ 1 ) rfl rfl rfl ⟨Nat.le_of_ble_eq_true rfl, Nat.le_of_ble_eq_true rfl⟩ (Nat.le_of_ble_eq_true rfl) dX8_process_115 ⟨Nat.le_of_ble_eq_true rfl, Nat.le_of_ble_eq_true rfl⟩ (fun H locs hW hS => ?_)
        refine lv_eqi (y := 1) (by decide) ?_
        refine lv_if_eq (tgt := 123) hx hb dX8_process_118 (by decide) (fun c => absurd c (by decide)) (fun _ => ?_)
        refine lv_iconst (v := 0) hx hb dX8_process_121 (by decide) ?_
        have hO : f_X8_process u d v w f b σ = (0, us σ 8 0 0 1) := by rw [f_X8_process, if_pos c_1, if_neg c_2, if_pos c_3]
        exact w_iretS hC hW hS hO (Nat.le_of_ble_eq_true rfl) (Nat.le_of_ble_eq_true rfl) dX8_process_122
      · refine lv_iload hx hb dX8_process_43 (lv_at hl 6 rfl) ?_
        refine lv_iconst (v := 0) hx hb dX8_process_45 (by decide) ?_
        refine lv_bipush (v := 7) hx hb dX8_process_46 (by decide) ?_
        refine w_callS (As := [.int f, .int 0, .int 7]) (rest := []) (st2 := .int (f_X8_within f 0 7) :: []) hC hW hS hl cs_X8_129 (c_X8_within l hl9 D ca base ad σ f 0 7 ) rfl rfl rfl ⟨Nat.le_of_ble_eq_true rfl, Nat.le_of_ble_eq_true rfl⟩ (Nat.le_of_ble_eq_true rfl) dX8_process_48 ⟨Nat.le_of_ble_eq_true rfl, Nat.le_of_ble_eq_true rfl⟩ (fun H locs hW hS => ?_)
        refine lv_if_eq (tgt := 79) hx hb dX8_process_51 (by decide) (fun c_4 => ?_) (fun c_4 => ?_)
        · refine lv_iconst (v := 0) hx hb dX8_process_79 (by decide) ?_
          refine lv_istore (lv' := [(8, .int 0), (7, .int 0), (0, .ref (ad 8 0)), (1, .int u), (2, .int d), (3, .int v), (4, .int w), (5, .int f), (6, .int b)]) hx hb dX8_process_80 hl (by decide) rfl (fun ls hl => ?_)
          refine lv_aload_n hx hb dX8_process_82 rfl (lv_at hl 2 rfl) ?_
          refine lv_iload hx hb dX8_process_83 (lv_at hl 1 rfl) ?_
          refine lv_if_ne (tgt := 92) hx hb dX8_process_85 (by decide) (fun c => absurd (by decide) c) (fun _ => ?_)
          refine lv_iconst (v := 1) hx hb dX8_process_88 (by decide) ?_
          refine lv_goto (tgt := 115) hx hb dX8_process_89 (by decide) ?_
          refine w_callV (As := [.int 1]) (rest := []) (st2 := .int (f_X8_rf 1) :: []) hC hW hS hl cv_X8_154 m_8 (by decide) rfl (c_X8_refused l hl9 D ca base ad σ 1 ) rfl rfl rfl ⟨Nat.le_of_ble_eq_true rfl, Nat.le_of_ble_eq_true rfl⟩ (Nat.le_of_ble_eq_true rfl) dX8_process_115 ⟨Nat.le_of_ble_eq_true rfl, Nat.le_of_ble_eq_true rfl⟩ (fun H locs hW hS => ?_)
          refine lv_eqi (y := 1) (by decide) ?_
          refine lv_if_eq (tgt := 123) hx hb dX8_process_118 (by decide) (fun c => absurd c (by decide)) (fun _ => ?_)
          refine lv_iconst (v := 0) hx hb dX8_process_121 (by decide) ?_
          have hO : f_X8_process u d v w f b σ = (0, us σ 8 0 0 1) := by rw [f_X8_process, if_pos c_1, if_neg c_2, if_neg c_3, if_pos c_4]
          exact w_iretS hC hW hS hO (Nat.le_of_ble_eq_true rfl) (Nat.le_of_ble_eq_true rfl) dX8_process_122
        · refine lv_iload hx hb dX8_process_54 (lv_at hl 7 rfl) ?_
          refine lv_iconst (v := 0) hx hb dX8_process_56 (by decide) ?_
          refine lv_bipush (v := 7) hx hb dX8_process_57 (by decide) ?_
          refine w_callS (As := [.int b, .int 0, .int 7]) (rest := []) (st2 := .int (f_X8_within b 0 7) :: []) hC hW hS hl cs_X8_129 (c_X8_within l hl9 D ca base ad σ b 0 7 ) rfl rfl rfl ⟨Nat.le_of_ble_eq_true rfl, Nat.le_of_ble_eq_true rfl⟩ (Nat.le_of_ble_eq_true rfl) dX8_process_59 ⟨Nat.le_of_ble_eq_true rfl, Nat.le_of_ble_eq_true rfl⟩ (fun H locs hW hS => ?_)
          refine lv_if_eq (tgt := 79) hx hb dX8_process_62 (by decide) (fun c_5 => ?_) (fun c_5 => ?_)
          · refine lv_iconst (v := 0) hx hb dX8_process_79 (by decide) ?_
            refine lv_istore (lv' := [(8, .int 0), (7, .int 0), (0, .ref (ad 8 0)), (1, .int u), (2, .int d), (3, .int v), (4, .int w), (5, .int f), (6, .int b)]) hx hb dX8_process_80 hl (by decide) rfl (fun ls hl => ?_)
            refine lv_aload_n hx hb dX8_process_82 rfl (lv_at hl 2 rfl) ?_
            refine lv_iload hx hb dX8_process_83 (lv_at hl 1 rfl) ?_
            refine lv_if_ne (tgt := 92) hx hb dX8_process_85 (by decide) (fun c => absurd (by decide) c) (fun _ => ?_)
            refine lv_iconst (v := 1) hx hb dX8_process_88 (by decide) ?_
            refine lv_goto (tgt := 115) hx hb dX8_process_89 (by decide) ?_
            refine w_callV (As := [.int 1]) (rest := []) (st2 := .int (f_X8_rf 1) :: []) hC hW hS hl cv_X8_154 m_8 (by decide) rfl (c_X8_refused l hl9 D ca base ad σ 1 ) rfl rfl rfl ⟨Nat.le_of_ble_eq_true rfl, Nat.le_of_ble_eq_true rfl⟩ (Nat.le_of_ble_eq_true rfl) dX8_process_115 ⟨Nat.le_of_ble_eq_true rfl, Nat.le_of_ble_eq_true rfl⟩ (fun H locs hW hS => ?_)
            refine lv_eqi (y := 1) (by decide) ?_
            refine lv_if_eq (tgt := 123) hx hb dX8_process_118 (by decide) (fun c => absurd c (by decide)) (fun _ => ?_)
            refine lv_iconst (v := 0) hx hb dX8_process_121 (by decide) ?_
            have hO : f_X8_process u d v w f b σ = (0, us σ 8 0 0 1) := by rw [f_X8_process, if_pos c_1, if_neg c_2, if_neg c_3, if_neg c_4, if_pos c_5]
            exact w_iretS hC hW hS hO (Nat.le_of_ble_eq_true rfl) (Nat.le_of_ble_eq_true rfl) dX8_process_122
          · refine lv_iload hx hb dX8_process_65 (lv_at hl 6 rfl) ?_
            refine lv_iload hx hb dX8_process_67 (lv_at hl 7 rfl) ?_
            refine lv_iconst (v := (-1)) hx hb dX8_process_69 (by decide) ?_
            refine lv_ixor hx hb dX8_process_70 ?_
            refine lv_iand hx hb dX8_process_71 ?_
            refine lv_if_ne (tgt := 79) hx hb dX8_process_72 (by decide) (fun c_6 => ?_) (fun c_6 => ?_)
            · refine lv_iconst (v := 0) hx hb dX8_process_79 (by decide) ?_
              refine lv_istore (lv' := [(8, .int 0), (7, .int 0), (0, .ref (ad 8 0)), (1, .int u), (2, .int d), (3, .int v), (4, .int w), (5, .int f), (6, .int b)]) hx hb dX8_process_80 hl (by decide) rfl (fun ls hl => ?_)
              refine lv_aload_n hx hb dX8_process_82 rfl (lv_at hl 2 rfl) ?_
              refine lv_iload hx hb dX8_process_83 (lv_at hl 1 rfl) ?_
              refine lv_if_ne (tgt := 92) hx hb dX8_process_85 (by decide) (fun c => absurd (by decide) c) (fun _ => ?_)
              refine lv_iconst (v := 1) hx hb dX8_process_88 (by decide) ?_
              refine lv_goto (tgt := 115) hx hb dX8_process_89 (by decide) ?_
              refine w_callV (As := [.int 1]) (rest := []) (st2 := .int (f_X8_rf 1) :: []) hC hW hS hl cv_X8_154 m_8 (by decide) rfl (c_X8_refused l hl9 D ca base ad σ 1 ) rfl rfl rfl ⟨Nat.le_of_ble_eq_true rfl, Nat.le_of_ble_eq_true rfl⟩ (Nat.le_of_ble_eq_true rfl) dX8_process_115 ⟨Nat.le_of_ble_eq_true rfl, Nat.le_of_ble_eq_true rfl⟩ (fun H locs hW hS => ?_)
              refine lv_eqi (y := 1) (by decide) ?_
              refine lv_if_eq (tgt := 123) hx hb dX8_process_118 (by decide) (fun c => absurd c (by decide)) (fun _ => ?_)
              refine lv_iconst (v := 0) hx hb dX8_process_121 (by decide) ?_
              have hO : f_X8_process u d v w f b σ = (0, us σ 8 0 0 1) := by rw [f_X8_process, if_pos c_1, if_neg c_2, if_neg c_3, if_neg c_4, if_neg c_5, if_neg c_6]
              exact w_iretS hC hW hS hO (Nat.le_of_ble_eq_true rfl) (Nat.le_of_ble_eq_true rfl) dX8_process_122
            · refine lv_iconst (v := 1) hx hb dX8_process_75 (by decide) ?_
              refine lv_goto (tgt := 80) hx hb dX8_process_76 (by decide) ?_
              refine lv_istore (lv' := [(8, .int 1), (7, .int 0), (0, .ref (ad 8 0)), (1, .int u), (2, .int d), (3, .int v), (4, .int w), (5, .int f), (6, .int b)]) hx hb dX8_process_80 hl (by decide) rfl (fun ls hl => ?_)
              refine lv_aload_n hx hb dX8_process_82 rfl (lv_at hl 2 rfl) ?_
              refine lv_iload hx hb dX8_process_83 (lv_at hl 1 rfl) ?_
              refine lv_if_ne (tgt := 92) hx hb dX8_process_85 (by decide) (fun c => absurd (by decide) c) (fun _ => ?_)
              refine lv_iconst (v := 1) hx hb dX8_process_88 (by decide) ?_
              refine lv_goto (tgt := 115) hx hb dX8_process_89 (by decide) ?_
              refine w_callV (As := [.int 1]) (rest := []) (st2 := .int (f_X8_rf 1) :: []) hC hW hS hl cv_X8_154 m_8 (by decide) rfl (c_X8_refused l hl9 D ca base ad σ 1 ) rfl rfl rfl ⟨Nat.le_of_ble_eq_true rfl, Nat.le_of_ble_eq_true rfl⟩ (Nat.le_of_ble_eq_true rfl) dX8_process_115 ⟨Nat.le_of_ble_eq_true rfl, Nat.le_of_ble_eq_true rfl⟩ (fun H locs hW hS => ?_)
              refine lv_eqi (y := 1) (by decide) ?_
              refine lv_if_eq (tgt := 123) hx hb dX8_process_118 (by decide) (fun c => absurd c (by decide)) (fun _ => ?_)
              refine lv_iconst (v := 0) hx hb dX8_process_121 (by decide) ?_
              have hO : f_X8_process u d v w f b σ = (0, us σ 8 0 0 1) := by rw [f_X8_process, if_pos c_1, if_neg c_2, if_neg c_3, if_neg c_4, if_neg c_5, if_pos c_6]
              exact w_iretS hC hW hS hO (Nat.le_of_ble_eq_true rfl) (Nat.le_of_ble_eq_true rfl) dX8_process_122
  · refine lv_iload_n hx hb dX8_process_7 rfl (lv_at hl 2 rfl) ?_
    refine lv_iconst (v := 0) hx hb dX8_process_8 (by decide) ?_
    refine lv_iconst (v := 3) hx hb dX8_process_9 (by decide) ?_
    refine w_callS (As := [.int d, .int 0, .int 3]) (rest := []) (st2 := .int (f_X8_within d 0 3) :: []) hC hW hS hl cs_X8_129 (c_X8_within l hl9 D ca base ad σ d 0 3 ) rfl rfl rfl ⟨Nat.le_of_ble_eq_true rfl, Nat.le_of_ble_eq_true rfl⟩ (Nat.le_of_ble_eq_true rfl) dX8_process_10 ⟨Nat.le_of_ble_eq_true rfl, Nat.le_of_ble_eq_true rfl⟩ (fun H locs hW hS => ?_)
    refine lv_if_eq (tgt := 20) hx hb dX8_process_13 (by decide) (fun c_7 => ?_) (fun c_7 => ?_)
    · refine lv_iconst (v := 0) hx hb dX8_process_20 (by decide) ?_
      refine lv_istore (lv' := [(7, .int 0), (0, .ref (ad 8 0)), (1, .int u), (2, .int d), (3, .int v), (4, .int w), (5, .int f), (6, .int b)]) hx hb dX8_process_21 hl (by decide) rfl (fun ls hl => ?_)
      refine lv_iload_n hx hb dX8_process_23 rfl (lv_at hl 4 rfl) ?_
      refine lv_iconst (v := 0) hx hb dX8_process_24 (by decide) ?_
      refine lv_iconst (v := 3) hx hb dX8_process_25 (by decide) ?_
      refine w_callS (As := [.int v, .int 0, .int 3]) (rest := []) (st2 := .int (f_X8_within v 0 3) :: []) hC hW hS hl cs_X8_129 (c_X8_within l hl9 D ca base ad σ v 0 3 ) rfl rfl rfl ⟨Nat.le_of_ble_eq_true rfl, Nat.le_of_ble_eq_true rfl⟩ (Nat.le_of_ble_eq_true rfl) dX8_process_26 ⟨Nat.le_of_ble_eq_true rfl, Nat.le_of_ble_eq_true rfl⟩ (fun H locs hW hS => ?_)
      refine lv_if_eq (tgt := 79) hx hb dX8_process_29 (by decide) (fun c_8 => ?_) (fun c_8 => ?_)
      · refine lv_iconst (v := 0) hx hb dX8_process_79 (by decide) ?_
        refine lv_istore (lv' := [(8, .int 0), (7, .int 0), (0, .ref (ad 8 0)), (1, .int u), (2, .int d), (3, .int v), (4, .int w), (5, .int f), (6, .int b)]) hx hb dX8_process_80 hl (by decide) rfl (fun ls hl => ?_)
        refine lv_aload_n hx hb dX8_process_82 rfl (lv_at hl 2 rfl) ?_
        refine lv_iload hx hb dX8_process_83 (lv_at hl 1 rfl) ?_
        refine lv_if_ne (tgt := 92) hx hb dX8_process_85 (by decide) (fun c => absurd (by decide) c) (fun _ => ?_)
        refine lv_iconst (v := 1) hx hb dX8_process_88 (by decide) ?_
        refine lv_goto (tgt := 115) hx hb dX8_process_89 (by decide) ?_
        refine w_callV (As := [.int 1]) (rest := []) (st2 := .int (f_X8_rf 1) :: []) hC hW hS hl cv_X8_154 m_8 (by decide) rfl (c_X8_refused l hl9 D ca base ad σ 1 ) rfl rfl rfl ⟨Nat.le_of_ble_eq_true rfl, Nat.le_of_ble_eq_true rfl⟩ (Nat.le_of_ble_eq_true rfl) dX8_process_115 ⟨Nat.le_of_ble_eq_true rfl, Nat.le_of_ble_eq_true rfl⟩ (fun H locs hW hS => ?_)
        refine lv_eqi (y := 1) (by decide) ?_
        refine lv_if_eq (tgt := 123) hx hb dX8_process_118 (by decide) (fun c => absurd c (by decide)) (fun _ => ?_)
        refine lv_iconst (v := 0) hx hb dX8_process_121 (by decide) ?_
        have hO : f_X8_process u d v w f b σ = (0, us σ 8 0 0 1) := by rw [f_X8_process, if_neg c_1, if_pos c_7, if_pos c_8]
        exact w_iretS hC hW hS hO (Nat.le_of_ble_eq_true rfl) (Nat.le_of_ble_eq_true rfl) dX8_process_122
      · refine lv_iload hx hb dX8_process_32 (lv_at hl 5 rfl) ?_
        refine lv_iconst (v := 0) hx hb dX8_process_34 (by decide) ?_
        refine lv_bipush (v := 7) hx hb dX8_process_35 (by decide) ?_
        refine w_callS (As := [.int w, .int 0, .int 7]) (rest := []) (st2 := .int (f_X8_within w 0 7) :: []) hC hW hS hl cs_X8_129 (c_X8_within l hl9 D ca base ad σ w 0 7 ) rfl rfl rfl ⟨Nat.le_of_ble_eq_true rfl, Nat.le_of_ble_eq_true rfl⟩ (Nat.le_of_ble_eq_true rfl) dX8_process_37 ⟨Nat.le_of_ble_eq_true rfl, Nat.le_of_ble_eq_true rfl⟩ (fun H locs hW hS => ?_)
        refine lv_if_eq (tgt := 79) hx hb dX8_process_40 (by decide) (fun c_9 => ?_) (fun c_9 => ?_)
        · refine lv_iconst (v := 0) hx hb dX8_process_79 (by decide) ?_
          refine lv_istore (lv' := [(8, .int 0), (7, .int 0), (0, .ref (ad 8 0)), (1, .int u), (2, .int d), (3, .int v), (4, .int w), (5, .int f), (6, .int b)]) hx hb dX8_process_80 hl (by decide) rfl (fun ls hl => ?_)
          refine lv_aload_n hx hb dX8_process_82 rfl (lv_at hl 2 rfl) ?_
          refine lv_iload hx hb dX8_process_83 (lv_at hl 1 rfl) ?_
          refine lv_if_ne (tgt := 92) hx hb dX8_process_85 (by decide) (fun c => absurd (by decide) c) (fun _ => ?_)
          refine lv_iconst (v := 1) hx hb dX8_process_88 (by decide) ?_
          refine lv_goto (tgt := 115) hx hb dX8_process_89 (by decide) ?_
          refine w_callV (As := [.int 1]) (rest := []) (st2 := .int (f_X8_rf 1) :: []) hC hW hS hl cv_X8_154 m_8 (by decide) rfl (c_X8_refused l hl9 D ca base ad σ 1 ) rfl rfl rfl ⟨Nat.le_of_ble_eq_true rfl, Nat.le_of_ble_eq_true rfl⟩ (Nat.le_of_ble_eq_true rfl) dX8_process_115 ⟨Nat.le_of_ble_eq_true rfl, Nat.le_of_ble_eq_true rfl⟩ (fun H locs hW hS => ?_)
          refine lv_eqi (y := 1) (by decide) ?_
          refine lv_if_eq (tgt := 123) hx hb dX8_process_118 (by decide) (fun c => absurd c (by decide)) (fun _ => ?_)
          refine lv_iconst (v := 0) hx hb dX8_process_121 (by decide) ?_
          have hO : f_X8_process u d v w f b σ = (0, us σ 8 0 0 1) := by rw [f_X8_process, if_neg c_1, if_pos c_7, if_neg c_8, if_pos c_9]
          exact w_iretS hC hW hS hO (Nat.le_of_ble_eq_true rfl) (Nat.le_of_ble_eq_true rfl) dX8_process_122
        · refine lv_iload hx hb dX8_process_43 (lv_at hl 6 rfl) ?_
          refine lv_iconst (v := 0) hx hb dX8_process_45 (by decide) ?_
          refine lv_bipush (v := 7) hx hb dX8_process_46 (by decide) ?_
          refine w_callS (As := [.int f, .int 0, .int 7]) (rest := []) (st2 := .int (f_X8_within f 0 7) :: []) hC hW hS hl cs_X8_129 (c_X8_within l hl9 D ca base ad σ f 0 7 ) rfl rfl rfl ⟨Nat.le_of_ble_eq_true rfl, Nat.le_of_ble_eq_true rfl⟩ (Nat.le_of_ble_eq_true rfl) dX8_process_48 ⟨Nat.le_of_ble_eq_true rfl, Nat.le_of_ble_eq_true rfl⟩ (fun H locs hW hS => ?_)
          refine lv_if_eq (tgt := 79) hx hb dX8_process_51 (by decide) (fun c_10 => ?_) (fun c_10 => ?_)
          · refine lv_iconst (v := 0) hx hb dX8_process_79 (by decide) ?_
            refine lv_istore (lv' := [(8, .int 0), (7, .int 0), (0, .ref (ad 8 0)), (1, .int u), (2, .int d), (3, .int v), (4, .int w), (5, .int f), (6, .int b)]) hx hb dX8_process_80 hl (by decide) rfl (fun ls hl => ?_)
            refine lv_aload_n hx hb dX8_process_82 rfl (lv_at hl 2 rfl) ?_
            refine lv_iload hx hb dX8_process_83 (lv_at hl 1 rfl) ?_
            refine lv_if_ne (tgt := 92) hx hb dX8_process_85 (by decide) (fun c => absurd (by decide) c) (fun _ => ?_)
            refine lv_iconst (v := 1) hx hb dX8_process_88 (by decide) ?_
            refine lv_goto (tgt := 115) hx hb dX8_process_89 (by decide) ?_
            refine w_callV (As := [.int 1]) (rest := []) (st2 := .int (f_X8_rf 1) :: []) hC hW hS hl cv_X8_154 m_8 (by decide) rfl (c_X8_refused l hl9 D ca base ad σ 1 ) rfl rfl rfl ⟨Nat.le_of_ble_eq_true rfl, Nat.le_of_ble_eq_true rfl⟩ (Nat.le_of_ble_eq_true rfl) dX8_process_115 ⟨Nat.le_of_ble_eq_true rfl, Nat.le_of_ble_eq_true rfl⟩ (fun H locs hW hS => ?_)
            refine lv_eqi (y := 1) (by decide) ?_
            refine lv_if_eq (tgt := 123) hx hb dX8_process_118 (by decide) (fun c => absurd c (by decide)) (fun _ => ?_)
            refine lv_iconst (v := 0) hx hb dX8_process_121 (by decide) ?_
            have hO : f_X8_process u d v w f b σ = (0, us σ 8 0 0 1) := by rw [f_X8_process, if_neg c_1, if_pos c_7, if_neg c_8, if_neg c_9, if_pos c_10]
            exact w_iretS hC hW hS hO (Nat.le_of_ble_eq_true rfl) (Nat.le_of_ble_eq_true rfl) dX8_process_122
          · refine lv_iload hx hb dX8_process_54 (lv_at hl 7 rfl) ?_
            refine lv_iconst (v := 0) hx hb dX8_process_56 (by decide) ?_
            refine lv_bipush (v := 7) hx hb dX8_process_57 (by decide) ?_
            refine w_callS (As := [.int b, .int 0, .int 7]) (rest := []) (st2 := .int (f_X8_within b 0 7) :: []) hC hW hS hl cs_X8_129 (c_X8_within l hl9 D ca base ad σ b 0 7 ) rfl rfl rfl ⟨Nat.le_of_ble_eq_true rfl, Nat.le_of_ble_eq_true rfl⟩ (Nat.le_of_ble_eq_true rfl) dX8_process_59 ⟨Nat.le_of_ble_eq_true rfl, Nat.le_of_ble_eq_true rfl⟩ (fun H locs hW hS => ?_)
            refine lv_if_eq (tgt := 79) hx hb dX8_process_62 (by decide) (fun c_11 => ?_) (fun c_11 => ?_)
            · refine lv_iconst (v := 0) hx hb dX8_process_79 (by decide) ?_
              refine lv_istore (lv' := [(8, .int 0), (7, .int 0), (0, .ref (ad 8 0)), (1, .int u), (2, .int d), (3, .int v), (4, .int w), (5, .int f), (6, .int b)]) hx hb dX8_process_80 hl (by decide) rfl (fun ls hl => ?_)
              refine lv_aload_n hx hb dX8_process_82 rfl (lv_at hl 2 rfl) ?_
              refine lv_iload hx hb dX8_process_83 (lv_at hl 1 rfl) ?_
              refine lv_if_ne (tgt := 92) hx hb dX8_process_85 (by decide) (fun c => absurd (by decide) c) (fun _ => ?_)
              refine lv_iconst (v := 1) hx hb dX8_process_88 (by decide) ?_
              refine lv_goto (tgt := 115) hx hb dX8_process_89 (by decide) ?_
              refine w_callV (As := [.int 1]) (rest := []) (st2 := .int (f_X8_rf 1) :: []) hC hW hS hl cv_X8_154 m_8 (by decide) rfl (c_X8_refused l hl9 D ca base ad σ 1 ) rfl rfl rfl ⟨Nat.le_of_ble_eq_true rfl, Nat.le_of_ble_eq_true rfl⟩ (Nat.le_of_ble_eq_true rfl) dX8_process_115 ⟨Nat.le_of_ble_eq_true rfl, Nat.le_of_ble_eq_true rfl⟩ (fun H locs hW hS => ?_)
              refine lv_eqi (y := 1) (by decide) ?_
              refine lv_if_eq (tgt := 123) hx hb dX8_process_118 (by decide) (fun c => absurd c (by decide)) (fun _ => ?_)
              refine lv_iconst (v := 0) hx hb dX8_process_121 (by decide) ?_
              have hO : f_X8_process u d v w f b σ = (0, us σ 8 0 0 1) := by rw [f_X8_process, if_neg c_1, if_pos c_7, if_neg c_8, if_neg c_9, if_neg c_10, if_pos c_11]
              exact w_iretS hC hW hS hO (Nat.le_of_ble_eq_true rfl) (Nat.le_of_ble_eq_true rfl) dX8_process_122
            · refine lv_iload hx hb dX8_process_65 (lv_at hl 6 rfl) ?_
              refine lv_iload hx hb dX8_process_67 (lv_at hl 7 rfl) ?_
              refine lv_iconst (v := (-1)) hx hb dX8_process_69 (by decide) ?_
              refine lv_ixor hx hb dX8_process_70 ?_
              refine lv_iand hx hb dX8_process_71 ?_
              refine lv_if_ne (tgt := 79) hx hb dX8_process_72 (by decide) (fun c_12 => ?_) (fun c_12 => ?_)
              · refine lv_iconst (v := 0) hx hb dX8_process_79 (by decide) ?_
                refine lv_istore (lv' := [(8, .int 0), (7, .int 0), (0, .ref (ad 8 0)), (1, .int u), (2, .int d), (3, .int v), (4, .int w), (5, .int f), (6, .int b)]) hx hb dX8_process_80 hl (by decide) rfl (fun ls hl => ?_)
                refine lv_aload_n hx hb dX8_process_82 rfl (lv_at hl 2 rfl) ?_
                refine lv_iload hx hb dX8_process_83 (lv_at hl 1 rfl) ?_
                refine lv_if_ne (tgt := 92) hx hb dX8_process_85 (by decide) (fun c => absurd (by decide) c) (fun _ => ?_)
                refine lv_iconst (v := 1) hx hb dX8_process_88 (by decide) ?_
                refine lv_goto (tgt := 115) hx hb dX8_process_89 (by decide) ?_
                refine w_callV (As := [.int 1]) (rest := []) (st2 := .int (f_X8_rf 1) :: []) hC hW hS hl cv_X8_154 m_8 (by decide) rfl (c_X8_refused l hl9 D ca base ad σ 1 ) rfl rfl rfl ⟨Nat.le_of_ble_eq_true rfl, Nat.le_of_ble_eq_true rfl⟩ (Nat.le_of_ble_eq_true rfl) dX8_process_115 ⟨Nat.le_of_ble_eq_true rfl, Nat.le_of_ble_eq_true rfl⟩ (fun H locs hW hS => ?_)
                refine lv_eqi (y := 1) (by decide) ?_
                refine lv_if_eq (tgt := 123) hx hb dX8_process_118 (by decide) (fun c => absurd c (by decide)) (fun _ => ?_)
                refine lv_iconst (v := 0) hx hb dX8_process_121 (by decide) ?_
                have hO : f_X8_process u d v w f b σ = (0, us σ 8 0 0 1) := by rw [f_X8_process, if_neg c_1, if_pos c_7, if_neg c_8, if_neg c_9, if_neg c_10, if_neg c_11, if_neg c_12]
                exact w_iretS hC hW hS hO (Nat.le_of_ble_eq_true rfl) (Nat.le_of_ble_eq_true rfl) dX8_process_122
              · refine lv_iconst (v := 1) hx hb dX8_process_75 (by decide) ?_
                refine lv_goto (tgt := 80) hx hb dX8_process_76 (by decide) ?_
                refine lv_istore (lv' := [(8, .int 1), (7, .int 0), (0, .ref (ad 8 0)), (1, .int u), (2, .int d), (3, .int v), (4, .int w), (5, .int f), (6, .int b)]) hx hb dX8_process_80 hl (by decide) rfl (fun ls hl => ?_)
                refine lv_aload_n hx hb dX8_process_82 rfl (lv_at hl 2 rfl) ?_
                refine lv_iload hx hb dX8_process_83 (lv_at hl 1 rfl) ?_
                refine lv_if_ne (tgt := 92) hx hb dX8_process_85 (by decide) (fun c => absurd (by decide) c) (fun _ => ?_)
                refine lv_iconst (v := 1) hx hb dX8_process_88 (by decide) ?_
                refine lv_goto (tgt := 115) hx hb dX8_process_89 (by decide) ?_
                refine w_callV (As := [.int 1]) (rest := []) (st2 := .int (f_X8_rf 1) :: []) hC hW hS hl cv_X8_154 m_8 (by decide) rfl (c_X8_refused l hl9 D ca base ad σ 1 ) rfl rfl rfl ⟨Nat.le_of_ble_eq_true rfl, Nat.le_of_ble_eq_true rfl⟩ (Nat.le_of_ble_eq_true rfl) dX8_process_115 ⟨Nat.le_of_ble_eq_true rfl, Nat.le_of_ble_eq_true rfl⟩ (fun H locs hW hS => ?_)
                refine lv_eqi (y := 1) (by decide) ?_
                refine lv_if_eq (tgt := 123) hx hb dX8_process_118 (by decide) (fun c => absurd c (by decide)) (fun _ => ?_)
                refine lv_iconst (v := 0) hx hb dX8_process_121 (by decide) ?_
                have hO : f_X8_process u d v w f b σ = (0, us σ 8 0 0 1) := by rw [f_X8_process, if_neg c_1, if_pos c_7, if_neg c_8, if_neg c_9, if_neg c_10, if_neg c_11, if_pos c_12]
                exact w_iretS hC hW hS hO (Nat.le_of_ble_eq_true rfl) (Nat.le_of_ble_eq_true rfl) dX8_process_122
    · refine lv_iconst (v := 1) hx hb dX8_process_16 (by decide) ?_
      refine lv_goto (tgt := 21) hx hb dX8_process_17 (by decide) ?_
      refine lv_istore (lv' := [(7, .int 1), (0, .ref (ad 8 0)), (1, .int u), (2, .int d), (3, .int v), (4, .int w), (5, .int f), (6, .int b)]) hx hb dX8_process_21 hl (by decide) rfl (fun ls hl => ?_)
      refine lv_iload_n hx hb dX8_process_23 rfl (lv_at hl 4 rfl) ?_
      refine lv_iconst (v := 0) hx hb dX8_process_24 (by decide) ?_
      refine lv_iconst (v := 3) hx hb dX8_process_25 (by decide) ?_
      refine w_callS (As := [.int v, .int 0, .int 3]) (rest := []) (st2 := .int (f_X8_within v 0 3) :: []) hC hW hS hl cs_X8_129 (c_X8_within l hl9 D ca base ad σ v 0 3 ) rfl rfl rfl ⟨Nat.le_of_ble_eq_true rfl, Nat.le_of_ble_eq_true rfl⟩ (Nat.le_of_ble_eq_true rfl) dX8_process_26 ⟨Nat.le_of_ble_eq_true rfl, Nat.le_of_ble_eq_true rfl⟩ (fun H locs hW hS => ?_)
      refine lv_if_eq (tgt := 79) hx hb dX8_process_29 (by decide) (fun c_13 => ?_) (fun c_13 => ?_)
      · refine lv_iconst (v := 0) hx hb dX8_process_79 (by decide) ?_
        refine lv_istore (lv' := [(8, .int 0), (7, .int 1), (0, .ref (ad 8 0)), (1, .int u), (2, .int d), (3, .int v), (4, .int w), (5, .int f), (6, .int b)]) hx hb dX8_process_80 hl (by decide) rfl (fun ls hl => ?_)
        refine lv_aload_n hx hb dX8_process_82 rfl (lv_at hl 2 rfl) ?_
        refine lv_iload hx hb dX8_process_83 (lv_at hl 1 rfl) ?_
        refine lv_if_ne (tgt := 92) hx hb dX8_process_85 (by decide) (fun _ => ?_) (fun c => absurd c (by decide))
        refine lv_iload hx hb dX8_process_92 (lv_at hl 0 rfl) ?_
        refine lv_if_ne (tgt := 101) hx hb dX8_process_94 (by decide) (fun c => absurd (by decide) c) (fun _ => ?_)
        refine lv_iconst (v := 2) hx hb dX8_process_97 (by decide) ?_
        refine lv_goto (tgt := 115) hx hb dX8_process_98 (by decide) ?_
        refine w_callV (As := [.int 2]) (rest := []) (st2 := .int (f_X8_rf 2) :: []) hC hW hS hl cv_X8_154 m_8 (by decide) rfl (c_X8_refused l hl9 D ca base ad σ 2 ) rfl rfl rfl ⟨Nat.le_of_ble_eq_true rfl, Nat.le_of_ble_eq_true rfl⟩ (Nat.le_of_ble_eq_true rfl) dX8_process_115 ⟨Nat.le_of_ble_eq_true rfl, Nat.le_of_ble_eq_true rfl⟩ (fun H locs hW hS => ?_)
        refine lv_eqi (y := 1) (by decide) ?_
        refine lv_if_eq (tgt := 123) hx hb dX8_process_118 (by decide) (fun c => absurd c (by decide)) (fun _ => ?_)
        refine lv_iconst (v := 0) hx hb dX8_process_121 (by decide) ?_
        have hO : f_X8_process u d v w f b σ = (0, us σ 8 0 0 2) := by rw [f_X8_process, if_neg c_1, if_neg c_7, if_pos c_13]
        exact w_iretS hC hW hS hO (Nat.le_of_ble_eq_true rfl) (Nat.le_of_ble_eq_true rfl) dX8_process_122
      · refine lv_iload hx hb dX8_process_32 (lv_at hl 5 rfl) ?_
        refine lv_iconst (v := 0) hx hb dX8_process_34 (by decide) ?_
        refine lv_bipush (v := 7) hx hb dX8_process_35 (by decide) ?_
        refine w_callS (As := [.int w, .int 0, .int 7]) (rest := []) (st2 := .int (f_X8_within w 0 7) :: []) hC hW hS hl cs_X8_129 (c_X8_within l hl9 D ca base ad σ w 0 7 ) rfl rfl rfl ⟨Nat.le_of_ble_eq_true rfl, Nat.le_of_ble_eq_true rfl⟩ (Nat.le_of_ble_eq_true rfl) dX8_process_37 ⟨Nat.le_of_ble_eq_true rfl, Nat.le_of_ble_eq_true rfl⟩ (fun H locs hW hS => ?_)
        refine lv_if_eq (tgt := 79) hx hb dX8_process_40 (by decide) (fun c_14 => ?_) (fun c_14 => ?_)
        · refine lv_iconst (v := 0) hx hb dX8_process_79 (by decide) ?_
          refine lv_istore (lv' := [(8, .int 0), (7, .int 1), (0, .ref (ad 8 0)), (1, .int u), (2, .int d), (3, .int v), (4, .int w), (5, .int f), (6, .int b)]) hx hb dX8_process_80 hl (by decide) rfl (fun ls hl => ?_)
          refine lv_aload_n hx hb dX8_process_82 rfl (lv_at hl 2 rfl) ?_
          refine lv_iload hx hb dX8_process_83 (lv_at hl 1 rfl) ?_
          refine lv_if_ne (tgt := 92) hx hb dX8_process_85 (by decide) (fun _ => ?_) (fun c => absurd c (by decide))
          refine lv_iload hx hb dX8_process_92 (lv_at hl 0 rfl) ?_
          refine lv_if_ne (tgt := 101) hx hb dX8_process_94 (by decide) (fun c => absurd (by decide) c) (fun _ => ?_)
          refine lv_iconst (v := 2) hx hb dX8_process_97 (by decide) ?_
          refine lv_goto (tgt := 115) hx hb dX8_process_98 (by decide) ?_
          refine w_callV (As := [.int 2]) (rest := []) (st2 := .int (f_X8_rf 2) :: []) hC hW hS hl cv_X8_154 m_8 (by decide) rfl (c_X8_refused l hl9 D ca base ad σ 2 ) rfl rfl rfl ⟨Nat.le_of_ble_eq_true rfl, Nat.le_of_ble_eq_true rfl⟩ (Nat.le_of_ble_eq_true rfl) dX8_process_115 ⟨Nat.le_of_ble_eq_true rfl, Nat.le_of_ble_eq_true rfl⟩ (fun H locs hW hS => ?_)
          refine lv_eqi (y := 1) (by decide) ?_
          refine lv_if_eq (tgt := 123) hx hb dX8_process_118 (by decide) (fun c => absurd c (by decide)) (fun _ => ?_)
          refine lv_iconst (v := 0) hx hb dX8_process_121 (by decide) ?_
          have hO : f_X8_process u d v w f b σ = (0, us σ 8 0 0 2) := by rw [f_X8_process, if_neg c_1, if_neg c_7, if_neg c_13, if_pos c_14]
          exact w_iretS hC hW hS hO (Nat.le_of_ble_eq_true rfl) (Nat.le_of_ble_eq_true rfl) dX8_process_122
        · refine lv_iload hx hb dX8_process_43 (lv_at hl 6 rfl) ?_
          refine lv_iconst (v := 0) hx hb dX8_process_45 (by decide) ?_
          refine lv_bipush (v := 7) hx hb dX8_process_46 (by decide) ?_
          refine w_callS (As := [.int f, .int 0, .int 7]) (rest := []) (st2 := .int (f_X8_within f 0 7) :: []) hC hW hS hl cs_X8_129 (c_X8_within l hl9 D ca base ad σ f 0 7 ) rfl rfl rfl ⟨Nat.le_of_ble_eq_true rfl, Nat.le_of_ble_eq_true rfl⟩ (Nat.le_of_ble_eq_true rfl) dX8_process_48 ⟨Nat.le_of_ble_eq_true rfl, Nat.le_of_ble_eq_true rfl⟩ (fun H locs hW hS => ?_)
          refine lv_if_eq (tgt := 79) hx hb dX8_process_51 (by decide) (fun c_15 => ?_) (fun c_15 => ?_)
          · refine lv_iconst (v := 0) hx hb dX8_process_79 (by decide) ?_
            refine lv_istore (lv' := [(8, .int 0), (7, .int 1), (0, .ref (ad 8 0)), (1, .int u), (2, .int d), (3, .int v), (4, .int w), (5, .int f), (6, .int b)]) hx hb dX8_process_80 hl (by decide) rfl (fun ls hl => ?_)
            refine lv_aload_n hx hb dX8_process_82 rfl (lv_at hl 2 rfl) ?_
            refine lv_iload hx hb dX8_process_83 (lv_at hl 1 rfl) ?_
            refine lv_if_ne (tgt := 92) hx hb dX8_process_85 (by decide) (fun _ => ?_) (fun c => absurd c (by decide))
            refine lv_iload hx hb dX8_process_92 (lv_at hl 0 rfl) ?_
            refine lv_if_ne (tgt := 101) hx hb dX8_process_94 (by decide) (fun c => absurd (by decide) c) (fun _ => ?_)
            refine lv_iconst (v := 2) hx hb dX8_process_97 (by decide) ?_
            refine lv_goto (tgt := 115) hx hb dX8_process_98 (by decide) ?_
            refine w_callV (As := [.int 2]) (rest := []) (st2 := .int (f_X8_rf 2) :: []) hC hW hS hl cv_X8_154 m_8 (by decide) rfl (c_X8_refused l hl9 D ca base ad σ 2 ) rfl rfl rfl ⟨Nat.le_of_ble_eq_true rfl, Nat.le_of_ble_eq_true rfl⟩ (Nat.le_of_ble_eq_true rfl) dX8_process_115 ⟨Nat.le_of_ble_eq_true rfl, Nat.le_of_ble_eq_true rfl⟩ (fun H locs hW hS => ?_)
            refine lv_eqi (y := 1) (by decide) ?_
            refine lv_if_eq (tgt := 123) hx hb dX8_process_118 (by decide) (fun c => absurd c (by decide)) (fun _ => ?_)
            refine lv_iconst (v := 0) hx hb dX8_process_121 (by decide) ?_
            have hO : f_X8_process u d v w f b σ = (0, us σ 8 0 0 2) := by rw [f_X8_process, if_neg c_1, if_neg c_7, if_neg c_13, if_neg c_14, if_pos c_15]
            exact w_iretS hC hW hS hO (Nat.le_of_ble_eq_true rfl) (Nat.le_of_ble_eq_true rfl) dX8_process_122
          · refine lv_iload hx hb dX8_process_54 (lv_at hl 7 rfl) ?_
            refine lv_iconst (v := 0) hx hb dX8_process_56 (by decide) ?_
            refine lv_bipush (v := 7) hx hb dX8_process_57 (by decide) ?_
            refine w_callS (As := [.int b, .int 0, .int 7]) (rest := []) (st2 := .int (f_X8_within b 0 7) :: []) hC hW hS hl cs_X8_129 (c_X8_within l hl9 D ca base ad σ b 0 7 ) rfl rfl rfl ⟨Nat.le_of_ble_eq_true rfl, Nat.le_of_ble_eq_true rfl⟩ (Nat.le_of_ble_eq_true rfl) dX8_process_59 ⟨Nat.le_of_ble_eq_true rfl, Nat.le_of_ble_eq_true rfl⟩ (fun H locs hW hS => ?_)
            refine lv_if_eq (tgt := 79) hx hb dX8_process_62 (by decide) (fun c_16 => ?_) (fun c_16 => ?_)
            · refine lv_iconst (v := 0) hx hb dX8_process_79 (by decide) ?_
              refine lv_istore (lv' := [(8, .int 0), (7, .int 1), (0, .ref (ad 8 0)), (1, .int u), (2, .int d), (3, .int v), (4, .int w), (5, .int f), (6, .int b)]) hx hb dX8_process_80 hl (by decide) rfl (fun ls hl => ?_)
              refine lv_aload_n hx hb dX8_process_82 rfl (lv_at hl 2 rfl) ?_
              refine lv_iload hx hb dX8_process_83 (lv_at hl 1 rfl) ?_
              refine lv_if_ne (tgt := 92) hx hb dX8_process_85 (by decide) (fun _ => ?_) (fun c => absurd c (by decide))
              refine lv_iload hx hb dX8_process_92 (lv_at hl 0 rfl) ?_
              refine lv_if_ne (tgt := 101) hx hb dX8_process_94 (by decide) (fun c => absurd (by decide) c) (fun _ => ?_)
              refine lv_iconst (v := 2) hx hb dX8_process_97 (by decide) ?_
              refine lv_goto (tgt := 115) hx hb dX8_process_98 (by decide) ?_
              refine w_callV (As := [.int 2]) (rest := []) (st2 := .int (f_X8_rf 2) :: []) hC hW hS hl cv_X8_154 m_8 (by decide) rfl (c_X8_refused l hl9 D ca base ad σ 2 ) rfl rfl rfl ⟨Nat.le_of_ble_eq_true rfl, Nat.le_of_ble_eq_true rfl⟩ (Nat.le_of_ble_eq_true rfl) dX8_process_115 ⟨Nat.le_of_ble_eq_true rfl, Nat.le_of_ble_eq_true rfl⟩ (fun H locs hW hS => ?_)
              refine lv_eqi (y := 1) (by decide) ?_
              refine lv_if_eq (tgt := 123) hx hb dX8_process_118 (by decide) (fun c => absurd c (by decide)) (fun _ => ?_)
              refine lv_iconst (v := 0) hx hb dX8_process_121 (by decide) ?_
              have hO : f_X8_process u d v w f b σ = (0, us σ 8 0 0 2) := by rw [f_X8_process, if_neg c_1, if_neg c_7, if_neg c_13, if_neg c_14, if_neg c_15, if_pos c_16]
              exact w_iretS hC hW hS hO (Nat.le_of_ble_eq_true rfl) (Nat.le_of_ble_eq_true rfl) dX8_process_122
            · refine lv_iload hx hb dX8_process_65 (lv_at hl 6 rfl) ?_
              refine lv_iload hx hb dX8_process_67 (lv_at hl 7 rfl) ?_
              refine lv_iconst (v := (-1)) hx hb dX8_process_69 (by decide) ?_
              refine lv_ixor hx hb dX8_process_70 ?_
              refine lv_iand hx hb dX8_process_71 ?_
              refine lv_if_ne (tgt := 79) hx hb dX8_process_72 (by decide) (fun c_17 => ?_) (fun c_17 => ?_)
              · refine lv_iconst (v := 0) hx hb dX8_process_79 (by decide) ?_
                refine lv_istore (lv' := [(8, .int 0), (7, .int 1), (0, .ref (ad 8 0)), (1, .int u), (2, .int d), (3, .int v), (4, .int w), (5, .int f), (6, .int b)]) hx hb dX8_process_80 hl (by decide) rfl (fun ls hl => ?_)
                refine lv_aload_n hx hb dX8_process_82 rfl (lv_at hl 2 rfl) ?_
                refine lv_iload hx hb dX8_process_83 (lv_at hl 1 rfl) ?_
                refine lv_if_ne (tgt := 92) hx hb dX8_process_85 (by decide) (fun _ => ?_) (fun c => absurd c (by decide))
                refine lv_iload hx hb dX8_process_92 (lv_at hl 0 rfl) ?_
                refine lv_if_ne (tgt := 101) hx hb dX8_process_94 (by decide) (fun c => absurd (by decide) c) (fun _ => ?_)
                refine lv_iconst (v := 2) hx hb dX8_process_97 (by decide) ?_
                refine lv_goto (tgt := 115) hx hb dX8_process_98 (by decide) ?_
                refine w_callV (As := [.int 2]) (rest := []) (st2 := .int (f_X8_rf 2) :: []) hC hW hS hl cv_X8_154 m_8 (by decide) rfl (c_X8_refused l hl9 D ca base ad σ 2 ) rfl rfl rfl ⟨Nat.le_of_ble_eq_true rfl, Nat.le_of_ble_eq_true rfl⟩ (Nat.le_of_ble_eq_true rfl) dX8_process_115 ⟨Nat.le_of_ble_eq_true rfl, Nat.le_of_ble_eq_true rfl⟩ (fun H locs hW hS => ?_)
                refine lv_eqi (y := 1) (by decide) ?_
                refine lv_if_eq (tgt := 123) hx hb dX8_process_118 (by decide) (fun c => absurd c (by decide)) (fun _ => ?_)
                refine lv_iconst (v := 0) hx hb dX8_process_121 (by decide) ?_
                have hO : f_X8_process u d v w f b σ = (0, us σ 8 0 0 2) := by rw [f_X8_process, if_neg c_1, if_neg c_7, if_neg c_13, if_neg c_14, if_neg c_15, if_neg c_16, if_neg c_17]
                exact w_iretS hC hW hS hO (Nat.le_of_ble_eq_true rfl) (Nat.le_of_ble_eq_true rfl) dX8_process_122
              · refine lv_iconst (v := 1) hx hb dX8_process_75 (by decide) ?_
                refine lv_goto (tgt := 80) hx hb dX8_process_76 (by decide) ?_
                refine lv_istore (lv' := [(8, .int 1), (7, .int 1), (0, .ref (ad 8 0)), (1, .int u), (2, .int d), (3, .int v), (4, .int w), (5, .int f), (6, .int b)]) hx hb dX8_process_80 hl (by decide) rfl (fun ls hl => ?_)
                refine lv_aload_n hx hb dX8_process_82 rfl (lv_at hl 2 rfl) ?_
                refine lv_iload hx hb dX8_process_83 (lv_at hl 1 rfl) ?_
                refine lv_if_ne (tgt := 92) hx hb dX8_process_85 (by decide) (fun _ => ?_) (fun c => absurd c (by decide))
                refine lv_iload hx hb dX8_process_92 (lv_at hl 0 rfl) ?_
                refine lv_if_ne (tgt := 101) hx hb dX8_process_94 (by decide) (fun _ => ?_) (fun c => absurd c (by decide))
                refine lv_aload_n hx hb dX8_process_101 rfl (lv_at hl 2 rfl) ?_
                refine gf_X8_136 hC hW m_8 dX8_process_102 ?_
                refine lv_bipush (v := 8) hx hb dX8_process_105 (by decide) ?_
                refine lv_icmp_ne (tgt := 114) hx hb dX8_process_107 (by decide) (fun c_18 => ?_) (fun c_18 => ?_)
                · refine lv_iconst (v := 0) hx hb dX8_process_114 (by decide) ?_
                  refine w_callV (As := [.int 0]) (rest := []) (st2 := .int (f_X8_rf 0) :: []) hC hW hS hl cv_X8_154 m_8 (by decide) rfl (c_X8_refused l hl9 D ca base ad σ 0 ) rfl rfl rfl ⟨Nat.le_of_ble_eq_true rfl, Nat.le_of_ble_eq_true rfl⟩ (Nat.le_of_ble_eq_true rfl) dX8_process_115 ⟨Nat.le_of_ble_eq_true rfl, Nat.le_of_ble_eq_true rfl⟩ (fun H locs hW hS => ?_)
                  refine lv_eqi (y := 0) (by decide) ?_
                  refine lv_if_eq (tgt := 123) hx hb dX8_process_118 (by decide) (fun _ => ?_) (fun c => absurd (by decide) c)
                  refine lv_aload_n hx hb dX8_process_123 rfl (lv_at hl 2 rfl) ?_
                  refine gf_X8_136 hC hW m_8 dX8_process_124 ?_
                  refine lv_eqi (y := σ 8 0 18) (by rw [us_j (by decide)]) ?_
                  refine lv_istore (lv' := [(9, .int (σ 8 0 18)), (8, .int 1), (7, .int 1), (0, .ref (ad 8 0)), (1, .int u), (2, .int d), (3, .int v), (4, .int w), (5, .int f), (6, .int b)]) hx hb dX8_process_127 hl (by decide) rfl (fun ls hl => ?_)
                  refine lv_aload_n hx hb dX8_process_129 rfl (lv_at hl 3 rfl) ?_
                  refine lv_dup hx hb dX8_process_130 rfl ?_
                  refine gf_X8_136 hC hW m_8 dX8_process_131 ?_
                  refine lv_eqi (y := σ 8 0 18) (by rw [us_j (by decide)]) ?_
                  refine lv_iconst (v := 1) hx hb dX8_process_134 (by decide) ?_
                  refine lv_iadd hx hb dX8_process_135 ?_
                  refine pf_X8_136 hC hW m_8 hS dX8_process_136 (fun H locs hW hS => ?_)
                  refine lv_aload_n hx hb dX8_process_139 rfl (lv_at hl 3 rfl) ?_
                  refine gf_X8_59 hC hW m_8 rfl dX8_process_140 ?_
                  refine lv_iload hx hb dX8_process_143 (lv_at hl 0 rfl) ?_
                  refine lv_iload_n hx hb dX8_process_145 rfl (lv_at hl 4 rfl) ?_
                  refine w_iast hC hW hS m_49 (n := 8) (fun _ => rfl) (pc_in hM (by assumption)) dX8_process_146 (fun H locs hW hS => ?_)
                  refine lv_aload_n hx hb dX8_process_147 rfl (lv_at hl 3 rfl) ?_
                  refine gf_X8_62 hC hW m_8 rfl dX8_process_148 ?_
                  refine lv_iload hx hb dX8_process_151 (lv_at hl 0 rfl) ?_
                  refine lv_iload_n hx hb dX8_process_153 rfl (lv_at hl 5 rfl) ?_
                  refine w_iast hC hW hS m_50 (n := 8) (fun _ => rfl) (pc_in hM (by assumption)) dX8_process_154 (fun H locs hW hS => ?_)
                  refine lv_aload_n hx hb dX8_process_155 rfl (lv_at hl 3 rfl) ?_
                  refine gf_X8_65 hC hW m_8 rfl dX8_process_156 ?_
                  refine lv_iload hx hb dX8_process_159 (lv_at hl 0 rfl) ?_
                  refine lv_iload_n hx hb dX8_process_161 rfl (lv_at hl 6 rfl) ?_
                  refine w_iast hC hW hS m_51 (n := 8) (fun _ => rfl) (pc_in hM (by assumption)) dX8_process_162 (fun H locs hW hS => ?_)
                  refine lv_aload_n hx hb dX8_process_163 rfl (lv_at hl 3 rfl) ?_
                  refine gf_X8_68 hC hW m_8 rfl dX8_process_164 ?_
                  refine lv_iload hx hb dX8_process_167 (lv_at hl 0 rfl) ?_
                  refine lv_iload hx hb dX8_process_169 (lv_at hl 7 rfl) ?_
                  refine w_iast hC hW hS m_52 (n := 8) (fun _ => rfl) (pc_in hM (by assumption)) dX8_process_171 (fun H locs hW hS => ?_)
                  refine lv_aload_n hx hb dX8_process_172 rfl (lv_at hl 3 rfl) ?_
                  refine gf_X8_71 hC hW m_8 rfl dX8_process_173 ?_
                  refine lv_iload hx hb dX8_process_176 (lv_at hl 0 rfl) ?_
                  refine lv_iload hx hb dX8_process_178 (lv_at hl 8 rfl) ?_
                  refine w_iast hC hW hS m_53 (n := 8) (fun _ => rfl) (pc_in hM (by assumption)) dX8_process_180 (fun H locs hW hS => ?_)
                  refine lv_aload_n hx hb dX8_process_181 rfl (lv_at hl 3 rfl) ?_
                  refine gf_X8_74 hC hW m_8 rfl dX8_process_182 ?_
                  refine lv_iload hx hb dX8_process_185 (lv_at hl 0 rfl) ?_
                  refine lv_iload hx hb dX8_process_187 (lv_at hl 9 rfl) ?_
                  refine w_iast hC hW hS m_54 (n := 8) (fun _ => rfl) (pc_in hM (by assumption)) dX8_process_189 (fun H locs hW hS => ?_)
                  refine lv_aload_n hx hb dX8_process_190 rfl (lv_at hl 3 rfl) ?_
                  refine gf_X8_80 hC hW m_8 rfl dX8_process_191 ?_
                  refine lv_iload hx hb dX8_process_194 (lv_at hl 0 rfl) ?_
                  refine lv_bipush (v := 7) hx hb dX8_process_196 (by decide) ?_
                  refine w_iast hC hW hS m_56 (n := 8) (fun _ => rfl) (pc_in hM (by assumption)) dX8_process_198 (fun H locs hW hS => ?_)
                  refine lv_iload hx hb dX8_process_199 (lv_at hl 0 rfl) ?_
                  have hO : f_X8_process u d v w f b σ = (σ 8 0 18, us (us (us (us (us (us (us (us (us σ 8 0 0 0) 8 0 18 ((σ 8 0 18) + (1 : Int32))) 49 0 ((σ 8 0 18).toNatClampNeg) u) 50 0 ((σ 8 0 18).toNatClampNeg) d) 51 0 ((σ 8 0 18).toNatClampNeg) v) 52 0 ((σ 8 0 18).toNatClampNeg) w) 53 0 ((σ 8 0 18).toNatClampNeg) f) 54 0 ((σ 8 0 18).toNatClampNeg) b) 56 0 ((σ 8 0 18).toNatClampNeg) 7) := by rw [f_X8_process, if_neg c_1, if_neg c_7, if_neg c_13, if_neg c_14, if_neg c_15, if_neg c_16, if_pos c_17, if_neg c_18]
                  exact w_iretS hC hW hS hO (Nat.le_of_ble_eq_true rfl) (Nat.le_of_ble_eq_true rfl) dX8_process_201
                · refine lv_iconst (v := 3) hx hb dX8_process_110 (by decide) ?_
                  refine lv_goto (tgt := 115) hx hb dX8_process_111 (by decide) ?_
                  refine w_callV (As := [.int 3]) (rest := []) (st2 := .int (f_X8_rf 3) :: []) hC hW hS hl cv_X8_154 m_8 (by decide) rfl (c_X8_refused l hl9 D ca base ad σ 3 ) rfl rfl rfl ⟨Nat.le_of_ble_eq_true rfl, Nat.le_of_ble_eq_true rfl⟩ (Nat.le_of_ble_eq_true rfl) dX8_process_115 ⟨Nat.le_of_ble_eq_true rfl, Nat.le_of_ble_eq_true rfl⟩ (fun H locs hW hS => ?_)
                  refine lv_eqi (y := 1) (by decide) ?_
                  refine lv_if_eq (tgt := 123) hx hb dX8_process_118 (by decide) (fun c => absurd c (by decide)) (fun _ => ?_)
                  refine lv_iconst (v := 0) hx hb dX8_process_121 (by decide) ?_
                  have hO : f_X8_process u d v w f b σ = (0, us σ 8 0 0 3) := by rw [f_X8_process, if_neg c_1, if_neg c_7, if_neg c_13, if_neg c_14, if_neg c_15, if_neg c_16, if_pos c_17, if_pos c_18]
                  exact w_iretS hC hW hS hO (Nat.le_of_ble_eq_true rfl) (Nat.le_of_ble_eq_true rfl) dX8_process_122
theorem fr_X8_process {kk : Nat}  {u : Int32} {d : Int32} {v : Int32} {w : Int32} {f : Int32} {b : Int32} {σ : Sg} (h8 : kk ≠ 8) (h49 : kk ≠ 49) (h50 : kk ≠ 50) (h51 : kk ≠ 51) (h52 : kk ≠ 52) (h53 : kk ≠ 53) (h54 : kk ≠ 54) (h56 : kk ≠ 56) : (f_X8_process u d v w f b σ).2 kk = σ kk := by
  rw [f_X8_process]
  repeat' split
  all_goals (first | (simp only [us_kk, ne_eq, not_false_eq_true, h8, h49, h50, h51, h52, h53, h54, h56]; done) | with_reducible rfl | (simp only [us_kk, ne_eq, not_false_eq_true, h8, h49, h50, h51, h52, h53, h54, h56]; with_reducible rfl))
theorem fs_X8_process {jj : Nat}  {u : Int32} {d : Int32} {v : Int32} {w : Int32} {f : Int32} {b : Int32} {σ : Sg} (h0 : jj ≠ 0) (h18 : jj ≠ 18) : (f_X8_process u d v w f b σ).2 8 0 jj = σ 8 0 jj := by
  rw [f_X8_process]
  repeat' split
  all_goals (first | with_reducible rfl | (simp [us_k, us_j, ne_eq, not_false_eq_true, h0, h18]; done))

def f_X8_filter (k : Int32) (v : Int32) (σ : Sg) : Int32 × Sg :=
  if (f_X8_isProcess k σ) = 0 then (0, us σ 8 0 0 1)
  else if (f_X8_within v 0 7) = 0 then (0, us σ 8 0 0 2)
  else if (σ 55 0 k.toNatClampNeg) = 3 then (0, us σ 8 0 0 3)
  else ((σ 56 0 k.toNatClampNeg) &&& v, us (us (us σ 8 0 0 0) 55 0 k.toNatClampNeg ((σ 55 0 k.toNatClampNeg) + (1 : Int32))) 56 0 k.toNatClampNeg ((σ 56 0 k.toNatClampNeg) &&& v))
set_option maxHeartbeats 4000000 in
set_option maxRecDepth 100000 in
theorem c_X8_filter (l : Launch) (hl9 : l.stackTraces = false) (D : va_G) (ca : Nat → ClassId) (base : Nat) (ad : Adr) (σ : Sg) (k : Int32) (v : Int32) (hM : MInv σ) : Mt l yX8_filter cX8_filter 4 (some .int) { frames := 2, cells := 0, slots := 0, locals := 43 } D ca base ad ρm Lm [.ref (ad 8 0), .int k, .int v] σ (some (.int (f_X8_filter k v σ).1)) (f_X8_filter k v σ).2 := by
  refine w_ofW (by decide) (Nat.le_of_ble_eq_true rfl) rfl ?_
  intro p e s m args below meth c hC hW hS ls hl hin
  have hx := hC.1
  have hb := hC.2.1
  refine lv_aload_n hx hb dX8_filter_0 rfl (lv_at hl 0 rfl) ?_
  refine lv_iload_n hx hb dX8_filter_1 rfl (lv_at hl 1 rfl) ?_
  refine w_callV (As := [.int k]) (rest := []) (st2 := .int (f_X8_isProcess k σ) :: []) hC hW hS hl cv_X8_166 m_8 (by decide) rfl (c_X8_isProcess l hl9 D ca base ad σ k ) rfl rfl rfl ⟨Nat.le_of_ble_eq_true rfl, Nat.le_of_ble_eq_true rfl⟩ (Nat.le_of_ble_eq_true rfl) dX8_filter_2 ⟨Nat.le_of_ble_eq_true rfl, Nat.le_of_ble_eq_true rfl⟩ (fun H locs hW hS => ?_)
  refine lv_istore_n (lv' := [(3, .int (f_X8_isProcess k σ)), (0, .ref (ad 8 0)), (1, .int k), (2, .int v)]) hx hb dX8_filter_5 rfl hl (by decide) rfl (fun ls hl => ?_)
  refine lv_aload_n hx hb dX8_filter_6 rfl (lv_at hl 1 rfl) ?_
  refine lv_iload_n hx hb dX8_filter_7 rfl (lv_at hl 0 rfl) ?_
  refine lv_if_ne (tgt := 15) hx hb dX8_filter_8 (by decide) (fun c_1 => ?_) (fun c_1 => ?_)
  · refine lv_iload_n hx hb dX8_filter_15 rfl (lv_at hl 3 rfl) ?_
    refine lv_iconst (v := 0) hx hb dX8_filter_16 (by decide) ?_
    refine lv_bipush (v := 7) hx hb dX8_filter_17 (by decide) ?_
    refine w_callS (As := [.int v, .int 0, .int 7]) (rest := .ref (ad 8 0) :: []) (st2 := .int (f_X8_within v 0 7) :: .ref (ad 8 0) :: []) hC hW hS hl cs_X8_129 (c_X8_within l hl9 D ca base ad σ v 0 7 ) rfl rfl rfl ⟨Nat.le_of_ble_eq_true rfl, Nat.le_of_ble_eq_true rfl⟩ (Nat.le_of_ble_eq_true rfl) dX8_filter_19 ⟨Nat.le_of_ble_eq_true rfl, Nat.le_of_ble_eq_true rfl⟩ (fun H locs hW hS => ?_)
    refine lv_if_ne (tgt := 29) hx hb dX8_filter_22 (by decide) (fun c_2 => ?_) (fun c_2 => ?_)
    · refine lv_aload_n hx hb dX8_filter_29 rfl (lv_at hl 1 rfl) ?_
      refine gf_X8_77 hC hW m_8 rfl dX8_filter_30 ?_
      refine lv_iload_n hx hb dX8_filter_33 rfl (lv_at hl 2 rfl) ?_
      refine w_iald hC hW m_55 (n := 8) rfl (by first | assumption | exact ip_in hM (by assumption) | exact vp_in_c (y := 8) (by decide) (by decide) (by assumption) (by assumption) | (exfalso; contradiction)) dX8_filter_34 ?_
      refine lv_iconst (v := 3) hx hb dX8_filter_35 (by decide) ?_
      refine lv_icmp_ne (tgt := 43) hx hb dX8_filter_36 (by decide) (fun c_3 => ?_) (fun c_3 => ?_)
      · refine lv_iconst (v := 0) hx hb dX8_filter_43 (by decide) ?_
        refine w_callV (As := [.int 0]) (rest := []) (st2 := .int (f_X8_rf 0) :: []) hC hW hS hl cv_X8_154 m_8 (by decide) rfl (c_X8_refused l hl9 D ca base ad σ 0 ) rfl rfl rfl ⟨Nat.le_of_ble_eq_true rfl, Nat.le_of_ble_eq_true rfl⟩ (Nat.le_of_ble_eq_true rfl) dX8_filter_44 ⟨Nat.le_of_ble_eq_true rfl, Nat.le_of_ble_eq_true rfl⟩ (fun H locs hW hS => ?_)
        refine lv_eqi (y := 0) (by decide) ?_
        refine lv_if_eq (tgt := 52) hx hb dX8_filter_47 (by decide) (fun _ => ?_) (fun c => absurd (by decide) c)
        refine lv_aload_n hx hb dX8_filter_52 rfl (lv_at hl 1 rfl) ?_
        refine gf_X8_77 hC hW m_8 rfl dX8_filter_53 ?_
        refine lv_iload_n hx hb dX8_filter_56 rfl (lv_at hl 2 rfl) ?_
        refine lv_dup2_11 hx hb dX8_filter_57 rfl rfl ?_
        refine w_iald hC hW m_55 (n := 8) rfl (by first | assumption | exact ip_in hM (by assumption) | exact vp_in_c (y := 8) (by decide) (by decide) (by assumption) (by assumption) | (exfalso; contradiction)) dX8_filter_58 ?_
        refine lv_eqi (y := σ 55 0 k.toNatClampNeg) (by rw [us_k (by decide)]) ?_
        refine lv_iconst (v := 1) hx hb dX8_filter_59 (by decide) ?_
        refine lv_iadd hx hb dX8_filter_60 ?_
        refine w_iast hC hW hS m_55 (n := 8) (fun _ => rfl) (by first | assumption | exact ip_in hM (by assumption) | exact vp_in_c (y := 8) (by decide) (by decide) (by assumption) (by assumption) | (exfalso; contradiction)) dX8_filter_61 (fun H locs hW hS => ?_)
        refine lv_aload_n hx hb dX8_filter_62 rfl (lv_at hl 1 rfl) ?_
        refine gf_X8_80 hC hW m_8 rfl dX8_filter_63 ?_
        refine lv_iload_n hx hb dX8_filter_66 rfl (lv_at hl 2 rfl) ?_
        refine lv_dup2_11 hx hb dX8_filter_67 rfl rfl ?_
        refine w_iald hC hW m_56 (n := 8) rfl (by first | assumption | exact ip_in hM (by assumption) | exact vp_in_c (y := 8) (by decide) (by decide) (by assumption) (by assumption) | (exfalso; contradiction)) dX8_filter_68 ?_
        refine lv_eqi (y := σ 56 0 k.toNatClampNeg) (by rw [us_k (by decide), us_k (by decide)]) ?_
        refine lv_iload_n hx hb dX8_filter_69 rfl (lv_at hl 3 rfl) ?_
        refine lv_iand hx hb dX8_filter_70 ?_
        refine w_iast hC hW hS m_56 (n := 8) (fun _ => rfl) (by first | assumption | exact ip_in hM (by assumption) | exact vp_in_c (y := 8) (by decide) (by decide) (by assumption) (by assumption) | (exfalso; contradiction)) dX8_filter_71 (fun H locs hW hS => ?_)
        refine lv_aload_n hx hb dX8_filter_72 rfl (lv_at hl 1 rfl) ?_
        refine gf_X8_80 hC hW m_8 rfl dX8_filter_73 ?_
        refine lv_iload_n hx hb dX8_filter_76 rfl (lv_at hl 2 rfl) ?_
        refine w_iald hC hW m_56 (n := 8) rfl (by first | assumption | exact ip_in hM (by assumption) | exact vp_in_c (y := 8) (by decide) (by decide) (by assumption) (by assumption) | (exfalso; contradiction)) dX8_filter_77 ?_
        refine lv_eqi (y := (σ 56 0 k.toNatClampNeg) &&& v) (by rw [us_h]) ?_
        have hO : f_X8_filter k v σ = ((σ 56 0 k.toNatClampNeg) &&& v, us (us (us σ 8 0 0 0) 55 0 k.toNatClampNeg ((σ 55 0 k.toNatClampNeg) + (1 : Int32))) 56 0 k.toNatClampNeg ((σ 56 0 k.toNatClampNeg) &&& v)) := by rw [f_X8_filter, if_neg c_1, if_neg c_2, if_neg c_3]
        exact w_iretS hC hW hS hO (Nat.le_of_ble_eq_true rfl) (Nat.le_of_ble_eq_true rfl) dX8_filter_78
      · refine lv_iconst (v := 3) hx hb dX8_filter_39 (by decide) ?_
        refine lv_goto (tgt := 44) hx hb dX8_filter_40 (by decide) ?_
        refine w_callV (As := [.int 3]) (rest := []) (st2 := .int (f_X8_rf 3) :: []) hC hW hS hl cv_X8_154 m_8 (by decide) rfl (c_X8_refused l hl9 D ca base ad σ 3 ) rfl rfl rfl ⟨Nat.le_of_ble_eq_true rfl, Nat.le_of_ble_eq_true rfl⟩ (Nat.le_of_ble_eq_true rfl) dX8_filter_44 ⟨Nat.le_of_ble_eq_true rfl, Nat.le_of_ble_eq_true rfl⟩ (fun H locs hW hS => ?_)
        refine lv_eqi (y := 1) (by decide) ?_
        refine lv_if_eq (tgt := 52) hx hb dX8_filter_47 (by decide) (fun c => absurd c (by decide)) (fun _ => ?_)
        refine lv_iconst (v := 0) hx hb dX8_filter_50 (by decide) ?_
        have hO : f_X8_filter k v σ = (0, us σ 8 0 0 3) := by rw [f_X8_filter, if_neg c_1, if_neg c_2, if_pos c_3]
        exact w_iretS hC hW hS hO (Nat.le_of_ble_eq_true rfl) (Nat.le_of_ble_eq_true rfl) dX8_filter_51
    · refine lv_iconst (v := 2) hx hb dX8_filter_25 (by decide) ?_
      refine lv_goto (tgt := 44) hx hb dX8_filter_26 (by decide) ?_
      refine w_callV (As := [.int 2]) (rest := []) (st2 := .int (f_X8_rf 2) :: []) hC hW hS hl cv_X8_154 m_8 (by decide) rfl (c_X8_refused l hl9 D ca base ad σ 2 ) rfl rfl rfl ⟨Nat.le_of_ble_eq_true rfl, Nat.le_of_ble_eq_true rfl⟩ (Nat.le_of_ble_eq_true rfl) dX8_filter_44 ⟨Nat.le_of_ble_eq_true rfl, Nat.le_of_ble_eq_true rfl⟩ (fun H locs hW hS => ?_)
      refine lv_eqi (y := 1) (by decide) ?_
      refine lv_if_eq (tgt := 52) hx hb dX8_filter_47 (by decide) (fun c => absurd c (by decide)) (fun _ => ?_)
      refine lv_iconst (v := 0) hx hb dX8_filter_50 (by decide) ?_
      have hO : f_X8_filter k v σ = (0, us σ 8 0 0 2) := by rw [f_X8_filter, if_neg c_1, if_pos c_2]
      exact w_iretS hC hW hS hO (Nat.le_of_ble_eq_true rfl) (Nat.le_of_ble_eq_true rfl) dX8_filter_51
  · refine lv_iconst (v := 1) hx hb dX8_filter_11 (by decide) ?_
    refine lv_goto (tgt := 44) hx hb dX8_filter_12 (by decide) ?_
    refine w_callV (As := [.int 1]) (rest := []) (st2 := .int (f_X8_rf 1) :: []) hC hW hS hl cv_X8_154 m_8 (by decide) rfl (c_X8_refused l hl9 D ca base ad σ 1 ) rfl rfl rfl ⟨Nat.le_of_ble_eq_true rfl, Nat.le_of_ble_eq_true rfl⟩ (Nat.le_of_ble_eq_true rfl) dX8_filter_44 ⟨Nat.le_of_ble_eq_true rfl, Nat.le_of_ble_eq_true rfl⟩ (fun H locs hW hS => ?_)
    refine lv_eqi (y := 1) (by decide) ?_
    refine lv_if_eq (tgt := 52) hx hb dX8_filter_47 (by decide) (fun c => absurd c (by decide)) (fun _ => ?_)
    refine lv_iconst (v := 0) hx hb dX8_filter_50 (by decide) ?_
    have hO : f_X8_filter k v σ = (0, us σ 8 0 0 1) := by rw [f_X8_filter, if_pos c_1]
    exact w_iretS hC hW hS hO (Nat.le_of_ble_eq_true rfl) (Nat.le_of_ble_eq_true rfl) dX8_filter_51
theorem fr_X8_filter {kk : Nat}  {k : Int32} {v : Int32} {σ : Sg} (h8 : kk ≠ 8) (h55 : kk ≠ 55) (h56 : kk ≠ 56) : (f_X8_filter k v σ).2 kk = σ kk := by
  rw [f_X8_filter]
  repeat' split
  all_goals (first | (simp only [us_kk, ne_eq, not_false_eq_true, h8, h55, h56]; done) | with_reducible rfl | (simp only [us_kk, ne_eq, not_false_eq_true, h8, h55, h56]; with_reducible rfl))
theorem fs_X8_filter {jj : Nat}  {k : Int32} {v : Int32} {σ : Sg} (h0 : jj ≠ 0) : (f_X8_filter k v σ).2 8 0 jj = σ 8 0 jj := by
  rw [f_X8_filter]
  repeat' split
  all_goals (first | with_reducible rfl | (simp [us_k, us_j, ne_eq, not_false_eq_true, h0]; done))

def f_X8_bound (k : Int32) (v : Int32) (σ : Sg) : Int32 × Sg :=
  if (f_X8_isProcess k σ) = 0 then (0, us σ 8 0 0 1)
  else if (f_X8_within v 0 7) = 0 then (0, us σ 8 0 0 2)
  else ((σ 54 0 k.toNatClampNeg) &&& (v ^^^ (-1 : Int32)), us (us (us σ 8 0 0 0) 54 0 k.toNatClampNeg ((σ 54 0 k.toNatClampNeg) &&& (v ^^^ (-1 : Int32)))) 53 0 k.toNatClampNeg ((σ 53 0 k.toNatClampNeg) &&& (v ^^^ (-1 : Int32))))
set_option maxHeartbeats 4000000 in
set_option maxRecDepth 100000 in
theorem c_X8_bound (l : Launch) (hl9 : l.stackTraces = false) (D : va_G) (ca : Nat → ClassId) (base : Nat) (ad : Adr) (σ : Sg) (k : Int32) (v : Int32) (hM : MInv σ) : Mt l yX8_bound cX8_bound 3 (some .int) { frames := 2, cells := 0, slots := 0, locals := 43 } D ca base ad ρm Lm [.ref (ad 8 0), .int k, .int v] σ (some (.int (f_X8_bound k v σ).1)) (f_X8_bound k v σ).2 := by
  refine w_ofW (by decide) (Nat.le_of_ble_eq_true rfl) rfl ?_
  intro p e s m args below meth c hC hW hS ls hl hin
  have hx := hC.1
  have hb := hC.2.1
  refine lv_aload_n hx hb dX8_bound_0 rfl (lv_at hl 0 rfl) ?_
  refine lv_aload_n hx hb dX8_bound_1 rfl (lv_at hl 0 rfl) ?_
  refine lv_iload_n hx hb dX8_bound_2 rfl (lv_at hl 1 rfl) ?_
  refine w_callV (As := [.int k]) (rest := .ref (ad 8 0) :: []) (st2 := .int (f_X8_isProcess k σ) :: .ref (ad 8 0) :: []) hC hW hS hl cv_X8_166 m_8 (by decide) rfl (c_X8_isProcess l hl9 D ca base ad σ k ) rfl rfl rfl ⟨Nat.le_of_ble_eq_true rfl, Nat.le_of_ble_eq_true rfl⟩ (Nat.le_of_ble_eq_true rfl) dX8_bound_3 ⟨Nat.le_of_ble_eq_true rfl, Nat.le_of_ble_eq_true rfl⟩ (fun H locs hW hS => ?_)
  refine lv_if_ne (tgt := 13) hx hb dX8_bound_6 (by decide) (fun c_1 => ?_) (fun c_1 => ?_)
  · refine lv_iload_n hx hb dX8_bound_13 rfl (lv_at hl 2 rfl) ?_
    refine lv_iconst (v := 0) hx hb dX8_bound_14 (by decide) ?_
    refine lv_bipush (v := 7) hx hb dX8_bound_15 (by decide) ?_
    refine w_callS (As := [.int v, .int 0, .int 7]) (rest := .ref (ad 8 0) :: []) (st2 := .int (f_X8_within v 0 7) :: .ref (ad 8 0) :: []) hC hW hS hl cs_X8_129 (c_X8_within l hl9 D ca base ad σ v 0 7 ) rfl rfl rfl ⟨Nat.le_of_ble_eq_true rfl, Nat.le_of_ble_eq_true rfl⟩ (Nat.le_of_ble_eq_true rfl) dX8_bound_17 ⟨Nat.le_of_ble_eq_true rfl, Nat.le_of_ble_eq_true rfl⟩ (fun H locs hW hS => ?_)
    refine lv_if_ne (tgt := 27) hx hb dX8_bound_20 (by decide) (fun c_2 => ?_) (fun c_2 => ?_)
    · refine lv_iconst (v := 0) hx hb dX8_bound_27 (by decide) ?_
      refine w_callV (As := [.int 0]) (rest := []) (st2 := .int (f_X8_rf 0) :: []) hC hW hS hl cv_X8_154 m_8 (by decide) rfl (c_X8_refused l hl9 D ca base ad σ 0 ) rfl rfl rfl ⟨Nat.le_of_ble_eq_true rfl, Nat.le_of_ble_eq_true rfl⟩ (Nat.le_of_ble_eq_true rfl) dX8_bound_28 ⟨Nat.le_of_ble_eq_true rfl, Nat.le_of_ble_eq_true rfl⟩ (fun H locs hW hS => ?_)
      refine lv_eqi (y := 0) (by decide) ?_
      refine lv_if_eq (tgt := 36) hx hb dX8_bound_31 (by decide) (fun _ => ?_) (fun c => absurd (by decide) c)
      refine lv_aload_n hx hb dX8_bound_36 rfl (lv_at hl 0 rfl) ?_
      refine gf_X8_74 hC hW m_8 rfl dX8_bound_37 ?_
      refine lv_iload_n hx hb dX8_bound_40 rfl (lv_at hl 1 rfl) ?_
      refine lv_dup2_11 hx hb dX8_bound_41 rfl rfl ?_
      refine w_iald hC hW m_54 (n := 8) rfl (by first | assumption | exact ip_in hM (by assumption) | exact vp_in_c (y := 8) (by decide) (by decide) (by assumption) (by assumption) | (exfalso; contradiction)) dX8_bound_42 ?_
      refine lv_eqi (y := σ 54 0 k.toNatClampNeg) (by rw [us_k (by decide)]) ?_
      refine lv_iload_n hx hb dX8_bound_43 rfl (lv_at hl 2 rfl) ?_
      refine lv_iconst (v := (-1)) hx hb dX8_bound_44 (by decide) ?_
      refine lv_ixor hx hb dX8_bound_45 ?_
      refine lv_iand hx hb dX8_bound_46 ?_
      refine w_iast hC hW hS m_54 (n := 8) (fun _ => rfl) (by first | assumption | exact ip_in hM (by assumption) | exact vp_in_c (y := 8) (by decide) (by decide) (by assumption) (by assumption) | (exfalso; contradiction)) dX8_bound_47 (fun H locs hW hS => ?_)
      refine lv_aload_n hx hb dX8_bound_48 rfl (lv_at hl 0 rfl) ?_
      refine gf_X8_71 hC hW m_8 rfl dX8_bound_49 ?_
      refine lv_iload_n hx hb dX8_bound_52 rfl (lv_at hl 1 rfl) ?_
      refine lv_dup2_11 hx hb dX8_bound_53 rfl rfl ?_
      refine w_iald hC hW m_53 (n := 8) rfl (by first | assumption | exact ip_in hM (by assumption) | exact vp_in_c (y := 8) (by decide) (by decide) (by assumption) (by assumption) | (exfalso; contradiction)) dX8_bound_54 ?_
      refine lv_eqi (y := σ 53 0 k.toNatClampNeg) (by rw [us_k (by decide), us_k (by decide)]) ?_
      refine lv_iload_n hx hb dX8_bound_55 rfl (lv_at hl 2 rfl) ?_
      refine lv_iconst (v := (-1)) hx hb dX8_bound_56 (by decide) ?_
      refine lv_ixor hx hb dX8_bound_57 ?_
      refine lv_iand hx hb dX8_bound_58 ?_
      refine w_iast hC hW hS m_53 (n := 8) (fun _ => rfl) (by first | assumption | exact ip_in hM (by assumption) | exact vp_in_c (y := 8) (by decide) (by decide) (by assumption) (by assumption) | (exfalso; contradiction)) dX8_bound_59 (fun H locs hW hS => ?_)
      refine lv_aload_n hx hb dX8_bound_60 rfl (lv_at hl 0 rfl) ?_
      refine gf_X8_74 hC hW m_8 rfl dX8_bound_61 ?_
      refine lv_iload_n hx hb dX8_bound_64 rfl (lv_at hl 1 rfl) ?_
      refine w_iald hC hW m_54 (n := 8) rfl (by first | assumption | exact ip_in hM (by assumption) | exact vp_in_c (y := 8) (by decide) (by decide) (by assumption) (by assumption) | (exfalso; contradiction)) dX8_bound_65 ?_
      refine lv_eqi (y := (σ 54 0 k.toNatClampNeg) &&& (v ^^^ (-1 : Int32))) (by rw [us_k (by decide), us_h]) ?_
      have hO : f_X8_bound k v σ = ((σ 54 0 k.toNatClampNeg) &&& (v ^^^ (-1 : Int32)), us (us (us σ 8 0 0 0) 54 0 k.toNatClampNeg ((σ 54 0 k.toNatClampNeg) &&& (v ^^^ (-1 : Int32)))) 53 0 k.toNatClampNeg ((σ 53 0 k.toNatClampNeg) &&& (v ^^^ (-1 : Int32)))) := by rw [f_X8_bound, if_neg c_1, if_neg c_2]
      exact w_iretS hC hW hS hO (Nat.le_of_ble_eq_true rfl) (Nat.le_of_ble_eq_true rfl) dX8_bound_66
    · refine lv_iconst (v := 2) hx hb dX8_bound_23 (by decide) ?_
      refine lv_goto (tgt := 28) hx hb dX8_bound_24 (by decide) ?_
      refine w_callV (As := [.int 2]) (rest := []) (st2 := .int (f_X8_rf 2) :: []) hC hW hS hl cv_X8_154 m_8 (by decide) rfl (c_X8_refused l hl9 D ca base ad σ 2 ) rfl rfl rfl ⟨Nat.le_of_ble_eq_true rfl, Nat.le_of_ble_eq_true rfl⟩ (Nat.le_of_ble_eq_true rfl) dX8_bound_28 ⟨Nat.le_of_ble_eq_true rfl, Nat.le_of_ble_eq_true rfl⟩ (fun H locs hW hS => ?_)
      refine lv_eqi (y := 1) (by decide) ?_
      refine lv_if_eq (tgt := 36) hx hb dX8_bound_31 (by decide) (fun c => absurd c (by decide)) (fun _ => ?_)
      refine lv_iconst (v := 0) hx hb dX8_bound_34 (by decide) ?_
      have hO : f_X8_bound k v σ = (0, us σ 8 0 0 2) := by rw [f_X8_bound, if_neg c_1, if_pos c_2]
      exact w_iretS hC hW hS hO (Nat.le_of_ble_eq_true rfl) (Nat.le_of_ble_eq_true rfl) dX8_bound_35
  · refine lv_iconst (v := 1) hx hb dX8_bound_9 (by decide) ?_
    refine lv_goto (tgt := 28) hx hb dX8_bound_10 (by decide) ?_
    refine w_callV (As := [.int 1]) (rest := []) (st2 := .int (f_X8_rf 1) :: []) hC hW hS hl cv_X8_154 m_8 (by decide) rfl (c_X8_refused l hl9 D ca base ad σ 1 ) rfl rfl rfl ⟨Nat.le_of_ble_eq_true rfl, Nat.le_of_ble_eq_true rfl⟩ (Nat.le_of_ble_eq_true rfl) dX8_bound_28 ⟨Nat.le_of_ble_eq_true rfl, Nat.le_of_ble_eq_true rfl⟩ (fun H locs hW hS => ?_)
    refine lv_eqi (y := 1) (by decide) ?_
    refine lv_if_eq (tgt := 36) hx hb dX8_bound_31 (by decide) (fun c => absurd c (by decide)) (fun _ => ?_)
    refine lv_iconst (v := 0) hx hb dX8_bound_34 (by decide) ?_
    have hO : f_X8_bound k v σ = (0, us σ 8 0 0 1) := by rw [f_X8_bound, if_pos c_1]
    exact w_iretS hC hW hS hO (Nat.le_of_ble_eq_true rfl) (Nat.le_of_ble_eq_true rfl) dX8_bound_35
theorem fr_X8_bound {kk : Nat}  {k : Int32} {v : Int32} {σ : Sg} (h8 : kk ≠ 8) (h53 : kk ≠ 53) (h54 : kk ≠ 54) : (f_X8_bound k v σ).2 kk = σ kk := by
  rw [f_X8_bound]
  repeat' split
  all_goals (first | (simp only [us_kk, ne_eq, not_false_eq_true, h8, h53, h54]; done) | with_reducible rfl | (simp only [us_kk, ne_eq, not_false_eq_true, h8, h53, h54]; with_reducible rfl))
theorem fs_X8_bound {jj : Nat}  {k : Int32} {v : Int32} {σ : Sg} (h0 : jj ≠ 0) : (f_X8_bound k v σ).2 8 0 jj = σ 8 0 jj := by
  rw [f_X8_bound]
  repeat' split
  all_goals (first | with_reducible rfl | (simp [us_k, us_j, ne_eq, not_false_eq_true, h0]; done))

def f_X8_about (k : Int32) (v : Int32) (σ : Sg) : Int32 × Sg :=
  if (f_X8_isProcess k σ) = 0 then (0, us σ 8 0 0 1)
  else if (f_X8_within v 0 6) = 0 then (0, us σ 8 0 0 2)
  else if 4 ≤ v then (if v = 4 then (σ 53 0 k.toNatClampNeg, us σ 8 0 0 0)
    else if v = 5 then (σ 54 0 k.toNatClampNeg, us σ 8 0 0 0)
    else (σ 56 0 k.toNatClampNeg, us σ 8 0 0 0))
  else if v = 0 then (σ 49 0 k.toNatClampNeg, us σ 8 0 0 0)
  else if v = 1 then (σ 50 0 k.toNatClampNeg, us σ 8 0 0 0)
  else if v = 2 then (σ 51 0 k.toNatClampNeg, us σ 8 0 0 0)
  else (σ 52 0 k.toNatClampNeg, us σ 8 0 0 0)
set_option maxHeartbeats 4000000 in
set_option maxRecDepth 100000 in
theorem c_X8_about (l : Launch) (hl9 : l.stackTraces = false) (D : va_G) (ca : Nat → ClassId) (base : Nat) (ad : Adr) (σ : Sg) (k : Int32) (v : Int32) (hM : MInv σ) : Mt l yX8_about cX8_about 3 (some .int) { frames := 2, cells := 0, slots := 0, locals := 43 } D ca base ad ρm Lm [.ref (ad 8 0), .int k, .int v] σ (some (.int (f_X8_about k v σ).1)) (f_X8_about k v σ).2 := by
  refine w_ofW (by decide) (Nat.le_of_ble_eq_true rfl) rfl ?_
  intro p e s m args below meth c hC hW hS ls hl hin
  have hx := hC.1
  have hb := hC.2.1
  refine lv_aload_n hx hb dX8_about_0 rfl (lv_at hl 0 rfl) ?_
  refine lv_aload_n hx hb dX8_about_1 rfl (lv_at hl 0 rfl) ?_
  refine lv_iload_n hx hb dX8_about_2 rfl (lv_at hl 1 rfl) ?_
  refine w_callV (As := [.int k]) (rest := .ref (ad 8 0) :: []) (st2 := .int (f_X8_isProcess k σ) :: .ref (ad 8 0) :: []) hC hW hS hl cv_X8_166 m_8 (by decide) rfl (c_X8_isProcess l hl9 D ca base ad σ k ) rfl rfl rfl ⟨Nat.le_of_ble_eq_true rfl, Nat.le_of_ble_eq_true rfl⟩ (Nat.le_of_ble_eq_true rfl) dX8_about_3 ⟨Nat.le_of_ble_eq_true rfl, Nat.le_of_ble_eq_true rfl⟩ (fun H locs hW hS => ?_)
  refine lv_if_ne (tgt := 13) hx hb dX8_about_6 (by decide) (fun c_1 => ?_) (fun c_1 => ?_)
  · refine lv_iload_n hx hb dX8_about_13 rfl (lv_at hl 2 rfl) ?_
    refine lv_iconst (v := 0) hx hb dX8_about_14 (by decide) ?_
    refine lv_bipush (v := 6) hx hb dX8_about_15 (by decide) ?_
    refine w_callS (As := [.int v, .int 0, .int 6]) (rest := .ref (ad 8 0) :: []) (st2 := .int (f_X8_within v 0 6) :: .ref (ad 8 0) :: []) hC hW hS hl cs_X8_129 (c_X8_within l hl9 D ca base ad σ v 0 6 ) rfl rfl rfl ⟨Nat.le_of_ble_eq_true rfl, Nat.le_of_ble_eq_true rfl⟩ (Nat.le_of_ble_eq_true rfl) dX8_about_17 ⟨Nat.le_of_ble_eq_true rfl, Nat.le_of_ble_eq_true rfl⟩ (fun H locs hW hS => ?_)
    refine lv_if_ne (tgt := 27) hx hb dX8_about_20 (by decide) (fun c_2 => ?_) (fun c_2 => ?_)
    · refine lv_iconst (v := 0) hx hb dX8_about_27 (by decide) ?_
      refine w_callV (As := [.int 0]) (rest := []) (st2 := .int (f_X8_rf 0) :: []) hC hW hS hl cv_X8_154 m_8 (by decide) rfl (c_X8_refused l hl9 D ca base ad σ 0 ) rfl rfl rfl ⟨Nat.le_of_ble_eq_true rfl, Nat.le_of_ble_eq_true rfl⟩ (Nat.le_of_ble_eq_true rfl) dX8_about_28 ⟨Nat.le_of_ble_eq_true rfl, Nat.le_of_ble_eq_true rfl⟩ (fun H locs hW hS => ?_)
      refine lv_eqi (y := 0) (by decide) ?_
      refine lv_if_eq (tgt := 36) hx hb dX8_about_31 (by decide) (fun _ => ?_) (fun c => absurd (by decide) c)
      refine lv_iload_n hx hb dX8_about_36 rfl (lv_at hl 2 rfl) ?_
      refine lv_iconst (v := 4) hx hb dX8_about_37 (by decide) ?_
      refine lv_icmp_ge (tgt := 89) hx hb dX8_about_38 (by decide) (fun c_3 => ?_) (fun c_3 => ?_)
      · refine lv_iload_n hx hb dX8_about_89 rfl (lv_at hl 2 rfl) ?_
        refine lv_iconst (v := 4) hx hb dX8_about_90 (by decide) ?_
        refine lv_icmp_ne (tgt := 103) hx hb dX8_about_91 (by decide) (fun c_4 => ?_) (fun c_4 => ?_)
        · refine lv_iload_n hx hb dX8_about_103 rfl (lv_at hl 2 rfl) ?_
          refine lv_iconst (v := 5) hx hb dX8_about_104 (by decide) ?_
          refine lv_icmp_ne (tgt := 117) hx hb dX8_about_105 (by decide) (fun c_5 => ?_) (fun c_5 => ?_)
          · refine lv_aload_n hx hb dX8_about_117 rfl (lv_at hl 0 rfl) ?_
            refine gf_X8_80 hC hW m_8 rfl dX8_about_118 ?_
            refine lv_iload_n hx hb dX8_about_121 rfl (lv_at hl 1 rfl) ?_
            refine w_iald hC hW m_56 (n := 8) rfl (by first | assumption | exact ip_in hM (by assumption) | exact vp_in_c (y := 8) (by decide) (by decide) (by assumption) (by assumption) | (exfalso; contradiction)) dX8_about_122 ?_
            refine lv_eqi (y := σ 56 0 k.toNatClampNeg) (by rw [us_k (by decide)]) ?_
            have hO : f_X8_about k v σ = (σ 56 0 k.toNatClampNeg, us σ 8 0 0 0) := by rw [f_X8_about, if_neg c_1, if_neg c_2, if_pos c_3, if_neg c_4, if_neg c_5]
            exact w_iretS hC hW hS hO (Nat.le_of_ble_eq_true rfl) (Nat.le_of_ble_eq_true rfl) dX8_about_123
          · refine lv_aload_n hx hb dX8_about_108 rfl (lv_at hl 0 rfl) ?_
            refine gf_X8_74 hC hW m_8 rfl dX8_about_109 ?_
            refine lv_iload_n hx hb dX8_about_112 rfl (lv_at hl 1 rfl) ?_
            refine w_iald hC hW m_54 (n := 8) rfl (by first | assumption | exact ip_in hM (by assumption) | exact vp_in_c (y := 8) (by decide) (by decide) (by assumption) (by assumption) | (exfalso; contradiction)) dX8_about_113 ?_
            refine lv_eqi (y := σ 54 0 k.toNatClampNeg) (by rw [us_k (by decide)]) ?_
            refine lv_goto (tgt := 123) hx hb dX8_about_114 (by decide) ?_
            have hO : f_X8_about k v σ = (σ 54 0 k.toNatClampNeg, us σ 8 0 0 0) := by rw [f_X8_about, if_neg c_1, if_neg c_2, if_pos c_3, if_neg c_4, if_pos c_5]
            exact w_iretS hC hW hS hO (Nat.le_of_ble_eq_true rfl) (Nat.le_of_ble_eq_true rfl) dX8_about_123
        · refine lv_aload_n hx hb dX8_about_94 rfl (lv_at hl 0 rfl) ?_
          refine gf_X8_71 hC hW m_8 rfl dX8_about_95 ?_
          refine lv_iload_n hx hb dX8_about_98 rfl (lv_at hl 1 rfl) ?_
          refine w_iald hC hW m_53 (n := 8) rfl (by first | assumption | exact ip_in hM (by assumption) | exact vp_in_c (y := 8) (by decide) (by decide) (by assumption) (by assumption) | (exfalso; contradiction)) dX8_about_99 ?_
          refine lv_eqi (y := σ 53 0 k.toNatClampNeg) (by rw [us_k (by decide)]) ?_
          refine lv_goto (tgt := 123) hx hb dX8_about_100 (by decide) ?_
          have hO : f_X8_about k v σ = (σ 53 0 k.toNatClampNeg, us σ 8 0 0 0) := by rw [f_X8_about, if_neg c_1, if_neg c_2, if_pos c_3, if_pos c_4]
          exact w_iretS hC hW hS hO (Nat.le_of_ble_eq_true rfl) (Nat.le_of_ble_eq_true rfl) dX8_about_123
      · refine lv_iload_n hx hb dX8_about_41 rfl (lv_at hl 2 rfl) ?_
        refine lv_if_ne (tgt := 54) hx hb dX8_about_42 (by decide) (fun c_6 => ?_) (fun c_6 => ?_)
        · refine lv_iload_n hx hb dX8_about_54 rfl (lv_at hl 2 rfl) ?_
          refine lv_iconst (v := 1) hx hb dX8_about_55 (by decide) ?_
          refine lv_icmp_ne (tgt := 68) hx hb dX8_about_56 (by decide) (fun c_7 => ?_) (fun c_7 => ?_)
          · refine lv_iload_n hx hb dX8_about_68 rfl (lv_at hl 2 rfl) ?_
            refine lv_iconst (v := 2) hx hb dX8_about_69 (by decide) ?_
            refine lv_icmp_ne (tgt := 82) hx hb dX8_about_70 (by decide) (fun c_8 => ?_) (fun c_8 => ?_)
            · refine lv_aload_n hx hb dX8_about_82 rfl (lv_at hl 0 rfl) ?_
              refine gf_X8_68 hC hW m_8 rfl dX8_about_83 ?_
              refine lv_iload_n hx hb dX8_about_86 rfl (lv_at hl 1 rfl) ?_
              refine w_iald hC hW m_52 (n := 8) rfl (by first | assumption | exact ip_in hM (by assumption) | exact vp_in_c (y := 8) (by decide) (by decide) (by assumption) (by assumption) | (exfalso; contradiction)) dX8_about_87 ?_
              refine lv_eqi (y := σ 52 0 k.toNatClampNeg) (by rw [us_k (by decide)]) ?_
              have hO : f_X8_about k v σ = (σ 52 0 k.toNatClampNeg, us σ 8 0 0 0) := by rw [f_X8_about, if_neg c_1, if_neg c_2, if_neg c_3, if_neg c_6, if_neg c_7, if_neg c_8]
              exact w_iretS hC hW hS hO (Nat.le_of_ble_eq_true rfl) (Nat.le_of_ble_eq_true rfl) dX8_about_88
            · refine lv_aload_n hx hb dX8_about_73 rfl (lv_at hl 0 rfl) ?_
              refine gf_X8_65 hC hW m_8 rfl dX8_about_74 ?_
              refine lv_iload_n hx hb dX8_about_77 rfl (lv_at hl 1 rfl) ?_
              refine w_iald hC hW m_51 (n := 8) rfl (by first | assumption | exact ip_in hM (by assumption) | exact vp_in_c (y := 8) (by decide) (by decide) (by assumption) (by assumption) | (exfalso; contradiction)) dX8_about_78 ?_
              refine lv_eqi (y := σ 51 0 k.toNatClampNeg) (by rw [us_k (by decide)]) ?_
              refine lv_goto (tgt := 88) hx hb dX8_about_79 (by decide) ?_
              have hO : f_X8_about k v σ = (σ 51 0 k.toNatClampNeg, us σ 8 0 0 0) := by rw [f_X8_about, if_neg c_1, if_neg c_2, if_neg c_3, if_neg c_6, if_neg c_7, if_pos c_8]
              exact w_iretS hC hW hS hO (Nat.le_of_ble_eq_true rfl) (Nat.le_of_ble_eq_true rfl) dX8_about_88
          · refine lv_aload_n hx hb dX8_about_59 rfl (lv_at hl 0 rfl) ?_
            refine gf_X8_62 hC hW m_8 rfl dX8_about_60 ?_
            refine lv_iload_n hx hb dX8_about_63 rfl (lv_at hl 1 rfl) ?_
            refine w_iald hC hW m_50 (n := 8) rfl (by first | assumption | exact ip_in hM (by assumption) | exact vp_in_c (y := 8) (by decide) (by decide) (by assumption) (by assumption) | (exfalso; contradiction)) dX8_about_64 ?_
            refine lv_eqi (y := σ 50 0 k.toNatClampNeg) (by rw [us_k (by decide)]) ?_
            refine lv_goto (tgt := 88) hx hb dX8_about_65 (by decide) ?_
            have hO : f_X8_about k v σ = (σ 50 0 k.toNatClampNeg, us σ 8 0 0 0) := by rw [f_X8_about, if_neg c_1, if_neg c_2, if_neg c_3, if_neg c_6, if_pos c_7]
            exact w_iretS hC hW hS hO (Nat.le_of_ble_eq_true rfl) (Nat.le_of_ble_eq_true rfl) dX8_about_88
        · refine lv_aload_n hx hb dX8_about_45 rfl (lv_at hl 0 rfl) ?_
          refine gf_X8_59 hC hW m_8 rfl dX8_about_46 ?_
          refine lv_iload_n hx hb dX8_about_49 rfl (lv_at hl 1 rfl) ?_
          refine w_iald hC hW m_49 (n := 8) rfl (by first | assumption | exact ip_in hM (by assumption) | exact vp_in_c (y := 8) (by decide) (by decide) (by assumption) (by assumption) | (exfalso; contradiction)) dX8_about_50 ?_
          refine lv_eqi (y := σ 49 0 k.toNatClampNeg) (by rw [us_k (by decide)]) ?_
          refine lv_goto (tgt := 88) hx hb dX8_about_51 (by decide) ?_
          have hO : f_X8_about k v σ = (σ 49 0 k.toNatClampNeg, us σ 8 0 0 0) := by rw [f_X8_about, if_neg c_1, if_neg c_2, if_neg c_3, if_pos c_6]
          exact w_iretS hC hW hS hO (Nat.le_of_ble_eq_true rfl) (Nat.le_of_ble_eq_true rfl) dX8_about_88
    · refine lv_iconst (v := 2) hx hb dX8_about_23 (by decide) ?_
      refine lv_goto (tgt := 28) hx hb dX8_about_24 (by decide) ?_
      refine w_callV (As := [.int 2]) (rest := []) (st2 := .int (f_X8_rf 2) :: []) hC hW hS hl cv_X8_154 m_8 (by decide) rfl (c_X8_refused l hl9 D ca base ad σ 2 ) rfl rfl rfl ⟨Nat.le_of_ble_eq_true rfl, Nat.le_of_ble_eq_true rfl⟩ (Nat.le_of_ble_eq_true rfl) dX8_about_28 ⟨Nat.le_of_ble_eq_true rfl, Nat.le_of_ble_eq_true rfl⟩ (fun H locs hW hS => ?_)
      refine lv_eqi (y := 1) (by decide) ?_
      refine lv_if_eq (tgt := 36) hx hb dX8_about_31 (by decide) (fun c => absurd c (by decide)) (fun _ => ?_)
      refine lv_iconst (v := 0) hx hb dX8_about_34 (by decide) ?_
      have hO : f_X8_about k v σ = (0, us σ 8 0 0 2) := by rw [f_X8_about, if_neg c_1, if_pos c_2]
      exact w_iretS hC hW hS hO (Nat.le_of_ble_eq_true rfl) (Nat.le_of_ble_eq_true rfl) dX8_about_35
  · refine lv_iconst (v := 1) hx hb dX8_about_9 (by decide) ?_
    refine lv_goto (tgt := 28) hx hb dX8_about_10 (by decide) ?_
    refine w_callV (As := [.int 1]) (rest := []) (st2 := .int (f_X8_rf 1) :: []) hC hW hS hl cv_X8_154 m_8 (by decide) rfl (c_X8_refused l hl9 D ca base ad σ 1 ) rfl rfl rfl ⟨Nat.le_of_ble_eq_true rfl, Nat.le_of_ble_eq_true rfl⟩ (Nat.le_of_ble_eq_true rfl) dX8_about_28 ⟨Nat.le_of_ble_eq_true rfl, Nat.le_of_ble_eq_true rfl⟩ (fun H locs hW hS => ?_)
    refine lv_eqi (y := 1) (by decide) ?_
    refine lv_if_eq (tgt := 36) hx hb dX8_about_31 (by decide) (fun c => absurd c (by decide)) (fun _ => ?_)
    refine lv_iconst (v := 0) hx hb dX8_about_34 (by decide) ?_
    have hO : f_X8_about k v σ = (0, us σ 8 0 0 1) := by rw [f_X8_about, if_pos c_1]
    exact w_iretS hC hW hS hO (Nat.le_of_ble_eq_true rfl) (Nat.le_of_ble_eq_true rfl) dX8_about_35
theorem fr_X8_about {kk : Nat}  {k : Int32} {v : Int32} {σ : Sg} (h8 : kk ≠ 8) : (f_X8_about k v σ).2 kk = σ kk := by
  rw [f_X8_about]
  repeat' split
  all_goals (first | (simp only [us_kk, ne_eq, not_false_eq_true, h8]; done) | with_reducible rfl | (simp only [us_kk, ne_eq, not_false_eq_true, h8]; with_reducible rfl))
theorem fs_X8_about {jj : Nat}  {k : Int32} {v : Int32} {σ : Sg} (h0 : jj ≠ 0) : (f_X8_about k v σ).2 8 0 jj = σ 8 0 jj := by
  rw [f_X8_about]
  repeat' split
  all_goals (first | with_reducible rfl | (simp [us_k, us_j, ne_eq, not_false_eq_true, h0]; done))

def f_X8_verdict (k : Int32) (t : Int32) (r : Int32) (σ : Sg) : Int32 × Sg :=
  if (f_X8_rf (f_X8_whyNoVerdict k t r σ)) = 0 then (f_X8_verdictNow k t r (us σ 8 0 0 (f_X8_whyNoVerdict k t r σ)), us σ 8 0 0 (f_X8_whyNoVerdict k t r σ))
  else (0, us σ 8 0 0 (f_X8_whyNoVerdict k t r σ))
set_option maxHeartbeats 4000000 in
set_option maxRecDepth 100000 in
theorem c_X8_verdict (l : Launch) (hl9 : l.stackTraces = false) (D : va_G) (ca : Nat → ClassId) (base : Nat) (ad : Adr) (σ : Sg) (k : Int32) (t : Int32) (r : Int32) (hM : MInv σ) : Mt l yX8_verdict cX8_verdict 4 (some .int) { frames := 7, cells := 0, slots := 0, locals := 172 } D ca base ad ρm Lm [.ref (ad 8 0), .int k, .int t, .int r] σ (some (.int (f_X8_verdict k t r σ).1)) (f_X8_verdict k t r σ).2 := by
  refine w_ofW (by decide) (Nat.le_of_ble_eq_true rfl) rfl ?_
  intro p e s m args below meth c hC hW hS ls hl hin
  have hx := hC.1
  have hb := hC.2.1
  refine lv_aload_n hx hb dX8_verdict_0 rfl (lv_at hl 0 rfl) ?_
  refine lv_aload_n hx hb dX8_verdict_1 rfl (lv_at hl 0 rfl) ?_
  refine lv_iload_n hx hb dX8_verdict_2 rfl (lv_at hl 1 rfl) ?_
  refine lv_iload_n hx hb dX8_verdict_3 rfl (lv_at hl 2 rfl) ?_
  refine lv_iload_n hx hb dX8_verdict_4 rfl (lv_at hl 3 rfl) ?_
  refine w_callV (As := [.int k, .int t, .int r]) (rest := .ref (ad 8 0) :: []) (st2 := .int (f_X8_whyNoVerdict k t r σ) :: .ref (ad 8 0) :: []) hC hW hS hl cv_X8_197 m_8 (by decide) rfl (c_X8_whyNoVerdict l hl9 D ca base ad σ k t r ) rfl rfl rfl ⟨Nat.le_of_ble_eq_true rfl, Nat.le_of_ble_eq_true rfl⟩ (Nat.le_of_ble_eq_true rfl) dX8_verdict_5 ⟨Nat.le_of_ble_eq_true rfl, Nat.le_of_ble_eq_true rfl⟩ (fun H locs hW hS => ?_)
  refine w_callV (As := [.int (f_X8_whyNoVerdict k t r σ)]) (rest := []) (st2 := .int (f_X8_rf (f_X8_whyNoVerdict k t r σ)) :: []) hC hW hS hl cv_X8_154 m_8 (by decide) rfl (c_X8_refused l hl9 D ca base ad σ (f_X8_whyNoVerdict k t r σ) ) rfl rfl rfl ⟨Nat.le_of_ble_eq_true rfl, Nat.le_of_ble_eq_true rfl⟩ (Nat.le_of_ble_eq_true rfl) dX8_verdict_8 ⟨Nat.le_of_ble_eq_true rfl, Nat.le_of_ble_eq_true rfl⟩ (fun H locs hW hS => ?_)
  refine lv_if_eq (tgt := 18) hx hb dX8_verdict_11 (by decide) (fun c_1 => ?_) (fun c_1 => ?_)
  · have hw := wv_ok (rf0 c_1)
    have ht := it_in hM hw.2.1
    have hk := ip_in hM hw.1
    refine lv_aload_n hx hb dX8_verdict_18 rfl (lv_at hl 0 rfl) ?_
    refine lv_iload_n hx hb dX8_verdict_19 rfl (lv_at hl 1 rfl) ?_
    refine lv_iload_n hx hb dX8_verdict_20 rfl (lv_at hl 2 rfl) ?_
    refine lv_iload_n hx hb dX8_verdict_21 rfl (lv_at hl 3 rfl) ?_
    refine w_callV (As := [.int k, .int t, .int r]) (rest := []) (st2 := .int (f_X8_verdictNow k t r (us σ 8 0 0 (f_X8_whyNoVerdict k t r σ))) :: []) hC hW hS hl cv_X8_200 m_8 (by decide) rfl (c_X8_verdictNow l hl9 D ca base ad (us σ 8 0 0 (f_X8_whyNoVerdict k t r σ)) k t r (mi_of hM (by rw [us_j (by decide)]) (by rw [us_j (by decide)]) (by rw [us_j (by decide)]) (by rw [us_j (by decide)]) (by rw [us_kk (by decide)]) (by rw [us_kk (by decide)]) (by rw [us_kk (by decide)]) (by rw [us_kk (by decide)]) (by rw [us_kk (by decide)]) (by rw [us_kk (by decide)]) (by rw [us_kk (by decide)]) (by rw [us_kk (by decide)]) (by rw [us_kk (by decide)]) (by rw [us_kk (by decide)]) (by rw [us_kk (by decide)]) (by rw [us_kk (by decide)])) (by first | assumption | exact it_in hM (by assumption)) (by first | assumption | exact ip_in hM (by assumption))) rfl rfl rfl ⟨Nat.le_of_ble_eq_true rfl, Nat.le_of_ble_eq_true rfl⟩ (Nat.le_of_ble_eq_true rfl) dX8_verdict_22 ⟨Nat.le_of_ble_eq_true rfl, Nat.le_of_ble_eq_true rfl⟩ (fun H locs hW hS => ?_)
    have hO : f_X8_verdict k t r σ = (f_X8_verdictNow k t r (us σ 8 0 0 (f_X8_whyNoVerdict k t r σ)), us σ 8 0 0 (f_X8_whyNoVerdict k t r σ)) := by rw [f_X8_verdict, if_pos c_1]
    exact w_iretS hC hW hS hO (Nat.le_of_ble_eq_true rfl) (Nat.le_of_ble_eq_true rfl) dX8_verdict_25
  · refine lv_iconst (v := 0) hx hb dX8_verdict_14 (by decide) ?_
    refine lv_goto (tgt := 25) hx hb dX8_verdict_15 (by decide) ?_
    have hO : f_X8_verdict k t r σ = (0, us σ 8 0 0 (f_X8_whyNoVerdict k t r σ)) := by rw [f_X8_verdict, if_neg c_1]
    exact w_iretS hC hW hS hO (Nat.le_of_ble_eq_true rfl) (Nat.le_of_ble_eq_true rfl) dX8_verdict_25
theorem fr_X8_verdict {kk : Nat}  {k : Int32} {t : Int32} {r : Int32} {σ : Sg} (h8 : kk ≠ 8) : (f_X8_verdict k t r σ).2 kk = σ kk := by
  rw [f_X8_verdict]
  repeat' split
  all_goals (first | (simp only [us_kk, ne_eq, not_false_eq_true, h8]; done) | with_reducible rfl | (simp only [us_kk, ne_eq, not_false_eq_true, h8]; with_reducible rfl))
theorem fs_X8_verdict {jj : Nat}  {k : Int32} {t : Int32} {r : Int32} {σ : Sg} (h0 : jj ≠ 0) : (f_X8_verdict k t r σ).2 8 0 jj = σ 8 0 jj := by
  rw [f_X8_verdict]
  repeat' split
  all_goals (first | with_reducible rfl | (simp [us_k, us_j, ne_eq, not_false_eq_true, h0]; done))

def f_X8_verdictAnew (k : Int32) (t : Int32) (r : Int32) (σ : Sg) : Int32 × Sg :=
  ((f_X8_verdict k t r σ).1, (f_X8_verdict k t r σ).2)
set_option maxHeartbeats 4000000 in
set_option maxRecDepth 100000 in
theorem c_X8_verdictAnew (l : Launch) (hl9 : l.stackTraces = false) (D : va_G) (ca : Nat → ClassId) (base : Nat) (ad : Adr) (σ : Sg) (k : Int32) (t : Int32) (r : Int32) (hM : MInv σ) : Mt l yX8_verdictAnew cX8_verdictAnew 4 (some .int) { frames := 8, cells := 0, slots := 0, locals := 195 } D ca base ad ρm Lm [.ref (ad 8 0), .int k, .int t, .int r] σ (some (.int (f_X8_verdictAnew k t r σ).1)) (f_X8_verdictAnew k t r σ).2 := by
  refine w_ofW (by decide) (Nat.le_of_ble_eq_true rfl) rfl ?_
  intro p e s m args below meth c hC hW hS ls hl hin
  have hx := hC.1
  have hb := hC.2.1
  refine lv_aload_n hx hb dX8_verdictAnew_0 rfl (lv_at hl 0 rfl) ?_
  refine lv_iload_n hx hb dX8_verdictAnew_1 rfl (lv_at hl 1 rfl) ?_
  refine lv_iload_n hx hb dX8_verdictAnew_2 rfl (lv_at hl 2 rfl) ?_
  refine lv_iload_n hx hb dX8_verdictAnew_3 rfl (lv_at hl 3 rfl) ?_
  refine w_callV (As := [.int k, .int t, .int r]) (rest := []) (st2 := .int ((f_X8_verdict k t r σ).1) :: []) hC hW hS hl cv_X8_203 m_8 (by decide) rfl (c_X8_verdict l hl9 D ca base ad σ k t r hM) rfl rfl rfl ⟨Nat.le_of_ble_eq_true rfl, Nat.le_of_ble_eq_true rfl⟩ (Nat.le_of_ble_eq_true rfl) dX8_verdictAnew_4 ⟨Nat.le_of_ble_eq_true rfl, Nat.le_of_ble_eq_true rfl⟩ (fun H locs hW hS => ?_)
  have hO : f_X8_verdictAnew k t r σ = ((f_X8_verdict k t r σ).1, (f_X8_verdict k t r σ).2) := by rw [f_X8_verdictAnew]
  exact w_iretS hC hW hS hO (Nat.le_of_ble_eq_true rfl) (Nat.le_of_ble_eq_true rfl) dX8_verdictAnew_7
theorem fr_X8_verdictAnew {kk : Nat}  {k : Int32} {t : Int32} {r : Int32} {σ : Sg} (h8 : kk ≠ 8) : (f_X8_verdictAnew k t r σ).2 kk = σ kk := by
  rw [f_X8_verdictAnew]
  repeat' split
  all_goals (first | (simp only [us_kk, ne_eq, not_false_eq_true, h8, fr_X8_verdict]; done) | with_reducible rfl | (simp only [us_kk, ne_eq, not_false_eq_true, h8, fr_X8_verdict]; with_reducible rfl))
theorem fs_X8_verdictAnew {jj : Nat}  {k : Int32} {t : Int32} {r : Int32} {σ : Sg} (h0 : jj ≠ 0) : (f_X8_verdictAnew k t r σ).2 8 0 jj = σ 8 0 jj := by
  rw [f_X8_verdictAnew]
  repeat' split
  all_goals (first | with_reducible rfl | (simp [us_k, us_j, ne_eq, not_false_eq_true, h0, fs_X8_verdict]; done))

def f_X8_least (u : Int32) (t : Int32) (r : Int32) (σ : Sg) : Int32 × Sg :=
  if (f_X8_isSix u) = 0 then (0, us σ 8 0 0 1)
  else if (f_X8_isThing t σ) = 0 then (0, us σ 8 0 0 1)
  else if (f_X8_isRight r) = 0 then (0, us σ 8 0 0 2)
  else (f_X8_leastOf u t r (us σ 8 0 0 0), us σ 8 0 0 0)
set_option maxHeartbeats 4000000 in
set_option maxRecDepth 100000 in
theorem c_X8_least (l : Launch) (hl9 : l.stackTraces = false) (D : va_G) (ca : Nat → ClassId) (base : Nat) (ad : Adr) (σ : Sg) (u : Int32) (t : Int32) (r : Int32) (hM : MInv σ) : Mt l yX8_least cX8_least 5 (some .int) { frames := 5, cells := 0, slots := 0, locals := 120 } D ca base ad ρm Lm [.ref (ad 8 0), .int u, .int t, .int r] σ (some (.int (f_X8_least u t r σ).1)) (f_X8_least u t r σ).2 := by
  refine w_ofW (by decide) (Nat.le_of_ble_eq_true rfl) rfl ?_
  intro p e s m args below meth c hC hW hS ls hl hin
  have hx := hC.1
  have hb := hC.2.1
  refine lv_iload_n hx hb dX8_least_0 rfl (lv_at hl 1 rfl) ?_
  refine w_callS (As := [.int u]) (rest := []) (st2 := .int (f_X8_isSix u) :: []) hC hW hS hl cs_X8_150 (c_X8_isSix l hl9 D ca base ad σ u ) rfl rfl rfl ⟨Nat.le_of_ble_eq_true rfl, Nat.le_of_ble_eq_true rfl⟩ (Nat.le_of_ble_eq_true rfl) dX8_least_1 ⟨Nat.le_of_ble_eq_true rfl, Nat.le_of_ble_eq_true rfl⟩ (fun H locs hW hS => ?_)
  refine lv_if_eq (tgt := 19) hx hb dX8_least_4 (by decide) (fun c_1 => ?_) (fun c_1 => ?_)
  · refine lv_iconst (v := 0) hx hb dX8_least_19 (by decide) ?_
    refine lv_istore (lv' := [(4, .int 0), (0, .ref (ad 8 0)), (1, .int u), (2, .int t), (3, .int r)]) hx hb dX8_least_20 hl (by decide) rfl (fun ls hl => ?_)
    refine lv_aload_n hx hb dX8_least_22 rfl (lv_at hl 1 rfl) ?_
    refine lv_iload hx hb dX8_least_23 (lv_at hl 0 rfl) ?_
    refine lv_if_ne (tgt := 32) hx hb dX8_least_25 (by decide) (fun c => absurd (by decide) c) (fun _ => ?_)
    refine lv_iconst (v := 1) hx hb dX8_least_28 (by decide) ?_
    refine lv_goto (tgt := 44) hx hb dX8_least_29 (by decide) ?_
    refine w_callV (As := [.int 1]) (rest := []) (st2 := .int (f_X8_rf 1) :: []) hC hW hS hl cv_X8_154 m_8 (by decide) rfl (c_X8_refused l hl9 D ca base ad σ 1 ) rfl rfl rfl ⟨Nat.le_of_ble_eq_true rfl, Nat.le_of_ble_eq_true rfl⟩ (Nat.le_of_ble_eq_true rfl) dX8_least_44 ⟨Nat.le_of_ble_eq_true rfl, Nat.le_of_ble_eq_true rfl⟩ (fun H locs hW hS => ?_)
    refine lv_eqi (y := 1) (by decide) ?_
    refine lv_if_eq (tgt := 54) hx hb dX8_least_47 (by decide) (fun c => absurd c (by decide)) (fun _ => ?_)
    refine lv_iconst (v := 0) hx hb dX8_least_50 (by decide) ?_
    refine lv_goto (tgt := 61) hx hb dX8_least_51 (by decide) ?_
    have hO : f_X8_least u t r σ = (0, us σ 8 0 0 1) := by rw [f_X8_least, if_pos c_1]
    exact w_iretS hC hW hS hO (Nat.le_of_ble_eq_true rfl) (Nat.le_of_ble_eq_true rfl) dX8_least_61
  · refine lv_aload_n hx hb dX8_least_7 rfl (lv_at hl 0 rfl) ?_
    refine lv_iload_n hx hb dX8_least_8 rfl (lv_at hl 2 rfl) ?_
    refine w_callV (As := [.int t]) (rest := []) (st2 := .int (f_X8_isThing t σ) :: []) hC hW hS hl cv_X8_159 m_8 (by decide) rfl (c_X8_isThing l hl9 D ca base ad σ t ) rfl rfl rfl ⟨Nat.le_of_ble_eq_true rfl, Nat.le_of_ble_eq_true rfl⟩ (Nat.le_of_ble_eq_true rfl) dX8_least_9 ⟨Nat.le_of_ble_eq_true rfl, Nat.le_of_ble_eq_true rfl⟩ (fun H locs hW hS => ?_)
    refine lv_if_eq (tgt := 19) hx hb dX8_least_12 (by decide) (fun c_2 => ?_) (fun c_2 => ?_)
    · refine lv_iconst (v := 0) hx hb dX8_least_19 (by decide) ?_
      refine lv_istore (lv' := [(4, .int 0), (0, .ref (ad 8 0)), (1, .int u), (2, .int t), (3, .int r)]) hx hb dX8_least_20 hl (by decide) rfl (fun ls hl => ?_)
      refine lv_aload_n hx hb dX8_least_22 rfl (lv_at hl 1 rfl) ?_
      refine lv_iload hx hb dX8_least_23 (lv_at hl 0 rfl) ?_
      refine lv_if_ne (tgt := 32) hx hb dX8_least_25 (by decide) (fun c => absurd (by decide) c) (fun _ => ?_)
      refine lv_iconst (v := 1) hx hb dX8_least_28 (by decide) ?_
      refine lv_goto (tgt := 44) hx hb dX8_least_29 (by decide) ?_
      refine w_callV (As := [.int 1]) (rest := []) (st2 := .int (f_X8_rf 1) :: []) hC hW hS hl cv_X8_154 m_8 (by decide) rfl (c_X8_refused l hl9 D ca base ad σ 1 ) rfl rfl rfl ⟨Nat.le_of_ble_eq_true rfl, Nat.le_of_ble_eq_true rfl⟩ (Nat.le_of_ble_eq_true rfl) dX8_least_44 ⟨Nat.le_of_ble_eq_true rfl, Nat.le_of_ble_eq_true rfl⟩ (fun H locs hW hS => ?_)
      refine lv_eqi (y := 1) (by decide) ?_
      refine lv_if_eq (tgt := 54) hx hb dX8_least_47 (by decide) (fun c => absurd c (by decide)) (fun _ => ?_)
      refine lv_iconst (v := 0) hx hb dX8_least_50 (by decide) ?_
      refine lv_goto (tgt := 61) hx hb dX8_least_51 (by decide) ?_
      have hO : f_X8_least u t r σ = (0, us σ 8 0 0 1) := by rw [f_X8_least, if_neg c_1, if_pos c_2]
      exact w_iretS hC hW hS hO (Nat.le_of_ble_eq_true rfl) (Nat.le_of_ble_eq_true rfl) dX8_least_61
    · refine lv_iconst (v := 1) hx hb dX8_least_15 (by decide) ?_
      refine lv_goto (tgt := 20) hx hb dX8_least_16 (by decide) ?_
      refine lv_istore (lv' := [(4, .int 1), (0, .ref (ad 8 0)), (1, .int u), (2, .int t), (3, .int r)]) hx hb dX8_least_20 hl (by decide) rfl (fun ls hl => ?_)
      refine lv_aload_n hx hb dX8_least_22 rfl (lv_at hl 1 rfl) ?_
      refine lv_iload hx hb dX8_least_23 (lv_at hl 0 rfl) ?_
      refine lv_if_ne (tgt := 32) hx hb dX8_least_25 (by decide) (fun _ => ?_) (fun c => absurd c (by decide))
      refine lv_iload_n hx hb dX8_least_32 rfl (lv_at hl 4 rfl) ?_
      refine w_callS (As := [.int r]) (rest := .ref (ad 8 0) :: []) (st2 := .int (f_X8_isRight r) :: .ref (ad 8 0) :: []) hC hW hS hl cs_X8_194 (c_X8_isRight l hl9 D ca base ad σ r ) rfl rfl rfl ⟨Nat.le_of_ble_eq_true rfl, Nat.le_of_ble_eq_true rfl⟩ (Nat.le_of_ble_eq_true rfl) dX8_least_33 ⟨Nat.le_of_ble_eq_true rfl, Nat.le_of_ble_eq_true rfl⟩ (fun H locs hW hS => ?_)
      refine lv_if_ne (tgt := 43) hx hb dX8_least_36 (by decide) (fun c_3 => ?_) (fun c_3 => ?_)
      · refine lv_iconst (v := 0) hx hb dX8_least_43 (by decide) ?_
        refine w_callV (As := [.int 0]) (rest := []) (st2 := .int (f_X8_rf 0) :: []) hC hW hS hl cv_X8_154 m_8 (by decide) rfl (c_X8_refused l hl9 D ca base ad σ 0 ) rfl rfl rfl ⟨Nat.le_of_ble_eq_true rfl, Nat.le_of_ble_eq_true rfl⟩ (Nat.le_of_ble_eq_true rfl) dX8_least_44 ⟨Nat.le_of_ble_eq_true rfl, Nat.le_of_ble_eq_true rfl⟩ (fun H locs hW hS => ?_)
        refine lv_eqi (y := 0) (by decide) ?_
        refine lv_if_eq (tgt := 54) hx hb dX8_least_47 (by decide) (fun _ => ?_) (fun c => absurd (by decide) c)
        refine lv_aload_n hx hb dX8_least_54 rfl (lv_at hl 1 rfl) ?_
        refine lv_iload_n hx hb dX8_least_55 rfl (lv_at hl 2 rfl) ?_
        refine lv_iload_n hx hb dX8_least_56 rfl (lv_at hl 3 rfl) ?_
        refine lv_iload_n hx hb dX8_least_57 rfl (lv_at hl 4 rfl) ?_
        refine w_callV (As := [.int u, .int t, .int r]) (rest := []) (st2 := .int (f_X8_leastOf u t r (us σ 8 0 0 0)) :: []) hC hW hS hl cv_X8_187 m_8 (by decide) rfl (c_X8_leastOf l hl9 D ca base ad (us σ 8 0 0 0) u t r (mi_of hM (by rw [us_j (by decide)]) (by rw [us_j (by decide)]) (by rw [us_j (by decide)]) (by rw [us_j (by decide)]) (by rw [us_kk (by decide)]) (by rw [us_kk (by decide)]) (by rw [us_kk (by decide)]) (by rw [us_kk (by decide)]) (by rw [us_kk (by decide)]) (by rw [us_kk (by decide)]) (by rw [us_kk (by decide)]) (by rw [us_kk (by decide)]) (by rw [us_kk (by decide)]) (by rw [us_kk (by decide)]) (by rw [us_kk (by decide)]) (by rw [us_kk (by decide)])) (by first | assumption | exact it_in hM (by assumption))) rfl rfl rfl ⟨Nat.le_of_ble_eq_true rfl, Nat.le_of_ble_eq_true rfl⟩ (Nat.le_of_ble_eq_true rfl) dX8_least_58 ⟨Nat.le_of_ble_eq_true rfl, Nat.le_of_ble_eq_true rfl⟩ (fun H locs hW hS => ?_)
        have hO : f_X8_least u t r σ = (f_X8_leastOf u t r (us σ 8 0 0 0), us σ 8 0 0 0) := by rw [f_X8_least, if_neg c_1, if_neg c_2, if_neg c_3]
        exact w_iretS hC hW hS hO (Nat.le_of_ble_eq_true rfl) (Nat.le_of_ble_eq_true rfl) dX8_least_61
      · refine lv_iconst (v := 2) hx hb dX8_least_39 (by decide) ?_
        refine lv_goto (tgt := 44) hx hb dX8_least_40 (by decide) ?_
        refine w_callV (As := [.int 2]) (rest := []) (st2 := .int (f_X8_rf 2) :: []) hC hW hS hl cv_X8_154 m_8 (by decide) rfl (c_X8_refused l hl9 D ca base ad σ 2 ) rfl rfl rfl ⟨Nat.le_of_ble_eq_true rfl, Nat.le_of_ble_eq_true rfl⟩ (Nat.le_of_ble_eq_true rfl) dX8_least_44 ⟨Nat.le_of_ble_eq_true rfl, Nat.le_of_ble_eq_true rfl⟩ (fun H locs hW hS => ?_)
        refine lv_eqi (y := 1) (by decide) ?_
        refine lv_if_eq (tgt := 54) hx hb dX8_least_47 (by decide) (fun c => absurd c (by decide)) (fun _ => ?_)
        refine lv_iconst (v := 0) hx hb dX8_least_50 (by decide) ?_
        refine lv_goto (tgt := 61) hx hb dX8_least_51 (by decide) ?_
        have hO : f_X8_least u t r σ = (0, us σ 8 0 0 2) := by rw [f_X8_least, if_neg c_1, if_neg c_2, if_pos c_3]
        exact w_iretS hC hW hS hO (Nat.le_of_ble_eq_true rfl) (Nat.le_of_ble_eq_true rfl) dX8_least_61
theorem fr_X8_least {kk : Nat}  {u : Int32} {t : Int32} {r : Int32} {σ : Sg} (h8 : kk ≠ 8) : (f_X8_least u t r σ).2 kk = σ kk := by
  rw [f_X8_least]
  repeat' split
  all_goals (first | (simp only [us_kk, ne_eq, not_false_eq_true, h8]; done) | with_reducible rfl | (simp only [us_kk, ne_eq, not_false_eq_true, h8]; with_reducible rfl))
theorem fs_X8_least {jj : Nat}  {u : Int32} {t : Int32} {r : Int32} {σ : Sg} (h0 : jj ≠ 0) : (f_X8_least u t r σ).2 8 0 jj = σ 8 0 jj := by
  rw [f_X8_least]
  repeat' split
  all_goals (first | with_reducible rfl | (simp [us_k, us_j, ne_eq, not_false_eq_true, h0]; done))

def f_X8_leastAnew (u : Int32) (t : Int32) (r : Int32) (σ : Sg) : Int32 × Sg :=
  ((f_X8_least u t r σ).1, (f_X8_least u t r σ).2)
set_option maxHeartbeats 4000000 in
set_option maxRecDepth 100000 in
theorem c_X8_leastAnew (l : Launch) (hl9 : l.stackTraces = false) (D : va_G) (ca : Nat → ClassId) (base : Nat) (ad : Adr) (σ : Sg) (u : Int32) (t : Int32) (r : Int32) (hM : MInv σ) : Mt l yX8_leastAnew cX8_leastAnew 4 (some .int) { frames := 6, cells := 0, slots := 0, locals := 144 } D ca base ad ρm Lm [.ref (ad 8 0), .int u, .int t, .int r] σ (some (.int (f_X8_leastAnew u t r σ).1)) (f_X8_leastAnew u t r σ).2 := by
  refine w_ofW (by decide) (Nat.le_of_ble_eq_true rfl) rfl ?_
  intro p e s m args below meth c hC hW hS ls hl hin
  have hx := hC.1
  have hb := hC.2.1
  refine lv_aload_n hx hb dX8_leastAnew_0 rfl (lv_at hl 0 rfl) ?_
  refine lv_iload_n hx hb dX8_leastAnew_1 rfl (lv_at hl 1 rfl) ?_
  refine lv_iload_n hx hb dX8_leastAnew_2 rfl (lv_at hl 2 rfl) ?_
  refine lv_iload_n hx hb dX8_leastAnew_3 rfl (lv_at hl 3 rfl) ?_
  refine w_callV (As := [.int u, .int t, .int r]) (rest := []) (st2 := .int ((f_X8_least u t r σ).1) :: []) hC hW hS hl cv_X8_255 m_8 (by decide) rfl (c_X8_least l hl9 D ca base ad σ u t r hM) rfl rfl rfl ⟨Nat.le_of_ble_eq_true rfl, Nat.le_of_ble_eq_true rfl⟩ (Nat.le_of_ble_eq_true rfl) dX8_leastAnew_4 ⟨Nat.le_of_ble_eq_true rfl, Nat.le_of_ble_eq_true rfl⟩ (fun H locs hW hS => ?_)
  have hO : f_X8_leastAnew u t r σ = ((f_X8_least u t r σ).1, (f_X8_least u t r σ).2) := by rw [f_X8_leastAnew]
  exact w_iretS hC hW hS hO (Nat.le_of_ble_eq_true rfl) (Nat.le_of_ble_eq_true rfl) dX8_leastAnew_7
theorem fr_X8_leastAnew {kk : Nat}  {u : Int32} {t : Int32} {r : Int32} {σ : Sg} (h8 : kk ≠ 8) : (f_X8_leastAnew u t r σ).2 kk = σ kk := by
  rw [f_X8_leastAnew]
  repeat' split
  all_goals (first | (simp only [us_kk, ne_eq, not_false_eq_true, h8, fr_X8_least]; done) | with_reducible rfl | (simp only [us_kk, ne_eq, not_false_eq_true, h8, fr_X8_least]; with_reducible rfl))
theorem fs_X8_leastAnew {jj : Nat}  {u : Int32} {t : Int32} {r : Int32} {σ : Sg} (h0 : jj ≠ 0) : (f_X8_leastAnew u t r σ).2 8 0 jj = σ 8 0 jj := by
  rw [f_X8_leastAnew]
  repeat' split
  all_goals (first | with_reducible rfl | (simp [us_k, us_j, ne_eq, not_false_eq_true, h0, fs_X8_least]; done))

def s_X8_watch (v : Int32) (w : Int32) (σ : Sg) : Sg :=
  if (f_X8_within v 0 7) = 0 then us σ 8 0 0 1
  else if (f_X8_within w 0 7) = 0 then us σ 8 0 0 1
  else us (us (us σ 8 0 0 0) 8 0 38 v) 8 0 39 w
set_option maxHeartbeats 4000000 in
set_option maxRecDepth 100000 in
theorem c_X8_watch (l : Launch) (hl9 : l.stackTraces = false) (D : va_G) (ca : Nat → ClassId) (base : Nat) (ad : Adr) (σ : Sg) (v : Int32) (w : Int32) (hM : MInv σ) : Mt l yX8_watch cX8_watch 3 none { frames := 1, cells := 0, slots := 0, locals := 22 } D ca base ad ρm Lm [.ref (ad 8 0), .int v, .int w] σ none (s_X8_watch v w σ) := by
  refine w_ofW (by decide) (Nat.le_of_ble_eq_true rfl) rfl ?_
  intro p e s m args below meth c hC hW hS ls hl hin
  have hx := hC.1
  have hb := hC.2.1
  refine lv_aload_n hx hb dX8_watch_0 rfl (lv_at hl 0 rfl) ?_
  refine lv_iload_n hx hb dX8_watch_1 rfl (lv_at hl 1 rfl) ?_
  refine lv_iconst (v := 0) hx hb dX8_watch_2 (by decide) ?_
  refine lv_bipush (v := 7) hx hb dX8_watch_3 (by decide) ?_
  refine w_callS (As := [.int v, .int 0, .int 7]) (rest := .ref (ad 8 0) :: []) (st2 := .int (f_X8_within v 0 7) :: .ref (ad 8 0) :: []) hC hW hS hl cs_X8_129 (c_X8_within l hl9 D ca base ad σ v 0 7 ) rfl rfl rfl ⟨Nat.le_of_ble_eq_true rfl, Nat.le_of_ble_eq_true rfl⟩ (Nat.le_of_ble_eq_true rfl) dX8_watch_5 ⟨Nat.le_of_ble_eq_true rfl, Nat.le_of_ble_eq_true rfl⟩ (fun H locs hW hS => ?_)
  refine lv_if_eq (tgt := 25) hx hb dX8_watch_8 (by decide) (fun c_1 => ?_) (fun c_1 => ?_)
  · refine lv_iconst (v := 1) hx hb dX8_watch_25 (by decide) ?_
    refine w_callV (As := [.int 1]) (rest := []) (st2 := .int (f_X8_rf 1) :: []) hC hW hS hl cv_X8_154 m_8 (by decide) rfl (c_X8_refused l hl9 D ca base ad σ 1 ) rfl rfl rfl ⟨Nat.le_of_ble_eq_true rfl, Nat.le_of_ble_eq_true rfl⟩ (Nat.le_of_ble_eq_true rfl) dX8_watch_26 ⟨Nat.le_of_ble_eq_true rfl, Nat.le_of_ble_eq_true rfl⟩ (fun H locs hW hS => ?_)
    refine lv_eqi (y := 1) (by decide) ?_
    refine lv_if_eq (tgt := 33) hx hb dX8_watch_29 (by decide) (fun c => absurd c (by decide)) (fun _ => ?_)
    have hO : s_X8_watch v w σ = us σ 8 0 0 1 := by rw [s_X8_watch, if_pos c_1]
    exact w_vretV hC hW hS hO (Nat.le_of_ble_eq_true rfl) (Nat.le_of_ble_eq_true rfl) dX8_watch_32
  · refine lv_iload_n hx hb dX8_watch_11 rfl (lv_at hl 2 rfl) ?_
    refine lv_iconst (v := 0) hx hb dX8_watch_12 (by decide) ?_
    refine lv_bipush (v := 7) hx hb dX8_watch_13 (by decide) ?_
    refine w_callS (As := [.int w, .int 0, .int 7]) (rest := .ref (ad 8 0) :: []) (st2 := .int (f_X8_within w 0 7) :: .ref (ad 8 0) :: []) hC hW hS hl cs_X8_129 (c_X8_within l hl9 D ca base ad σ w 0 7 ) rfl rfl rfl ⟨Nat.le_of_ble_eq_true rfl, Nat.le_of_ble_eq_true rfl⟩ (Nat.le_of_ble_eq_true rfl) dX8_watch_15 ⟨Nat.le_of_ble_eq_true rfl, Nat.le_of_ble_eq_true rfl⟩ (fun H locs hW hS => ?_)
    refine lv_if_eq (tgt := 25) hx hb dX8_watch_18 (by decide) (fun c_2 => ?_) (fun c_2 => ?_)
    · refine lv_iconst (v := 1) hx hb dX8_watch_25 (by decide) ?_
      refine w_callV (As := [.int 1]) (rest := []) (st2 := .int (f_X8_rf 1) :: []) hC hW hS hl cv_X8_154 m_8 (by decide) rfl (c_X8_refused l hl9 D ca base ad σ 1 ) rfl rfl rfl ⟨Nat.le_of_ble_eq_true rfl, Nat.le_of_ble_eq_true rfl⟩ (Nat.le_of_ble_eq_true rfl) dX8_watch_26 ⟨Nat.le_of_ble_eq_true rfl, Nat.le_of_ble_eq_true rfl⟩ (fun H locs hW hS => ?_)
      refine lv_eqi (y := 1) (by decide) ?_
      refine lv_if_eq (tgt := 33) hx hb dX8_watch_29 (by decide) (fun c => absurd c (by decide)) (fun _ => ?_)
      have hO : s_X8_watch v w σ = us σ 8 0 0 1 := by rw [s_X8_watch, if_neg c_1, if_pos c_2]
      exact w_vretV hC hW hS hO (Nat.le_of_ble_eq_true rfl) (Nat.le_of_ble_eq_true rfl) dX8_watch_32
    · refine lv_iconst (v := 0) hx hb dX8_watch_21 (by decide) ?_
      refine lv_goto (tgt := 26) hx hb dX8_watch_22 (by decide) ?_
      refine w_callV (As := [.int 0]) (rest := []) (st2 := .int (f_X8_rf 0) :: []) hC hW hS hl cv_X8_154 m_8 (by decide) rfl (c_X8_refused l hl9 D ca base ad σ 0 ) rfl rfl rfl ⟨Nat.le_of_ble_eq_true rfl, Nat.le_of_ble_eq_true rfl⟩ (Nat.le_of_ble_eq_true rfl) dX8_watch_26 ⟨Nat.le_of_ble_eq_true rfl, Nat.le_of_ble_eq_true rfl⟩ (fun H locs hW hS => ?_)
      refine lv_eqi (y := 0) (by decide) ?_
      refine lv_if_eq (tgt := 33) hx hb dX8_watch_29 (by decide) (fun _ => ?_) (fun c => absurd (by decide) c)
      refine lv_aload_n hx hb dX8_watch_33 rfl (lv_at hl 0 rfl) ?_
      refine lv_iload_n hx hb dX8_watch_34 rfl (lv_at hl 1 rfl) ?_
      refine pf_X8_110 hC hW m_8 hS dX8_watch_35 (fun H locs hW hS => ?_)
      refine lv_aload_n hx hb dX8_watch_38 rfl (lv_at hl 0 rfl) ?_
      refine lv_iload_n hx hb dX8_watch_39 rfl (lv_at hl 2 rfl) ?_
      refine pf_X8_114 hC hW m_8 hS dX8_watch_40 (fun H locs hW hS => ?_)
      have hO : s_X8_watch v w σ = us (us (us σ 8 0 0 0) 8 0 38 v) 8 0 39 w := by rw [s_X8_watch, if_neg c_1, if_neg c_2]
      exact w_vretV hC hW hS hO (Nat.le_of_ble_eq_true rfl) (Nat.le_of_ble_eq_true rfl) dX8_watch_43
theorem fr_X8_watch {kk : Nat}  {v : Int32} {w : Int32} {σ : Sg} (h8 : kk ≠ 8) : (s_X8_watch v w σ) kk = σ kk := by
  rw [s_X8_watch]
  repeat' split
  all_goals (first | (simp only [us_kk, ne_eq, not_false_eq_true, h8]; done) | with_reducible rfl | (simp only [us_kk, ne_eq, not_false_eq_true, h8]; with_reducible rfl))
theorem fs_X8_watch {jj : Nat}  {v : Int32} {w : Int32} {σ : Sg} (h0 : jj ≠ 0) (h38 : jj ≠ 38) (h39 : jj ≠ 39) : (s_X8_watch v w σ) 8 0 jj = σ 8 0 jj := by
  rw [s_X8_watch]
  repeat' split
  all_goals (first | with_reducible rfl | (simp [us_k, us_j, ne_eq, not_false_eq_true, h0, h38, h39]; done))

def f_X8_pass (v : Int32) (σ : Sg) : Int32 × Sg :=
  if (f_X8_within v 1 1000) = 0 then (0, us σ 8 0 0 1)
  else if ((σ 8 0 37) + v) ≤ 10000 then ((σ 8 0 37) + v, us (us σ 8 0 0 0) 8 0 37 ((σ 8 0 37) + v))
  else (0, us σ 8 0 0 2)
set_option maxHeartbeats 4000000 in
set_option maxRecDepth 100000 in
theorem c_X8_pass (l : Launch) (hl9 : l.stackTraces = false) (D : va_G) (ca : Nat → ClassId) (base : Nat) (ad : Adr) (σ : Sg) (v : Int32) (hM : MInv σ) : Mt l yX8_pass cX8_pass 3 (some .int) { frames := 1, cells := 0, slots := 0, locals := 22 } D ca base ad ρm Lm [.ref (ad 8 0), .int v] σ (some (.int (f_X8_pass v σ).1)) (f_X8_pass v σ).2 := by
  refine w_ofW (by decide) (Nat.le_of_ble_eq_true rfl) rfl ?_
  intro p e s m args below meth c hC hW hS ls hl hin
  have hx := hC.1
  have hb := hC.2.1
  refine lv_iload_n hx hb dX8_pass_0 rfl (lv_at hl 1 rfl) ?_
  refine lv_iconst (v := 1) hx hb dX8_pass_1 (by decide) ?_
  refine lv_sipush (v := 1000) hx hb dX8_pass_2 (by decide) ?_
  refine w_callS (As := [.int v, .int 1, .int 1000]) (rest := []) (st2 := .int (f_X8_within v 1 1000) :: []) hC hW hS hl cs_X8_129 (c_X8_within l hl9 D ca base ad σ v 1 1000 ) rfl rfl rfl ⟨Nat.le_of_ble_eq_true rfl, Nat.le_of_ble_eq_true rfl⟩ (Nat.le_of_ble_eq_true rfl) dX8_pass_5 ⟨Nat.le_of_ble_eq_true rfl, Nat.le_of_ble_eq_true rfl⟩ (fun H locs hW hS => ?_)
  refine lv_istore_n (lv' := [(2, .int (f_X8_within v 1 1000)), (0, .ref (ad 8 0)), (1, .int v)]) hx hb dX8_pass_8 rfl hl (by decide) rfl (fun ls hl => ?_)
  refine lv_aload_n hx hb dX8_pass_9 rfl (lv_at hl 1 rfl) ?_
  refine lv_iload_n hx hb dX8_pass_10 rfl (lv_at hl 0 rfl) ?_
  refine lv_if_ne (tgt := 18) hx hb dX8_pass_11 (by decide) (fun c_1 => ?_) (fun c_1 => ?_)
  · refine lv_aload_n hx hb dX8_pass_18 rfl (lv_at hl 1 rfl) ?_
    refine gf_X8_223 hC hW m_8 dX8_pass_19 ?_
    refine lv_iload_n hx hb dX8_pass_22 rfl (lv_at hl 2 rfl) ?_
    refine lv_iadd hx hb dX8_pass_23 ?_
    refine lv_sipush (v := 10000) hx hb dX8_pass_24 (by decide) ?_
    refine lv_icmp_le (tgt := 34) hx hb dX8_pass_27 (by decide) (fun c_2 => ?_) (fun c_2 => ?_)
    · refine lv_iconst (v := 0) hx hb dX8_pass_34 (by decide) ?_
      refine w_callV (As := [.int 0]) (rest := []) (st2 := .int (f_X8_rf 0) :: []) hC hW hS hl cv_X8_154 m_8 (by decide) rfl (c_X8_refused l hl9 D ca base ad σ 0 ) rfl rfl rfl ⟨Nat.le_of_ble_eq_true rfl, Nat.le_of_ble_eq_true rfl⟩ (Nat.le_of_ble_eq_true rfl) dX8_pass_35 ⟨Nat.le_of_ble_eq_true rfl, Nat.le_of_ble_eq_true rfl⟩ (fun H locs hW hS => ?_)
      refine lv_eqi (y := 0) (by decide) ?_
      refine lv_if_eq (tgt := 43) hx hb dX8_pass_38 (by decide) (fun _ => ?_) (fun c => absurd (by decide) c)
      refine lv_aload_n hx hb dX8_pass_43 rfl (lv_at hl 1 rfl) ?_
      refine lv_dup hx hb dX8_pass_44 rfl ?_
      refine gf_X8_223 hC hW m_8 dX8_pass_45 ?_
      refine lv_eqi (y := σ 8 0 37) (by rw [us_j (by decide)]) ?_
      refine lv_iload_n hx hb dX8_pass_48 rfl (lv_at hl 2 rfl) ?_
      refine lv_iadd hx hb dX8_pass_49 ?_
      refine pf_X8_223 hC hW m_8 hS dX8_pass_50 (fun H locs hW hS => ?_)
      refine lv_aload_n hx hb dX8_pass_53 rfl (lv_at hl 1 rfl) ?_
      refine gf_X8_223 hC hW m_8 dX8_pass_54 ?_
      refine lv_eqi (y := (σ 8 0 37) + v) (by rw [us_h]) ?_
      have hO : f_X8_pass v σ = ((σ 8 0 37) + v, us (us σ 8 0 0 0) 8 0 37 ((σ 8 0 37) + v)) := by rw [f_X8_pass, if_neg c_1, if_pos c_2]
      exact w_iretS hC hW hS hO (Nat.le_of_ble_eq_true rfl) (Nat.le_of_ble_eq_true rfl) dX8_pass_57
    · refine lv_iconst (v := 2) hx hb dX8_pass_30 (by decide) ?_
      refine lv_goto (tgt := 35) hx hb dX8_pass_31 (by decide) ?_
      refine w_callV (As := [.int 2]) (rest := []) (st2 := .int (f_X8_rf 2) :: []) hC hW hS hl cv_X8_154 m_8 (by decide) rfl (c_X8_refused l hl9 D ca base ad σ 2 ) rfl rfl rfl ⟨Nat.le_of_ble_eq_true rfl, Nat.le_of_ble_eq_true rfl⟩ (Nat.le_of_ble_eq_true rfl) dX8_pass_35 ⟨Nat.le_of_ble_eq_true rfl, Nat.le_of_ble_eq_true rfl⟩ (fun H locs hW hS => ?_)
      refine lv_eqi (y := 1) (by decide) ?_
      refine lv_if_eq (tgt := 43) hx hb dX8_pass_38 (by decide) (fun c => absurd c (by decide)) (fun _ => ?_)
      refine lv_iconst (v := 0) hx hb dX8_pass_41 (by decide) ?_
      have hO : f_X8_pass v σ = (0, us σ 8 0 0 2) := by rw [f_X8_pass, if_neg c_1, if_neg c_2]
      exact w_iretS hC hW hS hO (Nat.le_of_ble_eq_true rfl) (Nat.le_of_ble_eq_true rfl) dX8_pass_42
  · refine lv_iconst (v := 1) hx hb dX8_pass_14 (by decide) ?_
    refine lv_goto (tgt := 35) hx hb dX8_pass_15 (by decide) ?_
    refine w_callV (As := [.int 1]) (rest := []) (st2 := .int (f_X8_rf 1) :: []) hC hW hS hl cv_X8_154 m_8 (by decide) rfl (c_X8_refused l hl9 D ca base ad σ 1 ) rfl rfl rfl ⟨Nat.le_of_ble_eq_true rfl, Nat.le_of_ble_eq_true rfl⟩ (Nat.le_of_ble_eq_true rfl) dX8_pass_35 ⟨Nat.le_of_ble_eq_true rfl, Nat.le_of_ble_eq_true rfl⟩ (fun H locs hW hS => ?_)
    refine lv_eqi (y := 1) (by decide) ?_
    refine lv_if_eq (tgt := 43) hx hb dX8_pass_38 (by decide) (fun c => absurd c (by decide)) (fun _ => ?_)
    refine lv_iconst (v := 0) hx hb dX8_pass_41 (by decide) ?_
    have hO : f_X8_pass v σ = (0, us σ 8 0 0 1) := by rw [f_X8_pass, if_pos c_1]
    exact w_iretS hC hW hS hO (Nat.le_of_ble_eq_true rfl) (Nat.le_of_ble_eq_true rfl) dX8_pass_42
theorem fr_X8_pass {kk : Nat}  {v : Int32} {σ : Sg} (h8 : kk ≠ 8) : (f_X8_pass v σ).2 kk = σ kk := by
  rw [f_X8_pass]
  repeat' split
  all_goals (first | (simp only [us_kk, ne_eq, not_false_eq_true, h8]; done) | with_reducible rfl | (simp only [us_kk, ne_eq, not_false_eq_true, h8]; with_reducible rfl))
theorem fs_X8_pass {jj : Nat}  {v : Int32} {σ : Sg} (h0 : jj ≠ 0) (h37 : jj ≠ 37) : (f_X8_pass v σ).2 8 0 jj = σ 8 0 jj := by
  rw [f_X8_pass]
  repeat' split
  all_goals (first | with_reducible rfl | (simp [us_k, us_j, ne_eq, not_false_eq_true, h0, h37]; done))

def f_X8_entries  (σ : Sg) : Int32 × Sg :=
  (σ 8 0 40, us σ 8 0 0 0)
set_option maxHeartbeats 4000000 in
set_option maxRecDepth 100000 in
theorem c_X8_entries (l : Launch) (hl9 : l.stackTraces = false) (D : va_G) (ca : Nat → ClassId) (base : Nat) (ad : Adr) (σ : Sg)  (hM : MInv σ) : Mt l yX8_entries cX8_entries 1 (some .int) { frames := 0, cells := 0, slots := 0, locals := 0 } D ca base ad ρm Lm [.ref (ad 8 0)] σ (some (.int (f_X8_entries σ).1)) (f_X8_entries σ).2 := by
  refine w_ofW (by decide) (Nat.le_of_ble_eq_true rfl) rfl ?_
  intro p e s m args below meth c hC hW hS ls hl hin
  have hx := hC.1
  have hb := hC.2.1
  refine lv_aload_n hx hb dX8_entries_0 rfl (lv_at hl 0 rfl) ?_
  refine lv_iconst (v := 0) hx hb dX8_entries_1 (by decide) ?_
  refine pf_X8_126 hC hW m_8 hS dX8_entries_2 (fun H locs hW hS => ?_)
  refine lv_aload_n hx hb dX8_entries_5 rfl (lv_at hl 0 rfl) ?_
  refine gf_X8_238 hC hW m_8 dX8_entries_6 ?_
  refine lv_eqi (y := σ 8 0 40) (by rw [us_j (by decide)]) ?_
  have hO : f_X8_entries σ = (σ 8 0 40, us σ 8 0 0 0) := by rw [f_X8_entries]
  exact w_iretS hC hW hS hO (Nat.le_of_ble_eq_true rfl) (Nat.le_of_ble_eq_true rfl) dX8_entries_9
theorem fr_X8_entries {kk : Nat}   {σ : Sg} (h8 : kk ≠ 8) : (f_X8_entries σ).2 kk = σ kk := by
  rw [f_X8_entries]
  repeat' split
  all_goals (first | (simp only [us_kk, ne_eq, not_false_eq_true, h8]; done) | with_reducible rfl | (simp only [us_kk, ne_eq, not_false_eq_true, h8]; with_reducible rfl))
theorem fs_X8_entries {jj : Nat}   {σ : Sg} (h0 : jj ≠ 0) : (f_X8_entries σ).2 8 0 jj = σ 8 0 jj := by
  rw [f_X8_entries]
  repeat' split
  all_goals (first | with_reducible rfl | (simp [us_k, us_j, ne_eq, not_false_eq_true, h0]; done))

def f_X8_lost  (σ : Sg) : Int32 × Sg :=
  (σ 8 0 41, us σ 8 0 0 0)
set_option maxHeartbeats 4000000 in
set_option maxRecDepth 100000 in
theorem c_X8_lost (l : Launch) (hl9 : l.stackTraces = false) (D : va_G) (ca : Nat → ClassId) (base : Nat) (ad : Adr) (σ : Sg)  (hM : MInv σ) : Mt l yX8_lost cX8_lost 1 (some .int) { frames := 0, cells := 0, slots := 0, locals := 0 } D ca base ad ρm Lm [.ref (ad 8 0)] σ (some (.int (f_X8_lost σ).1)) (f_X8_lost σ).2 := by
  refine w_ofW (by decide) (Nat.le_of_ble_eq_true rfl) rfl ?_
  intro p e s m args below meth c hC hW hS ls hl hin
  have hx := hC.1
  have hb := hC.2.1
  refine lv_aload_n hx hb dX8_lost_0 rfl (lv_at hl 0 rfl) ?_
  refine lv_iconst (v := 0) hx hb dX8_lost_1 (by decide) ?_
  refine pf_X8_126 hC hW m_8 hS dX8_lost_2 (fun H locs hW hS => ?_)
  refine lv_aload_n hx hb dX8_lost_5 rfl (lv_at hl 0 rfl) ?_
  refine gf_X8_241 hC hW m_8 dX8_lost_6 ?_
  refine lv_eqi (y := σ 8 0 41) (by rw [us_j (by decide)]) ?_
  have hO : f_X8_lost σ = (σ 8 0 41, us σ 8 0 0 0) := by rw [f_X8_lost]
  exact w_iretS hC hW hS hO (Nat.le_of_ble_eq_true rfl) (Nat.le_of_ble_eq_true rfl) dX8_lost_9
theorem fr_X8_lost {kk : Nat}   {σ : Sg} (h8 : kk ≠ 8) : (f_X8_lost σ).2 kk = σ kk := by
  rw [f_X8_lost]
  repeat' split
  all_goals (first | (simp only [us_kk, ne_eq, not_false_eq_true, h8]; done) | with_reducible rfl | (simp only [us_kk, ne_eq, not_false_eq_true, h8]; with_reducible rfl))
theorem fs_X8_lost {jj : Nat}   {σ : Sg} (h0 : jj ≠ 0) : (f_X8_lost σ).2 8 0 jj = σ 8 0 jj := by
  rw [f_X8_lost]
  repeat' split
  all_goals (first | with_reducible rfl | (simp [us_k, us_j, ne_eq, not_false_eq_true, h0]; done))
