def f_L_member (g : Int32) (b : Int32) (x : Int32) (is : Int32) (σ : Sg) : Int32 × Sg :=
  if (m_X7_member g b x is σ).1 = none then (if ((m_X7_member g b x is σ).2.1) = 0 then (0, us ((m_X7_member g b x is σ).2.2) 90 0 0 0)
    else (0, us ((m_X7_member g b x is σ).2.2) 90 0 0 1))
  else if (m_X7_member g b x is σ).1 = some "java/lang/IndexOutOfBoundsException" then (1, σ)
  else (2, σ)
set_option maxHeartbeats 4000000 in
set_option maxRecDepth 100000 in
theorem c_L_member (l : Launch) (hl9 : l.stackTraces = false) (D : va_G) (ca : Nat → ClassId) (base : Nat) (ad : Adr) (σ : Sg) (g : Int32) (b : Int32) (x : Int32) (is : Int32) (hI : CInv σ) : Ml l yL_member cL_member 7 (some .int) [(0, 21, 24, 13), (0, 21, 28, 15)] { frames := 8, cells := 4, slots := 24, locals := 146 } D ca base ad ρm Lm [.ref (ad 7 0), .int g, .int b, .int x, .int is, .ref (ad 90 0)] σ (some (.int (f_L_member g b x is σ).1)) (f_L_member g b x is σ).2 := by
  refine w_ofL (by decide) (Nat.le_of_ble_eq_true rfl) rfl ?_
  intro p e s m args below meth c hC hN htab hW hS ls hl
  have hx := hC.1
  have hb := hC.2.1
  refine lv_aload hx hb dL_member_0 (lv_at hl 5 rfl) ?_
  refine lv_iconst (v := 0) hx hb dL_member_2 (by decide) ?_
  refine lv_aload_n hx hb dL_member_3 rfl (lv_at hl 0 rfl) ?_
  refine lv_iload_n hx hb dL_member_4 rfl (lv_at hl 1 rfl) ?_
  refine lv_iload_n hx hb dL_member_5 rfl (lv_at hl 2 rfl) ?_
  refine lv_iload_n hx hb dL_member_6 rfl (lv_at hl 3 rfl) ?_
  refine lv_iload hx hb dL_member_7 (lv_at hl 4 rfl) ?_
  refine w_callVX (As := [.int g, .int b, .int x, .int is]) (rest := .int 0 :: .ref (ad 90 0) :: []) (st2 := .int ((m_X7_member g b x is σ).2.1) :: .int 0 :: .ref (ad 90 0) :: []) hC hW hS hl cv_L_7 m_7 (by decide) rfl (c_X7_member l hl9 D ca base ad σ g b x is (by first | assumption | decide | omega)) rfl rfl rfl ⟨Nat.le_of_ble_eq_true rfl, Nat.le_of_ble_eq_true rfl⟩ (Nat.le_of_ble_eq_true rfl) dL_member_9 ⟨Nat.le_of_ble_eq_true rfl, Nat.le_of_ble_eq_true rfl⟩ (fun E ce q9 H locs e_1 hW hS hce hcv hcl => ?_) (fun e_1 H locs hW hS => ?_)
  · have hE := er_X7_member e_1
    rcases hE with rfl | rfl
    · refine vx_catch (name := "java/lang/IndexOutOfBoundsException") hC.2.2.2.1 [] ⟨0, 21, 24, 13⟩ [⟨0, 21, 28, 15⟩] (by rw [htab]; rfl) (fun z hz => nomatch hz) (by decide) (by decide) (hC.2.2.2.2.1 _ q_356) (va_Nw.use rfl (hC.2.2.2.2.2.2.2.1.2.1 _ (by decide))) hce hcv hcl ?_
      refine lv_astore (lv' := [(6, .ref q9), (0, .ref (ad 7 0)), (1, .int g), (2, .int b), (3, .int x), (4, .int is), (5, .ref (ad 90 0))]) hx hb dL_member_24 hl (by decide) rfl (fun ls hl => ?_)
      refine lv_iconst (v := 1) hx hb dL_member_26 (by decide) ?_
      have hO : f_L_member g b x is σ = (1, σ) := by rw [f_L_member, if_neg (by rw [e_1]; exact fun q => nomatch q), if_pos e_1]
      exact w_iretS hC hW hS hO (Nat.le_of_ble_eq_true rfl) (Nat.le_of_ble_eq_true rfl) dL_member_27
    · refine vx_catch (name := "java/lang/IllegalStateException") hC.2.2.2.1 [⟨0, 21, 24, 13⟩] ⟨0, 21, 28, 15⟩ [] (by rw [htab]; rfl) (fun z hz => by
        simp only [List.mem_cons, List.not_mem_nil, or_false] at hz
        rcases hz with rfl
        · exact Or.inr ⟨by decide, "java/lang/IndexOutOfBoundsException", hC.2.2.2.2.1 _ q_356, hN ("java/lang/IllegalStateException", "java/lang/IndexOutOfBoundsException") (by decide)⟩) (by decide) (by decide) (hC.2.2.2.2.1 _ q_357) (va_Nw.use rfl (hC.2.2.2.2.2.2.2.1.2.1 _ (by decide))) hce hcv hcl ?_
      refine lv_astore (lv' := [(6, .ref q9), (0, .ref (ad 7 0)), (1, .int g), (2, .int b), (3, .int x), (4, .int is), (5, .ref (ad 90 0))]) hx hb dL_member_28 hl (by decide) rfl (fun ls hl => ?_)
      refine lv_iconst (v := 2) hx hb dL_member_30 (by decide) ?_
      have hO : f_L_member g b x is σ = (2, σ) := by rw [f_L_member, if_neg (by rw [e_1]; exact fun q => nomatch q), if_neg (by rw [e_1]; decide)]
      exact w_iretS hC hW hS hO (Nat.le_of_ble_eq_true rfl) (Nat.le_of_ble_eq_true rfl) dL_member_31
  refine lv_if_eq (tgt := 19) hx hb dL_member_12 (by decide) (fun c_2 => ?_) (fun c_2 => ?_)
  · refine lv_lconst (v := 0) hx hb dL_member_19 (by decide) ?_
    refine w_last hC hW hS m_90 (v := 0) (by decide) (vp_lit (by decide)) dL_member_20 (fun H locs hW hS => ?_)
    rw [show Int32.toNatClampNeg 0 = 0 by decide] at hW
    refine lv_goto (tgt := 32) hx hb dL_member_21 (by decide) ?_
    refine lv_iconst (v := 0) hx hb dL_member_32 (by decide) ?_
    have hO : f_L_member g b x is σ = (0, us ((m_X7_member g b x is σ).2.2) 90 0 0 0) := by rw [f_L_member, if_pos e_1, if_pos c_2]
    exact w_iretS hC hW hS hO (Nat.le_of_ble_eq_true rfl) (Nat.le_of_ble_eq_true rfl) dL_member_33
  · refine lv_lconst (v := 1) hx hb dL_member_15 (by decide) ?_
    refine lv_goto (tgt := 20) hx hb dL_member_16 (by decide) ?_
    refine w_last hC hW hS m_90 (v := 1) (by decide) (vp_lit (by decide)) dL_member_20 (fun H locs hW hS => ?_)
    rw [show Int32.toNatClampNeg 0 = 0 by decide] at hW
    refine lv_goto (tgt := 32) hx hb dL_member_21 (by decide) ?_
    refine lv_iconst (v := 0) hx hb dL_member_32 (by decide) ?_
    have hO : f_L_member g b x is σ = (0, us ((m_X7_member g b x is σ).2.2) 90 0 0 1) := by rw [f_L_member, if_pos e_1, if_neg c_2]
    exact w_iretS hC hW hS hO (Nat.le_of_ble_eq_true rfl) (Nat.le_of_ble_eq_true rfl) dL_member_33
theorem fr_L_member {kk : Nat}  {g : Int32} {b : Int32} {x : Int32} {is : Int32} {σ : Sg} (h12 : kk ≠ 12) (h13 : kk ≠ 13) (h14 : kk ≠ 14) (h90 : kk ≠ 90) : (f_L_member g b x is σ).2 kk = σ kk := by
  rw [f_L_member]
  repeat' split
  all_goals (first | (simp only [us_kk, ne_eq, not_false_eq_true, h12, h13, h14, h90, fr_X7_member]; done) | with_reducible rfl | (simp only [us_kk, ne_eq, not_false_eq_true, h12, h13, h14, h90, fr_X7_member]; with_reducible rfl))
def f_L_groups (u : Int32) (σ : Sg) : Int32 × Sg :=
  if (m_X7_groups u σ).1 = none then (0, us ((m_X7_groups u σ).2.2) 90 0 0 ((m_X7_groups u σ).2.1))
  else (1, σ)
set_option maxHeartbeats 4000000 in
set_option maxRecDepth 100000 in
theorem c_L_groups (l : Launch) (hl9 : l.stackTraces = false) (D : va_G) (ca : Nat → ClassId) (base : Nat) (ad : Adr) (σ : Sg) (u : Int32) (hI : CInv σ) : Ml l yL_groups cL_groups 4 (some .int) [(0, 9, 12, 13)] { frames := 8, cells := 1, slots := 6, locals := 142 } D ca base ad ρm Lm [.ref (ad 7 0), .int u, .ref (ad 90 0)] σ (some (.int (f_L_groups u σ).1)) (f_L_groups u σ).2 := by
  refine w_ofL (by decide) (Nat.le_of_ble_eq_true rfl) rfl ?_
  intro p e s m args below meth c hC hN htab hW hS ls hl
  have hx := hC.1
  have hb := hC.2.1
  refine lv_aload_n hx hb dL_groups_0 rfl (lv_at hl 2 rfl) ?_
  refine lv_iconst (v := 0) hx hb dL_groups_1 (by decide) ?_
  refine lv_aload_n hx hb dL_groups_2 rfl (lv_at hl 0 rfl) ?_
  refine lv_iload_n hx hb dL_groups_3 rfl (lv_at hl 1 rfl) ?_
  refine w_callVX (As := [.int u]) (rest := .int 0 :: .ref (ad 90 0) :: []) (st2 := .int ((m_X7_groups u σ).2.1) :: .int 0 :: .ref (ad 90 0) :: []) hC hW hS hl cv_L_17 m_7 (by decide) rfl (c_X7_groups l hl9 D ca base ad σ u (by first | assumption | decide | omega)) rfl rfl rfl ⟨Nat.le_of_ble_eq_true rfl, Nat.le_of_ble_eq_true rfl⟩ (Nat.le_of_ble_eq_true rfl) dL_groups_4 ⟨Nat.le_of_ble_eq_true rfl, Nat.le_of_ble_eq_true rfl⟩ (fun E ce q9 H locs e_1 hW hS hce hcv hcl => ?_) (fun e_1 H locs hW hS => ?_)
  · have hE := er_X7_groups e_1
    rcases hE with rfl
    · refine vx_catch (name := "java/lang/IndexOutOfBoundsException") hC.2.2.2.1 [] ⟨0, 9, 12, 13⟩ [] (by rw [htab]; rfl) (fun z hz => nomatch hz) (by decide) (by decide) (hC.2.2.2.2.1 _ q_356) (va_Nw.use rfl (hC.2.2.2.2.2.2.2.1.2.1 _ (by decide))) hce hcv hcl ?_
      refine lv_astore_n (lv' := [(3, .ref q9), (0, .ref (ad 7 0)), (1, .int u), (2, .ref (ad 90 0))]) hx hb dL_groups_12 rfl hl (by decide) rfl (fun ls hl => ?_)
      refine lv_iconst (v := 1) hx hb dL_groups_13 (by decide) ?_
      have hO : f_L_groups u σ = (1, σ) := by rw [f_L_groups, if_neg (by rw [e_1]; exact fun q => nomatch q)]
      exact w_iretS hC hW hS hO (Nat.le_of_ble_eq_true rfl) (Nat.le_of_ble_eq_true rfl) dL_groups_14
  refine lv_i2l hx hb dL_groups_7 rfl ?_
  refine w_last hC hW hS m_90 (v := (m_X7_groups u σ).2.1) rfl (vp_lit (by decide)) dL_groups_8 (fun H locs hW hS => ?_)
  rw [show Int32.toNatClampNeg 0 = 0 by decide] at hW
  refine lv_goto (tgt := 15) hx hb dL_groups_9 (by decide) ?_
  refine lv_iconst (v := 0) hx hb dL_groups_15 (by decide) ?_
  have hO : f_L_groups u σ = (0, us ((m_X7_groups u σ).2.2) 90 0 0 ((m_X7_groups u σ).2.1)) := by rw [f_L_groups, if_pos e_1]
  exact w_iretS hC hW hS hO (Nat.le_of_ble_eq_true rfl) (Nat.le_of_ble_eq_true rfl) dL_groups_16
theorem fr_L_groups {kk : Nat}  {u : Int32} {σ : Sg} (h90 : kk ≠ 90) : (f_L_groups u σ).2 kk = σ kk := by
  rw [f_L_groups]
  repeat' split
  all_goals (first | (simp only [us_kk, ne_eq, not_false_eq_true, h90, fr_X7_groups]; done) | with_reducible rfl | (simp only [us_kk, ne_eq, not_false_eq_true, h90, fr_X7_groups]; with_reducible rfl))
def f_L_thing (t : Int32) (u : Int32) (g : Int32) (v : Int32) (σ : Sg) : Int32 × Sg :=
  if (m_X7_thing t u g v σ).1 = none then (0, us ((m_X7_thing t u g v σ).2.2) 90 0 0 ((m_X7_thing t u g v σ).2.1))
  else if (m_X7_thing t u g v σ).1 = some "java/lang/IndexOutOfBoundsException" then (1, σ)
  else if (m_X7_thing t u g v σ).1 = some "java/lang/IllegalArgumentException" then (2, σ)
  else (3, σ)
set_option maxHeartbeats 4000000 in
set_option maxRecDepth 100000 in
theorem c_L_thing (l : Launch) (hl9 : l.stackTraces = false) (D : va_G) (ca : Nat → ClassId) (base : Nat) (ad : Adr) (σ : Sg) (t : Int32) (u : Int32) (g : Int32) (v : Int32) (hI : CInv σ) : Ml l yL_thing cL_thing 7 (some .int) [(0, 14, 17, 13), (0, 14, 21, 25), (0, 14, 25, 15)] { frames := 9, cells := 7, slots := 42, locals := 168 } D ca base ad ρm Lm [.ref (ad 7 0), .int t, .int u, .int g, .int v, .ref (ad 90 0)] σ (some (.int (f_L_thing t u g v σ).1)) (f_L_thing t u g v σ).2 := by
  refine w_ofL (by decide) (Nat.le_of_ble_eq_true rfl) rfl ?_
  intro p e s m args below meth c hC hN htab hW hS ls hl
  have hx := hC.1
  have hb := hC.2.1
  refine lv_aload hx hb dL_thing_0 (lv_at hl 5 rfl) ?_
  refine lv_iconst (v := 0) hx hb dL_thing_2 (by decide) ?_
  refine lv_aload_n hx hb dL_thing_3 rfl (lv_at hl 0 rfl) ?_
  refine lv_iload_n hx hb dL_thing_4 rfl (lv_at hl 1 rfl) ?_
  refine lv_iload_n hx hb dL_thing_5 rfl (lv_at hl 2 rfl) ?_
  refine lv_iload_n hx hb dL_thing_6 rfl (lv_at hl 3 rfl) ?_
  refine lv_iload hx hb dL_thing_7 (lv_at hl 4 rfl) ?_
  refine w_callVX (As := [.int t, .int u, .int g, .int v]) (rest := .int 0 :: .ref (ad 90 0) :: []) (st2 := .int ((m_X7_thing t u g v σ).2.1) :: .int 0 :: .ref (ad 90 0) :: []) hC hW hS hl cv_L_21 m_7 (by decide) rfl (c_X7_thing l hl9 D ca base ad σ t u g v (by first | assumption | decide | omega)) rfl rfl rfl ⟨Nat.le_of_ble_eq_true rfl, Nat.le_of_ble_eq_true rfl⟩ (Nat.le_of_ble_eq_true rfl) dL_thing_9 ⟨Nat.le_of_ble_eq_true rfl, Nat.le_of_ble_eq_true rfl⟩ (fun E ce q9 H locs e_1 hW hS hce hcv hcl => ?_) (fun e_1 H locs hW hS => ?_)
  · have hE := er_X7_thing e_1
    rcases hE with rfl | rfl | rfl
    · refine vx_catch (name := "java/lang/IndexOutOfBoundsException") hC.2.2.2.1 [] ⟨0, 14, 17, 13⟩ [⟨0, 14, 21, 25⟩, ⟨0, 14, 25, 15⟩] (by rw [htab]; rfl) (fun z hz => nomatch hz) (by decide) (by decide) (hC.2.2.2.2.1 _ q_356) (va_Nw.use rfl (hC.2.2.2.2.2.2.2.1.2.1 _ (by decide))) hce hcv hcl ?_
      refine lv_astore (lv' := [(6, .ref q9), (0, .ref (ad 7 0)), (1, .int t), (2, .int u), (3, .int g), (4, .int v), (5, .ref (ad 90 0))]) hx hb dL_thing_17 hl (by decide) rfl (fun ls hl => ?_)
      refine lv_iconst (v := 1) hx hb dL_thing_19 (by decide) ?_
      have hO : f_L_thing t u g v σ = (1, σ) := by rw [f_L_thing, if_neg (by rw [e_1]; exact fun q => nomatch q), if_pos e_1]
      exact w_iretS hC hW hS hO (Nat.le_of_ble_eq_true rfl) (Nat.le_of_ble_eq_true rfl) dL_thing_20
    · refine vx_catch (name := "java/lang/IllegalArgumentException") hC.2.2.2.1 [⟨0, 14, 17, 13⟩] ⟨0, 14, 21, 25⟩ [⟨0, 14, 25, 15⟩] (by rw [htab]; rfl) (fun z hz => by
        simp only [List.mem_cons, List.not_mem_nil, or_false] at hz
        rcases hz with rfl
        · exact Or.inr ⟨by decide, "java/lang/IndexOutOfBoundsException", hC.2.2.2.2.1 _ q_356, hN ("java/lang/IllegalArgumentException", "java/lang/IndexOutOfBoundsException") (by decide)⟩) (by decide) (by decide) (hC.2.2.2.2.1 _ q_484) (va_Nw.use rfl (hC.2.2.2.2.2.2.2.1.2.1 _ (by decide))) hce hcv hcl ?_
      refine lv_astore (lv' := [(6, .ref q9), (0, .ref (ad 7 0)), (1, .int t), (2, .int u), (3, .int g), (4, .int v), (5, .ref (ad 90 0))]) hx hb dL_thing_21 hl (by decide) rfl (fun ls hl => ?_)
      refine lv_iconst (v := 2) hx hb dL_thing_23 (by decide) ?_
      have hO : f_L_thing t u g v σ = (2, σ) := by rw [f_L_thing, if_neg (by rw [e_1]; exact fun q => nomatch q), if_neg (by rw [e_1]; decide), if_pos e_1]
      exact w_iretS hC hW hS hO (Nat.le_of_ble_eq_true rfl) (Nat.le_of_ble_eq_true rfl) dL_thing_24
    · refine vx_catch (name := "java/lang/IllegalStateException") hC.2.2.2.1 [⟨0, 14, 17, 13⟩, ⟨0, 14, 21, 25⟩] ⟨0, 14, 25, 15⟩ [] (by rw [htab]; rfl) (fun z hz => by
        simp only [List.mem_cons, List.not_mem_nil, or_false] at hz
        rcases hz with rfl | rfl
        · exact Or.inr ⟨by decide, "java/lang/IndexOutOfBoundsException", hC.2.2.2.2.1 _ q_356, hN ("java/lang/IllegalStateException", "java/lang/IndexOutOfBoundsException") (by decide)⟩
        · exact Or.inr ⟨by decide, "java/lang/IllegalArgumentException", hC.2.2.2.2.1 _ q_484, hN ("java/lang/IllegalStateException", "java/lang/IllegalArgumentException") (by decide)⟩) (by decide) (by decide) (hC.2.2.2.2.1 _ q_357) (va_Nw.use rfl (hC.2.2.2.2.2.2.2.1.2.1 _ (by decide))) hce hcv hcl ?_
      refine lv_astore (lv' := [(6, .ref q9), (0, .ref (ad 7 0)), (1, .int t), (2, .int u), (3, .int g), (4, .int v), (5, .ref (ad 90 0))]) hx hb dL_thing_25 hl (by decide) rfl (fun ls hl => ?_)
      refine lv_iconst (v := 3) hx hb dL_thing_27 (by decide) ?_
      have hO : f_L_thing t u g v σ = (3, σ) := by rw [f_L_thing, if_neg (by rw [e_1]; exact fun q => nomatch q), if_neg (by rw [e_1]; decide), if_neg (by rw [e_1]; decide)]
      exact w_iretS hC hW hS hO (Nat.le_of_ble_eq_true rfl) (Nat.le_of_ble_eq_true rfl) dL_thing_28
  refine lv_i2l hx hb dL_thing_12 rfl ?_
  refine w_last hC hW hS m_90 (v := (m_X7_thing t u g v σ).2.1) rfl (vp_lit (by decide)) dL_thing_13 (fun H locs hW hS => ?_)
  rw [show Int32.toNatClampNeg 0 = 0 by decide] at hW
  refine lv_goto (tgt := 29) hx hb dL_thing_14 (by decide) ?_
  refine lv_iconst (v := 0) hx hb dL_thing_29 (by decide) ?_
  have hO : f_L_thing t u g v σ = (0, us ((m_X7_thing t u g v σ).2.2) 90 0 0 ((m_X7_thing t u g v σ).2.1)) := by rw [f_L_thing, if_pos e_1]
  exact w_iretS hC hW hS hO (Nat.le_of_ble_eq_true rfl) (Nat.le_of_ble_eq_true rfl) dL_thing_30
theorem fr_L_thing {kk : Nat}  {t : Int32} {u : Int32} {g : Int32} {v : Int32} {σ : Sg} (h5 : kk ≠ 5) (h7 : kk ≠ 7) (h20 : kk ≠ 20) (h90 : kk ≠ 90) : (f_L_thing t u g v σ).2 kk = σ kk := by
  rw [f_L_thing]
  repeat' split
  all_goals (first | (simp only [us_kk, ne_eq, not_false_eq_true, h5, h7, h20, h90, fr_X7_thing]; done) | with_reducible rfl | (simp only [us_kk, ne_eq, not_false_eq_true, h5, h7, h20, h90, fr_X7_thing]; with_reducible rfl))
def f_L_type (t : Int32) (v : Int32) (σ : Sg) : Int32 × Sg :=
  if (m_X7_type t v σ).1 = none then (0, us ((m_X7_type t v σ).2.2) 90 0 0 ((m_X7_type t v σ).2.1))
  else if (m_X7_type t v σ).1 = some "java/lang/IndexOutOfBoundsException" then (1, σ)
  else (2, σ)
set_option maxHeartbeats 4000000 in
set_option maxRecDepth 100000 in
theorem c_L_type (l : Launch) (hl9 : l.stackTraces = false) (D : va_G) (ca : Nat → ClassId) (base : Nat) (ad : Adr) (σ : Sg) (t : Int32) (v : Int32) (hI : CInv σ) : Ml l yL_type cL_type 5 (some .int) [(0, 10, 13, 13), (0, 10, 17, 25)] { frames := 9, cells := 2, slots := 12, locals := 166 } D ca base ad ρm Lm [.ref (ad 7 0), .int t, .int v, .ref (ad 90 0)] σ (some (.int (f_L_type t v σ).1)) (f_L_type t v σ).2 := by
  refine w_ofL (by decide) (Nat.le_of_ble_eq_true rfl) rfl ?_
  intro p e s m args below meth c hC hN htab hW hS ls hl
  have hx := hC.1
  have hb := hC.2.1
  refine lv_aload_n hx hb dL_type_0 rfl (lv_at hl 3 rfl) ?_
  refine lv_iconst (v := 0) hx hb dL_type_1 (by decide) ?_
  refine lv_aload_n hx hb dL_type_2 rfl (lv_at hl 0 rfl) ?_
  refine lv_iload_n hx hb dL_type_3 rfl (lv_at hl 1 rfl) ?_
  refine lv_iload_n hx hb dL_type_4 rfl (lv_at hl 2 rfl) ?_
  refine w_callVX (As := [.int t, .int v]) (rest := .int 0 :: .ref (ad 90 0) :: []) (st2 := .int ((m_X7_type t v σ).2.1) :: .int 0 :: .ref (ad 90 0) :: []) hC hW hS hl cv_L_27 m_7 (by decide) rfl (c_X7_type l hl9 D ca base ad σ t v (by first | assumption | decide | omega)) rfl rfl rfl ⟨Nat.le_of_ble_eq_true rfl, Nat.le_of_ble_eq_true rfl⟩ (Nat.le_of_ble_eq_true rfl) dL_type_5 ⟨Nat.le_of_ble_eq_true rfl, Nat.le_of_ble_eq_true rfl⟩ (fun E ce q9 H locs e_1 hW hS hce hcv hcl => ?_) (fun e_1 H locs hW hS => ?_)
  · have hE := er_X7_type e_1
    rcases hE with rfl | rfl
    · refine vx_catch (name := "java/lang/IndexOutOfBoundsException") hC.2.2.2.1 [] ⟨0, 10, 13, 13⟩ [⟨0, 10, 17, 25⟩] (by rw [htab]; rfl) (fun z hz => nomatch hz) (by decide) (by decide) (hC.2.2.2.2.1 _ q_356) (va_Nw.use rfl (hC.2.2.2.2.2.2.2.1.2.1 _ (by decide))) hce hcv hcl ?_
      refine lv_astore (lv' := [(4, .ref q9), (0, .ref (ad 7 0)), (1, .int t), (2, .int v), (3, .ref (ad 90 0))]) hx hb dL_type_13 hl (by decide) rfl (fun ls hl => ?_)
      refine lv_iconst (v := 1) hx hb dL_type_15 (by decide) ?_
      have hO : f_L_type t v σ = (1, σ) := by rw [f_L_type, if_neg (by rw [e_1]; exact fun q => nomatch q), if_pos e_1]
      exact w_iretS hC hW hS hO (Nat.le_of_ble_eq_true rfl) (Nat.le_of_ble_eq_true rfl) dL_type_16
    · refine vx_catch (name := "java/lang/IllegalArgumentException") hC.2.2.2.1 [⟨0, 10, 13, 13⟩] ⟨0, 10, 17, 25⟩ [] (by rw [htab]; rfl) (fun z hz => by
        simp only [List.mem_cons, List.not_mem_nil, or_false] at hz
        rcases hz with rfl
        · exact Or.inr ⟨by decide, "java/lang/IndexOutOfBoundsException", hC.2.2.2.2.1 _ q_356, hN ("java/lang/IllegalArgumentException", "java/lang/IndexOutOfBoundsException") (by decide)⟩) (by decide) (by decide) (hC.2.2.2.2.1 _ q_484) (va_Nw.use rfl (hC.2.2.2.2.2.2.2.1.2.1 _ (by decide))) hce hcv hcl ?_
      refine lv_astore (lv' := [(4, .ref q9), (0, .ref (ad 7 0)), (1, .int t), (2, .int v), (3, .ref (ad 90 0))]) hx hb dL_type_17 hl (by decide) rfl (fun ls hl => ?_)
      refine lv_iconst (v := 2) hx hb dL_type_19 (by decide) ?_
      have hO : f_L_type t v σ = (2, σ) := by rw [f_L_type, if_neg (by rw [e_1]; exact fun q => nomatch q), if_neg (by rw [e_1]; decide)]
      exact w_iretS hC hW hS hO (Nat.le_of_ble_eq_true rfl) (Nat.le_of_ble_eq_true rfl) dL_type_20
  refine lv_i2l hx hb dL_type_8 rfl ?_
  refine w_last hC hW hS m_90 (v := (m_X7_type t v σ).2.1) rfl (vp_lit (by decide)) dL_type_9 (fun H locs hW hS => ?_)
  rw [show Int32.toNatClampNeg 0 = 0 by decide] at hW
  refine lv_goto (tgt := 21) hx hb dL_type_10 (by decide) ?_
  refine lv_iconst (v := 0) hx hb dL_type_21 (by decide) ?_
  have hO : f_L_type t v σ = (0, us ((m_X7_type t v σ).2.2) 90 0 0 ((m_X7_type t v σ).2.1)) := by rw [f_L_type, if_pos e_1]
  exact w_iretS hC hW hS hO (Nat.le_of_ble_eq_true rfl) (Nat.le_of_ble_eq_true rfl) dL_type_22
theorem fr_L_type {kk : Nat}  {t : Int32} {v : Int32} {σ : Sg} (h5 : kk ≠ 5) (h90 : kk ≠ 90) : (f_L_type t v σ).2 kk = σ kk := by
  rw [f_L_type]
  repeat' split
  all_goals (first | (simp only [us_kk, ne_eq, not_false_eq_true, h5, h90, fr_X7_type]; done) | with_reducible rfl | (simp only [us_kk, ne_eq, not_false_eq_true, h5, h90, fr_X7_type]; with_reducible rfl))
def f_L_mode (k : Int32) (t : Int32) (v : Int32) (σ : Sg) : Int32 × Sg :=
  if (m_X7_mode k t v σ).1 = none then (0, us ((m_X7_mode k t v σ).2.2) 90 0 0 ((m_X7_mode k t v σ).2.1))
  else if (m_X7_mode k t v σ).1 = some "java/lang/IndexOutOfBoundsException" then (1, σ)
  else if (m_X7_mode k t v σ).1 = some "java/lang/IllegalArgumentException" then (2, σ)
  else (3, σ)
set_option maxHeartbeats 4000000 in
set_option maxRecDepth 100000 in
theorem c_L_mode (l : Launch) (hl9 : l.stackTraces = false) (D : va_G) (ca : Nat → ClassId) (base : Nat) (ad : Adr) (σ : Sg) (k : Int32) (t : Int32) (v : Int32) (hI : CInv σ) : Ml l yL_mode cL_mode 6 (some .int) [(0, 12, 15, 13), (0, 12, 19, 25), (0, 12, 23, 35)] { frames := 9, cells := 4, slots := 24, locals := 168 } D ca base ad ρm Lm [.ref (ad 7 0), .int k, .int t, .int v, .ref (ad 90 0)] σ (some (.int (f_L_mode k t v σ).1)) (f_L_mode k t v σ).2 := by
  refine w_ofL (by decide) (Nat.le_of_ble_eq_true rfl) rfl ?_
  intro p e s m args below meth c hC hN htab hW hS ls hl
  have hx := hC.1
  have hb := hC.2.1
  refine lv_aload hx hb dL_mode_0 (lv_at hl 4 rfl) ?_
  refine lv_iconst (v := 0) hx hb dL_mode_2 (by decide) ?_
  refine lv_aload_n hx hb dL_mode_3 rfl (lv_at hl 0 rfl) ?_
  refine lv_iload_n hx hb dL_mode_4 rfl (lv_at hl 1 rfl) ?_
  refine lv_iload_n hx hb dL_mode_5 rfl (lv_at hl 2 rfl) ?_
  refine lv_iload_n hx hb dL_mode_6 rfl (lv_at hl 3 rfl) ?_
  refine w_callVX (As := [.int k, .int t, .int v]) (rest := .int 0 :: .ref (ad 90 0) :: []) (st2 := .int ((m_X7_mode k t v σ).2.1) :: .int 0 :: .ref (ad 90 0) :: []) hC hW hS hl cv_L_31 m_7 (by decide) rfl (c_X7_mode l hl9 D ca base ad σ k t v (by first | assumption | decide | omega)) rfl rfl rfl ⟨Nat.le_of_ble_eq_true rfl, Nat.le_of_ble_eq_true rfl⟩ (Nat.le_of_ble_eq_true rfl) dL_mode_7 ⟨Nat.le_of_ble_eq_true rfl, Nat.le_of_ble_eq_true rfl⟩ (fun E ce q9 H locs e_1 hW hS hce hcv hcl => ?_) (fun e_1 H locs hW hS => ?_)
  · have hE := er_X7_mode e_1
    rcases hE with rfl | rfl | rfl
    · refine vx_catch (name := "java/lang/IndexOutOfBoundsException") hC.2.2.2.1 [] ⟨0, 12, 15, 13⟩ [⟨0, 12, 19, 25⟩, ⟨0, 12, 23, 35⟩] (by rw [htab]; rfl) (fun z hz => nomatch hz) (by decide) (by decide) (hC.2.2.2.2.1 _ q_356) (va_Nw.use rfl (hC.2.2.2.2.2.2.2.1.2.1 _ (by decide))) hce hcv hcl ?_
      refine lv_astore (lv' := [(5, .ref q9), (0, .ref (ad 7 0)), (1, .int k), (2, .int t), (3, .int v), (4, .ref (ad 90 0))]) hx hb dL_mode_15 hl (by decide) rfl (fun ls hl => ?_)
      refine lv_iconst (v := 1) hx hb dL_mode_17 (by decide) ?_
      have hO : f_L_mode k t v σ = (1, σ) := by rw [f_L_mode, if_neg (by rw [e_1]; exact fun q => nomatch q), if_pos e_1]
      exact w_iretS hC hW hS hO (Nat.le_of_ble_eq_true rfl) (Nat.le_of_ble_eq_true rfl) dL_mode_18
    · refine vx_catch (name := "java/lang/IllegalArgumentException") hC.2.2.2.1 [⟨0, 12, 15, 13⟩] ⟨0, 12, 19, 25⟩ [⟨0, 12, 23, 35⟩] (by rw [htab]; rfl) (fun z hz => by
        simp only [List.mem_cons, List.not_mem_nil, or_false] at hz
        rcases hz with rfl
        · exact Or.inr ⟨by decide, "java/lang/IndexOutOfBoundsException", hC.2.2.2.2.1 _ q_356, hN ("java/lang/IllegalArgumentException", "java/lang/IndexOutOfBoundsException") (by decide)⟩) (by decide) (by decide) (hC.2.2.2.2.1 _ q_484) (va_Nw.use rfl (hC.2.2.2.2.2.2.2.1.2.1 _ (by decide))) hce hcv hcl ?_
      refine lv_astore (lv' := [(5, .ref q9), (0, .ref (ad 7 0)), (1, .int k), (2, .int t), (3, .int v), (4, .ref (ad 90 0))]) hx hb dL_mode_19 hl (by decide) rfl (fun ls hl => ?_)
      refine lv_iconst (v := 2) hx hb dL_mode_21 (by decide) ?_
      have hO : f_L_mode k t v σ = (2, σ) := by rw [f_L_mode, if_neg (by rw [e_1]; exact fun q => nomatch q), if_neg (by rw [e_1]; decide), if_pos e_1]
      exact w_iretS hC hW hS hO (Nat.le_of_ble_eq_true rfl) (Nat.le_of_ble_eq_true rfl) dL_mode_22
    · refine vx_catch (name := "java/lang/UnsupportedOperationException") hC.2.2.2.1 [⟨0, 12, 15, 13⟩, ⟨0, 12, 19, 25⟩] ⟨0, 12, 23, 35⟩ [] (by rw [htab]; rfl) (fun z hz => by
        simp only [List.mem_cons, List.not_mem_nil, or_false] at hz
        rcases hz with rfl | rfl
        · exact Or.inr ⟨by decide, "java/lang/IndexOutOfBoundsException", hC.2.2.2.2.1 _ q_356, hN ("java/lang/UnsupportedOperationException", "java/lang/IndexOutOfBoundsException") (by decide)⟩
        · exact Or.inr ⟨by decide, "java/lang/IllegalArgumentException", hC.2.2.2.2.1 _ q_484, hN ("java/lang/UnsupportedOperationException", "java/lang/IllegalArgumentException") (by decide)⟩) (by decide) (by decide) (hC.2.2.2.2.1 _ q_534) (va_Nw.use rfl (hC.2.2.2.2.2.2.2.1.2.1 _ (by decide))) hce hcv hcl ?_
      refine lv_astore (lv' := [(5, .ref q9), (0, .ref (ad 7 0)), (1, .int k), (2, .int t), (3, .int v), (4, .ref (ad 90 0))]) hx hb dL_mode_23 hl (by decide) rfl (fun ls hl => ?_)
      refine lv_iconst (v := 3) hx hb dL_mode_25 (by decide) ?_
      have hO : f_L_mode k t v σ = (3, σ) := by rw [f_L_mode, if_neg (by rw [e_1]; exact fun q => nomatch q), if_neg (by rw [e_1]; decide), if_neg (by rw [e_1]; decide)]
      exact w_iretS hC hW hS hO (Nat.le_of_ble_eq_true rfl) (Nat.le_of_ble_eq_true rfl) dL_mode_26
  refine lv_i2l hx hb dL_mode_10 rfl ?_
  refine w_last hC hW hS m_90 (v := (m_X7_mode k t v σ).2.1) rfl (vp_lit (by decide)) dL_mode_11 (fun H locs hW hS => ?_)
  rw [show Int32.toNatClampNeg 0 = 0 by decide] at hW
  refine lv_goto (tgt := 27) hx hb dL_mode_12 (by decide) ?_
  refine lv_iconst (v := 0) hx hb dL_mode_27 (by decide) ?_
  have hO : f_L_mode k t v σ = (0, us ((m_X7_mode k t v σ).2.2) 90 0 0 ((m_X7_mode k t v σ).2.1)) := by rw [f_L_mode, if_pos e_1]
  exact w_iretS hC hW hS hO (Nat.le_of_ble_eq_true rfl) (Nat.le_of_ble_eq_true rfl) dL_mode_28
theorem fr_L_mode {kk : Nat}  {k : Int32} {t : Int32} {v : Int32} {σ : Sg} (h5 : kk ≠ 5) (h90 : kk ≠ 90) : (f_L_mode k t v σ).2 kk = σ kk := by
  rw [f_L_mode]
  repeat' split
  all_goals (first | (simp only [us_kk, ne_eq, not_false_eq_true, h5, h90, fr_X7_mode]; done) | with_reducible rfl | (simp only [us_kk, ne_eq, not_false_eq_true, h5, h90, fr_X7_mode]; with_reducible rfl))
def f_L_mask (k : Int32) (t : Int32) (v : Int32) (σ : Sg) : Int32 × Sg :=
  if (m_X7_mask k t v σ).1 = none then (0, us ((m_X7_mask k t v σ).2.2) 90 0 0 ((m_X7_mask k t v σ).2.1))
  else if (m_X7_mask k t v σ).1 = some "java/lang/IndexOutOfBoundsException" then (1, σ)
  else if (m_X7_mask k t v σ).1 = some "java/lang/IllegalArgumentException" then (2, σ)
  else (3, σ)
set_option maxHeartbeats 4000000 in
set_option maxRecDepth 100000 in
theorem c_L_mask (l : Launch) (hl9 : l.stackTraces = false) (D : va_G) (ca : Nat → ClassId) (base : Nat) (ad : Adr) (σ : Sg) (k : Int32) (t : Int32) (v : Int32) (hI : CInv σ) : Ml l yL_mask cL_mask 6 (some .int) [(0, 12, 15, 13), (0, 12, 19, 25), (0, 12, 23, 35)] { frames := 9, cells := 4, slots := 24, locals := 168 } D ca base ad ρm Lm [.ref (ad 7 0), .int k, .int t, .int v, .ref (ad 90 0)] σ (some (.int (f_L_mask k t v σ).1)) (f_L_mask k t v σ).2 := by
  refine w_ofL (by decide) (Nat.le_of_ble_eq_true rfl) rfl ?_
  intro p e s m args below meth c hC hN htab hW hS ls hl
  have hx := hC.1
  have hb := hC.2.1
  refine lv_aload hx hb dL_mask_0 (lv_at hl 4 rfl) ?_
  refine lv_iconst (v := 0) hx hb dL_mask_2 (by decide) ?_
  refine lv_aload_n hx hb dL_mask_3 rfl (lv_at hl 0 rfl) ?_
  refine lv_iload_n hx hb dL_mask_4 rfl (lv_at hl 1 rfl) ?_
  refine lv_iload_n hx hb dL_mask_5 rfl (lv_at hl 2 rfl) ?_
  refine lv_iload_n hx hb dL_mask_6 rfl (lv_at hl 3 rfl) ?_
  refine w_callVX (As := [.int k, .int t, .int v]) (rest := .int 0 :: .ref (ad 90 0) :: []) (st2 := .int ((m_X7_mask k t v σ).2.1) :: .int 0 :: .ref (ad 90 0) :: []) hC hW hS hl cv_L_37 m_7 (by decide) rfl (c_X7_mask l hl9 D ca base ad σ k t v (by first | assumption | decide | omega)) rfl rfl rfl ⟨Nat.le_of_ble_eq_true rfl, Nat.le_of_ble_eq_true rfl⟩ (Nat.le_of_ble_eq_true rfl) dL_mask_7 ⟨Nat.le_of_ble_eq_true rfl, Nat.le_of_ble_eq_true rfl⟩ (fun E ce q9 H locs e_1 hW hS hce hcv hcl => ?_) (fun e_1 H locs hW hS => ?_)
  · have hE := er_X7_mask e_1
    rcases hE with rfl | rfl | rfl
    · refine vx_catch (name := "java/lang/IndexOutOfBoundsException") hC.2.2.2.1 [] ⟨0, 12, 15, 13⟩ [⟨0, 12, 19, 25⟩, ⟨0, 12, 23, 35⟩] (by rw [htab]; rfl) (fun z hz => nomatch hz) (by decide) (by decide) (hC.2.2.2.2.1 _ q_356) (va_Nw.use rfl (hC.2.2.2.2.2.2.2.1.2.1 _ (by decide))) hce hcv hcl ?_
      refine lv_astore (lv' := [(5, .ref q9), (0, .ref (ad 7 0)), (1, .int k), (2, .int t), (3, .int v), (4, .ref (ad 90 0))]) hx hb dL_mask_15 hl (by decide) rfl (fun ls hl => ?_)
      refine lv_iconst (v := 1) hx hb dL_mask_17 (by decide) ?_
      have hO : f_L_mask k t v σ = (1, σ) := by rw [f_L_mask, if_neg (by rw [e_1]; exact fun q => nomatch q), if_pos e_1]
      exact w_iretS hC hW hS hO (Nat.le_of_ble_eq_true rfl) (Nat.le_of_ble_eq_true rfl) dL_mask_18
    · refine vx_catch (name := "java/lang/IllegalArgumentException") hC.2.2.2.1 [⟨0, 12, 15, 13⟩] ⟨0, 12, 19, 25⟩ [⟨0, 12, 23, 35⟩] (by rw [htab]; rfl) (fun z hz => by
        simp only [List.mem_cons, List.not_mem_nil, or_false] at hz
        rcases hz with rfl
        · exact Or.inr ⟨by decide, "java/lang/IndexOutOfBoundsException", hC.2.2.2.2.1 _ q_356, hN ("java/lang/IllegalArgumentException", "java/lang/IndexOutOfBoundsException") (by decide)⟩) (by decide) (by decide) (hC.2.2.2.2.1 _ q_484) (va_Nw.use rfl (hC.2.2.2.2.2.2.2.1.2.1 _ (by decide))) hce hcv hcl ?_
      refine lv_astore (lv' := [(5, .ref q9), (0, .ref (ad 7 0)), (1, .int k), (2, .int t), (3, .int v), (4, .ref (ad 90 0))]) hx hb dL_mask_19 hl (by decide) rfl (fun ls hl => ?_)
      refine lv_iconst (v := 2) hx hb dL_mask_21 (by decide) ?_
      have hO : f_L_mask k t v σ = (2, σ) := by rw [f_L_mask, if_neg (by rw [e_1]; exact fun q => nomatch q), if_neg (by rw [e_1]; decide), if_pos e_1]
      exact w_iretS hC hW hS hO (Nat.le_of_ble_eq_true rfl) (Nat.le_of_ble_eq_true rfl) dL_mask_22
    · refine vx_catch (name := "java/lang/UnsupportedOperationException") hC.2.2.2.1 [⟨0, 12, 15, 13⟩, ⟨0, 12, 19, 25⟩] ⟨0, 12, 23, 35⟩ [] (by rw [htab]; rfl) (fun z hz => by
        simp only [List.mem_cons, List.not_mem_nil, or_false] at hz
        rcases hz with rfl | rfl
        · exact Or.inr ⟨by decide, "java/lang/IndexOutOfBoundsException", hC.2.2.2.2.1 _ q_356, hN ("java/lang/UnsupportedOperationException", "java/lang/IndexOutOfBoundsException") (by decide)⟩
        · exact Or.inr ⟨by decide, "java/lang/IllegalArgumentException", hC.2.2.2.2.1 _ q_484, hN ("java/lang/UnsupportedOperationException", "java/lang/IllegalArgumentException") (by decide)⟩) (by decide) (by decide) (hC.2.2.2.2.1 _ q_534) (va_Nw.use rfl (hC.2.2.2.2.2.2.2.1.2.1 _ (by decide))) hce hcv hcl ?_
      refine lv_astore (lv' := [(5, .ref q9), (0, .ref (ad 7 0)), (1, .int k), (2, .int t), (3, .int v), (4, .ref (ad 90 0))]) hx hb dL_mask_23 hl (by decide) rfl (fun ls hl => ?_)
      refine lv_iconst (v := 3) hx hb dL_mask_25 (by decide) ?_
      have hO : f_L_mask k t v σ = (3, σ) := by rw [f_L_mask, if_neg (by rw [e_1]; exact fun q => nomatch q), if_neg (by rw [e_1]; decide), if_neg (by rw [e_1]; decide)]
      exact w_iretS hC hW hS hO (Nat.le_of_ble_eq_true rfl) (Nat.le_of_ble_eq_true rfl) dL_mask_26
  refine lv_i2l hx hb dL_mask_10 rfl ?_
  refine w_last hC hW hS m_90 (v := (m_X7_mask k t v σ).2.1) rfl (vp_lit (by decide)) dL_mask_11 (fun H locs hW hS => ?_)
  rw [show Int32.toNatClampNeg 0 = 0 by decide] at hW
  refine lv_goto (tgt := 27) hx hb dL_mask_12 (by decide) ?_
  refine lv_iconst (v := 0) hx hb dL_mask_27 (by decide) ?_
  have hO : f_L_mask k t v σ = (0, us ((m_X7_mask k t v σ).2.2) 90 0 0 ((m_X7_mask k t v σ).2.1)) := by rw [f_L_mask, if_pos e_1]
  exact w_iretS hC hW hS hO (Nat.le_of_ble_eq_true rfl) (Nat.le_of_ble_eq_true rfl) dL_mask_28
theorem fr_L_mask {kk : Nat}  {k : Int32} {t : Int32} {v : Int32} {σ : Sg} (h5 : kk ≠ 5) (h90 : kk ≠ 90) : (f_L_mask k t v σ).2 kk = σ kk := by
  rw [f_L_mask]
  repeat' split
  all_goals (first | (simp only [us_kk, ne_eq, not_false_eq_true, h5, h90, fr_X7_mask]; done) | with_reducible rfl | (simp only [us_kk, ne_eq, not_false_eq_true, h5, h90, fr_X7_mask]; with_reducible rfl))
def f_L_entry (k : Int32) (t : Int32) (b : Int32) (u : Int32) (v : Int32) (d : Int32) (σ : Sg) : Int32 × Sg :=
  if (m_X7_entry k t b u v d σ).1 = none then (0, us ((m_X7_entry k t b u v d σ).2.2) 90 0 0 ((m_X7_entry k t b u v d σ).2.1))
  else if (m_X7_entry k t b u v d σ).1 = some "java/lang/IndexOutOfBoundsException" then (1, σ)
  else if (m_X7_entry k t b u v d σ).1 = some "java/lang/IllegalArgumentException" then (2, σ)
  else if (m_X7_entry k t b u v d σ).1 = some "java/lang/UnsupportedOperationException" then (3, σ)
  else (4, σ)
set_option maxHeartbeats 4000000 in
set_option maxRecDepth 100000 in
theorem c_L_entry (l : Launch) (hl9 : l.stackTraces = false) (D : va_G) (ca : Nat → ClassId) (base : Nat) (ad : Adr) (σ : Sg) (k : Int32) (t : Int32) (b : Int32) (u : Int32) (v : Int32) (d : Int32) (hI : CInv σ) : Ml l yL_entry cL_entry 9 (some .int) [(0, 18, 21, 13), (0, 18, 25, 25), (0, 18, 29, 35), (0, 18, 33, 15)] { frames := 9, cells := 12, slots := 72, locals := 172 } D ca base ad ρm Lm [.ref (ad 7 0), .int k, .int t, .int b, .int u, .int v, .int d, .ref (ad 90 0)] σ (some (.int (f_L_entry k t b u v d σ).1)) (f_L_entry k t b u v d σ).2 := by
  refine w_ofL (by decide) (Nat.le_of_ble_eq_true rfl) rfl ?_
  intro p e s m args below meth c hC hN htab hW hS ls hl
  have hx := hC.1
  have hb := hC.2.1
  refine lv_aload hx hb dL_entry_0 (lv_at hl 7 rfl) ?_
  refine lv_iconst (v := 0) hx hb dL_entry_2 (by decide) ?_
  refine lv_aload_n hx hb dL_entry_3 rfl (lv_at hl 0 rfl) ?_
  refine lv_iload_n hx hb dL_entry_4 rfl (lv_at hl 1 rfl) ?_
  refine lv_iload_n hx hb dL_entry_5 rfl (lv_at hl 2 rfl) ?_
  refine lv_iload_n hx hb dL_entry_6 rfl (lv_at hl 3 rfl) ?_
  refine lv_iload hx hb dL_entry_7 (lv_at hl 4 rfl) ?_
  refine lv_iload hx hb dL_entry_9 (lv_at hl 5 rfl) ?_
  refine lv_iload hx hb dL_entry_11 (lv_at hl 6 rfl) ?_
  refine w_callVX (As := [.int k, .int t, .int b, .int u, .int v, .int d]) (rest := .int 0 :: .ref (ad 90 0) :: []) (st2 := .int ((m_X7_entry k t b u v d σ).2.1) :: .int 0 :: .ref (ad 90 0) :: []) hC hW hS hl cv_L_40 m_7 (by decide) rfl (c_X7_entry l hl9 D ca base ad σ k t b u v d (by first | assumption | decide | omega)) rfl rfl rfl ⟨Nat.le_of_ble_eq_true rfl, Nat.le_of_ble_eq_true rfl⟩ (Nat.le_of_ble_eq_true rfl) dL_entry_13 ⟨Nat.le_of_ble_eq_true rfl, Nat.le_of_ble_eq_true rfl⟩ (fun E ce q9 H locs e_1 hW hS hce hcv hcl => ?_) (fun e_1 H locs hW hS => ?_)
  · have hE := er_X7_entry e_1
    rcases hE with rfl | rfl | rfl | rfl
    · refine vx_catch (name := "java/lang/IndexOutOfBoundsException") hC.2.2.2.1 [] ⟨0, 18, 21, 13⟩ [⟨0, 18, 25, 25⟩, ⟨0, 18, 29, 35⟩, ⟨0, 18, 33, 15⟩] (by rw [htab]; rfl) (fun z hz => nomatch hz) (by decide) (by decide) (hC.2.2.2.2.1 _ q_356) (va_Nw.use rfl (hC.2.2.2.2.2.2.2.1.2.1 _ (by decide))) hce hcv hcl ?_
      refine lv_astore (lv' := [(8, .ref q9), (0, .ref (ad 7 0)), (1, .int k), (2, .int t), (3, .int b), (4, .int u), (5, .int v), (6, .int d), (7, .ref (ad 90 0))]) hx hb dL_entry_21 hl (by decide) rfl (fun ls hl => ?_)
      refine lv_iconst (v := 1) hx hb dL_entry_23 (by decide) ?_
      have hO : f_L_entry k t b u v d σ = (1, σ) := by rw [f_L_entry, if_neg (by rw [e_1]; exact fun q => nomatch q), if_pos e_1]
      exact w_iretS hC hW hS hO (Nat.le_of_ble_eq_true rfl) (Nat.le_of_ble_eq_true rfl) dL_entry_24
    · refine vx_catch (name := "java/lang/IllegalArgumentException") hC.2.2.2.1 [⟨0, 18, 21, 13⟩] ⟨0, 18, 25, 25⟩ [⟨0, 18, 29, 35⟩, ⟨0, 18, 33, 15⟩] (by rw [htab]; rfl) (fun z hz => by
        simp only [List.mem_cons, List.not_mem_nil, or_false] at hz
        rcases hz with rfl
        · exact Or.inr ⟨by decide, "java/lang/IndexOutOfBoundsException", hC.2.2.2.2.1 _ q_356, hN ("java/lang/IllegalArgumentException", "java/lang/IndexOutOfBoundsException") (by decide)⟩) (by decide) (by decide) (hC.2.2.2.2.1 _ q_484) (va_Nw.use rfl (hC.2.2.2.2.2.2.2.1.2.1 _ (by decide))) hce hcv hcl ?_
      refine lv_astore (lv' := [(8, .ref q9), (0, .ref (ad 7 0)), (1, .int k), (2, .int t), (3, .int b), (4, .int u), (5, .int v), (6, .int d), (7, .ref (ad 90 0))]) hx hb dL_entry_25 hl (by decide) rfl (fun ls hl => ?_)
      refine lv_iconst (v := 2) hx hb dL_entry_27 (by decide) ?_
      have hO : f_L_entry k t b u v d σ = (2, σ) := by rw [f_L_entry, if_neg (by rw [e_1]; exact fun q => nomatch q), if_neg (by rw [e_1]; decide), if_pos e_1]
      exact w_iretS hC hW hS hO (Nat.le_of_ble_eq_true rfl) (Nat.le_of_ble_eq_true rfl) dL_entry_28
    · refine vx_catch (name := "java/lang/UnsupportedOperationException") hC.2.2.2.1 [⟨0, 18, 21, 13⟩, ⟨0, 18, 25, 25⟩] ⟨0, 18, 29, 35⟩ [⟨0, 18, 33, 15⟩] (by rw [htab]; rfl) (fun z hz => by
        simp only [List.mem_cons, List.not_mem_nil, or_false] at hz
        rcases hz with rfl | rfl
        · exact Or.inr ⟨by decide, "java/lang/IndexOutOfBoundsException", hC.2.2.2.2.1 _ q_356, hN ("java/lang/UnsupportedOperationException", "java/lang/IndexOutOfBoundsException") (by decide)⟩
        · exact Or.inr ⟨by decide, "java/lang/IllegalArgumentException", hC.2.2.2.2.1 _ q_484, hN ("java/lang/UnsupportedOperationException", "java/lang/IllegalArgumentException") (by decide)⟩) (by decide) (by decide) (hC.2.2.2.2.1 _ q_534) (va_Nw.use rfl (hC.2.2.2.2.2.2.2.1.2.1 _ (by decide))) hce hcv hcl ?_
      refine lv_astore (lv' := [(8, .ref q9), (0, .ref (ad 7 0)), (1, .int k), (2, .int t), (3, .int b), (4, .int u), (5, .int v), (6, .int d), (7, .ref (ad 90 0))]) hx hb dL_entry_29 hl (by decide) rfl (fun ls hl => ?_)
      refine lv_iconst (v := 3) hx hb dL_entry_31 (by decide) ?_
      have hO : f_L_entry k t b u v d σ = (3, σ) := by rw [f_L_entry, if_neg (by rw [e_1]; exact fun q => nomatch q), if_neg (by rw [e_1]; decide), if_neg (by rw [e_1]; decide), if_pos e_1]
      exact w_iretS hC hW hS hO (Nat.le_of_ble_eq_true rfl) (Nat.le_of_ble_eq_true rfl) dL_entry_32
    · refine vx_catch (name := "java/lang/IllegalStateException") hC.2.2.2.1 [⟨0, 18, 21, 13⟩, ⟨0, 18, 25, 25⟩, ⟨0, 18, 29, 35⟩] ⟨0, 18, 33, 15⟩ [] (by rw [htab]; rfl) (fun z hz => by
        simp only [List.mem_cons, List.not_mem_nil, or_false] at hz
        rcases hz with rfl | rfl | rfl
        · exact Or.inr ⟨by decide, "java/lang/IndexOutOfBoundsException", hC.2.2.2.2.1 _ q_356, hN ("java/lang/IllegalStateException", "java/lang/IndexOutOfBoundsException") (by decide)⟩
        · exact Or.inr ⟨by decide, "java/lang/IllegalArgumentException", hC.2.2.2.2.1 _ q_484, hN ("java/lang/IllegalStateException", "java/lang/IllegalArgumentException") (by decide)⟩
        · exact Or.inr ⟨by decide, "java/lang/UnsupportedOperationException", hC.2.2.2.2.1 _ q_534, hN ("java/lang/IllegalStateException", "java/lang/UnsupportedOperationException") (by decide)⟩) (by decide) (by decide) (hC.2.2.2.2.1 _ q_357) (va_Nw.use rfl (hC.2.2.2.2.2.2.2.1.2.1 _ (by decide))) hce hcv hcl ?_
      refine lv_astore (lv' := [(8, .ref q9), (0, .ref (ad 7 0)), (1, .int k), (2, .int t), (3, .int b), (4, .int u), (5, .int v), (6, .int d), (7, .ref (ad 90 0))]) hx hb dL_entry_33 hl (by decide) rfl (fun ls hl => ?_)
      refine lv_iconst (v := 4) hx hb dL_entry_35 (by decide) ?_
      have hO : f_L_entry k t b u v d σ = (4, σ) := by rw [f_L_entry, if_neg (by rw [e_1]; exact fun q => nomatch q), if_neg (by rw [e_1]; decide), if_neg (by rw [e_1]; decide), if_neg (by rw [e_1]; decide)]
      exact w_iretS hC hW hS hO (Nat.le_of_ble_eq_true rfl) (Nat.le_of_ble_eq_true rfl) dL_entry_36
  refine lv_i2l hx hb dL_entry_16 rfl ?_
  refine w_last hC hW hS m_90 (v := (m_X7_entry k t b u v d σ).2.1) rfl (vp_lit (by decide)) dL_entry_17 (fun H locs hW hS => ?_)
  rw [show Int32.toNatClampNeg 0 = 0 by decide] at hW
  refine lv_goto (tgt := 37) hx hb dL_entry_18 (by decide) ?_
  refine lv_iconst (v := 0) hx hb dL_entry_37 (by decide) ?_
  have hO : f_L_entry k t b u v d σ = (0, us ((m_X7_entry k t b u v d σ).2.2) 90 0 0 ((m_X7_entry k t b u v d σ).2.1)) := by rw [f_L_entry, if_pos e_1]
  exact w_iretS hC hW hS hO (Nat.le_of_ble_eq_true rfl) (Nat.le_of_ble_eq_true rfl) dL_entry_38
theorem fr_L_entry {kk : Nat}  {k : Int32} {t : Int32} {b : Int32} {u : Int32} {v : Int32} {d : Int32} {σ : Sg} (h5 : kk ≠ 5) (h20 : kk ≠ 20) (h90 : kk ≠ 90) : (f_L_entry k t b u v d σ).2 kk = σ kk := by
  rw [f_L_entry]
  repeat' split
  all_goals (first | (simp only [us_kk, ne_eq, not_false_eq_true, h5, h20, h90, fr_X7_entry]; done) | with_reducible rfl | (simp only [us_kk, ne_eq, not_false_eq_true, h5, h20, h90, fr_X7_entry]; with_reducible rfl))
def f_L_give (k : Int32) (t : Int32) (v : Int32) (σ : Sg) : Int32 × Sg :=
  if (m_X7_give k t v σ).1 = none then (0, us ((m_X7_give k t v σ).2.2) 90 0 0 ((m_X7_give k t v σ).2.1))
  else if (m_X7_give k t v σ).1 = some "java/lang/IndexOutOfBoundsException" then (1, σ)
  else (2, σ)
set_option maxHeartbeats 4000000 in
set_option maxRecDepth 100000 in
theorem c_L_give (l : Launch) (hl9 : l.stackTraces = false) (D : va_G) (ca : Nat → ClassId) (base : Nat) (ad : Adr) (σ : Sg) (k : Int32) (t : Int32) (v : Int32) (hI : CInv σ) : Ml l yL_give cL_give 6 (some .int) [(0, 12, 15, 13), (0, 12, 19, 35)] { frames := 9, cells := 5, slots := 30, locals := 168 } D ca base ad ρm Lm [.ref (ad 7 0), .int k, .int t, .int v, .ref (ad 90 0)] σ (some (.int (f_L_give k t v σ).1)) (f_L_give k t v σ).2 := by
  refine w_ofL (by decide) (Nat.le_of_ble_eq_true rfl) rfl ?_
  intro p e s m args below meth c hC hN htab hW hS ls hl
  have hx := hC.1
  have hb := hC.2.1
  refine lv_aload hx hb dL_give_0 (lv_at hl 4 rfl) ?_
  refine lv_iconst (v := 0) hx hb dL_give_2 (by decide) ?_
  refine lv_aload_n hx hb dL_give_3 rfl (lv_at hl 0 rfl) ?_
  refine lv_iload_n hx hb dL_give_4 rfl (lv_at hl 1 rfl) ?_
  refine lv_iload_n hx hb dL_give_5 rfl (lv_at hl 2 rfl) ?_
  refine lv_iload_n hx hb dL_give_6 rfl (lv_at hl 3 rfl) ?_
  refine w_callVX (As := [.int k, .int t, .int v]) (rest := .int 0 :: .ref (ad 90 0) :: []) (st2 := .int ((m_X7_give k t v σ).2.1) :: .int 0 :: .ref (ad 90 0) :: []) hC hW hS hl cv_L_44 m_7 (by decide) rfl (c_X7_give l hl9 D ca base ad σ k t v (by first | assumption | decide | omega)) rfl rfl rfl ⟨Nat.le_of_ble_eq_true rfl, Nat.le_of_ble_eq_true rfl⟩ (Nat.le_of_ble_eq_true rfl) dL_give_7 ⟨Nat.le_of_ble_eq_true rfl, Nat.le_of_ble_eq_true rfl⟩ (fun E ce q9 H locs e_1 hW hS hce hcv hcl => ?_) (fun e_1 H locs hW hS => ?_)
  · have hE := er_X7_give e_1
    rcases hE with rfl | rfl
    · refine vx_catch (name := "java/lang/IndexOutOfBoundsException") hC.2.2.2.1 [] ⟨0, 12, 15, 13⟩ [⟨0, 12, 19, 35⟩] (by rw [htab]; rfl) (fun z hz => nomatch hz) (by decide) (by decide) (hC.2.2.2.2.1 _ q_356) (va_Nw.use rfl (hC.2.2.2.2.2.2.2.1.2.1 _ (by decide))) hce hcv hcl ?_
      refine lv_astore (lv' := [(5, .ref q9), (0, .ref (ad 7 0)), (1, .int k), (2, .int t), (3, .int v), (4, .ref (ad 90 0))]) hx hb dL_give_15 hl (by decide) rfl (fun ls hl => ?_)
      refine lv_iconst (v := 1) hx hb dL_give_17 (by decide) ?_
      have hO : f_L_give k t v σ = (1, σ) := by rw [f_L_give, if_neg (by rw [e_1]; exact fun q => nomatch q), if_pos e_1]
      exact w_iretS hC hW hS hO (Nat.le_of_ble_eq_true rfl) (Nat.le_of_ble_eq_true rfl) dL_give_18
    · refine vx_catch (name := "java/lang/UnsupportedOperationException") hC.2.2.2.1 [⟨0, 12, 15, 13⟩] ⟨0, 12, 19, 35⟩ [] (by rw [htab]; rfl) (fun z hz => by
        simp only [List.mem_cons, List.not_mem_nil, or_false] at hz
        rcases hz with rfl
        · exact Or.inr ⟨by decide, "java/lang/IndexOutOfBoundsException", hC.2.2.2.2.1 _ q_356, hN ("java/lang/UnsupportedOperationException", "java/lang/IndexOutOfBoundsException") (by decide)⟩) (by decide) (by decide) (hC.2.2.2.2.1 _ q_534) (va_Nw.use rfl (hC.2.2.2.2.2.2.2.1.2.1 _ (by decide))) hce hcv hcl ?_
      refine lv_astore (lv' := [(5, .ref q9), (0, .ref (ad 7 0)), (1, .int k), (2, .int t), (3, .int v), (4, .ref (ad 90 0))]) hx hb dL_give_19 hl (by decide) rfl (fun ls hl => ?_)
      refine lv_iconst (v := 2) hx hb dL_give_21 (by decide) ?_
      have hO : f_L_give k t v σ = (2, σ) := by rw [f_L_give, if_neg (by rw [e_1]; exact fun q => nomatch q), if_neg (by rw [e_1]; decide)]
      exact w_iretS hC hW hS hO (Nat.le_of_ble_eq_true rfl) (Nat.le_of_ble_eq_true rfl) dL_give_22
  refine lv_i2l hx hb dL_give_10 rfl ?_
  refine w_last hC hW hS m_90 (v := (m_X7_give k t v σ).2.1) rfl (vp_lit (by decide)) dL_give_11 (fun H locs hW hS => ?_)
  rw [show Int32.toNatClampNeg 0 = 0 by decide] at hW
  refine lv_goto (tgt := 23) hx hb dL_give_12 (by decide) ?_
  refine lv_iconst (v := 0) hx hb dL_give_23 (by decide) ?_
  have hO : f_L_give k t v σ = (0, us ((m_X7_give k t v σ).2.2) 90 0 0 ((m_X7_give k t v σ).2.1)) := by rw [f_L_give, if_pos e_1]
  exact w_iretS hC hW hS hO (Nat.le_of_ble_eq_true rfl) (Nat.le_of_ble_eq_true rfl) dL_give_24
theorem fr_L_give {kk : Nat}  {k : Int32} {t : Int32} {v : Int32} {σ : Sg} (h5 : kk ≠ 5) (h90 : kk ≠ 90) : (f_L_give k t v σ).2 kk = σ kk := by
  rw [f_L_give]
  repeat' split
  all_goals (first | (simp only [us_kk, ne_eq, not_false_eq_true, h5, h90, fr_X7_give]; done) | with_reducible rfl | (simp only [us_kk, ne_eq, not_false_eq_true, h5, h90, fr_X7_give]; with_reducible rfl))
def f_L_label (k : Int32) (t : Int32) (v : Int32) (w : Int32) (σ : Sg) : Int32 × Sg :=
  if (m_X7_label k t v w σ).1 = none then (0, us ((m_X7_label k t v w σ).2.2) 90 0 0 ((m_X7_label k t v w σ).2.1))
  else if (m_X7_label k t v w σ).1 = some "java/lang/IndexOutOfBoundsException" then (1, σ)
  else if (m_X7_label k t v w σ).1 = some "java/lang/IllegalArgumentException" then (2, σ)
  else (3, σ)
set_option maxHeartbeats 4000000 in
set_option maxRecDepth 100000 in
theorem c_L_label (l : Launch) (hl9 : l.stackTraces = false) (D : va_G) (ca : Nat → ClassId) (base : Nat) (ad : Adr) (σ : Sg) (k : Int32) (t : Int32) (v : Int32) (w : Int32) (hI : CInv σ) : Ml l yL_label cL_label 7 (some .int) [(0, 14, 17, 13), (0, 14, 21, 25), (0, 14, 25, 35)] { frames := 9, cells := 7, slots := 42, locals := 169 } D ca base ad ρm Lm [.ref (ad 7 0), .int k, .int t, .int v, .int w, .ref (ad 90 0)] σ (some (.int (f_L_label k t v w σ).1)) (f_L_label k t v w σ).2 := by
  refine w_ofL (by decide) (Nat.le_of_ble_eq_true rfl) rfl ?_
  intro p e s m args below meth c hC hN htab hW hS ls hl
  have hx := hC.1
  have hb := hC.2.1
  refine lv_aload hx hb dL_label_0 (lv_at hl 5 rfl) ?_
  refine lv_iconst (v := 0) hx hb dL_label_2 (by decide) ?_
  refine lv_aload_n hx hb dL_label_3 rfl (lv_at hl 0 rfl) ?_
  refine lv_iload_n hx hb dL_label_4 rfl (lv_at hl 1 rfl) ?_
  refine lv_iload_n hx hb dL_label_5 rfl (lv_at hl 2 rfl) ?_
  refine lv_iload_n hx hb dL_label_6 rfl (lv_at hl 3 rfl) ?_
  refine lv_iload hx hb dL_label_7 (lv_at hl 4 rfl) ?_
  refine w_callVX (As := [.int k, .int t, .int v, .int w]) (rest := .int 0 :: .ref (ad 90 0) :: []) (st2 := .int ((m_X7_label k t v w σ).2.1) :: .int 0 :: .ref (ad 90 0) :: []) hC hW hS hl cv_L_47 m_7 (by decide) rfl (c_X7_label l hl9 D ca base ad σ k t v w (by first | assumption | decide | omega)) rfl rfl rfl ⟨Nat.le_of_ble_eq_true rfl, Nat.le_of_ble_eq_true rfl⟩ (Nat.le_of_ble_eq_true rfl) dL_label_9 ⟨Nat.le_of_ble_eq_true rfl, Nat.le_of_ble_eq_true rfl⟩ (fun E ce q9 H locs e_1 hW hS hce hcv hcl => ?_) (fun e_1 H locs hW hS => ?_)
  · have hE := er_X7_label e_1
    rcases hE with rfl | rfl | rfl
    · refine vx_catch (name := "java/lang/IndexOutOfBoundsException") hC.2.2.2.1 [] ⟨0, 14, 17, 13⟩ [⟨0, 14, 21, 25⟩, ⟨0, 14, 25, 35⟩] (by rw [htab]; rfl) (fun z hz => nomatch hz) (by decide) (by decide) (hC.2.2.2.2.1 _ q_356) (va_Nw.use rfl (hC.2.2.2.2.2.2.2.1.2.1 _ (by decide))) hce hcv hcl ?_
      refine lv_astore (lv' := [(6, .ref q9), (0, .ref (ad 7 0)), (1, .int k), (2, .int t), (3, .int v), (4, .int w), (5, .ref (ad 90 0))]) hx hb dL_label_17 hl (by decide) rfl (fun ls hl => ?_)
      refine lv_iconst (v := 1) hx hb dL_label_19 (by decide) ?_
      have hO : f_L_label k t v w σ = (1, σ) := by rw [f_L_label, if_neg (by rw [e_1]; exact fun q => nomatch q), if_pos e_1]
      exact w_iretS hC hW hS hO (Nat.le_of_ble_eq_true rfl) (Nat.le_of_ble_eq_true rfl) dL_label_20
    · refine vx_catch (name := "java/lang/IllegalArgumentException") hC.2.2.2.1 [⟨0, 14, 17, 13⟩] ⟨0, 14, 21, 25⟩ [⟨0, 14, 25, 35⟩] (by rw [htab]; rfl) (fun z hz => by
        simp only [List.mem_cons, List.not_mem_nil, or_false] at hz
        rcases hz with rfl
        · exact Or.inr ⟨by decide, "java/lang/IndexOutOfBoundsException", hC.2.2.2.2.1 _ q_356, hN ("java/lang/IllegalArgumentException", "java/lang/IndexOutOfBoundsException") (by decide)⟩) (by decide) (by decide) (hC.2.2.2.2.1 _ q_484) (va_Nw.use rfl (hC.2.2.2.2.2.2.2.1.2.1 _ (by decide))) hce hcv hcl ?_
      refine lv_astore (lv' := [(6, .ref q9), (0, .ref (ad 7 0)), (1, .int k), (2, .int t), (3, .int v), (4, .int w), (5, .ref (ad 90 0))]) hx hb dL_label_21 hl (by decide) rfl (fun ls hl => ?_)
      refine lv_iconst (v := 2) hx hb dL_label_23 (by decide) ?_
      have hO : f_L_label k t v w σ = (2, σ) := by rw [f_L_label, if_neg (by rw [e_1]; exact fun q => nomatch q), if_neg (by rw [e_1]; decide), if_pos e_1]
      exact w_iretS hC hW hS hO (Nat.le_of_ble_eq_true rfl) (Nat.le_of_ble_eq_true rfl) dL_label_24
    · refine vx_catch (name := "java/lang/UnsupportedOperationException") hC.2.2.2.1 [⟨0, 14, 17, 13⟩, ⟨0, 14, 21, 25⟩] ⟨0, 14, 25, 35⟩ [] (by rw [htab]; rfl) (fun z hz => by
        simp only [List.mem_cons, List.not_mem_nil, or_false] at hz
        rcases hz with rfl | rfl
        · exact Or.inr ⟨by decide, "java/lang/IndexOutOfBoundsException", hC.2.2.2.2.1 _ q_356, hN ("java/lang/UnsupportedOperationException", "java/lang/IndexOutOfBoundsException") (by decide)⟩
        · exact Or.inr ⟨by decide, "java/lang/IllegalArgumentException", hC.2.2.2.2.1 _ q_484, hN ("java/lang/UnsupportedOperationException", "java/lang/IllegalArgumentException") (by decide)⟩) (by decide) (by decide) (hC.2.2.2.2.1 _ q_534) (va_Nw.use rfl (hC.2.2.2.2.2.2.2.1.2.1 _ (by decide))) hce hcv hcl ?_
      refine lv_astore (lv' := [(6, .ref q9), (0, .ref (ad 7 0)), (1, .int k), (2, .int t), (3, .int v), (4, .int w), (5, .ref (ad 90 0))]) hx hb dL_label_25 hl (by decide) rfl (fun ls hl => ?_)
      refine lv_iconst (v := 3) hx hb dL_label_27 (by decide) ?_
      have hO : f_L_label k t v w σ = (3, σ) := by rw [f_L_label, if_neg (by rw [e_1]; exact fun q => nomatch q), if_neg (by rw [e_1]; decide), if_neg (by rw [e_1]; decide)]
      exact w_iretS hC hW hS hO (Nat.le_of_ble_eq_true rfl) (Nat.le_of_ble_eq_true rfl) dL_label_28
  refine lv_i2l hx hb dL_label_12 rfl ?_
  refine w_last hC hW hS m_90 (v := (m_X7_label k t v w σ).2.1) rfl (vp_lit (by decide)) dL_label_13 (fun H locs hW hS => ?_)
  rw [show Int32.toNatClampNeg 0 = 0 by decide] at hW
  refine lv_goto (tgt := 29) hx hb dL_label_14 (by decide) ?_
  refine lv_iconst (v := 0) hx hb dL_label_29 (by decide) ?_
  have hO : f_L_label k t v w σ = (0, us ((m_X7_label k t v w σ).2.2) 90 0 0 ((m_X7_label k t v w σ).2.1)) := by rw [f_L_label, if_pos e_1]
  exact w_iretS hC hW hS hO (Nat.le_of_ble_eq_true rfl) (Nat.le_of_ble_eq_true rfl) dL_label_30
theorem fr_L_label {kk : Nat}  {k : Int32} {t : Int32} {v : Int32} {w : Int32} {σ : Sg} (h5 : kk ≠ 5) (h90 : kk ≠ 90) : (f_L_label k t v w σ).2 kk = σ kk := by
  rw [f_L_label]
  repeat' split
  all_goals (first | (simp only [us_kk, ne_eq, not_false_eq_true, h5, h90, fr_X7_label]; done) | with_reducible rfl | (simp only [us_kk, ne_eq, not_false_eq_true, h5, h90, fr_X7_label]; with_reducible rfl))
def f_L_rule (d : Int32) (t : Int32) (v : Int32) (σ : Sg) : Int32 × Sg :=
  if (m_X7_rule d t v σ).1 = none then (0, us ((m_X7_rule d t v σ).2.2) 90 0 0 ((m_X7_rule d t v σ).2.1))
  else if (m_X7_rule d t v σ).1 = some "java/lang/IndexOutOfBoundsException" then (1, σ)
  else (2, σ)
set_option maxHeartbeats 4000000 in
set_option maxRecDepth 100000 in
theorem c_L_rule (l : Launch) (hl9 : l.stackTraces = false) (D : va_G) (ca : Nat → ClassId) (base : Nat) (ad : Adr) (σ : Sg) (d : Int32) (t : Int32) (v : Int32) (hI : CInv σ) : Ml l yL_rule cL_rule 6 (some .int) [(0, 12, 15, 13), (0, 12, 19, 25)] { frames := 8, cells := 3, slots := 18, locals := 146 } D ca base ad ρm Lm [.ref (ad 7 0), .int d, .int t, .int v, .ref (ad 90 0)] σ (some (.int (f_L_rule d t v σ).1)) (f_L_rule d t v σ).2 := by
  refine w_ofL (by decide) (Nat.le_of_ble_eq_true rfl) rfl ?_
  intro p e s m args below meth c hC hN htab hW hS ls hl
  have hx := hC.1
  have hb := hC.2.1
  refine lv_aload hx hb dL_rule_0 (lv_at hl 4 rfl) ?_
  refine lv_iconst (v := 0) hx hb dL_rule_2 (by decide) ?_
  refine lv_aload_n hx hb dL_rule_3 rfl (lv_at hl 0 rfl) ?_
  refine lv_iload_n hx hb dL_rule_4 rfl (lv_at hl 1 rfl) ?_
  refine lv_iload_n hx hb dL_rule_5 rfl (lv_at hl 2 rfl) ?_
  refine lv_iload_n hx hb dL_rule_6 rfl (lv_at hl 3 rfl) ?_
  refine w_callVX (As := [.int d, .int t, .int v]) (rest := .int 0 :: .ref (ad 90 0) :: []) (st2 := .int ((m_X7_rule d t v σ).2.1) :: .int 0 :: .ref (ad 90 0) :: []) hC hW hS hl cv_L_50 m_7 (by decide) rfl (c_X7_rule l hl9 D ca base ad σ d t v (by first | assumption | decide | omega)) rfl rfl rfl ⟨Nat.le_of_ble_eq_true rfl, Nat.le_of_ble_eq_true rfl⟩ (Nat.le_of_ble_eq_true rfl) dL_rule_7 ⟨Nat.le_of_ble_eq_true rfl, Nat.le_of_ble_eq_true rfl⟩ (fun E ce q9 H locs e_1 hW hS hce hcv hcl => ?_) (fun e_1 H locs hW hS => ?_)
  · have hE := er_X7_rule e_1
    rcases hE with rfl | rfl
    · refine vx_catch (name := "java/lang/IndexOutOfBoundsException") hC.2.2.2.1 [] ⟨0, 12, 15, 13⟩ [⟨0, 12, 19, 25⟩] (by rw [htab]; rfl) (fun z hz => nomatch hz) (by decide) (by decide) (hC.2.2.2.2.1 _ q_356) (va_Nw.use rfl (hC.2.2.2.2.2.2.2.1.2.1 _ (by decide))) hce hcv hcl ?_
      refine lv_astore (lv' := [(5, .ref q9), (0, .ref (ad 7 0)), (1, .int d), (2, .int t), (3, .int v), (4, .ref (ad 90 0))]) hx hb dL_rule_15 hl (by decide) rfl (fun ls hl => ?_)
      refine lv_iconst (v := 1) hx hb dL_rule_17 (by decide) ?_
      have hO : f_L_rule d t v σ = (1, σ) := by rw [f_L_rule, if_neg (by rw [e_1]; exact fun q => nomatch q), if_pos e_1]
      exact w_iretS hC hW hS hO (Nat.le_of_ble_eq_true rfl) (Nat.le_of_ble_eq_true rfl) dL_rule_18
    · refine vx_catch (name := "java/lang/IllegalArgumentException") hC.2.2.2.1 [⟨0, 12, 15, 13⟩] ⟨0, 12, 19, 25⟩ [] (by rw [htab]; rfl) (fun z hz => by
        simp only [List.mem_cons, List.not_mem_nil, or_false] at hz
        rcases hz with rfl
        · exact Or.inr ⟨by decide, "java/lang/IndexOutOfBoundsException", hC.2.2.2.2.1 _ q_356, hN ("java/lang/IllegalArgumentException", "java/lang/IndexOutOfBoundsException") (by decide)⟩) (by decide) (by decide) (hC.2.2.2.2.1 _ q_484) (va_Nw.use rfl (hC.2.2.2.2.2.2.2.1.2.1 _ (by decide))) hce hcv hcl ?_
      refine lv_astore (lv' := [(5, .ref q9), (0, .ref (ad 7 0)), (1, .int d), (2, .int t), (3, .int v), (4, .ref (ad 90 0))]) hx hb dL_rule_19 hl (by decide) rfl (fun ls hl => ?_)
      refine lv_iconst (v := 2) hx hb dL_rule_21 (by decide) ?_
      have hO : f_L_rule d t v σ = (2, σ) := by rw [f_L_rule, if_neg (by rw [e_1]; exact fun q => nomatch q), if_neg (by rw [e_1]; decide)]
      exact w_iretS hC hW hS hO (Nat.le_of_ble_eq_true rfl) (Nat.le_of_ble_eq_true rfl) dL_rule_22
  refine lv_i2l hx hb dL_rule_10 rfl ?_
  refine w_last hC hW hS m_90 (v := (m_X7_rule d t v σ).2.1) rfl (vp_lit (by decide)) dL_rule_11 (fun H locs hW hS => ?_)
  rw [show Int32.toNatClampNeg 0 = 0 by decide] at hW
  refine lv_goto (tgt := 23) hx hb dL_rule_12 (by decide) ?_
  refine lv_iconst (v := 0) hx hb dL_rule_23 (by decide) ?_
  have hO : f_L_rule d t v σ = (0, us ((m_X7_rule d t v σ).2.2) 90 0 0 ((m_X7_rule d t v σ).2.1)) := by rw [f_L_rule, if_pos e_1]
  exact w_iretS hC hW hS hO (Nat.le_of_ble_eq_true rfl) (Nat.le_of_ble_eq_true rfl) dL_rule_24
theorem fr_L_rule {kk : Nat}  {d : Int32} {t : Int32} {v : Int32} {σ : Sg} (h16 : kk ≠ 16) (h90 : kk ≠ 90) : (f_L_rule d t v σ).2 kk = σ kk := by
  rw [f_L_rule]
  repeat' split
  all_goals (first | (simp only [us_kk, ne_eq, not_false_eq_true, h16, h90, fr_X7_rule]; done) | with_reducible rfl | (simp only [us_kk, ne_eq, not_false_eq_true, h16, h90, fr_X7_rule]; with_reducible rfl))
def f_L_move (d : Int32) (t : Int32) (v : Int32) (σ : Sg) : Int32 × Sg :=
  if (m_X7_move d t v σ).1 = none then (0, us ((m_X7_move d t v σ).2.2) 90 0 0 ((m_X7_move d t v σ).2.1))
  else if (m_X7_move d t v σ).1 = some "java/lang/IndexOutOfBoundsException" then (1, σ)
  else (2, σ)
set_option maxHeartbeats 4000000 in
set_option maxRecDepth 100000 in
theorem c_L_move (l : Launch) (hl9 : l.stackTraces = false) (D : va_G) (ca : Nat → ClassId) (base : Nat) (ad : Adr) (σ : Sg) (d : Int32) (t : Int32) (v : Int32) (hI : CInv σ) : Ml l yL_move cL_move 6 (some .int) [(0, 12, 15, 13), (0, 12, 19, 25)] { frames := 8, cells := 4, slots := 24, locals := 146 } D ca base ad ρm Lm [.ref (ad 7 0), .int d, .int t, .int v, .ref (ad 90 0)] σ (some (.int (f_L_move d t v σ).1)) (f_L_move d t v σ).2 := by
  refine w_ofL (by decide) (Nat.le_of_ble_eq_true rfl) rfl ?_
  intro p e s m args below meth c hC hN htab hW hS ls hl
  have hx := hC.1
  have hb := hC.2.1
  refine lv_aload hx hb dL_move_0 (lv_at hl 4 rfl) ?_
  refine lv_iconst (v := 0) hx hb dL_move_2 (by decide) ?_
  refine lv_aload_n hx hb dL_move_3 rfl (lv_at hl 0 rfl) ?_
  refine lv_iload_n hx hb dL_move_4 rfl (lv_at hl 1 rfl) ?_
  refine lv_iload_n hx hb dL_move_5 rfl (lv_at hl 2 rfl) ?_
  refine lv_iload_n hx hb dL_move_6 rfl (lv_at hl 3 rfl) ?_
  refine w_callVX (As := [.int d, .int t, .int v]) (rest := .int 0 :: .ref (ad 90 0) :: []) (st2 := .int ((m_X7_move d t v σ).2.1) :: .int 0 :: .ref (ad 90 0) :: []) hC hW hS hl cv_L_53 m_7 (by decide) rfl (c_X7_move l hl9 D ca base ad σ d t v (by first | assumption | decide | omega)) rfl rfl rfl ⟨Nat.le_of_ble_eq_true rfl, Nat.le_of_ble_eq_true rfl⟩ (Nat.le_of_ble_eq_true rfl) dL_move_7 ⟨Nat.le_of_ble_eq_true rfl, Nat.le_of_ble_eq_true rfl⟩ (fun E ce q9 H locs e_1 hW hS hce hcv hcl => ?_) (fun e_1 H locs hW hS => ?_)
  · have hE := er_X7_move e_1
    rcases hE with rfl | rfl
    · refine vx_catch (name := "java/lang/IndexOutOfBoundsException") hC.2.2.2.1 [] ⟨0, 12, 15, 13⟩ [⟨0, 12, 19, 25⟩] (by rw [htab]; rfl) (fun z hz => nomatch hz) (by decide) (by decide) (hC.2.2.2.2.1 _ q_356) (va_Nw.use rfl (hC.2.2.2.2.2.2.2.1.2.1 _ (by decide))) hce hcv hcl ?_
      refine lv_astore (lv' := [(5, .ref q9), (0, .ref (ad 7 0)), (1, .int d), (2, .int t), (3, .int v), (4, .ref (ad 90 0))]) hx hb dL_move_15 hl (by decide) rfl (fun ls hl => ?_)
      refine lv_iconst (v := 1) hx hb dL_move_17 (by decide) ?_
      have hO : f_L_move d t v σ = (1, σ) := by rw [f_L_move, if_neg (by rw [e_1]; exact fun q => nomatch q), if_pos e_1]
      exact w_iretS hC hW hS hO (Nat.le_of_ble_eq_true rfl) (Nat.le_of_ble_eq_true rfl) dL_move_18
    · refine vx_catch (name := "java/lang/IllegalArgumentException") hC.2.2.2.1 [⟨0, 12, 15, 13⟩] ⟨0, 12, 19, 25⟩ [] (by rw [htab]; rfl) (fun z hz => by
        simp only [List.mem_cons, List.not_mem_nil, or_false] at hz
        rcases hz with rfl
        · exact Or.inr ⟨by decide, "java/lang/IndexOutOfBoundsException", hC.2.2.2.2.1 _ q_356, hN ("java/lang/IllegalArgumentException", "java/lang/IndexOutOfBoundsException") (by decide)⟩) (by decide) (by decide) (hC.2.2.2.2.1 _ q_484) (va_Nw.use rfl (hC.2.2.2.2.2.2.2.1.2.1 _ (by decide))) hce hcv hcl ?_
      refine lv_astore (lv' := [(5, .ref q9), (0, .ref (ad 7 0)), (1, .int d), (2, .int t), (3, .int v), (4, .ref (ad 90 0))]) hx hb dL_move_19 hl (by decide) rfl (fun ls hl => ?_)
      refine lv_iconst (v := 2) hx hb dL_move_21 (by decide) ?_
      have hO : f_L_move d t v σ = (2, σ) := by rw [f_L_move, if_neg (by rw [e_1]; exact fun q => nomatch q), if_neg (by rw [e_1]; decide)]
      exact w_iretS hC hW hS hO (Nat.le_of_ble_eq_true rfl) (Nat.le_of_ble_eq_true rfl) dL_move_22
  refine lv_i2l hx hb dL_move_10 rfl ?_
  refine w_last hC hW hS m_90 (v := (m_X7_move d t v σ).2.1) rfl (vp_lit (by decide)) dL_move_11 (fun H locs hW hS => ?_)
  rw [show Int32.toNatClampNeg 0 = 0 by decide] at hW
  refine lv_goto (tgt := 23) hx hb dL_move_12 (by decide) ?_
  refine lv_iconst (v := 0) hx hb dL_move_23 (by decide) ?_
  have hO : f_L_move d t v σ = (0, us ((m_X7_move d t v σ).2.2) 90 0 0 ((m_X7_move d t v σ).2.1)) := by rw [f_L_move, if_pos e_1]
  exact w_iretS hC hW hS hO (Nat.le_of_ble_eq_true rfl) (Nat.le_of_ble_eq_true rfl) dL_move_24
theorem fr_L_move {kk : Nat}  {d : Int32} {t : Int32} {v : Int32} {σ : Sg} (h17 : kk ≠ 17) (h90 : kk ≠ 90) : (f_L_move d t v σ).2 kk = σ kk := by
  rw [f_L_move]
  repeat' split
  all_goals (first | (simp only [us_kk, ne_eq, not_false_eq_true, h17, h90, fr_X7_move]; done) | with_reducible rfl | (simp only [us_kk, ne_eq, not_false_eq_true, h17, h90, fr_X7_move]; with_reducible rfl))
def f_L_process (u : Int32) (d : Int32) (v : Int32) (w : Int32) (f : Int32) (b : Int32) (σ : Sg) : Int32 × Sg :=
  if (m_X7_process u d v w f b σ).1 = none then (0, us ((m_X7_process u d v w f b σ).2.2) 90 0 0 ((m_X7_process u d v w f b σ).2.1))
  else if (m_X7_process u d v w f b σ).1 = some "java/lang/IndexOutOfBoundsException" then (1, σ)
  else if (m_X7_process u d v w f b σ).1 = some "java/lang/IllegalArgumentException" then (2, σ)
  else (3, σ)
set_option maxHeartbeats 4000000 in
set_option maxRecDepth 100000 in
theorem c_L_process (l : Launch) (hl9 : l.stackTraces = false) (D : va_G) (ca : Nat → ClassId) (base : Nat) (ad : Adr) (σ : Sg) (u : Int32) (d : Int32) (v : Int32) (w : Int32) (f : Int32) (b : Int32) (hI : CInv σ) : Ml l yL_process cL_process 9 (some .int) [(0, 18, 21, 13), (0, 18, 25, 25), (0, 18, 29, 15)] { frames := 8, cells := 8, slots := 48, locals := 149 } D ca base ad ρm Lm [.ref (ad 7 0), .int u, .int d, .int v, .int w, .int f, .int b, .ref (ad 90 0)] σ (some (.int (f_L_process u d v w f b σ).1)) (f_L_process u d v w f b σ).2 := by
  refine w_ofL (by decide) (Nat.le_of_ble_eq_true rfl) rfl ?_
  intro p e s m args below meth c hC hN htab hW hS ls hl
  have hx := hC.1
  have hb := hC.2.1
  refine lv_aload hx hb dL_process_0 (lv_at hl 7 rfl) ?_
  refine lv_iconst (v := 0) hx hb dL_process_2 (by decide) ?_
  refine lv_aload_n hx hb dL_process_3 rfl (lv_at hl 0 rfl) ?_
  refine lv_iload_n hx hb dL_process_4 rfl (lv_at hl 1 rfl) ?_
  refine lv_iload_n hx hb dL_process_5 rfl (lv_at hl 2 rfl) ?_
  refine lv_iload_n hx hb dL_process_6 rfl (lv_at hl 3 rfl) ?_
  refine lv_iload hx hb dL_process_7 (lv_at hl 4 rfl) ?_
  refine lv_iload hx hb dL_process_9 (lv_at hl 5 rfl) ?_
  refine lv_iload hx hb dL_process_11 (lv_at hl 6 rfl) ?_
  refine w_callVX (As := [.int u, .int d, .int v, .int w, .int f, .int b]) (rest := .int 0 :: .ref (ad 90 0) :: []) (st2 := .int ((m_X7_process u d v w f b σ).2.1) :: .int 0 :: .ref (ad 90 0) :: []) hC hW hS hl cv_L_56 m_7 (by decide) rfl (c_X7_process l hl9 D ca base ad σ u d v w f b (by first | assumption | decide | omega)) rfl rfl rfl ⟨Nat.le_of_ble_eq_true rfl, Nat.le_of_ble_eq_true rfl⟩ (Nat.le_of_ble_eq_true rfl) dL_process_13 ⟨Nat.le_of_ble_eq_true rfl, Nat.le_of_ble_eq_true rfl⟩ (fun E ce q9 H locs e_1 hW hS hce hcv hcl => ?_) (fun e_1 H locs hW hS => ?_)
  · have hE := er_X7_process e_1
    rcases hE with rfl | rfl | rfl
    · refine vx_catch (name := "java/lang/IndexOutOfBoundsException") hC.2.2.2.1 [] ⟨0, 18, 21, 13⟩ [⟨0, 18, 25, 25⟩, ⟨0, 18, 29, 15⟩] (by rw [htab]; rfl) (fun z hz => nomatch hz) (by decide) (by decide) (hC.2.2.2.2.1 _ q_356) (va_Nw.use rfl (hC.2.2.2.2.2.2.2.1.2.1 _ (by decide))) hce hcv hcl ?_
      refine lv_astore (lv' := [(8, .ref q9), (0, .ref (ad 7 0)), (1, .int u), (2, .int d), (3, .int v), (4, .int w), (5, .int f), (6, .int b), (7, .ref (ad 90 0))]) hx hb dL_process_21 hl (by decide) rfl (fun ls hl => ?_)
      refine lv_iconst (v := 1) hx hb dL_process_23 (by decide) ?_
      have hO : f_L_process u d v w f b σ = (1, σ) := by rw [f_L_process, if_neg (by rw [e_1]; exact fun q => nomatch q), if_pos e_1]
      exact w_iretS hC hW hS hO (Nat.le_of_ble_eq_true rfl) (Nat.le_of_ble_eq_true rfl) dL_process_24
    · refine vx_catch (name := "java/lang/IllegalArgumentException") hC.2.2.2.1 [⟨0, 18, 21, 13⟩] ⟨0, 18, 25, 25⟩ [⟨0, 18, 29, 15⟩] (by rw [htab]; rfl) (fun z hz => by
        simp only [List.mem_cons, List.not_mem_nil, or_false] at hz
        rcases hz with rfl
        · exact Or.inr ⟨by decide, "java/lang/IndexOutOfBoundsException", hC.2.2.2.2.1 _ q_356, hN ("java/lang/IllegalArgumentException", "java/lang/IndexOutOfBoundsException") (by decide)⟩) (by decide) (by decide) (hC.2.2.2.2.1 _ q_484) (va_Nw.use rfl (hC.2.2.2.2.2.2.2.1.2.1 _ (by decide))) hce hcv hcl ?_
      refine lv_astore (lv' := [(8, .ref q9), (0, .ref (ad 7 0)), (1, .int u), (2, .int d), (3, .int v), (4, .int w), (5, .int f), (6, .int b), (7, .ref (ad 90 0))]) hx hb dL_process_25 hl (by decide) rfl (fun ls hl => ?_)
      refine lv_iconst (v := 2) hx hb dL_process_27 (by decide) ?_
      have hO : f_L_process u d v w f b σ = (2, σ) := by rw [f_L_process, if_neg (by rw [e_1]; exact fun q => nomatch q), if_neg (by rw [e_1]; decide), if_pos e_1]
      exact w_iretS hC hW hS hO (Nat.le_of_ble_eq_true rfl) (Nat.le_of_ble_eq_true rfl) dL_process_28
    · refine vx_catch (name := "java/lang/IllegalStateException") hC.2.2.2.1 [⟨0, 18, 21, 13⟩, ⟨0, 18, 25, 25⟩] ⟨0, 18, 29, 15⟩ [] (by rw [htab]; rfl) (fun z hz => by
        simp only [List.mem_cons, List.not_mem_nil, or_false] at hz
        rcases hz with rfl | rfl
        · exact Or.inr ⟨by decide, "java/lang/IndexOutOfBoundsException", hC.2.2.2.2.1 _ q_356, hN ("java/lang/IllegalStateException", "java/lang/IndexOutOfBoundsException") (by decide)⟩
        · exact Or.inr ⟨by decide, "java/lang/IllegalArgumentException", hC.2.2.2.2.1 _ q_484, hN ("java/lang/IllegalStateException", "java/lang/IllegalArgumentException") (by decide)⟩) (by decide) (by decide) (hC.2.2.2.2.1 _ q_357) (va_Nw.use rfl (hC.2.2.2.2.2.2.2.1.2.1 _ (by decide))) hce hcv hcl ?_
      refine lv_astore (lv' := [(8, .ref q9), (0, .ref (ad 7 0)), (1, .int u), (2, .int d), (3, .int v), (4, .int w), (5, .int f), (6, .int b), (7, .ref (ad 90 0))]) hx hb dL_process_29 hl (by decide) rfl (fun ls hl => ?_)
      refine lv_iconst (v := 3) hx hb dL_process_31 (by decide) ?_
      have hO : f_L_process u d v w f b σ = (3, σ) := by rw [f_L_process, if_neg (by rw [e_1]; exact fun q => nomatch q), if_neg (by rw [e_1]; decide), if_neg (by rw [e_1]; decide)]
      exact w_iretS hC hW hS hO (Nat.le_of_ble_eq_true rfl) (Nat.le_of_ble_eq_true rfl) dL_process_32
  refine lv_i2l hx hb dL_process_16 rfl ?_
  refine w_last hC hW hS m_90 (v := (m_X7_process u d v w f b σ).2.1) rfl (vp_lit (by decide)) dL_process_17 (fun H locs hW hS => ?_)
  rw [show Int32.toNatClampNeg 0 = 0 by decide] at hW
  refine lv_goto (tgt := 33) hx hb dL_process_18 (by decide) ?_
  refine lv_iconst (v := 0) hx hb dL_process_33 (by decide) ?_
  have hO : f_L_process u d v w f b σ = (0, us ((m_X7_process u d v w f b σ).2.2) 90 0 0 ((m_X7_process u d v w f b σ).2.1)) := by rw [f_L_process, if_pos e_1]
  exact w_iretS hC hW hS hO (Nat.le_of_ble_eq_true rfl) (Nat.le_of_ble_eq_true rfl) dL_process_34
theorem fr_L_process {kk : Nat}  {u : Int32} {d : Int32} {v : Int32} {w : Int32} {f : Int32} {b : Int32} {σ : Sg} (h0 : kk ≠ 0) (h7 : kk ≠ 7) (h90 : kk ≠ 90) : (f_L_process u d v w f b σ).2 kk = σ kk := by
  rw [f_L_process]
  repeat' split
  all_goals (first | (simp only [us_kk, ne_eq, not_false_eq_true, h0, h7, h90, fr_X7_process]; done) | with_reducible rfl | (simp only [us_kk, ne_eq, not_false_eq_true, h0, h7, h90, fr_X7_process]; with_reducible rfl))
def f_L_filter (k : Int32) (v : Int32) (σ : Sg) : Int32 × Sg :=
  if (m_X7_filter k v σ).1 = none then (0, us ((m_X7_filter k v σ).2.2) 90 0 0 ((m_X7_filter k v σ).2.1))
  else if (m_X7_filter k v σ).1 = some "java/lang/IndexOutOfBoundsException" then (1, σ)
  else if (m_X7_filter k v σ).1 = some "java/lang/IllegalArgumentException" then (2, σ)
  else (3, σ)
set_option maxHeartbeats 4000000 in
set_option maxRecDepth 100000 in
theorem c_L_filter (l : Launch) (hl9 : l.stackTraces = false) (D : va_G) (ca : Nat → ClassId) (base : Nat) (ad : Adr) (σ : Sg) (k : Int32) (v : Int32) (hI : CInv σ) : Ml l yL_filter cL_filter 5 (some .int) [(0, 10, 13, 13), (0, 10, 17, 25), (0, 10, 21, 15)] { frames := 9, cells := 3, slots := 18, locals := 165 } D ca base ad ρm Lm [.ref (ad 7 0), .int k, .int v, .ref (ad 90 0)] σ (some (.int (f_L_filter k v σ).1)) (f_L_filter k v σ).2 := by
  refine w_ofL (by decide) (Nat.le_of_ble_eq_true rfl) rfl ?_
  intro p e s m args below meth c hC hN htab hW hS ls hl
  have hx := hC.1
  have hb := hC.2.1
  refine lv_aload_n hx hb dL_filter_0 rfl (lv_at hl 3 rfl) ?_
  refine lv_iconst (v := 0) hx hb dL_filter_1 (by decide) ?_
  refine lv_aload_n hx hb dL_filter_2 rfl (lv_at hl 0 rfl) ?_
  refine lv_iload_n hx hb dL_filter_3 rfl (lv_at hl 1 rfl) ?_
  refine lv_iload_n hx hb dL_filter_4 rfl (lv_at hl 2 rfl) ?_
  refine w_callVX (As := [.int k, .int v]) (rest := .int 0 :: .ref (ad 90 0) :: []) (st2 := .int ((m_X7_filter k v σ).2.1) :: .int 0 :: .ref (ad 90 0) :: []) hC hW hS hl cv_L_60 m_7 (by decide) rfl (c_X7_filter l hl9 D ca base ad σ k v (by first | assumption | decide | omega)) rfl rfl rfl ⟨Nat.le_of_ble_eq_true rfl, Nat.le_of_ble_eq_true rfl⟩ (Nat.le_of_ble_eq_true rfl) dL_filter_5 ⟨Nat.le_of_ble_eq_true rfl, Nat.le_of_ble_eq_true rfl⟩ (fun E ce q9 H locs e_1 hW hS hce hcv hcl => ?_) (fun e_1 H locs hW hS => ?_)
  · have hE := er_X7_filter e_1
    rcases hE with rfl | rfl | rfl
    · refine vx_catch (name := "java/lang/IndexOutOfBoundsException") hC.2.2.2.1 [] ⟨0, 10, 13, 13⟩ [⟨0, 10, 17, 25⟩, ⟨0, 10, 21, 15⟩] (by rw [htab]; rfl) (fun z hz => nomatch hz) (by decide) (by decide) (hC.2.2.2.2.1 _ q_356) (va_Nw.use rfl (hC.2.2.2.2.2.2.2.1.2.1 _ (by decide))) hce hcv hcl ?_
      refine lv_astore (lv' := [(4, .ref q9), (0, .ref (ad 7 0)), (1, .int k), (2, .int v), (3, .ref (ad 90 0))]) hx hb dL_filter_13 hl (by decide) rfl (fun ls hl => ?_)
      refine lv_iconst (v := 1) hx hb dL_filter_15 (by decide) ?_
      have hO : f_L_filter k v σ = (1, σ) := by rw [f_L_filter, if_neg (by rw [e_1]; exact fun q => nomatch q), if_pos e_1]
      exact w_iretS hC hW hS hO (Nat.le_of_ble_eq_true rfl) (Nat.le_of_ble_eq_true rfl) dL_filter_16
    · refine vx_catch (name := "java/lang/IllegalArgumentException") hC.2.2.2.1 [⟨0, 10, 13, 13⟩] ⟨0, 10, 17, 25⟩ [⟨0, 10, 21, 15⟩] (by rw [htab]; rfl) (fun z hz => by
        simp only [List.mem_cons, List.not_mem_nil, or_false] at hz
        rcases hz with rfl
        · exact Or.inr ⟨by decide, "java/lang/IndexOutOfBoundsException", hC.2.2.2.2.1 _ q_356, hN ("java/lang/IllegalArgumentException", "java/lang/IndexOutOfBoundsException") (by decide)⟩) (by decide) (by decide) (hC.2.2.2.2.1 _ q_484) (va_Nw.use rfl (hC.2.2.2.2.2.2.2.1.2.1 _ (by decide))) hce hcv hcl ?_
      refine lv_astore (lv' := [(4, .ref q9), (0, .ref (ad 7 0)), (1, .int k), (2, .int v), (3, .ref (ad 90 0))]) hx hb dL_filter_17 hl (by decide) rfl (fun ls hl => ?_)
      refine lv_iconst (v := 2) hx hb dL_filter_19 (by decide) ?_
      have hO : f_L_filter k v σ = (2, σ) := by rw [f_L_filter, if_neg (by rw [e_1]; exact fun q => nomatch q), if_neg (by rw [e_1]; decide), if_pos e_1]
      exact w_iretS hC hW hS hO (Nat.le_of_ble_eq_true rfl) (Nat.le_of_ble_eq_true rfl) dL_filter_20
    · refine vx_catch (name := "java/lang/IllegalStateException") hC.2.2.2.1 [⟨0, 10, 13, 13⟩, ⟨0, 10, 17, 25⟩] ⟨0, 10, 21, 15⟩ [] (by rw [htab]; rfl) (fun z hz => by
        simp only [List.mem_cons, List.not_mem_nil, or_false] at hz
        rcases hz with rfl | rfl
        · exact Or.inr ⟨by decide, "java/lang/IndexOutOfBoundsException", hC.2.2.2.2.1 _ q_356, hN ("java/lang/IllegalStateException", "java/lang/IndexOutOfBoundsException") (by decide)⟩
        · exact Or.inr ⟨by decide, "java/lang/IllegalArgumentException", hC.2.2.2.2.1 _ q_484, hN ("java/lang/IllegalStateException", "java/lang/IllegalArgumentException") (by decide)⟩) (by decide) (by decide) (hC.2.2.2.2.1 _ q_357) (va_Nw.use rfl (hC.2.2.2.2.2.2.2.1.2.1 _ (by decide))) hce hcv hcl ?_
      refine lv_astore (lv' := [(4, .ref q9), (0, .ref (ad 7 0)), (1, .int k), (2, .int v), (3, .ref (ad 90 0))]) hx hb dL_filter_21 hl (by decide) rfl (fun ls hl => ?_)
      refine lv_iconst (v := 3) hx hb dL_filter_23 (by decide) ?_
      have hO : f_L_filter k v σ = (3, σ) := by rw [f_L_filter, if_neg (by rw [e_1]; exact fun q => nomatch q), if_neg (by rw [e_1]; decide), if_neg (by rw [e_1]; decide)]
      exact w_iretS hC hW hS hO (Nat.le_of_ble_eq_true rfl) (Nat.le_of_ble_eq_true rfl) dL_filter_24
  refine lv_i2l hx hb dL_filter_8 rfl ?_
  refine w_last hC hW hS m_90 (v := (m_X7_filter k v σ).2.1) rfl (vp_lit (by decide)) dL_filter_9 (fun H locs hW hS => ?_)
  rw [show Int32.toNatClampNeg 0 = 0 by decide] at hW
  refine lv_goto (tgt := 25) hx hb dL_filter_10 (by decide) ?_
  refine lv_iconst (v := 0) hx hb dL_filter_25 (by decide) ?_
  have hO : f_L_filter k v σ = (0, us ((m_X7_filter k v σ).2.2) 90 0 0 ((m_X7_filter k v σ).2.1)) := by rw [f_L_filter, if_pos e_1]
  exact w_iretS hC hW hS hO (Nat.le_of_ble_eq_true rfl) (Nat.le_of_ble_eq_true rfl) dL_filter_26
theorem fr_L_filter {kk : Nat}  {k : Int32} {v : Int32} {σ : Sg} (h0 : kk ≠ 0) (h10 : kk ≠ 10) (h90 : kk ≠ 90) : (f_L_filter k v σ).2 kk = σ kk := by
  rw [f_L_filter]
  repeat' split
  all_goals (first | (simp only [us_kk, ne_eq, not_false_eq_true, h0, h10, h90, fr_X7_filter]; done) | with_reducible rfl | (simp only [us_kk, ne_eq, not_false_eq_true, h0, h10, h90, fr_X7_filter]; with_reducible rfl))
def f_L_bound (k : Int32) (v : Int32) (σ : Sg) : Int32 × Sg :=
  if (m_X7_bound k v σ).1 = none then (0, us ((m_X7_bound k v σ).2.2) 90 0 0 ((m_X7_bound k v σ).2.1))
  else if (m_X7_bound k v σ).1 = some "java/lang/IndexOutOfBoundsException" then (1, σ)
  else (2, σ)
set_option maxHeartbeats 4000000 in
set_option maxRecDepth 100000 in
theorem c_L_bound (l : Launch) (hl9 : l.stackTraces = false) (D : va_G) (ca : Nat → ClassId) (base : Nat) (ad : Adr) (σ : Sg) (k : Int32) (v : Int32) (hI : CInv σ) : Ml l yL_bound cL_bound 5 (some .int) [(0, 10, 13, 13), (0, 10, 17, 25)] { frames := 9, cells := 2, slots := 12, locals := 165 } D ca base ad ρm Lm [.ref (ad 7 0), .int k, .int v, .ref (ad 90 0)] σ (some (.int (f_L_bound k v σ).1)) (f_L_bound k v σ).2 := by
  refine w_ofL (by decide) (Nat.le_of_ble_eq_true rfl) rfl ?_
  intro p e s m args below meth c hC hN htab hW hS ls hl
  have hx := hC.1
  have hb := hC.2.1
  refine lv_aload_n hx hb dL_bound_0 rfl (lv_at hl 3 rfl) ?_
  refine lv_iconst (v := 0) hx hb dL_bound_1 (by decide) ?_
  refine lv_aload_n hx hb dL_bound_2 rfl (lv_at hl 0 rfl) ?_
  refine lv_iload_n hx hb dL_bound_3 rfl (lv_at hl 1 rfl) ?_
  refine lv_iload_n hx hb dL_bound_4 rfl (lv_at hl 2 rfl) ?_
  refine w_callVX (As := [.int k, .int v]) (rest := .int 0 :: .ref (ad 90 0) :: []) (st2 := .int ((m_X7_bound k v σ).2.1) :: .int 0 :: .ref (ad 90 0) :: []) hC hW hS hl cv_L_63 m_7 (by decide) rfl (c_X7_bound l hl9 D ca base ad σ k v (by first | assumption | decide | omega)) rfl rfl rfl ⟨Nat.le_of_ble_eq_true rfl, Nat.le_of_ble_eq_true rfl⟩ (Nat.le_of_ble_eq_true rfl) dL_bound_5 ⟨Nat.le_of_ble_eq_true rfl, Nat.le_of_ble_eq_true rfl⟩ (fun E ce q9 H locs e_1 hW hS hce hcv hcl => ?_) (fun e_1 H locs hW hS => ?_)
  · have hE := er_X7_bound e_1
    rcases hE with rfl | rfl
    · refine vx_catch (name := "java/lang/IndexOutOfBoundsException") hC.2.2.2.1 [] ⟨0, 10, 13, 13⟩ [⟨0, 10, 17, 25⟩] (by rw [htab]; rfl) (fun z hz => nomatch hz) (by decide) (by decide) (hC.2.2.2.2.1 _ q_356) (va_Nw.use rfl (hC.2.2.2.2.2.2.2.1.2.1 _ (by decide))) hce hcv hcl ?_
      refine lv_astore (lv' := [(4, .ref q9), (0, .ref (ad 7 0)), (1, .int k), (2, .int v), (3, .ref (ad 90 0))]) hx hb dL_bound_13 hl (by decide) rfl (fun ls hl => ?_)
      refine lv_iconst (v := 1) hx hb dL_bound_15 (by decide) ?_
      have hO : f_L_bound k v σ = (1, σ) := by rw [f_L_bound, if_neg (by rw [e_1]; exact fun q => nomatch q), if_pos e_1]
      exact w_iretS hC hW hS hO (Nat.le_of_ble_eq_true rfl) (Nat.le_of_ble_eq_true rfl) dL_bound_16
    · refine vx_catch (name := "java/lang/IllegalArgumentException") hC.2.2.2.1 [⟨0, 10, 13, 13⟩] ⟨0, 10, 17, 25⟩ [] (by rw [htab]; rfl) (fun z hz => by
        simp only [List.mem_cons, List.not_mem_nil, or_false] at hz
        rcases hz with rfl
        · exact Or.inr ⟨by decide, "java/lang/IndexOutOfBoundsException", hC.2.2.2.2.1 _ q_356, hN ("java/lang/IllegalArgumentException", "java/lang/IndexOutOfBoundsException") (by decide)⟩) (by decide) (by decide) (hC.2.2.2.2.1 _ q_484) (va_Nw.use rfl (hC.2.2.2.2.2.2.2.1.2.1 _ (by decide))) hce hcv hcl ?_
      refine lv_astore (lv' := [(4, .ref q9), (0, .ref (ad 7 0)), (1, .int k), (2, .int v), (3, .ref (ad 90 0))]) hx hb dL_bound_17 hl (by decide) rfl (fun ls hl => ?_)
      refine lv_iconst (v := 2) hx hb dL_bound_19 (by decide) ?_
      have hO : f_L_bound k v σ = (2, σ) := by rw [f_L_bound, if_neg (by rw [e_1]; exact fun q => nomatch q), if_neg (by rw [e_1]; decide)]
      exact w_iretS hC hW hS hO (Nat.le_of_ble_eq_true rfl) (Nat.le_of_ble_eq_true rfl) dL_bound_20
  refine lv_i2l hx hb dL_bound_8 rfl ?_
  refine w_last hC hW hS m_90 (v := (m_X7_bound k v σ).2.1) rfl (vp_lit (by decide)) dL_bound_9 (fun H locs hW hS => ?_)
  rw [show Int32.toNatClampNeg 0 = 0 by decide] at hW
  refine lv_goto (tgt := 21) hx hb dL_bound_10 (by decide) ?_
  refine lv_iconst (v := 0) hx hb dL_bound_21 (by decide) ?_
  have hO : f_L_bound k v σ = (0, us ((m_X7_bound k v σ).2.2) 90 0 0 ((m_X7_bound k v σ).2.1)) := by rw [f_L_bound, if_pos e_1]
  exact w_iretS hC hW hS hO (Nat.le_of_ble_eq_true rfl) (Nat.le_of_ble_eq_true rfl) dL_bound_22
theorem fr_L_bound {kk : Nat}  {k : Int32} {v : Int32} {σ : Sg} (h0 : kk ≠ 0) (h90 : kk ≠ 90) : (f_L_bound k v σ).2 kk = σ kk := by
  rw [f_L_bound]
  repeat' split
  all_goals (first | (simp only [us_kk, ne_eq, not_false_eq_true, h0, h90, fr_X7_bound]; done) | with_reducible rfl | (simp only [us_kk, ne_eq, not_false_eq_true, h0, h90, fr_X7_bound]; with_reducible rfl))
def f_L_about (k : Int32) (v : Int32) (σ : Sg) : Int32 × Sg :=
  if (m_X7_about k v σ).1 = none then (0, us ((m_X7_about k v σ).2.2) 90 0 0 ((m_X7_about k v σ).2.1))
  else if (m_X7_about k v σ).1 = some "java/lang/IndexOutOfBoundsException" then (1, σ)
  else (2, σ)
set_option maxHeartbeats 4000000 in
set_option maxRecDepth 100000 in
theorem c_L_about (l : Launch) (hl9 : l.stackTraces = false) (D : va_G) (ca : Nat → ClassId) (base : Nat) (ad : Adr) (σ : Sg) (k : Int32) (v : Int32) (hI : CInv σ) : Ml l yL_about cL_about 5 (some .int) [(0, 10, 13, 13), (0, 10, 17, 25)] { frames := 9, cells := 2, slots := 12, locals := 165 } D ca base ad ρm Lm [.ref (ad 7 0), .int k, .int v, .ref (ad 90 0)] σ (some (.int (f_L_about k v σ).1)) (f_L_about k v σ).2 := by
  refine w_ofL (by decide) (Nat.le_of_ble_eq_true rfl) rfl ?_
  intro p e s m args below meth c hC hN htab hW hS ls hl
  have hx := hC.1
  have hb := hC.2.1
  refine lv_aload_n hx hb dL_about_0 rfl (lv_at hl 3 rfl) ?_
  refine lv_iconst (v := 0) hx hb dL_about_1 (by decide) ?_
  refine lv_aload_n hx hb dL_about_2 rfl (lv_at hl 0 rfl) ?_
  refine lv_iload_n hx hb dL_about_3 rfl (lv_at hl 1 rfl) ?_
  refine lv_iload_n hx hb dL_about_4 rfl (lv_at hl 2 rfl) ?_
  refine w_callVX (As := [.int k, .int v]) (rest := .int 0 :: .ref (ad 90 0) :: []) (st2 := .int ((m_X7_about k v σ).2.1) :: .int 0 :: .ref (ad 90 0) :: []) hC hW hS hl cv_L_66 m_7 (by decide) rfl (c_X7_about l hl9 D ca base ad σ k v (by first | assumption | decide | omega)) rfl rfl rfl ⟨Nat.le_of_ble_eq_true rfl, Nat.le_of_ble_eq_true rfl⟩ (Nat.le_of_ble_eq_true rfl) dL_about_5 ⟨Nat.le_of_ble_eq_true rfl, Nat.le_of_ble_eq_true rfl⟩ (fun E ce q9 H locs e_1 hW hS hce hcv hcl => ?_) (fun e_1 H locs hW hS => ?_)
  · have hE := er_X7_about e_1
    rcases hE with rfl | rfl
    · refine vx_catch (name := "java/lang/IndexOutOfBoundsException") hC.2.2.2.1 [] ⟨0, 10, 13, 13⟩ [⟨0, 10, 17, 25⟩] (by rw [htab]; rfl) (fun z hz => nomatch hz) (by decide) (by decide) (hC.2.2.2.2.1 _ q_356) (va_Nw.use rfl (hC.2.2.2.2.2.2.2.1.2.1 _ (by decide))) hce hcv hcl ?_
      refine lv_astore (lv' := [(4, .ref q9), (0, .ref (ad 7 0)), (1, .int k), (2, .int v), (3, .ref (ad 90 0))]) hx hb dL_about_13 hl (by decide) rfl (fun ls hl => ?_)
      refine lv_iconst (v := 1) hx hb dL_about_15 (by decide) ?_
      have hO : f_L_about k v σ = (1, σ) := by rw [f_L_about, if_neg (by rw [e_1]; exact fun q => nomatch q), if_pos e_1]
      exact w_iretS hC hW hS hO (Nat.le_of_ble_eq_true rfl) (Nat.le_of_ble_eq_true rfl) dL_about_16
    · refine vx_catch (name := "java/lang/IllegalArgumentException") hC.2.2.2.1 [⟨0, 10, 13, 13⟩] ⟨0, 10, 17, 25⟩ [] (by rw [htab]; rfl) (fun z hz => by
        simp only [List.mem_cons, List.not_mem_nil, or_false] at hz
        rcases hz with rfl
        · exact Or.inr ⟨by decide, "java/lang/IndexOutOfBoundsException", hC.2.2.2.2.1 _ q_356, hN ("java/lang/IllegalArgumentException", "java/lang/IndexOutOfBoundsException") (by decide)⟩) (by decide) (by decide) (hC.2.2.2.2.1 _ q_484) (va_Nw.use rfl (hC.2.2.2.2.2.2.2.1.2.1 _ (by decide))) hce hcv hcl ?_
      refine lv_astore (lv' := [(4, .ref q9), (0, .ref (ad 7 0)), (1, .int k), (2, .int v), (3, .ref (ad 90 0))]) hx hb dL_about_17 hl (by decide) rfl (fun ls hl => ?_)
      refine lv_iconst (v := 2) hx hb dL_about_19 (by decide) ?_
      have hO : f_L_about k v σ = (2, σ) := by rw [f_L_about, if_neg (by rw [e_1]; exact fun q => nomatch q), if_neg (by rw [e_1]; decide)]
      exact w_iretS hC hW hS hO (Nat.le_of_ble_eq_true rfl) (Nat.le_of_ble_eq_true rfl) dL_about_20
  refine lv_i2l hx hb dL_about_8 rfl ?_
  refine w_last hC hW hS m_90 (v := (m_X7_about k v σ).2.1) rfl (vp_lit (by decide)) dL_about_9 (fun H locs hW hS => ?_)
  rw [show Int32.toNatClampNeg 0 = 0 by decide] at hW
  refine lv_goto (tgt := 21) hx hb dL_about_10 (by decide) ?_
  refine lv_iconst (v := 0) hx hb dL_about_21 (by decide) ?_
  have hO : f_L_about k v σ = (0, us ((m_X7_about k v σ).2.2) 90 0 0 ((m_X7_about k v σ).2.1)) := by rw [f_L_about, if_pos e_1]
  exact w_iretS hC hW hS hO (Nat.le_of_ble_eq_true rfl) (Nat.le_of_ble_eq_true rfl) dL_about_22
theorem fr_L_about {kk : Nat}  {k : Int32} {v : Int32} {σ : Sg} (h90 : kk ≠ 90) : (f_L_about k v σ).2 kk = σ kk := by
  rw [f_L_about]
  repeat' split
  all_goals (first | (simp only [us_kk, ne_eq, not_false_eq_true, h90, fr_X7_about]; done) | with_reducible rfl | (simp only [us_kk, ne_eq, not_false_eq_true, h90, fr_X7_about]; with_reducible rfl))
def f_L_act (k : Int32) (t : Int32) (r : Int32) (σ : Sg) : Int32 × Sg :=
  if (m_X7_act k t r σ).1 = none then (0, us ((m_X7_act k t r σ).2.2) 90 0 0 ((m_X7_act k t r σ).2.1))
  else if (m_X7_act k t r σ).1 = some "java/lang/IndexOutOfBoundsException" then (1, σ)
  else (2, σ)
set_option maxHeartbeats 4000000 in
set_option maxRecDepth 100000 in
theorem c_L_act (l : Launch) (hl9 : l.stackTraces = false) (D : va_G) (ca : Nat → ClassId) (base : Nat) (ad : Adr) (σ : Sg) (k : Int32) (t : Int32) (r : Int32) (hI : CInv σ) : Ml l yL_act cL_act 6 (some .int) [(0, 12, 15, 13), (0, 12, 19, 25)] { frames := 9, cells := 3, slots := 18, locals := 168 } D ca base ad ρm Lm [.ref (ad 7 0), .int k, .int t, .int r, .ref (ad 90 0)] σ (some (.int (f_L_act k t r σ).1)) (f_L_act k t r σ).2 := by
  refine w_ofL (by decide) (Nat.le_of_ble_eq_true rfl) rfl ?_
  intro p e s m args below meth c hC hN htab hW hS ls hl
  have hx := hC.1
  have hb := hC.2.1
  refine lv_aload hx hb dL_act_0 (lv_at hl 4 rfl) ?_
  refine lv_iconst (v := 0) hx hb dL_act_2 (by decide) ?_
  refine lv_aload_n hx hb dL_act_3 rfl (lv_at hl 0 rfl) ?_
  refine lv_iload_n hx hb dL_act_4 rfl (lv_at hl 1 rfl) ?_
  refine lv_iload_n hx hb dL_act_5 rfl (lv_at hl 2 rfl) ?_
  refine lv_iload_n hx hb dL_act_6 rfl (lv_at hl 3 rfl) ?_
  refine w_callVX (As := [.int k, .int t, .int r]) (rest := .int 0 :: .ref (ad 90 0) :: []) (st2 := .int ((m_X7_act k t r σ).2.1) :: .int 0 :: .ref (ad 90 0) :: []) hC hW hS hl cv_L_69 m_7 (by decide) rfl (c_X7_act l hl9 D ca base ad σ k t r (by first | assumption | decide | omega)) rfl rfl rfl ⟨Nat.le_of_ble_eq_true rfl, Nat.le_of_ble_eq_true rfl⟩ (Nat.le_of_ble_eq_true rfl) dL_act_7 ⟨Nat.le_of_ble_eq_true rfl, Nat.le_of_ble_eq_true rfl⟩ (fun E ce q9 H locs e_1 hW hS hce hcv hcl => ?_) (fun e_1 H locs hW hS => ?_)
  · have hE := er_X7_act e_1
    rcases hE with rfl | rfl
    · refine vx_catch (name := "java/lang/IndexOutOfBoundsException") hC.2.2.2.1 [] ⟨0, 12, 15, 13⟩ [⟨0, 12, 19, 25⟩] (by rw [htab]; rfl) (fun z hz => nomatch hz) (by decide) (by decide) (hC.2.2.2.2.1 _ q_356) (va_Nw.use rfl (hC.2.2.2.2.2.2.2.1.2.1 _ (by decide))) hce hcv hcl ?_
      refine lv_astore (lv' := [(5, .ref q9), (0, .ref (ad 7 0)), (1, .int k), (2, .int t), (3, .int r), (4, .ref (ad 90 0))]) hx hb dL_act_15 hl (by decide) rfl (fun ls hl => ?_)
      refine lv_iconst (v := 1) hx hb dL_act_17 (by decide) ?_
      have hO : f_L_act k t r σ = (1, σ) := by rw [f_L_act, if_neg (by rw [e_1]; exact fun q => nomatch q), if_pos e_1]
      exact w_iretS hC hW hS hO (Nat.le_of_ble_eq_true rfl) (Nat.le_of_ble_eq_true rfl) dL_act_18
    · refine vx_catch (name := "java/lang/IllegalArgumentException") hC.2.2.2.1 [⟨0, 12, 15, 13⟩] ⟨0, 12, 19, 25⟩ [] (by rw [htab]; rfl) (fun z hz => by
        simp only [List.mem_cons, List.not_mem_nil, or_false] at hz
        rcases hz with rfl
        · exact Or.inr ⟨by decide, "java/lang/IndexOutOfBoundsException", hC.2.2.2.2.1 _ q_356, hN ("java/lang/IllegalArgumentException", "java/lang/IndexOutOfBoundsException") (by decide)⟩) (by decide) (by decide) (hC.2.2.2.2.1 _ q_484) (va_Nw.use rfl (hC.2.2.2.2.2.2.2.1.2.1 _ (by decide))) hce hcv hcl ?_
      refine lv_astore (lv' := [(5, .ref q9), (0, .ref (ad 7 0)), (1, .int k), (2, .int t), (3, .int r), (4, .ref (ad 90 0))]) hx hb dL_act_19 hl (by decide) rfl (fun ls hl => ?_)
      refine lv_iconst (v := 2) hx hb dL_act_21 (by decide) ?_
      have hO : f_L_act k t r σ = (2, σ) := by rw [f_L_act, if_neg (by rw [e_1]; exact fun q => nomatch q), if_neg (by rw [e_1]; decide)]
      exact w_iretS hC hW hS hO (Nat.le_of_ble_eq_true rfl) (Nat.le_of_ble_eq_true rfl) dL_act_22
  refine lv_i2l hx hb dL_act_10 rfl ?_
  refine w_last hC hW hS m_90 (v := (m_X7_act k t r σ).2.1) rfl (vp_lit (by decide)) dL_act_11 (fun H locs hW hS => ?_)
  rw [show Int32.toNatClampNeg 0 = 0 by decide] at hW
  refine lv_goto (tgt := 23) hx hb dL_act_12 (by decide) ?_
  refine lv_iconst (v := 0) hx hb dL_act_23 (by decide) ?_
  have hO : f_L_act k t r σ = (0, us ((m_X7_act k t r σ).2.2) 90 0 0 ((m_X7_act k t r σ).2.1)) := by rw [f_L_act, if_pos e_1]
  exact w_iretS hC hW hS hO (Nat.le_of_ble_eq_true rfl) (Nat.le_of_ble_eq_true rfl) dL_act_24
theorem fr_L_act {kk : Nat}  {k : Int32} {t : Int32} {r : Int32} {σ : Sg} (h0 : kk ≠ 0) (h1 : kk ≠ 1) (h11 : kk ≠ 11) (h90 : kk ≠ 90) : (f_L_act k t r σ).2 kk = σ kk := by
  rw [f_L_act]
  repeat' split
  all_goals (first | (simp only [us_kk, ne_eq, not_false_eq_true, h0, h1, h11, h90, fr_X7_act]; done) | with_reducible rfl | (simp only [us_kk, ne_eq, not_false_eq_true, h0, h1, h11, h90, fr_X7_act]; with_reducible rfl))
def f_L_actBy (k : Int32) (t : Int32) (r : Int32) (σ : Sg) : Int32 × Sg :=
  if (m_X7_actBy k t r σ).1 = none then (0, us ((m_X7_actBy k t r σ).2.2) 90 0 0 ((m_X7_actBy k t r σ).2.1))
  else if (m_X7_actBy k t r σ).1 = some "java/lang/IndexOutOfBoundsException" then (1, σ)
  else if (m_X7_actBy k t r σ).1 = some "java/lang/IllegalArgumentException" then (2, σ)
  else (3, σ)
set_option maxHeartbeats 4000000 in
set_option maxRecDepth 100000 in
theorem c_L_actBy (l : Launch) (hl9 : l.stackTraces = false) (D : va_G) (ca : Nat → ClassId) (base : Nat) (ad : Adr) (σ : Sg) (k : Int32) (t : Int32) (r : Int32) (hI : CInv σ) (hT9 : ∀ k : Int32, e_X7_needToken k σ = none → e_X7_needThing (σ 6 k.toNatClampNeg 0) σ = none) : Ml l yL_actBy cL_actBy 6 (some .int) [(0, 12, 15, 13), (0, 12, 19, 25), (0, 12, 23, 35)] { frames := 10, cells := 9, slots := 54, locals := 193 } D ca base ad ρm Lm [.ref (ad 7 0), .int k, .int t, .int r, .ref (ad 90 0)] σ (some (.int (f_L_actBy k t r σ).1)) (f_L_actBy k t r σ).2 := by
  refine w_ofL (by decide) (Nat.le_of_ble_eq_true rfl) rfl ?_
  intro p e s m args below meth c hC hN htab hW hS ls hl
  have hx := hC.1
  have hb := hC.2.1
  refine lv_aload hx hb dL_actBy_0 (lv_at hl 4 rfl) ?_
  refine lv_iconst (v := 0) hx hb dL_actBy_2 (by decide) ?_
  refine lv_aload_n hx hb dL_actBy_3 rfl (lv_at hl 0 rfl) ?_
  refine lv_iload_n hx hb dL_actBy_4 rfl (lv_at hl 1 rfl) ?_
  refine lv_iload_n hx hb dL_actBy_5 rfl (lv_at hl 2 rfl) ?_
  refine lv_iload_n hx hb dL_actBy_6 rfl (lv_at hl 3 rfl) ?_
  refine w_callVX (As := [.int k, .int t, .int r]) (rest := .int 0 :: .ref (ad 90 0) :: []) (st2 := .int ((m_X7_actBy k t r σ).2.1) :: .int 0 :: .ref (ad 90 0) :: []) hC hW hS hl cv_L_72 m_7 (by decide) rfl (c_X7_actBy l hl9 D ca base ad σ k t r (by first | assumption | decide | omega) (by first | assumption | decide | omega)) rfl rfl rfl ⟨Nat.le_of_ble_eq_true rfl, Nat.le_of_ble_eq_true rfl⟩ (Nat.le_of_ble_eq_true rfl) dL_actBy_7 ⟨Nat.le_of_ble_eq_true rfl, Nat.le_of_ble_eq_true rfl⟩ (fun E ce q9 H locs e_1 hW hS hce hcv hcl => ?_) (fun e_1 H locs hW hS => ?_)
  · have hE := er_X7_actBy e_1
    rcases hE with rfl | rfl | rfl
    · refine vx_catch (name := "java/lang/IndexOutOfBoundsException") hC.2.2.2.1 [] ⟨0, 12, 15, 13⟩ [⟨0, 12, 19, 25⟩, ⟨0, 12, 23, 35⟩] (by rw [htab]; rfl) (fun z hz => nomatch hz) (by decide) (by decide) (hC.2.2.2.2.1 _ q_356) (va_Nw.use rfl (hC.2.2.2.2.2.2.2.1.2.1 _ (by decide))) hce hcv hcl ?_
      refine lv_astore (lv' := [(5, .ref q9), (0, .ref (ad 7 0)), (1, .int k), (2, .int t), (3, .int r), (4, .ref (ad 90 0))]) hx hb dL_actBy_15 hl (by decide) rfl (fun ls hl => ?_)
      refine lv_iconst (v := 1) hx hb dL_actBy_17 (by decide) ?_
      have hO : f_L_actBy k t r σ = (1, σ) := by rw [f_L_actBy, if_neg (by rw [e_1]; exact fun q => nomatch q), if_pos e_1]
      exact w_iretS hC hW hS hO (Nat.le_of_ble_eq_true rfl) (Nat.le_of_ble_eq_true rfl) dL_actBy_18
    · refine vx_catch (name := "java/lang/IllegalArgumentException") hC.2.2.2.1 [⟨0, 12, 15, 13⟩] ⟨0, 12, 19, 25⟩ [⟨0, 12, 23, 35⟩] (by rw [htab]; rfl) (fun z hz => by
        simp only [List.mem_cons, List.not_mem_nil, or_false] at hz
        rcases hz with rfl
        · exact Or.inr ⟨by decide, "java/lang/IndexOutOfBoundsException", hC.2.2.2.2.1 _ q_356, hN ("java/lang/IllegalArgumentException", "java/lang/IndexOutOfBoundsException") (by decide)⟩) (by decide) (by decide) (hC.2.2.2.2.1 _ q_484) (va_Nw.use rfl (hC.2.2.2.2.2.2.2.1.2.1 _ (by decide))) hce hcv hcl ?_
      refine lv_astore (lv' := [(5, .ref q9), (0, .ref (ad 7 0)), (1, .int k), (2, .int t), (3, .int r), (4, .ref (ad 90 0))]) hx hb dL_actBy_19 hl (by decide) rfl (fun ls hl => ?_)
      refine lv_iconst (v := 2) hx hb dL_actBy_21 (by decide) ?_
      have hO : f_L_actBy k t r σ = (2, σ) := by rw [f_L_actBy, if_neg (by rw [e_1]; exact fun q => nomatch q), if_neg (by rw [e_1]; decide), if_pos e_1]
      exact w_iretS hC hW hS hO (Nat.le_of_ble_eq_true rfl) (Nat.le_of_ble_eq_true rfl) dL_actBy_22
    · refine vx_catch (name := "java/lang/UnsupportedOperationException") hC.2.2.2.1 [⟨0, 12, 15, 13⟩, ⟨0, 12, 19, 25⟩] ⟨0, 12, 23, 35⟩ [] (by rw [htab]; rfl) (fun z hz => by
        simp only [List.mem_cons, List.not_mem_nil, or_false] at hz
        rcases hz with rfl | rfl
        · exact Or.inr ⟨by decide, "java/lang/IndexOutOfBoundsException", hC.2.2.2.2.1 _ q_356, hN ("java/lang/UnsupportedOperationException", "java/lang/IndexOutOfBoundsException") (by decide)⟩
        · exact Or.inr ⟨by decide, "java/lang/IllegalArgumentException", hC.2.2.2.2.1 _ q_484, hN ("java/lang/UnsupportedOperationException", "java/lang/IllegalArgumentException") (by decide)⟩) (by decide) (by decide) (hC.2.2.2.2.1 _ q_534) (va_Nw.use rfl (hC.2.2.2.2.2.2.2.1.2.1 _ (by decide))) hce hcv hcl ?_
      refine lv_astore (lv' := [(5, .ref q9), (0, .ref (ad 7 0)), (1, .int k), (2, .int t), (3, .int r), (4, .ref (ad 90 0))]) hx hb dL_actBy_23 hl (by decide) rfl (fun ls hl => ?_)
      refine lv_iconst (v := 3) hx hb dL_actBy_25 (by decide) ?_
      have hO : f_L_actBy k t r σ = (3, σ) := by rw [f_L_actBy, if_neg (by rw [e_1]; exact fun q => nomatch q), if_neg (by rw [e_1]; decide), if_neg (by rw [e_1]; decide)]
      exact w_iretS hC hW hS hO (Nat.le_of_ble_eq_true rfl) (Nat.le_of_ble_eq_true rfl) dL_actBy_26
  refine lv_i2l hx hb dL_actBy_10 rfl ?_
  refine w_last hC hW hS m_90 (v := (m_X7_actBy k t r σ).2.1) rfl (vp_lit (by decide)) dL_actBy_11 (fun H locs hW hS => ?_)
  rw [show Int32.toNatClampNeg 0 = 0 by decide] at hW
  refine lv_goto (tgt := 27) hx hb dL_actBy_12 (by decide) ?_
  refine lv_iconst (v := 0) hx hb dL_actBy_27 (by decide) ?_
  have hO : f_L_actBy k t r σ = (0, us ((m_X7_actBy k t r σ).2.2) 90 0 0 ((m_X7_actBy k t r σ).2.1)) := by rw [f_L_actBy, if_pos e_1]
  exact w_iretS hC hW hS hO (Nat.le_of_ble_eq_true rfl) (Nat.le_of_ble_eq_true rfl) dL_actBy_28
theorem fr_L_actBy {kk : Nat}  {k : Int32} {t : Int32} {r : Int32} {σ : Sg} (h0 : kk ≠ 0) (h1 : kk ≠ 1) (h10 : kk ≠ 10) (h11 : kk ≠ 11) (h90 : kk ≠ 90) : (f_L_actBy k t r σ).2 kk = σ kk := by
  rw [f_L_actBy]
  repeat' split
  all_goals (first | (simp only [us_kk, ne_eq, not_false_eq_true, h0, h1, h10, h11, h90, fr_X7_actBy]; done) | with_reducible rfl | (simp only [us_kk, ne_eq, not_false_eq_true, h0, h1, h10, h11, h90, fr_X7_actBy]; with_reducible rfl))
def f_L_token (k : Int32) (t : Int32) (v : Int32) (u : Int32) (σ : Sg) : Int32 × Sg :=
  if (m_X7_token k t v u σ).1 = none then (0, us ((m_X7_token k t v u σ).2.2) 90 0 0 ((m_X7_token k t v u σ).2.1))
  else if (m_X7_token k t v u σ).1 = some "java/lang/IndexOutOfBoundsException" then (1, σ)
  else if (m_X7_token k t v u σ).1 = some "java/lang/IllegalArgumentException" then (2, σ)
  else (3, σ)
set_option maxHeartbeats 4000000 in
set_option maxRecDepth 100000 in
theorem c_L_token (l : Launch) (hl9 : l.stackTraces = false) (D : va_G) (ca : Nat → ClassId) (base : Nat) (ad : Adr) (σ : Sg) (k : Int32) (t : Int32) (v : Int32) (u : Int32) (hI : CInv σ) : Ml l yL_token cL_token 7 (some .int) [(0, 14, 17, 13), (0, 14, 21, 25), (0, 14, 25, 15)] { frames := 9, cells := 5, slots := 30, locals := 168 } D ca base ad ρm Lm [.ref (ad 7 0), .int k, .int t, .int v, .int u, .ref (ad 90 0)] σ (some (.int (f_L_token k t v u σ).1)) (f_L_token k t v u σ).2 := by
  refine w_ofL (by decide) (Nat.le_of_ble_eq_true rfl) rfl ?_
  intro p e s m args below meth c hC hN htab hW hS ls hl
  have hx := hC.1
  have hb := hC.2.1
  refine lv_aload hx hb dL_token_0 (lv_at hl 5 rfl) ?_
  refine lv_iconst (v := 0) hx hb dL_token_2 (by decide) ?_
  refine lv_aload_n hx hb dL_token_3 rfl (lv_at hl 0 rfl) ?_
  refine lv_iload_n hx hb dL_token_4 rfl (lv_at hl 1 rfl) ?_
  refine lv_iload_n hx hb dL_token_5 rfl (lv_at hl 2 rfl) ?_
  refine lv_iload_n hx hb dL_token_6 rfl (lv_at hl 3 rfl) ?_
  refine lv_iload hx hb dL_token_7 (lv_at hl 4 rfl) ?_
  refine w_callVX (As := [.int k, .int t, .int v, .int u]) (rest := .int 0 :: .ref (ad 90 0) :: []) (st2 := .int ((m_X7_token k t v u σ).2.1) :: .int 0 :: .ref (ad 90 0) :: []) hC hW hS hl cv_L_75 m_7 (by decide) rfl (c_X7_token l hl9 D ca base ad σ k t v u (by first | assumption | decide | omega)) rfl rfl rfl ⟨Nat.le_of_ble_eq_true rfl, Nat.le_of_ble_eq_true rfl⟩ (Nat.le_of_ble_eq_true rfl) dL_token_9 ⟨Nat.le_of_ble_eq_true rfl, Nat.le_of_ble_eq_true rfl⟩ (fun E ce q9 H locs e_1 hW hS hce hcv hcl => ?_) (fun e_1 H locs hW hS => ?_)
  · have hE := er_X7_token e_1
    rcases hE with rfl | rfl | rfl
    · refine vx_catch (name := "java/lang/IndexOutOfBoundsException") hC.2.2.2.1 [] ⟨0, 14, 17, 13⟩ [⟨0, 14, 21, 25⟩, ⟨0, 14, 25, 15⟩] (by rw [htab]; rfl) (fun z hz => nomatch hz) (by decide) (by decide) (hC.2.2.2.2.1 _ q_356) (va_Nw.use rfl (hC.2.2.2.2.2.2.2.1.2.1 _ (by decide))) hce hcv hcl ?_
      refine lv_astore (lv' := [(6, .ref q9), (0, .ref (ad 7 0)), (1, .int k), (2, .int t), (3, .int v), (4, .int u), (5, .ref (ad 90 0))]) hx hb dL_token_17 hl (by decide) rfl (fun ls hl => ?_)
      refine lv_iconst (v := 1) hx hb dL_token_19 (by decide) ?_
      have hO : f_L_token k t v u σ = (1, σ) := by rw [f_L_token, if_neg (by rw [e_1]; exact fun q => nomatch q), if_pos e_1]
      exact w_iretS hC hW hS hO (Nat.le_of_ble_eq_true rfl) (Nat.le_of_ble_eq_true rfl) dL_token_20
    · refine vx_catch (name := "java/lang/IllegalArgumentException") hC.2.2.2.1 [⟨0, 14, 17, 13⟩] ⟨0, 14, 21, 25⟩ [⟨0, 14, 25, 15⟩] (by rw [htab]; rfl) (fun z hz => by
        simp only [List.mem_cons, List.not_mem_nil, or_false] at hz
        rcases hz with rfl
        · exact Or.inr ⟨by decide, "java/lang/IndexOutOfBoundsException", hC.2.2.2.2.1 _ q_356, hN ("java/lang/IllegalArgumentException", "java/lang/IndexOutOfBoundsException") (by decide)⟩) (by decide) (by decide) (hC.2.2.2.2.1 _ q_484) (va_Nw.use rfl (hC.2.2.2.2.2.2.2.1.2.1 _ (by decide))) hce hcv hcl ?_
      refine lv_astore (lv' := [(6, .ref q9), (0, .ref (ad 7 0)), (1, .int k), (2, .int t), (3, .int v), (4, .int u), (5, .ref (ad 90 0))]) hx hb dL_token_21 hl (by decide) rfl (fun ls hl => ?_)
      refine lv_iconst (v := 2) hx hb dL_token_23 (by decide) ?_
      have hO : f_L_token k t v u σ = (2, σ) := by rw [f_L_token, if_neg (by rw [e_1]; exact fun q => nomatch q), if_neg (by rw [e_1]; decide), if_pos e_1]
      exact w_iretS hC hW hS hO (Nat.le_of_ble_eq_true rfl) (Nat.le_of_ble_eq_true rfl) dL_token_24
    · refine vx_catch (name := "java/lang/IllegalStateException") hC.2.2.2.1 [⟨0, 14, 17, 13⟩, ⟨0, 14, 21, 25⟩] ⟨0, 14, 25, 15⟩ [] (by rw [htab]; rfl) (fun z hz => by
        simp only [List.mem_cons, List.not_mem_nil, or_false] at hz
        rcases hz with rfl | rfl
        · exact Or.inr ⟨by decide, "java/lang/IndexOutOfBoundsException", hC.2.2.2.2.1 _ q_356, hN ("java/lang/IllegalStateException", "java/lang/IndexOutOfBoundsException") (by decide)⟩
        · exact Or.inr ⟨by decide, "java/lang/IllegalArgumentException", hC.2.2.2.2.1 _ q_484, hN ("java/lang/IllegalStateException", "java/lang/IllegalArgumentException") (by decide)⟩) (by decide) (by decide) (hC.2.2.2.2.1 _ q_357) (va_Nw.use rfl (hC.2.2.2.2.2.2.2.1.2.1 _ (by decide))) hce hcv hcl ?_
      refine lv_astore (lv' := [(6, .ref q9), (0, .ref (ad 7 0)), (1, .int k), (2, .int t), (3, .int v), (4, .int u), (5, .ref (ad 90 0))]) hx hb dL_token_25 hl (by decide) rfl (fun ls hl => ?_)
      refine lv_iconst (v := 3) hx hb dL_token_27 (by decide) ?_
      have hO : f_L_token k t v u σ = (3, σ) := by rw [f_L_token, if_neg (by rw [e_1]; exact fun q => nomatch q), if_neg (by rw [e_1]; decide), if_neg (by rw [e_1]; decide)]
      exact w_iretS hC hW hS hO (Nat.le_of_ble_eq_true rfl) (Nat.le_of_ble_eq_true rfl) dL_token_28
  refine lv_i2l hx hb dL_token_12 rfl ?_
  refine w_last hC hW hS m_90 (v := (m_X7_token k t v u σ).2.1) rfl (vp_lit (by decide)) dL_token_13 (fun H locs hW hS => ?_)
  rw [show Int32.toNatClampNeg 0 = 0 by decide] at hW
  refine lv_goto (tgt := 29) hx hb dL_token_14 (by decide) ?_
  refine lv_iconst (v := 0) hx hb dL_token_29 (by decide) ?_
  have hO : f_L_token k t v u σ = (0, us ((m_X7_token k t v u σ).2.2) 90 0 0 ((m_X7_token k t v u σ).2.1)) := by rw [f_L_token, if_pos e_1]
  exact w_iretS hC hW hS hO (Nat.le_of_ble_eq_true rfl) (Nat.le_of_ble_eq_true rfl) dL_token_30
theorem fr_L_token {kk : Nat}  {k : Int32} {t : Int32} {v : Int32} {u : Int32} {σ : Sg} (h6 : kk ≠ 6) (h7 : kk ≠ 7) (h90 : kk ≠ 90) : (f_L_token k t v u σ).2 kk = σ kk := by
  rw [f_L_token]
  repeat' split
  all_goals (first | (simp only [us_kk, ne_eq, not_false_eq_true, h6, h7, h90, fr_X7_token]; done) | with_reducible rfl | (simp only [us_kk, ne_eq, not_false_eq_true, h6, h7, h90, fr_X7_token]; with_reducible rfl))
def f_L_narrow (k : Int32) (t : Int32) (v : Int32) (u : Int32) (w : Int32) (σ : Sg) : Int32 × Sg :=
  if (m_X7_narrow k t v u w σ).1 = none then (0, us ((m_X7_narrow k t v u w σ).2.2) 90 0 0 ((m_X7_narrow k t v u w σ).2.1))
  else if (m_X7_narrow k t v u w σ).1 = some "java/lang/IndexOutOfBoundsException" then (1, σ)
  else if (m_X7_narrow k t v u w σ).1 = some "java/lang/IllegalArgumentException" then (2, σ)
  else if (m_X7_narrow k t v u w σ).1 = some "java/lang/UnsupportedOperationException" then (3, σ)
  else (4, σ)
set_option maxHeartbeats 4000000 in
set_option maxRecDepth 100000 in
theorem c_L_narrow (l : Launch) (hl9 : l.stackTraces = false) (D : va_G) (ca : Nat → ClassId) (base : Nat) (ad : Adr) (σ : Sg) (k : Int32) (t : Int32) (v : Int32) (u : Int32) (w : Int32) (hI : CInv σ) : Ml l yL_narrow cL_narrow 8 (some .int) [(0, 16, 19, 13), (0, 16, 23, 25), (0, 16, 27, 35), (0, 16, 31, 15)] { frames := 9, cells := 10, slots := 60, locals := 169 } D ca base ad ρm Lm [.ref (ad 7 0), .int k, .int t, .int v, .int u, .int w, .ref (ad 90 0)] σ (some (.int (f_L_narrow k t v u w σ).1)) (f_L_narrow k t v u w σ).2 := by
  refine w_ofL (by decide) (Nat.le_of_ble_eq_true rfl) rfl ?_
  intro p e s m args below meth c hC hN htab hW hS ls hl
  have hx := hC.1
  have hb := hC.2.1
  refine lv_aload hx hb dL_narrow_0 (lv_at hl 6 rfl) ?_
  refine lv_iconst (v := 0) hx hb dL_narrow_2 (by decide) ?_
  refine lv_aload_n hx hb dL_narrow_3 rfl (lv_at hl 0 rfl) ?_
  refine lv_iload_n hx hb dL_narrow_4 rfl (lv_at hl 1 rfl) ?_
  refine lv_iload_n hx hb dL_narrow_5 rfl (lv_at hl 2 rfl) ?_
  refine lv_iload_n hx hb dL_narrow_6 rfl (lv_at hl 3 rfl) ?_
  refine lv_iload hx hb dL_narrow_7 (lv_at hl 4 rfl) ?_
  refine lv_iload hx hb dL_narrow_9 (lv_at hl 5 rfl) ?_
  refine w_callVX (As := [.int k, .int t, .int v, .int u, .int w]) (rest := .int 0 :: .ref (ad 90 0) :: []) (st2 := .int ((m_X7_narrow k t v u w σ).2.1) :: .int 0 :: .ref (ad 90 0) :: []) hC hW hS hl cv_L_78 m_7 (by decide) rfl (c_X7_narrow l hl9 D ca base ad σ k t v u w (by first | assumption | decide | omega)) rfl rfl rfl ⟨Nat.le_of_ble_eq_true rfl, Nat.le_of_ble_eq_true rfl⟩ (Nat.le_of_ble_eq_true rfl) dL_narrow_11 ⟨Nat.le_of_ble_eq_true rfl, Nat.le_of_ble_eq_true rfl⟩ (fun E ce q9 H locs e_1 hW hS hce hcv hcl => ?_) (fun e_1 H locs hW hS => ?_)
  · have hE := er_X7_narrow e_1
    rcases hE with rfl | rfl | rfl | rfl
    · refine vx_catch (name := "java/lang/IndexOutOfBoundsException") hC.2.2.2.1 [] ⟨0, 16, 19, 13⟩ [⟨0, 16, 23, 25⟩, ⟨0, 16, 27, 35⟩, ⟨0, 16, 31, 15⟩] (by rw [htab]; rfl) (fun z hz => nomatch hz) (by decide) (by decide) (hC.2.2.2.2.1 _ q_356) (va_Nw.use rfl (hC.2.2.2.2.2.2.2.1.2.1 _ (by decide))) hce hcv hcl ?_
      refine lv_astore (lv' := [(7, .ref q9), (0, .ref (ad 7 0)), (1, .int k), (2, .int t), (3, .int v), (4, .int u), (5, .int w), (6, .ref (ad 90 0))]) hx hb dL_narrow_19 hl (by decide) rfl (fun ls hl => ?_)
      refine lv_iconst (v := 1) hx hb dL_narrow_21 (by decide) ?_
      have hO : f_L_narrow k t v u w σ = (1, σ) := by rw [f_L_narrow, if_neg (by rw [e_1]; exact fun q => nomatch q), if_pos e_1]
      exact w_iretS hC hW hS hO (Nat.le_of_ble_eq_true rfl) (Nat.le_of_ble_eq_true rfl) dL_narrow_22
    · refine vx_catch (name := "java/lang/IllegalArgumentException") hC.2.2.2.1 [⟨0, 16, 19, 13⟩] ⟨0, 16, 23, 25⟩ [⟨0, 16, 27, 35⟩, ⟨0, 16, 31, 15⟩] (by rw [htab]; rfl) (fun z hz => by
        simp only [List.mem_cons, List.not_mem_nil, or_false] at hz
        rcases hz with rfl
        · exact Or.inr ⟨by decide, "java/lang/IndexOutOfBoundsException", hC.2.2.2.2.1 _ q_356, hN ("java/lang/IllegalArgumentException", "java/lang/IndexOutOfBoundsException") (by decide)⟩) (by decide) (by decide) (hC.2.2.2.2.1 _ q_484) (va_Nw.use rfl (hC.2.2.2.2.2.2.2.1.2.1 _ (by decide))) hce hcv hcl ?_
      refine lv_astore (lv' := [(7, .ref q9), (0, .ref (ad 7 0)), (1, .int k), (2, .int t), (3, .int v), (4, .int u), (5, .int w), (6, .ref (ad 90 0))]) hx hb dL_narrow_23 hl (by decide) rfl (fun ls hl => ?_)
      refine lv_iconst (v := 2) hx hb dL_narrow_25 (by decide) ?_
      have hO : f_L_narrow k t v u w σ = (2, σ) := by rw [f_L_narrow, if_neg (by rw [e_1]; exact fun q => nomatch q), if_neg (by rw [e_1]; decide), if_pos e_1]
      exact w_iretS hC hW hS hO (Nat.le_of_ble_eq_true rfl) (Nat.le_of_ble_eq_true rfl) dL_narrow_26
    · refine vx_catch (name := "java/lang/UnsupportedOperationException") hC.2.2.2.1 [⟨0, 16, 19, 13⟩, ⟨0, 16, 23, 25⟩] ⟨0, 16, 27, 35⟩ [⟨0, 16, 31, 15⟩] (by rw [htab]; rfl) (fun z hz => by
        simp only [List.mem_cons, List.not_mem_nil, or_false] at hz
        rcases hz with rfl | rfl
        · exact Or.inr ⟨by decide, "java/lang/IndexOutOfBoundsException", hC.2.2.2.2.1 _ q_356, hN ("java/lang/UnsupportedOperationException", "java/lang/IndexOutOfBoundsException") (by decide)⟩
        · exact Or.inr ⟨by decide, "java/lang/IllegalArgumentException", hC.2.2.2.2.1 _ q_484, hN ("java/lang/UnsupportedOperationException", "java/lang/IllegalArgumentException") (by decide)⟩) (by decide) (by decide) (hC.2.2.2.2.1 _ q_534) (va_Nw.use rfl (hC.2.2.2.2.2.2.2.1.2.1 _ (by decide))) hce hcv hcl ?_
      refine lv_astore (lv' := [(7, .ref q9), (0, .ref (ad 7 0)), (1, .int k), (2, .int t), (3, .int v), (4, .int u), (5, .int w), (6, .ref (ad 90 0))]) hx hb dL_narrow_27 hl (by decide) rfl (fun ls hl => ?_)
      refine lv_iconst (v := 3) hx hb dL_narrow_29 (by decide) ?_
      have hO : f_L_narrow k t v u w σ = (3, σ) := by rw [f_L_narrow, if_neg (by rw [e_1]; exact fun q => nomatch q), if_neg (by rw [e_1]; decide), if_neg (by rw [e_1]; decide), if_pos e_1]
      exact w_iretS hC hW hS hO (Nat.le_of_ble_eq_true rfl) (Nat.le_of_ble_eq_true rfl) dL_narrow_30
    · refine vx_catch (name := "java/lang/IllegalStateException") hC.2.2.2.1 [⟨0, 16, 19, 13⟩, ⟨0, 16, 23, 25⟩, ⟨0, 16, 27, 35⟩] ⟨0, 16, 31, 15⟩ [] (by rw [htab]; rfl) (fun z hz => by
        simp only [List.mem_cons, List.not_mem_nil, or_false] at hz
        rcases hz with rfl | rfl | rfl
        · exact Or.inr ⟨by decide, "java/lang/IndexOutOfBoundsException", hC.2.2.2.2.1 _ q_356, hN ("java/lang/IllegalStateException", "java/lang/IndexOutOfBoundsException") (by decide)⟩
        · exact Or.inr ⟨by decide, "java/lang/IllegalArgumentException", hC.2.2.2.2.1 _ q_484, hN ("java/lang/IllegalStateException", "java/lang/IllegalArgumentException") (by decide)⟩
        · exact Or.inr ⟨by decide, "java/lang/UnsupportedOperationException", hC.2.2.2.2.1 _ q_534, hN ("java/lang/IllegalStateException", "java/lang/UnsupportedOperationException") (by decide)⟩) (by decide) (by decide) (hC.2.2.2.2.1 _ q_357) (va_Nw.use rfl (hC.2.2.2.2.2.2.2.1.2.1 _ (by decide))) hce hcv hcl ?_
      refine lv_astore (lv' := [(7, .ref q9), (0, .ref (ad 7 0)), (1, .int k), (2, .int t), (3, .int v), (4, .int u), (5, .int w), (6, .ref (ad 90 0))]) hx hb dL_narrow_31 hl (by decide) rfl (fun ls hl => ?_)
      refine lv_iconst (v := 4) hx hb dL_narrow_33 (by decide) ?_
      have hO : f_L_narrow k t v u w σ = (4, σ) := by rw [f_L_narrow, if_neg (by rw [e_1]; exact fun q => nomatch q), if_neg (by rw [e_1]; decide), if_neg (by rw [e_1]; decide), if_neg (by rw [e_1]; decide)]
      exact w_iretS hC hW hS hO (Nat.le_of_ble_eq_true rfl) (Nat.le_of_ble_eq_true rfl) dL_narrow_34
  refine lv_i2l hx hb dL_narrow_14 rfl ?_
  refine w_last hC hW hS m_90 (v := (m_X7_narrow k t v u w σ).2.1) rfl (vp_lit (by decide)) dL_narrow_15 (fun H locs hW hS => ?_)
  rw [show Int32.toNatClampNeg 0 = 0 by decide] at hW
  refine lv_goto (tgt := 35) hx hb dL_narrow_16 (by decide) ?_
  refine lv_iconst (v := 0) hx hb dL_narrow_35 (by decide) ?_
  have hO : f_L_narrow k t v u w σ = (0, us ((m_X7_narrow k t v u w σ).2.2) 90 0 0 ((m_X7_narrow k t v u w σ).2.1)) := by rw [f_L_narrow, if_pos e_1]
  exact w_iretS hC hW hS hO (Nat.le_of_ble_eq_true rfl) (Nat.le_of_ble_eq_true rfl) dL_narrow_36
theorem fr_L_narrow {kk : Nat}  {k : Int32} {t : Int32} {v : Int32} {u : Int32} {w : Int32} {σ : Sg} (h6 : kk ≠ 6) (h7 : kk ≠ 7) (h90 : kk ≠ 90) : (f_L_narrow k t v u w σ).2 kk = σ kk := by
  rw [f_L_narrow]
  repeat' split
  all_goals (first | (simp only [us_kk, ne_eq, not_false_eq_true, h6, h7, h90, fr_X7_narrow]; done) | with_reducible rfl | (simp only [us_kk, ne_eq, not_false_eq_true, h6, h7, h90, fr_X7_narrow]; with_reducible rfl))
def f_L_takeBack (k : Int32) (t : Int32) (σ : Sg) : Int32 × Sg :=
  if (m_X7_takeBack k t σ).1 = none then (if ((m_X7_takeBack k t σ).2.1) = 0 then (0, us ((m_X7_takeBack k t σ).2.2) 90 0 0 0)
    else (0, us ((m_X7_takeBack k t σ).2.2) 90 0 0 1))
  else if (m_X7_takeBack k t σ).1 = some "java/lang/IndexOutOfBoundsException" then (1, σ)
  else (2, σ)
set_option maxHeartbeats 4000000 in
set_option maxRecDepth 100000 in
theorem c_L_takeBack (l : Launch) (hl9 : l.stackTraces = false) (D : va_G) (ca : Nat → ClassId) (base : Nat) (ad : Adr) (σ : Sg) (k : Int32) (t : Int32) (hI : CInv σ) : Ml l yL_takeBack cL_takeBack 5 (some .int) [(0, 17, 20, 13), (0, 17, 24, 35)] { frames := 9, cells := 4, slots := 24, locals := 166 } D ca base ad ρm Lm [.ref (ad 7 0), .int k, .int t, .ref (ad 90 0)] σ (some (.int (f_L_takeBack k t σ).1)) (f_L_takeBack k t σ).2 := by
  refine w_ofL (by decide) (Nat.le_of_ble_eq_true rfl) rfl ?_
  intro p e s m args below meth c hC hN htab hW hS ls hl
  have hx := hC.1
  have hb := hC.2.1
  refine lv_aload_n hx hb dL_takeBack_0 rfl (lv_at hl 3 rfl) ?_
  refine lv_iconst (v := 0) hx hb dL_takeBack_1 (by decide) ?_
  refine lv_aload_n hx hb dL_takeBack_2 rfl (lv_at hl 0 rfl) ?_
  refine lv_iload_n hx hb dL_takeBack_3 rfl (lv_at hl 1 rfl) ?_
  refine lv_iload_n hx hb dL_takeBack_4 rfl (lv_at hl 2 rfl) ?_
  refine w_callVX (As := [.int k, .int t]) (rest := .int 0 :: .ref (ad 90 0) :: []) (st2 := .int ((m_X7_takeBack k t σ).2.1) :: .int 0 :: .ref (ad 90 0) :: []) hC hW hS hl cv_L_82 m_7 (by decide) rfl (c_X7_takeBack l hl9 D ca base ad σ k t (by first | assumption | decide | omega)) rfl rfl rfl ⟨Nat.le_of_ble_eq_true rfl, Nat.le_of_ble_eq_true rfl⟩ (Nat.le_of_ble_eq_true rfl) dL_takeBack_5 ⟨Nat.le_of_ble_eq_true rfl, Nat.le_of_ble_eq_true rfl⟩ (fun E ce q9 H locs e_1 hW hS hce hcv hcl => ?_) (fun e_1 H locs hW hS => ?_)
  · have hE := er_X7_takeBack e_1
    rcases hE with rfl | rfl
    · refine vx_catch (name := "java/lang/IndexOutOfBoundsException") hC.2.2.2.1 [] ⟨0, 17, 20, 13⟩ [⟨0, 17, 24, 35⟩] (by rw [htab]; rfl) (fun z hz => nomatch hz) (by decide) (by decide) (hC.2.2.2.2.1 _ q_356) (va_Nw.use rfl (hC.2.2.2.2.2.2.2.1.2.1 _ (by decide))) hce hcv hcl ?_
      refine lv_astore (lv' := [(4, .ref q9), (0, .ref (ad 7 0)), (1, .int k), (2, .int t), (3, .ref (ad 90 0))]) hx hb dL_takeBack_20 hl (by decide) rfl (fun ls hl => ?_)
      refine lv_iconst (v := 1) hx hb dL_takeBack_22 (by decide) ?_
      have hO : f_L_takeBack k t σ = (1, σ) := by rw [f_L_takeBack, if_neg (by rw [e_1]; exact fun q => nomatch q), if_pos e_1]
      exact w_iretS hC hW hS hO (Nat.le_of_ble_eq_true rfl) (Nat.le_of_ble_eq_true rfl) dL_takeBack_23
    · refine vx_catch (name := "java/lang/UnsupportedOperationException") hC.2.2.2.1 [⟨0, 17, 20, 13⟩] ⟨0, 17, 24, 35⟩ [] (by rw [htab]; rfl) (fun z hz => by
        simp only [List.mem_cons, List.not_mem_nil, or_false] at hz
        rcases hz with rfl
        · exact Or.inr ⟨by decide, "java/lang/IndexOutOfBoundsException", hC.2.2.2.2.1 _ q_356, hN ("java/lang/UnsupportedOperationException", "java/lang/IndexOutOfBoundsException") (by decide)⟩) (by decide) (by decide) (hC.2.2.2.2.1 _ q_534) (va_Nw.use rfl (hC.2.2.2.2.2.2.2.1.2.1 _ (by decide))) hce hcv hcl ?_
      refine lv_astore (lv' := [(4, .ref q9), (0, .ref (ad 7 0)), (1, .int k), (2, .int t), (3, .ref (ad 90 0))]) hx hb dL_takeBack_24 hl (by decide) rfl (fun ls hl => ?_)
      refine lv_iconst (v := 2) hx hb dL_takeBack_26 (by decide) ?_
      have hO : f_L_takeBack k t σ = (2, σ) := by rw [f_L_takeBack, if_neg (by rw [e_1]; exact fun q => nomatch q), if_neg (by rw [e_1]; decide)]
      exact w_iretS hC hW hS hO (Nat.le_of_ble_eq_true rfl) (Nat.le_of_ble_eq_true rfl) dL_takeBack_27
  refine lv_if_eq (tgt := 15) hx hb dL_takeBack_8 (by decide) (fun c_2 => ?_) (fun c_2 => ?_)
  · refine lv_lconst (v := 0) hx hb dL_takeBack_15 (by decide) ?_
    refine w_last hC hW hS m_90 (v := 0) (by decide) (vp_lit (by decide)) dL_takeBack_16 (fun H locs hW hS => ?_)
    rw [show Int32.toNatClampNeg 0 = 0 by decide] at hW
    refine lv_goto (tgt := 28) hx hb dL_takeBack_17 (by decide) ?_
    refine lv_iconst (v := 0) hx hb dL_takeBack_28 (by decide) ?_
    have hO : f_L_takeBack k t σ = (0, us ((m_X7_takeBack k t σ).2.2) 90 0 0 0) := by rw [f_L_takeBack, if_pos e_1, if_pos c_2]
    exact w_iretS hC hW hS hO (Nat.le_of_ble_eq_true rfl) (Nat.le_of_ble_eq_true rfl) dL_takeBack_29
  · refine lv_lconst (v := 1) hx hb dL_takeBack_11 (by decide) ?_
    refine lv_goto (tgt := 16) hx hb dL_takeBack_12 (by decide) ?_
    refine w_last hC hW hS m_90 (v := 1) (by decide) (vp_lit (by decide)) dL_takeBack_16 (fun H locs hW hS => ?_)
    rw [show Int32.toNatClampNeg 0 = 0 by decide] at hW
    refine lv_goto (tgt := 28) hx hb dL_takeBack_17 (by decide) ?_
    refine lv_iconst (v := 0) hx hb dL_takeBack_28 (by decide) ?_
    have hO : f_L_takeBack k t σ = (0, us ((m_X7_takeBack k t σ).2.2) 90 0 0 1) := by rw [f_L_takeBack, if_pos e_1, if_neg c_2]
    exact w_iretS hC hW hS hO (Nat.le_of_ble_eq_true rfl) (Nat.le_of_ble_eq_true rfl) dL_takeBack_29
theorem fr_L_takeBack {kk : Nat}  {k : Int32} {t : Int32} {σ : Sg} (h6 : kk ≠ 6) (h90 : kk ≠ 90) : (f_L_takeBack k t σ).2 kk = σ kk := by
  rw [f_L_takeBack]
  repeat' split
  all_goals (first | (simp only [us_kk, ne_eq, not_false_eq_true, h6, h90, fr_X7_takeBack]; done) | with_reducible rfl | (simp only [us_kk, ne_eq, not_false_eq_true, h6, h90, fr_X7_takeBack]; with_reducible rfl))
def f_L_pass (v : Int32) (σ : Sg) : Int32 × Sg :=
  if (m_X7_pass v σ).1 = none then (0, us ((m_X7_pass v σ).2.2) 90 0 0 ((m_X7_pass v σ).2.1))
  else if (m_X7_pass v σ).1 = some "java/lang/IllegalArgumentException" then (1, σ)
  else (2, σ)
set_option maxHeartbeats 4000000 in
set_option maxRecDepth 100000 in
theorem c_L_pass (l : Launch) (hl9 : l.stackTraces = false) (D : va_G) (ca : Nat → ClassId) (base : Nat) (ad : Adr) (σ : Sg) (v : Int32) (hI : CInv σ) : Ml l yL_pass cL_pass 4 (some .int) [(0, 9, 12, 25), (0, 9, 15, 15)] { frames := 8, cells := 2, slots := 12, locals := 143 } D ca base ad ρm Lm [.ref (ad 7 0), .int v, .ref (ad 90 0)] σ (some (.int (f_L_pass v σ).1)) (f_L_pass v σ).2 := by
  refine w_ofL (by decide) (Nat.le_of_ble_eq_true rfl) rfl ?_
  intro p e s m args below meth c hC hN htab hW hS ls hl
  have hx := hC.1
  have hb := hC.2.1
  refine lv_aload_n hx hb dL_pass_0 rfl (lv_at hl 2 rfl) ?_
  refine lv_iconst (v := 0) hx hb dL_pass_1 (by decide) ?_
  refine lv_aload_n hx hb dL_pass_2 rfl (lv_at hl 0 rfl) ?_
  refine lv_iload_n hx hb dL_pass_3 rfl (lv_at hl 1 rfl) ?_
  refine w_callVX (As := [.int v]) (rest := .int 0 :: .ref (ad 90 0) :: []) (st2 := .int ((m_X7_pass v σ).2.1) :: .int 0 :: .ref (ad 90 0) :: []) hC hW hS hl cv_L_86 m_7 (by decide) rfl (c_X7_pass l hl9 D ca base ad σ v (by first | assumption | decide | omega)) rfl rfl rfl ⟨Nat.le_of_ble_eq_true rfl, Nat.le_of_ble_eq_true rfl⟩ (Nat.le_of_ble_eq_true rfl) dL_pass_4 ⟨Nat.le_of_ble_eq_true rfl, Nat.le_of_ble_eq_true rfl⟩ (fun E ce q9 H locs e_1 hW hS hce hcv hcl => ?_) (fun e_1 H locs hW hS => ?_)
  · have hE := er_X7_pass e_1
    rcases hE with rfl | rfl
    · refine vx_catch (name := "java/lang/IllegalArgumentException") hC.2.2.2.1 [] ⟨0, 9, 12, 25⟩ [⟨0, 9, 15, 15⟩] (by rw [htab]; rfl) (fun z hz => nomatch hz) (by decide) (by decide) (hC.2.2.2.2.1 _ q_484) (va_Nw.use rfl (hC.2.2.2.2.2.2.2.1.2.1 _ (by decide))) hce hcv hcl ?_
      refine lv_astore_n (lv' := [(3, .ref q9), (0, .ref (ad 7 0)), (1, .int v), (2, .ref (ad 90 0))]) hx hb dL_pass_12 rfl hl (by decide) rfl (fun ls hl => ?_)
      refine lv_iconst (v := 1) hx hb dL_pass_13 (by decide) ?_
      have hO : f_L_pass v σ = (1, σ) := by rw [f_L_pass, if_neg (by rw [e_1]; exact fun q => nomatch q), if_pos e_1]
      exact w_iretS hC hW hS hO (Nat.le_of_ble_eq_true rfl) (Nat.le_of_ble_eq_true rfl) dL_pass_14
    · refine vx_catch (name := "java/lang/IllegalStateException") hC.2.2.2.1 [⟨0, 9, 12, 25⟩] ⟨0, 9, 15, 15⟩ [] (by rw [htab]; rfl) (fun z hz => by
        simp only [List.mem_cons, List.not_mem_nil, or_false] at hz
        rcases hz with rfl
        · exact Or.inr ⟨by decide, "java/lang/IllegalArgumentException", hC.2.2.2.2.1 _ q_484, hN ("java/lang/IllegalStateException", "java/lang/IllegalArgumentException") (by decide)⟩) (by decide) (by decide) (hC.2.2.2.2.1 _ q_357) (va_Nw.use rfl (hC.2.2.2.2.2.2.2.1.2.1 _ (by decide))) hce hcv hcl ?_
      refine lv_astore_n (lv' := [(3, .ref q9), (0, .ref (ad 7 0)), (1, .int v), (2, .ref (ad 90 0))]) hx hb dL_pass_15 rfl hl (by decide) rfl (fun ls hl => ?_)
      refine lv_iconst (v := 2) hx hb dL_pass_16 (by decide) ?_
      have hO : f_L_pass v σ = (2, σ) := by rw [f_L_pass, if_neg (by rw [e_1]; exact fun q => nomatch q), if_neg (by rw [e_1]; decide)]
      exact w_iretS hC hW hS hO (Nat.le_of_ble_eq_true rfl) (Nat.le_of_ble_eq_true rfl) dL_pass_17
  refine lv_i2l hx hb dL_pass_7 rfl ?_
  refine w_last hC hW hS m_90 (v := (m_X7_pass v σ).2.1) rfl (vp_lit (by decide)) dL_pass_8 (fun H locs hW hS => ?_)
  rw [show Int32.toNatClampNeg 0 = 0 by decide] at hW
  refine lv_goto (tgt := 18) hx hb dL_pass_9 (by decide) ?_
  refine lv_iconst (v := 0) hx hb dL_pass_18 (by decide) ?_
  have hO : f_L_pass v σ = (0, us ((m_X7_pass v σ).2.2) 90 0 0 ((m_X7_pass v σ).2.1)) := by rw [f_L_pass, if_pos e_1]
  exact w_iretS hC hW hS hO (Nat.le_of_ble_eq_true rfl) (Nat.le_of_ble_eq_true rfl) dL_pass_19
theorem fr_L_pass {kk : Nat}  {v : Int32} {σ : Sg} (h7 : kk ≠ 7) (h90 : kk ≠ 90) : (f_L_pass v σ).2 kk = σ kk := by
  rw [f_L_pass]
  repeat' split
  all_goals (first | (simp only [us_kk, ne_eq, not_false_eq_true, h7, h90, fr_X7_pass]; done) | with_reducible rfl | (simp only [us_kk, ne_eq, not_false_eq_true, h7, h90, fr_X7_pass]; with_reducible rfl))
def f_L_watch (v : Int32) (w : Int32) (σ : Sg) : Int32 × Sg :=
  if (m_X7_watch v w σ).1 = none then (0, (m_X7_watch v w σ).2.2)
  else (1, σ)
set_option maxHeartbeats 4000000 in
set_option maxRecDepth 100000 in
theorem c_L_watch (l : Launch) (hl9 : l.stackTraces = false) (D : va_G) (ca : Nat → ClassId) (base : Nat) (ad : Adr) (σ : Sg) (v : Int32) (w : Int32) (hI : CInv σ) : Ml l yL_watch cL_watch 4 (some .int) [(0, 6, 9, 25)] { frames := 8, cells := 2, slots := 12, locals := 144 } D ca base ad ρm Lm [.ref (ad 7 0), .int v, .int w] σ (some (.int (f_L_watch v w σ).1)) (f_L_watch v w σ).2 := by
  refine w_ofL (by decide) (Nat.le_of_ble_eq_true rfl) rfl ?_
  intro p e s m args below meth c hC hN htab hW hS ls hl
  have hx := hC.1
  have hb := hC.2.1
  refine lv_aload_n hx hb dL_watch_0 rfl (lv_at hl 0 rfl) ?_
  refine lv_iload_n hx hb dL_watch_1 rfl (lv_at hl 1 rfl) ?_
  refine lv_iload_n hx hb dL_watch_2 rfl (lv_at hl 2 rfl) ?_
  refine w_callVX (As := [.int v, .int w]) (rest := []) (st2 := []) hC hW hS hl cv_L_89 m_7 (by decide) rfl (c_X7_watch l hl9 D ca base ad σ v w (by first | assumption | decide | omega)) rfl rfl rfl ⟨Nat.le_of_ble_eq_true rfl, Nat.le_of_ble_eq_true rfl⟩ (Nat.le_of_ble_eq_true rfl) dL_watch_3 ⟨Nat.le_of_ble_eq_true rfl, Nat.le_of_ble_eq_true rfl⟩ (fun E ce q9 H locs e_1 hW hS hce hcv hcl => ?_) (fun e_1 H locs hW hS => ?_)
  · have hE := er_X7_watch e_1
    rcases hE with rfl
    · refine vx_catch (name := "java/lang/IllegalArgumentException") hC.2.2.2.1 [] ⟨0, 6, 9, 25⟩ [] (by rw [htab]; rfl) (fun z hz => nomatch hz) (by decide) (by decide) (hC.2.2.2.2.1 _ q_484) (va_Nw.use rfl (hC.2.2.2.2.2.2.2.1.2.1 _ (by decide))) hce hcv hcl ?_
      refine lv_astore_n (lv' := [(3, .ref q9), (0, .ref (ad 7 0)), (1, .int v), (2, .int w)]) hx hb dL_watch_9 rfl hl (by decide) rfl (fun ls hl => ?_)
      refine lv_iconst (v := 1) hx hb dL_watch_10 (by decide) ?_
      have hO : f_L_watch v w σ = (1, σ) := by rw [f_L_watch, if_neg (by rw [e_1]; exact fun q => nomatch q)]
      exact w_iretS hC hW hS hO (Nat.le_of_ble_eq_true rfl) (Nat.le_of_ble_eq_true rfl) dL_watch_11
  refine lv_goto (tgt := 12) hx hb dL_watch_6 (by decide) ?_
  refine lv_iconst (v := 0) hx hb dL_watch_12 (by decide) ?_
  have hO : f_L_watch v w σ = (0, (m_X7_watch v w σ).2.2) := by rw [f_L_watch, if_pos e_1]
  exact w_iretS hC hW hS hO (Nat.le_of_ble_eq_true rfl) (Nat.le_of_ble_eq_true rfl) dL_watch_13
theorem fr_L_watch {kk : Nat}  {v : Int32} {w : Int32} {σ : Sg} (h7 : kk ≠ 7) : (f_L_watch v w σ).2 kk = σ kk := by
  rw [f_L_watch]
  repeat' split
  all_goals (first | (simp only [us_kk, ne_eq, not_false_eq_true, h7, fr_X7_watch]; done) | with_reducible rfl | (simp only [us_kk, ne_eq, not_false_eq_true, h7, fr_X7_watch]; with_reducible rfl))
def f_L_logged (x : Int32) (v : Int32) (σ : Sg) : Int32 × Sg :=
  if (m_X7_logged x v σ).1 = none then (0, us ((m_X7_logged x v σ).2.2) 90 0 0 ((m_X7_logged x v σ).2.1))
  else if (m_X7_logged x v σ).1 = some "java/lang/IndexOutOfBoundsException" then (1, σ)
  else (2, σ)
set_option maxHeartbeats 4000000 in
set_option maxRecDepth 100000 in
theorem c_L_logged (l : Launch) (hl9 : l.stackTraces = false) (D : va_G) (ca : Nat → ClassId) (base : Nat) (ad : Adr) (σ : Sg) (x : Int32) (v : Int32) (hI : CInv σ) : Ml l yL_logged cL_logged 5 (some .int) [(0, 10, 13, 13), (0, 10, 17, 25)] { frames := 8, cells := 2, slots := 12, locals := 144 } D ca base ad ρm Lm [.ref (ad 7 0), .int x, .int v, .ref (ad 90 0)] σ (some (.int (f_L_logged x v σ).1)) (f_L_logged x v σ).2 := by
  refine w_ofL (by decide) (Nat.le_of_ble_eq_true rfl) rfl ?_
  intro p e s m args below meth c hC hN htab hW hS ls hl
  have hx := hC.1
  have hb := hC.2.1
  refine lv_aload_n hx hb dL_logged_0 rfl (lv_at hl 3 rfl) ?_
  refine lv_iconst (v := 0) hx hb dL_logged_1 (by decide) ?_
  refine lv_aload_n hx hb dL_logged_2 rfl (lv_at hl 0 rfl) ?_
  refine lv_iload_n hx hb dL_logged_3 rfl (lv_at hl 1 rfl) ?_
  refine lv_iload_n hx hb dL_logged_4 rfl (lv_at hl 2 rfl) ?_
  refine w_callVX (As := [.int x, .int v]) (rest := .int 0 :: .ref (ad 90 0) :: []) (st2 := .int ((m_X7_logged x v σ).2.1) :: .int 0 :: .ref (ad 90 0) :: []) hC hW hS hl cv_L_93 m_7 (by decide) rfl (c_X7_logged l hl9 D ca base ad σ x v (by first | assumption | decide | omega)) rfl rfl rfl ⟨Nat.le_of_ble_eq_true rfl, Nat.le_of_ble_eq_true rfl⟩ (Nat.le_of_ble_eq_true rfl) dL_logged_5 ⟨Nat.le_of_ble_eq_true rfl, Nat.le_of_ble_eq_true rfl⟩ (fun E ce q9 H locs e_1 hW hS hce hcv hcl => ?_) (fun e_1 H locs hW hS => ?_)
  · have hE := er_X7_logged e_1
    rcases hE with rfl | rfl
    · refine vx_catch (name := "java/lang/IndexOutOfBoundsException") hC.2.2.2.1 [] ⟨0, 10, 13, 13⟩ [⟨0, 10, 17, 25⟩] (by rw [htab]; rfl) (fun z hz => nomatch hz) (by decide) (by decide) (hC.2.2.2.2.1 _ q_356) (va_Nw.use rfl (hC.2.2.2.2.2.2.2.1.2.1 _ (by decide))) hce hcv hcl ?_
      refine lv_astore (lv' := [(4, .ref q9), (0, .ref (ad 7 0)), (1, .int x), (2, .int v), (3, .ref (ad 90 0))]) hx hb dL_logged_13 hl (by decide) rfl (fun ls hl => ?_)
      refine lv_iconst (v := 1) hx hb dL_logged_15 (by decide) ?_
      have hO : f_L_logged x v σ = (1, σ) := by rw [f_L_logged, if_neg (by rw [e_1]; exact fun q => nomatch q), if_pos e_1]
      exact w_iretS hC hW hS hO (Nat.le_of_ble_eq_true rfl) (Nat.le_of_ble_eq_true rfl) dL_logged_16
    · refine vx_catch (name := "java/lang/IllegalArgumentException") hC.2.2.2.1 [⟨0, 10, 13, 13⟩] ⟨0, 10, 17, 25⟩ [] (by rw [htab]; rfl) (fun z hz => by
        simp only [List.mem_cons, List.not_mem_nil, or_false] at hz
        rcases hz with rfl
        · exact Or.inr ⟨by decide, "java/lang/IndexOutOfBoundsException", hC.2.2.2.2.1 _ q_356, hN ("java/lang/IllegalArgumentException", "java/lang/IndexOutOfBoundsException") (by decide)⟩) (by decide) (by decide) (hC.2.2.2.2.1 _ q_484) (va_Nw.use rfl (hC.2.2.2.2.2.2.2.1.2.1 _ (by decide))) hce hcv hcl ?_
      refine lv_astore (lv' := [(4, .ref q9), (0, .ref (ad 7 0)), (1, .int x), (2, .int v), (3, .ref (ad 90 0))]) hx hb dL_logged_17 hl (by decide) rfl (fun ls hl => ?_)
      refine lv_iconst (v := 2) hx hb dL_logged_19 (by decide) ?_
      have hO : f_L_logged x v σ = (2, σ) := by rw [f_L_logged, if_neg (by rw [e_1]; exact fun q => nomatch q), if_neg (by rw [e_1]; decide)]
      exact w_iretS hC hW hS hO (Nat.le_of_ble_eq_true rfl) (Nat.le_of_ble_eq_true rfl) dL_logged_20
  refine lv_i2l hx hb dL_logged_8 rfl ?_
  refine w_last hC hW hS m_90 (v := (m_X7_logged x v σ).2.1) rfl (vp_lit (by decide)) dL_logged_9 (fun H locs hW hS => ?_)
  rw [show Int32.toNatClampNeg 0 = 0 by decide] at hW
  refine lv_goto (tgt := 21) hx hb dL_logged_10 (by decide) ?_
  refine lv_iconst (v := 0) hx hb dL_logged_21 (by decide) ?_
  have hO : f_L_logged x v σ = (0, us ((m_X7_logged x v σ).2.2) 90 0 0 ((m_X7_logged x v σ).2.1)) := by rw [f_L_logged, if_pos e_1]
  exact w_iretS hC hW hS hO (Nat.le_of_ble_eq_true rfl) (Nat.le_of_ble_eq_true rfl) dL_logged_22
theorem fr_L_logged {kk : Nat}  {x : Int32} {v : Int32} {σ : Sg} (h90 : kk ≠ 90) : (f_L_logged x v σ).2 kk = σ kk := by
  rw [f_L_logged]
  repeat' split
  all_goals (first | (simp only [us_kk, ne_eq, not_false_eq_true, h90, fr_X7_logged]; done) | with_reducible rfl | (simp only [us_kk, ne_eq, not_false_eq_true, h90, fr_X7_logged]; with_reducible rfl))
def f_L_forge (x : Int32) (v : Int32) (σ : Sg) : Int32 × Sg :=
  if (m_X7_forge x v σ).1 = none then (0, us ((m_X7_forge x v σ).2.2) 90 0 0 ((m_X7_forge x v σ).2.1))
  else if (m_X7_forge x v σ).1 = some "java/lang/IndexOutOfBoundsException" then (1, σ)
  else (2, σ)
set_option maxHeartbeats 4000000 in
set_option maxRecDepth 100000 in
theorem c_L_forge (l : Launch) (hl9 : l.stackTraces = false) (D : va_G) (ca : Nat → ClassId) (base : Nat) (ad : Adr) (σ : Sg) (x : Int32) (v : Int32) (hI : CInv σ) : Ml l yL_forge cL_forge 5 (some .int) [(0, 10, 13, 13), (0, 10, 17, 25)] { frames := 8, cells := 2, slots := 12, locals := 145 } D ca base ad ρm Lm [.ref (ad 7 0), .int x, .int v, .ref (ad 90 0)] σ (some (.int (f_L_forge x v σ).1)) (f_L_forge x v σ).2 := by
  refine w_ofL (by decide) (Nat.le_of_ble_eq_true rfl) rfl ?_
  intro p e s m args below meth c hC hN htab hW hS ls hl
  have hx := hC.1
  have hb := hC.2.1
  refine lv_aload_n hx hb dL_forge_0 rfl (lv_at hl 3 rfl) ?_
  refine lv_iconst (v := 0) hx hb dL_forge_1 (by decide) ?_
  refine lv_aload_n hx hb dL_forge_2 rfl (lv_at hl 0 rfl) ?_
  refine lv_iload_n hx hb dL_forge_3 rfl (lv_at hl 1 rfl) ?_
  refine lv_iload_n hx hb dL_forge_4 rfl (lv_at hl 2 rfl) ?_
  refine w_callVX (As := [.int x, .int v]) (rest := .int 0 :: .ref (ad 90 0) :: []) (st2 := .int ((m_X7_forge x v σ).2.1) :: .int 0 :: .ref (ad 90 0) :: []) hC hW hS hl cv_L_96 m_7 (by decide) rfl (c_X7_forge l hl9 D ca base ad σ x v (by first | assumption | decide | omega)) rfl rfl rfl ⟨Nat.le_of_ble_eq_true rfl, Nat.le_of_ble_eq_true rfl⟩ (Nat.le_of_ble_eq_true rfl) dL_forge_5 ⟨Nat.le_of_ble_eq_true rfl, Nat.le_of_ble_eq_true rfl⟩ (fun E ce q9 H locs e_1 hW hS hce hcv hcl => ?_) (fun e_1 H locs hW hS => ?_)
  · have hE := er_X7_forge e_1
    rcases hE with rfl | rfl
    · refine vx_catch (name := "java/lang/IndexOutOfBoundsException") hC.2.2.2.1 [] ⟨0, 10, 13, 13⟩ [⟨0, 10, 17, 25⟩] (by rw [htab]; rfl) (fun z hz => nomatch hz) (by decide) (by decide) (hC.2.2.2.2.1 _ q_356) (va_Nw.use rfl (hC.2.2.2.2.2.2.2.1.2.1 _ (by decide))) hce hcv hcl ?_
      refine lv_astore (lv' := [(4, .ref q9), (0, .ref (ad 7 0)), (1, .int x), (2, .int v), (3, .ref (ad 90 0))]) hx hb dL_forge_13 hl (by decide) rfl (fun ls hl => ?_)
      refine lv_iconst (v := 1) hx hb dL_forge_15 (by decide) ?_
      have hO : f_L_forge x v σ = (1, σ) := by rw [f_L_forge, if_neg (by rw [e_1]; exact fun q => nomatch q), if_pos e_1]
      exact w_iretS hC hW hS hO (Nat.le_of_ble_eq_true rfl) (Nat.le_of_ble_eq_true rfl) dL_forge_16
    · refine vx_catch (name := "java/lang/IllegalArgumentException") hC.2.2.2.1 [⟨0, 10, 13, 13⟩] ⟨0, 10, 17, 25⟩ [] (by rw [htab]; rfl) (fun z hz => by
        simp only [List.mem_cons, List.not_mem_nil, or_false] at hz
        rcases hz with rfl
        · exact Or.inr ⟨by decide, "java/lang/IndexOutOfBoundsException", hC.2.2.2.2.1 _ q_356, hN ("java/lang/IllegalArgumentException", "java/lang/IndexOutOfBoundsException") (by decide)⟩) (by decide) (by decide) (hC.2.2.2.2.1 _ q_484) (va_Nw.use rfl (hC.2.2.2.2.2.2.2.1.2.1 _ (by decide))) hce hcv hcl ?_
      refine lv_astore (lv' := [(4, .ref q9), (0, .ref (ad 7 0)), (1, .int x), (2, .int v), (3, .ref (ad 90 0))]) hx hb dL_forge_17 hl (by decide) rfl (fun ls hl => ?_)
      refine lv_iconst (v := 2) hx hb dL_forge_19 (by decide) ?_
      have hO : f_L_forge x v σ = (2, σ) := by rw [f_L_forge, if_neg (by rw [e_1]; exact fun q => nomatch q), if_neg (by rw [e_1]; decide)]
      exact w_iretS hC hW hS hO (Nat.le_of_ble_eq_true rfl) (Nat.le_of_ble_eq_true rfl) dL_forge_20
  refine lv_i2l hx hb dL_forge_8 rfl ?_
  refine w_last hC hW hS m_90 (v := (m_X7_forge x v σ).2.1) rfl (vp_lit (by decide)) dL_forge_9 (fun H locs hW hS => ?_)
  rw [show Int32.toNatClampNeg 0 = 0 by decide] at hW
  refine lv_goto (tgt := 21) hx hb dL_forge_10 (by decide) ?_
  refine lv_iconst (v := 0) hx hb dL_forge_21 (by decide) ?_
  have hO : f_L_forge x v σ = (0, us ((m_X7_forge x v σ).2.2) 90 0 0 ((m_X7_forge x v σ).2.1)) := by rw [f_L_forge, if_pos e_1]
  exact w_iretS hC hW hS hO (Nat.le_of_ble_eq_true rfl) (Nat.le_of_ble_eq_true rfl) dL_forge_22
theorem fr_L_forge {kk : Nat}  {x : Int32} {v : Int32} {σ : Sg} (h11 : kk ≠ 11) (h90 : kk ≠ 90) : (f_L_forge x v σ).2 kk = σ kk := by
  rw [f_L_forge]
  repeat' split
  all_goals (first | (simp only [us_kk, ne_eq, not_false_eq_true, h11, h90, fr_X7_forge]; done) | with_reducible rfl | (simp only [us_kk, ne_eq, not_false_eq_true, h11, h90, fr_X7_forge]; with_reducible rfl))
def f_L_verdict (k : Int32) (t : Int32) (r : Int32) (σ : Sg) : Int32 × Sg :=
  if (m_X7_verdict k t r σ).1 = none then (0, us ((m_X7_verdict k t r σ).2.2) 90 0 0 ((m_X7_verdict k t r σ).2.1))
  else if (m_X7_verdict k t r σ).1 = some "java/lang/IndexOutOfBoundsException" then (1, σ)
  else (2, σ)
set_option maxHeartbeats 4000000 in
set_option maxRecDepth 100000 in
theorem c_L_verdict (l : Launch) (hl9 : l.stackTraces = false) (D : va_G) (ca : Nat → ClassId) (base : Nat) (ad : Adr) (σ : Sg) (k : Int32) (t : Int32) (r : Int32) (hI : CInv σ) : Ml l yL_verdict cL_verdict 6 (some .int) [(0, 12, 15, 13), (0, 12, 19, 25)] { frames := 9, cells := 3, slots := 18, locals := 167 } D ca base ad ρm Lm [.ref (ad 7 0), .int k, .int t, .int r, .ref (ad 90 0)] σ (some (.int (f_L_verdict k t r σ).1)) (f_L_verdict k t r σ).2 := by
  refine w_ofL (by decide) (Nat.le_of_ble_eq_true rfl) rfl ?_
  intro p e s m args below meth c hC hN htab hW hS ls hl
  have hx := hC.1
  have hb := hC.2.1
  refine lv_aload hx hb dL_verdict_0 (lv_at hl 4 rfl) ?_
  refine lv_iconst (v := 0) hx hb dL_verdict_2 (by decide) ?_
  refine lv_aload_n hx hb dL_verdict_3 rfl (lv_at hl 0 rfl) ?_
  refine lv_iload_n hx hb dL_verdict_4 rfl (lv_at hl 1 rfl) ?_
  refine lv_iload_n hx hb dL_verdict_5 rfl (lv_at hl 2 rfl) ?_
  refine lv_iload_n hx hb dL_verdict_6 rfl (lv_at hl 3 rfl) ?_
  refine w_callVX (As := [.int k, .int t, .int r]) (rest := .int 0 :: .ref (ad 90 0) :: []) (st2 := .int ((m_X7_verdict k t r σ).2.1) :: .int 0 :: .ref (ad 90 0) :: []) hC hW hS hl cv_L_99 m_7 (by decide) rfl (c_X7_verdict l hl9 D ca base ad σ k t r (by first | assumption | decide | omega)) rfl rfl rfl ⟨Nat.le_of_ble_eq_true rfl, Nat.le_of_ble_eq_true rfl⟩ (Nat.le_of_ble_eq_true rfl) dL_verdict_7 ⟨Nat.le_of_ble_eq_true rfl, Nat.le_of_ble_eq_true rfl⟩ (fun E ce q9 H locs e_1 hW hS hce hcv hcl => ?_) (fun e_1 H locs hW hS => ?_)
  · have hE := er_X7_verdict e_1
    rcases hE with rfl | rfl
    · refine vx_catch (name := "java/lang/IndexOutOfBoundsException") hC.2.2.2.1 [] ⟨0, 12, 15, 13⟩ [⟨0, 12, 19, 25⟩] (by rw [htab]; rfl) (fun z hz => nomatch hz) (by decide) (by decide) (hC.2.2.2.2.1 _ q_356) (va_Nw.use rfl (hC.2.2.2.2.2.2.2.1.2.1 _ (by decide))) hce hcv hcl ?_
      refine lv_astore (lv' := [(5, .ref q9), (0, .ref (ad 7 0)), (1, .int k), (2, .int t), (3, .int r), (4, .ref (ad 90 0))]) hx hb dL_verdict_15 hl (by decide) rfl (fun ls hl => ?_)
      refine lv_iconst (v := 1) hx hb dL_verdict_17 (by decide) ?_
      have hO : f_L_verdict k t r σ = (1, σ) := by rw [f_L_verdict, if_neg (by rw [e_1]; exact fun q => nomatch q), if_pos e_1]
      exact w_iretS hC hW hS hO (Nat.le_of_ble_eq_true rfl) (Nat.le_of_ble_eq_true rfl) dL_verdict_18
    · refine vx_catch (name := "java/lang/IllegalArgumentException") hC.2.2.2.1 [⟨0, 12, 15, 13⟩] ⟨0, 12, 19, 25⟩ [] (by rw [htab]; rfl) (fun z hz => by
        simp only [List.mem_cons, List.not_mem_nil, or_false] at hz
        rcases hz with rfl
        · exact Or.inr ⟨by decide, "java/lang/IndexOutOfBoundsException", hC.2.2.2.2.1 _ q_356, hN ("java/lang/IllegalArgumentException", "java/lang/IndexOutOfBoundsException") (by decide)⟩) (by decide) (by decide) (hC.2.2.2.2.1 _ q_484) (va_Nw.use rfl (hC.2.2.2.2.2.2.2.1.2.1 _ (by decide))) hce hcv hcl ?_
      refine lv_astore (lv' := [(5, .ref q9), (0, .ref (ad 7 0)), (1, .int k), (2, .int t), (3, .int r), (4, .ref (ad 90 0))]) hx hb dL_verdict_19 hl (by decide) rfl (fun ls hl => ?_)
      refine lv_iconst (v := 2) hx hb dL_verdict_21 (by decide) ?_
      have hO : f_L_verdict k t r σ = (2, σ) := by rw [f_L_verdict, if_neg (by rw [e_1]; exact fun q => nomatch q), if_neg (by rw [e_1]; decide)]
      exact w_iretS hC hW hS hO (Nat.le_of_ble_eq_true rfl) (Nat.le_of_ble_eq_true rfl) dL_verdict_22
  refine lv_i2l hx hb dL_verdict_10 rfl ?_
  refine w_last hC hW hS m_90 (v := (m_X7_verdict k t r σ).2.1) rfl (vp_lit (by decide)) dL_verdict_11 (fun H locs hW hS => ?_)
  rw [show Int32.toNatClampNeg 0 = 0 by decide] at hW
  refine lv_goto (tgt := 23) hx hb dL_verdict_12 (by decide) ?_
  refine lv_iconst (v := 0) hx hb dL_verdict_23 (by decide) ?_
  have hO : f_L_verdict k t r σ = (0, us ((m_X7_verdict k t r σ).2.2) 90 0 0 ((m_X7_verdict k t r σ).2.1)) := by rw [f_L_verdict, if_pos e_1]
  exact w_iretS hC hW hS hO (Nat.le_of_ble_eq_true rfl) (Nat.le_of_ble_eq_true rfl) dL_verdict_24
theorem fr_L_verdict {kk : Nat}  {k : Int32} {t : Int32} {r : Int32} {σ : Sg} (h90 : kk ≠ 90) : (f_L_verdict k t r σ).2 kk = σ kk := by
  rw [f_L_verdict]
  repeat' split
  all_goals (first | (simp only [us_kk, ne_eq, not_false_eq_true, h90, fr_X7_verdict]; done) | with_reducible rfl | (simp only [us_kk, ne_eq, not_false_eq_true, h90, fr_X7_verdict]; with_reducible rfl))
def f_L_verdictAnew (k : Int32) (t : Int32) (r : Int32) (σ : Sg) : Int32 × Sg :=
  if (m_X7_verdictAnew k t r σ).1 = none then (0, us ((m_X7_verdictAnew k t r σ).2.2) 90 0 0 ((m_X7_verdictAnew k t r σ).2.1))
  else if (m_X7_verdictAnew k t r σ).1 = some "java/lang/IndexOutOfBoundsException" then (1, σ)
  else (2, σ)
set_option maxHeartbeats 4000000 in
set_option maxRecDepth 100000 in
theorem c_L_verdictAnew (l : Launch) (hl9 : l.stackTraces = false) (D : va_G) (ca : Nat → ClassId) (base : Nat) (ad : Adr) (σ : Sg) (k : Int32) (t : Int32) (r : Int32) (hI : CInv σ) : Ml l yL_verdictAnew cL_verdictAnew 6 (some .int) [(0, 12, 15, 13), (0, 12, 19, 25)] { frames := 9, cells := 3, slots := 18, locals := 167 } D ca base ad ρm Lm [.ref (ad 7 0), .int k, .int t, .int r, .ref (ad 90 0)] σ (some (.int (f_L_verdictAnew k t r σ).1)) (f_L_verdictAnew k t r σ).2 := by
  refine w_ofL (by decide) (Nat.le_of_ble_eq_true rfl) rfl ?_
  intro p e s m args below meth c hC hN htab hW hS ls hl
  have hx := hC.1
  have hb := hC.2.1
  refine lv_aload hx hb dL_verdictAnew_0 (lv_at hl 4 rfl) ?_
  refine lv_iconst (v := 0) hx hb dL_verdictAnew_2 (by decide) ?_
  refine lv_aload_n hx hb dL_verdictAnew_3 rfl (lv_at hl 0 rfl) ?_
  refine lv_iload_n hx hb dL_verdictAnew_4 rfl (lv_at hl 1 rfl) ?_
  refine lv_iload_n hx hb dL_verdictAnew_5 rfl (lv_at hl 2 rfl) ?_
  refine lv_iload_n hx hb dL_verdictAnew_6 rfl (lv_at hl 3 rfl) ?_
  refine w_callVX (As := [.int k, .int t, .int r]) (rest := .int 0 :: .ref (ad 90 0) :: []) (st2 := .int ((m_X7_verdictAnew k t r σ).2.1) :: .int 0 :: .ref (ad 90 0) :: []) hC hW hS hl cv_L_102 m_7 (by decide) rfl (c_X7_verdictAnew l hl9 D ca base ad σ k t r (by first | assumption | decide | omega)) rfl rfl rfl ⟨Nat.le_of_ble_eq_true rfl, Nat.le_of_ble_eq_true rfl⟩ (Nat.le_of_ble_eq_true rfl) dL_verdictAnew_7 ⟨Nat.le_of_ble_eq_true rfl, Nat.le_of_ble_eq_true rfl⟩ (fun E ce q9 H locs e_1 hW hS hce hcv hcl => ?_) (fun e_1 H locs hW hS => ?_)
  · have hE := er_X7_verdictAnew e_1
    rcases hE with rfl | rfl
    · refine vx_catch (name := "java/lang/IndexOutOfBoundsException") hC.2.2.2.1 [] ⟨0, 12, 15, 13⟩ [⟨0, 12, 19, 25⟩] (by rw [htab]; rfl) (fun z hz => nomatch hz) (by decide) (by decide) (hC.2.2.2.2.1 _ q_356) (va_Nw.use rfl (hC.2.2.2.2.2.2.2.1.2.1 _ (by decide))) hce hcv hcl ?_
      refine lv_astore (lv' := [(5, .ref q9), (0, .ref (ad 7 0)), (1, .int k), (2, .int t), (3, .int r), (4, .ref (ad 90 0))]) hx hb dL_verdictAnew_15 hl (by decide) rfl (fun ls hl => ?_)
      refine lv_iconst (v := 1) hx hb dL_verdictAnew_17 (by decide) ?_
      have hO : f_L_verdictAnew k t r σ = (1, σ) := by rw [f_L_verdictAnew, if_neg (by rw [e_1]; exact fun q => nomatch q), if_pos e_1]
      exact w_iretS hC hW hS hO (Nat.le_of_ble_eq_true rfl) (Nat.le_of_ble_eq_true rfl) dL_verdictAnew_18
    · refine vx_catch (name := "java/lang/IllegalArgumentException") hC.2.2.2.1 [⟨0, 12, 15, 13⟩] ⟨0, 12, 19, 25⟩ [] (by rw [htab]; rfl) (fun z hz => by
        simp only [List.mem_cons, List.not_mem_nil, or_false] at hz
        rcases hz with rfl
        · exact Or.inr ⟨by decide, "java/lang/IndexOutOfBoundsException", hC.2.2.2.2.1 _ q_356, hN ("java/lang/IllegalArgumentException", "java/lang/IndexOutOfBoundsException") (by decide)⟩) (by decide) (by decide) (hC.2.2.2.2.1 _ q_484) (va_Nw.use rfl (hC.2.2.2.2.2.2.2.1.2.1 _ (by decide))) hce hcv hcl ?_
      refine lv_astore (lv' := [(5, .ref q9), (0, .ref (ad 7 0)), (1, .int k), (2, .int t), (3, .int r), (4, .ref (ad 90 0))]) hx hb dL_verdictAnew_19 hl (by decide) rfl (fun ls hl => ?_)
      refine lv_iconst (v := 2) hx hb dL_verdictAnew_21 (by decide) ?_
      have hO : f_L_verdictAnew k t r σ = (2, σ) := by rw [f_L_verdictAnew, if_neg (by rw [e_1]; exact fun q => nomatch q), if_neg (by rw [e_1]; decide)]
      exact w_iretS hC hW hS hO (Nat.le_of_ble_eq_true rfl) (Nat.le_of_ble_eq_true rfl) dL_verdictAnew_22
  refine lv_i2l hx hb dL_verdictAnew_10 rfl ?_
  refine w_last hC hW hS m_90 (v := (m_X7_verdictAnew k t r σ).2.1) rfl (vp_lit (by decide)) dL_verdictAnew_11 (fun H locs hW hS => ?_)
  rw [show Int32.toNatClampNeg 0 = 0 by decide] at hW
  refine lv_goto (tgt := 23) hx hb dL_verdictAnew_12 (by decide) ?_
  refine lv_iconst (v := 0) hx hb dL_verdictAnew_23 (by decide) ?_
  have hO : f_L_verdictAnew k t r σ = (0, us ((m_X7_verdictAnew k t r σ).2.2) 90 0 0 ((m_X7_verdictAnew k t r σ).2.1)) := by rw [f_L_verdictAnew, if_pos e_1]
  exact w_iretS hC hW hS hO (Nat.le_of_ble_eq_true rfl) (Nat.le_of_ble_eq_true rfl) dL_verdictAnew_24
theorem fr_L_verdictAnew {kk : Nat}  {k : Int32} {t : Int32} {r : Int32} {σ : Sg} (h15 : kk ≠ 15) (h90 : kk ≠ 90) : (f_L_verdictAnew k t r σ).2 kk = σ kk := by
  rw [f_L_verdictAnew]
  repeat' split
  all_goals (first | (simp only [us_kk, ne_eq, not_false_eq_true, h15, h90, fr_X7_verdictAnew]; done) | with_reducible rfl | (simp only [us_kk, ne_eq, not_false_eq_true, h15, h90, fr_X7_verdictAnew]; with_reducible rfl))
def f_L_reach (k : Int32) (t : Int32) (r : Int32) (σ : Sg) : Int32 × Sg :=
  if (m_X7_reach k t r σ).1 = none then (0, us ((m_X7_reach k t r σ).2.2) 90 0 0 ((m_X7_reach k t r σ).2.1))
  else if (m_X7_reach k t r σ).1 = some "java/lang/IndexOutOfBoundsException" then (1, σ)
  else (2, σ)
set_option maxHeartbeats 4000000 in
set_option maxRecDepth 100000 in
theorem c_L_reach (l : Launch) (hl9 : l.stackTraces = false) (D : va_G) (ca : Nat → ClassId) (base : Nat) (ad : Adr) (σ : Sg) (k : Int32) (t : Int32) (r : Int32) (hI : CInv σ) : Ml l yL_reach cL_reach 6 (some .int) [(0, 12, 15, 13), (0, 12, 19, 25)] { frames := 9, cells := 3, slots := 18, locals := 167 } D ca base ad ρm Lm [.ref (ad 7 0), .int k, .int t, .int r, .ref (ad 90 0)] σ (some (.int (f_L_reach k t r σ).1)) (f_L_reach k t r σ).2 := by
  refine w_ofL (by decide) (Nat.le_of_ble_eq_true rfl) rfl ?_
  intro p e s m args below meth c hC hN htab hW hS ls hl
  have hx := hC.1
  have hb := hC.2.1
  refine lv_aload hx hb dL_reach_0 (lv_at hl 4 rfl) ?_
  refine lv_iconst (v := 0) hx hb dL_reach_2 (by decide) ?_
  refine lv_aload_n hx hb dL_reach_3 rfl (lv_at hl 0 rfl) ?_
  refine lv_iload_n hx hb dL_reach_4 rfl (lv_at hl 1 rfl) ?_
  refine lv_iload_n hx hb dL_reach_5 rfl (lv_at hl 2 rfl) ?_
  refine lv_iload_n hx hb dL_reach_6 rfl (lv_at hl 3 rfl) ?_
  refine w_callVX (As := [.int k, .int t, .int r]) (rest := .int 0 :: .ref (ad 90 0) :: []) (st2 := .int ((m_X7_reach k t r σ).2.1) :: .int 0 :: .ref (ad 90 0) :: []) hC hW hS hl cv_L_105 m_7 (by decide) rfl (c_X7_reach l hl9 D ca base ad σ k t r (by first | assumption | decide | omega)) rfl rfl rfl ⟨Nat.le_of_ble_eq_true rfl, Nat.le_of_ble_eq_true rfl⟩ (Nat.le_of_ble_eq_true rfl) dL_reach_7 ⟨Nat.le_of_ble_eq_true rfl, Nat.le_of_ble_eq_true rfl⟩ (fun E ce q9 H locs e_1 hW hS hce hcv hcl => ?_) (fun e_1 H locs hW hS => ?_)
  · have hE := er_X7_reach e_1
    rcases hE with rfl | rfl
    · refine vx_catch (name := "java/lang/IndexOutOfBoundsException") hC.2.2.2.1 [] ⟨0, 12, 15, 13⟩ [⟨0, 12, 19, 25⟩] (by rw [htab]; rfl) (fun z hz => nomatch hz) (by decide) (by decide) (hC.2.2.2.2.1 _ q_356) (va_Nw.use rfl (hC.2.2.2.2.2.2.2.1.2.1 _ (by decide))) hce hcv hcl ?_
      refine lv_astore (lv' := [(5, .ref q9), (0, .ref (ad 7 0)), (1, .int k), (2, .int t), (3, .int r), (4, .ref (ad 90 0))]) hx hb dL_reach_15 hl (by decide) rfl (fun ls hl => ?_)
      refine lv_iconst (v := 1) hx hb dL_reach_17 (by decide) ?_
      have hO : f_L_reach k t r σ = (1, σ) := by rw [f_L_reach, if_neg (by rw [e_1]; exact fun q => nomatch q), if_pos e_1]
      exact w_iretS hC hW hS hO (Nat.le_of_ble_eq_true rfl) (Nat.le_of_ble_eq_true rfl) dL_reach_18
    · refine vx_catch (name := "java/lang/IllegalArgumentException") hC.2.2.2.1 [⟨0, 12, 15, 13⟩] ⟨0, 12, 19, 25⟩ [] (by rw [htab]; rfl) (fun z hz => by
        simp only [List.mem_cons, List.not_mem_nil, or_false] at hz
        rcases hz with rfl
        · exact Or.inr ⟨by decide, "java/lang/IndexOutOfBoundsException", hC.2.2.2.2.1 _ q_356, hN ("java/lang/IllegalArgumentException", "java/lang/IndexOutOfBoundsException") (by decide)⟩) (by decide) (by decide) (hC.2.2.2.2.1 _ q_484) (va_Nw.use rfl (hC.2.2.2.2.2.2.2.1.2.1 _ (by decide))) hce hcv hcl ?_
      refine lv_astore (lv' := [(5, .ref q9), (0, .ref (ad 7 0)), (1, .int k), (2, .int t), (3, .int r), (4, .ref (ad 90 0))]) hx hb dL_reach_19 hl (by decide) rfl (fun ls hl => ?_)
      refine lv_iconst (v := 2) hx hb dL_reach_21 (by decide) ?_
      have hO : f_L_reach k t r σ = (2, σ) := by rw [f_L_reach, if_neg (by rw [e_1]; exact fun q => nomatch q), if_neg (by rw [e_1]; decide)]
      exact w_iretS hC hW hS hO (Nat.le_of_ble_eq_true rfl) (Nat.le_of_ble_eq_true rfl) dL_reach_22
  refine lv_i2l hx hb dL_reach_10 rfl ?_
  refine w_last hC hW hS m_90 (v := (m_X7_reach k t r σ).2.1) rfl (vp_lit (by decide)) dL_reach_11 (fun H locs hW hS => ?_)
  rw [show Int32.toNatClampNeg 0 = 0 by decide] at hW
  refine lv_goto (tgt := 23) hx hb dL_reach_12 (by decide) ?_
  refine lv_iconst (v := 0) hx hb dL_reach_23 (by decide) ?_
  have hO : f_L_reach k t r σ = (0, us ((m_X7_reach k t r σ).2.2) 90 0 0 ((m_X7_reach k t r σ).2.1)) := by rw [f_L_reach, if_pos e_1]
  exact w_iretS hC hW hS hO (Nat.le_of_ble_eq_true rfl) (Nat.le_of_ble_eq_true rfl) dL_reach_24
theorem fr_L_reach {kk : Nat}  {k : Int32} {t : Int32} {r : Int32} {σ : Sg} (h0 : kk ≠ 0) (h4 : kk ≠ 4) (h10 : kk ≠ 10) (h18 : kk ≠ 18) (h19 : kk ≠ 19) (h90 : kk ≠ 90) : (f_L_reach k t r σ).2 kk = σ kk := by
  rw [f_L_reach]
  repeat' split
  all_goals (first | (simp only [us_kk, ne_eq, not_false_eq_true, h0, h4, h10, h18, h19, h90, fr_X7_reach]; done) | with_reducible rfl | (simp only [us_kk, ne_eq, not_false_eq_true, h0, h4, h10, h18, h19, h90, fr_X7_reach]; with_reducible rfl))
def f_L_reachAnew (k : Int32) (t : Int32) (r : Int32) (σ : Sg) : Int32 × Sg :=
  if (m_X7_reachAnew k t r σ).1 = none then (0, us ((m_X7_reachAnew k t r σ).2.2) 90 0 0 ((m_X7_reachAnew k t r σ).2.1))
  else if (m_X7_reachAnew k t r σ).1 = some "java/lang/IndexOutOfBoundsException" then (1, σ)
  else (2, σ)
set_option maxHeartbeats 4000000 in
set_option maxRecDepth 100000 in
theorem c_L_reachAnew (l : Launch) (hl9 : l.stackTraces = false) (D : va_G) (ca : Nat → ClassId) (base : Nat) (ad : Adr) (σ : Sg) (k : Int32) (t : Int32) (r : Int32) (hI : CInv σ) : Ml l yL_reachAnew cL_reachAnew 6 (some .int) [(0, 12, 15, 13), (0, 12, 19, 25)] { frames := 12, cells := 3, slots := 18, locals := 296 } D ca base ad ρm Lm [.ref (ad 7 0), .int k, .int t, .int r, .ref (ad 90 0)] σ (some (.int (f_L_reachAnew k t r σ).1)) (f_L_reachAnew k t r σ).2 := by
  refine w_ofL (by decide) (Nat.le_of_ble_eq_true rfl) rfl ?_
  intro p e s m args below meth c hC hN htab hW hS ls hl
  have hx := hC.1
  have hb := hC.2.1
  refine lv_aload hx hb dL_reachAnew_0 (lv_at hl 4 rfl) ?_
  refine lv_iconst (v := 0) hx hb dL_reachAnew_2 (by decide) ?_
  refine lv_aload_n hx hb dL_reachAnew_3 rfl (lv_at hl 0 rfl) ?_
  refine lv_iload_n hx hb dL_reachAnew_4 rfl (lv_at hl 1 rfl) ?_
  refine lv_iload_n hx hb dL_reachAnew_5 rfl (lv_at hl 2 rfl) ?_
  refine lv_iload_n hx hb dL_reachAnew_6 rfl (lv_at hl 3 rfl) ?_
  refine w_callVX (As := [.int k, .int t, .int r]) (rest := .int 0 :: .ref (ad 90 0) :: []) (st2 := .int ((m_X7_reachAnew k t r σ).2.1) :: .int 0 :: .ref (ad 90 0) :: []) hC hW hS hl cv_L_108 m_7 (by decide) rfl (c_X7_reachAnew l hl9 D ca base ad σ k t r (by first | assumption | decide | omega)) rfl rfl rfl ⟨Nat.le_of_ble_eq_true rfl, Nat.le_of_ble_eq_true rfl⟩ (Nat.le_of_ble_eq_true rfl) dL_reachAnew_7 ⟨Nat.le_of_ble_eq_true rfl, Nat.le_of_ble_eq_true rfl⟩ (fun E ce q9 H locs e_1 hW hS hce hcv hcl => ?_) (fun e_1 H locs hW hS => ?_)
  · have hE := er_X7_reachAnew e_1
    rcases hE with rfl | rfl
    · refine vx_catch (name := "java/lang/IndexOutOfBoundsException") hC.2.2.2.1 [] ⟨0, 12, 15, 13⟩ [⟨0, 12, 19, 25⟩] (by rw [htab]; rfl) (fun z hz => nomatch hz) (by decide) (by decide) (hC.2.2.2.2.1 _ q_356) (va_Nw.use rfl (hC.2.2.2.2.2.2.2.1.2.1 _ (by decide))) hce hcv hcl ?_
      refine lv_astore (lv' := [(5, .ref q9), (0, .ref (ad 7 0)), (1, .int k), (2, .int t), (3, .int r), (4, .ref (ad 90 0))]) hx hb dL_reachAnew_15 hl (by decide) rfl (fun ls hl => ?_)
      refine lv_iconst (v := 1) hx hb dL_reachAnew_17 (by decide) ?_
      have hO : f_L_reachAnew k t r σ = (1, σ) := by rw [f_L_reachAnew, if_neg (by rw [e_1]; exact fun q => nomatch q), if_pos e_1]
      exact w_iretS hC hW hS hO (Nat.le_of_ble_eq_true rfl) (Nat.le_of_ble_eq_true rfl) dL_reachAnew_18
    · refine vx_catch (name := "java/lang/IllegalArgumentException") hC.2.2.2.1 [⟨0, 12, 15, 13⟩] ⟨0, 12, 19, 25⟩ [] (by rw [htab]; rfl) (fun z hz => by
        simp only [List.mem_cons, List.not_mem_nil, or_false] at hz
        rcases hz with rfl
        · exact Or.inr ⟨by decide, "java/lang/IndexOutOfBoundsException", hC.2.2.2.2.1 _ q_356, hN ("java/lang/IllegalArgumentException", "java/lang/IndexOutOfBoundsException") (by decide)⟩) (by decide) (by decide) (hC.2.2.2.2.1 _ q_484) (va_Nw.use rfl (hC.2.2.2.2.2.2.2.1.2.1 _ (by decide))) hce hcv hcl ?_
      refine lv_astore (lv' := [(5, .ref q9), (0, .ref (ad 7 0)), (1, .int k), (2, .int t), (3, .int r), (4, .ref (ad 90 0))]) hx hb dL_reachAnew_19 hl (by decide) rfl (fun ls hl => ?_)
      refine lv_iconst (v := 2) hx hb dL_reachAnew_21 (by decide) ?_
      have hO : f_L_reachAnew k t r σ = (2, σ) := by rw [f_L_reachAnew, if_neg (by rw [e_1]; exact fun q => nomatch q), if_neg (by rw [e_1]; decide)]
      exact w_iretS hC hW hS hO (Nat.le_of_ble_eq_true rfl) (Nat.le_of_ble_eq_true rfl) dL_reachAnew_22
  refine lv_i2l hx hb dL_reachAnew_10 rfl ?_
  refine w_last hC hW hS m_90 (v := (m_X7_reachAnew k t r σ).2.1) rfl (vp_lit (by decide)) dL_reachAnew_11 (fun H locs hW hS => ?_)
  rw [show Int32.toNatClampNeg 0 = 0 by decide] at hW
  refine lv_goto (tgt := 23) hx hb dL_reachAnew_12 (by decide) ?_
  refine lv_iconst (v := 0) hx hb dL_reachAnew_23 (by decide) ?_
  have hO : f_L_reachAnew k t r σ = (0, us ((m_X7_reachAnew k t r σ).2.2) 90 0 0 ((m_X7_reachAnew k t r σ).2.1)) := by rw [f_L_reachAnew, if_pos e_1]
  exact w_iretS hC hW hS hO (Nat.le_of_ble_eq_true rfl) (Nat.le_of_ble_eq_true rfl) dL_reachAnew_24
theorem fr_L_reachAnew {kk : Nat}  {k : Int32} {t : Int32} {r : Int32} {σ : Sg} (h0 : kk ≠ 0) (h10 : kk ≠ 10) (h15 : kk ≠ 15) (h90 : kk ≠ 90) : (f_L_reachAnew k t r σ).2 kk = σ kk := by
  rw [f_L_reachAnew]
  repeat' split
  all_goals (first | (simp only [us_kk, ne_eq, not_false_eq_true, h0, h10, h15, h90, fr_X7_reachAnew]; done) | with_reducible rfl | (simp only [us_kk, ne_eq, not_false_eq_true, h0, h10, h15, h90, fr_X7_reachAnew]; with_reducible rfl))
def f_L_least (u : Int32) (t : Int32) (r : Int32) (σ : Sg) : Int32 × Sg :=
  if (m_X7_least u t r σ).1 = none then (0, us ((m_X7_least u t r σ).2.2) 90 0 0 ((m_X7_least u t r σ).2.1))
  else if (m_X7_least u t r σ).1 = some "java/lang/IndexOutOfBoundsException" then (1, σ)
  else (2, σ)
set_option maxHeartbeats 4000000 in
set_option maxRecDepth 100000 in
theorem c_L_least (l : Launch) (hl9 : l.stackTraces = false) (D : va_G) (ca : Nat → ClassId) (base : Nat) (ad : Adr) (σ : Sg) (u : Int32) (t : Int32) (r : Int32) (hI : CInv σ) : Ml l yL_least cL_least 6 (some .int) [(0, 12, 15, 13), (0, 12, 19, 25)] { frames := 9, cells := 3, slots := 18, locals := 166 } D ca base ad ρm Lm [.ref (ad 7 0), .int u, .int t, .int r, .ref (ad 90 0)] σ (some (.int (f_L_least u t r σ).1)) (f_L_least u t r σ).2 := by
  refine w_ofL (by decide) (Nat.le_of_ble_eq_true rfl) rfl ?_
  intro p e s m args below meth c hC hN htab hW hS ls hl
  have hx := hC.1
  have hb := hC.2.1
  refine lv_aload hx hb dL_least_0 (lv_at hl 4 rfl) ?_
  refine lv_iconst (v := 0) hx hb dL_least_2 (by decide) ?_
  refine lv_aload_n hx hb dL_least_3 rfl (lv_at hl 0 rfl) ?_
  refine lv_iload_n hx hb dL_least_4 rfl (lv_at hl 1 rfl) ?_
  refine lv_iload_n hx hb dL_least_5 rfl (lv_at hl 2 rfl) ?_
  refine lv_iload_n hx hb dL_least_6 rfl (lv_at hl 3 rfl) ?_
  refine w_callVX (As := [.int u, .int t, .int r]) (rest := .int 0 :: .ref (ad 90 0) :: []) (st2 := .int ((m_X7_least u t r σ).2.1) :: .int 0 :: .ref (ad 90 0) :: []) hC hW hS hl cv_L_111 m_7 (by decide) rfl (c_X7_least l hl9 D ca base ad σ u t r (by first | assumption | decide | omega)) rfl rfl rfl ⟨Nat.le_of_ble_eq_true rfl, Nat.le_of_ble_eq_true rfl⟩ (Nat.le_of_ble_eq_true rfl) dL_least_7 ⟨Nat.le_of_ble_eq_true rfl, Nat.le_of_ble_eq_true rfl⟩ (fun E ce q9 H locs e_1 hW hS hce hcv hcl => ?_) (fun e_1 H locs hW hS => ?_)
  · have hE := er_X7_least e_1
    rcases hE with rfl | rfl
    · refine vx_catch (name := "java/lang/IndexOutOfBoundsException") hC.2.2.2.1 [] ⟨0, 12, 15, 13⟩ [⟨0, 12, 19, 25⟩] (by rw [htab]; rfl) (fun z hz => nomatch hz) (by decide) (by decide) (hC.2.2.2.2.1 _ q_356) (va_Nw.use rfl (hC.2.2.2.2.2.2.2.1.2.1 _ (by decide))) hce hcv hcl ?_
      refine lv_astore (lv' := [(5, .ref q9), (0, .ref (ad 7 0)), (1, .int u), (2, .int t), (3, .int r), (4, .ref (ad 90 0))]) hx hb dL_least_15 hl (by decide) rfl (fun ls hl => ?_)
      refine lv_iconst (v := 1) hx hb dL_least_17 (by decide) ?_
      have hO : f_L_least u t r σ = (1, σ) := by rw [f_L_least, if_neg (by rw [e_1]; exact fun q => nomatch q), if_pos e_1]
      exact w_iretS hC hW hS hO (Nat.le_of_ble_eq_true rfl) (Nat.le_of_ble_eq_true rfl) dL_least_18
    · refine vx_catch (name := "java/lang/IllegalArgumentException") hC.2.2.2.1 [⟨0, 12, 15, 13⟩] ⟨0, 12, 19, 25⟩ [] (by rw [htab]; rfl) (fun z hz => by
        simp only [List.mem_cons, List.not_mem_nil, or_false] at hz
        rcases hz with rfl
        · exact Or.inr ⟨by decide, "java/lang/IndexOutOfBoundsException", hC.2.2.2.2.1 _ q_356, hN ("java/lang/IllegalArgumentException", "java/lang/IndexOutOfBoundsException") (by decide)⟩) (by decide) (by decide) (hC.2.2.2.2.1 _ q_484) (va_Nw.use rfl (hC.2.2.2.2.2.2.2.1.2.1 _ (by decide))) hce hcv hcl ?_
      refine lv_astore (lv' := [(5, .ref q9), (0, .ref (ad 7 0)), (1, .int u), (2, .int t), (3, .int r), (4, .ref (ad 90 0))]) hx hb dL_least_19 hl (by decide) rfl (fun ls hl => ?_)
      refine lv_iconst (v := 2) hx hb dL_least_21 (by decide) ?_
      have hO : f_L_least u t r σ = (2, σ) := by rw [f_L_least, if_neg (by rw [e_1]; exact fun q => nomatch q), if_neg (by rw [e_1]; decide)]
      exact w_iretS hC hW hS hO (Nat.le_of_ble_eq_true rfl) (Nat.le_of_ble_eq_true rfl) dL_least_22
  refine lv_i2l hx hb dL_least_10 rfl ?_
  refine w_last hC hW hS m_90 (v := (m_X7_least u t r σ).2.1) rfl (vp_lit (by decide)) dL_least_11 (fun H locs hW hS => ?_)
  rw [show Int32.toNatClampNeg 0 = 0 by decide] at hW
  refine lv_goto (tgt := 23) hx hb dL_least_12 (by decide) ?_
  refine lv_iconst (v := 0) hx hb dL_least_23 (by decide) ?_
  have hO : f_L_least u t r σ = (0, us ((m_X7_least u t r σ).2.2) 90 0 0 ((m_X7_least u t r σ).2.1)) := by rw [f_L_least, if_pos e_1]
  exact w_iretS hC hW hS hO (Nat.le_of_ble_eq_true rfl) (Nat.le_of_ble_eq_true rfl) dL_least_24
theorem fr_L_least {kk : Nat}  {u : Int32} {t : Int32} {r : Int32} {σ : Sg} (h90 : kk ≠ 90) : (f_L_least u t r σ).2 kk = σ kk := by
  rw [f_L_least]
  repeat' split
  all_goals (first | (simp only [us_kk, ne_eq, not_false_eq_true, h90, fr_X7_least]; done) | with_reducible rfl | (simp only [us_kk, ne_eq, not_false_eq_true, h90, fr_X7_least]; with_reducible rfl))
def f_L_leastAnew (u : Int32) (t : Int32) (r : Int32) (σ : Sg) : Int32 × Sg :=
  if (m_X7_leastAnew u t r σ).1 = none then (0, us ((m_X7_leastAnew u t r σ).2.2) 90 0 0 ((m_X7_leastAnew u t r σ).2.1))
  else if (m_X7_leastAnew u t r σ).1 = some "java/lang/IndexOutOfBoundsException" then (1, σ)
  else (2, σ)
set_option maxHeartbeats 4000000 in
set_option maxRecDepth 100000 in
theorem c_L_leastAnew (l : Launch) (hl9 : l.stackTraces = false) (D : va_G) (ca : Nat → ClassId) (base : Nat) (ad : Adr) (σ : Sg) (u : Int32) (t : Int32) (r : Int32) (hI : CInv σ) : Ml l yL_leastAnew cL_leastAnew 6 (some .int) [(0, 12, 15, 13), (0, 12, 19, 25)] { frames := 9, cells := 3, slots := 18, locals := 166 } D ca base ad ρm Lm [.ref (ad 7 0), .int u, .int t, .int r, .ref (ad 90 0)] σ (some (.int (f_L_leastAnew u t r σ).1)) (f_L_leastAnew u t r σ).2 := by
  refine w_ofL (by decide) (Nat.le_of_ble_eq_true rfl) rfl ?_
  intro p e s m args below meth c hC hN htab hW hS ls hl
  have hx := hC.1
  have hb := hC.2.1
  refine lv_aload hx hb dL_leastAnew_0 (lv_at hl 4 rfl) ?_
  refine lv_iconst (v := 0) hx hb dL_leastAnew_2 (by decide) ?_
  refine lv_aload_n hx hb dL_leastAnew_3 rfl (lv_at hl 0 rfl) ?_
  refine lv_iload_n hx hb dL_leastAnew_4 rfl (lv_at hl 1 rfl) ?_
  refine lv_iload_n hx hb dL_leastAnew_5 rfl (lv_at hl 2 rfl) ?_
  refine lv_iload_n hx hb dL_leastAnew_6 rfl (lv_at hl 3 rfl) ?_
  refine w_callVX (As := [.int u, .int t, .int r]) (rest := .int 0 :: .ref (ad 90 0) :: []) (st2 := .int ((m_X7_leastAnew u t r σ).2.1) :: .int 0 :: .ref (ad 90 0) :: []) hC hW hS hl cv_L_114 m_7 (by decide) rfl (c_X7_leastAnew l hl9 D ca base ad σ u t r (by first | assumption | decide | omega)) rfl rfl rfl ⟨Nat.le_of_ble_eq_true rfl, Nat.le_of_ble_eq_true rfl⟩ (Nat.le_of_ble_eq_true rfl) dL_leastAnew_7 ⟨Nat.le_of_ble_eq_true rfl, Nat.le_of_ble_eq_true rfl⟩ (fun E ce q9 H locs e_1 hW hS hce hcv hcl => ?_) (fun e_1 H locs hW hS => ?_)
  · have hE := er_X7_leastAnew e_1
    rcases hE with rfl | rfl
    · refine vx_catch (name := "java/lang/IndexOutOfBoundsException") hC.2.2.2.1 [] ⟨0, 12, 15, 13⟩ [⟨0, 12, 19, 25⟩] (by rw [htab]; rfl) (fun z hz => nomatch hz) (by decide) (by decide) (hC.2.2.2.2.1 _ q_356) (va_Nw.use rfl (hC.2.2.2.2.2.2.2.1.2.1 _ (by decide))) hce hcv hcl ?_
      refine lv_astore (lv' := [(5, .ref q9), (0, .ref (ad 7 0)), (1, .int u), (2, .int t), (3, .int r), (4, .ref (ad 90 0))]) hx hb dL_leastAnew_15 hl (by decide) rfl (fun ls hl => ?_)
      refine lv_iconst (v := 1) hx hb dL_leastAnew_17 (by decide) ?_
      have hO : f_L_leastAnew u t r σ = (1, σ) := by rw [f_L_leastAnew, if_neg (by rw [e_1]; exact fun q => nomatch q), if_pos e_1]
      exact w_iretS hC hW hS hO (Nat.le_of_ble_eq_true rfl) (Nat.le_of_ble_eq_true rfl) dL_leastAnew_18
    · refine vx_catch (name := "java/lang/IllegalArgumentException") hC.2.2.2.1 [⟨0, 12, 15, 13⟩] ⟨0, 12, 19, 25⟩ [] (by rw [htab]; rfl) (fun z hz => by
        simp only [List.mem_cons, List.not_mem_nil, or_false] at hz
        rcases hz with rfl
        · exact Or.inr ⟨by decide, "java/lang/IndexOutOfBoundsException", hC.2.2.2.2.1 _ q_356, hN ("java/lang/IllegalArgumentException", "java/lang/IndexOutOfBoundsException") (by decide)⟩) (by decide) (by decide) (hC.2.2.2.2.1 _ q_484) (va_Nw.use rfl (hC.2.2.2.2.2.2.2.1.2.1 _ (by decide))) hce hcv hcl ?_
      refine lv_astore (lv' := [(5, .ref q9), (0, .ref (ad 7 0)), (1, .int u), (2, .int t), (3, .int r), (4, .ref (ad 90 0))]) hx hb dL_leastAnew_19 hl (by decide) rfl (fun ls hl => ?_)
      refine lv_iconst (v := 2) hx hb dL_leastAnew_21 (by decide) ?_
      have hO : f_L_leastAnew u t r σ = (2, σ) := by rw [f_L_leastAnew, if_neg (by rw [e_1]; exact fun q => nomatch q), if_neg (by rw [e_1]; decide)]
      exact w_iretS hC hW hS hO (Nat.le_of_ble_eq_true rfl) (Nat.le_of_ble_eq_true rfl) dL_leastAnew_22
  refine lv_i2l hx hb dL_leastAnew_10 rfl ?_
  refine w_last hC hW hS m_90 (v := (m_X7_leastAnew u t r σ).2.1) rfl (vp_lit (by decide)) dL_leastAnew_11 (fun H locs hW hS => ?_)
  rw [show Int32.toNatClampNeg 0 = 0 by decide] at hW
  refine lv_goto (tgt := 23) hx hb dL_leastAnew_12 (by decide) ?_
  refine lv_iconst (v := 0) hx hb dL_leastAnew_23 (by decide) ?_
  have hO : f_L_leastAnew u t r σ = (0, us ((m_X7_leastAnew u t r σ).2.2) 90 0 0 ((m_X7_leastAnew u t r σ).2.1)) := by rw [f_L_leastAnew, if_pos e_1]
  exact w_iretS hC hW hS hO (Nat.le_of_ble_eq_true rfl) (Nat.le_of_ble_eq_true rfl) dL_leastAnew_24
theorem fr_L_leastAnew {kk : Nat}  {u : Int32} {t : Int32} {r : Int32} {σ : Sg} (h5 : kk ≠ 5) (h15 : kk ≠ 15) (h20 : kk ≠ 20) (h21 : kk ≠ 21) (h90 : kk ≠ 90) : (f_L_leastAnew u t r σ).2 kk = σ kk := by
  rw [f_L_leastAnew]
  repeat' split
  all_goals (first | (simp only [us_kk, ne_eq, not_false_eq_true, h5, h15, h20, h21, h90, fr_X7_leastAnew]; done) | with_reducible rfl | (simp only [us_kk, ne_eq, not_false_eq_true, h5, h15, h20, h21, h90, fr_X7_leastAnew]; with_reducible rfl))
