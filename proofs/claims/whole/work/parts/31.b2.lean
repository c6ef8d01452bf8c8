theorem hb_iff (v : Int32) {g : Nat} (hg : g < 32) : f_X8_hasBit v (nI g) = 0 ↔ bt v g = false := by
  unfold f_X8_hasBit
  rw [hb_bt v g hg]
  cases bt v g <;> simp
/-- how many of the six are not in the set -/
def cz (v : Int32) : Nat := (!bt v 0).toNat + (!bt v 1).toNat + (!bt v 2).toNat + (!bt v 3).toNat + (!bt v 4).toNat + (!bt v 5).toNat
theorem cz_b (b : Bool) : b.toNat ≤ 1 := by cases b <;> decide
theorem cz_le (v : Int32) : cz v ≤ 6 := by
  unfold cz
  have := cz_b (!bt v 0); have := cz_b (!bt v 1); have := cz_b (!bt v 2); have := cz_b (!bt v 3); have := cz_b (!bt v 4); have := cz_b (!bt v 5)
  omega
theorem cz_set1 {v : Int32} {g : Nat} (hg : g < 6) (h : bt v g = false) : cz (v ||| ((1 : Int32) <<< (nI g &&& 31))) < cz v := by
  have e : ∀ i, i < 6 → bt (v ||| ((1 : Int32) <<< (nI g &&& 31))) i = (bt v i || decide (i = g)) := fun i hi => bt_set v g (by omega) (by omega)
  unfold cz
  rw [e 0 (by decide), e 1 (by decide), e 2 (by decide), e 3 (by decide), e 4 (by decide), e 5 (by decide)]
  rcases (show g = 0 ∨ g = 1 ∨ g = 2 ∨ g = 3 ∨ g = 4 ∨ g = 5 by omega) with rfl | rfl | rfl | rfl | rfl | rfl <;> rw [h] <;> simp
theorem cz_set {v w u : Int32} {g : Nat} (hz : cz v ≤ cz w ∧ (¬ u = 0 → cz v < cz w)) (h : f_X8_hasBit v (nI g) = 0) (hg : g < 6) : cz (v ||| ((1 : Int32) <<< (nI g &&& 31))) ≤ cz w ∧ (¬ (1 : Int32) = 0 → cz (v ||| ((1 : Int32) <<< (nI g &&& 31))) < cz w) := by
  have h1 := cz_set1 hg ((hb_iff v (by omega)).mp h)
  exact ⟨by omega, fun _ => by omega⟩
theorem cz_start (v : Int32) : cz v + (if (1 : Int32) = 0 then 0 else 1) < 8 := by
  have := cz_le v
  rw [if_neg (by decide)]
  omega
theorem cz_step {v w a b : Int32} {n : Nat} (hm : cz v + (if a = 0 then 0 else 1) < n + 1) (hz : cz w ≤ cz v ∧ (¬ b = 0 → cz w < cz v)) (c : ¬ a = 0) : cz w + (if b = 0 then 0 else 1) < n := by
  rw [if_neg c] at hm
  split
  · omega
  · have := hz.2 (by assumption)
    omega
def f_X8_above_L13 (v : Int32) : Nat → Nat → Int32 → Int32 → Sg → Int32 × Int32
  | 0, _, v2_13, v3_13, _ => (v2_13, v3_13)
  | n13 + 1, k13, v2_13, v3_13, σ => if 6 ≤ (nI k13) then (v2_13, v3_13)
    else if (f_X8_hasBit v2_13 (nI k13)) = 0 then (if ((σ 32 0 k13) &&& v2_13) = 0 then f_X8_above_L13 v n13 (k13 + 1) v2_13 v3_13 σ
      else f_X8_above_L13 v n13 (k13 + 1) (v2_13 ||| ((1 : Int32) <<< ((nI k13) &&& 31))) 1 σ)
    else f_X8_above_L13 v n13 (k13 + 1) v2_13 v3_13 σ
def f_X8_above_L4 (v : Int32) : Nat → Int32 → Int32 → Sg → Int32
  | 0, v2_4, _, _ => v2_4
  | n4 + 1, v2_4, v3_4, σ => if v3_4 = 0 then v2_4
    else f_X8_above_L4 v n4 (f_X8_above_L13 v 7 0 v2_4 0 σ).1 (f_X8_above_L13 v 7 0 v2_4 0 σ).2 σ
def f_X8_above (v : Int32) (σ : Sg) : Int32 :=
  (f_X8_above_L4 v 8 v 1 σ)
set_option maxHeartbeats 4000000 in
set_option maxRecDepth 100000 in
theorem c_X8_above (l : Launch) (hl9 : l.stackTraces = false) (D : va_G) (ca : Nat → ClassId) (base : Nat) (ad : Adr) (σ : Sg) (v : Int32)  : Mt l yX8_above cX8_above 5 (some .int) { frames := 1, cells := 0, slots := 0, locals := 21 } D ca base ad ρm Lm [.ref (ad 8 0), .int v] σ (some (.int (f_X8_above v σ))) σ := by
  refine w_ofW (by decide) (Nat.le_of_ble_eq_true rfl) rfl ?_
  intro p e s m args below meth c hC hW hS ls hl hin
  have hx := hC.1
  have hb := hC.2.1
  refine lv_iload_n hx hb dX8_above_0 rfl (lv_at hl 1 rfl) ?_
  refine lv_istore_n (lv' := [(2, .int v), (0, .ref (ad 8 0)), (1, .int v)]) hx hb dX8_above_1 rfl hl (by decide) rfl (fun ls hl => ?_)
  refine lv_iconst (v := 1) hx hb dX8_above_2 (by decide) ?_
  refine lv_istore_n (lv' := [(3, .int 1), (2, .int v), (0, .ref (ad 8 0)), (1, .int v)]) hx hb dX8_above_3 rfl hl (by decide) rfl (fun ls hl => ?_)
  have h_4 : ∀ (n4 : Nat) (v2_4 v3_4 : Int32) (H : Heap) (locs : List Loc) (ls : Array Slot), cz v2_4 + (if v3_4 = 0 then 0 else 1) < n4 → Wd D ca (Ab base) ad ρm Lm σ H → va_S (Ab base) s.heap H locs → lv_has ls 5 [(3, .int v3_4), (2, .int v2_4), (0, .ref (ad 8 0))] → f_X8_above v σ = ((f_X8_above_L4 v n4 v2_4 v3_4 σ)) → W p l e ({ frames := 1, cells := 0, slots := 0, locals := 21 } : Room) s m args below meth c H locs 0 0 (MQ below (Rt D ca base ad ρm Lm σ (some (.int (f_X8_above v σ)))) args s 0 0 (Ab base)) (F0 m 4 ls []) := by
    intro n4
    induction n4 with
    | zero =>
      intro v2_4 v3_4 H locs ls hm_4 hW hS hl hO
      exact absurd hm_4 (by omega)
    | succ n4 ih_4 =>
      intro v2_4 v3_4 H locs ls hm_4 hW hS hl hO
      refine lv_iload_n hx hb dX8_above_4 rfl (lv_at hl 0 rfl) ?_
      refine lv_if_eq (tgt := 59) hx hb dX8_above_5 (by decide) (fun c_1 => ?_) (fun c_1 => ?_)
      · replace hl := lv_sub hl [0, 1, 2] (l' := [(3, .int v3_4), (2, .int v2_4), (0, .ref (ad 8 0))]) rfl
        refine lv_iload_n hx hb dX8_above_59 rfl (lv_at hl 1 rfl) ?_
        have hO : f_X8_above v σ = v2_4 := by rw [hO, f_X8_above_L4, if_pos c_1]
        exact w_iretP hC hW hS hO (Nat.le_of_ble_eq_true rfl) (Nat.le_of_ble_eq_true rfl) dX8_above_60
      · refine lv_iconst (v := 0) hx hb dX8_above_8 (by decide) ?_
        refine lv_istore_n (lv' := [(3, .int 0), (2, .int v2_4), (0, .ref (ad 8 0))]) hx hb dX8_above_9 rfl hl (by decide) rfl (fun ls hl => ?_)
        refine lv_iconst (v := 0) hx hb dX8_above_10 (by decide) ?_
        refine lv_istore (lv' := [(4, .int 0), (3, .int 0), (2, .int v2_4), (0, .ref (ad 8 0))]) hx hb dX8_above_11 hl (by decide) rfl (fun ls hl => ?_)
        have h_13 : ∀ (n13 k13 : Nat) (v2_13 v3_13 : Int32) (H : Heap) (locs : List Loc) (ls : Array Slot), 7 ≤ k13 + n13 → k13 ≤ 6 → (cz v2_13 ≤ cz v2_4 ∧ (¬ v3_13 = 0 → cz v2_13 < cz v2_4)) → Wd D ca (Ab base) ad ρm Lm σ H → va_S (Ab base) s.heap H locs → lv_has ls 5 [(4, .int (nI k13)), (3, .int v3_13), (2, .int v2_13), (0, .ref (ad 8 0))] → f_X8_above v σ = ((f_X8_above_L4 v n4 (f_X8_above_L13 v n13 k13 v2_13 v3_13 σ).1 (f_X8_above_L13 v n13 k13 v2_13 v3_13 σ).2 σ)) → W p l e ({ frames := 1, cells := 0, slots := 0, locals := 21 } : Room) s m args below meth c H locs 0 0 (MQ below (Rt D ca base ad ρm Lm σ (some (.int (f_X8_above v σ)))) args s 0 0 (Ab base)) (F0 m 13 ls []) := by
          intro n13
          induction n13 with
          | zero =>
            intro k13 v2_13 v3_13 H locs ls hk1_13 hk2_13 hz hW hS hl hO
            exact absurd hk1_13 (by omega)
          | succ n13 ih_13 =>
            intro k13 v2_13 v3_13 H locs ls hk1_13 hk2_13 hz hW hS hl hO
            refine lv_iload hx hb dX8_above_13 (lv_at hl 0 rfl) ?_
            refine lv_bipush (v := 6) hx hb dX8_above_15 (by decide) ?_
            refine lv_icmp_ge (tgt := 56) hx hb dX8_above_17 (by decide) (fun c_2 => ?_) (fun c_2 => ?_)
            · replace hl := lv_sub hl [1, 2, 3] (l' := [(3, .int v3_13), (2, .int v2_13), (0, .ref (ad 8 0))]) rfl
              refine lv_goto (tgt := 4) hx hb dX8_above_56 (by decide) ?_
              refine ih_4 v2_13 v3_13 _ _ _ (cz_step hm_4 hz c_1)  hW hS (lv_sub hl [0, 1, 2] rfl) ?_
              rw [hO, f_X8_above_L13, if_pos c_2]
            · have hi_c_2 : k13 < 6 := idx_lt c_2 (by decide) (by decide) (by omega)
              refine lv_iload_n hx hb dX8_above_20 rfl (lv_at hl 2 rfl) ?_
              refine lv_iload hx hb dX8_above_21 (lv_at hl 0 rfl) ?_
              refine w_callS (As := [.int v2_13, .int (nI k13)]) (rest := []) (st2 := .int (f_X8_hasBit v2_13 (nI k13)) :: []) hC hW hS hl cs_X8_142 (c_X8_hasBit l hl9 D ca base ad σ v2_13 (nI k13) ) rfl rfl rfl ⟨Nat.le_of_ble_eq_true rfl, Nat.le_of_ble_eq_true rfl⟩ (Nat.le_of_ble_eq_true rfl) dX8_above_23 ⟨Nat.le_of_ble_eq_true rfl, Nat.le_of_ble_eq_true rfl⟩ (fun H locs hW hS => ?_)
              refine lv_if_ne (tgt := 50) hx hb dX8_above_26 (by decide) (fun c_3 => ?_) (fun c_3 => ?_)
              · refine lv_iinc (v := nI (k13 + 1)) (lv' := [(4, .int (nI (k13 + 1))), (3, .int v3_13), (2, .int v2_13), (0, .ref (ad 8 0))]) hx hb dX8_above_50 hl (k := 0) rfl (nI_1 _) (by decide) rfl (fun ls hl => ?_)
                refine lv_goto (tgt := 13) hx hb dX8_above_53 (by decide) ?_
                refine ih_13 (k13 + 1) v2_13 v3_13 _ _ _ (by omega) (by omega) (by first | exact hz | exact cz_set hz (by assumption) (by omega)) hW hS (lv_sub hl [0, 1, 2, 3] rfl) ?_
                rw [hO, f_X8_above_L13, if_neg c_2, if_neg c_3]
              · refine lv_aload_n hx hb dX8_above_29 rfl (lv_at hl 3 rfl) ?_
                refine gf_X8_13 hC hW m_8 rfl dX8_above_30 ?_
                refine lv_iload hx hb dX8_above_33 (lv_at hl 0 rfl) ?_
                refine w_iald hC hW m_32 (n := 6) rfl (vp_in_nI (by omega) (by omega)) dX8_above_35 ?_
                refine lv_eqi (y := σ 32 0 k13) (by rw [nI_clamp (by omega)]) ?_
                refine lv_iload_n hx hb dX8_above_36 rfl (lv_at hl 2 rfl) ?_
                refine lv_iand hx hb dX8_above_37 ?_
                refine lv_if_eq (tgt := 50) hx hb dX8_above_38 (by decide) (fun c_4 => ?_) (fun c_4 => ?_)
                · refine lv_iinc (v := nI (k13 + 1)) (lv' := [(4, .int (nI (k13 + 1))), (3, .int v3_13), (2, .int v2_13), (0, .ref (ad 8 0))]) hx hb dX8_above_50 hl (k := 0) rfl (nI_1 _) (by decide) rfl (fun ls hl => ?_)
                  refine lv_goto (tgt := 13) hx hb dX8_above_53 (by decide) ?_
                  refine ih_13 (k13 + 1) v2_13 v3_13 _ _ _ (by omega) (by omega) (by first | exact hz | exact cz_set hz (by assumption) (by omega)) hW hS (lv_sub hl [0, 1, 2, 3] rfl) ?_
                  rw [hO, f_X8_above_L13, if_neg c_2, if_pos c_3, if_pos c_4]
                · refine lv_iload_n hx hb dX8_above_41 rfl (lv_at hl 2 rfl) ?_
                  refine lv_iconst (v := 1) hx hb dX8_above_42 (by decide) ?_
                  refine lv_iload hx hb dX8_above_43 (lv_at hl 0 rfl) ?_
                  refine lv_ishl hx hb dX8_above_45 ?_
                  refine lv_ior hx hb dX8_above_46 ?_
                  refine lv_istore_n (lv' := [(2, .int (v2_13 ||| ((1 : Int32) <<< ((nI k13) &&& 31)))), (4, .int (nI k13)), (3, .int v3_13), (0, .ref (ad 8 0))]) hx hb dX8_above_47 rfl hl (by decide) rfl (fun ls hl => ?_)
                  refine lv_iconst (v := 1) hx hb dX8_above_48 (by decide) ?_
                  refine lv_istore_n (lv' := [(3, .int 1), (2, .int (v2_13 ||| ((1 : Int32) <<< ((nI k13) &&& 31)))), (4, .int (nI k13)), (0, .ref (ad 8 0))]) hx hb dX8_above_49 rfl hl (by decide) rfl (fun ls hl => ?_)
                  refine lv_iinc (v := nI (k13 + 1)) (lv' := [(4, .int (nI (k13 + 1))), (3, .int 1), (2, .int (v2_13 ||| ((1 : Int32) <<< ((nI k13) &&& 31)))), (0, .ref (ad 8 0))]) hx hb dX8_above_50 hl (k := 2) rfl (nI_1 _) (by decide) rfl (fun ls hl => ?_)
                  refine lv_goto (tgt := 13) hx hb dX8_above_53 (by decide) ?_
                  refine ih_13 (k13 + 1) (v2_13 ||| ((1 : Int32) <<< ((nI k13) &&& 31))) 1 _ _ _ (by omega) (by omega) (by first | exact hz | exact cz_set hz (by assumption) (by omega)) hW hS (lv_sub hl [0, 1, 2, 3] rfl) ?_
                  rw [hO, f_X8_above_L13, if_neg c_2, if_pos c_3, if_neg c_4]
        refine h_13 7 0 v2_4 0 _ _ _ (by omega) (by omega) ⟨Nat.le_refl _, fun q => absurd rfl q⟩ hW hS (lv_sub hl [0, 1, 2, 3] rfl) ?_
        rw [hO, f_X8_above_L4, if_neg c_1]
  refine h_4 8 v 1 _ _ _ (cz_start _)  hW hS (lv_sub hl [0, 1, 2] rfl) ?_
  rw [f_X8_above]

def f_X8_groupsOf_L4 (u : Int32) : Nat → Nat → Int32 → Sg → Int32
  | 0, _, v2_4, _ => v2_4
  | n4 + 1, k4, v2_4, σ => if 6 ≤ (nI k4) then v2_4
    else if (f_X8_hasBit (σ 31 0 k4) u) = 0 then f_X8_groupsOf_L4 u n4 (k4 + 1) (v2_4 ||| (0 : Int32)) σ
    else f_X8_groupsOf_L4 u n4 (k4 + 1) (v2_4 ||| ((1 : Int32) <<< ((nI k4) &&& 31))) σ
def f_X8_groupsOf (u : Int32) (σ : Sg) : Int32 :=
  f_X8_above (f_X8_groupsOf_L4 u 7 0 0 σ) σ
set_option maxHeartbeats 4000000 in
set_option maxRecDepth 100000 in
theorem c_X8_groupsOf (l : Launch) (hl9 : l.stackTraces = false) (D : va_G) (ca : Nat → ClassId) (base : Nat) (ad : Adr) (σ : Sg) (u : Int32)  : Mt l yX8_groupsOf cX8_groupsOf 4 (some .int) { frames := 2, cells := 0, slots := 0, locals := 45 } D ca base ad ρm Lm [.ref (ad 8 0), .int u] σ (some (.int (f_X8_groupsOf u σ))) σ := by
  refine w_ofW (by decide) (Nat.le_of_ble_eq_true rfl) rfl ?_
  intro p e s m args below meth c hC hW hS ls hl hin
  have hx := hC.1
  have hb := hC.2.1
  refine lv_iconst (v := 0) hx hb dX8_groupsOf_0 (by decide) ?_
  refine lv_istore_n (lv' := [(2, .int 0), (0, .ref (ad 8 0)), (1, .int u)]) hx hb dX8_groupsOf_1 rfl hl (by decide) rfl (fun ls hl => ?_)
  refine lv_iconst (v := 0) hx hb dX8_groupsOf_2 (by decide) ?_
  refine lv_istore_n (lv' := [(3, .int 0), (2, .int 0), (0, .ref (ad 8 0)), (1, .int u)]) hx hb dX8_groupsOf_3 rfl hl (by decide) rfl (fun ls hl => ?_)
  have h_4 : ∀ (n4 k4 : Nat) (v2_4 : Int32) (H : Heap) (locs : List Loc) (ls : Array Slot), 7 ≤ k4 + n4 → k4 ≤ 6 → Wd D ca (Ab base) ad ρm Lm σ H → va_S (Ab base) s.heap H locs → lv_has ls 4 [(3, .int (nI k4)), (2, .int v2_4), (0, .ref (ad 8 0)), (1, .int u)] → f_X8_groupsOf u σ = (f_X8_above (f_X8_groupsOf_L4 u n4 k4 v2_4 σ) σ) → W p l e ({ frames := 2, cells := 0, slots := 0, locals := 45 } : Room) s m args below meth c H locs 0 0 (MQ below (Rt D ca base ad ρm Lm σ (some (.int (f_X8_groupsOf u σ)))) args s 0 0 (Ab base)) (F0 m 4 ls []) := by
    intro n4
    induction n4 with
    | zero =>
      intro k4 v2_4 H locs ls hk1_4 hk2_4 hW hS hl hO
      exact absurd hk1_4 (by omega)
    | succ n4 ih_4 =>
      intro k4 v2_4 H locs ls hk1_4 hk2_4 hW hS hl hO
      refine lv_iload_n hx hb dX8_groupsOf_4 rfl (lv_at hl 0 rfl) ?_
      refine lv_bipush (v := 6) hx hb dX8_groupsOf_5 (by decide) ?_
      refine lv_icmp_ge (tgt := 39) hx hb dX8_groupsOf_7 (by decide) (fun c_1 => ?_) (fun c_1 => ?_)
      · replace hl := lv_sub hl [1, 2, 3] (l' := [(2, .int v2_4), (0, .ref (ad 8 0)), (1, .int u)]) rfl
        refine lv_aload_n hx hb dX8_groupsOf_39 rfl (lv_at hl 1 rfl) ?_
        refine lv_iload_n hx hb dX8_groupsOf_40 rfl (lv_at hl 0 rfl) ?_
        refine w_callV (As := [.int v2_4]) (rest := []) (st2 := .int (f_X8_above v2_4 σ) :: []) hC hW hS hl cv_X8_146 m_8 (by decide) rfl (c_X8_above l hl9 D ca base ad σ v2_4 ) rfl rfl rfl ⟨Nat.le_of_ble_eq_true rfl, Nat.le_of_ble_eq_true rfl⟩ (Nat.le_of_ble_eq_true rfl) dX8_groupsOf_41 ⟨Nat.le_of_ble_eq_true rfl, Nat.le_of_ble_eq_true rfl⟩ (fun H locs hW hS => ?_)
        have hO : f_X8_groupsOf u σ = f_X8_above v2_4 σ := by rw [hO, f_X8_groupsOf_L4, if_pos c_1]
        exact w_iretP hC hW hS hO (Nat.le_of_ble_eq_true rfl) (Nat.le_of_ble_eq_true rfl) dX8_groupsOf_44
      · have hi_c_1 : k4 < 6 := idx_lt c_1 (by decide) (by decide) (by omega)
        refine lv_iload_n hx hb dX8_groupsOf_10 rfl (lv_at hl 1 rfl) ?_
        refine lv_aload_n hx hb dX8_groupsOf_11 rfl (lv_at hl 2 rfl) ?_
        refine gf_X8_7 hC hW m_8 rfl dX8_groupsOf_12 ?_
        refine lv_iload_n hx hb dX8_groupsOf_15 rfl (lv_at hl 0 rfl) ?_
        refine w_iald hC hW m_31 (n := 6) rfl (vp_in_nI (by omega) (by omega)) dX8_groupsOf_16 ?_
        refine lv_eqi (y := σ 31 0 k4) (by rw [nI_clamp (by omega)]) ?_
        refine lv_iload_n hx hb dX8_groupsOf_17 rfl (lv_at hl 3 rfl) ?_
        refine w_callS (As := [.int (σ 31 0 k4), .int u]) (rest := .int v2_4 :: []) (st2 := .int (f_X8_hasBit (σ 31 0 k4) u) :: .int v2_4 :: []) hC hW hS hl cs_X8_142 (c_X8_hasBit l hl9 D ca base ad σ (σ 31 0 k4) u ) rfl rfl rfl ⟨Nat.le_of_ble_eq_true rfl, Nat.le_of_ble_eq_true rfl⟩ (Nat.le_of_ble_eq_true rfl) dX8_groupsOf_18 ⟨Nat.le_of_ble_eq_true rfl, Nat.le_of_ble_eq_true rfl⟩ (fun H locs hW hS => ?_)
        refine lv_if_eq (tgt := 30) hx hb dX8_groupsOf_21 (by decide) (fun c_2 => ?_) (fun c_2 => ?_)
        · refine lv_iconst (v := 0) hx hb dX8_groupsOf_30 (by decide) ?_
          refine lv_ior hx hb dX8_groupsOf_31 ?_
          refine lv_istore_n (lv' := [(2, .int (v2_4 ||| (0 : Int32))), (3, .int (nI k4)), (0, .ref (ad 8 0)), (1, .int u)]) hx hb dX8_groupsOf_32 rfl hl (by decide) rfl (fun ls hl => ?_)
          refine lv_iinc (v := nI (k4 + 1)) (lv' := [(3, .int (nI (k4 + 1))), (2, .int (v2_4 ||| (0 : Int32))), (0, .ref (ad 8 0)), (1, .int u)]) hx hb dX8_groupsOf_33 hl (k := 1) rfl (nI_1 _) (by decide) rfl (fun ls hl => ?_)
          refine lv_goto (tgt := 4) hx hb dX8_groupsOf_36 (by decide) ?_
          refine ih_4 (k4 + 1) (v2_4 ||| (0 : Int32)) _ _ _ (by omega) (by omega)  hW hS (lv_sub hl [0, 1, 2, 3] rfl) ?_
          rw [hO, f_X8_groupsOf_L4, if_neg c_1, if_pos c_2]
        · refine lv_iconst (v := 1) hx hb dX8_groupsOf_24 (by decide) ?_
          refine lv_iload_n hx hb dX8_groupsOf_25 rfl (lv_at hl 0 rfl) ?_
          refine lv_ishl hx hb dX8_groupsOf_26 ?_
          refine lv_goto (tgt := 31) hx hb dX8_groupsOf_27 (by decide) ?_
          refine lv_ior hx hb dX8_groupsOf_31 ?_
          refine lv_istore_n (lv' := [(2, .int (v2_4 ||| ((1 : Int32) <<< ((nI k4) &&& 31)))), (3, .int (nI k4)), (0, .ref (ad 8 0)), (1, .int u)]) hx hb dX8_groupsOf_32 rfl hl (by decide) rfl (fun ls hl => ?_)
          refine lv_iinc (v := nI (k4 + 1)) (lv' := [(3, .int (nI (k4 + 1))), (2, .int (v2_4 ||| ((1 : Int32) <<< ((nI k4) &&& 31)))), (0, .ref (ad 8 0)), (1, .int u)]) hx hb dX8_groupsOf_33 hl (k := 1) rfl (nI_1 _) (by decide) rfl (fun ls hl => ?_)
          refine lv_goto (tgt := 4) hx hb dX8_groupsOf_36 (by decide) ?_
          refine ih_4 (k4 + 1) (v2_4 ||| ((1 : Int32) <<< ((nI k4) &&& 31))) _ _ _ (by omega) (by omega)  hW hS (lv_sub hl [0, 1, 2, 3] rfl) ?_
          rw [hO, f_X8_groupsOf_L4, if_neg c_1, if_neg c_2]
  refine h_4 7 0 0 _ _ _ (by omega) (by omega)  hW hS (lv_sub hl [0, 1, 2, 3] rfl) ?_
  rw [f_X8_groupsOf]

def f_X8_byGroups_L79 (u : Int32) (t : Int32) (r : Int32) : Nat → Nat → Int32 → Int32 → Sg → Int32
  | 0, _, v5_79, _, _ => v5_79
  | n79 + 1, k79, v5_79, w4_79, σ => if (σ 41 0 t.toNatClampNeg) ≤ (nI k79) then v5_79
    else if (σ 43 0 ((((5 : Int32) * t) + (nI k79)).toNatClampNeg)) = 0 then f_X8_byGroups_L79 u t r n79 (k79 + 1) v5_79 w4_79 σ
    else if (f_X8_hasBit w4_79 (σ 42 0 ((((5 : Int32) * t) + (nI k79)).toNatClampNeg))) = 0 then f_X8_byGroups_L79 u t r n79 (k79 + 1) v5_79 w4_79 σ
    else if v5_79 = (-1) then (if (((σ 44 0 ((((5 : Int32) * t) + (nI k79)).toNatClampNeg)) &&& (σ 40 0 t.toNatClampNeg)) &&& r) = 0 then f_X8_byGroups_L79 u t r n79 (k79 + 1) 0 w4_79 σ
      else f_X8_byGroups_L79 u t r n79 (k79 + 1) 1 w4_79 σ)
    else if (((σ 44 0 ((((5 : Int32) * t) + (nI k79)).toNatClampNeg)) &&& (σ 40 0 t.toNatClampNeg)) &&& r) = 0 then f_X8_byGroups_L79 u t r n79 (k79 + 1) (v5_79 + (0 : Int32)) w4_79 σ
    else f_X8_byGroups_L79 u t r n79 (k79 + 1) (v5_79 + (1 : Int32)) w4_79 σ
def f_X8_byGroups (u : Int32) (t : Int32) (r : Int32) (σ : Sg) : Int32 :=
  if (f_X8_hasBit (f_X8_groupsOf u σ) (σ 35 0 t.toNatClampNeg)) = 0 then (f_X8_byGroups_L79 u t r 6 0 (-1) (f_X8_groupsOf u σ) σ)
  else if (((σ 36 0 t.toNatClampNeg) >>> ((3 : Int32) &&& 31)) &&& r) = 0 then (f_X8_byGroups_L79 u t r 6 0 0 (f_X8_groupsOf u σ) σ)
  else if (σ 41 0 t.toNatClampNeg) = 0 then (f_X8_byGroups_L79 u t r 6 0 1 (f_X8_groupsOf u σ) σ)
  else if ((σ 40 0 t.toNatClampNeg) &&& r) = 0 then (f_X8_byGroups_L79 u t r 6 0 0 (f_X8_groupsOf u σ) σ)
  else (f_X8_byGroups_L79 u t r 6 0 1 (f_X8_groupsOf u σ) σ)
set_option maxHeartbeats 4000000 in
set_option maxRecDepth 100000 in
theorem c_X8_byGroups (l : Launch) (hl9 : l.stackTraces = false) (D : va_G) (ca : Nat → ClassId) (base : Nat) (ad : Adr) (σ : Sg) (u : Int32) (t : Int32) (r : Int32) (hM : MInv σ) (ht : vp_in t 12) : Mt l yX8_byGroups cX8_byGroups 8 (some .int) { frames := 3, cells := 0, slots := 0, locals := 68 } D ca base ad ρm Lm [.ref (ad 8 0), .int u, .int t, .int r] σ (some (.int (f_X8_byGroups u t r σ))) σ := by
  refine w_ofW (by decide) (Nat.le_of_ble_eq_true rfl) rfl ?_
  intro p e s m args below meth c hC hW hS ls hl hin
  have hx := hC.1
  have hb := hC.2.1
  refine lv_aload_n hx hb dX8_byGroups_0 rfl (lv_at hl 0 rfl) ?_
  refine lv_iload_n hx hb dX8_byGroups_1 rfl (lv_at hl 1 rfl) ?_
  refine w_callV (As := [.int u]) (rest := []) (st2 := .int (f_X8_groupsOf u σ) :: []) hC hW hS hl cv_X8_156 m_8 (by decide) rfl (c_X8_groupsOf l hl9 D ca base ad σ u ) rfl rfl rfl ⟨Nat.le_of_ble_eq_true rfl, Nat.le_of_ble_eq_true rfl⟩ (Nat.le_of_ble_eq_true rfl) dX8_byGroups_2 ⟨Nat.le_of_ble_eq_true rfl, Nat.le_of_ble_eq_true rfl⟩ (fun H locs hW hS => ?_)
  refine lv_istore (lv' := [(4, .int (f_X8_groupsOf u σ)), (0, .ref (ad 8 0)), (1, .int u), (2, .int t), (3, .int r)]) hx hb dX8_byGroups_5 hl (by decide) rfl (fun ls hl => ?_)
  refine lv_iconst (v := (-1)) hx hb dX8_byGroups_7 (by decide) ?_
  refine lv_istore (lv' := [(5, .int (-1)), (4, .int (f_X8_groupsOf u σ)), (0, .ref (ad 8 0)), (1, .int u), (2, .int t), (3, .int r)]) hx hb dX8_byGroups_8 hl (by decide) rfl (fun ls hl => ?_)
  refine lv_iload hx hb dX8_byGroups_10 (lv_at hl 1 rfl) ?_
  refine lv_aload_n hx hb dX8_byGroups_12 rfl (lv_at hl 2 rfl) ?_
  refine gf_X8_19 hC hW m_8 rfl dX8_byGroups_13 ?_
  refine lv_iload_n hx hb dX8_byGroups_16 rfl (lv_at hl 4 rfl) ?_
  refine w_iald hC hW m_35 (n := 12) rfl (by first | assumption | exact it_in hM (by assumption) | exact vp_in_c (y := 12) (by decide) (by decide) (by assumption) (by assumption) | (exfalso; contradiction)) dX8_byGroups_17 ?_
  refine w_callS (As := [.int (f_X8_groupsOf u σ), .int (σ 35 0 t.toNatClampNeg)]) (rest := []) (st2 := .int (f_X8_hasBit (f_X8_groupsOf u σ) (σ 35 0 t.toNatClampNeg)) :: []) hC hW hS hl cs_X8_142 (c_X8_hasBit l hl9 D ca base ad σ (f_X8_groupsOf u σ) (σ 35 0 t.toNatClampNeg) ) rfl rfl rfl ⟨Nat.le_of_ble_eq_true rfl, Nat.le_of_ble_eq_true rfl⟩ (Nat.le_of_ble_eq_true rfl) dX8_byGroups_18 ⟨Nat.le_of_ble_eq_true rfl, Nat.le_of_ble_eq_true rfl⟩ (fun H locs hW hS => ?_)
  refine lv_if_eq (tgt := 76) hx hb dX8_byGroups_21 (by decide) (fun c_1 => ?_) (fun c_1 => ?_)
  · refine lv_iconst (v := 0) hx hb dX8_byGroups_76 (by decide) ?_
    refine lv_istore (lv' := [(6, .int 0), (5, .int (-1)), (4, .int (f_X8_groupsOf u σ)), (0, .ref (ad 8 0)), (1, .int u), (2, .int t), (3, .int r)]) hx hb dX8_byGroups_77 hl (by decide) rfl (fun ls hl => ?_)
    have h_79 : ∀ (n79 k79 : Nat) (v5_79 : Int32) (H : Heap) (locs : List Loc) (ls : Array Slot), 6 ≤ k79 + n79 → k79 ≤ 5 → Wd D ca (Ab base) ad ρm Lm σ H → va_S (Ab base) s.heap H locs → lv_has ls 8 [(6, .int (nI k79)), (5, .int v5_79), (4, .int (f_X8_groupsOf u σ)), (0, .ref (ad 8 0)), (2, .int t), (3, .int r)] → f_X8_byGroups u t r σ = ((f_X8_byGroups_L79 u t r n79 k79 v5_79 (f_X8_groupsOf u σ) σ)) → W p l e ({ frames := 3, cells := 0, slots := 0, locals := 68 } : Room) s m args below meth c H locs 0 0 (MQ below (Rt D ca base ad ρm Lm σ (some (.int (f_X8_byGroups u t r σ)))) args s 0 0 (Ab base)) (F0 m 79 ls []) := by
      intro n79
      induction n79 with
      | zero =>
        intro k79 v5_79 H locs ls hk1_79 hk2_79 hW hS hl hO
        exact absurd hk1_79 (by omega)
      | succ n79 ih_79 =>
        intro k79 v5_79 H locs ls hk1_79 hk2_79 hW hS hl hO
        refine lv_iload hx hb dX8_byGroups_79 (lv_at hl 0 rfl) ?_
        refine lv_aload_n hx hb dX8_byGroups_81 rfl (lv_at hl 3 rfl) ?_
        refine gf_X8_37 hC hW m_8 rfl dX8_byGroups_82 ?_
        refine lv_iload_n hx hb dX8_byGroups_85 rfl (lv_at hl 4 rfl) ?_
        refine w_iald hC hW m_41 (n := 12) rfl (by first | assumption | exact it_in hM (by assumption) | exact vp_in_c (y := 12) (by decide) (by decide) (by assumption) (by assumption) | (exfalso; contradiction)) dX8_byGroups_86 ?_
        refine lv_icmp_ge (tgt := 168) hx hb dX8_byGroups_87 (by decide) (fun c_2 => ?_) (fun c_2 => ?_)
        · replace hl := lv_sub hl [1, 2, 3, 4, 5] (l' := [(5, .int v5_79), (4, .int (f_X8_groupsOf u σ)), (0, .ref (ad 8 0)), (2, .int t), (3, .int r)]) rfl
          refine lv_iload hx hb dX8_byGroups_168 (lv_at hl 0 rfl) ?_
          have hO : f_X8_byGroups u t r σ = v5_79 := by rw [hO, f_X8_byGroups_L79, if_pos c_2]
          exact w_iretP hC hW hS hO (Nat.le_of_ble_eq_true rfl) (Nat.le_of_ble_eq_true rfl) dX8_byGroups_170
        · have hi_c_2 : k79 < 5 := mn_lt hM ht rfl (by omega) c_2
          refine lv_iconst (v := 5) hx hb dX8_byGroups_90 (by decide) ?_
          refine lv_iload_n hx hb dX8_byGroups_91 rfl (lv_at hl 4 rfl) ?_
          refine lv_imul hx hb dX8_byGroups_92 ?_
          refine lv_iload hx hb dX8_byGroups_93 (lv_at hl 0 rfl) ?_
          refine lv_iadd hx hb dX8_byGroups_95 ?_
          refine lv_istore (lv' := [(7, .int (((5 : Int32) * t) + (nI k79))), (6, .int (nI k79)), (5, .int v5_79), (4, .int (f_X8_groupsOf u σ)), (0, .ref (ad 8 0)), (2, .int t), (3, .int r)]) hx hb dX8_byGroups_96 hl (by decide) rfl (fun ls hl => ?_)
          refine lv_aload_n hx hb dX8_byGroups_98 rfl (lv_at hl 4 rfl) ?_
          refine gf_X8_43 hC hW m_8 rfl dX8_byGroups_99 ?_
          refine lv_iload hx hb dX8_byGroups_102 (lv_at hl 0 rfl) ?_
          refine w_zald hC hW m_43 (n := 60) rfl (e5_in ht (by omega)) dX8_byGroups_104 ?_
          refine lv_if_eq (tgt := 162) hx hb dX8_byGroups_105 (by decide) (fun c_3 => ?_) (fun c_3 => ?_)
          · refine lv_iinc (v := nI (k79 + 1)) (lv' := [(6, .int (nI (k79 + 1))), (7, .int (((5 : Int32) * t) + (nI k79))), (5, .int v5_79), (4, .int (f_X8_groupsOf u σ)), (0, .ref (ad 8 0)), (2, .int t), (3, .int r)]) hx hb dX8_byGroups_162 hl (k := 1) rfl (nI_1 _) (by decide) rfl (fun ls hl => ?_)
            refine lv_goto (tgt := 79) hx hb dX8_byGroups_165 (by decide) ?_
            refine ih_79 (k79 + 1) v5_79 _ _ _ (by omega) (by omega)  hW hS (lv_sub hl [0, 2, 3, 4, 5, 6] rfl) ?_
            rw [hO, f_X8_byGroups_L79, if_neg c_2, if_pos c_3]
          · refine lv_iload hx hb dX8_byGroups_108 (lv_at hl 3 rfl) ?_
            refine lv_aload_n hx hb dX8_byGroups_110 rfl (lv_at hl 4 rfl) ?_
            refine gf_X8_40 hC hW m_8 rfl dX8_byGroups_111 ?_
            refine lv_iload hx hb dX8_byGroups_114 (lv_at hl 0 rfl) ?_
            refine w_iald hC hW m_42 (n := 60) rfl (e5_in ht (by omega)) dX8_byGroups_116 ?_
            refine w_callS (As := [.int (f_X8_groupsOf u σ), .int (σ 42 0 ((((5 : Int32) * t) + (nI k79)).toNatClampNeg))]) (rest := []) (st2 := .int (f_X8_hasBit (f_X8_groupsOf u σ) (σ 42 0 ((((5 : Int32) * t) + (nI k79)).toNatClampNeg))) :: []) hC hW hS hl cs_X8_142 (c_X8_hasBit l hl9 D ca base ad σ (f_X8_groupsOf u σ) (σ 42 0 ((((5 : Int32) * t) + (nI k79)).toNatClampNeg)) ) rfl rfl rfl ⟨Nat.le_of_ble_eq_true rfl, Nat.le_of_ble_eq_true rfl⟩ (Nat.le_of_ble_eq_true rfl) dX8_byGroups_117 ⟨Nat.le_of_ble_eq_true rfl, Nat.le_of_ble_eq_true rfl⟩ (fun H locs hW hS => ?_)
            refine lv_if_eq (tgt := 162) hx hb dX8_byGroups_120 (by decide) (fun c_4 => ?_) (fun c_4 => ?_)
            · refine lv_iinc (v := nI (k79 + 1)) (lv' := [(6, .int (nI (k79 + 1))), (7, .int (((5 : Int32) * t) + (nI k79))), (5, .int v5_79), (4, .int (f_X8_groupsOf u σ)), (0, .ref (ad 8 0)), (2, .int t), (3, .int r)]) hx hb dX8_byGroups_162 hl (k := 1) rfl (nI_1 _) (by decide) rfl (fun ls hl => ?_)
              refine lv_goto (tgt := 79) hx hb dX8_byGroups_165 (by decide) ?_
              refine ih_79 (k79 + 1) v5_79 _ _ _ (by omega) (by omega)  hW hS (lv_sub hl [0, 2, 3, 4, 5, 6] rfl) ?_
              rw [hO, f_X8_byGroups_L79, if_neg c_2, if_neg c_3, if_pos c_4]
            · refine lv_iload hx hb dX8_byGroups_123 (lv_at hl 2 rfl) ?_
              refine lv_iconst (v := (-1)) hx hb dX8_byGroups_125 (by decide) ?_
              refine lv_icmp_ne (tgt := 133) hx hb dX8_byGroups_126 (by decide) (fun c_5 => ?_) (fun c_5 => ?_)
              · refine lv_iload hx hb dX8_byGroups_133 (lv_at hl 2 rfl) ?_
                refine lv_aload_n hx hb dX8_byGroups_135 rfl (lv_at hl 4 rfl) ?_
                refine gf_X8_47 hC hW m_8 rfl dX8_byGroups_136 ?_
                refine lv_iload hx hb dX8_byGroups_139 (lv_at hl 0 rfl) ?_
                refine w_iald hC hW m_44 (n := 60) rfl (e5_in ht (by omega)) dX8_byGroups_141 ?_
                refine lv_aload_n hx hb dX8_byGroups_142 rfl (lv_at hl 4 rfl) ?_
                refine gf_X8_34 hC hW m_8 rfl dX8_byGroups_143 ?_
                refine lv_iload_n hx hb dX8_byGroups_146 rfl (lv_at hl 5 rfl) ?_
                refine w_iald hC hW m_40 (n := 12) rfl (by first | assumption | exact it_in hM (by assumption) | exact vp_in_c (y := 12) (by decide) (by decide) (by assumption) (by assumption) | (exfalso; contradiction)) dX8_byGroups_147 ?_
                refine lv_iand hx hb dX8_byGroups_148 ?_
                refine lv_iload_n hx hb dX8_byGroups_149 rfl (lv_at hl 6 rfl) ?_
                refine lv_iand hx hb dX8_byGroups_150 ?_
                refine lv_if_eq (tgt := 158) hx hb dX8_byGroups_151 (by decide) (fun c_6 => ?_) (fun c_6 => ?_)
                · refine lv_iconst (v := 0) hx hb dX8_byGroups_158 (by decide) ?_
                  refine lv_iadd hx hb dX8_byGroups_159 ?_
                  refine lv_istore (lv' := [(5, .int (v5_79 + (0 : Int32))), (7, .int (((5 : Int32) * t) + (nI k79))), (6, .int (nI k79)), (4, .int (f_X8_groupsOf u σ)), (0, .ref (ad 8 0)), (2, .int t), (3, .int r)]) hx hb dX8_byGroups_160 hl (by decide) rfl (fun ls hl => ?_)
                  refine lv_iinc (v := nI (k79 + 1)) (lv' := [(6, .int (nI (k79 + 1))), (5, .int (v5_79 + (0 : Int32))), (7, .int (((5 : Int32) * t) + (nI k79))), (4, .int (f_X8_groupsOf u σ)), (0, .ref (ad 8 0)), (2, .int t), (3, .int r)]) hx hb dX8_byGroups_162 hl (k := 2) rfl (nI_1 _) (by decide) rfl (fun ls hl => ?_)
                  refine lv_goto (tgt := 79) hx hb dX8_byGroups_165 (by decide) ?_
                  refine ih_79 (k79 + 1) (v5_79 + (0 : Int32)) _ _ _ (by omega) (by omega)  hW hS (lv_sub hl [0, 1, 3, 4, 5, 6] rfl) ?_
                  rw [hO, f_X8_byGroups_L79, if_neg c_2, if_neg c_3, if_neg c_4, if_neg c_5, if_pos c_6]
                · refine lv_iconst (v := 1) hx hb dX8_byGroups_154 (by decide) ?_
                  refine lv_goto (tgt := 159) hx hb dX8_byGroups_155 (by decide) ?_
                  refine lv_iadd hx hb dX8_byGroups_159 ?_
                  refine lv_istore (lv' := [(5, .int (v5_79 + (1 : Int32))), (7, .int (((5 : Int32) * t) + (nI k79))), (6, .int (nI k79)), (4, .int (f_X8_groupsOf u σ)), (0, .ref (ad 8 0)), (2, .int t), (3, .int r)]) hx hb dX8_byGroups_160 hl (by decide) rfl (fun ls hl => ?_)
                  refine lv_iinc (v := nI (k79 + 1)) (lv' := [(6, .int (nI (k79 + 1))), (5, .int (v5_79 + (1 : Int32))), (7, .int (((5 : Int32) * t) + (nI k79))), (4, .int (f_X8_groupsOf u σ)), (0, .ref (ad 8 0)), (2, .int t), (3, .int r)]) hx hb dX8_byGroups_162 hl (k := 2) rfl (nI_1 _) (by decide) rfl (fun ls hl => ?_)
                  refine lv_goto (tgt := 79) hx hb dX8_byGroups_165 (by decide) ?_
                  refine ih_79 (k79 + 1) (v5_79 + (1 : Int32)) _ _ _ (by omega) (by omega)  hW hS (lv_sub hl [0, 1, 3, 4, 5, 6] rfl) ?_
                  rw [hO, f_X8_byGroups_L79, if_neg c_2, if_neg c_3, if_neg c_4, if_neg c_5, if_neg c_6]
              · refine lv_iconst (v := 0) hx hb dX8_byGroups_129 (by decide) ?_
                refine lv_goto (tgt := 135) hx hb dX8_byGroups_130 (by decide) ?_
                refine lv_aload_n hx hb dX8_byGroups_135 rfl (lv_at hl 4 rfl) ?_
                refine gf_X8_47 hC hW m_8 rfl dX8_byGroups_136 ?_
                refine lv_iload hx hb dX8_byGroups_139 (lv_at hl 0 rfl) ?_
                refine w_iald hC hW m_44 (n := 60) rfl (e5_in ht (by omega)) dX8_byGroups_141 ?_
                refine lv_aload_n hx hb dX8_byGroups_142 rfl (lv_at hl 4 rfl) ?_
                refine gf_X8_34 hC hW m_8 rfl dX8_byGroups_143 ?_
                refine lv_iload_n hx hb dX8_byGroups_146 rfl (lv_at hl 5 rfl) ?_
                refine w_iald hC hW m_40 (n := 12) rfl (by first | assumption | exact it_in hM (by assumption) | exact vp_in_c (y := 12) (by decide) (by decide) (by assumption) (by assumption) | (exfalso; contradiction)) dX8_byGroups_147 ?_
                refine lv_iand hx hb dX8_byGroups_148 ?_
                refine lv_iload_n hx hb dX8_byGroups_149 rfl (lv_at hl 6 rfl) ?_
                refine lv_iand hx hb dX8_byGroups_150 ?_
                refine lv_if_eq (tgt := 158) hx hb dX8_byGroups_151 (by decide) (fun c_7 => ?_) (fun c_7 => ?_)
                · refine lv_iconst (v := 0) hx hb dX8_byGroups_158 (by decide) ?_
                  refine lv_iadd hx hb dX8_byGroups_159 ?_
                  refine lv_eqi (y := 0) (by decide) ?_
                  refine lv_istore (lv' := [(5, .int 0), (7, .int (((5 : Int32) * t) + (nI k79))), (6, .int (nI k79)), (4, .int (f_X8_groupsOf u σ)), (0, .ref (ad 8 0)), (2, .int t), (3, .int r)]) hx hb dX8_byGroups_160 hl (by decide) rfl (fun ls hl => ?_)
                  refine lv_iinc (v := nI (k79 + 1)) (lv' := [(6, .int (nI (k79 + 1))), (5, .int 0), (7, .int (((5 : Int32) * t) + (nI k79))), (4, .int (f_X8_groupsOf u σ)), (0, .ref (ad 8 0)), (2, .int t), (3, .int r)]) hx hb dX8_byGroups_162 hl (k := 2) rfl (nI_1 _) (by decide) rfl (fun ls hl => ?_)
                  refine lv_goto (tgt := 79) hx hb dX8_byGroups_165 (by decide) ?_
                  refine ih_79 (k79 + 1) 0 _ _ _ (by omega) (by omega)  hW hS (lv_sub hl [0, 1, 3, 4, 5, 6] rfl) ?_
                  rw [hO, f_X8_byGroups_L79, if_neg c_2, if_neg c_3, if_neg c_4, if_pos c_5, if_pos c_7]
                · refine lv_iconst (v := 1) hx hb dX8_byGroups_154 (by decide) ?_
                  refine lv_goto (tgt := 159) hx hb dX8_byGroups_155 (by decide) ?_
                  refine lv_iadd hx hb dX8_byGroups_159 ?_
                  refine lv_eqi (y := 1) (by decide) ?_
                  refine lv_istore (lv' := [(5, .int 1), (7, .int (((5 : Int32) * t) + (nI k79))), (6, .int (nI k79)), (4, .int (f_X8_groupsOf u σ)), (0, .ref (ad 8 0)), (2, .int t), (3, .int r)]) hx hb dX8_byGroups_160 hl (by decide) rfl (fun ls hl => ?_)
                  refine lv_iinc (v := nI (k79 + 1)) (lv' := [(6, .int (nI (k79 + 1))), (5, .int 1), (7, .int (((5 : Int32) * t) + (nI k79))), (4, .int (f_X8_groupsOf u σ)), (0, .ref (ad 8 0)), (2, .int t), (3, .int r)]) hx hb dX8_byGroups_162 hl (k := 2) rfl (nI_1 _) (by decide) rfl (fun ls hl => ?_)
                  refine lv_goto (tgt := 79) hx hb dX8_byGroups_165 (by decide) ?_
                  refine ih_79 (k79 + 1) 1 _ _ _ (by omega) (by omega)  hW hS (lv_sub hl [0, 1, 3, 4, 5, 6] rfl) ?_
                  rw [hO, f_X8_byGroups_L79, if_neg c_2, if_neg c_3, if_neg c_4, if_pos c_5, if_neg c_7]
    refine h_79 6 0 (-1) _ _ _ (by omega) (by omega)  hW hS (lv_sub hl [0, 1, 2, 3, 5, 6] rfl) ?_
    rw [f_X8_byGroups, if_pos c_1]
  · refine lv_aload_n hx hb dX8_byGroups_24 rfl (lv_at hl 2 rfl) ?_
    refine gf_X8_22 hC hW m_8 rfl dX8_byGroups_25 ?_
    refine lv_iload_n hx hb dX8_byGroups_28 rfl (lv_at hl 4 rfl) ?_
    refine w_iald hC hW m_36 (n := 12) rfl (by first | assumption | exact it_in hM (by assumption) | exact vp_in_c (y := 12) (by decide) (by decide) (by assumption) (by assumption) | (exfalso; contradiction)) dX8_byGroups_29 ?_
    refine lv_iconst (v := 3) hx hb dX8_byGroups_30 (by decide) ?_
    refine lv_ishr hx hb dX8_byGroups_31 ?_
    refine lv_iload_n hx hb dX8_byGroups_32 rfl (lv_at hl 5 rfl) ?_
    refine lv_iand hx hb dX8_byGroups_33 ?_
    refine lv_if_eq (tgt := 61) hx hb dX8_byGroups_34 (by decide) (fun c_8 => ?_) (fun c_8 => ?_)
    · refine lv_iconst (v := 0) hx hb dX8_byGroups_61 (by decide) ?_
      refine lv_istore (lv' := [(6, .int 0), (5, .int (-1)), (4, .int (f_X8_groupsOf u σ)), (0, .ref (ad 8 0)), (1, .int u), (2, .int t), (3, .int r)]) hx hb dX8_byGroups_62 hl (by decide) rfl (fun ls hl => ?_)
      refine lv_iload hx hb dX8_byGroups_64 (lv_at hl 0 rfl) ?_
      refine lv_if_eq (tgt := 73) hx hb dX8_byGroups_66 (by decide) (fun _ => ?_) (fun c => absurd (by decide) c)
      refine lv_iconst (v := 0) hx hb dX8_byGroups_73 (by decide) ?_
      refine lv_istore (lv' := [(5, .int 0), (6, .int 0), (4, .int (f_X8_groupsOf u σ)), (0, .ref (ad 8 0)), (1, .int u), (2, .int t), (3, .int r)]) hx hb dX8_byGroups_74 hl (by decide) rfl (fun ls hl => ?_)
      refine lv_iconst (v := 0) hx hb dX8_byGroups_76 (by decide) ?_
      refine lv_istore (lv' := [(6, .int 0), (5, .int 0), (4, .int (f_X8_groupsOf u σ)), (0, .ref (ad 8 0)), (1, .int u), (2, .int t), (3, .int r)]) hx hb dX8_byGroups_77 hl (by decide) rfl (fun ls hl => ?_)
      have h_79 : ∀ (n79 k79 : Nat) (v5_79 : Int32) (H : Heap) (locs : List Loc) (ls : Array Slot), 6 ≤ k79 + n79 → k79 ≤ 5 → Wd D ca (Ab base) ad ρm Lm σ H → va_S (Ab base) s.heap H locs → lv_has ls 8 [(6, .int (nI k79)), (5, .int v5_79), (4, .int (f_X8_groupsOf u σ)), (0, .ref (ad 8 0)), (2, .int t), (3, .int r)] → f_X8_byGroups u t r σ = ((f_X8_byGroups_L79 u t r n79 k79 v5_79 (f_X8_groupsOf u σ) σ)) → W p l e ({ frames := 3, cells := 0, slots := 0, locals := 68 } : Room) s m args below meth c H locs 0 0 (MQ below (Rt D ca base ad ρm Lm σ (some (.int (f_X8_byGroups u t r σ)))) args s 0 0 (Ab base)) (F0 m 79 ls []) := by
        intro n79
        induction n79 with
        | zero =>
          intro k79 v5_79 H locs ls hk1_79 hk2_79 hW hS hl hO
          exact absurd hk1_79 (by omega)
        | succ n79 ih_79 =>
          intro k79 v5_79 H locs ls hk1_79 hk2_79 hW hS hl hO
          refine lv_iload hx hb dX8_byGroups_79 (lv_at hl 0 rfl) ?_
          refine lv_aload_n hx hb dX8_byGroups_81 rfl (lv_at hl 3 rfl) ?_
          refine gf_X8_37 hC hW m_8 rfl dX8_byGroups_82 ?_
          refine lv_iload_n hx hb dX8_byGroups_85 rfl (lv_at hl 4 rfl) ?_
          refine w_iald hC hW m_41 (n := 12) rfl (by first | assumption | exact it_in hM (by assumption) | exact vp_in_c (y := 12) (by decide) (by decide) (by assumption) (by assumption) | (exfalso; contradiction)) dX8_byGroups_86 ?_
          refine lv_icmp_ge (tgt := 168) hx hb dX8_byGroups_87 (by decide) (fun c_9 => ?_) (fun c_9 => ?_)
          · replace hl := lv_sub hl [1, 2, 3, 4, 5] (l' := [(5, .int v5_79), (4, .int (f_X8_groupsOf u σ)), (0, .ref (ad 8 0)), (2, .int t), (3, .int r)]) rfl
            refine lv_iload hx hb dX8_byGroups_168 (lv_at hl 0 rfl) ?_
            have hO : f_X8_byGroups u t r σ = v5_79 := by rw [hO, f_X8_byGroups_L79, if_pos c_9]
            exact w_iretP hC hW hS hO (Nat.le_of_ble_eq_true rfl) (Nat.le_of_ble_eq_true rfl) dX8_byGroups_170
          · have hi_c_9 : k79 < 5 := mn_lt hM ht rfl (by omega) c_9
            refine lv_iconst (v := 5) hx hb dX8_byGroups_90 (by decide) ?_
            refine lv_iload_n hx hb dX8_byGroups_91 rfl (lv_at hl 4 rfl) ?_
            refine lv_imul hx hb dX8_byGroups_92 ?_
            refine lv_iload hx hb dX8_byGroups_93 (lv_at hl 0 rfl) ?_
            refine lv_iadd hx hb dX8_byGroups_95 ?_
            refine lv_istore (lv' := [(7, .int (((5 : Int32) * t) + (nI k79))), (6, .int (nI k79)), (5, .int v5_79), (4, .int (f_X8_groupsOf u σ)), (0, .ref (ad 8 0)), (2, .int t), (3, .int r)]) hx hb dX8_byGroups_96 hl (by decide) rfl (fun ls hl => ?_)
            refine lv_aload_n hx hb dX8_byGroups_98 rfl (lv_at hl 4 rfl) ?_
            refine gf_X8_43 hC hW m_8 rfl dX8_byGroups_99 ?_
            refine lv_iload hx hb dX8_byGroups_102 (lv_at hl 0 rfl) ?_
            refine w_zald hC hW m_43 (n := 60) rfl (e5_in ht (by omega)) dX8_byGroups_104 ?_
            refine lv_if_eq (tgt := 162) hx hb dX8_byGroups_105 (by decide) (fun c_10 => ?_) (fun c_10 => ?_)
            · refine lv_iinc (v := nI (k79 + 1)) (lv' := [(6, .int (nI (k79 + 1))), (7, .int (((5 : Int32) * t) + (nI k79))), (5, .int v5_79), (4, .int (f_X8_groupsOf u σ)), (0, .ref (ad 8 0)), (2, .int t), (3, .int r)]) hx hb dX8_byGroups_162 hl (k := 1) rfl (nI_1 _) (by decide) rfl (fun ls hl => ?_)
              refine lv_goto (tgt := 79) hx hb dX8_byGroups_165 (by decide) ?_
              refine ih_79 (k79 + 1) v5_79 _ _ _ (by omega) (by omega)  hW hS (lv_sub hl [0, 2, 3, 4, 5, 6] rfl) ?_
              rw [hO, f_X8_byGroups_L79, if_neg c_9, if_pos c_10]
            · refine lv_iload hx hb dX8_byGroups_108 (lv_at hl 3 rfl) ?_
              refine lv_aload_n hx hb dX8_byGroups_110 rfl (lv_at hl 4 rfl) ?_
              refine gf_X8_40 hC hW m_8 rfl dX8_byGroups_111 ?_
              refine lv_iload hx hb dX8_byGroups_114 (lv_at hl 0 rfl) ?_
              refine w_iald hC hW m_42 (n := 60) rfl (e5_in ht (by omega)) dX8_byGroups_116 ?_
              refine w_callS (As := [.int (f_X8_groupsOf u σ), .int (σ 42 0 ((((5 : Int32) * t) + (nI k79)).toNatClampNeg))]) (rest := []) (st2 := .int (f_X8_hasBit (f_X8_groupsOf u σ) (σ 42 0 ((((5 : Int32) * t) + (nI k79)).toNatClampNeg))) :: []) hC hW hS hl cs_X8_142 (c_X8_hasBit l hl9 D ca base ad σ (f_X8_groupsOf u σ) (σ 42 0 ((((5 : Int32) * t) + (nI k79)).toNatClampNeg)) ) rfl rfl rfl ⟨Nat.le_of_ble_eq_true rfl, Nat.le_of_ble_eq_true rfl⟩ (Nat.le_of_ble_eq_true rfl) dX8_byGroups_117 ⟨Nat.le_of_ble_eq_true rfl, Nat.le_of_ble_eq_true rfl⟩ (fun H locs hW hS => ?_)
              refine lv_if_eq (tgt := 162) hx hb dX8_byGroups_120 (by decide) (fun c_11 => ?_) (fun c_11 => ?_)
              · refine lv_iinc (v := nI (k79 + 1)) (lv' := [(6, .int (nI (k79 + 1))), (7, .int (((5 : Int32) * t) + (nI k79))), (5, .int v5_79), (4, .int (f_X8_groupsOf u σ)), (0, .ref (ad 8 0)), (2, .int t), (3, .int r)]) hx hb dX8_byGroups_162 hl (k := 1) rfl (nI_1 _) (by decide) rfl (fun ls hl => ?_)
                refine lv_goto (tgt := 79) hx hb dX8_byGroups_165 (by decide) ?_
                refine ih_79 (k79 + 1) v5_79 _ _ _ (by omega) (by omega)  hW hS (lv_sub hl [0, 2, 3, 4, 5, 6] rfl) ?_
                rw [hO, f_X8_byGroups_L79, if_neg c_9, if_neg c_10, if_pos c_11]
              · refine lv_iload hx hb dX8_byGroups_123 (lv_at hl 2 rfl) ?_
                refine lv_iconst (v := (-1)) hx hb dX8_byGroups_125 (by decide) ?_
                refine lv_icmp_ne (tgt := 133) hx hb dX8_byGroups_126 (by decide) (fun c_12 => ?_) (fun c_12 => ?_)
                · refine lv_iload hx hb dX8_byGroups_133 (lv_at hl 2 rfl) ?_
                  refine lv_aload_n hx hb dX8_byGroups_135 rfl (lv_at hl 4 rfl) ?_
                  refine gf_X8_47 hC hW m_8 rfl dX8_byGroups_136 ?_
                  refine lv_iload hx hb dX8_byGroups_139 (lv_at hl 0 rfl) ?_
                  refine w_iald hC hW m_44 (n := 60) rfl (e5_in ht (by omega)) dX8_byGroups_141 ?_
                  refine lv_aload_n hx hb dX8_byGroups_142 rfl (lv_at hl 4 rfl) ?_
                  refine gf_X8_34 hC hW m_8 rfl dX8_byGroups_143 ?_
                  refine lv_iload_n hx hb dX8_byGroups_146 rfl (lv_at hl 5 rfl) ?_
                  refine w_iald hC hW m_40 (n := 12) rfl (by first | assumption | exact it_in hM (by assumption) | exact vp_in_c (y := 12) (by decide) (by decide) (by assumption) (by assumption) | (exfalso; contradiction)) dX8_byGroups_147 ?_
                  refine lv_iand hx hb dX8_byGroups_148 ?_
                  refine lv_iload_n hx hb dX8_byGroups_149 rfl (lv_at hl 6 rfl) ?_
                  refine lv_iand hx hb dX8_byGroups_150 ?_
                  refine lv_if_eq (tgt := 158) hx hb dX8_byGroups_151 (by decide) (fun c_13 => ?_) (fun c_13 => ?_)
                  · refine lv_iconst (v := 0) hx hb dX8_byGroups_158 (by decide) ?_
                    refine lv_iadd hx hb dX8_byGroups_159 ?_
                    refine lv_istore (lv' := [(5, .int (v5_79 + (0 : Int32))), (7, .int (((5 : Int32) * t) + (nI k79))), (6, .int (nI k79)), (4, .int (f_X8_groupsOf u σ)), (0, .ref (ad 8 0)), (2, .int t), (3, .int r)]) hx hb dX8_byGroups_160 hl (by decide) rfl (fun ls hl => ?_)
                    refine lv_iinc (v := nI (k79 + 1)) (lv' := [(6, .int (nI (k79 + 1))), (5, .int (v5_79 + (0 : Int32))), (7, .int (((5 : Int32) * t) + (nI k79))), (4, .int (f_X8_groupsOf u σ)), (0, .ref (ad 8 0)), (2, .int t), (3, .int r)]) hx hb dX8_byGroups_162 hl (k := 2) rfl (nI_1 _) (by decide) rfl (fun ls hl => ?_)
                    refine lv_goto (tgt := 79) hx hb dX8_byGroups_165 (by decide) ?_
                    refine ih_79 (k79 + 1) (v5_79 + (0 : Int32)) _ _ _ (by omega) (by omega)  hW hS (lv_sub hl [0, 1, 3, 4, 5, 6] rfl) ?_
                    rw [hO, f_X8_byGroups_L79, if_neg c_9, if_neg c_10, if_neg c_11, if_neg c_12, if_pos c_13]
                  · refine lv_iconst (v := 1) hx hb dX8_byGroups_154 (by decide) ?_
                    refine lv_goto (tgt := 159) hx hb dX8_byGroups_155 (by decide) ?_
                    refine lv_iadd hx hb dX8_byGroups_159 ?_
                    refine lv_istore (lv' := [(5, .int (v5_79 + (1 : Int32))), (7, .int (((5 : Int32) * t) + (nI k79))), (6, .int (nI k79)), (4, .int (f_X8_groupsOf u σ)), (0, .ref (ad 8 0)), (2, .int t), (3, .int r)]) hx hb dX8_byGroups_160 hl (by decide) rfl (fun ls hl => ?_)
                    refine lv_iinc (v := nI (k79 + 1)) (lv' := [(6, .int (nI (k79 + 1))), (5, .int (v5_79 + (1 : Int32))), (7, .int (((5 : Int32) * t) + (nI k79))), (4, .int (f_X8_groupsOf u σ)), (0, .ref (ad 8 0)), (2, .int t), (3, .int r)]) hx hb dX8_byGroups_162 hl (k := 2) rfl (nI_1 _) (by decide) rfl (fun ls hl => ?_)
                    refine lv_goto (tgt := 79) hx hb dX8_byGroups_165 (by decide) ?_
                    refine ih_79 (k79 + 1) (v5_79 + (1 : Int32)) _ _ _ (by omega) (by omega)  hW hS (lv_sub hl [0, 1, 3, 4, 5, 6] rfl) ?_
                    rw [hO, f_X8_byGroups_L79, if_neg c_9, if_neg c_10, if_neg c_11, if_neg c_12, if_neg c_13]
                · refine lv_iconst (v := 0) hx hb dX8_byGroups_129 (by decide) ?_
                  refine lv_goto (tgt := 135) hx hb dX8_byGroups_130 (by decide) ?_
                  refine lv_aload_n hx hb dX8_byGroups_135 rfl (lv_at hl 4 rfl) ?_
                  refine gf_X8_47 hC hW m_8 rfl dX8_byGroups_136 ?_
                  refine lv_iload hx hb dX8_byGroups_139 (lv_at hl 0 rfl) ?_
                  refine w_iald hC hW m_44 (n := 60) rfl (e5_in ht (by omega)) dX8_byGroups_141 ?_
                  refine lv_aload_n hx hb dX8_byGroups_142 rfl (lv_at hl 4 rfl) ?_
                  refine gf_X8_34 hC hW m_8 rfl dX8_byGroups_143 ?_
                  refine lv_iload_n hx hb dX8_byGroups_146 rfl (lv_at hl 5 rfl) ?_
                  refine w_iald hC hW m_40 (n := 12) rfl (by first | assumption | exact it_in hM (by assumption) | exact vp_in_c (y := 12) (by decide) (by decide) (by assumption) (by assumption) | (exfalso; contradiction)) dX8_byGroups_147 ?_
                  refine lv_iand hx hb dX8_byGroups_148 ?_
                  refine lv_iload_n hx hb dX8_byGroups_149 rfl (lv_at hl 6 rfl) ?_
                  refine lv_iand hx hb dX8_byGroups_150 ?_
                  refine lv_if_eq (tgt := 158) hx hb dX8_byGroups_151 (by decide) (fun c_14 => ?_) (fun c_14 => ?_)
                  · refine lv_iconst (v := 0) hx hb dX8_byGroups_158 (by decide) ?_
                    refine lv_iadd hx hb dX8_byGroups_159 ?_
                    refine lv_eqi (y := 0) (by decide) ?_
                    refine lv_istore (lv' := [(5, .int 0), (7, .int (((5 : Int32) * t) + (nI k79))), (6, .int (nI k79)), (4, .int (f_X8_groupsOf u σ)), (0, .ref (ad 8 0)), (2, .int t), (3, .int r)]) hx hb dX8_byGroups_160 hl (by decide) rfl (fun ls hl => ?_)
                    refine lv_iinc (v := nI (k79 + 1)) (lv' := [(6, .int (nI (k79 + 1))), (5, .int 0), (7, .int (((5 : Int32) * t) + (nI k79))), (4, .int (f_X8_groupsOf u σ)), (0, .ref (ad 8 0)), (2, .int t), (3, .int r)]) hx hb dX8_byGroups_162 hl (k := 2) rfl (nI_1 _) (by decide) rfl (fun ls hl => ?_)
                    refine lv_goto (tgt := 79) hx hb dX8_byGroups_165 (by decide) ?_
                    refine ih_79 (k79 + 1) 0 _ _ _ (by omega) (by omega)  hW hS (lv_sub hl [0, 1, 3, 4, 5, 6] rfl) ?_
                    rw [hO, f_X8_byGroups_L79, if_neg c_9, if_neg c_10, if_neg c_11, if_pos c_12, if_pos c_14]
                  · refine lv_iconst (v := 1) hx hb dX8_byGroups_154 (by decide) ?_
                    refine lv_goto (tgt := 159) hx hb dX8_byGroups_155 (by decide) ?_
                    refine lv_iadd hx hb dX8_byGroups_159 ?_
                    refine lv_eqi (y := 1) (by decide) ?_
                    refine lv_istore (lv' := [(5, .int 1), (7, .int (((5 : Int32) * t) + (nI k79))), (6, .int (nI k79)), (4, .int (f_X8_groupsOf u σ)), (0, .ref (ad 8 0)), (2, .int t), (3, .int r)]) hx hb dX8_byGroups_160 hl (by decide) rfl (fun ls hl => ?_)
                    refine lv_iinc (v := nI (k79 + 1)) (lv' := [(6, .int (nI (k79 + 1))), (5, .int 1), (7, .int (((5 : Int32) * t) + (nI k79))), (4, .int (f_X8_groupsOf u σ)), (0, .ref (ad 8 0)), (2, .int t), (3, .int r)]) hx hb dX8_byGroups_162 hl (k := 2) rfl (nI_1 _) (by decide) rfl (fun ls hl => ?_)
                    refine lv_goto (tgt := 79) hx hb dX8_byGroups_165 (by decide) ?_
                    refine ih_79 (k79 + 1) 1 _ _ _ (by omega) (by omega)  hW hS (lv_sub hl [0, 1, 3, 4, 5, 6] rfl) ?_
                    rw [hO, f_X8_byGroups_L79, if_neg c_9, if_neg c_10, if_neg c_11, if_pos c_12, if_neg c_14]
      refine h_79 6 0 0 _ _ _ (by omega) (by omega)  hW hS (lv_sub hl [0, 1, 2, 3, 5, 6] rfl) ?_
      rw [f_X8_byGroups, if_neg c_1, if_pos c_8]
    · refine lv_aload_n hx hb dX8_byGroups_37 rfl (lv_at hl 2 rfl) ?_
      refine gf_X8_37 hC hW m_8 rfl dX8_byGroups_38 ?_
      refine lv_iload_n hx hb dX8_byGroups_41 rfl (lv_at hl 4 rfl) ?_
      refine w_iald hC hW m_41 (n := 12) rfl (by first | assumption | exact it_in hM (by assumption) | exact vp_in_c (y := 12) (by decide) (by decide) (by assumption) (by assumption) | (exfalso; contradiction)) dX8_byGroups_42 ?_
      refine lv_if_eq (tgt := 57) hx hb dX8_byGroups_43 (by decide) (fun c_15 => ?_) (fun c_15 => ?_)
      · refine lv_iconst (v := 1) hx hb dX8_byGroups_57 (by decide) ?_
        refine lv_goto (tgt := 62) hx hb dX8_byGroups_58 (by decide) ?_
        refine lv_istore (lv' := [(6, .int 1), (5, .int (-1)), (4, .int (f_X8_groupsOf u σ)), (0, .ref (ad 8 0)), (1, .int u), (2, .int t), (3, .int r)]) hx hb dX8_byGroups_62 hl (by decide) rfl (fun ls hl => ?_)
        refine lv_iload hx hb dX8_byGroups_64 (lv_at hl 0 rfl) ?_
        refine lv_if_eq (tgt := 73) hx hb dX8_byGroups_66 (by decide) (fun c => absurd c (by decide)) (fun _ => ?_)
        refine lv_iconst (v := 1) hx hb dX8_byGroups_69 (by decide) ?_
        refine lv_goto (tgt := 74) hx hb dX8_byGroups_70 (by decide) ?_
        refine lv_istore (lv' := [(5, .int 1), (6, .int 1), (4, .int (f_X8_groupsOf u σ)), (0, .ref (ad 8 0)), (1, .int u), (2, .int t), (3, .int r)]) hx hb dX8_byGroups_74 hl (by decide) rfl (fun ls hl => ?_)
        refine lv_iconst (v := 0) hx hb dX8_byGroups_76 (by decide) ?_
        refine lv_istore (lv' := [(6, .int 0), (5, .int 1), (4, .int (f_X8_groupsOf u σ)), (0, .ref (ad 8 0)), (1, .int u), (2, .int t), (3, .int r)]) hx hb dX8_byGroups_77 hl (by decide) rfl (fun ls hl => ?_)
        have h_79 : ∀ (n79 k79 : Nat) (v5_79 : Int32) (H : Heap) (locs : List Loc) (ls : Array Slot), 6 ≤ k79 + n79 → k79 ≤ 5 → Wd D ca (Ab base) ad ρm Lm σ H → va_S (Ab base) s.heap H locs → lv_has ls 8 [(6, .int (nI k79)), (5, .int v5_79), (4, .int (f_X8_groupsOf u σ)), (0, .ref (ad 8 0)), (2, .int t), (3, .int r)] → f_X8_byGroups u t r σ = ((f_X8_byGroups_L79 u t r n79 k79 v5_79 (f_X8_groupsOf u σ) σ)) → W p l e ({ frames := 3, cells := 0, slots := 0, locals := 68 } : Room) s m args below meth c H locs 0 0 (MQ below (Rt D ca base ad ρm Lm σ (some (.int (f_X8_byGroups u t r σ)))) args s 0 0 (Ab base)) (F0 m 79 ls []) := by
          intro n79
          induction n79 with
          | zero =>
            intro k79 v5_79 H locs ls hk1_79 hk2_79 hW hS hl hO
            exact absurd hk1_79 (by omega)
          | succ n79 ih_79 =>
            intro k79 v5_79 H locs ls hk1_79 hk2_79 hW hS hl hO
            refine lv_iload hx hb dX8_byGroups_79 (lv_at hl 0 rfl) ?_
            refine lv_aload_n hx hb dX8_byGroups_81 rfl (lv_at hl 3 rfl) ?_
            refine gf_X8_37 hC hW m_8 rfl dX8_byGroups_82 ?_
            refine lv_iload_n hx hb dX8_byGroups_85 rfl (lv_at hl 4 rfl) ?_
            refine w_iald hC hW m_41 (n := 12) rfl (by first | assumption | exact it_in hM (by assumption) | exact vp_in_c (y := 12) (by decide) (by decide) (by assumption) (by assumption) | (exfalso; contradiction)) dX8_byGroups_86 ?_
            refine lv_icmp_ge (tgt := 168) hx hb dX8_byGroups_87 (by decide) (fun c_16 => ?_) (fun c_16 => ?_)
            · replace hl := lv_sub hl [1, 2, 3, 4, 5] (l' := [(5, .int v5_79), (4, .int (f_X8_groupsOf u σ)), (0, .ref (ad 8 0)), (2, .int t), (3, .int r)]) rfl
              refine lv_iload hx hb dX8_byGroups_168 (lv_at hl 0 rfl) ?_
              have hO : f_X8_byGroups u t r σ = v5_79 := by rw [hO, f_X8_byGroups_L79, if_pos c_16]
              exact w_iretP hC hW hS hO (Nat.le_of_ble_eq_true rfl) (Nat.le_of_ble_eq_true rfl) dX8_byGroups_170
            · have hi_c_16 : k79 < 5 := mn_lt hM ht rfl (by omega) c_16
              refine lv_iconst (v := 5) hx hb dX8_byGroups_90 (by decide) ?_
              refine lv_iload_n hx hb dX8_byGroups_91 rfl (lv_at hl 4 rfl) ?_
              refine lv_imul hx hb dX8_byGroups_92 ?_
              refine lv_iload hx hb dX8_byGroups_93 (lv_at hl 0 rfl) ?_
              refine lv_iadd hx hb dX8_byGroups_95 ?_
              refine lv_istore (lv' := [(7, .int (((5 : Int32) * t) + (nI k79))), (6, .int (nI k79)), (5, .int v5_79), (4, .int (f_X8_groupsOf u σ)), (0, .ref (ad 8 0)), (2, .int t), (3, .int r)]) hx hb dX8_byGroups_96 hl (by decide) rfl (fun ls hl => ?_)
              refine lv_aload_n hx hb dX8_byGroups_98 rfl (lv_at hl 4 rfl) ?_
              refine gf_X8_43 hC hW m_8 rfl dX8_byGroups_99 ?_
              refine lv_iload hx hb dX8_byGroups_102 (lv_at hl 0 rfl) ?_
              refine w_zald hC hW m_43 (n := 60) rfl (e5_in ht (by omega)) dX8_byGroups_104 ?_
              refine lv_if_eq (tgt := 162) hx hb dX8_byGroups_105 (by decide) (fun c_17 => ?_) (fun c_17 => ?_)
              · refine lv_iinc (v := nI (k79 + 1)) (lv' := [(6, .int (nI (k79 + 1))), (7, .int (((5 : Int32) * t) + (nI k79))), (5, .int v5_79), (4, .int (f_X8_groupsOf u σ)), (0, .ref (ad 8 0)), (2, .int t), (3, .int r)]) hx hb dX8_byGroups_162 hl (k := 1) rfl (nI_1 _) (by decide) rfl (fun ls hl => ?_)
                refine lv_goto (tgt := 79) hx hb dX8_byGroups_165 (by decide) ?_
                refine ih_79 (k79 + 1) v5_79 _ _ _ (by omega) (by omega)  hW hS (lv_sub hl [0, 2, 3, 4, 5, 6] rfl) ?_
                rw [hO, f_X8_byGroups_L79, if_neg c_16, if_pos c_17]
              · refine lv_iload hx hb dX8_byGroups_108 (lv_at hl 3 rfl) ?_
                refine lv_aload_n hx hb dX8_byGroups_110 rfl (lv_at hl 4 rfl) ?_
                refine gf_X8_40 hC hW m_8 rfl dX8_byGroups_111 ?_
                refine lv_iload hx hb dX8_byGroups_114 (lv_at hl 0 rfl) ?_
                refine w_iald hC hW m_42 (n := 60) rfl (e5_in ht (by omega)) dX8_byGroups_116 ?_
                refine w_callS (As := [.int (f_X8_groupsOf u σ), .int (σ 42 0 ((((5 : Int32) * t) + (nI k79)).toNatClampNeg))]) (rest := []) (st2 := .int (f_X8_hasBit (f_X8_groupsOf u σ) (σ 42 0 ((((5 : Int32) * t) + (nI k79)).toNatClampNeg))) :: []) hC hW hS hl cs_X8_142 (c_X8_hasBit l hl9 D ca base ad σ (f_X8_groupsOf u σ) (σ 42 0 ((((5 : Int32) * t) + (nI k79)).toNatClampNeg)) ) rfl rfl rfl ⟨Nat.le_of_ble_eq_true rfl, Nat.le_of_ble_eq_true rfl⟩ (Nat.le_of_ble_eq_true rfl) dX8_byGroups_117 ⟨Nat.le_of_ble_eq_true rfl, Nat.le_of_ble_eq_true rfl⟩ (fun H locs hW hS => ?_)
                refine lv_if_eq (tgt := 162) hx hb dX8_byGroups_120 (by decide) (fun c_18 => ?_) (fun c_18 => ?_)
                · refine lv_iinc (v := nI (k79 + 1)) (lv' := [(6, .int (nI (k79 + 1))), (7, .int (((5 : Int32) * t) + (nI k79))), (5, .int v5_79), (4, .int (f_X8_groupsOf u σ)), (0, .ref (ad 8 0)), (2, .int t), (3, .int r)]) hx hb dX8_byGroups_162 hl (k := 1) rfl (nI_1 _) (by decide) rfl (fun ls hl => ?_)
                  refine lv_goto (tgt := 79) hx hb dX8_byGroups_165 (by decide) ?_
                  refine ih_79 (k79 + 1) v5_79 _ _ _ (by omega) (by omega)  hW hS (lv_sub hl [0, 2, 3, 4, 5, 6] rfl) ?_
                  rw [hO, f_X8_byGroups_L79, if_neg c_16, if_neg c_17, if_pos c_18]
                · refine lv_iload hx hb dX8_byGroups_123 (lv_at hl 2 rfl) ?_
                  refine lv_iconst (v := (-1)) hx hb dX8_byGroups_125 (by decide) ?_
                  refine lv_icmp_ne (tgt := 133) hx hb dX8_byGroups_126 (by decide) (fun c_19 => ?_) (fun c_19 => ?_)
                  · refine lv_iload hx hb dX8_byGroups_133 (lv_at hl 2 rfl) ?_
                    refine lv_aload_n hx hb dX8_byGroups_135 rfl (lv_at hl 4 rfl) ?_
                    refine gf_X8_47 hC hW m_8 rfl dX8_byGroups_136 ?_
                    refine lv_iload hx hb dX8_byGroups_139 (lv_at hl 0 rfl) ?_
                    refine w_iald hC hW m_44 (n := 60) rfl (e5_in ht (by omega)) dX8_byGroups_141 ?_
                    refine lv_aload_n hx hb dX8_byGroups_142 rfl (lv_at hl 4 rfl) ?_
                    refine gf_X8_34 hC hW m_8 rfl dX8_byGroups_143 ?_
                    refine lv_iload_n hx hb dX8_byGroups_146 rfl (lv_at hl 5 rfl) ?_
                    refine w_iald hC hW m_40 (n := 12) rfl (by first | assumption | exact it_in hM (by assumption) | exact vp_in_c (y := 12) (by decide) (by decide) (by assumption) (by assumption) | (exfalso; contradiction)) dX8_byGroups_147 ?_
                    refine lv_iand hx hb dX8_byGroups_148 ?_
                    refine lv_iload_n hx hb dX8_byGroups_149 rfl (lv_at hl 6 rfl) ?_
                    refine lv_iand hx hb dX8_byGroups_150 ?_
                    refine lv_if_eq (tgt := 158) hx hb dX8_byGroups_151 (by decide) (fun c_20 => ?_) (fun c_20 => ?_)
                    · refine lv_iconst (v := 0) hx hb dX8_byGroups_158 (by decide) ?_
                      refine lv_iadd hx hb dX8_byGroups_159 ?_
                      refine lv_istore (lv' := [(5, .int (v5_79 + (0 : Int32))), (7, .int (((5 : Int32) * t) + (nI k79))), (6, .int (nI k79)), (4, .int (f_X8_groupsOf u σ)), (0, .ref (ad 8 0)), (2, .int t), (3, .int r)]) hx hb dX8_byGroups_160 hl (by decide) rfl (fun ls hl => ?_)
                      refine lv_iinc (v := nI (k79 + 1)) (lv' := [(6, .int (nI (k79 + 1))), (5, .int (v5_79 + (0 : Int32))), (7, .int (((5 : Int32) * t) + (nI k79))), (4, .int (f_X8_groupsOf u σ)), (0, .ref (ad 8 0)), (2, .int t), (3, .int r)]) hx hb dX8_byGroups_162 hl (k := 2) rfl (nI_1 _) (by decide) rfl (fun ls hl => ?_)
                      refine lv_goto (tgt := 79) hx hb dX8_byGroups_165 (by decide) ?_
                      refine ih_79 (k79 + 1) (v5_79 + (0 : Int32)) _ _ _ (by omega) (by omega)  hW hS (lv_sub hl [0, 1, 3, 4, 5, 6] rfl) ?_
                      rw [hO, f_X8_byGroups_L79, if_neg c_16, if_neg c_17, if_neg c_18, if_neg c_19, if_pos c_20]
                    · refine lv_iconst (v := 1) hx hb dX8_byGroups_154 (by decide) ?_
                      refine lv_goto (tgt := 159) hx hb dX8_byGroups_155 (by decide) ?_
                      refine lv_iadd hx hb dX8_byGroups_159 ?_
                      refine lv_istore (lv' := [(5, .int (v5_79 + (1 : Int32))), (7, .int (((5 : Int32) * t) + (nI k79))), (6, .int (nI k79)), (4, .int (f_X8_groupsOf u σ)), (0, .ref (ad 8 0)), (2, .int t), (3, .int r)]) hx hb dX8_byGroups_160 hl (by decide) rfl (fun ls hl => ?_)
                      refine lv_iinc (v := nI (k79 + 1)) (lv' := [(6, .int (nI (k79 + 1))), (5, .int (v5_79 + (1 : Int32))), (7, .int (((5 : Int32) * t) + (nI k79))), (4, .int (f_X8_groupsOf u σ)), (0, .ref (ad 8 0)), (2, .int t), (3, .int r)]) hx hb dX8_byGroups_162 hl (k := 2) rfl (nI_1 _) (by decide) rfl (fun ls hl => ?_)
                      refine lv_goto (tgt := 79) hx hb dX8_byGroups_165 (by decide) ?_
                      refine ih_79 (k79 + 1) (v5_79 + (1 : Int32)) _ _ _ (by omega) (by omega)  hW hS (lv_sub hl [0, 1, 3, 4, 5, 6] rfl) ?_
                      rw [hO, f_X8_byGroups_L79, if_neg c_16, if_neg c_17, if_neg c_18, if_neg c_19, if_neg c_20]
                  · refine lv_iconst (v := 0) hx hb dX8_byGroups_129 (by decide) ?_
                    refine lv_goto (tgt := 135) hx hb dX8_byGroups_130 (by decide) ?_
                    refine lv_aload_n hx hb dX8_byGroups_135 rfl (lv_at hl 4 rfl) ?_
                    refine gf_X8_47 hC hW m_8 rfl dX8_byGroups_136 ?_
                    refine lv_iload hx hb dX8_byGroups_139 (lv_at hl 0 rfl) ?_
                    refine w_iald hC hW m_44 (n := 60) rfl (e5_in ht (by omega)) dX8_byGroups_141 ?_
                    refine lv_aload_n hx hb dX8_byGroups_142 rfl (lv_at hl 4 rfl) ?_
                    refine gf_X8_34 hC hW m_8 rfl dX8_byGroups_143 ?_
                    refine lv_iload_n hx hb dX8_byGroups_146 rfl (lv_at hl 5 rfl) ?_
                    refine w_iald hC hW m_40 (n := 12) rfl (by first | assumption | exact it_in hM (by assumption) | exact vp_in_c (y := 12) (by decide) (by decide) (by assumption) (by assumption) | (exfalso; contradiction)) dX8_byGroups_147 ?_
                    refine lv_iand hx hb dX8_byGroups_148 ?_
                    refine lv_iload_n hx hb dX8_byGroups_149 rfl (lv_at hl 6 rfl) ?_
                    refine lv_iand hx hb dX8_byGroups_150 ?_
                    refine lv_if_eq (tgt := 158) hx hb dX8_byGroups_151 (by decide) (fun c_21 => ?_) (fun c_21 => ?_)
                    · refine lv_iconst (v := 0) hx hb dX8_byGroups_158 (by decide) ?_
                      refine lv_iadd hx hb dX8_byGroups_159 ?_
                      refine lv_eqi (y := 0) (by decide) ?_
                      refine lv_istore (lv' := [(5, .int 0), (7, .int (((5 : Int32) * t) + (nI k79))), (6, .int (nI k79)), (4, .int (f_X8_groupsOf u σ)), (0, .ref (ad 8 0)), (2, .int t), (3, .int r)]) hx hb dX8_byGroups_160 hl (by decide) rfl (fun ls hl => ?_)
                      refine lv_iinc (v := nI (k79 + 1)) (lv' := [(6, .int (nI (k79 + 1))), (5, .int 0), (7, .int (((5 : Int32) * t) + (nI k79))), (4, .int (f_X8_groupsOf u σ)), (0, .ref (ad 8 0)), (2, .int t), (3, .int r)]) hx hb dX8_byGroups_162 hl (k := 2) rfl (nI_1 _) (by decide) rfl (fun ls hl => ?_)
                      refine lv_goto (tgt := 79) hx hb dX8_byGroups_165 (by decide) ?_
                      refine ih_79 (k79 + 1) 0 _ _ _ (by omega) (by omega)  hW hS (lv_sub hl [0, 1, 3, 4, 5, 6] rfl) ?_
                      rw [hO, f_X8_byGroups_L79, if_neg c_16, if_neg c_17, if_neg c_18, if_pos c_19, if_pos c_21]
                    · refine lv_iconst (v := 1) hx hb dX8_byGroups_154 (by decide) ?_
                      refine lv_goto (tgt := 159) hx hb dX8_byGroups_155 (by decide) ?_
                      refine lv_iadd hx hb dX8_byGroups_159 ?_
                      refine lv_eqi (y := 1) (by decide) ?_
                      refine lv_istore (lv' := [(5, .int 1), (7, .int (((5 : Int32) * t) + (nI k79))), (6, .int (nI k79)), (4, .int (f_X8_groupsOf u σ)), (0, .ref (ad 8 0)), (2, .int t), (3, .int r)]) hx hb dX8_byGroups_160 hl (by decide) rfl (fun ls hl => ?_)
                      refine lv_iinc (v := nI (k79 + 1)) (lv' := [(6, .int (nI (k79 + 1))), (5, .int 1), (7, .int (((5 : Int32) * t) + (nI k79))), (4, .int (f_X8_groupsOf u σ)), (0, .ref (ad 8 0)), (2, .int t), (3, .int r)]) hx hb dX8_byGroups_162 hl (k := 2) rfl (nI_1 _) (by decide) rfl (fun ls hl => ?_)
                      refine lv_goto (tgt := 79) hx hb dX8_byGroups_165 (by decide) ?_
                      refine ih_79 (k79 + 1) 1 _ _ _ (by omega) (by omega)  hW hS (lv_sub hl [0, 1, 3, 4, 5, 6] rfl) ?_
                      rw [hO, f_X8_byGroups_L79, if_neg c_16, if_neg c_17, if_neg c_18, if_pos c_19, if_neg c_21]
        refine h_79 6 0 1 _ _ _ (by omega) (by omega)  hW hS (lv_sub hl [0, 1, 2, 3, 5, 6] rfl) ?_
        rw [f_X8_byGroups, if_neg c_1, if_neg c_8, if_pos c_15]
      · refine lv_aload_n hx hb dX8_byGroups_46 rfl (lv_at hl 2 rfl) ?_
        refine gf_X8_34 hC hW m_8 rfl dX8_byGroups_47 ?_
        refine lv_iload_n hx hb dX8_byGroups_50 rfl (lv_at hl 4 rfl) ?_
        refine w_iald hC hW m_40 (n := 12) rfl (by first | assumption | exact it_in hM (by assumption) | exact vp_in_c (y := 12) (by decide) (by decide) (by assumption) (by assumption) | (exfalso; contradiction)) dX8_byGroups_51 ?_
        refine lv_iload_n hx hb dX8_byGroups_52 rfl (lv_at hl 5 rfl) ?_
        refine lv_iand hx hb dX8_byGroups_53 ?_
        refine lv_if_eq (tgt := 61) hx hb dX8_byGroups_54 (by decide) (fun c_22 => ?_) (fun c_22 => ?_)
        · refine lv_iconst (v := 0) hx hb dX8_byGroups_61 (by decide) ?_
          refine lv_istore (lv' := [(6, .int 0), (5, .int (-1)), (4, .int (f_X8_groupsOf u σ)), (0, .ref (ad 8 0)), (1, .int u), (2, .int t), (3, .int r)]) hx hb dX8_byGroups_62 hl (by decide) rfl (fun ls hl => ?_)
          refine lv_iload hx hb dX8_byGroups_64 (lv_at hl 0 rfl) ?_
          refine lv_if_eq (tgt := 73) hx hb dX8_byGroups_66 (by decide) (fun _ => ?_) (fun c => absurd (by decide) c)
          refine lv_iconst (v := 0) hx hb dX8_byGroups_73 (by decide) ?_
          refine lv_istore (lv' := [(5, .int 0), (6, .int 0), (4, .int (f_X8_groupsOf u σ)), (0, .ref (ad 8 0)), (1, .int u), (2, .int t), (3, .int r)]) hx hb dX8_byGroups_74 hl (by decide) rfl (fun ls hl => ?_)
          refine lv_iconst (v := 0) hx hb dX8_byGroups_76 (by decide) ?_
          refine lv_istore (lv' := [(6, .int 0), (5, .int 0), (4, .int (f_X8_groupsOf u σ)), (0, .ref (ad 8 0)), (1, .int u), (2, .int t), (3, .int r)]) hx hb dX8_byGroups_77 hl (by decide) rfl (fun ls hl => ?_)
          have h_79 : ∀ (n79 k79 : Nat) (v5_79 : Int32) (H : Heap) (locs : List Loc) (ls : Array Slot), 6 ≤ k79 + n79 → k79 ≤ 5 → Wd D ca (Ab base) ad ρm Lm σ H → va_S (Ab base) s.heap H locs → lv_has ls 8 [(6, .int (nI k79)), (5, .int v5_79), (4, .int (f_X8_groupsOf u σ)), (0, .ref (ad 8 0)), (2, .int t), (3, .int r)] → f_X8_byGroups u t r σ = ((f_X8_byGroups_L79 u t r n79 k79 v5_79 (f_X8_groupsOf u σ) σ)) → W p l e ({ frames := 3, cells := 0, slots := 0, locals := 68 } : Room) s m args below meth c H locs 0 0 (MQ below (Rt D ca base ad ρm Lm σ (some (.int (f_X8_byGroups u t r σ)))) args s 0 0 (Ab base)) (F0 m 79 ls []) := by
            intro n79
            induction n79 with
            | zero =>
              intro k79 v5_79 H locs ls hk1_79 hk2_79 hW hS hl hO
              exact absurd hk1_79 (by omega)
            | succ n79 ih_79 =>
              intro k79 v5_79 H locs ls hk1_79 hk2_79 hW hS hl hO
              refine lv_iload hx hb dX8_byGroups_79 (lv_at hl 0 rfl) ?_
              refine lv_aload_n hx hb dX8_byGroups_81 rfl (lv_at hl 3 rfl) ?_
              refine gf_X8_37 hC hW m_8 rfl dX8_byGroups_82 ?_
              refine lv_iload_n hx hb dX8_byGroups_85 rfl (lv_at hl 4 rfl) ?_
              refine w_iald hC hW m_41 (n := 12) rfl (by first | assumption | exact it_in hM (by assumption) | exact vp_in_c (y := 12) (by decide) (by decide) (by assumption) (by assumption) | (exfalso; contradiction)) dX8_byGroups_86 ?_
              refine lv_icmp_ge (tgt := 168) hx hb dX8_byGroups_87 (by decide) (fun c_23 => ?_) (fun c_23 => ?_)
              · replace hl := lv_sub hl [1, 2, 3, 4, 5] (l' := [(5, .int v5_79), (4, .int (f_X8_groupsOf u σ)), (0, .ref (ad 8 0)), (2, .int t), (3, .int r)]) rfl
                refine lv_iload hx hb dX8_byGroups_168 (lv_at hl 0 rfl) ?_
                have hO : f_X8_byGroups u t r σ = v5_79 := by rw [hO, f_X8_byGroups_L79, if_pos c_23]
                exact w_iretP hC hW hS hO (Nat.le_of_ble_eq_true rfl) (Nat.le_of_ble_eq_true rfl) dX8_byGroups_170
              · have hi_c_23 : k79 < 5 := mn_lt hM ht rfl (by omega) c_23
                refine lv_iconst (v := 5) hx hb dX8_byGroups_90 (by decide) ?_
                refine lv_iload_n hx hb dX8_byGroups_91 rfl (lv_at hl 4 rfl) ?_
                refine lv_imul hx hb dX8_byGroups_92 ?_
                refine lv_iload hx hb dX8_byGroups_93 (lv_at hl 0 rfl) ?_
                refine lv_iadd hx hb dX8_byGroups_95 ?_
                refine lv_istore (lv' := [(7, .int (((5 : Int32) * t) + (nI k79))), (6, .int (nI k79)), (5, .int v5_79), (4, .int (f_X8_groupsOf u σ)), (0, .ref (ad 8 0)), (2, .int t), (3, .int r)]) hx hb dX8_byGroups_96 hl (by decide) rfl (fun ls hl => ?_)
                refine lv_aload_n hx hb dX8_byGroups_98 rfl (lv_at hl 4 rfl) ?_
                refine gf_X8_43 hC hW m_8 rfl dX8_byGroups_99 ?_
                refine lv_iload hx hb dX8_byGroups_102 (lv_at hl 0 rfl) ?_
                refine w_zald hC hW m_43 (n := 60) rfl (e5_in ht (by omega)) dX8_byGroups_104 ?_
                refine lv_if_eq (tgt := 162) hx hb dX8_byGroups_105 (by decide) (fun c_24 => ?_) (fun c_24 => ?_)
                · refine lv_iinc (v := nI (k79 + 1)) (lv' := [(6, .int (nI (k79 + 1))), (7, .int (((5 : Int32) * t) + (nI k79))), (5, .int v5_79), (4, .int (f_X8_groupsOf u σ)), (0, .ref (ad 8 0)), (2, .int t), (3, .int r)]) hx hb dX8_byGroups_162 hl (k := 1) rfl (nI_1 _) (by decide) rfl (fun ls hl => ?_)
                  refine lv_goto (tgt := 79) hx hb dX8_byGroups_165 (by decide) ?_
                  refine ih_79 (k79 + 1) v5_79 _ _ _ (by omega) (by omega)  hW hS (lv_sub hl [0, 2, 3, 4, 5, 6] rfl) ?_
                  rw [hO, f_X8_byGroups_L79, if_neg c_23, if_pos c_24]
                · refine lv_iload hx hb dX8_byGroups_108 (lv_at hl 3 rfl) ?_
                  refine lv_aload_n hx hb dX8_byGroups_110 rfl (lv_at hl 4 rfl) ?_
                  refine gf_X8_40 hC hW m_8 rfl dX8_byGroups_111 ?_
                  refine lv_iload hx hb dX8_byGroups_114 (lv_at hl 0 rfl) ?_
                  refine w_iald hC hW m_42 (n := 60) rfl (e5_in ht (by omega)) dX8_byGroups_116 ?_
                  refine w_callS (As := [.int (f_X8_groupsOf u σ), .int (σ 42 0 ((((5 : Int32) * t) + (nI k79)).toNatClampNeg))]) (rest := []) (st2 := .int (f_X8_hasBit (f_X8_groupsOf u σ) (σ 42 0 ((((5 : Int32) * t) + (nI k79)).toNatClampNeg))) :: []) hC hW hS hl cs_X8_142 (c_X8_hasBit l hl9 D ca base ad σ (f_X8_groupsOf u σ) (σ 42 0 ((((5 : Int32) * t) + (nI k79)).toNatClampNeg)) ) rfl rfl rfl ⟨Nat.le_of_ble_eq_true rfl, Nat.le_of_ble_eq_true rfl⟩ (Nat.le_of_ble_eq_true rfl) dX8_byGroups_117 ⟨Nat.le_of_ble_eq_true rfl, Nat.le_of_ble_eq_true rfl⟩ (fun H locs hW hS => ?_)
                  refine lv_if_eq (tgt := 162) hx hb dX8_byGroups_120 (by decide) (fun c_25 => ?_) (fun c_25 => ?_)
                  · refine lv_iinc (v := nI (k79 + 1)) (lv' := [(6, .int (nI (k79 + 1))), (7, .int (((5 : Int32) * t) + (nI k79))), (5, .int v5_79), (4, .int (f_X8_groupsOf u σ)), (0, .ref (ad 8 0)), (2, .int t), (3, .int r)]) hx hb dX8_byGroups_162 hl (k := 1) rfl (nI_1 _) (by decide) rfl (fun ls hl => ?_)
                    refine lv_goto (tgt := 79) hx hb dX8_byGroups_165 (by decide) ?_
                    refine ih_79 (k79 + 1) v5_79 _ _ _ (by omega) (by omega)  hW hS (lv_sub hl [0, 2, 3, 4, 5, 6] rfl) ?_
                    rw [hO, f_X8_byGroups_L79, if_neg c_23, if_neg c_24, if_pos c_25]
                  · refine lv_iload hx hb dX8_byGroups_123 (lv_at hl 2 rfl) ?_
                    refine lv_iconst (v := (-1)) hx hb dX8_byGroups_125 (by decide) ?_
                    refine lv_icmp_ne (tgt := 133) hx hb dX8_byGroups_126 (by decide) (fun c_26 => ?_) (fun c_26 => ?_)
                    · refine lv_iload hx hb dX8_byGroups_133 (lv_at hl 2 rfl) ?_
                      refine lv_aload_n hx hb dX8_byGroups_135 rfl (lv_at hl 4 rfl) ?_
                      refine gf_X8_47 hC hW m_8 rfl dX8_byGroups_136 ?_
                      refine lv_iload hx hb dX8_byGroups_139 (lv_at hl 0 rfl) ?_
                      refine w_iald hC hW m_44 (n := 60) rfl (e5_in ht (by omega)) dX8_byGroups_141 ?_
                      refine lv_aload_n hx hb dX8_byGroups_142 rfl (lv_at hl 4 rfl) ?_
                      refine gf_X8_34 hC hW m_8 rfl dX8_byGroups_143 ?_
                      refine lv_iload_n hx hb dX8_byGroups_146 rfl (lv_at hl 5 rfl) ?_
                      refine w_iald hC hW m_40 (n := 12) rfl (by first | assumption | exact it_in hM (by assumption) | exact vp_in_c (y := 12) (by decide) (by decide) (by assumption) (by assumption) | (exfalso; contradiction)) dX8_byGroups_147 ?_
                      refine lv_iand hx hb dX8_byGroups_148 ?_
                      refine lv_iload_n hx hb dX8_byGroups_149 rfl (lv_at hl 6 rfl) ?_
                      refine lv_iand hx hb dX8_byGroups_150 ?_
                      refine lv_if_eq (tgt := 158) hx hb dX8_byGroups_151 (by decide) (fun c_27 => ?_) (fun c_27 => ?_)
                      · refine lv_iconst (v := 0) hx hb dX8_byGroups_158 (by decide) ?_
                        refine lv_iadd hx hb dX8_byGroups_159 ?_
                        refine lv_istore (lv' := [(5, .int (v5_79 + (0 : Int32))), (7, .int (((5 : Int32) * t) + (nI k79))), (6, .int (nI k79)), (4, .int (f_X8_groupsOf u σ)), (0, .ref (ad 8 0)), (2, .int t), (3, .int r)]) hx hb dX8_byGroups_160 hl (by decide) rfl (fun ls hl => ?_)
                        refine lv_iinc (v := nI (k79 + 1)) (lv' := [(6, .int (nI (k79 + 1))), (5, .int (v5_79 + (0 : Int32))), (7, .int (((5 : Int32) * t) + (nI k79))), (4, .int (f_X8_groupsOf u σ)), (0, .ref (ad 8 0)), (2, .int t), (3, .int r)]) hx hb dX8_byGroups_162 hl (k := 2) rfl (nI_1 _) (by decide) rfl (fun ls hl => ?_)
                        refine lv_goto (tgt := 79) hx hb dX8_byGroups_165 (by decide) ?_
                        refine ih_79 (k79 + 1) (v5_79 + (0 : Int32)) _ _ _ (by omega) (by omega)  hW hS (lv_sub hl [0, 1, 3, 4, 5, 6] rfl) ?_
                        rw [hO, f_X8_byGroups_L79, if_neg c_23, if_neg c_24, if_neg c_25, if_neg c_26, if_pos c_27]
                      · refine lv_iconst (v := 1) hx hb dX8_byGroups_154 (by decide) ?_
                        refine lv_goto (tgt := 159) hx hb dX8_byGroups_155 (by decide) ?_
                        refine lv_iadd hx hb dX8_byGroups_159 ?_
                        refine lv_istore (lv' := [(5, .int (v5_79 + (1 : Int32))), (7, .int (((5 : Int32) * t) + (nI k79))), (6, .int (nI k79)), (4, .int (f_X8_groupsOf u σ)), (0, .ref (ad 8 0)), (2, .int t), (3, .int r)]) hx hb dX8_byGroups_160 hl (by decide) rfl (fun ls hl => ?_)
                        refine lv_iinc (v := nI (k79 + 1)) (lv' := [(6, .int (nI (k79 + 1))), (5, .int (v5_79 + (1 : Int32))), (7, .int (((5 : Int32) * t) + (nI k79))), (4, .int (f_X8_groupsOf u σ)), (0, .ref (ad 8 0)), (2, .int t), (3, .int r)]) hx hb dX8_byGroups_162 hl (k := 2) rfl (nI_1 _) (by decide) rfl (fun ls hl => ?_)
                        refine lv_goto (tgt := 79) hx hb dX8_byGroups_165 (by decide) ?_
                        refine ih_79 (k79 + 1) (v5_79 + (1 : Int32)) _ _ _ (by omega) (by omega)  hW hS (lv_sub hl [0, 1, 3, 4, 5, 6] rfl) ?_
                        rw [hO, f_X8_byGroups_L79, if_neg c_23, if_neg c_24, if_neg c_25, if_neg c_26, if_neg c_27]
                    · refine lv_iconst (v := 0) hx hb dX8_byGroups_129 (by decide) ?_
                      refine lv_goto (tgt := 135) hx hb dX8_byGroups_130 (by decide) ?_
                      refine lv_aload_n hx hb dX8_byGroups_135 rfl (lv_at hl 4 rfl) ?_
                      refine gf_X8_47 hC hW m_8 rfl dX8_byGroups_136 ?_
                      refine lv_iload hx hb dX8_byGroups_139 (lv_at hl 0 rfl) ?_
                      refine w_iald hC hW m_44 (n := 60) rfl (e5_in ht (by omega)) dX8_byGroups_141 ?_
                      refine lv_aload_n hx hb dX8_byGroups_142 rfl (lv_at hl 4 rfl) ?_
                      refine gf_X8_34 hC hW m_8 rfl dX8_byGroups_143 ?_
                      refine lv_iload_n hx hb dX8_byGroups_146 rfl (lv_at hl 5 rfl) ?_
                      refine w_iald hC hW m_40 (n := 12) rfl (by first | assumption | exact it_in hM (by assumption) | exact vp_in_c (y := 12) (by decide) (by decide) (by assumption) (by assumption) | (exfalso; contradiction)) dX8_byGroups_147 ?_
                      refine lv_iand hx hb dX8_byGroups_148 ?_
                      refine lv_iload_n hx hb dX8_byGroups_149 rfl (lv_at hl 6 rfl) ?_
                      refine lv_iand hx hb dX8_byGroups_150 ?_
                      refine lv_if_eq (tgt := 158) hx hb dX8_byGroups_151 (by decide) (fun c_28 => ?_) (fun c_28 => ?_)
                      · refine lv_iconst (v := 0) hx hb dX8_byGroups_158 (by decide) ?_
                        refine lv_iadd hx hb dX8_byGroups_159 ?_
                        refine lv_eqi (y := 0) (by decide) ?_
                        refine lv_istore (lv' := [(5, .int 0), (7, .int (((5 : Int32) * t) + (nI k79))), (6, .int (nI k79)), (4, .int (f_X8_groupsOf u σ)), (0, .ref (ad 8 0)), (2, .int t), (3, .int r)]) hx hb dX8_byGroups_160 hl (by decide) rfl (fun ls hl => ?_)
                        refine lv_iinc (v := nI (k79 + 1)) (lv' := [(6, .int (nI (k79 + 1))), (5, .int 0), (7, .int (((5 : Int32) * t) + (nI k79))), (4, .int (f_X8_groupsOf u σ)), (0, .ref (ad 8 0)), (2, .int t), (3, .int r)]) hx hb dX8_byGroups_162 hl (k := 2) rfl (nI_1 _) (by decide) rfl (fun ls hl => ?_)
                        refine lv_goto (tgt := 79) hx hb dX8_byGroups_165 (by decide) ?_
                        refine ih_79 (k79 + 1) 0 _ _ _ (by omega) (by omega)  hW hS (lv_sub hl [0, 1, 3, 4, 5, 6] rfl) ?_
                        rw [hO, f_X8_byGroups_L79, if_neg c_23, if_neg c_24, if_neg c_25, if_pos c_26, if_pos c_28]
                      · refine lv_iconst (v := 1) hx hb dX8_byGroups_154 (by decide) ?_
                        refine lv_goto (tgt := 159) hx hb dX8_byGroups_155 (by decide) ?_
                        refine lv_iadd hx hb dX8_byGroups_159 ?_
                        refine lv_eqi (y := 1) (by decide) ?_
                        refine lv_istore (lv' := [(5, .int 1), (7, .int (((5 : Int32) * t) + (nI k79))), (6, .int (nI k79)), (4, .int (f_X8_groupsOf u σ)), (0, .ref (ad 8 0)), (2, .int t), (3, .int r)]) hx hb dX8_byGroups_160 hl (by decide) rfl (fun ls hl => ?_)
                        refine lv_iinc (v := nI (k79 + 1)) (lv' := [(6, .int (nI (k79 + 1))), (5, .int 1), (7, .int (((5 : Int32) * t) + (nI k79))), (4, .int (f_X8_groupsOf u σ)), (0, .ref (ad 8 0)), (2, .int t), (3, .int r)]) hx hb dX8_byGroups_162 hl (k := 2) rfl (nI_1 _) (by decide) rfl (fun ls hl => ?_)
                        refine lv_goto (tgt := 79) hx hb dX8_byGroups_165 (by decide) ?_
                        refine ih_79 (k79 + 1) 1 _ _ _ (by omega) (by omega)  hW hS (lv_sub hl [0, 1, 3, 4, 5, 6] rfl) ?_
                        rw [hO, f_X8_byGroups_L79, if_neg c_23, if_neg c_24, if_neg c_25, if_pos c_26, if_neg c_28]
          refine h_79 6 0 0 _ _ _ (by omega) (by omega)  hW hS (lv_sub hl [0, 1, 2, 3, 5, 6] rfl) ?_
          rw [f_X8_byGroups, if_neg c_1, if_neg c_8, if_neg c_15, if_pos c_22]
        · refine lv_iconst (v := 1) hx hb dX8_byGroups_57 (by decide) ?_
          refine lv_goto (tgt := 62) hx hb dX8_byGroups_58 (by decide) ?_
          refine lv_istore (lv' := [(6, .int 1), (5, .int (-1)), (4, .int (f_X8_groupsOf u σ)), (0, .ref (ad 8 0)), (1, .int u), (2, .int t), (3, .int r)]) hx hb dX8_byGroups_62 hl (by decide) rfl (fun ls hl => ?_)
          refine lv_iload hx hb dX8_byGroups_64 (lv_at hl 0 rfl) ?_
          refine lv_if_eq (tgt := 73) hx hb dX8_byGroups_66 (by decide) (fun c => absurd c (by decide)) (fun _ => ?_)
          refine lv_iconst (v := 1) hx hb dX8_byGroups_69 (by decide) ?_
          refine lv_goto (tgt := 74) hx hb dX8_byGroups_70 (by decide) ?_
          refine lv_istore (lv' := [(5, .int 1), (6, .int 1), (4, .int (f_X8_groupsOf u σ)), (0, .ref (ad 8 0)), (1, .int u), (2, .int t), (3, .int r)]) hx hb dX8_byGroups_74 hl (by decide) rfl (fun ls hl => ?_)
          refine lv_iconst (v := 0) hx hb dX8_byGroups_76 (by decide) ?_
          refine lv_istore (lv' := [(6, .int 0), (5, .int 1), (4, .int (f_X8_groupsOf u σ)), (0, .ref (ad 8 0)), (1, .int u), (2, .int t), (3, .int r)]) hx hb dX8_byGroups_77 hl (by decide) rfl (fun ls hl => ?_)
          have h_79 : ∀ (n79 k79 : Nat) (v5_79 : Int32) (H : Heap) (locs : List Loc) (ls : Array Slot), 6 ≤ k79 + n79 → k79 ≤ 5 → Wd D ca (Ab base) ad ρm Lm σ H → va_S (Ab base) s.heap H locs → lv_has ls 8 [(6, .int (nI k79)), (5, .int v5_79), (4, .int (f_X8_groupsOf u σ)), (0, .ref (ad 8 0)), (2, .int t), (3, .int r)] → f_X8_byGroups u t r σ = ((f_X8_byGroups_L79 u t r n79 k79 v5_79 (f_X8_groupsOf u σ) σ)) → W p l e ({ frames := 3, cells := 0, slots := 0, locals := 68 } : Room) s m args below meth c H locs 0 0 (MQ below (Rt D ca base ad ρm Lm σ (some (.int (f_X8_byGroups u t r σ)))) args s 0 0 (Ab base)) (F0 m 79 ls []) := by
            intro n79
            induction n79 with
            | zero =>
              intro k79 v5_79 H locs ls hk1_79 hk2_79 hW hS hl hO
              exact absurd hk1_79 (by omega)
            | succ n79 ih_79 =>
              intro k79 v5_79 H locs ls hk1_79 hk2_79 hW hS hl hO
              refine lv_iload hx hb dX8_byGroups_79 (lv_at hl 0 rfl) ?_
              refine lv_aload_n hx hb dX8_byGroups_81 rfl (lv_at hl 3 rfl) ?_
              refine gf_X8_37 hC hW m_8 rfl dX8_byGroups_82 ?_
              refine lv_iload_n hx hb dX8_byGroups_85 rfl (lv_at hl 4 rfl) ?_
              refine w_iald hC hW m_41 (n := 12) rfl (by first | assumption | exact it_in hM (by assumption) | exact vp_in_c (y := 12) (by decide) (by decide) (by assumption) (by assumption) | (exfalso; contradiction)) dX8_byGroups_86 ?_
              refine lv_icmp_ge (tgt := 168) hx hb dX8_byGroups_87 (by decide) (fun c_29 => ?_) (fun c_29 => ?_)
              · replace hl := lv_sub hl [1, 2, 3, 4, 5] (l' := [(5, .int v5_79), (4, .int (f_X8_groupsOf u σ)), (0, .ref (ad 8 0)), (2, .int t), (3, .int r)]) rfl
                refine lv_iload hx hb dX8_byGroups_168 (lv_at hl 0 rfl) ?_
                have hO : f_X8_byGroups u t r σ = v5_79 := by rw [hO, f_X8_byGroups_L79, if_pos c_29]
                exact w_iretP hC hW hS hO (Nat.le_of_ble_eq_true rfl) (Nat.le_of_ble_eq_true rfl) dX8_byGroups_170
              · have hi_c_29 : k79 < 5 := mn_lt hM ht rfl (by omega) c_29
                refine lv_iconst (v := 5) hx hb dX8_byGroups_90 (by decide) ?_
                refine lv_iload_n hx hb dX8_byGroups_91 rfl (lv_at hl 4 rfl) ?_
                refine lv_imul hx hb dX8_byGroups_92 ?_
                refine lv_iload hx hb dX8_byGroups_93 (lv_at hl 0 rfl) ?_
                refine lv_iadd hx hb dX8_byGroups_95 ?_
                refine lv_istore (lv' := [(7, .int (((5 : Int32) * t) + (nI k79))), (6, .int (nI k79)), (5, .int v5_79), (4, .int (f_X8_groupsOf u σ)), (0, .ref (ad 8 0)), (2, .int t), (3, .int r)]) hx hb dX8_byGroups_96 hl (by decide) rfl (fun ls hl => ?_)
                refine lv_aload_n hx hb dX8_byGroups_98 rfl (lv_at hl 4 rfl) ?_
                refine gf_X8_43 hC hW m_8 rfl dX8_byGroups_99 ?_
                refine lv_iload hx hb dX8_byGroups_102 (lv_at hl 0 rfl) ?_
                refine w_zald hC hW m_43 (n := 60) rfl (e5_in ht (by omega)) dX8_byGroups_104 ?_
                refine lv_if_eq (tgt := 162) hx hb dX8_byGroups_105 (by decide) (fun c_30 => ?_) (fun c_30 => ?_)
                · refine lv_iinc (v := nI (k79 + 1)) (lv' := [(6, .int (nI (k79 + 1))), (7, .int (((5 : Int32) * t) + (nI k79))), (5, .int v5_79), (4, .int (f_X8_groupsOf u σ)), (0, .ref (ad 8 0)), (2, .int t), (3, .int r)]) hx hb dX8_byGroups_162 hl (k := 1) rfl (nI_1 _) (by decide) rfl (fun ls hl => ?_)
                  refine lv_goto (tgt := 79) hx hb dX8_byGroups_165 (by decide) ?_
                  refine ih_79 (k79 + 1) v5_79 _ _ _ (by omega) (by omega)  hW hS (lv_sub hl [0, 2, 3, 4, 5, 6] rfl) ?_
                  rw [hO, f_X8_byGroups_L79, if_neg c_29, if_pos c_30]
                · refine lv_iload hx hb dX8_byGroups_108 (lv_at hl 3 rfl) ?_
                  refine lv_aload_n hx hb dX8_byGroups_110 rfl (lv_at hl 4 rfl) ?_
                  refine gf_X8_40 hC hW m_8 rfl dX8_byGroups_111 ?_
                  refine lv_iload hx hb dX8_byGroups_114 (lv_at hl 0 rfl) ?_
                  refine w_iald hC hW m_42 (n := 60) rfl (e5_in ht (by omega)) dX8_byGroups_116 ?_
                  refine w_callS (As := [.int (f_X8_groupsOf u σ), .int (σ 42 0 ((((5 : Int32) * t) + (nI k79)).toNatClampNeg))]) (rest := []) (st2 := .int (f_X8_hasBit (f_X8_groupsOf u σ) (σ 42 0 ((((5 : Int32) * t) + (nI k79)).toNatClampNeg))) :: []) hC hW hS hl cs_X8_142 (c_X8_hasBit l hl9 D ca base ad σ (f_X8_groupsOf u σ) (σ 42 0 ((((5 : Int32) * t) + (nI k79)).toNatClampNeg)) ) rfl rfl rfl ⟨Nat.le_of_ble_eq_true rfl, Nat.le_of_ble_eq_true rfl⟩ (Nat.le_of_ble_eq_true rfl) dX8_byGroups_117 ⟨Nat.le_of_ble_eq_true rfl, Nat.le_of_ble_eq_true rfl⟩ (fun H locs hW hS => ?_)
                  refine lv_if_eq (tgt := 162) hx hb dX8_byGroups_120 (by decide) (fun c_31 => ?_) (fun c_31 => ?_)
                  · refine lv_iinc (v := nI (k79 + 1)) (lv' := [(6, .int (nI (k79 + 1))), (7, .int (((5 : Int32) * t) + (nI k79))), (5, .int v5_79), (4, .int (f_X8_groupsOf u σ)), (0, .ref (ad 8 0)), (2, .int t), (3, .int r)]) hx hb dX8_byGroups_162 hl (k := 1) rfl (nI_1 _) (by decide) rfl (fun ls hl => ?_)
                    refine lv_goto (tgt := 79) hx hb dX8_byGroups_165 (by decide) ?_
                    refine ih_79 (k79 + 1) v5_79 _ _ _ (by omega) (by omega)  hW hS (lv_sub hl [0, 2, 3, 4, 5, 6] rfl) ?_
                    rw [hO, f_X8_byGroups_L79, if_neg c_29, if_neg c_30, if_pos c_31]
                  · refine lv_iload hx hb dX8_byGroups_123 (lv_at hl 2 rfl) ?_
                    refine lv_iconst (v := (-1)) hx hb dX8_byGroups_125 (by decide) ?_
                    refine lv_icmp_ne (tgt := 133) hx hb dX8_byGroups_126 (by decide) (fun c_32 => ?_) (fun c_32 => ?_)
                    · refine lv_iload hx hb dX8_byGroups_133 (lv_at hl 2 rfl) ?_
                      refine lv_aload_n hx hb dX8_byGroups_135 rfl (lv_at hl 4 rfl) ?_
                      refine gf_X8_47 hC hW m_8 rfl dX8_byGroups_136 ?_
                      refine lv_iload hx hb dX8_byGroups_139 (lv_at hl 0 rfl) ?_
                      refine w_iald hC hW m_44 (n := 60) rfl (e5_in ht (by omega)) dX8_byGroups_141 ?_
                      refine lv_aload_n hx hb dX8_byGroups_142 rfl (lv_at hl 4 rfl) ?_
                      refine gf_X8_34 hC hW m_8 rfl dX8_byGroups_143 ?_
                      refine lv_iload_n hx hb dX8_byGroups_146 rfl (lv_at hl 5 rfl) ?_
                      refine w_iald hC hW m_40 (n := 12) rfl (by first | assumption | exact it_in hM (by assumption) | exact vp_in_c (y := 12) (by decide) (by decide) (by assumption) (by assumption) | (exfalso; contradiction)) dX8_byGroups_147 ?_
                      refine lv_iand hx hb dX8_byGroups_148 ?_
                      refine lv_iload_n hx hb dX8_byGroups_149 rfl (lv_at hl 6 rfl) ?_
                      refine lv_iand hx hb dX8_byGroups_150 ?_
                      refine lv_if_eq (tgt := 158) hx hb dX8_byGroups_151 (by decide) (fun c_33 => ?_) (fun c_33 => ?_)
                      · refine lv_iconst (v := 0) hx hb dX8_byGroups_158 (by decide) ?_
                        refine lv_iadd hx hb dX8_byGroups_159 ?_
                        refine lv_istore (lv' := [(5, .int (v5_79 + (0 : Int32))), (7, .int (((5 : Int32) * t) + (nI k79))), (6, .int (nI k79)), (4, .int (f_X8_groupsOf u σ)), (0, .ref (ad 8 0)), (2, .int t), (3, .int r)]) hx hb dX8_byGroups_160 hl (by decide) rfl (fun ls hl => ?_)
                        refine lv_iinc (v := nI (k79 + 1)) (lv' := [(6, .int (nI (k79 + 1))), (5, .int (v5_79 + (0 : Int32))), (7, .int (((5 : Int32) * t) + (nI k79))), (4, .int (f_X8_groupsOf u σ)), (0, .ref (ad 8 0)), (2, .int t), (3, .int r)]) hx hb dX8_byGroups_162 hl (k := 2) rfl (nI_1 _) (by decide) rfl (fun ls hl => ?_)
                        refine lv_goto (tgt := 79) hx hb dX8_byGroups_165 (by decide) ?_
                        refine ih_79 (k79 + 1) (v5_79 + (0 : Int32)) _ _ _ (by omega) (by omega)  hW hS (lv_sub hl [0, 1, 3, 4, 5, 6] rfl) ?_
                        rw [hO, f_X8_byGroups_L79, if_neg c_29, if_neg c_30, if_neg c_31, if_neg c_32, if_pos c_33]
                      · refine lv_iconst (v := 1) hx hb dX8_byGroups_154 (by decide) ?_
                        refine lv_goto (tgt := 159) hx hb dX8_byGroups_155 (by decide) ?_
                        refine lv_iadd hx hb dX8_byGroups_159 ?_
                        refine lv_istore (lv' := [(5, .int (v5_79 + (1 : Int32))), (7, .int (((5 : Int32) * t) + (nI k79))), (6, .int (nI k79)), (4, .int (f_X8_groupsOf u σ)), (0, .ref (ad 8 0)), (2, .int t), (3, .int r)]) hx hb dX8_byGroups_160 hl (by decide) rfl (fun ls hl => ?_)
                        refine lv_iinc (v := nI (k79 + 1)) (lv' := [(6, .int (nI (k79 + 1))), (5, .int (v5_79 + (1 : Int32))), (7, .int (((5 : Int32) * t) + (nI k79))), (4, .int (f_X8_groupsOf u σ)), (0, .ref (ad 8 0)), (2, .int t), (3, .int r)]) hx hb dX8_byGroups_162 hl (k := 2) rfl (nI_1 _) (by decide) rfl (fun ls hl => ?_)
                        refine lv_goto (tgt := 79) hx hb dX8_byGroups_165 (by decide) ?_
                        refine ih_79 (k79 + 1) (v5_79 + (1 : Int32)) _ _ _ (by omega) (by omega)  hW hS (lv_sub hl [0, 1, 3, 4, 5, 6] rfl) ?_
                        rw [hO, f_X8_byGroups_L79, if_neg c_29, if_neg c_30, if_neg c_31, if_neg c_32, if_neg c_33]
                    · refine lv_iconst (v := 0) hx hb dX8_byGroups_129 (by decide) ?_
                      refine lv_goto (tgt := 135) hx hb dX8_byGroups_130 (by decide) ?_
                      refine lv_aload_n hx hb dX8_byGroups_135 rfl (lv_at hl 4 rfl) ?_
                      refine gf_X8_47 hC hW m_8 rfl dX8_byGroups_136 ?_
                      refine lv_iload hx hb dX8_byGroups_139 (lv_at hl 0 rfl) ?_
                      refine w_iald hC hW m_44 (n := 60) rfl (e5_in ht (by omega)) dX8_byGroups_141 ?_
                      refine lv_aload_n hx hb dX8_byGroups_142 rfl (lv_at hl 4 rfl) ?_
                      refine gf_X8_34 hC hW m_8 rfl dX8_byGroups_143 ?_
                      refine lv_iload_n hx hb dX8_byGroups_146 rfl (lv_at hl 5 rfl) ?_
                      refine w_iald hC hW m_40 (n := 12) rfl (by first | assumption | exact it_in hM (by assumption) | exact vp_in_c (y := 12) (by decide) (by decide) (by assumption) (by assumption) | (exfalso; contradiction)) dX8_byGroups_147 ?_
                      refine lv_iand hx hb dX8_byGroups_148 ?_
                      refine lv_iload_n hx hb dX8_byGroups_149 rfl (lv_at hl 6 rfl) ?_
                      refine lv_iand hx hb dX8_byGroups_150 ?_
                      refine lv_if_eq (tgt := 158) hx hb dX8_byGroups_151 (by decide) (fun c_34 => ?_) (fun c_34 => ?_)
                      · refine lv_iconst (v := 0) hx hb dX8_byGroups_158 (by decide) ?_
                        refine lv_iadd hx hb dX8_byGroups_159 ?_
                        refine lv_eqi (y := 0) (by decide) ?_
                        refine lv_istore (lv' := [(5, .int 0), (7, .int (((5 : Int32) * t) + (nI k79))), (6, .int (nI k79)), (4, .int (f_X8_groupsOf u σ)), (0, .ref (ad 8 0)), (2, .int t), (3, .int r)]) hx hb dX8_byGroups_160 hl (by decide) rfl (fun ls hl => ?_)
                        refine lv_iinc (v := nI (k79 + 1)) (lv' := [(6, .int (nI (k79 + 1))), (5, .int 0), (7, .int (((5 : Int32) * t) + (nI k79))), (4, .int (f_X8_groupsOf u σ)), (0, .ref (ad 8 0)), (2, .int t), (3, .int r)]) hx hb dX8_byGroups_162 hl (k := 2) rfl (nI_1 _) (by decide) rfl (fun ls hl => ?_)
                        refine lv_goto (tgt := 79) hx hb dX8_byGroups_165 (by decide) ?_
                        refine ih_79 (k79 + 1) 0 _ _ _ (by omega) (by omega)  hW hS (lv_sub hl [0, 1, 3, 4, 5, 6] rfl) ?_
                        rw [hO, f_X8_byGroups_L79, if_neg c_29, if_neg c_30, if_neg c_31, if_pos c_32, if_pos c_34]
                      · refine lv_iconst (v := 1) hx hb dX8_byGroups_154 (by decide) ?_
                        refine lv_goto (tgt := 159) hx hb dX8_byGroups_155 (by decide) ?_
                        refine lv_iadd hx hb dX8_byGroups_159 ?_
                        refine lv_eqi (y := 1) (by decide) ?_
                        refine lv_istore (lv' := [(5, .int 1), (7, .int (((5 : Int32) * t) + (nI k79))), (6, .int (nI k79)), (4, .int (f_X8_groupsOf u σ)), (0, .ref (ad 8 0)), (2, .int t), (3, .int r)]) hx hb dX8_byGroups_160 hl (by decide) rfl (fun ls hl => ?_)
                        refine lv_iinc (v := nI (k79 + 1)) (lv' := [(6, .int (nI (k79 + 1))), (5, .int 1), (7, .int (((5 : Int32) * t) + (nI k79))), (4, .int (f_X8_groupsOf u σ)), (0, .ref (ad 8 0)), (2, .int t), (3, .int r)]) hx hb dX8_byGroups_162 hl (k := 2) rfl (nI_1 _) (by decide) rfl (fun ls hl => ?_)
                        refine lv_goto (tgt := 79) hx hb dX8_byGroups_165 (by decide) ?_
                        refine ih_79 (k79 + 1) 1 _ _ _ (by omega) (by omega)  hW hS (lv_sub hl [0, 1, 3, 4, 5, 6] rfl) ?_
                        rw [hO, f_X8_byGroups_L79, if_neg c_29, if_neg c_30, if_neg c_31, if_pos c_32, if_neg c_34]
          refine h_79 6 0 1 _ _ _ (by omega) (by omega)  hW hS (lv_sub hl [0, 1, 2, 3, 5, 6] rfl) ?_
          rw [f_X8_byGroups, if_neg c_1, if_neg c_8, if_neg c_15, if_neg c_22]

def f_X8_leastOf (u : Int32) (t : Int32) (r : Int32) (σ : Sg) : Int32 :=
  if u = (σ 34 0 t.toNatClampNeg) then (if (((σ 36 0 t.toNatClampNeg) >>> ((6 : Int32) &&& 31)) &&& r) = 0 then 0
    else 1)
  else if (f_X8_entryOf t 0 u σ) = (-1) then (if (f_X8_byGroups u t r σ) = (-1) then (if ((σ 36 0 t.toNatClampNeg) &&& r) = 0 then 0
      else 1)
    else f_X8_byGroups u t r σ)
  else if (((σ 44 0 ((((5 : Int32) * t) + (f_X8_entryOf t 0 u σ)).toNatClampNeg)) &&& (σ 40 0 t.toNatClampNeg)) &&& r) = 0 then 0
  else 1
set_option maxHeartbeats 4000000 in
set_option maxRecDepth 100000 in
theorem c_X8_leastOf (l : Launch) (hl9 : l.stackTraces = false) (D : va_G) (ca : Nat → ClassId) (base : Nat) (ad : Adr) (σ : Sg) (u : Int32) (t : Int32) (r : Int32) (hM : MInv σ) (ht : vp_in t 12) : Mt l yX8_leastOf cX8_leastOf 6 (some .int) { frames := 4, cells := 0, slots := 0, locals := 95 } D ca base ad ρm Lm [.ref (ad 8 0), .int u, .int t, .int r] σ (some (.int (f_X8_leastOf u t r σ))) σ := by
  refine w_ofW (by decide) (Nat.le_of_ble_eq_true rfl) rfl ?_
  intro p e s m args below meth c hC hW hS ls hl hin
  have hx := hC.1
  have hb := hC.2.1
  refine lv_iload_n hx hb dX8_leastOf_0 rfl (lv_at hl 1 rfl) ?_
  refine lv_aload_n hx hb dX8_leastOf_1 rfl (lv_at hl 0 rfl) ?_
  refine gf_X8_16 hC hW m_8 rfl dX8_leastOf_2 ?_
  refine lv_iload_n hx hb dX8_leastOf_5 rfl (lv_at hl 2 rfl) ?_
  refine w_iald hC hW m_34 (n := 12) rfl (by first | assumption | exact it_in hM (by assumption) | exact vp_in_c (y := 12) (by decide) (by decide) (by assumption) (by assumption) | (exfalso; contradiction)) dX8_leastOf_6 ?_
  refine lv_icmp_ne (tgt := 30) hx hb dX8_leastOf_7 (by decide) (fun c_1 => ?_) (fun c_1 => ?_)
  · refine lv_aload_n hx hb dX8_leastOf_30 rfl (lv_at hl 0 rfl) ?_
    refine lv_iload_n hx hb dX8_leastOf_31 rfl (lv_at hl 2 rfl) ?_
    refine lv_iconst (v := 0) hx hb dX8_leastOf_32 (by decide) ?_
    refine lv_iload_n hx hb dX8_leastOf_33 rfl (lv_at hl 1 rfl) ?_
    refine w_callV (As := [.int t, .int 0, .int u]) (rest := []) (st2 := .int (f_X8_entryOf t 0 u σ) :: []) hC hW hS hl cv_X8_176 m_8 (by decide) rfl (c_X8_entryOf l hl9 D ca base ad σ t 0 u hM (by first | assumption | exact it_in hM (by assumption))) rfl rfl rfl ⟨Nat.le_of_ble_eq_true rfl, Nat.le_of_ble_eq_true rfl⟩ (Nat.le_of_ble_eq_true rfl) dX8_leastOf_34 ⟨Nat.le_of_ble_eq_true rfl, Nat.le_of_ble_eq_true rfl⟩ (fun H locs hW hS => ?_)
    refine lv_istore (lv' := [(4, .int (f_X8_entryOf t 0 u σ)), (0, .ref (ad 8 0)), (1, .int u), (2, .int t), (3, .int r)]) hx hb dX8_leastOf_37 hl (by decide) rfl (fun ls hl => ?_)
    refine lv_iload hx hb dX8_leastOf_39 (lv_at hl 0 rfl) ?_
    refine lv_iconst (v := (-1)) hx hb dX8_leastOf_41 (by decide) ?_
    refine lv_icmp_eq (tgt := 74) hx hb dX8_leastOf_42 (by decide) (fun c_2 => ?_) (fun c_2 => ?_)
    · refine lv_aload_n hx hb dX8_leastOf_74 rfl (lv_at hl 1 rfl) ?_
      refine lv_iload_n hx hb dX8_leastOf_75 rfl (lv_at hl 2 rfl) ?_
      refine lv_iload_n hx hb dX8_leastOf_76 rfl (lv_at hl 3 rfl) ?_
      refine lv_iload_n hx hb dX8_leastOf_77 rfl (lv_at hl 4 rfl) ?_
      refine w_callV (As := [.int u, .int t, .int r]) (rest := []) (st2 := .int (f_X8_byGroups u t r σ) :: []) hC hW hS hl cv_X8_180 m_8 (by decide) rfl (c_X8_byGroups l hl9 D ca base ad σ u t r hM (by first | assumption | exact it_in hM (by assumption))) rfl rfl rfl ⟨Nat.le_of_ble_eq_true rfl, Nat.le_of_ble_eq_true rfl⟩ (Nat.le_of_ble_eq_true rfl) dX8_leastOf_78 ⟨Nat.le_of_ble_eq_true rfl, Nat.le_of_ble_eq_true rfl⟩ (fun H locs hW hS => ?_)
      refine lv_istore (lv' := [(5, .int (f_X8_byGroups u t r σ)), (4, .int (f_X8_entryOf t 0 u σ)), (0, .ref (ad 8 0)), (1, .int u), (2, .int t), (3, .int r)]) hx hb dX8_leastOf_81 hl (by decide) rfl (fun ls hl => ?_)
      refine lv_iload hx hb dX8_leastOf_83 (lv_at hl 0 rfl) ?_
      refine lv_iconst (v := (-1)) hx hb dX8_leastOf_85 (by decide) ?_
      refine lv_icmp_eq (tgt := 94) hx hb dX8_leastOf_86 (by decide) (fun c_3 => ?_) (fun c_3 => ?_)
      · refine lv_aload_n hx hb dX8_leastOf_94 rfl (lv_at hl 2 rfl) ?_
        refine gf_X8_22 hC hW m_8 rfl dX8_leastOf_95 ?_
        refine lv_iload_n hx hb dX8_leastOf_98 rfl (lv_at hl 4 rfl) ?_
        refine w_iald hC hW m_36 (n := 12) rfl (by first | assumption | exact it_in hM (by assumption) | exact vp_in_c (y := 12) (by decide) (by decide) (by assumption) (by assumption) | (exfalso; contradiction)) dX8_leastOf_99 ?_
        refine lv_iload_n hx hb dX8_leastOf_100 rfl (lv_at hl 5 rfl) ?_
        refine lv_iand hx hb dX8_leastOf_101 ?_
        refine lv_if_eq (tgt := 109) hx hb dX8_leastOf_102 (by decide) (fun c_4 => ?_) (fun c_4 => ?_)
        · refine lv_iconst (v := 0) hx hb dX8_leastOf_109 (by decide) ?_
          have hO : f_X8_leastOf u t r σ = 0 := by rw [f_X8_leastOf, if_neg c_1, if_pos c_2, if_pos c_3, if_pos c_4]
          exact w_iretP hC hW hS hO (Nat.le_of_ble_eq_true rfl) (Nat.le_of_ble_eq_true rfl) dX8_leastOf_110
        · refine lv_iconst (v := 1) hx hb dX8_leastOf_105 (by decide) ?_
          refine lv_goto (tgt := 110) hx hb dX8_leastOf_106 (by decide) ?_
          have hO : f_X8_leastOf u t r σ = 1 := by rw [f_X8_leastOf, if_neg c_1, if_pos c_2, if_pos c_3, if_neg c_4]
          exact w_iretP hC hW hS hO (Nat.le_of_ble_eq_true rfl) (Nat.le_of_ble_eq_true rfl) dX8_leastOf_110
      · refine lv_iload hx hb dX8_leastOf_89 (lv_at hl 0 rfl) ?_
        refine lv_goto (tgt := 110) hx hb dX8_leastOf_91 (by decide) ?_
        have hO : f_X8_leastOf u t r σ = f_X8_byGroups u t r σ := by rw [f_X8_leastOf, if_neg c_1, if_pos c_2, if_neg c_3]
        exact w_iretP hC hW hS hO (Nat.le_of_ble_eq_true rfl) (Nat.le_of_ble_eq_true rfl) dX8_leastOf_110
    · refine lv_aload_n hx hb dX8_leastOf_45 rfl (lv_at hl 1 rfl) ?_
      refine gf_X8_47 hC hW m_8 rfl dX8_leastOf_46 ?_
      refine lv_iconst (v := 5) hx hb dX8_leastOf_49 (by decide) ?_
      refine lv_iload_n hx hb dX8_leastOf_50 rfl (lv_at hl 3 rfl) ?_
      refine lv_imul hx hb dX8_leastOf_51 ?_
      refine lv_iload hx hb dX8_leastOf_52 (lv_at hl 0 rfl) ?_
      refine lv_iadd hx hb dX8_leastOf_54 ?_
      refine w_iald hC hW m_44 (n := 60) rfl (e5_in2 ht (eo_in hM ht (by assumption))) dX8_leastOf_55 ?_
      refine lv_aload_n hx hb dX8_leastOf_56 rfl (lv_at hl 1 rfl) ?_
      refine gf_X8_34 hC hW m_8 rfl dX8_leastOf_57 ?_
      refine lv_iload_n hx hb dX8_leastOf_60 rfl (lv_at hl 3 rfl) ?_
      refine w_iald hC hW m_40 (n := 12) rfl (by first | assumption | exact it_in hM (by assumption) | exact vp_in_c (y := 12) (by decide) (by decide) (by assumption) (by assumption) | (exfalso; contradiction)) dX8_leastOf_61 ?_
      refine lv_iand hx hb dX8_leastOf_62 ?_
      refine lv_iload_n hx hb dX8_leastOf_63 rfl (lv_at hl 4 rfl) ?_
      refine lv_iand hx hb dX8_leastOf_64 ?_
      refine lv_if_eq (tgt := 72) hx hb dX8_leastOf_65 (by decide) (fun c_5 => ?_) (fun c_5 => ?_)
      · refine lv_iconst (v := 0) hx hb dX8_leastOf_72 (by decide) ?_
        have hO : f_X8_leastOf u t r σ = 0 := by rw [f_X8_leastOf, if_neg c_1, if_neg c_2, if_pos c_5]
        exact w_iretP hC hW hS hO (Nat.le_of_ble_eq_true rfl) (Nat.le_of_ble_eq_true rfl) dX8_leastOf_73
      · refine lv_iconst (v := 1) hx hb dX8_leastOf_68 (by decide) ?_
        refine lv_goto (tgt := 73) hx hb dX8_leastOf_69 (by decide) ?_
        have hO : f_X8_leastOf u t r σ = 1 := by rw [f_X8_leastOf, if_neg c_1, if_neg c_2, if_neg c_5]
        exact w_iretP hC hW hS hO (Nat.le_of_ble_eq_true rfl) (Nat.le_of_ble_eq_true rfl) dX8_leastOf_73
  · refine lv_aload_n hx hb dX8_leastOf_10 rfl (lv_at hl 0 rfl) ?_
    refine gf_X8_22 hC hW m_8 rfl dX8_leastOf_11 ?_
    refine lv_iload_n hx hb dX8_leastOf_14 rfl (lv_at hl 2 rfl) ?_
    refine w_iald hC hW m_36 (n := 12) rfl (by first | assumption | exact it_in hM (by assumption) | exact vp_in_c (y := 12) (by decide) (by decide) (by assumption) (by assumption) | (exfalso; contradiction)) dX8_leastOf_15 ?_
    refine lv_bipush (v := 6) hx hb dX8_leastOf_16 (by decide) ?_
    refine lv_ishr hx hb dX8_leastOf_18 ?_
    refine lv_iload_n hx hb dX8_leastOf_19 rfl (lv_at hl 3 rfl) ?_
    refine lv_iand hx hb dX8_leastOf_20 ?_
    refine lv_if_eq (tgt := 28) hx hb dX8_leastOf_21 (by decide) (fun c_6 => ?_) (fun c_6 => ?_)
    · refine lv_iconst (v := 0) hx hb dX8_leastOf_28 (by decide) ?_
      have hO : f_X8_leastOf u t r σ = 0 := by rw [f_X8_leastOf, if_pos c_1, if_pos c_6]
      exact w_iretP hC hW hS hO (Nat.le_of_ble_eq_true rfl) (Nat.le_of_ble_eq_true rfl) dX8_leastOf_29
    · refine lv_iconst (v := 1) hx hb dX8_leastOf_24 (by decide) ?_
      refine lv_goto (tgt := 29) hx hb dX8_leastOf_25 (by decide) ?_
      have hO : f_X8_leastOf u t r σ = 1 := by rw [f_X8_leastOf, if_pos c_1, if_neg c_6]
      exact w_iretP hC hW hS hO (Nat.le_of_ble_eq_true rfl) (Nat.le_of_ble_eq_true rfl) dX8_leastOf_29

def f_X8_verdictOf_J142 (u : Int32) (d : Int32) (k : Int32) (f : Int32) (t : Int32) (r : Int32) (v8 : Int32) (v9 : Int32) (σ : Sg) : Int32 :=
  if r = 2 then (if v9 = 0 then 2
    else if ((σ 46 0 ((((4 : Int32) * d) + (σ 37 0 t.toNatClampNeg)).toNatClampNeg)) &&& r) = 0 then 3
    else if ((σ 56 0 k.toNatClampNeg) &&& r) = 0 then 4
    else 0)
  else if v8 = 0 then 2
  else if ((σ 46 0 ((((4 : Int32) * d) + (σ 37 0 t.toNatClampNeg)).toNatClampNeg)) &&& r) = 0 then 3
  else if ((σ 56 0 k.toNatClampNeg) &&& r) = 0 then 4
  else 0
def f_X8_verdictOf_J100 (u : Int32) (d : Int32) (k : Int32) (f : Int32) (t : Int32) (r : Int32) (v8 : Int32) (σ : Sg) : Int32 :=
  if (σ 38 0 t.toNatClampNeg) < (σ 51 0 k.toNatClampNeg) then f_X8_verdictOf_J142 u d k f t r v8 0 σ
  else if ((σ 52 0 k.toNatClampNeg) &&& ((σ 39 0 t.toNatClampNeg) ^^^ (-1 : Int32))) = 0 then f_X8_verdictOf_J142 u d k f t r v8 1 σ
  else f_X8_verdictOf_J142 u d k f t r v8 0 σ
def f_X8_verdictOf_J51 (u : Int32) (d : Int32) (k : Int32) (f : Int32) (t : Int32) (r : Int32) (v7 : Int32) (σ : Sg) : Int32 :=
  if v7 = 0 then 1
  else if (σ 51 0 k.toNatClampNeg) < (σ 38 0 t.toNatClampNeg) then f_X8_verdictOf_J100 u d k f t r 0 σ
  else if ((σ 39 0 t.toNatClampNeg) &&& ((σ 52 0 k.toNatClampNeg) ^^^ (-1 : Int32))) = 0 then f_X8_verdictOf_J100 u d k f t r 1 σ
  else f_X8_verdictOf_J100 u d k f t r 0 σ
def f_X8_verdictOf (u : Int32) (d : Int32) (k : Int32) (f : Int32) (t : Int32) (r : Int32) (σ : Sg) : Int32 :=
  if (f_X8_hasBit f 0) = 0 then (if (f_X8_leastOf u t r σ) ≤ 0 then f_X8_verdictOf_J51 u d k f t r 0 σ
    else f_X8_verdictOf_J51 u d k f t r 1 σ)
  else if r = 4 then (if (f_X8_canRunAtAll t σ) = 0 then f_X8_verdictOf_J51 u d k f t r 0 σ
    else f_X8_verdictOf_J51 u d k f t r 1 σ)
  else f_X8_verdictOf_J51 u d k f t r 1 σ
set_option maxHeartbeats 4000000 in
set_option maxRecDepth 100000 in
theorem c_X8_verdictOf (l : Launch) (hl9 : l.stackTraces = false) (D : va_G) (ca : Nat → ClassId) (base : Nat) (ad : Adr) (σ : Sg) (u : Int32) (d : Int32) (k : Int32) (f : Int32) (t : Int32) (r : Int32) (hM : MInv σ) (ht : vp_in t 12) (hk : vp_in k 8) (hd : vp_in d 4) : Mt l yX8_verdictOf cX8_verdictOf 10 (some .int) { frames := 5, cells := 0, slots := 0, locals := 120 } D ca base ad ρm Lm [.ref (ad 8 0), .int u, .int d, .int k, .int f, .int t, .int r] σ (some (.int (f_X8_verdictOf u d k f t r σ))) σ := by
  refine w_ofW (by decide) (Nat.le_of_ble_eq_true rfl) rfl ?_
  intro p e s m args below meth c hC hW hS ls hl hin
  have hx := hC.1
  have hb := hC.2.1
  have j_51 : ∀ (v7 : Int32) (H : Heap) (locs : List Loc) (ls : Array Slot), Wd D ca (Ab base) ad ρm Lm σ H → va_S (Ab base) s.heap H locs → lv_has ls 10 [(7, .int v7), (0, .ref (ad 8 0)), (2, .int d), (3, .int k), (5, .int t), (6, .int r)] → f_X8_verdictOf u d k f t r σ = (f_X8_verdictOf_J51 u d k f t r v7 σ) → W p l e ({ frames := 5, cells := 0, slots := 0, locals := 120 } : Room) s m args below meth c H locs 0 0 (MQ below (Rt D ca base ad ρm Lm σ (some (.int (f_X8_verdictOf u d k f t r σ)))) args s 0 0 (Ab base)) (F0 m 51 ls []) := by
    intro v7 H locs ls  hW hS hl hO
    refine lv_iload hx hb dX8_verdictOf_51 (lv_at hl 0 rfl) ?_
    refine lv_if_ne (tgt := 58) hx hb dX8_verdictOf_53 (by decide) (fun c_1 => ?_) (fun c_1 => ?_)
    · have j_100 : ∀ (v8 : Int32) (H : Heap) (locs : List Loc) (ls : Array Slot), Wd D ca (Ab base) ad ρm Lm σ H → va_S (Ab base) s.heap H locs → lv_has ls 10 [(8, .int v8), (0, .ref (ad 8 0)), (2, .int d), (3, .int k), (5, .int t), (6, .int r)] → f_X8_verdictOf u d k f t r σ = (f_X8_verdictOf_J100 u d k f t r v8 σ) → W p l e ({ frames := 5, cells := 0, slots := 0, locals := 120 } : Room) s m args below meth c H locs 0 0 (MQ below (Rt D ca base ad ρm Lm σ (some (.int (f_X8_verdictOf u d k f t r σ)))) args s 0 0 (Ab base)) (F0 m 100 ls []) := by
        intro v8 H locs ls  hW hS hl hO
        have j_142 : ∀ (v9 : Int32) (H : Heap) (locs : List Loc) (ls : Array Slot), Wd D ca (Ab base) ad ρm Lm σ H → va_S (Ab base) s.heap H locs → lv_has ls 10 [(9, .int v9), (8, .int v8), (0, .ref (ad 8 0)), (2, .int d), (3, .int k), (5, .int t), (6, .int r)] → f_X8_verdictOf u d k f t r σ = (f_X8_verdictOf_J142 u d k f t r v8 v9 σ) → W p l e ({ frames := 5, cells := 0, slots := 0, locals := 120 } : Room) s m args below meth c H locs 0 0 (MQ below (Rt D ca base ad ρm Lm σ (some (.int (f_X8_verdictOf u d k f t r σ)))) args s 0 0 (Ab base)) (F0 m 142 ls []) := by
          intro v9 H locs ls  hW hS hl hO
          refine lv_iload hx hb dX8_verdictOf_142 (lv_at hl 6 rfl) ?_
          refine lv_iconst (v := 2) hx hb dX8_verdictOf_144 (by decide) ?_
          refine lv_icmp_ne (tgt := 156) hx hb dX8_verdictOf_145 (by decide) (fun c_2 => ?_) (fun c_2 => ?_)
          · refine lv_iload hx hb dX8_verdictOf_156 (lv_at hl 1 rfl) ?_
            refine lv_if_ne (tgt := 163) hx hb dX8_verdictOf_158 (by decide) (fun c_3 => ?_) (fun c_3 => ?_)
            · refine lv_aload_n hx hb dX8_verdictOf_163 rfl (lv_at hl 2 rfl) ?_
              refine gf_X8_53 hC hW m_8 rfl dX8_verdictOf_164 ?_
              refine lv_iconst (v := 4) hx hb dX8_verdictOf_167 (by decide) ?_
              refine lv_iload_n hx hb dX8_verdictOf_168 rfl (lv_at hl 3 rfl) ?_
              refine lv_imul hx hb dX8_verdictOf_169 ?_
              refine lv_aload_n hx hb dX8_verdictOf_170 rfl (lv_at hl 2 rfl) ?_
              refine gf_X8_25 hC hW m_8 rfl dX8_verdictOf_171 ?_
              refine lv_iload hx hb dX8_verdictOf_174 (lv_at hl 5 rfl) ?_
              refine w_iald hC hW m_37 (n := 12) rfl (by first | assumption | exact it_in hM (by assumption) | exact vp_in_c (y := 12) (by decide) (by decide) (by assumption) (by assumption) | (exfalso; contradiction)) dX8_verdictOf_176 ?_
              refine lv_iadd hx hb dX8_verdictOf_177 ?_
              refine w_iald hC hW m_46 (n := 16) rfl (r4_in hd (ty_in hM ht)) dX8_verdictOf_178 ?_
              refine lv_iload hx hb dX8_verdictOf_179 (lv_at hl 6 rfl) ?_
              refine lv_iand hx hb dX8_verdictOf_181 ?_
              refine lv_if_ne (tgt := 187) hx hb dX8_verdictOf_182 (by decide) (fun c_4 => ?_) (fun c_4 => ?_)
              · refine lv_aload_n hx hb dX8_verdictOf_187 rfl (lv_at hl 2 rfl) ?_
                refine gf_X8_80 hC hW m_8 rfl dX8_verdictOf_188 ?_
                refine lv_iload_n hx hb dX8_verdictOf_191 rfl (lv_at hl 4 rfl) ?_
                refine w_iald hC hW m_56 (n := 8) rfl (by first | assumption | exact ip_in hM (by assumption) | exact vp_in_c (y := 8) (by decide) (by decide) (by assumption) (by assumption) | (exfalso; contradiction)) dX8_verdictOf_192 ?_
                refine lv_iload hx hb dX8_verdictOf_193 (lv_at hl 6 rfl) ?_
                refine lv_iand hx hb dX8_verdictOf_195 ?_
                refine lv_if_ne (tgt := 203) hx hb dX8_verdictOf_196 (by decide) (fun c_5 => ?_) (fun c_5 => ?_)
                · refine lv_iconst (v := 0) hx hb dX8_verdictOf_203 (by decide) ?_
                  have hO : f_X8_verdictOf u d k f t r σ = 0 := by rw [hO, f_X8_verdictOf_J142, if_neg c_2, if_neg c_3, if_neg c_4, if_neg c_5]
                  exact w_iretP hC hW hS hO (Nat.le_of_ble_eq_true rfl) (Nat.le_of_ble_eq_true rfl) dX8_verdictOf_204
                · refine lv_iconst (v := 4) hx hb dX8_verdictOf_199 (by decide) ?_
                  refine lv_goto (tgt := 204) hx hb dX8_verdictOf_200 (by decide) ?_
                  have hO : f_X8_verdictOf u d k f t r σ = 4 := by rw [hO, f_X8_verdictOf_J142, if_neg c_2, if_neg c_3, if_neg c_4, if_pos c_5]
                  exact w_iretP hC hW hS hO (Nat.le_of_ble_eq_true rfl) (Nat.le_of_ble_eq_true rfl) dX8_verdictOf_204
              · refine lv_iconst (v := 3) hx hb dX8_verdictOf_185 (by decide) ?_
                have hO : f_X8_verdictOf u d k f t r σ = 3 := by rw [hO, f_X8_verdictOf_J142, if_neg c_2, if_neg c_3, if_pos c_4]
                exact w_iretP hC hW hS hO (Nat.le_of_ble_eq_true rfl) (Nat.le_of_ble_eq_true rfl) dX8_verdictOf_186
            · refine lv_iconst (v := 2) hx hb dX8_verdictOf_161 (by decide) ?_
              have hO : f_X8_verdictOf u d k f t r σ = 2 := by rw [hO, f_X8_verdictOf_J142, if_neg c_2, if_pos c_3]
              exact w_iretP hC hW hS hO (Nat.le_of_ble_eq_true rfl) (Nat.le_of_ble_eq_true rfl) dX8_verdictOf_162
          · refine lv_iload hx hb dX8_verdictOf_148 (lv_at hl 0 rfl) ?_
            refine lv_if_ne (tgt := 163) hx hb dX8_verdictOf_150 (by decide) (fun c_6 => ?_) (fun c_6 => ?_)
            · refine lv_aload_n hx hb dX8_verdictOf_163 rfl (lv_at hl 2 rfl) ?_
              refine gf_X8_53 hC hW m_8 rfl dX8_verdictOf_164 ?_
              refine lv_iconst (v := 4) hx hb dX8_verdictOf_167 (by decide) ?_
              refine lv_iload_n hx hb dX8_verdictOf_168 rfl (lv_at hl 3 rfl) ?_
              refine lv_imul hx hb dX8_verdictOf_169 ?_
              refine lv_aload_n hx hb dX8_verdictOf_170 rfl (lv_at hl 2 rfl) ?_
              refine gf_X8_25 hC hW m_8 rfl dX8_verdictOf_171 ?_
              refine lv_iload hx hb dX8_verdictOf_174 (lv_at hl 5 rfl) ?_
              refine w_iald hC hW m_37 (n := 12) rfl (by first | assumption | exact it_in hM (by assumption) | exact vp_in_c (y := 12) (by decide) (by decide) (by assumption) (by assumption) | (exfalso; contradiction)) dX8_verdictOf_176 ?_
              refine lv_iadd hx hb dX8_verdictOf_177 ?_
              refine w_iald hC hW m_46 (n := 16) rfl (r4_in hd (ty_in hM ht)) dX8_verdictOf_178 ?_
              refine lv_iload hx hb dX8_verdictOf_179 (lv_at hl 6 rfl) ?_
              refine lv_iand hx hb dX8_verdictOf_181 ?_
              refine lv_if_ne (tgt := 187) hx hb dX8_verdictOf_182 (by decide) (fun c_7 => ?_) (fun c_7 => ?_)
              · refine lv_aload_n hx hb dX8_verdictOf_187 rfl (lv_at hl 2 rfl) ?_
                refine gf_X8_80 hC hW m_8 rfl dX8_verdictOf_188 ?_
                refine lv_iload_n hx hb dX8_verdictOf_191 rfl (lv_at hl 4 rfl) ?_
                refine w_iald hC hW m_56 (n := 8) rfl (by first | assumption | exact ip_in hM (by assumption) | exact vp_in_c (y := 8) (by decide) (by decide) (by assumption) (by assumption) | (exfalso; contradiction)) dX8_verdictOf_192 ?_
                refine lv_iload hx hb dX8_verdictOf_193 (lv_at hl 6 rfl) ?_
                refine lv_iand hx hb dX8_verdictOf_195 ?_
                refine lv_if_ne (tgt := 203) hx hb dX8_verdictOf_196 (by decide) (fun c_8 => ?_) (fun c_8 => ?_)
                · refine lv_iconst (v := 0) hx hb dX8_verdictOf_203 (by decide) ?_
                  have hO : f_X8_verdictOf u d k f t r σ = 0 := by rw [hO, f_X8_verdictOf_J142, if_pos c_2, if_neg c_6, if_neg c_7, if_neg c_8]
                  exact w_iretP hC hW hS hO (Nat.le_of_ble_eq_true rfl) (Nat.le_of_ble_eq_true rfl) dX8_verdictOf_204
                · refine lv_iconst (v := 4) hx hb dX8_verdictOf_199 (by decide) ?_
                  refine lv_goto (tgt := 204) hx hb dX8_verdictOf_200 (by decide) ?_
                  have hO : f_X8_verdictOf u d k f t r σ = 4 := by rw [hO, f_X8_verdictOf_J142, if_pos c_2, if_neg c_6, if_neg c_7, if_pos c_8]
                  exact w_iretP hC hW hS hO (Nat.le_of_ble_eq_true rfl) (Nat.le_of_ble_eq_true rfl) dX8_verdictOf_204
              · refine lv_iconst (v := 3) hx hb dX8_verdictOf_185 (by decide) ?_
                have hO : f_X8_verdictOf u d k f t r σ = 3 := by rw [hO, f_X8_verdictOf_J142, if_pos c_2, if_neg c_6, if_pos c_7]
                exact w_iretP hC hW hS hO (Nat.le_of_ble_eq_true rfl) (Nat.le_of_ble_eq_true rfl) dX8_verdictOf_186
            · refine lv_goto (tgt := 161) hx hb dX8_verdictOf_153 (by decide) ?_
              refine lv_iconst (v := 2) hx hb dX8_verdictOf_161 (by decide) ?_
              have hO : f_X8_verdictOf u d k f t r σ = 2 := by rw [hO, f_X8_verdictOf_J142, if_pos c_2, if_pos c_6]
              exact w_iretP hC hW hS hO (Nat.le_of_ble_eq_true rfl) (Nat.le_of_ble_eq_true rfl) dX8_verdictOf_162
        refine lv_aload_n hx hb dX8_verdictOf_100 rfl (lv_at hl 1 rfl) ?_
        refine gf_X8_65 hC hW m_8 rfl dX8_verdictOf_101 ?_
        refine lv_iload_n hx hb dX8_verdictOf_104 rfl (lv_at hl 3 rfl) ?_
        refine w_iald hC hW m_51 (n := 8) rfl (by first | assumption | exact ip_in hM (by assumption) | exact vp_in_c (y := 8) (by decide) (by decide) (by assumption) (by assumption) | (exfalso; contradiction)) dX8_verdictOf_105 ?_
        refine lv_aload_n hx hb dX8_verdictOf_106 rfl (lv_at hl 1 rfl) ?_
        refine gf_X8_28 hC hW m_8 rfl dX8_verdictOf_107 ?_
        refine lv_iload hx hb dX8_verdictOf_110 (lv_at hl 4 rfl) ?_
        refine w_iald hC hW m_38 (n := 12) rfl (by first | assumption | exact it_in hM (by assumption) | exact vp_in_c (y := 12) (by decide) (by decide) (by assumption) (by assumption) | (exfalso; contradiction)) dX8_verdictOf_112 ?_
        refine lv_icmp_gt (tgt := 139) hx hb dX8_verdictOf_113 (by decide) (fun c_9 => ?_) (fun c_9 => ?_)
        · refine lv_iconst (v := 0) hx hb dX8_verdictOf_139 (by decide) ?_
          refine lv_istore (lv' := [(9, .int 0), (8, .int v8), (0, .ref (ad 8 0)), (2, .int d), (3, .int k), (5, .int t), (6, .int r)]) hx hb dX8_verdictOf_140 hl (by decide) rfl (fun ls hl => ?_)
          refine j_142 0 _ _ _  hW hS (lv_sub hl [0, 1, 2, 3, 4, 5, 6] rfl) ?_
          rw [hO, f_X8_verdictOf_J100, if_pos c_9]
        · refine lv_aload_n hx hb dX8_verdictOf_116 rfl (lv_at hl 1 rfl) ?_
          refine gf_X8_68 hC hW m_8 rfl dX8_verdictOf_117 ?_
          refine lv_iload_n hx hb dX8_verdictOf_120 rfl (lv_at hl 3 rfl) ?_
          refine w_iald hC hW m_52 (n := 8) rfl (by first | assumption | exact ip_in hM (by assumption) | exact vp_in_c (y := 8) (by decide) (by decide) (by assumption) (by assumption) | (exfalso; contradiction)) dX8_verdictOf_121 ?_
          refine lv_aload_n hx hb dX8_verdictOf_122 rfl (lv_at hl 1 rfl) ?_
          refine gf_X8_31 hC hW m_8 rfl dX8_verdictOf_123 ?_
          refine lv_iload hx hb dX8_verdictOf_126 (lv_at hl 4 rfl) ?_
          refine w_iald hC hW m_39 (n := 12) rfl (by first | assumption | exact it_in hM (by assumption) | exact vp_in_c (y := 12) (by decide) (by decide) (by assumption) (by assumption) | (exfalso; contradiction)) dX8_verdictOf_128 ?_
          refine lv_iconst (v := (-1)) hx hb dX8_verdictOf_129 (by decide) ?_
          refine lv_ixor hx hb dX8_verdictOf_130 ?_
          refine lv_iand hx hb dX8_verdictOf_131 ?_
          refine lv_if_ne (tgt := 139) hx hb dX8_verdictOf_132 (by decide) (fun c_10 => ?_) (fun c_10 => ?_)
          · refine lv_iconst (v := 0) hx hb dX8_verdictOf_139 (by decide) ?_
            refine lv_istore (lv' := [(9, .int 0), (8, .int v8), (0, .ref (ad 8 0)), (2, .int d), (3, .int k), (5, .int t), (6, .int r)]) hx hb dX8_verdictOf_140 hl (by decide) rfl (fun ls hl => ?_)
            refine j_142 0 _ _ _  hW hS (lv_sub hl [0, 1, 2, 3, 4, 5, 6] rfl) ?_
            rw [hO, f_X8_verdictOf_J100, if_neg c_9, if_neg c_10]
          · refine lv_iconst (v := 1) hx hb dX8_verdictOf_135 (by decide) ?_
            refine lv_goto (tgt := 140) hx hb dX8_verdictOf_136 (by decide) ?_
            refine lv_istore (lv' := [(9, .int 1), (8, .int v8), (0, .ref (ad 8 0)), (2, .int d), (3, .int k), (5, .int t), (6, .int r)]) hx hb dX8_verdictOf_140 hl (by decide) rfl (fun ls hl => ?_)
            refine j_142 1 _ _ _  hW hS (lv_sub hl [0, 1, 2, 3, 4, 5, 6] rfl) ?_
            rw [hO, f_X8_verdictOf_J100, if_neg c_9, if_pos c_10]
      refine lv_aload_n hx hb dX8_verdictOf_58 rfl (lv_at hl 1 rfl) ?_
      refine gf_X8_65 hC hW m_8 rfl dX8_verdictOf_59 ?_
      refine lv_iload_n hx hb dX8_verdictOf_62 rfl (lv_at hl 3 rfl) ?_
      refine w_iald hC hW m_51 (n := 8) rfl (by first | assumption | exact ip_in hM (by assumption) | exact vp_in_c (y := 8) (by decide) (by decide) (by assumption) (by assumption) | (exfalso; contradiction)) dX8_verdictOf_63 ?_
      refine lv_aload_n hx hb dX8_verdictOf_64 rfl (lv_at hl 1 rfl) ?_
      refine gf_X8_28 hC hW m_8 rfl dX8_verdictOf_65 ?_
      refine lv_iload hx hb dX8_verdictOf_68 (lv_at hl 4 rfl) ?_
      refine w_iald hC hW m_38 (n := 12) rfl (by first | assumption | exact it_in hM (by assumption) | exact vp_in_c (y := 12) (by decide) (by decide) (by assumption) (by assumption) | (exfalso; contradiction)) dX8_verdictOf_70 ?_
      refine lv_icmp_lt (tgt := 97) hx hb dX8_verdictOf_71 (by decide) (fun c_11 => ?_) (fun c_11 => ?_)
      · refine lv_iconst (v := 0) hx hb dX8_verdictOf_97 (by decide) ?_
        refine lv_istore (lv' := [(8, .int 0), (7, .int v7), (0, .ref (ad 8 0)), (2, .int d), (3, .int k), (5, .int t), (6, .int r)]) hx hb dX8_verdictOf_98 hl (by decide) rfl (fun ls hl => ?_)
        refine j_100 0 _ _ _  hW hS (lv_sub hl [0, 2, 3, 4, 5, 6] rfl) ?_
        rw [hO, f_X8_verdictOf_J51, if_neg c_1, if_pos c_11]
      · refine lv_aload_n hx hb dX8_verdictOf_74 rfl (lv_at hl 1 rfl) ?_
        refine gf_X8_31 hC hW m_8 rfl dX8_verdictOf_75 ?_
        refine lv_iload hx hb dX8_verdictOf_78 (lv_at hl 4 rfl) ?_
        refine w_iald hC hW m_39 (n := 12) rfl (by first | assumption | exact it_in hM (by assumption) | exact vp_in_c (y := 12) (by decide) (by decide) (by assumption) (by assumption) | (exfalso; contradiction)) dX8_verdictOf_80 ?_
        refine lv_aload_n hx hb dX8_verdictOf_81 rfl (lv_at hl 1 rfl) ?_
        refine gf_X8_68 hC hW m_8 rfl dX8_verdictOf_82 ?_
        refine lv_iload_n hx hb dX8_verdictOf_85 rfl (lv_at hl 3 rfl) ?_
        refine w_iald hC hW m_52 (n := 8) rfl (by first | assumption | exact ip_in hM (by assumption) | exact vp_in_c (y := 8) (by decide) (by decide) (by assumption) (by assumption) | (exfalso; contradiction)) dX8_verdictOf_86 ?_
        refine lv_iconst (v := (-1)) hx hb dX8_verdictOf_87 (by decide) ?_
        refine lv_ixor hx hb dX8_verdictOf_88 ?_
        refine lv_iand hx hb dX8_verdictOf_89 ?_
        refine lv_if_ne (tgt := 97) hx hb dX8_verdictOf_90 (by decide) (fun c_12 => ?_) (fun c_12 => ?_)
        · refine lv_iconst (v := 0) hx hb dX8_verdictOf_97 (by decide) ?_
          refine lv_istore (lv' := [(8, .int 0), (7, .int v7), (0, .ref (ad 8 0)), (2, .int d), (3, .int k), (5, .int t), (6, .int r)]) hx hb dX8_verdictOf_98 hl (by decide) rfl (fun ls hl => ?_)
          refine j_100 0 _ _ _  hW hS (lv_sub hl [0, 2, 3, 4, 5, 6] rfl) ?_
          rw [hO, f_X8_verdictOf_J51, if_neg c_1, if_neg c_11, if_neg c_12]
        · refine lv_iconst (v := 1) hx hb dX8_verdictOf_93 (by decide) ?_
          refine lv_goto (tgt := 98) hx hb dX8_verdictOf_94 (by decide) ?_
          refine lv_istore (lv' := [(8, .int 1), (7, .int v7), (0, .ref (ad 8 0)), (2, .int d), (3, .int k), (5, .int t), (6, .int r)]) hx hb dX8_verdictOf_98 hl (by decide) rfl (fun ls hl => ?_)
          refine j_100 1 _ _ _  hW hS (lv_sub hl [0, 2, 3, 4, 5, 6] rfl) ?_
          rw [hO, f_X8_verdictOf_J51, if_neg c_1, if_neg c_11, if_pos c_12]
    · refine lv_iconst (v := 1) hx hb dX8_verdictOf_56 (by decide) ?_
      have hO : f_X8_verdictOf u d k f t r σ = 1 := by rw [hO, f_X8_verdictOf_J51, if_pos c_1]
      exact w_iretP hC hW hS hO (Nat.le_of_ble_eq_true rfl) (Nat.le_of_ble_eq_true rfl) dX8_verdictOf_57
  refine lv_iload hx hb dX8_verdictOf_0 (lv_at hl 4 rfl) ?_
  refine lv_iconst (v := 0) hx hb dX8_verdictOf_2 (by decide) ?_
  refine w_callS (As := [.int f, .int 0]) (rest := []) (st2 := .int (f_X8_hasBit f 0) :: []) hC hW hS hl cs_X8_142 (c_X8_hasBit l hl9 D ca base ad σ f 0 ) rfl rfl rfl ⟨Nat.le_of_ble_eq_true rfl, Nat.le_of_ble_eq_true rfl⟩ (Nat.le_of_ble_eq_true rfl) dX8_verdictOf_3 ⟨Nat.le_of_ble_eq_true rfl, Nat.le_of_ble_eq_true rfl⟩ (fun H locs hW hS => ?_)
  refine lv_if_eq (tgt := 32) hx hb dX8_verdictOf_6 (by decide) (fun c_13 => ?_) (fun c_13 => ?_)
  · refine lv_aload_n hx hb dX8_verdictOf_32 rfl (lv_at hl 0 rfl) ?_
    refine lv_iload_n hx hb dX8_verdictOf_33 rfl (lv_at hl 1 rfl) ?_
    refine lv_iload hx hb dX8_verdictOf_34 (lv_at hl 5 rfl) ?_
    refine lv_iload hx hb dX8_verdictOf_36 (lv_at hl 6 rfl) ?_
    refine w_callV (As := [.int u, .int t, .int r]) (rest := []) (st2 := .int (f_X8_leastOf u t r σ) :: []) hC hW hS hl cv_X8_187 m_8 (by decide) rfl (c_X8_leastOf l hl9 D ca base ad σ u t r hM (by first | assumption | exact it_in hM (by assumption))) rfl rfl rfl ⟨Nat.le_of_ble_eq_true rfl, Nat.le_of_ble_eq_true rfl⟩ (Nat.le_of_ble_eq_true rfl) dX8_verdictOf_38 ⟨Nat.le_of_ble_eq_true rfl, Nat.le_of_ble_eq_true rfl⟩ (fun H locs hW hS => ?_)
    refine lv_if_le (tgt := 48) hx hb dX8_verdictOf_41 (by decide) (fun c_14 => ?_) (fun c_14 => ?_)
    · refine lv_iconst (v := 0) hx hb dX8_verdictOf_48 (by decide) ?_
      refine lv_istore (lv' := [(7, .int 0), (0, .ref (ad 8 0)), (1, .int u), (2, .int d), (3, .int k), (4, .int f), (5, .int t), (6, .int r)]) hx hb dX8_verdictOf_49 hl (by decide) rfl (fun ls hl => ?_)
      refine j_51 0 _ _ _  hW hS (lv_sub hl [0, 1, 3, 4, 6, 7] rfl) ?_
      rw [f_X8_verdictOf, if_pos c_13, if_pos c_14]
    · refine lv_iconst (v := 1) hx hb dX8_verdictOf_44 (by decide) ?_
      refine lv_goto (tgt := 49) hx hb dX8_verdictOf_45 (by decide) ?_
      refine lv_istore (lv' := [(7, .int 1), (0, .ref (ad 8 0)), (1, .int u), (2, .int d), (3, .int k), (4, .int f), (5, .int t), (6, .int r)]) hx hb dX8_verdictOf_49 hl (by decide) rfl (fun ls hl => ?_)
      refine j_51 1 _ _ _  hW hS (lv_sub hl [0, 1, 3, 4, 6, 7] rfl) ?_
      rw [f_X8_verdictOf, if_pos c_13, if_neg c_14]
  · refine lv_iload hx hb dX8_verdictOf_9 (lv_at hl 6 rfl) ?_
    refine lv_iconst (v := 4) hx hb dX8_verdictOf_11 (by decide) ?_
    refine lv_icmp_ne (tgt := 24) hx hb dX8_verdictOf_12 (by decide) (fun c_15 => ?_) (fun c_15 => ?_)
    · refine lv_iconst (v := 1) hx hb dX8_verdictOf_24 (by decide) ?_
      refine lv_goto (tgt := 49) hx hb dX8_verdictOf_25 (by decide) ?_
      refine lv_istore (lv' := [(7, .int 1), (0, .ref (ad 8 0)), (1, .int u), (2, .int d), (3, .int k), (4, .int f), (5, .int t), (6, .int r)]) hx hb dX8_verdictOf_49 hl (by decide) rfl (fun ls hl => ?_)
      refine j_51 1 _ _ _  hW hS (lv_sub hl [0, 1, 3, 4, 6, 7] rfl) ?_
      rw [f_X8_verdictOf, if_neg c_13, if_neg c_15]
    · refine lv_aload_n hx hb dX8_verdictOf_15 rfl (lv_at hl 0 rfl) ?_
      refine lv_iload hx hb dX8_verdictOf_16 (lv_at hl 5 rfl) ?_
      refine w_callV (As := [.int t]) (rest := []) (st2 := .int (f_X8_canRunAtAll t σ) :: []) hC hW hS hl cv_X8_184 m_8 (by decide) rfl (c_X8_canRunAtAll l hl9 D ca base ad σ t hM (by first | assumption | exact it_in hM (by assumption))) rfl rfl rfl ⟨Nat.le_of_ble_eq_true rfl, Nat.le_of_ble_eq_true rfl⟩ (Nat.le_of_ble_eq_true rfl) dX8_verdictOf_18 ⟨Nat.le_of_ble_eq_true rfl, Nat.le_of_ble_eq_true rfl⟩ (fun H locs hW hS => ?_)
      refine lv_if_eq (tgt := 28) hx hb dX8_verdictOf_21 (by decide) (fun c_16 => ?_) (fun c_16 => ?_)
      · refine lv_iconst (v := 0) hx hb dX8_verdictOf_28 (by decide) ?_
        refine lv_goto (tgt := 49) hx hb dX8_verdictOf_29 (by decide) ?_
        refine lv_istore (lv' := [(7, .int 0), (0, .ref (ad 8 0)), (1, .int u), (2, .int d), (3, .int k), (4, .int f), (5, .int t), (6, .int r)]) hx hb dX8_verdictOf_49 hl (by decide) rfl (fun ls hl => ?_)
        refine j_51 0 _ _ _  hW hS (lv_sub hl [0, 1, 3, 4, 6, 7] rfl) ?_
        rw [f_X8_verdictOf, if_neg c_13, if_pos c_15, if_pos c_16]
      · refine lv_iconst (v := 1) hx hb dX8_verdictOf_24 (by decide) ?_
        refine lv_goto (tgt := 49) hx hb dX8_verdictOf_25 (by decide) ?_
        refine lv_istore (lv' := [(7, .int 1), (0, .ref (ad 8 0)), (1, .int u), (2, .int d), (3, .int k), (4, .int f), (5, .int t), (6, .int r)]) hx hb dX8_verdictOf_49 hl (by decide) rfl (fun ls hl => ?_)
        refine j_51 1 _ _ _  hW hS (lv_sub hl [0, 1, 3, 4, 6, 7] rfl) ?_
        rw [f_X8_verdictOf, if_neg c_13, if_pos c_15, if_neg c_16]

def f_X8_verdictNow (k : Int32) (t : Int32) (r : Int32) (σ : Sg) : Int32 :=
  f_X8_verdictOf (σ 49 0 k.toNatClampNeg) (σ 50 0 k.toNatClampNeg) k (σ 53 0 k.toNatClampNeg) t r σ
set_option maxHeartbeats 4000000 in
set_option maxRecDepth 100000 in
theorem c_X8_verdictNow (l : Launch) (hl9 : l.stackTraces = false) (D : va_G) (ca : Nat → ClassId) (base : Nat) (ad : Adr) (σ : Sg) (k : Int32) (t : Int32) (r : Int32) (hM : MInv σ) (ht : vp_in t 12) (hk : vp_in k 8) : Mt l yX8_verdictNow cX8_verdictNow 4 (some .int) { frames := 6, cells := 0, slots := 0, locals := 149 } D ca base ad ρm Lm [.ref (ad 8 0), .int k, .int t, .int r] σ (some (.int (f_X8_verdictNow k t r σ))) σ := by
  refine w_ofW (by decide) (Nat.le_of_ble_eq_true rfl) rfl ?_
  intro p e s m args below meth c hC hW hS ls hl hin
  have hx := hC.1
  have hb := hC.2.1
  refine lv_aload_n hx hb dX8_verdictNow_0 rfl (lv_at hl 0 rfl) ?_
  refine lv_aload_n hx hb dX8_verdictNow_1 rfl (lv_at hl 0 rfl) ?_
  refine gf_X8_59 hC hW m_8 rfl dX8_verdictNow_2 ?_
  refine lv_iload_n hx hb dX8_verdictNow_5 rfl (lv_at hl 1 rfl) ?_
  refine w_iald hC hW m_49 (n := 8) rfl (by first | assumption | exact ip_in hM (by assumption) | exact vp_in_c (y := 8) (by decide) (by decide) (by assumption) (by assumption) | (exfalso; contradiction)) dX8_verdictNow_6 ?_
  refine lv_aload_n hx hb dX8_verdictNow_7 rfl (lv_at hl 0 rfl) ?_
  refine gf_X8_62 hC hW m_8 rfl dX8_verdictNow_8 ?_
  refine lv_iload_n hx hb dX8_verdictNow_11 rfl (lv_at hl 1 rfl) ?_
  refine w_iald hC hW m_50 (n := 8) rfl (by first | assumption | exact ip_in hM (by assumption) | exact vp_in_c (y := 8) (by decide) (by decide) (by assumption) (by assumption) | (exfalso; contradiction)) dX8_verdictNow_12 ?_
  refine lv_iload_n hx hb dX8_verdictNow_13 rfl (lv_at hl 1 rfl) ?_
  refine lv_aload_n hx hb dX8_verdictNow_14 rfl (lv_at hl 0 rfl) ?_
  refine gf_X8_71 hC hW m_8 rfl dX8_verdictNow_15 ?_
  refine lv_iload_n hx hb dX8_verdictNow_18 rfl (lv_at hl 1 rfl) ?_
  refine w_iald hC hW m_53 (n := 8) rfl (by first | assumption | exact ip_in hM (by assumption) | exact vp_in_c (y := 8) (by decide) (by decide) (by assumption) (by assumption) | (exfalso; contradiction)) dX8_verdictNow_19 ?_
  refine lv_iload_n hx hb dX8_verdictNow_20 rfl (lv_at hl 2 rfl) ?_
  refine lv_iload_n hx hb dX8_verdictNow_21 rfl (lv_at hl 3 rfl) ?_
  refine w_callV (As := [.int (σ 49 0 k.toNatClampNeg), .int (σ 50 0 k.toNatClampNeg), .int k, .int (σ 53 0 k.toNatClampNeg), .int t, .int r]) (rest := []) (st2 := .int (f_X8_verdictOf (σ 49 0 k.toNatClampNeg) (σ 50 0 k.toNatClampNeg) k (σ 53 0 k.toNatClampNeg) t r σ) :: []) hC hW hS hl cv_X8_190 m_8 (by decide) rfl (c_X8_verdictOf l hl9 D ca base ad σ (σ 49 0 k.toNatClampNeg) (σ 50 0 k.toNatClampNeg) k (σ 53 0 k.toNatClampNeg) t r hM (by first | assumption | exact it_in hM (by assumption)) (by first | assumption | exact ip_in hM (by assumption)) (by first | assumption | exact dm_in hM (by assumption))) rfl rfl rfl ⟨Nat.le_of_ble_eq_true rfl, Nat.le_of_ble_eq_true rfl⟩ (Nat.le_of_ble_eq_true rfl) dX8_verdictNow_22 ⟨Nat.le_of_ble_eq_true rfl, Nat.le_of_ble_eq_true rfl⟩ (fun H locs hW hS => ?_)
  have hO : f_X8_verdictNow k t r σ = f_X8_verdictOf (σ 49 0 k.toNatClampNeg) (σ 50 0 k.toNatClampNeg) k (σ 53 0 k.toNatClampNeg) t r σ := by rw [f_X8_verdictNow]
  exact w_iretP hC hW hS hO (Nat.le_of_ble_eq_true rfl) (Nat.le_of_ble_eq_true rfl) dX8_verdictNow_25
