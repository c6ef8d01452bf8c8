/-! members and groups, the log's calls -/
theorem tellL (g b x is : Int32) (n k : Nat) (σ : Sg) : s_X2_tell_L64 g b x is (n + 1) k σ = if 6 ≤ nI k then σ else s_X2_tell_L64 g b x is n (k + 1) (us σ 14 0 k (f_X2_groupsUpFrom (nI k) σ)) := rfl
theorem tell_k {g b x is : Int32} {kk : Nat} (h : kk ≠ 14) : ∀ (n k : Nat) (σ : Sg), s_X2_tell_L64 g b x is n k σ kk = σ kk
  | 0, k, σ => rfl
  | n + 1, k, σ => by
    rw [tellL]
    by_cases q : 6 ≤ nI k
    · rw [if_pos q]
    · rw [if_neg q, tell_k h n (k + 1), us_kk h]
theorem tell_lt {g b x is : Int32} : ∀ (n k : Nat) (σ : Sg) (y : Nat), y < k → s_X2_tell_L64 g b x is n k σ 14 0 y = σ 14 0 y
  | 0, k, σ, y, h => rfl
  | n + 1, k, σ, y, h => by
    rw [tellL]
    by_cases q : 6 ≤ nI k
    · rw [if_pos q]
    · rw [if_neg q, tell_lt n (k + 1) _ y (by omega), us_j (by omega)]
theorem tell_st {g b x is : Int32} : ∀ (n k : Nat) (σ : Sg), n + k = 7 → k ≤ 6 → (∀ g : Nat, g < 6 → S6 (σ 13 0 g)) → ∀ y : Nat, y < 6 → k ≤ y → St (s_X2_tell_L64 g b x is n k σ 14 0 y) (Up (σ 13 0) fun h => bt (σ 12 0 h) y = true)
  | 0, k, σ, h, h6, _, _, _, _ => by omega
  | n + 1, k, σ, h, h6, hu, y, hy, hk => by
    rw [tellL, if_neg (nI6 (by omega))]
    by_cases e : y = k
    · subst e
      rw [tell_lt n (y + 1) _ y (by omega), us_h]
      exact upFrom_st hu hy
    · exact tell_st n (k + 1) (us σ 14 0 k (f_X2_groupsUpFrom (nI k) σ)) (by omega) (by omega) hu y hy (by omega)
theorem above_congr {σ τ : Sg} {v : Int32} (h : τ 32 = σ 32) (hv : S6 v) : f_X8_above v τ = f_X8_above v σ := by
  have h1 := above_st (σ := τ) hv
  rw [h] at h1
  exact St.eq h1 (above_st hv)
theorem hasBit01 (v b : Int32) : f_X8_hasBit v b = 0 ∨ f_X8_hasBit v b = 1 := by
  rw [f_X8_hasBit]
  split
  · exact Or.inr rfl
  · exact Or.inl rfl
theorem S6.clr {v : Int32} (h : S6 v) (y : Int32) : S6 (v &&& y) := fun b hb h6 => by
  rw [b_and, h b hb h6]
  rfl
/-- a set with a member more, or without it -/
def wv (old : Int32) (x : Nat) (is : Int32) : Int32 := if is = 0 then old &&& (((1 : Int32) <<< (nI x &&& 31)) ^^^ (-1 : Int32)) else old ||| ((1 : Int32) <<< (nI x &&& 31))
theorem S6.wv {old : Int32} {x : Nat} (hx : x < 6) (is : Int32) (h : S6 old) : S6 (wv old x is) := by
  show S6 (if is = 0 then old &&& (((1 : Int32) <<< (nI x &&& 31)) ^^^ (-1 : Int32)) else old ||| ((1 : Int32) <<< (nI x &&& 31)))
  split
  · exact h.clr _
  · exact h.set hx
theorem mem_ok0 {T P K N : Nat} {σ : Sg} (h : RR T P K N σ) {g : Nat} (hg : g < 6) {w a b1 x1 i1 : Int32} (hw : S6 w) : RR T P K N (us (us (us (s_X2_tell_L64 (nI g) b1 x1 i1 7 0 (us σ 12 0 g w)) 90 0 0 a) 8 0 0 0) 31 0 g w) := by
  obtain ⟨hm, hk⟩ := h.2.2.1
  refine h.cm (fun kk i hs => ?_) (fun j hj => ?_) ⟨fun y hy => ?_, fun y hy => ?_⟩
  · simp [scr] at hs
    rw [us_kk (by omega), us_kk (by omega), us_kk (by omega), tell_k (by omega), us_kk (by omega)]
  · simp at hj
    rw [us_k (by decide), us_j (by omega), us_k (by decide), tell_k (by decide), us_k (by decide)]
  · obtain ⟨m1, m2, m3, m4⟩ := hm y hy
    have ec : (us (us (us (s_X2_tell_L64 (nI g) b1 x1 i1 7 0 (us σ 12 0 g w)) 90 0 0 a) 8 0 0 0) 31 0 g w) 12 0 y = if y = g then w else σ 12 0 y := by
      rw [us_k (by decide), us_k (by decide), us_k (by decide), tell_k (by decide)]
      by_cases e : y = g
      · subst e; rw [if_pos rfl]; exact us_h
      · rw [if_neg e]; exact us_j e
    have em : (us (us (us (s_X2_tell_L64 (nI g) b1 x1 i1 7 0 (us σ 12 0 g w)) 90 0 0 a) 8 0 0 0) 31 0 g w) 31 0 y = if y = g then w else σ 31 0 y := by
      by_cases e : y = g
      · subst e; rw [if_pos rfl]; exact us_h
      · rw [if_neg e, us_j e, us_k (by decide), us_k (by decide), tell_k (by decide), us_k (by decide)]
    have eo : (us (us (us (s_X2_tell_L64 (nI g) b1 x1 i1 7 0 (us σ 12 0 g w)) 90 0 0 a) 8 0 0 0) 31 0 g w) 13 0 y = σ 13 0 y := by
      rw [us_k (by decide), us_k (by decide), us_k (by decide), tell_k (by decide), us_k (by decide)]
    have ep : (us (us (us (s_X2_tell_L64 (nI g) b1 x1 i1 7 0 (us σ 12 0 g w)) 90 0 0 a) 8 0 0 0) 31 0 g w) 32 0 y = σ 32 0 y := by
      rw [us_k (by decide), us_k (by decide), us_k (by decide), tell_k (by decide), us_k (by decide)]
    rw [ec, em, eo, ep]
    by_cases e : y = g
    · rw [if_pos e, if_pos e]
      exact ⟨rfl, m2, hw, m4⟩
    · rw [if_neg e, if_neg e]
      exact ⟨m1, m2, m3, m4⟩
  · have hu : ∀ y : Nat, y < 6 → S6 ((us σ 12 0 g w) 13 0 y) := fun y hy => by
      by_cases e : y = y
      · exact (hm y hy).2.2.2
      · exact absurd rfl e
    have := tell_st (g := nI g) (b := b1) (x := x1) (is := i1) 7 0 (us σ 12 0 g w) rfl (by omega) hu y hy (Nat.zero_le _)
    rw [us_k (show 14 ≠ 31 by decide), us_k (show 14 ≠ 8 by decide), us_k (show 14 ≠ 90 by decide)]
    have e13 : (us (us (us (s_X2_tell_L64 (nI g) b1 x1 i1 7 0 (us σ 12 0 g w)) 90 0 0 a) 8 0 0 0) 31 0 g w) 13 = (us σ 12 0 g w) 13 := by
      rw [us_kk (by decide), us_kk (by decide), us_kk (by decide), tell_k (by decide)]
    have e12 : (us (us (us (s_X2_tell_L64 (nI g) b1 x1 i1 7 0 (us σ 12 0 g w)) 90 0 0 a) 8 0 0 0) 31 0 g w) 12 = (us σ 12 0 g w) 12 := by
      rw [us_kk (by decide), us_kk (by decide), us_kk (by decide), tell_k (by decide)]
    rw [e13, e12]
    exact this
theorem mem_ok1 {T P K N : Nat} {σ : Sg} (h : RR T P K N σ) {g : Nat} (hg : g < 6) {w a b1 x1 i1 : Int32} (hw : S6 w) : RR T P K N (us (us (us (s_X2_tell_L64 (nI g) b1 x1 i1 7 0 (us σ 13 0 g w)) 90 0 0 a) 8 0 0 0) 32 0 g w) := by
  obtain ⟨hm, hk⟩ := h.2.2.1
  refine h.cm (fun kk i hs => ?_) (fun j hj => ?_) ⟨fun y hy => ?_, fun y hy => ?_⟩
  · simp [scr] at hs
    rw [us_kk (by omega), us_kk (by omega), us_kk (by omega), tell_k (by omega), us_kk (by omega)]
  · simp at hj
    rw [us_k (by decide), us_j (by omega), us_k (by decide), tell_k (by decide), us_k (by decide)]
  · obtain ⟨m1, m2, m3, m4⟩ := hm y hy
    have ec : (us (us (us (s_X2_tell_L64 (nI g) b1 x1 i1 7 0 (us σ 13 0 g w)) 90 0 0 a) 8 0 0 0) 32 0 g w) 13 0 y = if y = g then w else σ 13 0 y := by
      rw [us_k (by decide), us_k (by decide), us_k (by decide), tell_k (by decide)]
      by_cases e : y = g
      · subst e; rw [if_pos rfl]; exact us_h
      · rw [if_neg e]; exact us_j e
    have em : (us (us (us (s_X2_tell_L64 (nI g) b1 x1 i1 7 0 (us σ 13 0 g w)) 90 0 0 a) 8 0 0 0) 32 0 g w) 32 0 y = if y = g then w else σ 32 0 y := by
      by_cases e : y = g
      · subst e; rw [if_pos rfl]; exact us_h
      · rw [if_neg e, us_j e, us_k (by decide), us_k (by decide), tell_k (by decide), us_k (by decide)]
    have eo : (us (us (us (s_X2_tell_L64 (nI g) b1 x1 i1 7 0 (us σ 13 0 g w)) 90 0 0 a) 8 0 0 0) 32 0 g w) 12 0 y = σ 12 0 y := by
      rw [us_k (by decide), us_k (by decide), us_k (by decide), tell_k (by decide), us_k (by decide)]
    have ep : (us (us (us (s_X2_tell_L64 (nI g) b1 x1 i1 7 0 (us σ 13 0 g w)) 90 0 0 a) 8 0 0 0) 32 0 g w) 31 0 y = σ 31 0 y := by
      rw [us_k (by decide), us_k (by decide), us_k (by decide), tell_k (by decide), us_k (by decide)]
    rw [ec, em, eo, ep]
    by_cases e : y = g
    · rw [if_pos e, if_pos e]
      exact ⟨m1, rfl, m3, hw⟩
    · rw [if_neg e, if_neg e]
      exact ⟨m1, m2, m3, m4⟩
  · have hu : ∀ y : Nat, y < 6 → S6 ((us σ 13 0 g w) 13 0 y) := fun y hy => by
      by_cases e : y = g
      · subst e; rw [us_h]; exact hw
      · rw [us_j e]; exact (hm y hy).2.2.2
    have := tell_st (g := nI g) (b := b1) (x := x1) (is := i1) 7 0 (us σ 13 0 g w) rfl (by omega) hu y hy (Nat.zero_le _)
    rw [us_k (show 14 ≠ 32 by decide), us_k (show 14 ≠ 8 by decide), us_k (show 14 ≠ 90 by decide)]
    have e13 : (us (us (us (s_X2_tell_L64 (nI g) b1 x1 i1 7 0 (us σ 13 0 g w)) 90 0 0 a) 8 0 0 0) 32 0 g w) 13 = (us σ 13 0 g w) 13 := by
      rw [us_kk (by decide), us_kk (by decide), us_kk (by decide), tell_k (by decide)]
    have e12 : (us (us (us (s_X2_tell_L64 (nI g) b1 x1 i1 7 0 (us σ 13 0 g w)) 90 0 0 a) 8 0 0 0) 32 0 g w) 12 = (us σ 13 0 g w) 12 := by
      rw [us_kk (by decide), us_kk (by decide), us_kk (by decide), tell_k (by decide)]
    rw [e13, e12]
    exact this
theorem st_groups {σ : Sg} (h : RS σ) (u : Int32) : OKc (f_L_groups u σ) (f_X8_groups u) := by
  obtain ⟨T, P, K, N, hR⟩ := id h
  rcases c_six u with ⟨x, hx, rfl, e1, w1⟩ | ⟨e1, w1⟩
  rotate_left
  · exact OKc.er (c := 1) (x := 0) h (by decide) (by simp [f_L_groups, m_X7_groups, nd, e1]) (by simp [f_X8_groups, w1])
  have ho : f_X2_groupsOf (nI x) σ = σ 14 0 x := by
    rw [f_X2_groupsOf, if_neg (nI_pos (by omega)), if_pos (show nI x < 6 from nI_lt (b := 6) hx (by decide)), nI_clamp (by omega)]
  refine OKc.ok (τ := σ) (x := σ 14 0 x) (τ' := us (us σ 90 0 0 (σ 14 0 x)) 8 0 0 0) (by simp [f_L_groups, m_X7_groups, nd, e1, ho]) ?_ rfl ((h.out _).ref 0)
  have hq : RR T P K N (us (us σ 90 0 0 (σ 14 0 x)) 8 0 0 0) := hR
  have := hq.groups hx
  rw [f_X8_groups, w1, if_neg (by decide), this]
  rfl
theorem mem01 (g b x is : Int32) (σ : Sg) : (f_X8_member g b x is σ).1 = 0 ∨ (f_X8_member g b x is σ).1 = 1 := by
  unfold f_X8_member
  (repeat' split) <;> first | exact Or.inl rfl | exact hasBit01 _ _
theorem st_member {σ : Sg} (h : RS σ) (g b x is : Int32) : OKc (f_L_member g b x is σ) (f_X8_member g b x is) := by
  obtain ⟨T, P, K, N, hR⟩ := id h
  rcases c_six g with ⟨g, hg, rfl, e1, w1⟩ | ⟨e1, w1⟩
  rotate_left
  · exact OKc.er (c := 1) (x := 0) h (by decide) (by simp [f_L_member, m_X7_member, nd, e1]) (by simp [f_X8_member, w1])
  rcases c_six x with ⟨x, hx, rfl, e2, w2⟩ | ⟨e2, w2⟩
  rotate_left
  · exact OKc.er (c := 1) (x := 0) h (by decide) (by simp [f_L_member, m_X7_member, nd, e1, e2]) (by simp [f_X8_member, w1, w2])
  have cg : (nI g).toNatClampNeg = g := nI_clamp (by omega)
  obtain ⟨hm, -⟩ := hR.2.2.1
  obtain ⟨m1, m2, m3, m4⟩ := hm g hg
  have hw := hR.within hg hx
  have g6 : nI g < 6 := nI_lt (b := 6) hg (by decide)
  have g0 : ¬ nI g < 0 := nI_pos (by omega)
  by_cases hb : b = 0
  · skip
    have ht : f_X2_isTold (nI g) b (nI x) σ = f_X8_hasBit (σ 12 0 g) (nI x) := by
      rw [f_X2_isTold, if_neg g0, if_pos g6, if_pos hb, cg, hb_bt _ x (by omega), hasBit_bt _ (show x < 32 by omega)]
      cases bt (σ 12 0 g) x <;> rfl
    have hl : s_X2_tell (nI g) b (nI x) is σ = s_X2_tell_L64 (nI g) b (nI x) is 7 0 (us σ 12 0 g (wv (σ 12 0 g) x is)) := by
      rw [s_X2_tell, if_neg g0, if_pos g6, if_pos hb, cg, wv]
      by_cases hi : is = 0
      · simp only [if_pos hi]
      · simp only [if_neg hi]
    have ok : True → OKc (f_L_member (nI g) b (nI x) is σ) (f_X8_member (nI g) b (nI x) is) := by
      intro hno
      have hm9 : m_X7_member (nI g) b (nI x) is σ = (none, f_X8_hasBit (σ 12 0 g) (nI x), s_X2_tell_L64 (nI g) b (nI x) is 7 0 (us σ 12 0 g (wv (σ 12 0 g) x is))) := by
        rw [← ht, ← hl]
        simp only [m_X7_member, e1, e2, nd]
        simp only [if_pos hb, ite_self]
      refine OKc.ok (τ := s_X2_tell_L64 (nI g) b (nI x) is 7 0 (us σ 12 0 g (wv (σ 12 0 g) x is))) (x := f_X8_hasBit (σ 12 0 g) (nI x)) (τ' := us (us (us (s_X2_tell_L64 (nI g) b (nI x) is 7 0 (us σ 12 0 g (wv (σ 12 0 g) x is))) 90 0 0 (f_X8_hasBit (σ 12 0 g) (nI x))) 8 0 0 0) 31 0 g (wv (σ 12 0 g) x is)) ?_ ?_ rfl ⟨T, P, K, N, mem_ok0 hR hg (m3.wv hx is)⟩
      · rw [f_L_member, hm9, if_pos rfl]
        rcases hasBit01 (σ 12 0 g) (nI x) with q | q
        · rw [if_pos q, q]
        · rw [if_neg (by rw [q]; exact (by decide : ¬ (1 : Int32) = 0)), q]
      · obtain ⟨s1, hs1⟩ : ∃ s1, s1 = us (s_X2_tell_L64 (nI g) b (nI x) is 7 0 (us σ 12 0 g (wv (σ 12 0 g) x is))) 90 0 0 (f_X8_hasBit (σ 12 0 g) (nI x)) := ⟨_, rfl⟩
        rw [← hs1]
        have k1 : s1 31 0 g = σ 12 0 g := by
          rw [hs1, us_k (by decide), tell_k (by decide), us_k (by decide)]
          exact m1
        have k2 : s1 32 = σ 32 := by
          rw [hs1, us_kk (by decide), tell_k (by decide), us_kk (by decide)]
        have k3 := above_congr (v := (1 : Int32) <<< (nI g &&& 31)) k2 (S6.bit hg)
        simp only [f_X8_member, w1, w2, cg, k1, k3, show ¬ (1 : Int32) = 0 by decide, if_false, if_pos hb]
        by_cases hi : is = 0
        · simp only [if_pos hi, wv]
        · simp only [if_neg hi, wv]
    exact ok trivial
  · skip
    have ht : f_X2_isTold (nI g) b (nI x) σ = f_X8_hasBit (σ 13 0 g) (nI x) := by
      rw [f_X2_isTold, if_neg g0, if_pos g6, if_neg hb, cg, hb_bt _ x (by omega), hasBit_bt _ (show x < 32 by omega)]
      cases bt (σ 13 0 g) x <;> rfl
    have hl : s_X2_tell (nI g) b (nI x) is σ = s_X2_tell_L64 (nI g) b (nI x) is 7 0 (us σ 13 0 g (wv (σ 13 0 g) x is)) := by
      rw [s_X2_tell, if_neg g0, if_pos g6, if_neg hb, cg, wv]
      by_cases hi : is = 0
      · simp only [if_pos hi]
      · simp only [if_neg hi]
    have ok : (¬ is = 0 → f_X2_isWithin (nI g) (nI x) σ = 0) → OKc (f_L_member (nI g) b (nI x) is σ) (f_X8_member (nI g) b (nI x) is) := by
      intro hno
      have hm9 : m_X7_member (nI g) b (nI x) is σ = (none, f_X8_hasBit (σ 13 0 g) (nI x), s_X2_tell_L64 (nI g) b (nI x) is 7 0 (us σ 13 0 g (wv (σ 13 0 g) x is))) := by
        rw [← ht, ← hl]
        simp only [m_X7_member, e1, e2, nd]
        simp only [if_neg hb]
        by_cases hi : is = 0
        · simp only [if_pos hi]
        · simp only [if_neg hi, if_pos (hno hi)]
      refine OKc.ok (τ := s_X2_tell_L64 (nI g) b (nI x) is 7 0 (us σ 13 0 g (wv (σ 13 0 g) x is))) (x := f_X8_hasBit (σ 13 0 g) (nI x)) (τ' := us (us (us (s_X2_tell_L64 (nI g) b (nI x) is 7 0 (us σ 13 0 g (wv (σ 13 0 g) x is))) 90 0 0 (f_X8_hasBit (σ 13 0 g) (nI x))) 8 0 0 0) 32 0 g (wv (σ 13 0 g) x is)) ?_ ?_ rfl ⟨T, P, K, N, mem_ok1 hR hg (m4.wv hx is)⟩
      · rw [f_L_member, hm9, if_pos rfl]
        rcases hasBit01 (σ 13 0 g) (nI x) with q | q
        · rw [if_pos q, q]
        · rw [if_neg (by rw [q]; exact (by decide : ¬ (1 : Int32) = 0)), q]
      · obtain ⟨s1, hs1⟩ : ∃ s1, s1 = us (s_X2_tell_L64 (nI g) b (nI x) is 7 0 (us σ 13 0 g (wv (σ 13 0 g) x is))) 90 0 0 (f_X8_hasBit (σ 13 0 g) (nI x)) := ⟨_, rfl⟩
        rw [← hs1]
        have k1 : s1 32 0 g = σ 13 0 g := by
          rw [hs1, us_k (by decide), tell_k (by decide), us_k (by decide)]
          exact m2
        have k2 : s1 32 = σ 32 := by
          rw [hs1, us_kk (by decide), tell_k (by decide), us_kk (by decide)]
        have k3 := above_congr (v := (1 : Int32) <<< (nI g &&& 31)) k2 (S6.bit hg)
        simp only [f_X8_member, w1, w2, cg, k1, k3, show ¬ (1 : Int32) = 0 by decide, if_false, if_neg hb]
        by_cases hi : is = 0
        · simp only [if_pos hi, wv]
        · simp only [if_neg hi, wv, if_pos (hw.mp (hno hi))]
    by_cases hi : is = 0
    · exact ok (fun q => absurd hi q)
    · by_cases hc : f_X2_isWithin (nI g) (nI x) σ = 0
      · exact ok (fun _ => hc)
      · refine OKc.er (c := 2) (x := 0) h (by decide) ?_ ?_
        · have hm9 : m_X7_member (nI g) b (nI x) is σ = (some "java/lang/IllegalStateException", 0, σ) := by
            simp only [m_X7_member, e1, e2, nd, if_neg hb, if_neg hi, if_neg hc]
          rw [f_L_member, hm9, if_neg (by simp), if_neg (by simp)]
        · have hc2 : ¬ f_X8_hasBit (f_X8_above ((1 : Int32) <<< (nI g &&& 31)) σ) (nI x) = 0 := fun q => hc (hw.mpr q)
          simp only [f_X8_member, w1, w2, show ¬ (1 : Int32) = 0 by decide, if_false, if_neg hb, if_neg hi, if_neg hc2]
theorem c_log {σ : Sg} {a n : Nat} (h2 : σ 1 0 2 = nI n) (h40 : σ 8 0 40 = nI n) (hn : n ≤ 20) (x : Int32) : (∃ q : Nat, q < n ∧ x = nI q ∧ e_X7_needPlace x (σ 1 0 2) = none ∧ f_X8_within x 0 ((σ 8 0 40) - (1 : Int32)) = 1) ∨ (e_X7_needPlace x (σ 1 0 2) = some "java/lang/IndexOutOfBoundsException" ∧ f_X8_within x 0 ((σ 8 0 40) - (1 : Int32)) = 0) := by
  rw [h2, h40]
  exact c_place x (by omega)
theorem m6w {q w : Nat} (hq : q ≤ 20) (hw : w < 6) : (((6 : Int32) * nI q) + nI w).toNatClampNeg = 6 * q + w := by
  rw [show (6 : Int32) * nI q = nI (6 * q) from pk_mul 6 q, nI_add, nI_clamp (by omega)]
theorem st_logged {σ : Sg} (h : RS σ) (x v : Int32) : OKc (f_L_logged x v σ) (f_X8_logged x v) := by
  obtain ⟨T, P, K, N, hR⟩ := id h
  obtain ⟨a, n, ha, hn, l1, l2, l40, l41, l42, le⟩ := hR.2.2.2.2.2.2.2.2.1
  rcases c_log (a := a) l2 l40 hn x with ⟨q, hq, rfl, e1, w1⟩ | ⟨e1, w1⟩
  rotate_left
  · exact OKc.er (c := 1) (x := 0) h (by decide) (by simp [f_L_logged, m_X7_logged, nd, e1]) (by simp [f_X8_logged, w1])
  rcases c_upto v (n := 4) (by decide) (hi := 4) rfl with ⟨⟨w, hw, rfl⟩, e2, w2⟩ | ⟨e2, w2⟩
  rotate_left
  · exact OKc.er (c := 2) (x := 0) h (by decide) (by simp [f_L_logged, m_X7_logged, nd, e1, e2]) (by simp [f_X8_logged, w1, w2])
  have hr : f_X1_read (nI q) (nI w) σ = σ 73 0 (6 * q + w) := by
    rw [rdC l1 l2 ha hn hq rfl (by omega)]
    exact le q hq w (by omega)
  refine OKc.ok (τ := σ) (x := σ 73 0 (6 * q + w)) (τ' := us (us σ 90 0 0 (σ 73 0 (6 * q + w))) 8 0 0 0) (by simp [f_L_logged, m_X7_logged, nd, e1, e2, hr]) ?_ rfl ((h.out _).ref 0)
  have k1 : f_X8_within (nI q) 0 ((us σ 90 0 0 (σ 73 0 (6 * q + w))) 8 0 40 - (1 : Int32)) = 1 := w1
  simp only [f_X8_logged, k1, w2, m6w (show q ≤ 20 by omega) (show w < 6 by omega), show ¬ (1 : Int32) = 0 by decide, if_false]
  rfl
theorem st_forge {σ : Sg} (h : RS σ) (x v : Int32) : OKc (f_L_forge x v σ) (f_X8_forge x v) := by
  obtain ⟨T, P, K, N, hR⟩ := id h
  obtain ⟨a, n, ha, hn, l1, l2, l40, l41, l42, le⟩ := hR.2.2.2.2.2.2.2.2.1
  rcases c_log (a := a) l2 l40 hn x with ⟨q, hq, rfl, e1, w1⟩ | ⟨e1, w1⟩
  rotate_left
  · exact OKc.er (c := 1) (x := 0) h (by decide) (by simp [f_L_forge, m_X7_forge, nd, e1]) (by simp [f_X8_forge, w1])
  rcases c_upto v (n := 5) (by decide) (hi := 5) rfl with ⟨hv, e2, w2⟩ | ⟨e2, w2⟩
  rotate_left
  · exact OKc.er (c := 2) (x := 0) h (by decide) (by simp [f_L_forge, m_X7_forge, nd, e1, e2]) (by simp [f_X8_forge, w1, w2])
  have hr : f_X1_read (nI q) 4 σ = σ 73 0 (6 * q + 4) := by
    rw [rdC (w := 4) (j := 4) l1 l2 ha hn hq rfl (by decide)]
    exact le q hq 4 (by decide)
  have hw : s_X1_write (nI q) 4 v σ = us σ 11 0 ((a + q) % 20 * 6 + 4) v := wrC (w := 4) (j := 4) l1 l2 ha hn hq rfl (by decide)
  have m6 : (((6 : Int32) * nI q) + (4 : Int32)).toNatClampNeg = 6 * q + 4 := m6w (w := 4) (by omega) (by decide)
  refine OKc.ok (τ := us σ 11 0 ((a + q) % 20 * 6 + 4) v) (x := σ 73 0 (6 * q + 4)) (τ' := us (us (us (us σ 11 0 ((a + q) % 20 * 6 + 4) v) 90 0 0 (σ 73 0 (6 * q + 4))) 8 0 0 0) 73 0 (6 * q + 4) v) (by simp [f_L_forge, m_X7_forge, nd, e1, e2, hr, hw]) ?_ rfl ⟨T, P, K, N, ?_⟩
  · have k1 : f_X8_within (nI q) 0 ((us (us σ 11 0 ((a + q) % 20 * 6 + 4) v) 90 0 0 (σ 73 0 (6 * q + 4))) 8 0 40 - (1 : Int32)) = 1 := w1
    simp only [f_X8_forge, k1, w2, m6, show ¬ (1 : Int32) = 0 by decide, if_false]
    rfl
  · refine hR.cl (fun kk i hs => ?_) (fun j hj => ?_) ⟨a, n, ha, hn, l1, l2, l40, l41, l42, fun q2 hq2 w hw2 => ?_⟩
    · simp [scr] at hs
      rw [us_kk (by omega), us_kk (by omega), us_kk (by omega), us_kk (by omega)]
    · simp at hj
      rw [us_k (by decide), us_j (by omega), us_k (by decide), us_k (by decide)]
    · have := le q2 hq2 w hw2
      rw [us_k (show 11 ≠ 73 by decide), us_k (show 11 ≠ 8 by decide), us_k (show 11 ≠ 90 by decide)]
      by_cases e : q2 = q ∧ w = 4
      · obtain ⟨rfl, rfl⟩ := e
        rw [us_h, us_h]
      · rw [us_j (by omega), us_j (by omega)]
        exact this
theorem brC : ∀ (n k : Nat) (g : Int32) {σ : Sg} {a N9 : Nat}, a < 20 → N9 ≤ 20 → σ 1 0 1 = nI a → σ 1 0 2 = nI N9 → σ 8 0 40 = nI N9 → (∀ q : Nat, q < N9 → ∀ w : Nat, w < 6 → σ 11 0 ((a + q) % 20 * 6 + w) = σ 73 0 (6 * q + w)) → n + k = 21 → k ≤ 20 → f_X1_firstBroken_L7 n k g σ = (f_X8_broken_L12 n k g (us σ 8 0 0 0)).1 ∧ (f_X8_broken_L12 n k g (us σ 8 0 0 0)).2 = us σ 8 0 0 0
  | 0, k, g, σ, a, N9, _, _, _, _, _, _, h, hk => by omega
  | n + 1, k, g, σ, a, N9, ha, hN, l1, l2, l40, le, h, hk => by
    show (if (σ 1 0 2) ≤ (nI k) then (-1) else if (f_X1_checkAfter g (nI k) σ) = (f_X1_read (nI k) 5 σ) then f_X1_firstBroken_L7 n (k + 1) (f_X1_read (nI k) 5 σ) σ else nI k) = (if (σ 8 0 40) ≤ (nI k) then ((-1 : Int32), us σ 8 0 0 0) else if (f_X8_checked ((6 : Int32) * (nI k)) g (us σ 8 0 0 0)) = (σ 73 0 ((((6 : Int32) * (nI k)) + (5 : Int32)).toNatClampNeg)) then f_X8_broken_L12 n (k + 1) (σ 73 0 ((((6 : Int32) * (nI k)) + (5 : Int32)).toNatClampNeg)) (us σ 8 0 0 0) else (nI k, us σ 8 0 0 0)).1 ∧ (if (σ 8 0 40) ≤ (nI k) then ((-1 : Int32), us σ 8 0 0 0) else if (f_X8_checked ((6 : Int32) * (nI k)) g (us σ 8 0 0 0)) = (σ 73 0 ((((6 : Int32) * (nI k)) + (5 : Int32)).toNatClampNeg)) then f_X8_broken_L12 n (k + 1) (σ 73 0 ((((6 : Int32) * (nI k)) + (5 : Int32)).toNatClampNeg)) (us σ 8 0 0 0) else (nI k, us σ 8 0 0 0)).2 = us σ 8 0 0 0
    rw [l2, l40]
    by_cases hq : N9 ≤ k
    · rw [if_pos (nI_le hq (by omega)), if_pos (nI_le hq (by omega))]
      exact ⟨rfl, rfl⟩
    · have hq2 : k < N9 := by omega
      rw [if_neg (nI_ge hq2 (by omega)), if_neg (nI_ge hq2 (by omega))]
      have m6 : (((6 : Int32) * nI k) + (5 : Int32)).toNatClampNeg = 6 * k + 5 := m6w (w := 5) (by omega) (by decide)
      have r5 : f_X1_read (nI k) 5 σ = σ 73 0 (6 * k + 5) := by
        rw [rdC (w := 5) (j := 5) l1 l2 ha hN hq2 rfl (by decide)]
        exact le k hq2 5 (by decide)
      have c1 : f_X1_checkAfter g (nI k) σ = f_X8_checked ((6 : Int32) * nI k) g (us σ 8 0 0 0) := by
        rw [ckC l1 l2 ha hN hq2, show (6 : Int32) * nI k = nI (6 * k) from pk_mul 6 k, ckM (by omega)]
        have := le k hq2 0 (by decide)
        have := le k hq2 1 (by decide)
        have := le k hq2 2 (by decide)
        have := le k hq2 3 (by decide)
        have := le k hq2 4 (by decide)
        simp_all [us]
      rw [m6, r5, c1]
      by_cases hc : f_X8_checked ((6 : Int32) * nI k) g (us σ 8 0 0 0) = σ 73 0 (6 * k + 5)
      · rw [if_pos hc, if_pos hc]
        exact brC n (k + 1) _ ha hN l1 l2 l40 le (by omega) (by omega)
      · rw [if_neg hc, if_neg hc]
        exact ⟨rfl, rfl⟩
theorem st_broken {σ : Sg} (h : RS σ) : f_X7_broken σ = (f_X8_broken σ).1 ∧ RS (f_X8_broken σ).2 := by
  obtain ⟨T, P, K, N, hR⟩ := id h
  obtain ⟨a, n, ha, hn, l1, l2, l40, l41, l42, le⟩ := hR.2.2.2.2.2.2.2.2.1
  have := brC 21 0 (σ 8 0 42) ha hn l1 l2 l40 le rfl (by omega)
  constructor
  · rw [f_X7_broken, f_X1_firstBroken, ← l42, this.1]
    rfl
  · have e : (f_X8_broken σ).2 = us σ 8 0 0 0 := this.2
    rw [e]
    exact h.ref 0
theorem st_entries {σ : Sg} (h : RS σ) : f_X7_entries σ = (f_X8_entries σ).1 ∧ RS (f_X8_entries σ).2 := by
  obtain ⟨T, P, K, N, hR⟩ := id h
  obtain ⟨a, n, ha, hn, l1, l2, l40, -⟩ := hR.2.2.2.2.2.2.2.2.1
  exact ⟨l2.trans l40.symm, h.ref 0⟩
theorem st_lost {σ : Sg} (h : RS σ) : f_X7_lost σ = (f_X8_lost σ).1 ∧ RS (f_X8_lost σ).2 := by
  obtain ⟨T, P, K, N, hR⟩ := id h
  obtain ⟨a, n, ha, hn, l1, l2, l40, l41, -⟩ := hR.2.2.2.2.2.2.2.2.1
  exact ⟨l41.symm, h.ref 0⟩
