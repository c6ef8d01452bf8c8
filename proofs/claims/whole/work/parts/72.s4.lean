/-! an act, and what it becomes -/
theorem nuU_nb {m9 : Bool} {ow u : Int32} (h1 : nb 6 ow) (h2 : nb 6 u) : nb 6 (nuU m9 ow u) := by
  unfold nuU; split
  · exact h1
  · exact h2
theorem nuF_nb {m9 : Bool} {ow bo f : Int32} (h1 : nb 8 bo) (h2 : nb 8 f) : nb 8 (nuF m9 ow bo f) := by
  unfold nuF; split
  · split
    · exact h1
    · exact ⟨0, by decide, rfl⟩
  · exact h2
section MV
variable {T P K N : Nat} {σ : Sg}
theorem RR.mv (h : RR T P K N σ) {d : Int32} {t : Nat} (hd : nb 4 d) (ht : t < 12) : f_X3_moveOf d (σ 5 t 3) σ = σ 47 0 ((((4 : Int32) * d) + (σ 37 0 t)).toNatClampNeg) ∧ nb 4 (nuD (f_X3_moveOf d (σ 5 t 3) σ) d) := by
  obtain ⟨d, d1, rfl⟩ := hd
  obtain ⟨⟨-, -, -, q3, -⟩, -, ⟨-, -, -, ⟨ty, t1, t2⟩, -⟩, -⟩ := h.2.2.2.1 t ht
  obtain ⟨-, r2, r3⟩ := h.2.2.2.2.1 (4 * d + ty) (by omega)
  obtain ⟨i1, i2, i3⟩ := ix1 d d1 ty t1
  have e : f_X3_moveOf (nI d) (σ 5 t 3) σ = σ 17 0 (4 * d + ty) := by
    rw [t2, f_X3_moveOf, i1, if_neg (by decide), i2]
  rw [e, q3, t2, i3, r2]
  refine ⟨rfl, ?_⟩
  unfold nuD
  rcases r3 with r3 | r3
  · rw [if_pos r3]
    exact ⟨d, d1, rfl⟩
  · split
    · exact ⟨d, d1, rfl⟩
    · exact r3
end MV
theorem mv_congr {c m : Sg} {d t : Int32} (e : m 17 0 = c 17 0) : f_X3_moveOf d t m = f_X3_moveOf d t c := by
  unfold f_X3_moveOf
  rw [e]
set_option maxHeartbeats 1000000 in
theorem act_run {T P K N : Nat} {σ : Sg} (hR : RR T P K N σ) {p q : Nat} (hp : p < P) (hq : q < T) (r v a : Int32) {m1 L X : Sg} (hm1 : m1 = us (us (s_X7_carryOutRun p q (s_X7_note (nI p) (nI q) r v σ)) 90 0 0 a) 8 0 0 0) (hL : L = s_X8_log (nI p) (nI q) r v m1) (hX : X = s_X8_runAs (nI p) (σ 49 0 p) (σ 50 0 p) (σ 53 0 p) (nI q) L) : RR T P K N (us (us (us X 49 0 p (X 8 0 44)) 50 0 p (X 8 0 45)) 53 0 p (X 8 0 46)) := by
  have hB := hR.b
  obtain ⟨-, -, -, -, -, -, s9, s37, s38, s39⟩ := hR.s7
  obtain ⟨c1, c2, c3, c4, c5, c6⟩ := co_all (c := s_X7_note (nI p) (nI q) r v σ) (i := p) (t := q)
  have nk : ∀ kk : Nat, kk ≠ 1 → kk ≠ 11 → s_X7_note (nI p) (nI q) r v σ kk = σ kk := fun kk h1 h2 => fr_X7_note h1 h2
  have m8 : ∀ j : Nat, j ≠ 0 → m1 8 0 j = σ 8 0 j := fun j hj => by
    rw [hm1, us_j hj, us_k (by decide), c6 8 (by decide), nk 8 (by decide) (by decide)]
  have mk : ∀ kk : Nat, kk ≠ 0 → kk ≠ 8 → kk ≠ 90 → kk ≠ 1 → kk ≠ 11 → m1 kk = σ kk := fun kk h0 h1 h2 h3 h4 => by
    rw [hm1, us_kk h1, us_kk h2, c6 kk h0, nk kk h3 h4]
  have Lk : ∀ kk : Nat, kk ≠ 0 → kk ≠ 8 → kk ≠ 90 → kk ≠ 1 → kk ≠ 11 → kk ≠ 73 → L kk = σ kk := fun kk h0 h1 h2 h3 h4 h5 => by
    rw [hL, fr_X8_log h1 h5, mk kk h0 h1 h2 h3 h4]
  have Xk : ∀ kk : Nat, kk ≠ 8 → X kk = L kk := fun kk h => by rw [hX, fr_X8_runAs h]
  have X8 : ∀ j : Nat, j ≠ 44 → j ≠ 45 → j ≠ 46 → X 8 0 j = L 8 0 j := fun j h1 h2 h3 => by rw [hX, fs_X8_runAs h1 h2 h3]
  obtain ⟨x1, x2, x3⟩ := ra_all (m := L) (k := nI p) (u := σ 49 0 p) (d := σ 50 0 p) (f := σ 53 0 p) (t := nI q)
  rw [← hX, nI_clamp (show q < 2 ^ 31 by omega)] at x1 x2 x3
  rw [nI_clamp (show p < 2 ^ 31 by omega)] at x3
  rw [Lk 36 (by decide) (by decide) (by decide) (by decide) (by decide) (by decide), Lk 34 (by decide) (by decide) (by decide) (by decide) (by decide) (by decide)] at x1 x3
  rw [Lk 47 (by decide) (by decide) (by decide) (by decide) (by decide) (by decide), Lk 37 (by decide) (by decide) (by decide) (by decide) (by decide) (by decide)] at x2
  rw [Lk 54 (by decide) (by decide) (by decide) (by decide) (by decide) (by decide)] at x3
  rw [nk 5 (by decide) (by decide), nk 0 (by decide) (by decide)] at c1 c3
  rw [nk 5 (by decide) (by decide), nk 0 (by decide) (by decide), mv_congr (c := σ) (by rw [nk 17 (by decide) (by decide)])] at c2
  obtain ⟨⟨t0, -, t2, -⟩, -, ⟨n0, -⟩, -⟩ := hR.2.2.2.1 q (by omega)
  obtain ⟨⟨a0, a1, a2, a3, a4, a5, a6⟩, a7, ⟨b0, b1, b4, b5⟩, bc, bf⟩ := hR.2.2.2.2.2.1 p (by omega)
  obtain ⟨mv1, mv2⟩ := hR.mv (t := q) b1 (by omega)
  rw [a0, t2, t0] at x1
  rw [a1, ← mv1] at x2
  rw [a4, a5, t2, t0] at x3
  have hl : Rl (σ 1 0) (σ 11 0) (m1 8 0 40) (m1 8 0 41) (m1 8 0 42) (m1 73 0) := by
    rw [m8 40 (by decide), m8 41 (by decide), m8 42 (by decide), mk 73 (by decide) (by decide) (by decide) (by decide) (by decide)]
    exact hR.2.2.2.2.2.2.2.2.1
  have hs := log_step (c := σ) (m := m1) hl (by rw [m8 37 (by decide), s37, s9]) (by rw [m8 38 (by decide), s38]) (by rw [m8 39 (by decide), s39]) (nI p) (nI q) r v
  rw [← hL] at hs
  have Tk : ∀ kk : Nat, kk ≠ 49 → kk ≠ 50 → kk ≠ 53 → us (us (us X 49 0 p (X 8 0 44)) 50 0 p (X 8 0 45)) 53 0 p (X 8 0 46) kk = X kk := fun kk h1 h2 h3 => by rw [us_kk h3, us_kk h2, us_kk h1]
  have L0 : ∀ kk : Nat, kk ≠ 8 → kk ≠ 73 → kk ≠ 90 → L kk = s_X7_carryOutRun p q (s_X7_note (nI p) (nI q) r v σ) kk := fun kk h1 h2 h3 => by
    rw [hL, fr_X8_log h1 h2, hm1, us_kk h1, us_kk h3]
  refine hR.cal (fun kk i hk => ?_) (fun j hj => ?_) (fun p' hp' => ?_) ?_
  · simp [scr] at hk
    rw [Tk kk (by omega) (by omega) (by omega), Xk kk (by omega), Lk kk (by omega) (by omega) (by omega) (by omega) (by omega) (by omega)]
  · simp at hj
    rw [Tk 8 (by decide) (by decide) (by decide), hX, fs_X8_runAs (by omega) (by omega) (by omega), hL, fs_X8_log (by omega) (by omega) (by omega), m8 j (by omega)]
  · have z := hR.2.2.2.2.2.1 p' hp'
    rw [Tk 0 (by decide) (by decide) (by decide), Xk 0 (by decide), L0 0 (by decide) (by decide) (by decide), Tk 10 (by decide) (by decide) (by decide), Xk 10 (by decide), Lk 10 (by decide) (by decide) (by decide) (by decide) (by decide) (by decide), Tk 51 (by decide) (by decide) (by decide), Xk 51 (by decide), Lk 51 (by decide) (by decide) (by decide) (by decide) (by decide) (by decide), Tk 52 (by decide) (by decide) (by decide), Xk 52 (by decide), Lk 52 (by decide) (by decide) (by decide) (by decide) (by decide) (by decide), Tk 54 (by decide) (by decide) (by decide), Xk 54 (by decide), Lk 54 (by decide) (by decide) (by decide) (by decide) (by decide) (by decide), Tk 55 (by decide) (by decide) (by decide), Xk 55 (by decide), Lk 55 (by decide) (by decide) (by decide) (by decide) (by decide) (by decide), Tk 56 (by decide) (by decide) (by decide), Xk 56 (by decide), Lk 56 (by decide) (by decide) (by decide) (by decide) (by decide) (by decide)]
    have y49 : us (us (us X 49 0 p (X 8 0 44)) 50 0 p (X 8 0 45)) 53 0 p (X 8 0 46) 49 0 p' = if p' = p then X 8 0 44 else σ 49 0 p' := by
      rw [us_k (by decide), us_k (by decide)]
      by_cases e : p' = p
      · rw [if_pos e, e, us_h]
      · rw [if_neg e, us_j e, Xk 49 (by decide), Lk 49 (by decide) (by decide) (by decide) (by decide) (by decide) (by decide)]
    have y50 : us (us (us X 49 0 p (X 8 0 44)) 50 0 p (X 8 0 45)) 53 0 p (X 8 0 46) 50 0 p' = if p' = p then X 8 0 45 else σ 50 0 p' := by
      rw [us_k (by decide)]
      by_cases e : p' = p
      · rw [if_pos e, e, us_h]
      · rw [if_neg e, us_j e, us_k (by decide), Xk 50 (by decide), Lk 50 (by decide) (by decide) (by decide) (by decide) (by decide) (by decide)]
    have y53 : us (us (us X 49 0 p (X 8 0 44)) 50 0 p (X 8 0 45)) 53 0 p (X 8 0 46) 53 0 p' = if p' = p then X 8 0 46 else σ 53 0 p' := by
      by_cases e : p' = p
      · rw [if_pos e, e, us_h]
      · rw [if_neg e, us_j e, us_k (by decide), us_k (by decide), Xk 53 (by decide), Lk 53 (by decide) (by decide) (by decide) (by decide) (by decide) (by decide)]
    rw [y49, y50, y53]
    by_cases e : p' = p
    · subst e
      rw [if_pos rfl, if_pos rfl, if_pos rfl]
      have k2 := c4 2 (by decide) (by decide) (by decide)
      have k3 := c4 3 (by decide) (by decide) (by decide)
      have k5 := c4 5 (by decide) (by decide) (by decide)
      have k6 := c4 6 (by decide) (by decide) (by decide)
      have k7 := c4 7 (by decide) (by decide) (by decide)
      rw [nk 0 (by decide) (by decide)] at k2 k3 k5 k6 k7
      refine ⟨⟨by rw [x1, c1], by rw [x2, c2], by rw [a2, k2], by rw [a3, k3], by rw [x3, c3], by rw [a5, k5], by rw [a6, k6]⟩, fun z9 => by rw [a7 hp, k7], ⟨by rw [c1]; exact nuU_nb n0 b0, by rw [c2]; exact mv2, by rw [c3]; exact nuF_nb b5 b4, by rw [k5]; exact b5⟩, ?_, fun z9 => by rw [k6]; exact bf z9⟩
      obtain ⟨cc, d1, d2, d3⟩ := bc
      exact ⟨cc, d1, by rw [k6]; exact d2, by rw [k7]; exact d3⟩
    · rw [if_neg e, if_neg e, if_neg e, c5 p' e, nk 0 (by decide) (by decide)]
      exact z
  · rw [Tk 1 (by decide) (by decide) (by decide), Xk 1 (by decide), L0 1 (by decide) (by decide) (by decide), c6 1 (by decide), Tk 11 (by decide) (by decide) (by decide), Xk 11 (by decide), L0 11 (by decide) (by decide) (by decide), c6 11 (by decide), Tk 8 (by decide) (by decide) (by decide), X8 40 (by decide) (by decide) (by decide), X8 41 (by decide) (by decide) (by decide), X8 42 (by decide) (by decide) (by decide), Tk 73 (by decide) (by decide) (by decide), Xk 73 (by decide)]
    exact hs
theorem st_act {σ : Sg} (h : RS σ) (k t r : Int32) : OKc (f_L_act k t r σ) (f_X8_act k t r) := by
  obtain ⟨T, P, K, N, hR⟩ := id h
  have hB := hR.b
  rcases hR.why2 k t r with ⟨p, q, b, hp, hq, hb, rfl, rfl, rfl, e1, e2, e3, w⟩ | ⟨e1, w⟩ | ⟨e1, e2, w⟩ | ⟨e1, e2, e3, w⟩
  rotate_left
  · exact OKc.er (c := 1) (x := 0) h (by decide) (by simp [f_L_act, m_X7_act, nd, e1]) (by simp [f_X8_act, w, f_X8_rf])
  · exact OKc.er (c := 1) (x := 0) h (by decide) (by simp [f_L_act, m_X7_act, nd, e1, e2]) (by simp [f_X8_act, w, f_X8_rf])
  · exact OKc.er (c := 2) (x := 0) h (by decide) (by simp [f_L_act, m_X7_act, nd, e1, e2, e3]) (by simp [f_X8_act, w, f_X8_rf])
  have cp : (nI p).toNatClampNeg = p := nI_clamp (by omega)
  have cq : (nI q).toNatClampNeg = q := nI_clamp (by omega)
  obtain ⟨v, hv⟩ : ∃ v, v = f_X7_judge p q (nI (2 ^ b)) σ := ⟨_, rfl⟩
  -- the verdict of the model on any state whose rows for it are the same
  have hvm : ∀ m : Sg, (∀ kk : Nat, 30 < kk → kk ≠ 90 → m kk = σ kk) → f_X8_verdictNow (nI p) (nI q) (nI (2 ^ b)) m = v := fun m hm => by
    rw [hv, ← hR.now hp hq hb, f_X8_verdictNow, f_X8_verdictNow, hm 49 (by decide) (by decide), hm 50 (by decide) (by decide), hm 53 (by decide) (by decide)]
    exact verdict_congr (Mv.of fun kk _ h2 h3 _ _ _ _ _ => by rw [hm kk h2 h3])
  by_cases hrun : v = 0 ∧ nI (2 ^ b) = 4
  · obtain ⟨v0, r4⟩ := hrun
    obtain ⟨τ, hτ⟩ : ∃ τ, τ = s_X7_carryOutRun p q (s_X7_note (nI p) (nI q) (nI (2 ^ b)) v σ) := ⟨_, rfl⟩
    obtain ⟨m1, hm1⟩ : ∃ m1, m1 = us (us τ 90 0 0 v) 8 0 0 0 := ⟨_, rfl⟩
    obtain ⟨L, hL⟩ : ∃ L, L = s_X8_log (nI p) (nI q) (nI (2 ^ b)) v m1 := ⟨_, rfl⟩
    obtain ⟨X, hX⟩ : ∃ X, X = s_X8_runAs (nI p) (σ 49 0 p) (σ 50 0 p) (σ 53 0 p) (nI q) L := ⟨_, rfl⟩
    have τk : ∀ kk : Nat, kk ≠ 0 → kk ≠ 1 → kk ≠ 11 → τ kk = σ kk := fun kk h0 h1 h2 => by
      rw [hτ, fr_X7_carryOutRun h0, fr_X7_note h1 h2]
    refine OKc.ok (τ := τ) (x := v) (τ' := us (us (us X 49 0 p (X 8 0 44)) 50 0 p (X 8 0 45)) 53 0 p (X 8 0 46)) ?_ ?_ ?_ ⟨T, P, K, N, act_run hR hp hq (nI (2 ^ b)) v v (by rw [hm1, hτ]) hL hX⟩
    · simp only [f_L_act, m_X7_act, nd, e1, e2, e3, cp, cq, ← hv, if_pos v0, if_pos r4, if_true, ← hτ]
    · have k1 : f_X8_whyNoVerdict (nI p) (nI q) (nI (2 ^ b)) (us τ 90 0 0 v) = 0 := by
        rw [← w, f_X8_whyNoVerdict, f_X8_whyNoVerdict, f_X8_isProcess, f_X8_isProcess, f_X8_isThing, f_X8_isThing, us_kk (show 8 ≠ 90 by decide), τk 8 (by decide) (by decide) (by decide)]
      have k2 : f_X8_verdictNow (nI p) (nI q) (nI (2 ^ b)) (us (us τ 90 0 0 v) 8 0 0 0) = v := hvm _ fun kk h1 h2 => by
        by_cases q8 : kk = 8
        · omega
        · rw [us_kk q8, us_kk h2, τk kk (by omega) (by omega) (by omega)]
      have z49 : (us τ 90 0 0 v) 49 0 p = σ 49 0 p := by rw [us_k (by decide), τk 49 (by decide) (by decide) (by decide)]
      have z50 : (us τ 90 0 0 v) 50 0 p = σ 50 0 p := by rw [us_k (by decide), τk 50 (by decide) (by decide) (by decide)]
      have z53 : (us τ 90 0 0 v) 53 0 p = σ 53 0 p := by rw [us_k (by decide), τk 53 (by decide) (by decide) (by decide)]
      rw [← hm1] at k2
      simp only [f_X8_act, k1, cp, z49, z50, z53, if_pos (show f_X8_rf 0 = 0 from rfl), ← hm1]
      rw [k2, if_pos v0, if_pos r4, ← hL, ← hX]
    · rw [us_k (by decide), us_k (by decide), us_k (by decide), hX, fs_X8_runAs (by decide) (by decide) (by decide), hL, fs_X8_log (by decide) (by decide) (by decide), hm1]
      exact us_h
  · have hc : m_X7_act (nI p) (nI q) (nI (2 ^ b)) σ = (none, v, s_X7_note (nI p) (nI q) (nI (2 ^ b)) v σ) := by
      simp only [m_X7_act, nd, e1, e2, e3, cp, cq, ← hv]
      by_cases v0 : v = 0
      · rw [if_pos v0, if_neg (fun q => hrun ⟨v0, q⟩)]
      · rw [if_neg v0]
    refine OKc.ok (τ := s_X7_note (nI p) (nI q) (nI (2 ^ b)) v σ) (x := v) (τ' := s_X8_log (nI p) (nI q) (nI (2 ^ b)) v (us (us (s_X7_note (nI p) (nI q) (nI (2 ^ b)) v σ) 90 0 0 v) 8 0 0 0)) ?_ ?_ ?_ ⟨T, P, K, N, hR.noted _ _ _ _ _⟩
    · rw [f_L_act, hc, if_pos rfl]
    · obtain ⟨s1, hs1⟩ : ∃ s1, s1 = us (s_X7_note (nI p) (nI q) (nI (2 ^ b)) v σ) 90 0 0 v := ⟨_, rfl⟩
      rw [← hs1]
      have sk : ∀ kk : Nat, kk ≠ 1 → kk ≠ 11 → kk ≠ 90 → s1 kk = σ kk := fun kk h1 h2 h3 => by
        rw [hs1, us_kk h3, fr_X7_note h1 h2]
      have k1 : f_X8_whyNoVerdict (nI p) (nI q) (nI (2 ^ b)) s1 = 0 := by
        rw [← w, f_X8_whyNoVerdict, f_X8_whyNoVerdict, f_X8_isProcess, f_X8_isProcess, f_X8_isThing, f_X8_isThing, sk 8 (by decide) (by decide) (by decide)]
      have k2 : f_X8_verdictNow (nI p) (nI q) (nI (2 ^ b)) (us s1 8 0 0 0) = v := hvm _ fun kk h1 h2 => by
        by_cases q8 : kk = 8
        · omega
        · rw [us_kk q8, sk kk (by omega) (by omega) h2]
      simp only [f_X8_act, k1, k2, if_pos (show f_X8_rf 0 = 0 from rfl)]
      by_cases v0 : v = 0
      · rw [if_pos v0, if_neg (fun q => hrun ⟨v0, q⟩)]
      · rw [if_neg v0]
    · rw [fs_X8_log (by decide) (by decide) (by decide)]
      exact us_h
