/-! acts -/
section VC
variable {c m : Sg}
/-- the rows of the model that a verdict reads are the same -/
def Mv (c m : Sg) : Prop := m 31 0 = c 31 0 ∧ m 32 0 = c 32 0 ∧ m 34 0 = c 34 0 ∧ m 35 0 = c 35 0 ∧ m 36 0 = c 36 0 ∧ m 37 0 = c 37 0 ∧ m 38 0 = c 38 0 ∧ m 39 0 = c 39 0 ∧ m 40 0 = c 40 0 ∧ m 41 0 = c 41 0 ∧ m 42 0 = c 42 0 ∧ m 43 0 = c 43 0 ∧ m 44 0 = c 44 0 ∧ m 46 0 = c 46 0 ∧ m 51 0 = c 51 0 ∧ m 52 0 = c 52 0 ∧ m 56 0 = c 56 0
theorem Mv.of (h : ∀ kk : Nat, kk ≠ 8 → 30 < kk → kk ≠ 90 → kk ≠ 77 → kk ≠ 49 → kk ≠ 50 → kk ≠ 53 → kk ≠ 73 → m kk 0 = c kk 0) : Mv c m :=
  ⟨h 31 (by decide) (by decide) (by decide) (by decide) (by decide) (by decide) (by decide) (by decide), h 32 (by decide) (by decide) (by decide) (by decide) (by decide) (by decide) (by decide) (by decide), h 34 (by decide) (by decide) (by decide) (by decide) (by decide) (by decide) (by decide) (by decide), h 35 (by decide) (by decide) (by decide) (by decide) (by decide) (by decide) (by decide) (by decide), h 36 (by decide) (by decide) (by decide) (by decide) (by decide) (by decide) (by decide) (by decide), h 37 (by decide) (by decide) (by decide) (by decide) (by decide) (by decide) (by decide) (by decide), h 38 (by decide) (by decide) (by decide) (by decide) (by decide) (by decide) (by decide) (by decide), h 39 (by decide) (by decide) (by decide) (by decide) (by decide) (by decide) (by decide) (by decide), h 40 (by decide) (by decide) (by decide) (by decide) (by decide) (by decide) (by decide) (by decide), h 41 (by decide) (by decide) (by decide) (by decide) (by decide) (by decide) (by decide) (by decide), h 42 (by decide) (by decide) (by decide) (by decide) (by decide) (by decide) (by decide) (by decide), h 43 (by decide) (by decide) (by decide) (by decide) (by decide) (by decide) (by decide) (by decide), h 44 (by decide) (by decide) (by decide) (by decide) (by decide) (by decide) (by decide) (by decide), h 46 (by decide) (by decide) (by decide) (by decide) (by decide) (by decide) (by decide) (by decide), h 51 (by decide) (by decide) (by decide) (by decide) (by decide) (by decide) (by decide) (by decide), h 52 (by decide) (by decide) (by decide) (by decide) (by decide) (by decide) (by decide) (by decide), h 56 (by decide) (by decide) (by decide) (by decide) (by decide) (by decide) (by decide) (by decide)⟩
theorem ab13_congr {u : Int32} (e : m 32 0 = c 32 0) : ∀ (n k : Nat) (a b : Int32), f_X8_above_L13 u n k a b m = f_X8_above_L13 u n k a b c
  | 0, _, _, _ => rfl
  | n + 1, k, a, b => by simp only [f_X8_above_L13, e, ab13_congr e n]
theorem ab4_congr {u : Int32} (e : m 32 0 = c 32 0) : ∀ (n : Nat) (a b : Int32), f_X8_above_L4 u n a b m = f_X8_above_L4 u n a b c
  | 0, _, _ => rfl
  | n + 1, a, b => by simp only [f_X8_above_L4, ab13_congr e, ab4_congr e n]
theorem go4_congr {u : Int32} (e : m 31 0 = c 31 0) : ∀ (n k : Nat) (a : Int32), f_X8_groupsOf_L4 u n k a m = f_X8_groupsOf_L4 u n k a c
  | 0, _, _ => rfl
  | n + 1, k, a => by simp only [f_X8_groupsOf_L4, e, go4_congr e n]
theorem groupsOf_congr {u : Int32} (e1 : m 31 0 = c 31 0) (e2 : m 32 0 = c 32 0) : f_X8_groupsOf u m = f_X8_groupsOf u c := by
  unfold f_X8_groupsOf f_X8_above
  rw [go4_congr e1, ab4_congr e2]
theorem eo_congr {t b u : Int32} (h : Mv c m) : ∀ (n k : Nat) (a : Int32), f_X8_entryOf_L6 t b u n k a m = f_X8_entryOf_L6 t b u n k a c
  | 0, _, _ => rfl
  | n + 1, k, a => by
    obtain ⟨-, -, -, -, -, -, -, -, -, e41, e42, e43, -⟩ := id h
    simp only [f_X8_entryOf_L6, e41, e42, e43, eo_congr h n]
theorem bg_congr {u t r : Int32} (h : Mv c m) : ∀ (n k : Nat) (a b : Int32), f_X8_byGroups_L79 u t r n k a b m = f_X8_byGroups_L79 u t r n k a b c
  | 0, _, _, _ => rfl
  | n + 1, k, a, b => by
    obtain ⟨-, -, -, -, -, -, -, -, e40, e41, e42, e43, e44, -⟩ := id h
    simp only [f_X8_byGroups_L79, e40, e41, e42, e43, e44, bg_congr h n]
theorem cr_congr {t : Int32} (h : Mv c m) : ∀ (n k : Nat) (a : Int32), f_X8_canRunAtAll_L38 t n k a m = f_X8_canRunAtAll_L38 t n k a c
  | 0, _, _ => rfl
  | n + 1, k, a => by
    obtain ⟨-, -, -, -, -, -, -, -, -, e41, -, -, e44, -⟩ := id h
    simp only [f_X8_canRunAtAll_L38, e41, e44, cr_congr h n]
theorem least_congr {u t r : Int32} (h : Mv c m) : f_X8_leastOf u t r m = f_X8_leastOf u t r c := by
  obtain ⟨e31, e32, e34, e35, e36, e37, e38, e39, e40, e41, e42, e43, e44, e46, -⟩ := id h
  unfold f_X8_leastOf f_X8_byGroups f_X8_entryOf
  rw [eo_congr h, groupsOf_congr e31 e32, e34, e35, e36, e40, e41, e44, bg_congr h, bg_congr h, bg_congr h]
theorem verdict_congr {u d k f t r : Int32} (h : Mv c m) : f_X8_verdictOf u d k f t r m = f_X8_verdictOf u d k f t r c := by
  obtain ⟨e31, e32, e34, e35, e36, e37, e38, e39, e40, e41, e42, e43, e44, e46, e51, e52, e56⟩ := id h
  unfold f_X8_verdictOf f_X8_verdictOf_J51 f_X8_verdictOf_J100 f_X8_verdictOf_J142 f_X8_canRunAtAll
  rw [least_congr h, cr_congr h, cr_congr h, e36, e37, e38, e39, e46, e51, e52, e56]
end VC
section CP
variable {σ : Sg} {i o : Nat}
theorem cp66k {kk : Nat} (h : kk ≠ 10) : ∀ (n k : Nat) (σ : Sg), s_X0_copyFrom_L66 i o n k σ kk = σ kk
  | 0, k, σ => rfl
  | n + 1, k, σ => by
    show (if 3 ≤ nI k then σ else s_X0_copyFrom_L66 i o n (k + 1) (us σ 10 i k (σ 10 o k))) kk = _
    by_cases q : 3 ≤ nI k
    · rw [if_pos q]
    · rw [if_neg q, cp66k h n (k + 1), us_kk h]
theorem cp66i {i' : Nat} (h : i' ≠ i) : ∀ (n k : Nat) (σ : Sg), s_X0_copyFrom_L66 i o n k σ 10 i' = σ 10 i'
  | 0, k, σ => rfl
  | n + 1, k, σ => by
    show (if 3 ≤ nI k then σ else s_X0_copyFrom_L66 i o n (k + 1) (us σ 10 i k (σ 10 o k))) 10 i' = _
    by_cases q : 3 ≤ nI k
    · rw [if_pos q]
    · rw [if_neg q, cp66i h n (k + 1)]
      funext j
      exact us_i h
theorem cp66 (h : o ≠ i) : ∀ (n k : Nat) (σ : Sg), n + k = 4 → k ≤ 3 → ∀ j : Nat, j < 3 → k ≤ j → s_X0_copyFrom_L66 i o n k σ 10 i j = σ 10 o j
  | 0, k, σ, hn, hk, _, _, _ => by omega
  | n + 1, k, σ, hn, hk, j, hj, hkj => by
    show (if 3 ≤ nI k then σ else s_X0_copyFrom_L66 i o n (k + 1) (us σ 10 i k (σ 10 o k))) 10 i j = _
    rw [if_neg (show ¬ (3 : Int32) ≤ nI k from nI_ge (b := 3) (by omega) (by decide))]
    by_cases e : j = k
    · subst e
      have lt : ∀ (n k : Nat) (τ : Sg), j < k → s_X0_copyFrom_L66 i o n k τ 10 i j = τ 10 i j := by
        intro n
        induction n with
        | zero => intro k τ _; rfl
        | succ n ih =>
          intro k τ hjk
          show (if 3 ≤ nI k then τ else s_X0_copyFrom_L66 i o n (k + 1) (us τ 10 i k (τ 10 o k))) 10 i j = _
          by_cases q : 3 ≤ nI k
          · rw [if_pos q]
          · rw [if_neg q, ih (k + 1) _ (by omega), us_j (by omega)]
      rw [lt n (j + 1) _ (by omega), us_h]
    · rw [cp66 h n (k + 1) _ (by omega) (by omega) j hj (by omega), us_i h]
/-- an actor made like another one -/
theorem copy_all (h : o ≠ i) : (∀ j : Nat, j < 8 → s_X0_copyFrom i o σ 0 i j = σ 0 o j) ∧ (∀ j : Nat, j < 3 → s_X0_copyFrom i o σ 10 i j = σ 10 o j) ∧ (∀ kk i' : Nat, (kk = 0 ∨ kk = 10) → i' ≠ i → s_X0_copyFrom i o σ kk i' = σ kk i') ∧ ∀ kk : Nat, kk ≠ 0 → kk ≠ 10 → s_X0_copyFrom i o σ kk = σ kk := by
  refine ⟨fun j hj => ?_, fun j hj => ?_, fun kk i' hk hi => ?_, fun kk h0 h10 => fr_X0_copyFrom h0 h10⟩
  · rw [s_X0_copyFrom, cp66k (by decide)]
    have h9 : j = 0 ∨ j = 1 ∨ j = 2 ∨ j = 3 ∨ j = 4 ∨ j = 5 ∨ j = 6 ∨ j = 7 := by omega
    rcases h9 with rfl | rfl | rfl | rfl | rfl | rfl | rfl | rfl <;> simp [us]
  · rw [s_X0_copyFrom, cp66 h 4 0 _ rfl (by omega) j hj (Nat.zero_le _)]
    simp [us]
  · rcases hk with rfl | rfl
    · rw [s_X0_copyFrom, cp66k (by decide)]
      funext j
      simp [us, hi]
    · rw [s_X0_copyFrom, cp66i hi]
      funext j
      simp [us]
end CP
/-! the log, written on both sides -/
theorem RR.noted {T P K N : Nat} {B : Sg} (h : RR T P K N B) (x t r v a : Int32) : RR T P K N (s_X8_log x t r v (us (us (s_X7_note x t r v B) 90 0 0 a) 8 0 0 0)) := by
  obtain ⟨-, -, -, -, -, -, s9, s37, s38, s39⟩ := h.s7
  obtain ⟨m, hm⟩ : ∃ m, m = us (us (s_X7_note x t r v B) 90 0 0 a) 8 0 0 0 := ⟨_, rfl⟩
  have m8 : ∀ j : Nat, j ≠ 0 → m 8 0 j = B 8 0 j := fun j hj => by
    rw [hm, us_j hj, us_k (by decide), fr_X7_note (by decide) (by decide)]
  have mk : ∀ kk : Nat, kk ≠ 8 → kk ≠ 90 → kk ≠ 1 → kk ≠ 11 → m kk = B kk := fun kk h1 h2 h3 h4 => by
    rw [hm, us_kk h1, us_kk h2, fr_X7_note h3 h4]
  have hl : Rl (B 1 0) (B 11 0) (m 8 0 40) (m 8 0 41) (m 8 0 42) (m 73 0) := by
    rw [m8 40 (by decide), m8 41 (by decide), m8 42 (by decide), mk 73 (by decide) (by decide) (by decide) (by decide)]
    exact h.2.2.2.2.2.2.2.2.1
  have hs := log_step (c := B) (m := m) hl (by rw [m8 37 (by decide), s37, s9]) (by rw [m8 38 (by decide), s38]) (by rw [m8 39 (by decide), s39]) x t r v
  rw [← hm]
  refine h.cl (fun kk i hk => ?_) (fun j hj => ?_) ?_
  · simp [scr] at hk
    rw [fr_X8_log (by omega) (by omega), mk kk (by omega) (by omega) (by omega) (by omega)]
  · simp at hj
    rw [fs_X8_log (by omega) (by omega) (by omega), m8 j (by omega)]
  · have e1 : s_X8_log x t r v m 1 = s_X7_note x t r v B 1 := by
      rw [fr_X8_log (by decide) (by decide), hm, us_kk (by decide), us_kk (by decide)]
    have e11 : s_X8_log x t r v m 11 = s_X7_note x t r v B 11 := by
      rw [fr_X8_log (by decide) (by decide), hm, us_kk (by decide), us_kk (by decide)]
    rw [e1, e11]
    exact hs
set_option maxHeartbeats 1000000 in
theorem st_actBy {σ : Sg} (h : RS σ) (k t r : Int32) : OKc (f_L_actBy k t r σ) (f_X8_actBy k t r) := by
  obtain ⟨T, P, K, N, hR⟩ := id h
  have hB := hR.b
  have pw0 : e_X7_needPower 0 = some "java/lang/UnsupportedOperationException" := rfl
  have pw1 : e_X7_needPower 1 = none := rfl
  rcases hR.act k with ⟨p, hp, rfl, e1, w1⟩ | ⟨e1, w1⟩
  rotate_left
  · exact OKc.er (c := 1) (x := 0) h (by decide) (by simp [f_L_actBy, m_X7_actBy, nd, e1]) (by simp [f_X8_actBy, w1])
  rcases hR.tok t with ⟨q, hq, rfl, e2, w2⟩ | ⟨e2, w2⟩
  rotate_left
  · exact OKc.er (c := 1) (x := 0) h (by decide) (by simp [f_L_actBy, m_X7_actBy, nd, e1, e2]) (by simp [f_X8_actBy, w1, w2])
  rcases c_right r with ⟨b, hb, rfl, e3, w3⟩ | ⟨e3, w3⟩
  rotate_left
  · exact OKc.er (c := 2) (x := 0) h (by decide) (by simp [f_L_actBy, m_X7_actBy, nd, e1, e2, e3]) (by simp [f_X8_actBy, w1, w2, w3])
  have cp : (nI p).toNatClampNeg = p := nI_clamp (by omega)
  have cq : (nI q).toNatClampNeg = q := nI_clamp (by omega)
  obtain ⟨⟨t0, t1, t2, t5, t6, t3, t4, t7⟩, -, ⟨tt, tt1, tt2⟩, -, n3, n4⟩ := hR.tk hq
  by_cases c4 : σ 6 q 6 = nI p
  rotate_left
  · refine OKc.er (c := 3) (x := 0) h (by decide) (by simp [f_L_actBy, m_X7_actBy, nd, e1, e2, e3, cq, c4, pw0]) ?_
    have c5 : ¬ σ 62 0 q = nI p := by rw [t6]; exact c4
    simp only [f_X8_actBy, w1, w2, w3, cq, if_neg c5, show ¬ (1 : Int32) = 0 by decide, if_false]
  -- the verdict and the state in which it was found
  have key : ∃ (v : Int32) (B : Sg), f_X7_judgeToken p (nI q) (nI (2 ^ b)) σ = (v, B) ∧ RR T P K N B ∧ (∀ kk : Nat, 30 < kk → B kk = σ kk) ∧ B 8 = σ 8 ∧ v = (if f_X8_lets (nI q) (nI (2 ^ b)) σ = 0 then 5 else f_X8_verdictOf (σ 63 0 q) (σ 64 0 q) (nI p) 0 (σ 58 0 q) (nI (2 ^ b)) σ) := by
    have hst := hR.there hq
    have hlets : f_X8_lets (nI q) (nI (2 ^ b)) σ = if (σ 6 q 1) &&& nI (2 ^ b) = 0 then 0 else if f_X7_isThereStill (nI q) σ = 0 then 0 else 1 := by
      rw [f_X8_lets, cq, t1, hst]
    by_cases c5 : (σ 6 q 1) &&& nI (2 ^ b) = 0
    · exact ⟨5, σ, by rw [f_X7_judgeToken, cq, if_pos c5], hR, fun _ _ => rfl, rfl, by rw [hlets, if_pos c5, if_pos rfl]⟩
    by_cases c6 : f_X7_isThereStill (nI q) σ = 0
    · exact ⟨5, σ, by rw [f_X7_judgeToken, cq, if_neg c5, if_pos c6], hR, fun _ _ => rfl, rfl, by rw [hlets, if_neg c5, if_pos c6, if_pos rfl]⟩
    obtain ⟨d1, d2, d3, d4⟩ := copy_all (σ := σ) (i := 8) (o := p) (by omega)
    obtain ⟨B, hBd⟩ : ∃ B, B = us (us (us (s_X0_copyFrom 8 p σ) 0 8 0 (σ 6 q 3)) 0 8 1 (σ 6 q 4)) 0 8 4 0 := ⟨_, rfl⟩
    have Bk : ∀ kk : Nat, kk ≠ 0 → kk ≠ 10 → B kk = σ kk := fun kk h0 h10 => by
      rw [hBd, us_kk h0, us_kk h0, us_kk h0, d4 kk h0 h10]
    have hRB : RR T P K N B := by
      refine hR.sc (fun kk i hk => ?_) (fun j hj => ?_)
      · by_cases q0 : kk = 0
        · subst q0
          simp [scr] at hk
          have hi : i ≠ 8 := by omega
          rw [hBd]
          funext j
          rw [us_i hi, us_i hi, us_i hi, d3 0 i (Or.inl rfl) hi]
        · by_cases q10 : kk = 10
          · subst q10
            simp [scr] at hk
            have hi : i ≠ 8 := by omega
            rw [hBd, us_kk (by decide), us_kk (by decide), us_kk (by decide), d3 10 i (Or.inr rfl) hi]
          · rw [Bk kk q0 q10]
      · rw [Bk 8 (by decide) (by decide)]
    obtain ⟨⟨-, -, a2, a3, -⟩, -, -, -⟩ := hR.2.2.2.2.2.1 p (by omega)
    obtain ⟨-, a7, -⟩ := hR.2.2.2.2.2.1 p (by omega)
    have B0 : B 0 8 0 = σ 6 q 3 := by rw [hBd]; simp [us]
    have B1 : B 0 8 1 = σ 6 q 4 := by rw [hBd]; simp [us]
    have B4 : B 0 8 4 = 0 := by rw [hBd]; simp [us]
    have hTr : Tr B 8 p := by
      refine ⟨by rw [B0]; exact n3, by rw [B1]; exact n4, ?_, ?_, ?_⟩
      · rw [Bk 51 (by decide) (by decide), a2, ← d1 2 (by decide), hBd]; simp [us]
      · rw [Bk 52 (by decide) (by decide), a3, ← d1 3 (by decide), hBd]; simp [us]
      · rw [Bk 56 (by decide) (by decide), a7 hp, ← d1 7 (by decide), hBd]; simp [us]
    refine ⟨f_X7_judge 8 tt (nI (2 ^ b)) B, B, ?_, hRB, fun kk hkk => Bk kk (by omega) (by omega), Bk 8 (by decide) (by decide), ?_⟩
    · rw [f_X7_judgeToken, cq, if_neg c5, if_neg c6, ← hBd, tt2, nI_clamp (by omega)]
    · rw [hlets, if_neg c5, if_neg c6, if_neg (by decide), ← hRB.judge hTr (by omega) tt1 hb, B0, B1, B4, t0, t3, t4, tt2]
      exact verdict_congr (Mv.of fun kk _ h2 _ _ _ _ _ _ => by rw [Bk kk (by omega) (by omega)])
  obtain ⟨v, B, j1, j2, j3, j8, j4⟩ := key
  obtain ⟨s1, hs1⟩ : ∃ s1, s1 = us (s_X7_note (nI p) (nI tt) (nI (2 ^ b)) v B) 90 0 0 v := ⟨_, rfl⟩
  have sk : ∀ kk : Nat, 30 < kk → kk ≠ 90 → s1 kk = σ kk := fun kk h1 h2 => by
    rw [hs1, us_kk h2, fr_X7_note (by omega) (by omega), j3 kk h1]
  have s8 : s1 8 = σ 8 := by
    rw [hs1, us_kk (by decide), fr_X7_note (by decide) (by decide), j8]
  refine OKc.ok (τ := s_X7_note (nI p) (nI tt) (nI (2 ^ b)) v B) (x := v) (τ' := s_X8_log (nI p) (nI tt) (nI (2 ^ b)) v (us s1 8 0 0 0)) ?_ ?_ ?_ ⟨T, P, K, N, by rw [hs1]; exact j2.noted _ _ _ _ _⟩
  · simp only [f_L_actBy, m_X7_actBy, nd, e1, e2, e3, cp, cq, if_pos c4, pw1, j1, tt2, if_true]
  · rw [← hs1]
    have k1 : f_X8_isProcess (nI p) s1 = 1 := by
      rw [f_X8_isProcess, s8]; exact w1
    have k2 : f_X8_isToken (nI q) s1 = 1 := by
      rw [f_X8_isToken, s8]; exact w2
    have x62 : s1 62 0 q = nI p := by rw [sk 62 (by decide) (by decide), t6]; exact c4
    have x58 : s1 58 0 q = nI tt := by rw [sk 58 (by decide) (by decide), t0]; exact tt2
    have xl : f_X8_lets (nI q) (nI (2 ^ b)) (us s1 8 0 0 0) = f_X8_lets (nI q) (nI (2 ^ b)) σ := by
      have es : f_X8_isStill (nI q) (us s1 8 0 0 0) = f_X8_isStill (nI q) σ := is_congr (by rw [us_kk (by decide), sk 60 (by decide) (by decide)]) (by rw [us_kk (by decide), sk 65 (by decide) (by decide)]) (by rw [us_kk (by decide), sk 66 (by decide) (by decide)]) (by rw [us_j (by decide), s8])
      rw [f_X8_lets, f_X8_lets, es, us_kk (show 59 ≠ 8 by decide), sk 59 (by decide) (by decide)]
    have xv : f_X8_verdictOf (σ 63 0 q) (σ 64 0 q) (nI p) 0 (nI tt) (nI (2 ^ b)) (us s1 8 0 0 0) = f_X8_verdictOf (σ 63 0 q) (σ 64 0 q) (nI p) 0 (nI tt) (nI (2 ^ b)) σ := verdict_congr (Mv.of fun kk h1 h2 h3 _ _ _ _ _ => by rw [us_kk h1, sk kk h2 h3])
    rw [t0, tt2] at j4
    simp only [f_X8_actBy, k1, k2, w3, cq, if_pos x62, xl, x58, sk 63 (by decide) (by decide), sk 64 (by decide) (by decide), xv, show ¬ (1 : Int32) = 0 by decide, if_false]
    by_cases c5 : f_X8_lets (nI q) (nI (2 ^ b)) σ = 0
    · rw [if_pos c5] at j4
      rw [if_pos c5, j4]
    · rw [if_neg c5] at j4
      rw [if_neg c5, ← j4]
  · rw [fs_X8_log (by decide) (by decide) (by decide)]
    exact us_h
/-! what is run is run -/
theorem r512 (x : Int32) : (x &&& 512 = 0) ↔ bt x 9 = false := r0 x (b := 9) (by decide)
/-- whom one becomes who runs a thing -/
def nuU (m9 : Bool) (ow u : Int32) : Int32 := if m9 = true then ow else u
def nuD (to d : Int32) : Int32 := if to = -1 then d else to
def nuF (m9 : Bool) (ow bo f : Int32) : Int32 := if m9 = true then (if ow = 0 then bo else 0) else f
theorem co_all {c : Sg} {i t : Nat} : s_X7_carryOutRun i t c 0 i 0 = nuU (bt (c 5 t 2) 9) (c 5 t 0) (c 0 i 0) ∧ s_X7_carryOutRun i t c 0 i 1 = nuD (f_X3_moveOf (c 0 i 1) (c 5 t 3) c) (c 0 i 1) ∧ s_X7_carryOutRun i t c 0 i 4 = nuF (bt (c 5 t 2) 9) (c 5 t 0) (c 0 i 5) (c 0 i 4) ∧ (∀ j : Nat, j ≠ 0 → j ≠ 1 → j ≠ 4 → s_X7_carryOutRun i t c 0 i j = c 0 i j) ∧ (∀ i' : Nat, i' ≠ i → s_X7_carryOutRun i t c 0 i' = c 0 i') ∧ ∀ kk : Nat, kk ≠ 0 → s_X7_carryOutRun i t c kk = c kk := by
  have h9 := r512 (c 5 t 2)
  refine ⟨?_, ?_, ?_, fun j h0 h1 h4 => ?_, fun i' hi => ?_, fun kk hk => fr_X7_carryOutRun hk⟩
  rotate_right
  · funext j
    unfold s_X7_carryOutRun
    by_cases c1 : f_X3_moveOf (c 0 i 1) (c 5 t 3) c = -1 <;> cases c2 : bt (c 5 t 2) 9 <;> by_cases c3 : c 5 t 0 = 0 <;> simp_all [us]
  all_goals
    unfold s_X7_carryOutRun
    by_cases c1 : f_X3_moveOf (c 0 i 1) (c 5 t 3) c = -1 <;> cases c2 : bt (c 5 t 2) 9 <;> by_cases c3 : c 5 t 0 = 0
  all_goals
    rw [c2] at h9
    simp_all [us, nuU, nuD, nuF]
theorem ra_all {m : Sg} {k u d f t : Int32} : s_X8_runAs k u d f t m 8 0 44 = nuU (bt (m 36 0 t.toNatClampNeg) 9) (m 34 0 t.toNatClampNeg) u ∧ s_X8_runAs k u d f t m 8 0 45 = nuD (m 47 0 ((((4 : Int32) * d) + (m 37 0 t.toNatClampNeg)).toNatClampNeg)) d ∧ s_X8_runAs k u d f t m 8 0 46 = nuF (bt (m 36 0 t.toNatClampNeg) 9) (m 34 0 t.toNatClampNeg) (m 54 0 k.toNatClampNeg) f := by
  have h9 : (f_X8_hasBit (m 36 0 t.toNatClampNeg) 9 = 0) ↔ bt (m 36 0 t.toNatClampNeg) 9 = false := by
    have := hasBit_bt (m 36 0 t.toNatClampNeg) (b := 9) (by decide)
    rw [show f_X8_hasBit (m 36 0 t.toNatClampNeg) 9 = _ from this]
    cases bt (m 36 0 t.toNatClampNeg) 9 <;> decide
  refine ⟨?_, ?_, ?_⟩
  all_goals
    unfold s_X8_runAs
    by_cases c1 : m 47 0 ((((4 : Int32) * d) + (m 37 0 t.toNatClampNeg)).toNatClampNeg) = -1 <;> cases c2 : bt (m 36 0 t.toNatClampNeg) 9 <;> by_cases c3 : m 34 0 t.toNatClampNeg = 0
  all_goals
    rw [c2] at h9
    simp_all [us, nuU, nuD, nuF]
