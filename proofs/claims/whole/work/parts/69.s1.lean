/-! verdicts -/
theorem iteb (x : Int32) {b : Nat} (hb : b < 32) : (if x &&& nI (2 ^ b) = 0 then (0 : Int32) else 1) = bI (bt x b) := one_bt x hb
theorem bI_0 {c : Bool} : bI c = 0 ↔ c = false := by cases c <;> decide
section RW1
variable {T P K N : Nat} {σ : Sg}
theorem RR.en (h : RR T P K N σ) {t : Nat} (ht : t < 12) : ∃ (n : Nat) (sj : Nat → Nat), n ≤ 5 ∧ σ 41 0 t = nI n ∧ σ 5 t 7 = nI n ∧ En σ t n sj (σ 20 t) (σ 5 t 8) := by
  obtain ⟨-, -, -, ⟨n, n1, n2, n3, sj, hs⟩, -⟩ := h.2.2.2.1 t ht
  exact ⟨n, sj, n1, n2, n3, hs⟩
theorem le0 {n : Nat} (hn : n < 100) : decide (nI n ≤ 0) = decide (n = 0) := by
  by_cases e : n = 0
  · subst e; rfl
  · rw [decide_eq_false (nI_nle (by omega) (by omega)), decide_eq_false e]
/-- the ways that modes and entries give, on both sides -/
theorem RR.wy (h : RR T P K N σ) {t u b : Nat} (ht : t < T) (hu : u < 6) (hb : b < 3) : ∃ w : Nat, w ≤ 7 ∧ f_X5_countWays t (nI u) (σ 14 0 u) (nI (2 ^ b)) σ = nI w ∧ f_X8_leastOf (nI u) (nI t) (nI (2 ^ b)) σ = nI w ∧ ∃ o gr n : Nat, o < 6 ∧ gr < 6 ∧ σ 5 t 0 = nI o ∧ σ 5 t 1 = nI gr ∧ σ 5 t 7 = nI n ∧ n ≤ 5 ∧ w = ways o gr (σ 5 t 2) (σ 5 t 6) (σ 20 t) (decide (n = 0)) u (σ 14 0 u) b := by
  have hB := h.b
  obtain ⟨n, sj, n1, n2, n3, he⟩ := h.en (t := t) (by omega)
  obtain ⟨⟨q0, q1, q2, -⟩, q6, ⟨⟨o, o1, o2⟩, ⟨gr, g1, g2⟩, -⟩, -⟩ := h.2.2.2.1 t (by omega)
  have e1 := countWays_eq (σ := σ) (i := t) (u := u) (G := σ 14 0 u) (b := b) o1 g1 hu hb o2 g2
  have e2 := leastOf_eq (G := σ 14 0 u) he (by omega) n1 n2 o1 g1 hu hb (q0.trans o2) (q1.trans g2) (h.groups hu)
  rw [n3, le0 (by omega)] at e1
  rw [q2, q6 ht] at e2
  refine ⟨_, ?_, e1, e2, o, gr, n, o1, g1, o2, g2, n3, n1, rfl⟩
  unfold ways
  have := sw_le (wP (σ 20 t) (σ 14 0 u) (σ 5 t 6) b) 6
  have c1 := cz_b (bt (σ 5 t 2) (6 + b))
  have c2 := cz_b (bt (σ 14 0 u) gr && (bt (σ 5 t 2) (3 + b) && (decide (n = 0) || bt (σ 5 t 6) b)))
  have c3 := cz_b (bt (σ 5 t 2) b)
  have c4 := cz_b (bt (σ 20 t u) b && bt (σ 5 t 6) b)
  (repeat' split) <;> omega
theorem sr24 {i : Nat} : ∀ (n k : Nat) (v : Int32), n + k = 13 → k ≤ 12 → (bt (f_X5_hasSomeRun_L24 i n k v σ) 2 = true ↔ bt v 2 = true ∨ ∃ s : Nat, k ≤ s ∧ s < 12 ∧ pe (σ 20 i) s = true ∧ bt (σ 20 i s) 2 = true)
  | 0, k, v, h, h6 => by omega
  | n + 1, k, v, h, h6 => by
    show bt (if 12 ≤ nI k then v else if (σ 20 i k) = (-1) then f_X5_hasSomeRun_L24 i n (k + 1) (v ||| (0 : Int32)) σ else f_X5_hasSomeRun_L24 i n (k + 1) (v ||| (σ 20 i k)) σ) 2 = true ↔ _
    by_cases hk : k = 12
    · rw [if_pos (by rw [hk]; decide)]
      exact ⟨fun q => Or.inl q, fun q => q.elim id fun ⟨s, s1, s2, _⟩ => by omega⟩
    · rw [if_neg (show ¬ (12 : Int32) ≤ nI k from nI_ge (b := 12) (by omega) (by decide))]
      by_cases h0 : σ 20 i k = -1
      · rw [if_pos h0, sr24 n (k + 1) _ (by omega) (by omega), b_or, b_0, Bool.or_false]
        constructor
        · rintro (q | ⟨s, s1, s2, s3⟩)
          · exact Or.inl q
          · exact Or.inr ⟨s, by omega, s2, s3⟩
        · rintro (q | ⟨s, s1, s2, s3, s4⟩)
          · exact Or.inl q
          · by_cases e : s = k
            · subst e
              simp [pe, h0] at s3
            · exact Or.inr ⟨s, by omega, s2, s3, s4⟩
      · rw [if_neg h0, sr24 n (k + 1) _ (by omega) (by omega), b_or, Bool.or_eq_true]
        constructor
        · rintro ((q | q) | ⟨s, s1, s2, s3⟩)
          · exact Or.inl q
          · exact Or.inr ⟨k, Nat.le_refl _, by omega, by simp [pe, h0], q⟩
          · exact Or.inr ⟨s, by omega, s2, s3⟩
        · rintro (q | ⟨s, s1, s2, s3, s4⟩)
          · exact Or.inl (Or.inl q)
          · by_cases e : s = k
            · subst e
              exact Or.inl (Or.inr s4)
            · exact Or.inr ⟨s, by omega, s2, s3, s4⟩
/-- some right to run is in the mode or an entry -/
def sRun (m : Int32) (e : Nat → Int32) : Prop := bt m 8 = true ∨ bt m 5 = true ∨ bt m 2 = true ∨ ∃ s : Nat, s < 12 ∧ pe e s = true ∧ bt (e s) 2 = true
theorem someRun_iff {i : Nat} : (f_X5_hasSomeRun i σ = 0) ↔ ¬ sRun (σ 5 i 2) (σ 20 i) := by
  have h := sr24 (σ := σ) (i := i) 13 0 ((((σ 5 i 2) >>> ((6 : Int32) &&& 31)) ||| ((σ 5 i 2) >>> ((3 : Int32) &&& 31))) ||| ((σ 5 i 2) >>> ((0 : Int32) &&& 31))) rfl (by omega)
  have s6 : bt ((σ 5 i 2) >>> ((6 : Int32) &&& 31)) 2 = bt (σ 5 i 2) 8 := sh_bt _ (n := 6) (by omega)
  have s3 : bt ((σ 5 i 2) >>> ((3 : Int32) &&& 31)) 2 = bt (σ 5 i 2) 5 := sh_bt _ (n := 3) (by omega)
  have s0 : bt ((σ 5 i 2) >>> ((0 : Int32) &&& 31)) 2 = bt (σ 5 i 2) 2 := sh_bt _ (n := 0) (by omega)
  rw [b_or, b_or, s6, s3, s0] at h
  have e : (f_X5_hasSomeRun i σ = 0) ↔ bt (f_X5_hasSomeRun_L24 i 13 0 ((((σ 5 i 2) >>> ((6 : Int32) &&& 31)) ||| ((σ 5 i 2) >>> ((3 : Int32) &&& 31))) ||| ((σ 5 i 2) >>> ((0 : Int32) &&& 31))) σ) 2 = false := by
    rw [f_X5_hasSomeRun, f_X5_hasSomeRun_K24, show (4 : Int32) = nI (2 ^ 2) from rfl, iteb _ (by decide), bI_0]
  rw [e, ← Bool.not_eq_true, h, sRun]
  simp only [Bool.or_eq_true, Nat.zero_le, true_and]
  constructor
  · intro q q2
    apply q
    rcases q2 with q2 | q2 | q2 | q2
    · exact Or.inl (Or.inl (Or.inl q2))
    · exact Or.inl (Or.inl (Or.inr q2))
    · exact Or.inl (Or.inr q2)
    · exact Or.inr q2
  · intro q q2
    apply q
    rcases q2 with ((q2 | q2) | q2) | q2
    · exact Or.inl q2
    · exact Or.inr (Or.inl q2)
    · exact Or.inr (Or.inr (Or.inl q2))
    · exact Or.inr (Or.inr (Or.inr q2))
theorem cr38 {t n : Nat} (ht : t < 12) (hn : n ≤ 5) (h41 : σ 41 0 t = nI n) : ∀ (f k : Nat) (v : Int32), f + k = 6 → k ≤ n → (f_X8_canRunAtAll_L38 (nI t) f k v σ = 0 ↔ v = 0 ∧ ∀ j : Nat, k ≤ j → j < n → bt (σ 44 0 (5 * t + j)) 2 = false)
  | 0, k, v, hf, hk => by omega
  | f + 1, k, v, hf, hk => by
    show ((if (σ 41 0 (nI t).toNatClampNeg) ≤ (nI k) then v else if v = 0 then (if ((σ 44 0 ((((5 : Int32) * (nI t)) + (nI k)).toNatClampNeg)) &&& (4 : Int32)) = 0 then f_X8_canRunAtAll_L38 (nI t) f (k + 1) 0 σ else f_X8_canRunAtAll_L38 (nI t) f (k + 1) 1 σ) else f_X8_canRunAtAll_L38 (nI t) f (k + 1) 1 σ) = 0) ↔ _
    rw [nI_clamp (by omega), h41]
    by_cases hkn : k = n
    · rw [if_pos (nI_le (by omega) (by omega))]
      exact ⟨fun q => ⟨q, fun j j1 j2 => by omega⟩, fun q => q.1⟩
    · have hk2 : k < n := by omega
      rw [if_neg (nI_ge hk2 (by omega)), i5k ht (by omega)]
      have ih0 := cr38 ht hn h41 f (k + 1) 0 (by omega) (by omega)
      have ih1 := cr38 ht hn h41 f (k + 1) 1 (by omega) (by omega)
      have r4 : ((σ 44 0 (5 * t + k)) &&& (4 : Int32) = 0) ↔ bt (σ 44 0 (5 * t + k)) 2 = false := r0 _ (b := 2) (by decide)
      by_cases hv : v = 0
      · rw [if_pos hv]
        by_cases h4 : (σ 44 0 (5 * t + k)) &&& (4 : Int32) = 0
        · rw [if_pos h4, ih0]
          constructor
          · rintro ⟨-, q⟩
            refine ⟨hv, fun j j1 j2 => ?_⟩
            by_cases e : j = k
            · subst e; exact r4.mp h4
            · exact q j (by omega) j2
          · rintro ⟨-, q⟩
            exact ⟨rfl, fun j j1 j2 => q j (by omega) j2⟩
        · rw [if_neg h4, ih1]
          constructor
          · rintro ⟨q, -⟩
            exact absurd q (by decide)
          · rintro ⟨-, q⟩
            exact absurd (r4.mpr (q k (Nat.le_refl _) hk2)) h4
      · rw [if_neg hv, ih1]
        constructor
        · rintro ⟨q, -⟩
          exact absurd q (by decide)
        · rintro ⟨q, -⟩
          exact absurd q hv
theorem RR.canRun (h : RR T P K N σ) {t : Nat} (ht : t < 12) : (f_X8_canRunAtAll (nI t) σ = 0) ↔ ¬ sRun (σ 5 t 2) (σ 20 t) := by
  obtain ⟨n, sj, n1, n2, n3, he⟩ := h.en ht
  obtain ⟨⟨-, -, q2, -⟩, -⟩ := h.2.2.2.1 t ht
  have s6 : bt ((σ 5 t 2) >>> ((6 : Int32) &&& 31)) 2 = bt (σ 5 t 2) 8 := sh_bt _ (n := 6) (by omega)
  have s3 : bt ((σ 5 t 2) >>> ((3 : Int32) &&& 31)) 2 = bt (σ 5 t 2) 5 := sh_bt _ (n := 3) (by omega)
  have r4 : ∀ x : Int32, (x &&& (4 : Int32) = 0) ↔ bt x 2 = false := fun x => r0 _ (b := 2) (by decide)
  have ent : (∀ j : Nat, 0 ≤ j → j < n → bt (σ 44 0 (5 * t + j)) 2 = false) ↔ ¬ ∃ s : Nat, s < 12 ∧ pe (σ 20 t) s = true ∧ bt (σ 20 t s) 2 = true := by
    constructor
    · rintro q ⟨s, s1, s2, s3⟩
      rw [he.pz s1] at s2
      obtain ⟨k, k1, k2⟩ := anyb_iff.mp s2
      have k3 : sj k = s := by simpa using k2
      have := q k (Nat.zero_le _) k1
      obtain ⟨-, -, -, g4, -⟩ := he.1 k k1
      rw [g4, k3, s3] at this
      exact absurd this (by decide)
    · intro q j _ hj
      obtain ⟨g1, -, -, g4, -⟩ := he.1 j hj
      rw [g4]
      cases e : bt (σ 20 t (sj j)) 2
      · rfl
      · exact absurd ⟨sj j, g1, by rw [he.pz g1]; exact anyb_iff.mpr ⟨j, hj, by simp⟩, e⟩ q
  rw [f_X8_canRunAtAll, nI_clamp (show t < 2 ^ 31 by omega), q2]
  by_cases c : ((((σ 5 t 2) >>> ((6 : Int32) &&& 31)) ||| ((σ 5 t 2) >>> ((3 : Int32) &&& 31))) ||| (σ 5 t 2)) &&& (4 : Int32) = 0
  · have c2 := (r4 _).mp c
    rw [b_or, b_or, s6, s3] at c2
    rw [if_pos c, cr38 ht n1 n2 6 0 0 rfl (by omega), ent, sRun]
    have a1 : bt (σ 5 t 2) 8 = false := by revert c2; cases bt (σ 5 t 2) 8 <;> simp
    have a2 : bt (σ 5 t 2) 5 = false := by revert c2; cases bt (σ 5 t 2) 5 <;> simp
    have a3 : bt (σ 5 t 2) 2 = false := by revert c2; cases bt (σ 5 t 2) 2 <;> simp
    simp [a1, a2, a3]
  · have c2 : ¬ bt ((((σ 5 t 2) >>> ((6 : Int32) &&& 31)) ||| ((σ 5 t 2) >>> ((3 : Int32) &&& 31))) ||| (σ 5 t 2)) 2 = false := fun q => c ((r4 _).mpr q)
    rw [b_or, b_or, s6, s3] at c2
    rw [if_neg c, cr38 ht n1 n2 6 0 1 rfl (by omega), sRun]
    constructor
    · rintro ⟨q, -⟩
      exact absurd q (by decide)
    · intro q
      exfalso
      apply c2
      cases e1 : bt (σ 5 t 2) 8
      · cases e2 : bt (σ 5 t 2) 5
        · cases e3 : bt (σ 5 t 2) 2
          · rfl
          · exact absurd (Or.inr (Or.inr (Or.inl e3))) q
        · exact absurd (Or.inr (Or.inl e2)) q
      · exact absurd (Or.inl e1) q
/-- a way to run is a right to run -/
theorem ways_run {o gr u : Nat} {m k : Int32} {e : Nat → Int32} {ne : Bool} {G : Int32} (hu : u < 12) (h : 0 < ways o gr m k e ne u G 2) : sRun m e := by
  unfold ways at h
  split at h
  · cases q : bt m (6 + 2)
    · rw [q] at h; exact absurd h (by decide)
    · exact Or.inl q
  · split at h
    · split at h
      · by_cases q : 0 < sw (wP e G k 2) 6
        · obtain ⟨i, i1, i2⟩ := anyb_iff.mp (sw_pos.mp q)
          simp only [wP, wQ, Bool.and_eq_true] at i2
          exact Or.inr (Or.inr (Or.inr ⟨6 + i, by omega, i2.1.1, i2.2.1⟩))
        · cases q2 : bt m (3 + 2)
          · rw [q2] at h
            simp at h
            omega
          · exact Or.inr (Or.inl q2)
      · cases q : bt m 2
        · rw [q] at h; exact absurd h (by decide)
        · exact Or.inr (Or.inr (Or.inl q))
    · rename_i h1 h2
      cases q : bt (e u) 2
      · rw [q] at h; simp at h
      · exact Or.inr (Or.inr (Or.inr ⟨u, hu, by simpa [pe] using h2, q⟩))
/-- an actor that stands for a process, whoever it is by now -/
def Tr (σ : Sg) (i p : Nat) : Prop := nb 6 (σ 0 i 0) ∧ nb 4 (σ 0 i 1) ∧ σ 0 i 2 = σ 51 0 p ∧ σ 0 i 3 = σ 52 0 p ∧ σ 0 i 7 = σ 56 0 p
theorem RR.beyond (h : RR T P K N σ) {i p t : Nat} (hA : Tr σ i p) (hp : p < 8) (ht : t < 12) (u f r : Int32) : f_X8_verdictOf_J51 u (σ 0 i 1) (nI p) f (nI t) r 1 σ = f_X7_judgeBeyondModes i t r (σ 0 i 7) σ := by
  obtain ⟨-, ⟨d, d1, d2⟩, a2, a3, a7⟩ := hA
  obtain ⟨⟨-, -, -, q3, q4, q5⟩, -, ⟨-, -, -, ⟨ty, t1, t2⟩, -⟩, -⟩ := h.2.2.2.1 t ht
  obtain ⟨r1, -⟩ := h.2.2.2.2.1 (4 * d + ty) (by omega)
  obtain ⟨i1, i2, i3⟩ := ix1 d d1 ty t1
  have er : f_X3_rightsOf (σ 0 i 1) (σ 5 t 3) σ = σ 16 0 (4 * d + ty) := by
    rw [d2, t2, f_X3_rightsOf, i1, if_neg (by decide), i2]
  simp only [f_X8_verdictOf_J51, f_X8_verdictOf_J100, f_X8_verdictOf_J142, nI_clamp (show p < 2 ^ 31 by omega), nI_clamp (show t < 2 ^ 31 by omega), q3, t2, d2, i3, r1, q4, q5, ← a2, ← a3, ← a7, f_X7_judgeBeyondModes, f_X7_dominates]
  rw [d2, t2] at er
  rw [er]
  by_cases c1 : σ 0 i 2 < σ 5 t 4 <;> by_cases c2 : σ 5 t 4 < σ 0 i 2 <;> by_cases c3 : σ 5 t 5 &&& (σ 0 i 3 ^^^ (-1 : Int32)) = 0 <;> by_cases c4 : σ 0 i 3 &&& (σ 5 t 5 ^^^ (-1 : Int32)) = 0 <;> by_cases c5 : r = 2 <;> simp only [if_pos, if_neg, c1, c2, c3, c4, c5, show ¬ (1 : Int32) = 0 by decide, not_false_eq_true, if_true, if_false]
theorem RR.judge (h : RR T P K N σ) {i p t b : Nat} (hA : Tr σ i p) (hp : p < 8) (ht : t < T) (hb : b < 3) : f_X8_verdictOf (σ 0 i 0) (σ 0 i 1) (nI p) (σ 0 i 4) (nI t) (nI (2 ^ b)) σ = f_X7_judge i t (nI (2 ^ b)) σ := by
  have hB := h.b
  have hJ := h.beyond hA hp (t := t) (by omega) (σ 0 i 0) (σ 0 i 4) (nI (2 ^ b))
  obtain ⟨⟨u, u1, u2⟩, -⟩ := hA
  have hg : f_X2_groupsOf (nI u) σ = σ 14 0 u := by
    rw [f_X2_groupsOf, if_neg (nI_pos (by omega)), if_pos (show nI u < 6 from nI_lt (b := 6) u1 (by decide)), nI_clamp (by omega)]
  obtain ⟨w, w1, w2, w3, o, gr, n, o1, g1, o2, g2, n2, n3, w4⟩ := h.wy (b := b) ht u1 hb
  have ew : (nI w ≤ 0) ↔ w = 0 := by
    constructor
    · intro q
      refine Classical.byContradiction fun q2 => ?_
      exact nI_nle (by omega) (by omega) q
    · rintro rfl; decide
  have ew2 : (nI w = 0) ↔ w = 0 := by
    constructor
    · intro q
      refine Classical.byContradiction fun q2 => ?_
      exact nI_ne0 (by omega) (by omega) q
    · rintro rfl; rfl
  have hf : f_X0_isFine i 1 σ = f_X8_hasBit (σ 0 i 4) 0 := by
    have e : (σ 0 i 4 &&& 1 = 0) ↔ f_X8_hasBit (σ 0 i 4) 0 = 0 := fineB (σ 0 i 4) (b := 0) (by decide)
    rw [f_X0_isFine]
    rcases hasBit01 (σ 0 i 4) 0 with q | q
    · rw [if_pos (e.mpr q), q]
    · rw [if_neg (fun q2 => by rw [e.mp q2] at q; exact absurd q (by decide)), q]
  have j0 : ∀ d9 : Int32, f_X8_verdictOf_J51 (σ 0 i 0) d9 (nI p) (σ 0 i 4) (nI t) (nI (2 ^ b)) 0 σ = 1 := fun _ => rfl
  rw [f_X8_verdictOf, f_X7_judge, hf, j0, hJ, u2, hg, w2, w3]
  by_cases c1 : f_X8_hasBit (σ 0 i 4) 0 = 0
  · rw [if_pos c1, if_pos c1]
    by_cases c2 : w = 0
    · rw [if_pos (ew.mpr c2), if_pos (ew2.mpr c2)]
    · rw [if_neg (fun q => c2 (ew.mp q)), if_neg (fun q => c2 (ew2.mp q))]
  · rw [if_neg c1, if_neg c1]
    by_cases c3 : nI (2 ^ b) = 4
    · rw [if_pos c3, if_pos c3]
      have b2 : b = 2 := by
        have h9 : b = 0 ∨ b = 1 ∨ b = 2 := by omega
        rcases h9 with rfl | rfl | rfl
        · exact absurd c3 (by decide)
        · exact absurd c3 (by decide)
        · rfl
      subst b2
      by_cases c4 : f_X5_hasSomeRun t σ = 0
      · have c5 := someRun_iff.mp c4
        have c6 : w = 0 := Nat.eq_zero_of_not_pos fun q => c5 (ways_run (u := u) (by omega) (by rw [← w4]; exact q))
        rw [if_pos c4, if_pos ((h.canRun (by omega)).mpr c5), if_pos (ew2.mpr c6)]
      · rw [if_neg c4, if_neg (fun q => c4 (someRun_iff.mpr ((h.canRun (by omega)).mp q)))]
    · rw [if_neg c3, if_neg c3]
theorem RR.actor (h : RR T P K N σ) {p : Nat} (hp : p < P) : Tr σ p p ∧ σ 0 p 0 = σ 49 0 p ∧ σ 0 p 1 = σ 50 0 p ∧ σ 0 p 4 = σ 53 0 p := by
  have hB := h.b
  obtain ⟨⟨a0, a1, a2, a3, a4, a5, a6⟩, a7, ⟨n0, n1, n4, n5⟩, -⟩ := h.2.2.2.2.2.1 p (by omega)
  exact ⟨⟨n0, n1, a2.symm, a3.symm, (a7 hp).symm⟩, a0.symm, a1.symm, a4.symm⟩
theorem RR.now (h : RR T P K N σ) {p t b : Nat} (hp : p < P) (ht : t < T) (hb : b < 3) : f_X8_verdictNow (nI p) (nI t) (nI (2 ^ b)) σ = f_X7_judge p t (nI (2 ^ b)) σ := by
  have hB := h.b
  obtain ⟨hA, a0, a1, a4⟩ := h.actor hp
  rw [f_X8_verdictNow, nI_clamp (by omega), ← a0, ← a1, ← a4]
  exact h.judge hA (by omega) ht hb
theorem RR.why2 (h : RR T P K N σ) (k t r : Int32) : (∃ p q b : Nat, p < P ∧ q < T ∧ b < 3 ∧ k = nI p ∧ t = nI q ∧ r = nI (2 ^ b) ∧ e_X7_needActor k σ = none ∧ e_X7_needThing t σ = none ∧ e_X7_needRight r = none ∧ f_X8_whyNoVerdict k t r σ = 0) ∨ (e_X7_needActor k σ = some "java/lang/IndexOutOfBoundsException" ∧ f_X8_whyNoVerdict k t r σ = 1) ∨ (e_X7_needActor k σ = none ∧ e_X7_needThing t σ = some "java/lang/IndexOutOfBoundsException" ∧ f_X8_whyNoVerdict k t r σ = 1) ∨ (e_X7_needActor k σ = none ∧ e_X7_needThing t σ = none ∧ e_X7_needRight r = some "java/lang/IllegalArgumentException" ∧ f_X8_whyNoVerdict k t r σ = 2) := by
  rcases h.act k with ⟨p, p1, p2, p3, p4⟩ | ⟨p3, p4⟩
  · rcases h.thi t with ⟨q, q1, q2, q3, q4⟩ | ⟨q3, q4⟩
    · rcases c_right r with ⟨b, b1, b2, b3, b4⟩ | ⟨b3, b4⟩
      · exact Or.inl ⟨p, q, b, p1, q1, b1, p2, q2, b2, p3, q3, b3, by rw [f_X8_whyNoVerdict, p4, q4, b4]; rfl⟩
      · exact Or.inr (Or.inr (Or.inr ⟨p3, q3, b3, by rw [f_X8_whyNoVerdict, p4, q4, b4]; rfl⟩))
    · exact Or.inr (Or.inr (Or.inl ⟨p3, q3, by rw [f_X8_whyNoVerdict, p4, q4]; rfl⟩))
  · exact Or.inr (Or.inl ⟨p3, by rw [f_X8_whyNoVerdict, p4]; rfl⟩)
end RW1
/-! what a verdict reads -/
theorem cwL_congr {i : Nat} {u g r : Int32} {c m : Sg} (e5 : m 5 i = c 5 i) (e20 : m 20 i = c 20 i) : ∀ (n k : Nat) (a b : Int32), f_X5_countWays_L73 i u g r n k a b m = f_X5_countWays_L73 i u g r n k a b c
  | 0, _, _, _ => rfl
  | n + 1, k, a, b => by
    simp only [f_X5_countWays_L73, e5, e20, cwL_congr e5 e20 n]
theorem cw_congr {i : Nat} {u g r : Int32} {c m : Sg} (e5 : m 5 i = c 5 i) (e20 : m 20 i = c 20 i) : f_X5_countWays i u g r m = f_X5_countWays i u g r c := by
  unfold f_X5_countWays f_X5_countWays_K73 f_X5_countWays_K73b f_X5_rightsOf
  rw [e5, e20, cwL_congr e5 e20 7 0 0 0, cwL_congr e5 e20 7 0 0 1]
theorem srL_congr {i : Nat} {c m : Sg} (e20 : m 20 i = c 20 i) : ∀ (n k : Nat) (a : Int32), f_X5_hasSomeRun_L24 i n k a m = f_X5_hasSomeRun_L24 i n k a c
  | 0, _, _ => rfl
  | n + 1, k, a => by
    simp only [f_X5_hasSomeRun_L24, e20, srL_congr e20 n]
theorem sr_congr {i : Nat} {c m : Sg} (e5 : m 5 i = c 5 i) (e20 : m 20 i = c 20 i) : f_X5_hasSomeRun i m = f_X5_hasSomeRun i c := by
  unfold f_X5_hasSomeRun f_X5_hasSomeRun_K24
  rw [srL_congr e20, e5]
theorem judge_congr {i t : Nat} {r : Int32} {c m : Sg} (e0 : m 0 i = c 0 i) (e5 : m 5 t = c 5 t) (e14 : m 14 0 = c 14 0) (e16 : m 16 0 = c 16 0) (e20 : m 20 t = c 20 t) : f_X7_judge i t r m = f_X7_judge i t r c := by
  unfold f_X7_judge f_X7_judgeBeyondModes f_X3_rightsOf f_X2_groupsOf f_X0_isFine
  rw [e0, e5, e14, e16, cw_congr e5 e20, sr_congr e5 e20]
theorem st_verdict {σ : Sg} (h : RS σ) (k t r : Int32) : OKc (f_L_verdict k t r σ) (f_X8_verdict k t r) := by
  obtain ⟨T, P, K, N, hR⟩ := id h
  rcases hR.why2 k t r with ⟨p, q, b, hp, hq, hb, rfl, rfl, rfl, e1, e2, e3, w⟩ | ⟨e1, w⟩ | ⟨e1, e2, w⟩ | ⟨e1, e2, e3, w⟩
  · have hB := hR.b
    refine OKc.ok (τ := σ) (x := f_X7_judge p q (nI (2 ^ b)) σ) (τ' := us (us σ 90 0 0 (f_X7_judge p q (nI (2 ^ b)) σ)) 8 0 0 0) (by simp [f_L_verdict, m_X7_verdict, nd, e1, e2, e3, nI_clamp (show p < 2 ^ 31 by omega), nI_clamp (show q < 2 ^ 31 by omega)]) ?_ rfl ((h.out _).ref 0)
    have hq9 : RR T P K N (us (us σ 90 0 0 (f_X7_judge p q (nI (2 ^ b)) σ)) 8 0 0 0) := hR
    have k1 : f_X8_whyNoVerdict (nI p) (nI q) (nI (2 ^ b)) (us σ 90 0 0 (f_X7_judge p q (nI (2 ^ b)) σ)) = 0 := w
    have ej : f_X7_judge p q (nI (2 ^ b)) (us (us σ 90 0 0 (f_X7_judge p q (nI (2 ^ b)) σ)) 8 0 0 0) = f_X7_judge p q (nI (2 ^ b)) σ := judge_congr rfl rfl rfl rfl rfl
    rw [f_X8_verdict, k1, if_pos (show f_X8_rf 0 = 0 from rfl), hq9.now hp hq hb, ej]
  · exact OKc.er (c := 1) (x := 0) h (by decide) (by simp [f_L_verdict, m_X7_verdict, nd, e1]) (by simp [f_X8_verdict, w, f_X8_rf])
  · exact OKc.er (c := 1) (x := 0) h (by decide) (by simp [f_L_verdict, m_X7_verdict, nd, e1, e2]) (by simp [f_X8_verdict, w, f_X8_rf])
  · exact OKc.er (c := 2) (x := 0) h (by decide) (by simp [f_L_verdict, m_X7_verdict, nd, e1, e2, e3]) (by simp [f_X8_verdict, w, f_X8_rf])
theorem st_least {σ : Sg} (h : RS σ) (u t r : Int32) : OKc (f_L_least u t r σ) (f_X8_least u t r) := by
  obtain ⟨T, P, K, N, hR⟩ := id h
  have hB := hR.b
  rcases c_six u with ⟨u, hu, rfl, e1, w1⟩ | ⟨e1, w1⟩
  rotate_left
  · exact OKc.er (c := 1) (x := 0) h (by decide) (by simp [f_L_least, m_X7_least, nd, e1]) (by simp [f_X8_least, w1])
  rcases hR.thi t with ⟨q, hq, rfl, e2, w2⟩ | ⟨e2, w2⟩
  rotate_left
  · exact OKc.er (c := 1) (x := 0) h (by decide) (by simp [f_L_least, m_X7_least, nd, e1, e2]) (by simp [f_X8_least, w1, w2])
  rcases c_right r with ⟨b, hb, rfl, e3, w3⟩ | ⟨e3, w3⟩
  rotate_left
  · exact OKc.er (c := 2) (x := 0) h (by decide) (by simp [f_L_least, m_X7_least, nd, e1, e2, e3]) (by simp [f_X8_least, w1, w2, w3])
  have hg : f_X2_groupsOf (nI u) σ = σ 14 0 u := by
    rw [f_X2_groupsOf, if_neg (nI_pos (by omega)), if_pos (show nI u < 6 from nI_lt (b := 6) hu (by decide)), nI_clamp (by omega)]
  obtain ⟨w, z1, z2, z3, -⟩ := hR.wy (b := b) hq hu hb
  refine OKc.ok (τ := σ) (x := nI w) (τ' := us (us σ 90 0 0 (nI w)) 8 0 0 0) (by simp [f_L_least, m_X7_least, nd, e1, e2, e3, nI_clamp (show q < 2 ^ 31 by omega), hg, z2]) ?_ rfl ((h.out _).ref 0)
  have hq9 : RR T P K N (us (us σ 90 0 0 (nI w)) 8 0 0 0) := hR
  obtain ⟨w', y1, y2, y3, -⟩ := hq9.wy (b := b) hq hu hb
  have ew : nI w' = nI w := by
    rw [← y2, ← z2]
    exact cw_congr rfl rfl
  have k1 : f_X8_isThing (nI q) (us σ 90 0 0 (nI w)) = 1 := w2
  rw [f_X8_least, w1, k1, w3, y3, ew]
  rfl
