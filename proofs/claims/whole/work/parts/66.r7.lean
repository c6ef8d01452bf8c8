/-! the relation, where only some kinds of cells changed -/
def scr (X : List Nat) (kk i : Nat) : Bool := X.contains kk || (kk == 0 || kk == 10) && decide (8 ≤ i) || (kk == 5 || kk == 20) && decide (12 ≤ i)
theorem RR.sc {T P K N : Nat} {σ τ : Sg} (h : RR T P K N σ) (e : ∀ kk i : Nat, scr [4, 8, 15, 18, 19, 21, 77, 90] kk i = false → τ kk i = σ kk i) (e8 : ∀ j : Nat, j ∉ [0, 44, 45, 46] → τ 8 0 j = σ 8 0 j)  : RR T P K N τ := by
  obtain ⟨hB, hs, hm, ht, hr, ha, hk, hc, hl, hz⟩ := h
  have q : ∀ kk : Nat, scr [4, 8, 15, 18, 19, 21, 77, 90] kk 0 = false → τ kk 0 = σ kk 0 := fun kk h => e kk 0 h
  exact ⟨hB, by
    rw [q 7 rfl, e8 3 (by decide), e8 18 (by decide), e8 27 (by decide), e8 37 (by decide), e8 38 (by decide), e8 39 (by decide)]
    exact hs, by
    rw [q 12 rfl, q 13 rfl, q 14 rfl, q 31 rfl, q 32 rfl]
    exact hm, fun t ht9 => by
    rw [e 5 t (by simp [scr]; omega), e 20 t (by simp [scr]; omega), q 34 rfl, q 35 rfl, q 36 rfl, q 37 rfl, q 38 rfl, q 39 rfl, q 40 rfl, q 41 rfl, q 42 rfl, q 43 rfl, q 44 rfl, q 45 rfl]
    exact ht t ht9, by
    rw [q 16 rfl, q 17 rfl, q 46 rfl, q 47 rfl]
    exact hr, fun p hp9 => by
    rw [e 0 p (by simp [scr]; omega), e 10 p (by simp [scr]; omega), q 49 rfl, q 50 rfl, q 51 rfl, q 52 rfl, q 53 rfl, q 54 rfl, q 55 rfl, q 56 rfl]
    exact ha p hp9, fun k hk9 => by
    rw [e 6 k (by simp [scr]), q 58 rfl, q 59 rfl, q 60 rfl, q 61 rfl, q 62 rfl, q 63 rfl, q 64 rfl, q 65 rfl, q 66 rfl]
    exact hk k hk9, by
    rw [show τ 6 = σ 6 from funext fun k => e 6 k (by simp [scr])]
    exact hc, by
    rw [q 1 rfl, q 11 rfl, e8 40 (by decide), e8 41 (by decide), e8 42 (by decide), q 73 rfl]
    exact hl, by
    rw [q 43 rfl, q 45 rfl]
    exact hz⟩
theorem RR.cm {T P K N : Nat} {σ τ : Sg} (h : RR T P K N σ) (e : ∀ kk i : Nat, scr [4, 8, 12, 13, 14, 15, 18, 19, 21, 31, 32, 77, 90] kk i = false → τ kk i = σ kk i) (e8 : ∀ j : Nat, j ∉ [0, 44, 45, 46] → τ 8 0 j = σ 8 0 j) (hm : Rm (τ 12 0) (τ 13 0) (τ 14 0) (τ 31 0) (τ 32 0)) : RR T P K N τ := by
  obtain ⟨hB, hs, hm', ht, hr, ha, hk, hc, hl, hz⟩ := h
  have q : ∀ kk : Nat, scr [4, 8, 12, 13, 14, 15, 18, 19, 21, 31, 32, 77, 90] kk 0 = false → τ kk 0 = σ kk 0 := fun kk h => e kk 0 h
  exact ⟨hB, by
    rw [q 7 rfl, e8 3 (by decide), e8 18 (by decide), e8 27 (by decide), e8 37 (by decide), e8 38 (by decide), e8 39 (by decide)]
    exact hs, hm, fun t ht9 => by
    rw [e 5 t (by simp [scr]; omega), e 20 t (by simp [scr]; omega), q 34 rfl, q 35 rfl, q 36 rfl, q 37 rfl, q 38 rfl, q 39 rfl, q 40 rfl, q 41 rfl, q 42 rfl, q 43 rfl, q 44 rfl, q 45 rfl]
    exact ht t ht9, by
    rw [q 16 rfl, q 17 rfl, q 46 rfl, q 47 rfl]
    exact hr, fun p hp9 => by
    rw [e 0 p (by simp [scr]; omega), e 10 p (by simp [scr]; omega), q 49 rfl, q 50 rfl, q 51 rfl, q 52 rfl, q 53 rfl, q 54 rfl, q 55 rfl, q 56 rfl]
    exact ha p hp9, fun k hk9 => by
    rw [e 6 k (by simp [scr]), q 58 rfl, q 59 rfl, q 60 rfl, q 61 rfl, q 62 rfl, q 63 rfl, q 64 rfl, q 65 rfl, q 66 rfl]
    exact hk k hk9, by
    rw [show τ 6 = σ 6 from funext fun k => e 6 k (by simp [scr])]
    exact hc, by
    rw [q 1 rfl, q 11 rfl, e8 40 (by decide), e8 41 (by decide), e8 42 (by decide), q 73 rfl]
    exact hl, by
    rw [q 43 rfl, q 45 rfl]
    exact hz⟩
theorem RR.cl {T P K N : Nat} {σ τ : Sg} (h : RR T P K N σ) (e : ∀ kk i : Nat, scr [1, 4, 8, 11, 15, 18, 19, 21, 73, 77, 90] kk i = false → τ kk i = σ kk i) (e8 : ∀ j : Nat, j ∉ [0, 40, 41, 42, 44, 45, 46] → τ 8 0 j = σ 8 0 j) (hl : Rl (τ 1 0) (τ 11 0) (τ 8 0 40) (τ 8 0 41) (τ 8 0 42) (τ 73 0)) : RR T P K N τ := by
  obtain ⟨hB, hs, hm, ht, hr, ha, hk, hc, hl', hz⟩ := h
  have q : ∀ kk : Nat, scr [1, 4, 8, 11, 15, 18, 19, 21, 73, 77, 90] kk 0 = false → τ kk 0 = σ kk 0 := fun kk h => e kk 0 h
  exact ⟨hB, by
    rw [q 7 rfl, e8 3 (by decide), e8 18 (by decide), e8 27 (by decide), e8 37 (by decide), e8 38 (by decide), e8 39 (by decide)]
    exact hs, by
    rw [q 12 rfl, q 13 rfl, q 14 rfl, q 31 rfl, q 32 rfl]
    exact hm, fun t ht9 => by
    rw [e 5 t (by simp [scr]; omega), e 20 t (by simp [scr]; omega), q 34 rfl, q 35 rfl, q 36 rfl, q 37 rfl, q 38 rfl, q 39 rfl, q 40 rfl, q 41 rfl, q 42 rfl, q 43 rfl, q 44 rfl, q 45 rfl]
    exact ht t ht9, by
    rw [q 16 rfl, q 17 rfl, q 46 rfl, q 47 rfl]
    exact hr, fun p hp9 => by
    rw [e 0 p (by simp [scr]; omega), e 10 p (by simp [scr]; omega), q 49 rfl, q 50 rfl, q 51 rfl, q 52 rfl, q 53 rfl, q 54 rfl, q 55 rfl, q 56 rfl]
    exact ha p hp9, fun k hk9 => by
    rw [e 6 k (by simp [scr]), q 58 rfl, q 59 rfl, q 60 rfl, q 61 rfl, q 62 rfl, q 63 rfl, q 64 rfl, q 65 rfl, q 66 rfl]
    exact hk k hk9, by
    rw [show τ 6 = σ 6 from funext fun k => e 6 k (by simp [scr])]
    exact hc, hl, by
    rw [q 43 rfl, q 45 rfl]
    exact hz⟩
theorem RR.ct {T P K N : Nat} {σ τ : Sg} (h : RR T P K N σ) (e : ∀ kk i : Nat, scr [4, 5, 8, 15, 18, 19, 20, 21, 34, 35, 36, 37, 38, 39, 40, 41, 42, 43, 44, 45, 77, 90] kk i = false → τ kk i = σ kk i) (e8 : ∀ j : Nat, j ∉ [0, 44, 45, 46] → τ 8 0 j = σ 8 0 j) (ht : ∀ t : Nat, t < 12 → Rth T t (τ 5 t) (τ 20 t) (τ 34 0 t) (τ 35 0 t) (τ 36 0 t) (τ 37 0 t) (τ 38 0 t) (τ 39 0 t) (τ 40 0 t) (τ 41 0 t) (fun k => τ 42 0 (5 * t + k)) (fun k => τ 43 0 (5 * t + k)) (fun k => τ 44 0 (5 * t + k)) (fun k => τ 45 0 (5 * t + k))) (hz : BZr (τ 43 0) (τ 45 0)) : RR T P K N τ := by
  obtain ⟨hB, hs, hm, ht', hr, ha, hk, hc, hl, hz'⟩ := h
  have q : ∀ kk : Nat, scr [4, 5, 8, 15, 18, 19, 20, 21, 34, 35, 36, 37, 38, 39, 40, 41, 42, 43, 44, 45, 77, 90] kk 0 = false → τ kk 0 = σ kk 0 := fun kk h => e kk 0 h
  exact ⟨hB, by
    rw [q 7 rfl, e8 3 (by decide), e8 18 (by decide), e8 27 (by decide), e8 37 (by decide), e8 38 (by decide), e8 39 (by decide)]
    exact hs, by
    rw [q 12 rfl, q 13 rfl, q 14 rfl, q 31 rfl, q 32 rfl]
    exact hm, ht, by
    rw [q 16 rfl, q 17 rfl, q 46 rfl, q 47 rfl]
    exact hr, fun p hp9 => by
    rw [e 0 p (by simp [scr]; omega), e 10 p (by simp [scr]; omega), q 49 rfl, q 50 rfl, q 51 rfl, q 52 rfl, q 53 rfl, q 54 rfl, q 55 rfl, q 56 rfl]
    exact ha p hp9, fun k hk9 => by
    rw [e 6 k (by simp [scr]), q 58 rfl, q 59 rfl, q 60 rfl, q 61 rfl, q 62 rfl, q 63 rfl, q 64 rfl, q 65 rfl, q 66 rfl]
    exact hk k hk9, by
    rw [show τ 6 = σ 6 from funext fun k => e 6 k (by simp [scr])]
    exact hc, by
    rw [q 1 rfl, q 11 rfl, e8 40 (by decide), e8 41 (by decide), e8 42 (by decide), q 73 rfl]
    exact hl, hz⟩
theorem RR.ca {T P K N : Nat} {σ τ : Sg} (h : RR T P K N σ) (e : ∀ kk i : Nat, scr [0, 4, 8, 10, 15, 18, 19, 21, 49, 50, 51, 52, 53, 54, 55, 56, 77, 90] kk i = false → τ kk i = σ kk i) (e8 : ∀ j : Nat, j ∉ [0, 44, 45, 46] → τ 8 0 j = σ 8 0 j) (ha : ∀ p : Nat, p < 8 → Ra P p (τ 0 p) (τ 10 p) (τ 49 0 p) (τ 50 0 p) (τ 51 0 p) (τ 52 0 p) (τ 53 0 p) (τ 54 0 p) (τ 55 0 p) (τ 56 0 p)) : RR T P K N τ := by
  obtain ⟨hB, hs, hm, ht, hr, ha', hk, hc, hl, hz⟩ := h
  have q : ∀ kk : Nat, scr [0, 4, 8, 10, 15, 18, 19, 21, 49, 50, 51, 52, 53, 54, 55, 56, 77, 90] kk 0 = false → τ kk 0 = σ kk 0 := fun kk h => e kk 0 h
  exact ⟨hB, by
    rw [q 7 rfl, e8 3 (by decide), e8 18 (by decide), e8 27 (by decide), e8 37 (by decide), e8 38 (by decide), e8 39 (by decide)]
    exact hs, by
    rw [q 12 rfl, q 13 rfl, q 14 rfl, q 31 rfl, q 32 rfl]
    exact hm, fun t ht9 => by
    rw [e 5 t (by simp [scr]; omega), e 20 t (by simp [scr]; omega), q 34 rfl, q 35 rfl, q 36 rfl, q 37 rfl, q 38 rfl, q 39 rfl, q 40 rfl, q 41 rfl, q 42 rfl, q 43 rfl, q 44 rfl, q 45 rfl]
    exact ht t ht9, by
    rw [q 16 rfl, q 17 rfl, q 46 rfl, q 47 rfl]
    exact hr, ha, fun k hk9 => by
    rw [e 6 k (by simp [scr]), q 58 rfl, q 59 rfl, q 60 rfl, q 61 rfl, q 62 rfl, q 63 rfl, q 64 rfl, q 65 rfl, q 66 rfl]
    exact hk k hk9, by
    rw [show τ 6 = σ 6 from funext fun k => e 6 k (by simp [scr])]
    exact hc, by
    rw [q 1 rfl, q 11 rfl, e8 40 (by decide), e8 41 (by decide), e8 42 (by decide), q 73 rfl]
    exact hl, by
    rw [q 43 rfl, q 45 rfl]
    exact hz⟩
theorem RR.cal {T P K N : Nat} {σ τ : Sg} (h : RR T P K N σ) (e : ∀ kk i : Nat, scr [0, 1, 4, 8, 10, 11, 15, 18, 19, 21, 49, 50, 51, 52, 53, 54, 55, 56, 73, 77, 90] kk i = false → τ kk i = σ kk i) (e8 : ∀ j : Nat, j ∉ [0, 40, 41, 42, 44, 45, 46] → τ 8 0 j = σ 8 0 j) (ha : ∀ p : Nat, p < 8 → Ra P p (τ 0 p) (τ 10 p) (τ 49 0 p) (τ 50 0 p) (τ 51 0 p) (τ 52 0 p) (τ 53 0 p) (τ 54 0 p) (τ 55 0 p) (τ 56 0 p)) (hl : Rl (τ 1 0) (τ 11 0) (τ 8 0 40) (τ 8 0 41) (τ 8 0 42) (τ 73 0)) : RR T P K N τ := by
  obtain ⟨hB, hs, hm, ht, hr, ha', hk, hc, hl', hz⟩ := h
  have q : ∀ kk : Nat, scr [0, 1, 4, 8, 10, 11, 15, 18, 19, 21, 49, 50, 51, 52, 53, 54, 55, 56, 73, 77, 90] kk 0 = false → τ kk 0 = σ kk 0 := fun kk h => e kk 0 h
  exact ⟨hB, by
    rw [q 7 rfl, e8 3 (by decide), e8 18 (by decide), e8 27 (by decide), e8 37 (by decide), e8 38 (by decide), e8 39 (by decide)]
    exact hs, by
    rw [q 12 rfl, q 13 rfl, q 14 rfl, q 31 rfl, q 32 rfl]
    exact hm, fun t ht9 => by
    rw [e 5 t (by simp [scr]; omega), e 20 t (by simp [scr]; omega), q 34 rfl, q 35 rfl, q 36 rfl, q 37 rfl, q 38 rfl, q 39 rfl, q 40 rfl, q 41 rfl, q 42 rfl, q 43 rfl, q 44 rfl, q 45 rfl]
    exact ht t ht9, by
    rw [q 16 rfl, q 17 rfl, q 46 rfl, q 47 rfl]
    exact hr, ha, fun k hk9 => by
    rw [e 6 k (by simp [scr]), q 58 rfl, q 59 rfl, q 60 rfl, q 61 rfl, q 62 rfl, q 63 rfl, q 64 rfl, q 65 rfl, q 66 rfl]
    exact hk k hk9, by
    rw [show τ 6 = σ 6 from funext fun k => e 6 k (by simp [scr])]
    exact hc, hl, by
    rw [q 43 rfl, q 45 rfl]
    exact hz⟩
