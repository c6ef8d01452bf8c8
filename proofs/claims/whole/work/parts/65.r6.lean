/-! the log: a ring on one side, a row that is shifted on the other -/
def chv (g x0 x1 x2 x3 x4 : Int32) : Int32 := (31 : Int32) * ((31 : Int32) * ((31 : Int32) * ((31 : Int32) * ((31 : Int32) * ((31 : Int32) * g) + x0) + x1) + x2) + x3) + x4
def wr6 (σ : Sg) (k B : Nat) (x0 x1 x2 x3 x4 x5 : Int32) : Sg := us (us (us (us (us (us σ k 0 B x0) k 0 (B + 1) x1) k 0 (B + 2) x2) k 0 (B + 3) x3) k 0 (B + 4) x4) k 0 (B + 5) x5
def v6 (x0 x1 x2 x3 x4 x5 : Int32) (w : Nat) : Int32 := if w = 0 then x0 else if w = 1 then x1 else if w = 2 then x2 else if w = 3 then x3 else if w = 4 then x4 else x5
theorem wr6_in {σ : Sg} {k B w : Nat} {x0 x1 x2 x3 x4 x5 : Int32} (hw : w < 6) : wr6 σ k B x0 x1 x2 x3 x4 x5 k 0 (B + w) = v6 x0 x1 x2 x3 x4 x5 w := by
  have h9 : w = 0 ∨ w = 1 ∨ w = 2 ∨ w = 3 ∨ w = 4 ∨ w = 5 := by omega
  rcases h9 with rfl | rfl | rfl | rfl | rfl | rfl <;> simp [wr6, us, v6]
theorem wr6_out {σ : Sg} {k B i : Nat} {x0 x1 x2 x3 x4 x5 : Int32} (h : i < B ∨ B + 6 ≤ i) : wr6 σ k B x0 x1 x2 x3 x4 x5 k 0 i = σ k 0 i := by
  have e0 : ¬ i = B := by omega
  have e1 : ¬ i = B + 1 := by omega
  have e2 : ¬ i = B + 2 := by omega
  have e3 : ¬ i = B + 3 := by omega
  have e4 : ¬ i = B + 4 := by omega
  have e5 : ¬ i = B + 5 := by omega
  simp [wr6, us, e0, e1, e2, e3, e4, e5]
theorem wr6_k {σ : Sg} {k B k' : Nat} {x0 x1 x2 x3 x4 x5 : Int32} (h : k' ≠ k) : wr6 σ k B x0 x1 x2 x3 x4 x5 k' = σ k' := by
  simp only [wr6, us_kk h]
section LG
variable {σ : Sg} {a n q j : Nat} {w v : Int32}
theorem lg_ix (ha : a < 20) (hq : q ≤ 20) (hj : j < 6) (h1 : σ 1 0 1 = nI a) (hw : w = nI j) : f_X1_cellOf (nI q) w σ = nI ((a + q) % 20 * 6 + j) := by
  subst hw
  rw [f_X1_cellOf, h1, nI_add, show (20 : Int32) = nI 20 from rfl, pk_rem (by omega) (by decide) (by decide), show (6 : Int32) = nI 6 from rfl, pk_mul, nI_add]
theorem lg_cell (hn : n ≤ 20) (hq : q < n) (hj : j < 6) (h2 : σ 1 0 2 = nI n) (hw : w = nI j) : f_X1_isCell (nI q) w σ = 1 := by
  subst hw
  rw [f_X1_isCell, h2, if_neg (nI_pos (by omega)), if_neg (nI_ge hq (by omega)), if_neg (nI_pos (by omega)), if_neg (show ¬ (6 : Int32) ≤ nI j from nI_ge (b := 6) hj (by decide))]
theorem rdC (h1 : σ 1 0 1 = nI a) (h2 : σ 1 0 2 = nI n) (ha : a < 20) (hn : n ≤ 20) (hq : q < n) (hw : w = nI j) (hj : j < 6) : f_X1_read (nI q) w σ = σ 11 0 ((a + q) % 20 * 6 + j) := by
  rw [f_X1_read, lg_cell hn hq hj h2 hw, if_neg (by decide), lg_ix ha (by omega) hj h1 hw, nI_clamp (by omega)]
theorem wrC (h1 : σ 1 0 1 = nI a) (h2 : σ 1 0 2 = nI n) (ha : a < 20) (hn : n ≤ 20) (hq : q < n) (hw : w = nI j) (hj : j < 6) : s_X1_write (nI q) w v σ = us σ 11 0 ((a + q) % 20 * 6 + j) v := by
  rw [s_X1_write, lg_cell hn hq hj h2 hw, if_neg (by decide), lg_ix ha (by omega) hj h1 hw, nI_clamp (by omega)]
theorem ckL (g : Int32) (x : Int32) (n k : Nat) (v : Int32) (σ : Sg) : f_X1_checkAfter_L8 g x (n + 1) k v σ = if 4 < nI k then v else f_X1_checkAfter_L8 g x n (k + 1) (((31 : Int32) * v) + (f_X1_read x (nI k) σ)) σ := rfl
theorem ckC {g : Int32} (h1 : σ 1 0 1 = nI a) (h2 : σ 1 0 2 = nI n) (ha : a < 20) (hn : n ≤ 20) (hq : q < n) : f_X1_checkAfter g (nI q) σ = chv g (σ 11 0 ((a + q) % 20 * 6)) (σ 11 0 ((a + q) % 20 * 6 + 1)) (σ 11 0 ((a + q) % 20 * 6 + 2)) (σ 11 0 ((a + q) % 20 * 6 + 3)) (σ 11 0 ((a + q) % 20 * 6 + 4)) := by
  rw [f_X1_checkAfter, ckL g _ 5 0, if_neg (by decide), ckL g _ 4 1, if_neg (by decide), ckL g _ 3 2, if_neg (by decide), ckL g _ 2 3, if_neg (by decide), ckL g _ 1 4, if_neg (by decide), ckL g _ 0 5, if_pos (by decide)]
  rw [rdC h1 h2 ha hn hq (j := 0) rfl (by decide), rdC h1 h2 ha hn hq (j := 1) rfl (by decide), rdC h1 h2 ha hn hq (j := 2) rfl (by decide), rdC h1 h2 ha hn hq (j := 3) rfl (by decide), rdC h1 h2 ha hn hq (j := 4) rfl (by decide)]
  rfl
theorem ckML (a g : Int32) (n k : Nat) (v : Int32) (σ : Sg) : f_X8_checked_L8 a g (n + 1) k v σ = if 5 ≤ nI k then v else f_X8_checked_L8 a g n (k + 1) (((31 : Int32) * v) + (σ 73 0 ((a + nI k).toNatClampNeg))) σ := rfl
theorem ckM {g : Int32} {A : Nat} (hA : A < 1000) : f_X8_checked (nI A) g σ = chv g (σ 73 0 A) (σ 73 0 (A + 1)) (σ 73 0 (A + 2)) (σ 73 0 (A + 3)) (σ 73 0 (A + 4)) := by
  rw [f_X8_checked, ckML _ _ 5 0, if_neg (by decide), ckML _ _ 4 1, if_neg (by decide), ckML _ _ 3 2, if_neg (by decide), ckML _ _ 2 3, if_neg (by decide), ckML _ _ 1 4, if_neg (by decide), ckML _ _ 0 5, if_pos (by decide)]
  simp only [nI_add]
  rw [nI_clamp (show A + 0 < 2 ^ 31 by omega), nI_clamp (show A + (0 + 1) < 2 ^ 31 by omega), nI_clamp (show A + (0 + 1 + 1) < 2 ^ 31 by omega), nI_clamp (show A + (0 + 1 + 1 + 1) < 2 ^ 31 by omega), nI_clamp (show A + (0 + 1 + 1 + 1 + 1) < 2 ^ 31 by omega)]
  rfl
/-- six cells of an entry, the check last -/
theorem ad6 {s0 : Sg} {g x b t r v : Int32} (h1 : s0 1 0 1 = nI a) (h2 : s0 1 0 2 = nI n) (ha : a < 20) (hn : n ≤ 20) (hq : q < n) : s_X1_write (nI q) 5 (f_X1_checkAfter g (nI q) (s_X1_write (nI q) 4 v (s_X1_write (nI q) 3 r (s_X1_write (nI q) 2 t (s_X1_write (nI q) 1 b (s_X1_write (nI q) 0 x s0)))))) (s_X1_write (nI q) 4 v (s_X1_write (nI q) 3 r (s_X1_write (nI q) 2 t (s_X1_write (nI q) 1 b (s_X1_write (nI q) 0 x s0))))) = wr6 s0 11 ((a + q) % 20 * 6) x b t r v (chv g x b t r v) := by
  rw [wrC (σ := s0) (w := 0) h1 h2 ha hn hq (j := 0) rfl (by decide)]
  rw [wrC (w := 1) (j := 1) (show us s0 11 0 ((a + q) % 20 * 6 + 0) x 1 0 1 = nI a from h1) h2 ha hn hq rfl (by decide)]
  rw [wrC (w := 2) (j := 2) (show us (us s0 11 0 ((a + q) % 20 * 6 + 0) x) 11 0 ((a + q) % 20 * 6 + 1) b 1 0 1 = nI a from h1) h2 ha hn hq rfl (by decide)]
  rw [wrC (w := 3) (j := 3) (show us (us (us s0 11 0 ((a + q) % 20 * 6 + 0) x) 11 0 ((a + q) % 20 * 6 + 1) b) 11 0 ((a + q) % 20 * 6 + 2) t 1 0 1 = nI a from h1) h2 ha hn hq rfl (by decide)]
  rw [wrC (w := 4) (j := 4) (show us (us (us (us s0 11 0 ((a + q) % 20 * 6 + 0) x) 11 0 ((a + q) % 20 * 6 + 1) b) 11 0 ((a + q) % 20 * 6 + 2) t) 11 0 ((a + q) % 20 * 6 + 3) r 1 0 1 = nI a from h1) h2 ha hn hq rfl (by decide)]
  obtain ⟨s5, hs5⟩ : ∃ s5, s5 = us (us (us (us (us s0 11 0 ((a + q) % 20 * 6 + 0) x) 11 0 ((a + q) % 20 * 6 + 1) b) 11 0 ((a + q) % 20 * 6 + 2) t) 11 0 ((a + q) % 20 * 6 + 3) r) 11 0 ((a + q) % 20 * 6 + 4) v := ⟨_, rfl⟩
  rw [← hs5]
  have k1 : s5 1 0 1 = nI a := by rw [hs5]; exact h1
  have k2 : s5 1 0 2 = nI n := by rw [hs5]; exact h2
  rw [wrC (w := 5) (j := 5) k1 k2 ha hn hq rfl (by decide), ckC k1 k2 ha hn hq]
  have z0 : s5 11 0 ((a + q) % 20 * 6) = x := by rw [hs5]; simp [us]
  have z1 : s5 11 0 ((a + q) % 20 * 6 + 1) = b := by rw [hs5]; simp [us]
  have z2 : s5 11 0 ((a + q) % 20 * 6 + 2) = t := by rw [hs5]; simp [us]
  have z3 : s5 11 0 ((a + q) % 20 * 6 + 3) = r := by rw [hs5]; simp [us]
  have z4 : s5 11 0 ((a + q) % 20 * 6 + 4) = v := by rw [hs5]; simp [us]
  rw [z0, z1, z2, z3, z4, hs5]
  rfl
theorem addC_lt (ha : a < 20) (hn : n < 20) (h1 : σ 1 0 1 = nI a) (h2 : σ 1 0 2 = nI n) (x b t r v : Int32) : s_X1_add x b t r v σ = wr6 (us σ 1 0 2 (nI n + 1)) 11 ((a + n) % 20 * 6) x b t r v (chv (if n = 0 then σ 1 0 4 else σ 11 0 ((a + (n - 1)) % 20 * 6 + 5)) x b t r v) := by
  have k20 : ¬ nI n = 20 := fun q => by
    have := (nI_eq (b := 20) (by omega) (by decide)).mp q
    omega
  have kp : (us σ 1 0 2 (nI n + 1)) 1 0 2 = nI (n + 1) := by rw [nI_succ]; exact us_h
  rw [s_X1_add, h2]
  by_cases h0 : n = 0
  · subst h0
    rw [if_pos (show nI 0 = 0 from rfl), if_neg k20, if_pos rfl]
    exact ad6 (a := a) (n := 0 + 1) (q := 0) h1 kp ha (by omega) (by omega)
  · have k0 : ¬ nI n = 0 := nI_ne0 (by omega) (by omega)
    rw [if_neg k0, if_neg k20, if_neg h0]
    have e1 : nI n - 1 = nI (n - 1) := pk_sub (b := 1) (by omega)
    rw [e1, rdC (w := 5) h1 h2 ha (by omega) (show n - 1 < n by omega) (j := 5) rfl (by decide)]
    exact ad6 (a := a) (n := n + 1) (q := n) h1 kp ha (by omega) (by omega)
theorem addC_eq (ha : a < 20) (h1 : σ 1 0 1 = nI a) (h2 : σ 1 0 2 = nI 20) (x b t r v : Int32) : ∃ s0 : Sg, s_X1_add x b t r v σ = wr6 s0 11 (((a + 1) % 20 + 19) % 20 * 6) x b t r v (chv (σ 11 0 ((a + 19) % 20 * 6 + 5)) x b t r v) ∧ s0 1 0 1 = nI ((a + 1) % 20) ∧ s0 1 0 2 = nI 20 ∧ s0 1 0 3 = σ 1 0 3 + 1 ∧ s0 1 0 4 = σ 11 0 ((a + 0) % 20 * 6 + 5) ∧ s0 11 = σ 11 := by
  have er : ((nI a + (1 : Int32)) - (nI a + (1 : Int32)) / (20 : Int32) * (20 : Int32)) = nI ((a + 1) % 20) := by
    rw [nI_1, show (20 : Int32) = nI 20 from rfl, pk_rem (by omega) (by decide) (by decide)]
  rw [s_X1_add, h2, if_neg (show ¬ nI 20 = 0 by decide), if_pos (show nI 20 = 20 from rfl)]
  have e1 : nI 20 - 1 = nI 19 := by decide
  have e2 : nI 19 + 1 = nI 20 := by decide
  rw [e1, rdC (w := 5) h1 h2 ha (by omega) (show 19 < 20 by omega) (j := 5) rfl (by decide), h1, er, e2]
  have e0 : f_X1_read 0 5 σ = σ 11 0 ((a + 0) % 20 * 6 + 5) := rdC h1 h2 ha (by omega) (q := 0) (by omega) (j := 5) rfl (by decide)
  rw [e0]
  refine ⟨us (us (us (us (us σ 1 0 4 (σ 11 0 ((a + 0) % 20 * 6 + 5))) 1 0 1 (nI ((a + 1) % 20))) 1 0 2 (nI 19)) 1 0 3 (σ 1 0 3 + 1)) 1 0 2 (nI 20), ad6 (a := (a + 1) % 20) (n := 20) (q := 19) rfl rfl (Nat.mod_lt _ (by decide)) (by omega) (by omega), rfl, rfl, rfl, rfl, rfl⟩
theorem l54 (x y z u : Int32) : ∀ (n k : Nat) (σ : Sg), n + k = 115 → ∀ i : Nat, s_X8_log_L54 x y z u n k σ 73 0 i = if k ≤ i ∧ i < 114 then σ 73 0 (i + 6) else σ 73 0 i
  | 0, k, σ, h, i => by
    have hk : ¬ (k ≤ i ∧ i < 114) := by omega
    rw [if_neg hk]
    rfl
  | n + 1, k, σ, h, i => by
    show (if 114 ≤ nI k then σ else s_X8_log_L54 x y z u n (k + 1) (us σ 73 0 k (σ 73 0 (k + 6)))) 73 0 i = _
    by_cases hk : 114 ≤ k
    · rw [if_pos (show (114 : Int32) ≤ nI k from nI_le (a := 114) hk (by omega)), if_neg (by omega)]
    · rw [if_neg (show ¬ (114 : Int32) ≤ nI k from nI_ge (b := 114) (by omega) (by decide)), l54 x y z u n (k + 1) _ (by omega)]
      by_cases h1 : k + 1 ≤ i ∧ i < 114
      · rw [if_pos h1, if_pos (by omega)]
        have e : ¬ i + 6 = k := by omega
        simp [us, e]
      · rw [if_neg h1]
        by_cases e : i = k
        · subst e
          rw [if_pos (by omega)]
          exact us_h
        · rw [if_neg (by omega)]
          simp [us, e]
theorem l54k (x y z u : Int32) {kk : Nat} (hk : kk ≠ 73) : ∀ (n k : Nat) (σ : Sg), s_X8_log_L54 x y z u n k σ kk = σ kk
  | 0, k, σ => rfl
  | n + 1, k, σ => by
    show (if 114 ≤ nI k then σ else s_X8_log_L54 x y z u n (k + 1) (us σ 73 0 k (σ 73 0 (k + 6)))) kk = _
    by_cases h : 114 ≤ nI k
    · rw [if_pos h]
    · rw [if_neg h, l54k x y z u hk n (k + 1), us_kk hk]
theorem m6c {n : Nat} (hn : n ≤ 20) : ((6 : Int32) * nI n = nI (6 * n)) ∧ (nI (6 * n)).toNatClampNeg = 6 * n ∧ (nI (6 * n) + 1).toNatClampNeg = 6 * n + 1 ∧ (nI (6 * n) + 2).toNatClampNeg = 6 * n + 2 ∧ (nI (6 * n) + 3).toNatClampNeg = 6 * n + 3 ∧ (nI (6 * n) + 4).toNatClampNeg = 6 * n + 4 ∧ (nI (6 * n) + 5).toNatClampNeg = 6 * n + 5 := by
  refine ⟨pk_mul 6 n, nI_clamp (by omega), ?_, ?_, ?_, ?_, ?_⟩
  · rw [show nI (6 * n) + 1 = nI (6 * n + 1) from nI_add _ 1, nI_clamp (by omega)]
  · rw [show nI (6 * n) + 2 = nI (6 * n + 2) from nI_add _ 2, nI_clamp (by omega)]
  · rw [show nI (6 * n) + 3 = nI (6 * n + 3) from nI_add _ 3, nI_clamp (by omega)]
  · rw [show nI (6 * n) + 4 = nI (6 * n + 4) from nI_add _ 4, nI_clamp (by omega)]
  · rw [show nI (6 * n) + 5 = nI (6 * n + 5) from nI_add _ 5, nI_clamp (by omega)]
/-- the model's six cells -/
theorem adM {m : Sg} {g x b t r v : Int32} (hn : n ≤ 20) : us (us (us (us (us (us m 73 0 (6 * n) x) 73 0 (6 * n + 1) b) 73 0 (6 * n + 2) t) 73 0 (6 * n + 3) r) 73 0 (6 * n + 4) v) 73 0 (6 * n + 5) (f_X8_checked (nI (6 * n)) g (us (us (us (us (us m 73 0 (6 * n) x) 73 0 (6 * n + 1) b) 73 0 (6 * n + 2) t) 73 0 (6 * n + 3) r) 73 0 (6 * n + 4) v)) = wr6 m 73 (6 * n) x b t r v (chv g x b t r v) := by
  obtain ⟨s5, hs5⟩ : ∃ s5, s5 = us (us (us (us (us m 73 0 (6 * n) x) 73 0 (6 * n + 1) b) 73 0 (6 * n + 2) t) 73 0 (6 * n + 3) r) 73 0 (6 * n + 4) v := ⟨_, rfl⟩
  rw [← hs5, ckM (by omega)]
  have z0 : s5 73 0 (6 * n) = x := by rw [hs5]; simp [us]
  have z1 : s5 73 0 (6 * n + 1) = b := by rw [hs5]; simp [us]
  have z2 : s5 73 0 (6 * n + 2) = t := by rw [hs5]; simp [us]
  have z3 : s5 73 0 (6 * n + 3) = r := by rw [hs5]; simp [us]
  have z4 : s5 73 0 (6 * n + 4) = v := by rw [hs5]; simp [us]
  rw [z0, z1, z2, z3, z4, hs5]
  rfl
theorem s5pre {m : Sg} {x b t r v : Int32} (h0 : n ≠ 0) : us (us (us (us (us m 73 0 (6 * n) x) 73 0 (6 * n + 1) b) 73 0 (6 * n + 2) t) 73 0 (6 * n + 3) r) 73 0 (6 * n + 4) v 73 0 (6 * n - 1) = m 73 0 (6 * n - 1) := by
  have e0 : ¬ 6 * n - 1 = 6 * n := by omega
  have e1 : ¬ 6 * n - 1 = 6 * n + 1 := by omega
  have e2 : ¬ 6 * n - 1 = 6 * n + 2 := by omega
  have e3 : ¬ 6 * n - 1 = 6 * n + 3 := by omega
  have e4 : ¬ 6 * n - 1 = 6 * n + 4 := by omega
  simp [us, e0, e1, e2, e3, e4]
theorem logM_lt {m : Sg} (hn : n < 20) (h40 : m 8 0 40 = nI n) (x t r v : Int32) (hw : ¬ ((if v = 0 then m 8 0 38 else m 8 0 39) &&& r = 0)) : s_X8_log x t r v m = us (wr6 m 73 (6 * n) (m 8 0 37) x t r v (chv (if n = 0 then m 8 0 42 else m 73 0 (6 * n - 1)) (m 8 0 37) x t r v)) 8 0 40 (nI n + 1) := by
  obtain ⟨c, c0, c1, c2, c3, c4, c5⟩ := m6c (n := n) (by omega)
  have k20 : ¬ nI n = 20 := fun q => by
    have := (nI_eq (b := 20) (by omega) (by decide)).mp q
    omega
  rw [s_X8_log, h40, c, c0, c1, c2, c3, c4, c5]
  by_cases hv : v = 0
  · rw [if_pos hv] at hw
    rw [if_pos hv, if_neg hw, if_neg k20]
    by_cases h0 : n = 0
    · rw [if_pos (show nI n = 0 by rw [h0]; rfl), if_pos h0, adM (by omega)]
    · rw [if_neg (nI_ne0 (by omega) (by omega)), if_neg h0, show (nI (6 * n) - 1).toNatClampNeg = 6 * n - 1 from by
        rw [show (1 : Int32) = nI 1 from rfl, pk_sub (by omega), nI_clamp (by omega)], s5pre h0, adM (by omega)]
  · rw [if_neg hv] at hw
    rw [if_neg hv, if_neg hw, if_neg k20]
    by_cases h0 : n = 0
    · rw [if_pos (show nI n = 0 by rw [h0]; rfl), if_pos h0, adM (by omega)]
    · rw [if_neg (nI_ne0 (by omega) (by omega)), if_neg h0, show (nI (6 * n) - 1).toNatClampNeg = 6 * n - 1 from by
        rw [show (1 : Int32) = nI 1 from rfl, pk_sub (by omega), nI_clamp (by omega)], s5pre h0, adM (by omega)]
theorem logM_eq {m : Sg} (h40 : m 8 0 40 = nI 20) (x t r v : Int32) (hw : ¬ ((if v = 0 then m 8 0 38 else m 8 0 39) &&& r = 0)) : ∃ τ : Sg, s_X8_log x t r v m = us (wr6 τ 73 (6 * 19) (m 8 0 37) x t r v (chv (m 73 0 119) (m 8 0 37) x t r v)) 8 0 40 (nI 20) ∧ τ 8 0 41 = m 8 0 41 + 1 ∧ τ 8 0 42 = m 73 0 5 ∧ ∀ i, τ 73 0 i = if i < 114 then m 73 0 (i + 6) else m 73 0 i := by
  have h1 : s_X8_log x t r v m = s_X8_log_K54 x t r v (s_X8_log_L54 x t r v 115 0 (us (us m 8 0 42 (m 73 0 5)) 8 0 41 ((m 8 0 41) + (1 : Int32)))) := by
    rw [s_X8_log, h40]
    by_cases hv : v = 0
    · rw [if_pos hv] at hw
      rw [if_pos hv, if_neg hw, if_pos (show nI 20 = 20 from rfl)]
    · rw [if_neg hv] at hw
      rw [if_neg hv, if_neg hw, if_pos (show nI 20 = 20 from rfl)]
  obtain ⟨τ, hτ⟩ : ∃ τ, τ = s_X8_log_L54 x t r v 115 0 (us (us m 8 0 42 (m 73 0 5)) 8 0 41 ((m 8 0 41) + (1 : Int32))) := ⟨_, rfl⟩
  have t8 : τ 8 = (us (us m 8 0 42 (m 73 0 5)) 8 0 41 ((m 8 0 41) + (1 : Int32))) 8 := by
    rw [hτ]
    exact l54k x t r v (by decide) 115 0 _
  have t40 : τ 8 0 40 = nI 20 := by rw [t8]; exact h40
  have t37 : τ 8 0 37 = m 8 0 37 := by rw [t8]; rfl
  have t73 : ∀ i, τ 73 0 i = if i < 114 then m 73 0 (i + 6) else m 73 0 i := fun i => by
    rw [hτ, l54 x t r v 115 0 _ rfl i]
    simp only [Nat.zero_le, true_and]
    rfl
  rw [h1, ← hτ]
  obtain ⟨c, c0, c1, c2, c3, c4, c5⟩ := m6c (n := 19) (by omega)
  have e1 : nI 20 - 1 = nI 19 := by decide
  have e2 : nI 19 + 1 = nI 20 := by decide
  have cm : (nI (6 * 19) - 1).toNatClampNeg = 6 * 19 - 1 := by decide
  rw [s_X8_log_K54, t40, e1, if_neg (show ¬ nI 19 = 0 by decide), c, c0, c1, c2, c3, c4, c5, cm, s5pre (by decide), adM (by decide), e2, t37]
  refine ⟨us τ 8 0 40 (nI 19), ?_, ?_, ?_, t73⟩
  · rw [show (us τ 8 0 40 (nI 19)) 73 0 (6 * 19 - 1) = m 73 0 119 from by
      show τ 73 0 113 = _
      rw [t73, if_pos (by decide)]]
  · show τ 8 0 41 = _
    rw [t8]
    rfl
  · show τ 8 0 42 = _
    rw [t8]
    rfl
end LG
theorem log_step {c m : Sg} (hl : Rl (c 1 0) (c 11 0) (m 8 0 40) (m 8 0 41) (m 8 0 42) (m 73 0)) (h37 : m 8 0 37 = c 7 0 9) (h38 : m 8 0 38 = c 7 0 10) (h39 : m 8 0 39 = c 7 0 11) (x t r v : Int32) : Rl (s_X7_note x t r v c 1 0) (s_X7_note x t r v c 11 0) (s_X8_log x t r v m 8 0 40) (s_X8_log x t r v m 8 0 41) (s_X8_log x t r v m 8 0 42) (s_X8_log x t r v m 73 0) := by
  have hN : s_X7_note x t r v c = if (if v = 0 then c 7 0 10 else c 7 0 11) &&& r = 0 then c else s_X1_add (c 7 0 9) x t r v c := by
    rw [s_X7_note]
    by_cases hv : v = 0
    · simp only [if_pos hv]
    · simp only [if_neg hv]
  by_cases hw : (if v = 0 then c 7 0 10 else c 7 0 11) &&& r = 0
  · rw [hN, if_pos hw]
    have hM : s_X8_log x t r v m = m := by
      rw [s_X8_log]
      by_cases hv : v = 0
      · rw [if_pos hv] at hw ⊢
        rw [if_pos (by rw [h38]; exact hw)]
      · rw [if_neg hv] at hw ⊢
        rw [if_pos (by rw [h39]; exact hw)]
    rw [hM]
    exact hl
  rw [hN, if_neg hw]
  have hw' : ¬ ((if v = 0 then m 8 0 38 else m 8 0 39) &&& r = 0) := by rw [h38, h39]; exact hw
  obtain ⟨a, n, ha, hn, l1, l2, l40, l41, l42, le⟩ := hl
  rcases Nat.lt_or_ge n 20 with h20 | h20
  · rw [addC_lt ha h20 l1 l2, logM_lt h20 l40 x t r v hw', h37]
    have hg : (if n = 0 then m 8 0 42 else m 73 0 (6 * n - 1)) = (if n = 0 then c 1 0 4 else c 11 0 ((a + (n - 1)) % 20 * 6 + 5)) := by
      by_cases h0 : n = 0
      · rw [if_pos h0, if_pos h0, l42]
      · rw [if_neg h0, if_neg h0, le (n - 1) (by omega) 5 (by decide)]
        congr 1
        omega
    rw [hg]
    generalize chv (if n = 0 then c 1 0 4 else c 11 0 ((a + (n - 1)) % 20 * 6 + 5)) (c 7 0 9) x t r v = z
    refine ⟨a, n + 1, ha, by omega, ?_, ?_, ?_, ?_, ?_, ?_⟩
    · rw [wr6_k (by decide)]
      exact l1
    · rw [wr6_k (by decide)]
      exact (us_h).trans (nI_1 n)
    · exact (us_h).trans (nI_1 n)
    · rw [us_j (show 41 ≠ 40 by decide), wr6_k (by decide), wr6_k (by decide)]
      exact l41
    · rw [us_j (show 42 ≠ 40 by decide), wr6_k (by decide), wr6_k (by decide)]
      exact l42
    · intro q hq w hw9
      rw [us_k (show 73 ≠ 8 by decide)]
      by_cases e : q = n
      · subst e
        rw [wr6_in hw9, wr6_in hw9]
      · rw [wr6_out (by omega), wr6_out (by omega)]
        exact le q (by omega) w hw9
  · have e20 : n = 20 := by omega
    subst e20
    obtain ⟨s0, p0, p1, p2, p3, p4, p5⟩ := addC_eq ha l1 l2 (c 7 0 9) x t r v
    obtain ⟨τ, q0, q1, q2, q3⟩ := logM_eq l40 x t r v hw'
    rw [p0, q0, h37]
    have hg : c 11 0 ((a + 19) % 20 * 6 + 5) = m 73 0 119 := le 19 (by omega) 5 (by decide)
    rw [hg]
    generalize chv (m 73 0 119) (c 7 0 9) x t r v = z
    refine ⟨(a + 1) % 20, 20, Nat.mod_lt _ (by decide), by omega, ?_, ?_, us_h, ?_, ?_, ?_⟩
    · rw [wr6_k (by decide)]
      exact p1
    · rw [wr6_k (by decide)]
      exact p2
    · rw [us_j (show 41 ≠ 40 by decide), wr6_k (by decide), wr6_k (by decide), q1, p3, l41]
    · rw [us_j (show 42 ≠ 40 by decide), wr6_k (by decide), wr6_k (by decide), q2, p4]
      exact (le 0 (by omega) 5 (by decide)).symm
    · intro q hq w hw9
      rw [us_k (show 73 ≠ 8 by decide)]
      by_cases e : q = 19
      · subst e
        rw [wr6_in hw9, wr6_in hw9]
      · rw [wr6_out (by omega), wr6_out (by omega), q3, if_pos (by omega), p5]
        have e5 := le (q + 1) (by omega) w hw9
        rw [show 6 * (q + 1) + w = 6 * q + w + 6 by omega] at e5
        rw [← e5]
        congr 1
        omega
