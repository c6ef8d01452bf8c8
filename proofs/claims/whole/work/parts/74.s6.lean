/-! a thing more, with what is handed down to it -/
theorem RR.ctn {T P K N : Nat} {σ τ : Sg} (h : RR T P K N σ) (hT : T < 12) (e : ∀ kk i : Nat, scr [4, 5, 7, 8, 15, 18, 19, 20, 21, 34, 35, 36, 37, 38, 39, 40, 41, 42, 43, 44, 45, 77, 90] kk i = false → τ kk i = σ kk i) (e7 : ∀ j : Nat, j ≠ 6 → τ 7 0 j = σ 7 0 j) (e76 : τ 7 0 6 = nI (T + 1)) (e8 : ∀ j : Nat, j ∉ [0, 3, 44, 45, 46] → τ 8 0 j = σ 8 0 j) (e83 : τ 8 0 3 = nI (T + 1)) (ht : ∀ t : Nat, t < 12 → Rth (T + 1) t (τ 5 t) (τ 20 t) (τ 34 0 t) (τ 35 0 t) (τ 36 0 t) (τ 37 0 t) (τ 38 0 t) (τ 39 0 t) (τ 40 0 t) (τ 41 0 t) (fun k => τ 42 0 (5 * t + k)) (fun k => τ 43 0 (5 * t + k)) (fun k => τ 44 0 (5 * t + k)) (fun k => τ 45 0 (5 * t + k))) (hz : BZr (τ 43 0) (τ 45 0)) : RR (T + 1) P K N τ := by
  obtain ⟨hB, hs, hm, ht', hr, ha, hk, hc, hl, hz'⟩ := h
  have q : ∀ kk : Nat, scr [4, 5, 7, 8, 15, 18, 19, 20, 21, 34, 35, 36, 37, 38, 39, 40, 41, 42, 43, 44, 45, 77, 90] kk 0 = false → τ kk 0 = σ kk 0 := fun kk h => e kk 0 h
  obtain ⟨z1, z2, z3, z4, z5, z6, z7, z8, z9, z10⟩ := hs
  refine ⟨⟨by omega, hB.2⟩, ⟨e76, e83, by rw [e7 7 (by decide)]; exact z3, by rw [e8 18 (by decide)]; exact z4, by rw [e7 8 (by decide)]; exact z5, by rw [e8 27 (by decide)]; exact z6, by rw [e7 9 (by decide)]; exact z7, by rw [e8 37 (by decide)]; exact z8, by rw [e8 38 (by decide), e7 10 (by decide)]; exact z9, by rw [e8 39 (by decide), e7 11 (by decide)]; exact z10⟩, ?_, ht, ?_, fun p hp9 => ?_, fun k hk9 => ?_, ?_, ?_, hz⟩
  · rw [q 12 rfl, q 13 rfl, q 14 rfl, q 31 rfl, q 32 rfl]
    exact hm
  · rw [q 16 rfl, q 17 rfl, q 46 rfl, q 47 rfl]
    exact hr
  · rw [e 0 p (by simp [scr]; omega), e 10 p (by simp [scr]; omega), q 49 rfl, q 50 rfl, q 51 rfl, q 52 rfl, q 53 rfl, q 54 rfl, q 55 rfl, q 56 rfl]
    exact ha p hp9
  · rw [e 6 k (by simp [scr]), q 58 rfl, q 59 rfl, q 60 rfl, q 61 rfl, q 62 rfl, q 63 rfl, q 64 rfl, q 65 rfl, q 66 rfl]
    obtain ⟨y1, y2, y3⟩ := hk k hk9
    refine ⟨fun z => ?_, y2, y3⟩
    obtain ⟨x1, x2, x3, x4⟩ := y1 z
    exact ⟨x1, x2, x3.mono (by omega), x4⟩
  · rw [show τ 6 = σ 6 from funext fun k => e 6 k (by simp [scr])]
    exact hc
  · rw [q 1 rfl, q 11 rfl, e8 40 (by decide), e8 41 (by decide), e8 42 (by decide), q 73 rfl]
    exact hl
section IH
variable {σ : Sg} {i o : Nat}
theorem ih2 (n k : Nat) (τ : Sg) : s_X5_inherit_L2 i o (n + 1) k τ = if 12 ≤ nI k then τ else if (((τ 5 o 8) >>> ((nI k) &&& 31)) &&& (1 : Int32)) = 0 then s_X5_inherit_L2 i o n (k + 1) τ else s_X5_inherit_L2 i o n (k + 1) (s_X5_putEntry i (nI k) (τ 20 o k) 1 τ) := rfl
/-- the new thing's entries so far -/
def Ih (σ : Sg) (i o k : Nat) (τ : Sg) : Prop := (∀ j : Nat, j < 12 → τ 20 i j = if j < k ∧ bt (σ 5 o 8) j = true then σ 20 o j else -1) ∧ (∀ c : Nat, c < 32 → bt (τ 5 i 8) c = (decide (c < k) && bt (σ 5 o 8) c)) ∧ τ 5 i 7 = nI (sw (fun c => bt (σ 5 o 8) c) k) ∧ (∀ j : Nat, j ≠ 7 → j ≠ 8 → τ 5 i j = σ 5 i j) ∧ (∀ i' : Nat, i' ≠ i → τ 5 i' = σ 5 i' ∧ τ 20 i' = σ 20 i') ∧ ∀ kk : Nat, kk ≠ 5 → kk ≠ 20 → τ kk = σ kk
theorem ih_all (hio : o ≠ i) (he : ∀ s : Nat, s < 12 → bt (σ 5 o 8) s = true → ¬ σ 20 o s = -1) : ∀ (n k : Nat) (τ : Sg), n + k = 13 → k ≤ 12 → Ih σ i o k τ → Ih σ i o 12 (s_X5_inherit_L2 i o n k τ)
  | 0, k, τ, hn, hk, _ => by omega
  | n + 1, k, τ, hn, hk, hI => by
    rw [ih2]
    by_cases hk12 : k = 12
    · rw [if_pos (by rw [hk12]; decide)]
      rw [hk12] at hI
      exact hI
    · have hk2 : k < 12 := by omega
      rw [if_neg (show ¬ (12 : Int32) ≤ nI k from nI_ge (b := 12) hk2 (by decide)), hb_bt _ k (by omega)]
      obtain ⟨h1, h2, h3, h4, h5, h6⟩ := hI
      rw [(h5 o hio).1, (h5 o hio).2]
      cases e9 : bt (σ 5 o 8) k
      · rw [z0F]
        refine ih_all hio he n (k + 1) τ (by omega) (by omega) ⟨fun j hj => ?_, fun c hc => ?_, ?_, h4, h5, h6⟩
        · rw [h1 j hj]
          by_cases e : j = k
          · subst e; simp [e9]
          · by_cases q : j < k
            · simp [q, show j < k + 1 by omega]
            · simp [q, show ¬ j < k + 1 by omega]
        · rw [h2 c hc]
          by_cases e : c = k
          · subst e; simp [e9]
          · by_cases q : c < k
            · simp [q, show c < k + 1 by omega]
            · simp [q, show ¬ c < k + 1 by omega]
        · rw [h3]
          show _ = nI (sw (fun c => bt (σ 5 o 8) c) k + (bt (σ 5 o 8) k).toNat)
          rw [e9]
          rfl
      · rw [z1T]
        obtain ⟨p20, p7, p8, po, pi, pk⟩ := pe_spec (σ := τ) (i := i) (r := σ 20 o k) (d := 1) hk2
        have hne := he k hk2 e9
        refine ih_all hio he n (k + 1) _ (by omega) (by omega) ⟨fun j hj => ?_, fun c hc => ?_, ?_, fun j h7 h8 => (po j h7 h8).trans (h4 j h7 h8), fun i' hi => ⟨(pi i' hi).1.trans (h5 i' hi).1, (pi i' hi).2.trans (h5 i' hi).2⟩, fun kk h5' h20 => (pk kk h5' h20).trans (h6 kk h5' h20)⟩
        · rw [p20 j]
          by_cases e : j = k
          · subst e; simp [e9]
          · rw [if_neg e, h1 j hj]
            by_cases q : j < k
            · simp [q, show j < k + 1 by omega]
            · simp [q, show ¬ j < k + 1 by omega]
        · rw [p8 c hc]
          by_cases e : c = k
          · subst e; simp [e9, hne]
          · rw [if_neg e, h2 c hc]
            by_cases q : c < k
            · simp [q, show c < k + 1 by omega]
            · simp [q, show ¬ c < k + 1 by omega]
        · have ek : τ 20 i k = -1 := by
            rw [h1 k hk2, if_neg (by omega)]
          rw [p7, h3, ek, dc, if_neg hne, if_pos rfl]
          show _ = nI (sw (fun c => bt (σ 5 o 8) c) k + (bt (σ 5 o 8) k).toNat)
          rw [e9, nI_1]
          rfl
end IH
section IM
variable {M : Sg} {t0 T n : Nat} {sj : Nat → Nat} {eo : Nat → Int32} {hd : Int32}
/-- the model's rows of the new thing so far -/
def Jh (M : Sg) (T : Nat) (sj : Nat → Nat) (eo : Nat → Int32) (hd : Int32) (k : Nat) (τ : Sg) : Prop := ∃ (c : Nat) (q : Nat → Nat), c = sw (fun k => bt hd (sj k)) k ∧ τ 41 0 T = nI c ∧ (∀ j : Nat, j < c → (∃ k0 : Nat, k0 < k ∧ q j = sj k0 ∧ bt hd (sj k0) = true) ∧ τ 43 0 (5 * T + j) = nI (q j / 6) ∧ τ 42 0 (5 * T + j) = nI (q j % 6) ∧ τ 44 0 (5 * T + j) = eo (q j) ∧ τ 45 0 (5 * T + j) = 1) ∧ (∀ j : Nat, j < c → ∀ l : Nat, l < c → q j = q l → j = l) ∧ (∀ k0 : Nat, k0 < k → bt hd (sj k0) = true → ∃ j : Nat, j < c ∧ q j = sj k0) ∧ (∀ kk : Nat, kk = 42 ∨ kk = 43 ∨ kk = 44 ∨ kk = 45 → ∀ i : Nat, i < 5 * T ∨ 5 * T + 5 ≤ i → τ kk 0 i = M kk 0 i) ∧ (∀ t' : Nat, t' ≠ T → τ 41 0 t' = M 41 0 t') ∧ (∀ kk : Nat, kk ≠ 41 → kk ≠ 42 → kk ≠ 43 → kk ≠ 44 → kk ≠ 45 → τ kk = M kk) ∧ BZr (τ 43 0) (τ 45 0)
theorem jh_all (he : En M t0 n sj eo hd) (h0 : t0 < T) (hT : T < 12) (hn : n ≤ 5) (h41 : M 41 0 t0 = nI n) (u g v : Int32) : ∀ (f k : Nat) (τ : Sg), f + k = 6 → k ≤ n → Jh M T sj eo hd k τ → Jh M T sj eo hd n (f_X8_thing_L135 (nI t0) u g v f k (nI T) τ)
  | 0, k, τ, hf, hk, _ => by omega
  | f + 1, k, τ, hf, hk, hJ => by
    have e1 : f_X8_thing_L135 (nI t0) u g v (f + 1) k (nI T) τ = if nI t0 = (-1) then τ else if (τ 41 0 (nI t0).toNatClampNeg) ≤ (nI k) then τ else if (τ 45 0 ((((5 : Int32) * nI t0) + (nI k)).toNatClampNeg)) = 0 then f_X8_thing_L135 (nI t0) u g v f (k + 1) (nI T) τ else f_X8_thing_L135 (nI t0) u g v f (k + 1) (nI T) (us (us (us (us (us τ 43 0 ((((5 : Int32) * (nI T)) + (τ 41 0 ((nI T).toNatClampNeg))).toNatClampNeg) (τ 43 0 ((((5 : Int32) * nI t0) + (nI k)).toNatClampNeg))) 42 0 ((((5 : Int32) * (nI T)) + (τ 41 0 ((nI T).toNatClampNeg))).toNatClampNeg) (τ 42 0 ((((5 : Int32) * nI t0) + (nI k)).toNatClampNeg))) 44 0 ((((5 : Int32) * (nI T)) + (τ 41 0 ((nI T).toNatClampNeg))).toNatClampNeg) (τ 44 0 ((((5 : Int32) * nI t0) + (nI k)).toNatClampNeg))) 45 0 ((((5 : Int32) * (nI T)) + (τ 41 0 ((nI T).toNatClampNeg))).toNatClampNeg) 1) 41 0 ((nI T).toNatClampNeg) ((τ 41 0 ((nI T).toNatClampNeg)) + (1 : Int32))) := rfl
    obtain ⟨c, q, j1, j2, j3, j4, j5, j6, j7, j8, j9⟩ := id hJ
    have z41 : τ 41 0 t0 = nI n := by rw [j7 t0 (by omega)]; exact h41
    rw [e1, if_neg (nI_m1 (by omega)), nI_clamp (show t0 < 2 ^ 31 by omega), nI_clamp (show T < 2 ^ 31 by omega), z41]
    by_cases hkn : k = n
    · rw [if_pos (nI_le (by omega) (by omega))]
      rw [hkn] at hJ
      exact hJ
    · have hk2 : k < n := by omega
      obtain ⟨g1, g2, g3, g4, g5, g6⟩ := he.1 k hk2
      have far : ∀ kk : Nat, kk = 42 ∨ kk = 43 ∨ kk = 44 ∨ kk = 45 → τ kk 0 (5 * t0 + k) = M kk 0 (5 * t0 + k) := fun kk hkk => j6 kk hkk _ (by omega)
      rw [if_neg (nI_ge hk2 (by omega)), i5k (show t0 < 12 by omega) (show k < 5 by omega), far 45 (by simp), g6]
      cases e9 : bt hd (sj k)
      · rw [if_pos (show (if false = true then (1 : Int32) else 0) = 0 from rfl)]
        refine jh_all he h0 hT hn h41 u g v f (k + 1) τ (by omega) (by omega) ⟨c, q, ?_, j2, fun j hj => ?_, j4, fun k0 hk0 hb => ?_, j6, j7, j8, j9⟩
        · rw [j1]
          show _ = sw (fun k => bt hd (sj k)) k + (bt hd (sj k)).toNat
          rw [e9]
          rfl
        · obtain ⟨⟨k0, a, b⟩, r⟩ := j3 j hj
          exact ⟨⟨k0, by omega, b⟩, r⟩
        · by_cases e : k0 = k
          · subst e
            rw [e9] at hb
            exact absurd hb (by decide)
          · exact j5 k0 (by omega) hb
      · have hc5 : c < 5 := by
          have := sw_le (fun k => bt hd (sj k)) k
          omega
        rw [if_neg (show ¬ (if true = true then (1 : Int32) else 0) = 0 by decide), j2, i5k hT hc5, far 43 (by simp), far 42 (by simp), far 44 (by simp), g2, g3, g4]
        refine jh_all he h0 hT hn h41 u g v f (k + 1) _ (by omega) (by omega) ⟨c + 1, fun j => if j = c then sj k else q j, ?_, by rw [us_h, nI_1], fun j hj => ?_, fun j hj l hl hq => ?_, fun k0 hk0 hb => ?_, fun kk hkk i hi => ?_, fun t' ht' => ?_, fun kk h1 h2 h3 h4 h5 => ?_, ?_⟩
        · rw [j1]
          show _ = sw (fun k => bt hd (sj k)) k + (bt hd (sj k)).toNat
          rw [e9]
          rfl
        · by_cases e : j = c
          · subst e
            simp only [if_pos]
            exact ⟨⟨k, by omega, rfl, e9⟩, by simp [us], by simp [us], by simp [us], by simp [us]⟩
          · obtain ⟨⟨k0, a, b⟩, r1, r2, r3, r4⟩ := j3 j (by omega)
            simp only [if_neg e]
            exact ⟨⟨k0, by omega, b⟩, by simp [us, e]; exact r1, by simp [us, e]; exact r2, by simp [us, e]; exact r3, by simp [us, e]; exact r4⟩
        · have new : ∀ j : Nat, j < c → ¬ q j = sj k := fun j hj hq => by
            obtain ⟨⟨k0, a, b, -⟩, -⟩ := j3 j hj
            have := he.2.1 k0 (by omega) k hk2 (b.symm.trans hq)
            omega
          by_cases ej : j = c <;> by_cases el : l = c <;> simp only [ej, el, if_true, if_false] at hq ⊢
          · exact absurd hq.symm (new l (by omega))
          · exact absurd hq (new j (by omega))
          · exact j4 j (by omega) l (by omega) hq
        · by_cases e : k0 = k
          · exact ⟨c, by omega, by simp [e]⟩
          · obtain ⟨j, a, b⟩ := j5 k0 (by omega) hb
            exact ⟨j, by omega, by simp only [if_neg (show ¬ (j = c) by omega)]; exact b⟩
        · rw [← j6 kk hkk i hi]
          have : ¬ i = 5 * T + c := by omega
          rcases hkk with rfl | rfl | rfl | rfl <;> simp [us, this]
        · rw [← j7 t' ht', us_j ht', us_k (by decide), us_k (by decide), us_k (by decide), us_k (by decide)]
        · rw [us_kk h1, us_kk h5, us_kk h4, us_kk h2, us_kk h3]
          exact j8 kk h1 h2 h3 h4 h5
        · intro i
          have y43 : (us (us (us (us (us τ 43 0 (5 * T + c) (nI (sj k / 6))) 42 0 (5 * T + c) (nI (sj k % 6))) 44 0 (5 * T + c) (eo (sj k))) 45 0 (5 * T + c) 1) 41 0 T (nI c + 1)) 43 0 i = if i = 5 * T + c then nI (sj k / 6) else τ 43 0 i := by simp [us]
          have y45 : (us (us (us (us (us τ 43 0 (5 * T + c) (nI (sj k / 6))) 42 0 (5 * T + c) (nI (sj k % 6))) 44 0 (5 * T + c) (eo (sj k))) 45 0 (5 * T + c) 1) 41 0 T (nI c + 1)) 45 0 i = if i = 5 * T + c then 1 else τ 45 0 i := by simp [us]
          rw [y43, y45]
          by_cases e : i = 5 * T + c
          · rw [if_pos e, if_pos e]
            refine ⟨?_, by decide⟩
            have : sj k / 6 = 0 ∨ sj k / 6 = 1 := by omega
            rcases this with z | z <;> rw [z] <;> decide
          · rw [if_neg e, if_neg e]
            exact j9 i
end IM
theorem thing_rr {T P K N : Nat} {σ τ : Sg} (hR : RR T P K N σ) (hT : T < 12) {u g : Nat} {v : Int32} (hu : u < 6) (hg : g < 6) (hv : nb 1024 v) (hk : ∀ kk : Nat, kk ∉ [5, 7, 8, 20, 34, 35, 36, 40, 41, 42, 43, 44, 45, 90] → τ kk = σ kk) (h7 : ∀ j : Nat, j ≠ 6 → τ 7 0 j = σ 7 0 j) (h76 : τ 7 0 6 = nI (T + 1)) (h8 : ∀ j : Nat, j ≠ 0 → j ≠ 3 → τ 8 0 j = σ 8 0 j) (h83 : τ 8 0 3 = nI (T + 1)) (h5i : ∀ i : Nat, i ≠ T → τ 5 i = σ 5 i ∧ τ 20 i = σ 20 i) (h5 : τ 5 T 0 = nI u ∧ τ 5 T 1 = nI g ∧ τ 5 T 2 = v ∧ ∀ j : Nat, 3 ≤ j → j ≤ 6 → τ 5 T j = σ 5 T j) (r34 : ∀ t' : Nat, τ 34 0 t' = if t' = T then nI u else σ 34 0 t') (r35 : ∀ t' : Nat, τ 35 0 t' = if t' = T then nI g else σ 35 0 t') (r36 : ∀ t' : Nat, τ 36 0 t' = if t' = T then v else σ 36 0 t') (r40 : ∀ t' : Nat, τ 40 0 t' = if t' = T then 7 else σ 40 0 t') (r41 : ∀ t' : Nat, t' ≠ T → τ 41 0 t' = σ 41 0 t') (rows : ∀ kk : Nat, kk = 42 ∨ kk = 43 ∨ kk = 44 ∨ kk = 45 → ∀ i : Nat, i < 5 * T ∨ 5 * T + 5 ≤ i → τ kk 0 i = σ kk 0 i) (hz : BZr (τ 43 0) (τ 45 0)) (hren : Ren (τ 5 T 7) (τ 5 T 8) (τ 20 T) (τ 41 0 T) (fun k => τ 42 0 (5 * T + k)) (fun k => τ 43 0 (5 * T + k)) (fun k => τ 44 0 (5 * T + k)) (fun k => τ 45 0 (5 * T + k))) : RR (T + 1) P K N τ := by
  refine hR.ctn hT (fun kk i hs => ?_) h7 h76 (fun j hj => ?_) h83 (fun t' ht' => ?_) hz
  · rw [hk kk (by
      simp [scr] at hs
      simp
      omega)]
  · simp at hj
    exact h8 j (by omega) (by omega)
  · have e37 := hk 37 (by decide)
    have e38 := hk 38 (by decide)
    have e39 := hk 39 (by decide)
    rw [r34, r35, r36, r40, e37, e38, e39]
    have q := hR.2.2.2.1 t' ht'
    by_cases e : t' = T
    · subst e
      obtain ⟨⟨-, -, -, a3, a4, a5⟩, -, ⟨-, -, -, b3, b6⟩, -, fr⟩ := q
      obtain ⟨x0, x1, x2, xj⟩ := h5
      have f6 := (fr (Nat.le_refl _)).1
      rw [if_pos rfl, if_pos rfl, if_pos rfl, if_pos rfl]
      refine ⟨⟨x0.symm, x1.symm, x2.symm, by rw [xj 3 (by decide) (by decide)]; exact a3, by rw [xj 4 (by decide) (by decide)]; exact a4, by rw [xj 5 (by decide) (by decide)]; exact a5⟩, fun _ => by rw [xj 6 (by decide) (by decide), f6], ⟨by rw [x0]; exact ⟨u, hu, rfl⟩, by rw [x1]; exact ⟨g, hg, rfl⟩, by rw [x2]; exact hv, by rw [xj 3 (by decide) (by decide)]; exact b3, by rw [xj 6 (by decide) (by decide)]; exact b6⟩, hren, fun z => absurd z (by omega)⟩
    · rw [if_neg e, if_neg e, if_neg e, if_neg e, (h5i t' e).1, (h5i t' e).2, r41 t' e]
      have q2 := q.cg (wh' := fun k => τ 42 0 (5 * t' + k)) (ig' := fun k => τ 43 0 (5 * t' + k)) (ha' := fun k => τ 44 0 (5 * t' + k)) (dn' := fun k => τ 45 0 (5 * t' + k)) (fun k hk => ⟨rows 42 (by simp) _ (by omega), rows 43 (by simp) _ (by omega), rows 44 (by simp) _ (by omega), rows 45 (by simp) _ (by omega)⟩)
      obtain ⟨c1, c2, c3, c4, c5⟩ := q2
      exact ⟨c1, fun z => c2 (by omega), c3, c4, fun z => c5 (by omega)⟩
set_option maxHeartbeats 2000000 in
theorem st_thing {σ : Sg} (h : RS σ) (t u g v : Int32) : OKc (f_L_thing t u g v σ) (f_X8_thing t u g v) := by
  obtain ⟨T, P, K, N, hR⟩ := id h
  have hB := hR.b
  obtain ⟨s76, s83, -⟩ := hR.s7
  rcases c_six u with ⟨u, hu, rfl, e1, w1⟩ | ⟨e1, w1⟩
  rotate_left
  · exact OKc.er (c := 1) (x := 0) h (by decide) (by simp [f_L_thing, m_X7_thing, nd, e1]) (by simp [f_X8_thing, w1])
  rcases c_six g with ⟨g, hg, rfl, e2, w2⟩ | ⟨e2, w2⟩
  rotate_left
  · exact OKc.er (c := 1) (x := 0) h (by decide) (by simp [f_L_thing, m_X7_thing, nd, e1, e2]) (by simp [f_X8_thing, w1, w2])
  have cT : (nI T).toNatClampNeg = T := nI_clamp (by omega)
  have aT : nI T + 1 - 1 = nI T := by rw [nI_1, nI_pred]
  by_cases htn : t = -1
  · subst htn
    rcases c_upto v (n := 1023) (by decide) (hi := 1023) rfl with ⟨hv, e4, w4⟩ | ⟨e4, w4⟩
    rotate_left
    · exact OKc.er (c := 2) (x := 0) h (by decide) (by simp [f_L_thing, m_X7_thing, nd, e1, e2, e4]) (by simp [f_X8_thing, w1, w2, w4])
    rcases c_room (n := T) (M := 12) hB.1 (by decide) with ⟨hT, e5, w5⟩ | ⟨hT, e5, w5⟩
    rotate_left
    · have e5' : e_X7_needRoom (nI T) 12 = some "java/lang/IllegalStateException" := e5
      have w5' : nI T = 12 := w5
      exact OKc.er (c := 3) (x := 0) h (by decide) (by simp [f_L_thing, m_X7_thing, nd, e1, e2, e4, s76, e5']) (by simp [f_X8_thing, w1, w2, w4, s83, w5'])
    have e5' : e_X7_needRoom (nI T) 12 = none := e5
    have w5' : ¬ nI T = 12 := w5
    obtain ⟨τ, hτ⟩ : ∃ τ, τ = us (us (us (us σ 5 T 0 (nI u)) 5 T 1 (nI g)) 5 T 2 v) 7 0 6 (nI T + 1) := ⟨_, rfl⟩
    obtain ⟨M, hM⟩ : ∃ M, M = us (us (us (us (us (us (us τ 90 0 0 (nI T)) 8 0 0 0) 8 0 3 (nI T + 1)) 34 0 T (nI u)) 35 0 T (nI g)) 36 0 T v) 40 0 T 7 := ⟨_, rfl⟩
    refine OKc.ok (τ := τ) (x := nI T) (τ' := M) ?_ ?_ (by rw [hM]; rfl) ⟨T + 1, P, K, N, ?_⟩
    · simp only [f_L_thing, m_X7_thing, nd, e1, e2, e4, s76, e5', cT, aT, if_true, ← hτ]
    · have k3 : (us τ 90 0 0 (nI T)) 8 0 3 = nI T := by rw [hτ]; exact s83
      simp only [f_X8_thing, w1, w2, w4, k3, if_neg w5', cT, if_true, show ¬ (1 : Int32) = 0 by decide, if_false]
      rw [← hM]
      rfl
    · have q := hR.2.2.2.1 T hT
      refine thing_rr hR hT hu hg hv (fun kk hk => ?_) (fun j hj => ?_) ?_ (fun j h0 h3 => ?_) ?_ (fun i hi => ⟨?_, ?_⟩) ⟨?_, ?_, ?_, fun j h3 h6 => ?_⟩ (fun t' => ?_) (fun t' => ?_) (fun t' => ?_) (fun t' => ?_) (fun t' ht' => ?_) (fun kk hkk i hi => ?_) ?_ ?_
      · simp at hk
        rw [hM, hτ, us_kk (by omega), us_kk (by omega), us_kk (by omega), us_kk (by omega), us_kk (by omega), us_kk (by omega), us_kk (by omega), us_kk (by omega), us_kk (by omega), us_kk (by omega), us_kk (by omega)]
      · rw [hM, hτ]; simp [us, hj]
      · rw [hM, hτ]; simp [us]; exact nI_1 T
      · rw [hM, hτ]; simp [us, h0, h3]
      · rw [hM, hτ]; simp [us]; exact nI_1 T
      · rw [hM, hτ]; simp [us_row, hi]
      · rw [hM, hτ]; simp [us_row]
      · rw [hM, hτ]; simp [us]
      · rw [hM, hτ]; simp [us]
      · rw [hM, hτ]; simp [us]
      · rw [hM, hτ]; simp [us, show ¬ j = 0 by omega, show ¬ j = 1 by omega, show ¬ j = 2 by omega]
      · rw [hM, hτ]; simp [us]
      · rw [hM, hτ]; simp [us]
      · rw [hM, hτ]; simp [us]
      · rw [hM, hτ]; simp [us]
      · rw [hM, hτ]; simp [us]
      · rw [hM, hτ]; rcases hkk with rfl | rfl | rfl | rfl <;> simp [us]
      · have := hR.2.2.2.2.2.2.2.2.2
        rw [hM, hτ]; simpa [us_row] using this
      · have := q.2.2.2.1
        rw [hM, hτ]; simpa [us_row] using this
  · rcases hR.thi t with ⟨q, hq, rfl, e3, w3⟩ | ⟨e3, w3⟩
    rotate_left
    · exact OKc.er (c := 1) (x := 0) h (by decide) (by simp [f_L_thing, m_X7_thing, nd, e1, e2, htn, e3]) (by simp [f_X8_thing, htn, w3])
    rcases c_upto v (n := 1023) (by decide) (hi := 1023) rfl with ⟨hv, e4, w4⟩ | ⟨e4, w4⟩
    rotate_left
    · exact OKc.er (c := 2) (x := 0) h (by decide) (by simp [f_L_thing, m_X7_thing, nd, e1, e2, htn, e3, e4]) (by simp [f_X8_thing, htn, w3, w1, w2, w4])
    rcases c_room (n := T) (M := 12) hB.1 (by decide) with ⟨hT, e5, w5⟩ | ⟨hT, e5, w5⟩
    rotate_left
    · have e5' : e_X7_needRoom (nI T) 12 = some "java/lang/IllegalStateException" := e5
      have w5' : nI T = 12 := w5
      exact OKc.er (c := 3) (x := 0) h (by decide) (by simp [f_L_thing, m_X7_thing, nd, e1, e2, htn, e3, e4, s76, e5']) (by simp [f_X8_thing, htn, w3, w1, w2, w4, s83, w5'])
    have e5' : e_X7_needRoom (nI T) 12 = none := e5
    have w5' : ¬ nI T = 12 := w5
    have cq : (nI q).toNatClampNeg = q := nI_clamp (by omega)
    obtain ⟨C, hC⟩ : ∃ C, C = us (us (us σ 5 T 0 (nI u)) 5 T 1 (nI g)) 5 T 2 v := ⟨_, rfl⟩
    obtain ⟨I, hI⟩ : ∃ I, I = s_X5_inherit T q C := ⟨_, rfl⟩
    obtain ⟨τ, hτ⟩ : ∃ τ, τ = us I 7 0 6 (nI T + 1) := ⟨_, rfl⟩
    obtain ⟨M, hM⟩ : ∃ M, M = us (us (us (us (us (us (us τ 90 0 0 (nI T)) 8 0 0 0) 8 0 3 (nI T + 1)) 34 0 T (nI u)) 35 0 T (nI g)) 36 0 T v) 40 0 T 7 := ⟨_, rfl⟩
    obtain ⟨W, hW⟩ : ∃ W, W = f_X8_thing_L135 (nI q) (nI u) (nI g) v 6 0 (nI T) M := ⟨_, rfl⟩
    -- the things before
    have qT := hR.2.2.2.1 T hT
    obtain ⟨nT, sT, nT1, nT2, nT3, heT⟩ := hR.en (t := T) hT
    have nT0 : nT = 0 := by
      have := (qT.2.2.2.2 (Nat.le_refl _)).2
      rw [nT2] at this
      exact (nI_eq (b := 0) (by omega) (by decide)).mp this
    subst nT0
    obtain ⟨n, sj, n1, n2, n3, he⟩ := hR.en (t := q) (by omega)
    -- the class
    have Cq : C 5 q = σ 5 q := by rw [hC]; funext j; simp [us, show ¬ q = T by omega]
    have C20 : C 20 = σ 20 := by rw [hC, us_kk (by decide), us_kk (by decide), us_kk (by decide)]
    have hIh : Ih C T q 12 I := by
      rw [hI]
      refine ih_all (by omega) (fun s hs hb => ?_) 13 0 C rfl (by omega) ⟨fun j hj => ?_, fun c hc => ?_, ?_, fun _ _ _ => rfl, fun _ _ => ⟨rfl, rfl⟩, fun _ _ _ => rfl⟩
      · rw [Cq] at hb
        obtain ⟨k, k1, k2⟩ := he.2.2.2 s (by omega) hb
        obtain ⟨-, -, -, -, ⟨r, r1, r2⟩, -⟩ := he.1 k k1
        rw [C20, ← k2, r2]
        exact nI_m1 (by omega)
      · rw [C20, if_neg (by omega)]
        rcases heT.2.2.1 j hj with z | ⟨k, k1, -⟩
        · exact z
        · omega
      · have : bt (C 5 T 8) c = bt (σ 5 T 8) c := by rw [hC]; simp [us]
        rw [this, decide_eq_false (by omega), Bool.false_and]
        cases z : bt (σ 5 T 8) c
        · rfl
        · obtain ⟨k, k1, -⟩ := heT.2.2.2 c hc z
          omega
      · have : C 5 T 7 = σ 5 T 7 := by rw [hC]; simp [us]
        rw [this]
        exact nT3
    obtain ⟨i1, i2, i3, i4, i5, i6⟩ := hIh
    rw [Cq, C20] at i1
    rw [Cq] at i2 i3
    have Mk : ∀ kk : Nat, kk ∉ [5, 7, 8, 20, 34, 35, 36, 40, 90] → M kk = σ kk := fun kk hk => by
      simp at hk
      rw [hM, us_kk (by omega), us_kk (by omega), us_kk (by omega), us_kk (by omega), us_kk (by omega), us_kk (by omega), us_kk (by omega), hτ, us_kk (by omega), i6 kk (by omega) (by omega), hC, us_kk (by omega), us_kk (by omega), us_kk (by omega)]
    have heM : En M q n sj (σ 20 q) (σ 5 q 8) := he.cg (by rw [Mk 42 (by decide)]) (by rw [Mk 43 (by decide)]) (by rw [Mk 44 (by decide)]) (by rw [Mk 45 (by decide)])
    have hJ : Jh M T sj (σ 20 q) (σ 5 q 8) n W := by
      rw [hW]
      refine jh_all heM hq hT n1 (by rw [Mk 41 (by decide)]; exact n2) (nI u) (nI g) v 6 0 M rfl (by omega) ⟨0, fun _ => 0, rfl, by rw [Mk 41 (by decide)]; exact nT2, fun j hj => by omega, fun j hj => by omega, fun k0 hk0 => by omega, fun _ _ _ _ => rfl, fun _ _ => rfl, fun _ _ _ _ _ _ => rfl, ?_⟩
      rw [Mk 43 (by decide), Mk 45 (by decide)]
      exact hR.2.2.2.2.2.2.2.2.2
    obtain ⟨c, qq, j1, j2, j3, j4, j5, j6, j7, j8, j9⟩ := hJ
    refine OKc.ok (τ := τ) (x := nI T) (τ' := W) ?_ ?_ (by rw [j8 8 (by decide) (by decide) (by decide) (by decide) (by decide), hM]; rfl) ⟨T + 1, P, K, N, ?_⟩
    · simp only [f_L_thing, m_X7_thing, nd, e1, e2, if_neg htn, e3, e4, s76, e5', cT, cq, aT, if_true, ← hC, ← hI, ← hτ]
    · have k3 : (us τ 90 0 0 (nI T)) 8 0 3 = nI T := by rw [hτ, us_k (by decide), us_k (by decide), i6 8 (by decide) (by decide), hC]; exact s83
      have k4 : f_X8_isThing (nI q) (us τ 90 0 0 (nI T)) = 1 := by
        rw [← w3, f_X8_isThing, f_X8_isThing, k3, s83]
      simp only [f_X8_thing, if_neg htn, k4, w1, w2, w4, k3, if_neg w5', cT, show ¬ (1 : Int32) = 0 by decide, if_false]
      rw [← hM, ← hW]
    · have hsum : sw (fun c => bt (σ 5 q 8) c) 12 = c := by
        rw [j1, sw_inj (F := fun s => bt (σ 5 q 8) s) (fun k hk => (he.1 k hk).1) he.2.1]
        refine sw_congr fun s hs => ?_
        cases z : bt (σ 5 q 8) s
        · simp
        · obtain ⟨k, k1, k2⟩ := he.2.2.2 s (by omega) z
          have : anyb (fun k => sj k == s) n = true := anyb_iff.mpr ⟨k, k1, by simp [k2]⟩
          rw [this]
          rfl
      have hc5 : c ≤ 5 := by
        have := sw_le (fun k => bt (σ 5 q 8) (sj k)) n
        omega
      rw [hsum] at i3
      have W5 : W 5 = I 5 := by rw [j8 5 (by decide) (by decide) (by decide) (by decide) (by decide), hM, us_kk (by decide), us_kk (by decide), us_kk (by decide), us_kk (by decide), us_kk (by decide), us_kk (by decide), us_kk (by decide), hτ, us_kk (by decide)]
      have W20 : W 20 = I 20 := by rw [j8 20 (by decide) (by decide) (by decide) (by decide) (by decide), hM, us_kk (by decide), us_kk (by decide), us_kk (by decide), us_kk (by decide), us_kk (by decide), us_kk (by decide), us_kk (by decide), hτ, us_kk (by decide)]
      have W7 : W 7 = us I 7 0 6 (nI T + 1) 7 := by rw [j8 7 (by decide) (by decide) (by decide) (by decide) (by decide), hM, us_kk (by decide), us_kk (by decide), us_kk (by decide), us_kk (by decide), us_kk (by decide), us_kk (by decide), us_kk (by decide), hτ]
      have I7 : I 7 = σ 7 := by rw [i6 7 (by decide) (by decide), hC, us_kk (by decide), us_kk (by decide), us_kk (by decide)]
      have T8 : τ 8 = σ 8 := by rw [hτ, us_kk (by decide), i6 8 (by decide) (by decide), hC, us_kk (by decide), us_kk (by decide), us_kk (by decide)]
      have Wr : ∀ kk : Nat, kk = 34 ∨ kk = 35 ∨ kk = 36 ∨ kk = 40 → W kk = M kk ∧ τ kk = σ kk := fun kk hkk => ⟨j8 kk (by omega) (by omega) (by omega) (by omega) (by omega), by rw [hτ, us_kk (by omega), i6 kk (by omega) (by omega), hC, us_kk (by omega), us_kk (by omega), us_kk (by omega)]⟩
      refine thing_rr hR hT hu hg hv (fun kk hk => ?_) (fun j hj => ?_) ?_ (fun j h0 h3 => ?_) ?_ (fun i hi => ⟨?_, ?_⟩) ⟨?_, ?_, ?_, fun j h3 h6 => ?_⟩ (fun t' => ?_) (fun t' => ?_) (fun t' => ?_) (fun t' => ?_) (fun t' ht' => ?_) (fun kk hkk i hi => ?_) j9 ?_
      · simp at hk
        rw [j8 kk (by omega) (by omega) (by omega) (by omega) (by omega), Mk kk (by simp; omega)]
      · rw [W7, us_j hj, I7]
      · rw [W7, us_h, nI_1]
      · rw [j8 8 (by decide) (by decide) (by decide) (by decide) (by decide), hM, us_k (by decide), us_k (by decide), us_k (by decide), us_k (by decide), us_j h3, us_j h0, us_k (by decide), T8]
      · rw [j8 8 (by decide) (by decide) (by decide) (by decide) (by decide), hM, us_k (by decide), us_k (by decide), us_k (by decide), us_k (by decide), us_h, nI_1]
      · rw [W5, (i5 i hi).1, hC]
        funext j
        simp [us, hi]
      · rw [W20, (i5 i hi).2, C20]
      · rw [W5, i4 0 (by decide) (by decide), hC]; simp [us]
      · rw [W5, i4 1 (by decide) (by decide), hC]; simp [us]
      · rw [W5, i4 2 (by decide) (by decide), hC]; simp [us]
      · rw [W5, i4 j (by omega) (by omega), hC]; simp [us, show ¬ j = 0 by omega, show ¬ j = 1 by omega, show ¬ j = 2 by omega]
      · rw [(Wr 34 (by simp)).1, hM]; simp [us, (Wr 34 (by simp)).2]
      · rw [(Wr 35 (by simp)).1, hM]; simp [us, (Wr 35 (by simp)).2]
      · rw [(Wr 36 (by simp)).1, hM]; simp [us, (Wr 36 (by simp)).2]
      · rw [(Wr 40 (by simp)).1, hM]; simp [us, (Wr 40 (by simp)).2]
      · rw [j7 t' ht', Mk 41 (by decide)]
      · rw [j6 kk hkk i hi, Mk kk (by simp; omega)]
      · rw [W5, W20]
        refine ⟨c, hc5, j2, i3, qq, fun j hj => ?_, j4, fun s hs => ?_, fun s hs z => ?_⟩
        · obtain ⟨⟨k0, y1, y2, y3⟩, x1, x2, x3, x4⟩ := j3 j hj
          obtain ⟨g1, -, -, -, g5, -⟩ := he.1 k0 y1
          have l12 : qq j < 12 := by rw [y2]; exact g1
          have hb9 : bt (σ 5 q 8) (qq j) = true := by rw [y2]; exact y3
          have v20 : I 20 T (qq j) = σ 20 q (qq j) := by rw [i1 _ l12, if_pos ⟨l12, hb9⟩]
          refine ⟨l12, x1, x2, by rw [v20]; exact x3, by rw [v20, y2]; exact g5, ?_⟩
          rw [i2 _ (by omega), hb9, decide_eq_true l12]
          exact x4
        · by_cases z : bt (σ 5 q 8) s = true
          · obtain ⟨k, k1, k2⟩ := he.2.2.2 s (by omega) z
            obtain ⟨j, y1, y2⟩ := j5 k k1 (by rw [k2]; exact z)
            exact Or.inr ⟨j, y1, y2.trans k2⟩
          · left
            rw [i1 s hs, if_neg (fun w => z w.2)]
        · rw [i2 s hs, Bool.and_eq_true] at z
          obtain ⟨k, k1, k2⟩ := he.2.2.2 s hs z.2
          obtain ⟨j, y1, y2⟩ := j5 k k1 (by rw [k2]; exact z.2)
          exact ⟨j, y1, y2.trans k2⟩
