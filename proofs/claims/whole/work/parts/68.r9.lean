/-! what modes and entries allow: counted by subjects on one side, by entries on the other -/
def sw (P : Nat → Bool) : Nat → Nat
  | 0 => 0
  | n + 1 => sw P n + (P n).toNat
def anyb (P : Nat → Bool) : Nat → Bool
  | 0 => false
  | n + 1 => anyb P n || P n
def bI (b : Bool) : Int32 := if b = true then 1 else 0
theorem bI_nI (b : Bool) : bI b = nI b.toNat := by cases b <;> rfl
theorem anyb_iff {P : Nat → Bool} : ∀ {n : Nat}, anyb P n = true ↔ ∃ i : Nat, i < n ∧ P i = true
  | 0 => ⟨fun h => absurd (show false = true from h) (by decide), fun ⟨_, h, _⟩ => by omega⟩
  | n + 1 => by
    show (anyb P n || P n) = true ↔ _
    rw [Bool.or_eq_true, anyb_iff (n := n)]
    constructor
    · rintro (⟨i, h1, h2⟩ | h)
      · exact ⟨i, by omega, h2⟩
      · exact ⟨n, by omega, h⟩
    · rintro ⟨i, h1, h2⟩
      by_cases e : i = n
      · subst e; exact Or.inr h2
      · exact Or.inl ⟨i, by omega, h2⟩
theorem sw_le (P : Nat → Bool) : ∀ n : Nat, sw P n ≤ n
  | 0 => Nat.le_refl _
  | n + 1 => by
    have := sw_le P n
    show sw P n + (P n).toNat ≤ n + 1
    cases P n <;> simp <;> omega
theorem sw_pos {P : Nat → Bool} : ∀ {n : Nat}, 0 < sw P n ↔ anyb P n = true
  | 0 => by simp [sw, anyb]
  | n + 1 => by
    show 0 < sw P n + (P n).toNat ↔ (anyb P n || P n) = true
    rw [Bool.or_eq_true, ← sw_pos (n := n)]
    cases P n <;> simp
theorem sw_congr {P Q : Nat → Bool} : ∀ {n : Nat}, (∀ i : Nat, i < n → P i = Q i) → sw P n = sw Q n
  | 0, _ => rfl
  | n + 1, h => by
    show sw P n + (P n).toNat = sw Q n + (Q n).toNat
    rw [sw_congr (fun i hi => h i (by omega)), h n (by omega)]
theorem anyb_congr {P Q : Nat → Bool} : ∀ {n : Nat}, (∀ i : Nat, i < n → P i = Q i) → anyb P n = anyb Q n
  | 0, _ => rfl
  | n + 1, h => by
    show (anyb P n || P n) = (anyb Q n || Q n)
    rw [anyb_congr (fun i hi => h i (by omega)), h n (by omega)]
/-- one more at one place -/
theorem sw_one {P Q : Nat → Bool} {a : Nat} (hP : P a = false) (hQ : Q a = true) : ∀ {n : Nat}, (∀ i : Nat, i ≠ a → Q i = P i) → a < n → sw Q n = sw P n + 1
  | 0, _, h => by omega
  | n + 1, he, h => by
    show sw Q n + (Q n).toNat = sw P n + (P n).toNat + 1
    by_cases e : a = n
    · subst e
      rw [hP, hQ, sw_congr (P := Q) (Q := P) (fun i hi => he i (by omega))]
      rfl
    · rw [sw_one hP hQ he (by omega), he n (fun q => e q.symm)]
      omega
/-- a sum over entries is one over subjects -/
theorem sw_inj {F : Nat → Bool} {sj : Nat → Nat} : ∀ {n : Nat}, (∀ k : Nat, k < n → sj k < 12) → (∀ k : Nat, k < n → ∀ l : Nat, l < n → sj k = sj l → k = l) → sw (fun k => F (sj k)) n = sw (fun s => anyb (fun k => sj k == s) n && F s) 12
  | 0, _, _ => by
    show 0 = sw (fun s => false && F s) 12
    rw [show (fun s => false && F s) = fun _ => false from funext fun s => Bool.false_and _]
    rfl
  | n + 1, h1, h2 => by
    show sw (fun k => F (sj k)) n + (F (sj n)).toNat = _
    rw [sw_inj (n := n) (fun k hk => h1 k (by omega)) (fun k hk l hl => h2 k (by omega) l (by omega))]
    have hnew : anyb (fun k => sj k == sj n) n = false := by
      cases e : anyb (fun k => sj k == sj n) n
      · rfl
      · obtain ⟨k, k1, k2⟩ := anyb_iff.mp e
        have := h2 k (by omega) n (by omega) (by simpa using k2)
        omega
    cases hF : F (sj n)
    · show sw _ 12 + 0 = _
      rw [Nat.add_zero]
      refine sw_congr fun s _ => ?_
      show _ = ((anyb (fun k => sj k == s) n || (sj n == s)) && F s)
      by_cases e : sj n = s
      · subst e
        rw [hF]; simp
      · have : (sj n == s) = false := by simpa using e
        rw [this, Bool.or_false]
    · refine (sw_one (a := sj n) ?_ ?_ (fun s hs => ?_) (h1 n (by omega))).symm
      · show (anyb (fun k => sj k == sj n) n && F (sj n)) = false
        rw [hnew]; rfl
      · show ((anyb (fun k => sj k == sj n) n || (sj n == sj n)) && F (sj n)) = true
        rw [hF]; simp
      · show ((anyb (fun k => sj k == s) n || (sj n == s)) && F s) = (anyb (fun k => sj k == s) n && F s)
        have : (sj n == s) = false := by simpa using fun q => hs (Eq.symm q)
        rw [this, Bool.or_false]
theorem sw_split {P : Nat → Bool} : ∀ (a n : Nat), sw P (a + n) = sw P a + sw (fun i => P (a + i)) n
  | a, 0 => rfl
  | a, n + 1 => by
    show sw P (a + n) + (P (a + n)).toNat = sw P a + (sw (fun i => P (a + i)) n + (P (a + n)).toNat)
    rw [sw_split a n]
    omega
theorem sw_0 {P : Nat → Bool} : ∀ {n : Nat}, (∀ i : Nat, i < n → P i = false) → sw P n = 0
  | 0, _ => rfl
  | n + 1, h => by
    show sw P n + (P n).toNat = 0
    rw [sw_0 (fun i hi => h i (by omega)), h n (by omega)]
    rfl
theorem anyb_sub {P : Nat → Bool} {n : Nat} (h : anyb P n = true) {Q : Nat → Bool} {m : Nat} (hi : ∀ i : Nat, i < n → P i = true → ∃ j : Nat, j < m ∧ Q j = true) : anyb Q m = true := by
  obtain ⟨i, h1, h2⟩ := anyb_iff.mp h
  exact anyb_iff.mpr (hi i h1 h2)
/-- is there an entry of a subject -/
def pe (e : Nat → Int32) (s : Nat) : Bool := !(e s == -1)
def wQ (e : Nat → Int32) (G : Int32) (i : Nat) : Bool := pe e (6 + i) && bt G i
def wP (e : Nat → Int32) (G k : Int32) (b i : Nat) : Bool := wQ e G i && (bt (e (6 + i)) b && bt k b)
def ways (o gr : Nat) (m k : Int32) (e : Nat → Int32) (ne : Bool) (u : Nat) (G : Int32) (b : Nat) : Nat :=
  if u = o then (bt m (6 + b)).toNat else if e u = -1 then (if (bt G gr || anyb (wQ e G) 6) = true then sw (wP e G k b) 6 + (bt G gr && (bt m (3 + b) && (ne || bt k b))).toNat else (bt m b).toNat) else (bt (e u) b && bt k b).toNat
theorem sh_bt (x : Int32) {n b : Nat} (hn : n + b < 32) : bt (x >>> (nI n &&& 31)) b = bt x (n + b) := by
  rw [b_sshr n (by omega) x (by omega), if_pos hn]
theorem one_bt (x : Int32) {b : Nat} (hb : b < 32) : f_X5_oneIfIn x (nI (2 ^ b)) = bI (bt x b) := by
  rw [f_X5_oneIfIn]
  cases e : bt x b
  · rw [if_pos ((r0 x hb).mpr e)]; rfl
  · rw [if_neg (fun q => by rw [(r0 x hb).mp q] at e; exact absurd e (by decide))]; rfl
theorem b7 : ∀ b : Nat, b < 3 → bt 7 b = true := by decide
section CW
variable {σ : Sg} {i u : Nat} {G : Int32} {b : Nat}
theorem cw73 (uu g r : Int32) (n k : Nat) (v6 v7 : Int32) : f_X5_countWays_L73 i uu g r (n + 1) k v6 v7 σ = if 6 ≤ nI k then (v6, v7) else if (σ 20 i (6 + k)) = (-1) then f_X5_countWays_L73 i uu g r n (k + 1) v6 v7 σ else if ((g >>> ((nI k) &&& 31)) &&& (1 : Int32)) = 0 then f_X5_countWays_L73 i uu g r n (k + 1) v6 v7 σ else f_X5_countWays_L73 i uu g r n (k + 1) (v6 + (f_X5_oneIfIn ((σ 20 i (6 + k)) &&& (σ 5 i 6)) r)) 1 σ := rfl
theorem cw73_all (uu : Int32) (hb : b < 3) (c : Bool) : ∀ (n k : Nat), n + k = 7 → k ≤ 6 → f_X5_countWays_L73 i uu G (nI (2 ^ b)) n k (nI (sw (wP (σ 20 i) G (σ 5 i 6) b) k)) (bI (c || anyb (wQ (σ 20 i) G) k)) σ = (nI (sw (wP (σ 20 i) G (σ 5 i 6) b) 6), bI (c || anyb (wQ (σ 20 i) G) 6))
  | 0, k, h, h6 => by omega
  | n + 1, k, h, h6 => by
    rw [cw73]
    by_cases hk : k = 6
    · rw [if_pos (nI6' hk), hk]
    · rw [if_neg (nI6 (by omega)), hb_bt G k (by omega)]
      have ih := cw73_all uu hb c n (k + 1) (by omega) (by omega)
      have es : sw (wP (σ 20 i) G (σ 5 i 6) b) (k + 1) = sw (wP (σ 20 i) G (σ 5 i 6) b) k + (wP (σ 20 i) G (σ 5 i 6) b k).toNat := rfl
      have ea : anyb (wQ (σ 20 i) G) (k + 1) = (anyb (wQ (σ 20 i) G) k || wQ (σ 20 i) G k) := rfl
      by_cases h0 : σ 20 i (6 + k) = -1
      · have q0 : wQ (σ 20 i) G k = false := by simp [wQ, pe, h0]
        have p0 : wP (σ 20 i) G (σ 5 i 6) b k = false := by simp [wP, q0]
        rw [if_pos h0, ← ih, es, ea, p0, q0, Bool.or_false]
        rfl
      · rw [if_neg h0]
        cases e9 : bt G k
        · have q0 : wQ (σ 20 i) G k = false := by simp [wQ, e9]
          have p0 : wP (σ 20 i) G (σ 5 i 6) b k = false := by simp [wP, q0]
          rw [z0F, ← ih, es, ea, p0, q0, Bool.or_false]
          rfl
        · have q1 : wQ (σ 20 i) G k = true := by simp [wQ, pe, h0, e9]
          have p1 : wP (σ 20 i) G (σ 5 i 6) b k = bt (σ 20 i (6 + k) &&& σ 5 i 6) b := by simp [wP, q1, b_and]
          rw [z1T, ← ih, es, ea, p1, q1, one_bt _ (by omega), bI_nI, nI_add, Bool.or_true, Bool.or_true]
          rfl
theorem rightsOf_eq (hu : u < 12) : f_X5_rightsOf i (nI u) σ = σ 20 i u := by
  rw [f_X5_rightsOf, if_neg (nI_pos (by omega)), if_pos (show nI u < 12 from nI_lt (b := 12) hu (by decide)), nI_clamp (by omega)]
theorem countWays_eq {o gr : Nat} (ho : o < 6) (hg : gr < 6) (hu : u < 6) (hb : b < 3) (h0 : σ 5 i 0 = nI o) (h1 : σ 5 i 1 = nI gr) : f_X5_countWays i (nI u) G (nI (2 ^ b)) σ = nI (ways o gr (σ 5 i 2) (σ 5 i 6) (σ 20 i) (decide (σ 5 i 7 ≤ 0)) u G b) := by
  have s6 : ∀ x : Int32, bt (x >>> ((6 : Int32) &&& 31)) b = bt x (6 + b) := fun x => sh_bt x (n := 6) (by omega)
  have s3 : ∀ x : Int32, bt (x >>> ((3 : Int32) &&& 31)) b = bt x (3 + b) := fun x => sh_bt x (n := 3) (by omega)
  have s0 : ∀ x : Int32, bt (x >>> ((0 : Int32) &&& 31)) b = bt x b := fun x => by
    have := sh_bt x (n := 0) (b := b) (by omega)
    rw [Nat.zero_add] at this
    exact this
  rw [f_X5_countWays, h0, rightsOf_eq (by omega), ways, h1]
  by_cases e1 : u = o
  · rw [if_pos (by rw [e1]), if_pos e1, one_bt _ (by omega), s6, bI_nI]
  · rw [if_neg (fun q => e1 ((nI_eq (by omega) (by omega)).mp q)), if_neg e1]
    by_cases e2 : σ 20 i u = -1
    · rw [if_pos e2, if_pos e2, hb_bt G gr (by omega)]
      cases e3 : bt G gr
      · rw [z0F]
        have := cw73_all (σ := σ) (i := i) (G := G) (nI u) hb false 7 0 rfl (by omega)
        rw [show f_X5_countWays_L73 i (nI u) G (nI (2 ^ b)) 7 0 0 0 σ = _ from this]
        rw [f_X5_countWays_K73]
        simp only [Bool.false_or, Bool.false_and]
        cases e4 : anyb (wQ (σ 20 i) G) 6
        · rw [if_pos (show bI false = 0 from rfl), if_neg (by decide), one_bt _ (by omega), s0, bI_nI]
        · rw [if_neg (show ¬ bI true = 0 by decide), if_pos rfl]
          rfl
      · rw [z1T]
        have := cw73_all (σ := σ) (i := i) (G := G) (nI u) hb true 7 0 rfl (by omega)
        rw [show f_X5_countWays_L73 i (nI u) G (nI (2 ^ b)) 7 0 0 1 σ = _ from this]
        rw [f_X5_countWays_K73b]
        simp only [Bool.true_or, Bool.true_and, if_true, show ¬ bI true = 0 by decide, if_false]
        by_cases e4 : σ 5 i 7 ≤ 0
        · rw [if_pos e4, decide_eq_true e4, one_bt _ (by omega), b_and, s3, b7 b hb, bI_nI, nI_add]
          simp
        · rw [if_neg e4, decide_eq_false e4, one_bt _ (by omega), b_and, s3, bI_nI, nI_add]
          simp
    · rw [if_neg e2, if_neg e2, one_bt _ (by omega), b_and, bI_nI]
end CW
/-! the model's side -/
section ML
variable {m : Sg} {t u n : Nat} {G : Int32} {b : Nat} {sj : Nat → Nat} {e : Nat → Int32} {hd : Int32}
/-- the entries of one thing -/
def En (m : Sg) (t n : Nat) (sj : Nat → Nat) (e : Nat → Int32) (hd : Int32) : Prop := (∀ k : Nat, k < n → sj k < 12 ∧ m 43 0 (5 * t + k) = nI (sj k / 6) ∧ m 42 0 (5 * t + k) = nI (sj k % 6) ∧ m 44 0 (5 * t + k) = e (sj k) ∧ (∃ r : Nat, r < 8 ∧ e (sj k) = nI r) ∧ m 45 0 (5 * t + k) = (if bt hd (sj k) = true then 1 else 0)) ∧ (∀ k : Nat, k < n → ∀ l : Nat, l < n → sj k = sj l → k = l) ∧ (∀ s : Nat, s < 12 → e s = -1 ∨ ∃ k : Nat, k < n ∧ sj k = s) ∧ ∀ s : Nat, s < 32 → bt hd s = true → ∃ k : Nat, k < n ∧ sj k = s
theorem En.pz (h : En m t n sj e hd) {s : Nat} (hs : s < 12) : pe e s = anyb (fun k => sj k == s) n := by
  obtain ⟨h1, h2, h3, h4⟩ := h
  cases q : anyb (fun k => sj k == s) n
  · rcases h3 s hs with q2 | ⟨k, k1, k2⟩
    · simp [pe, q2]
    · have := (anyb_iff (P := fun k => sj k == s)).mpr ⟨k, k1, by simpa using k2⟩
      rw [q] at this
      exact absurd this (by decide)
  · obtain ⟨k, k1, k2⟩ := anyb_iff.mp q
    have e1 : sj k = s := by simpa using k2
    obtain ⟨-, -, -, -, ⟨r, r1, r2⟩, -⟩ := h1 k k1
    rw [e1] at r2
    have : ¬ e s = -1 := by
      rw [r2]
      exact (by decide : ∀ r : Nat, r < 8 → ¬ nI r = -1) r r1
    simp [pe, this]
theorem i5k {t k : Nat} (ht : t < 12) (hk : k < 5) : (((5 : Int32) * nI t) + nI k).toNatClampNeg = 5 * t + k := by
  rw [show (5 : Int32) * nI t = nI (5 * t) from pk_mul 5 t, nI_add, nI_clamp (by omega)]
theorem eo6 (bb uu : Int32) (n k : Nat) (v : Int32) : f_X8_entryOf_L6 (nI t) bb uu (n + 1) k v m = if (m 41 0 (nI t).toNatClampNeg) ≤ (nI k) then v else if (m 43 0 ((((5 : Int32) * (nI t)) + (nI k)).toNatClampNeg)) = bb then (if (m 42 0 ((((5 : Int32) * (nI t)) + (nI k)).toNatClampNeg)) = uu then f_X8_entryOf_L6 (nI t) bb uu n (k + 1) (nI k) m else f_X8_entryOf_L6 (nI t) bb uu n (k + 1) v m) else f_X8_entryOf_L6 (nI t) bb uu n (k + 1) v m := rfl
/-- the place of a subject's entry, or -1 -/
theorem eo6_all (h : En m t n sj e hd) (ht : t < 12) (hn : n ≤ 5) (h41 : m 41 0 t = nI n) {s : Nat} (hs : s < 12) : ∀ (f k : Nat) (v : Int32), f + k = 6 → k ≤ n → ((v = -1 ∧ ∀ l : Nat, l < k → sj l ≠ s) ∨ ∃ l : Nat, l < k ∧ sj l = s ∧ v = nI l) → ((f_X8_entryOf_L6 (nI t) (nI (s / 6)) (nI (s % 6)) f k v m = -1 ∧ ∀ l : Nat, l < n → sj l ≠ s) ∨ ∃ l : Nat, l < n ∧ sj l = s ∧ f_X8_entryOf_L6 (nI t) (nI (s / 6)) (nI (s % 6)) f k v m = nI l)
  | 0, k, v, hf, hk, _ => by omega
  | f + 1, k, v, hf, hk, hv => by
    rw [eo6, nI_clamp (by omega), h41]
    by_cases hkn : k = n
    · rw [if_pos (nI_le (by omega) (by omega))]
      subst hkn
      exact hv
    · have hk2 : k < n := by omega
      rw [if_neg (nI_ge hk2 (by omega)), i5k ht (by omega)]
      obtain ⟨g1, g2, g3, -⟩ := h.1 k hk2
      rw [g2, g3]
      by_cases hs9 : sj k = s
      · rw [hs9, if_pos rfl, if_pos rfl]
        exact eo6_all h ht hn h41 hs f (k + 1) _ (by omega) (by omega) (Or.inr ⟨k, by omega, hs9, rfl⟩)
      · have hnx : f_X8_entryOf_L6 (nI t) (nI (s / 6)) (nI (s % 6)) f (k + 1) v m = (if nI (sj k / 6) = nI (s / 6) then (if nI (sj k % 6) = nI (s % 6) then f_X8_entryOf_L6 (nI t) (nI (s / 6)) (nI (s % 6)) f (k + 1) (nI k) m else f_X8_entryOf_L6 (nI t) (nI (s / 6)) (nI (s % 6)) f (k + 1) v m) else f_X8_entryOf_L6 (nI t) (nI (s / 6)) (nI (s % 6)) f (k + 1) v m) := by
          by_cases c1 : nI (sj k / 6) = nI (s / 6)
          · rw [if_pos c1]
            by_cases c2 : nI (sj k % 6) = nI (s % 6)
            · exfalso
              have d1 := (nI_eq (by omega) (by omega)).mp c1
              have d2 := (nI_eq (by omega) (by omega)).mp c2
              omega
            · rw [if_neg c2]
          · rw [if_neg c1]
        rw [← hnx]
        refine eo6_all h ht hn h41 hs f (k + 1) v (by omega) (by omega) ?_
        rcases hv with ⟨v1, v2⟩ | ⟨l, l1, l2, l3⟩
        · refine Or.inl ⟨v1, fun l hl => ?_⟩
          by_cases el : l = k
          · subst el; exact hs9
          · exact v2 l (by omega)
        · exact Or.inr ⟨l, by omega, l2, l3⟩
theorem entryOf_all (h : En m t n sj e hd) (ht : t < 12) (hn : n ≤ 5) (h41 : m 41 0 t = nI n) {s : Nat} (hs : s < 12) : (f_X8_entryOf (nI t) (nI (s / 6)) (nI (s % 6)) m = -1 ∧ e s = -1 ∧ ∀ l : Nat, l < n → sj l ≠ s) ∨ ∃ l : Nat, l < n ∧ sj l = s ∧ f_X8_entryOf (nI t) (nI (s / 6)) (nI (s % 6)) m = nI l ∧ ¬ e s = -1 := by
  rcases eo6_all h ht hn h41 hs 6 0 (-1) rfl (by omega) (Or.inl ⟨rfl, fun l hl => by omega⟩) with ⟨a1, a2⟩ | ⟨l, l1, l2, l3⟩
  · refine Or.inl ⟨a1, ?_, a2⟩
    rcases h.2.2.1 s hs with q | ⟨k, k1, k2⟩
    · exact q
    · exact absurd k2 (a2 k k1)
  · refine Or.inr ⟨l, l1, l2, l3, ?_⟩
    obtain ⟨-, -, -, -, ⟨r, r1, r2⟩, -⟩ := h.1 l l1
    rw [← l2, r2]
    exact (by decide : ∀ r : Nat, r < 8 → ¬ nI r = -1) r r1
theorem bg79 (uu r : Int32) (n k : Nat) (v w : Int32) : f_X8_byGroups_L79 uu (nI t) r (n + 1) k v w m = if (m 41 0 (nI t).toNatClampNeg) ≤ (nI k) then v else if (m 43 0 ((((5 : Int32) * (nI t)) + (nI k)).toNatClampNeg)) = 0 then f_X8_byGroups_L79 uu (nI t) r n (k + 1) v w m else if (f_X8_hasBit w (m 42 0 ((((5 : Int32) * (nI t)) + (nI k)).toNatClampNeg))) = 0 then f_X8_byGroups_L79 uu (nI t) r n (k + 1) v w m else if v = (-1) then (if (((m 44 0 ((((5 : Int32) * (nI t)) + (nI k)).toNatClampNeg)) &&& (m 40 0 (nI t).toNatClampNeg)) &&& r) = 0 then f_X8_byGroups_L79 uu (nI t) r n (k + 1) 0 w m else f_X8_byGroups_L79 uu (nI t) r n (k + 1) 1 w m) else if (((m 44 0 ((((5 : Int32) * (nI t)) + (nI k)).toNatClampNeg)) &&& (m 40 0 (nI t).toNatClampNeg)) &&& r) = 0 then f_X8_byGroups_L79 uu (nI t) r n (k + 1) (v + (0 : Int32)) w m else f_X8_byGroups_L79 uu (nI t) r n (k + 1) (v + (1 : Int32)) w m := rfl
def eQ (G : Int32) (s : Nat) : Bool := decide (6 ≤ s) && bt G (s - 6)
def eP (G k : Int32) (e : Nat → Int32) (b s : Nat) : Bool := eQ G s && (bt (e s) b && bt k b)
/-- none yet, or so many -/
def oi (c : Bool) (x : Nat) : Int32 := if c = true then nI x else -1
theorem oi_step {c q p : Bool} {x : Nat} (hx : x < 100) (hp : q = false → p = false) (f : Int32 → Int32) : (if q = false then f (oi c x) else if oi c x = -1 then (if p = false then f 0 else f 1) else if p = false then f (oi c x + 0) else f (oi c x + 1)) = f (oi (c || q) ((if c = true then x else 0) + p.toNat)) ∨ (c = false ∧ x ≠ 0) := by
  cases q
  · left
    rw [if_pos rfl, hp rfl, Bool.or_false]
    cases c
    · rfl
    · simp [oi]
  · rw [if_neg (by decide)]
    cases c
    · left
      rw [if_pos (show oi false x = -1 from rfl)]
      cases p <;> rfl
    · left
      have : ¬ oi true x = -1 := fun q => by
        have h1 : nI x = -1 := q
        have := congrArg Int32.toInt h1
        rw [nI_toInt (by omega)] at this
        simp at this <;> omega
      rw [if_neg this]
      cases p
      · rw [if_pos rfl]
        simp [oi]
      · rw [if_neg (by decide)]
        show f (nI x + 1) = f (nI (x + 1))
        rw [nI_1]
theorem bg79_all (h : En m t n sj e hd) (ht : t < 12) (hn : n ≤ 5) (h41 : m 41 0 t = nI n) (uu : Int32) (hb : b < 3) (c : Bool) (x0 : Nat) (hx0 : x0 ≤ 1) (hc : c = false → x0 = 0) : ∀ (f k : Nat), f + k = 6 → k ≤ n → f_X8_byGroups_L79 uu (nI t) (nI (2 ^ b)) f k (oi (c || anyb (fun k => eQ G (sj k)) k) (x0 + sw (fun k => eP G (m 40 0 t) e b (sj k)) k)) G m = oi (c || anyb (fun k => eQ G (sj k)) n) (x0 + sw (fun k => eP G (m 40 0 t) e b (sj k)) n)
  | 0, k, hf, hk => by omega
  | f + 1, k, hf, hk => by
    rw [bg79, nI_clamp (by omega), h41]
    by_cases hkn : k = n
    · rw [if_pos (nI_le (by omega) (by omega)), hkn]
    · have hk2 : k < n := by omega
      rw [if_neg (nI_ge hk2 (by omega)), i5k ht (by omega)]
      obtain ⟨g1, g2, g3, g4, -⟩ := h.1 k hk2
      rw [g2, g3, g4]
      have ih := bg79_all h ht hn h41 uu hb c x0 hx0 hc f (k + 1) (by omega) (by omega)
      have hle := sw_le (fun k => eP G (m 40 0 t) e b (sj k)) k
      have q1 : (f_X8_hasBit G (nI (sj k % 6)) = 0) ↔ bt G (sj k % 6) = false := by
        rw [hasBit_bt G (by omega)]
        cases bt G (sj k % 6) <;> decide
      have pb : ((e (sj k) &&& m 40 0 t) &&& nI (2 ^ b) = 0) ↔ (bt (e (sj k)) b && bt (m 40 0 t) b) = false := by
        rw [r0 _ (by omega), b_and]
      rw [← ih]
      show _ = f_X8_byGroups_L79 uu (nI t) (nI (2 ^ b)) f (k + 1) (oi (c || (anyb (fun k => eQ G (sj k)) k || eQ G (sj k))) (x0 + (sw (fun k => eP G (m 40 0 t) e b (sj k)) k + (eP G (m 40 0 t) e b (sj k)).toNat))) G m
      rw [← Bool.or_assoc]
      by_cases h6 : sj k < 6
      · have e0 : eQ G (sj k) = false := by simp [eQ, show ¬ 6 ≤ sj k by omega]
        have p0 : eP G (m 40 0 t) e b (sj k) = false := by simp [eP, e0]
        rw [if_pos (show nI (sj k / 6) = 0 by rw [Nat.div_eq_of_lt h6]; rfl), e0, p0, Bool.or_false]
        rfl
      · rw [if_neg (nI_ne0 (by omega) (by omega))]
        have em : sj k % 6 = sj k - 6 := by omega
        rw [em] at q1
        rw [em]
        cases hg : bt G (sj k - 6)
        · have e0 : eQ G (sj k) = false := by simp [eQ, hg]
          have p0 : eP G (m 40 0 t) e b (sj k) = false := by simp [eP, e0]
          rw [if_pos (q1.mpr hg), e0, p0, Bool.or_false]
          rfl
        · have e1 : eQ G (sj k) = true := by simp [eQ, hg]; omega
          have p1 : eP G (m 40 0 t) e b (sj k) = (bt (e (sj k)) b && bt (m 40 0 t) b) := by simp [eP, e1]
          rw [if_neg (fun q => by rw [q1.mp q] at hg; exact absurd hg (by decide)), e1, p1, Bool.or_true]
          generalize hA : (c || anyb (fun k => eQ G (sj k)) k) = A
          generalize hX : sw (fun k => eP G (m 40 0 t) e b (sj k)) k = X
          have hz : A = false → x0 + X = 0 := by
            intro hA2
            rw [hA2] at hA
            have c0 : c = false := by cases c <;> simp_all
            have a0 : anyb (fun k => eQ G (sj k)) k = false := by cases c <;> simp_all
            rw [hc c0, ← hX]
            rw [sw_0 (fun i hi => ?_)]
            cases hq : eQ G (sj i)
            · simp [eP, hq]
            · have := (anyb_iff (P := fun k => eQ G (sj k))).mpr ⟨i, hi, hq⟩
              rw [a0] at this
              exact absurd this (by decide)
          have hX9 : x0 + X < 100 := by rw [← hX]; omega
          cases A
          · have hz0 := hz rfl
            rw [if_pos (show oi false (x0 + X) = -1 from rfl), ← Nat.add_assoc, hz0]
            cases hp : (bt (e (sj k)) b && bt (m 40 0 t) b)
            · rw [if_pos (pb.mpr hp)]
              rfl
            · rw [if_neg (fun q => by rw [pb.mp q] at hp; exact absurd hp (by decide))]
              rfl
          · have hne : ¬ oi true (x0 + X) = -1 := fun q => by
              have h1 : nI (x0 + X) = -1 := q
              have := congrArg Int32.toInt h1
              rw [nI_toInt (by omega)] at this
              simp at this <;> omega
            rw [if_neg hne, ← Nat.add_assoc]
            cases hp : (bt (e (sj k)) b && bt (m 40 0 t) b)
            · rw [if_pos (pb.mpr hp)]
              show f_X8_byGroups_L79 uu (nI t) (nI (2 ^ b)) f (k + 1) (nI (x0 + X) + 0) G m = f_X8_byGroups_L79 uu (nI t) (nI (2 ^ b)) f (k + 1) (nI (x0 + X + 0)) G m
              rw [Int32.add_zero]
              rfl
            · rw [if_neg (fun q => by rw [pb.mp q] at hp; exact absurd hp (by decide))]
              show f_X8_byGroups_L79 uu (nI t) (nI (2 ^ b)) f (k + 1) (nI (x0 + X) + 1) G m = f_X8_byGroups_L79 uu (nI t) (nI (2 ^ b)) f (k + 1) (nI (x0 + X + 1)) G m
              rw [nI_1]
/-- sums over the entries are sums over the groups -/
theorem En.sumP (h : En m t n sj e hd) (k : Int32) (b : Nat) : sw (fun i => eP G k e b (sj i)) n = sw (wP e G k b) 6 := by
  rw [sw_inj (F := fun s => eP G k e b s) (fun k hk => (h.1 k hk).1) h.2.1]
  rw [show 12 = 6 + 6 from rfl, sw_split 6 6, sw_0 (n := 6) (fun i hi => by simp [eP, eQ, show ¬ 6 ≤ i by omega]), Nat.zero_add]
  refine sw_congr fun i hi => ?_
  rw [← h.pz (s := 6 + i) (by omega)]
  simp [eP, eQ, wP, wQ, Bool.and_assoc]
theorem En.anyQ (h : En m t n sj e hd) : anyb (fun i => eQ G (sj i)) n = anyb (wQ e G) 6 := by
  cases e1 : anyb (wQ e G) 6
  · cases e2 : anyb (fun i => eQ G (sj i)) n
    · rfl
    · obtain ⟨k, k1, k2⟩ := anyb_iff.mp e2
      have k3 : eQ G (sj k) = true := k2
      obtain ⟨g1, -⟩ := h.1 k k1
      simp only [eQ, Bool.and_eq_true, decide_eq_true_eq] at k3
      have : anyb (wQ e G) 6 = true := anyb_iff.mpr ⟨sj k - 6, by omega, by
        have e6 : 6 + (sj k - 6) = sj k := by omega
        rw [wQ, e6, h.pz g1, k3.2, Bool.and_true]
        exact anyb_iff.mpr ⟨k, k1, by simp⟩⟩
      rw [e1] at this
      exact absurd this (by decide)
  · obtain ⟨i, i1, i2⟩ := anyb_iff.mp e1
    rw [wQ, Bool.and_eq_true, h.pz (by omega)] at i2
    obtain ⟨k, k1, k2⟩ := anyb_iff.mp i2.1
    have k3 : sj k = 6 + i := by simpa using k2
    refine anyb_iff.mpr ⟨k, k1, ?_⟩
    show eQ G (sj k) = true
    rw [k3, eQ, show 6 + i - 6 = i by omega, i2.2]
    simp
theorem leastOf_eq (h : En m t n sj e hd) (ht : t < 12) (hn : n ≤ 5) (h41 : m 41 0 t = nI n) {o gr : Nat} (ho : o < 6) (hg : gr < 6) (hu : u < 6) (hb : b < 3) (h34 : m 34 0 t = nI o) (h35 : m 35 0 t = nI gr) (hG : f_X8_groupsOf (nI u) m = G) : f_X8_leastOf (nI u) (nI t) (nI (2 ^ b)) m = nI (ways o gr (m 36 0 t) (m 40 0 t) e (decide (n = 0)) u G b) := by
  have s6 : ∀ x : Int32, (x >>> ((6 : Int32) &&& 31) &&& nI (2 ^ b) = 0) ↔ bt x (6 + b) = false := fun x => by rw [r0 _ (by omega), show bt (x >>> ((6 : Int32) &&& 31)) b = bt x (6 + b) from sh_bt x (n := 6) (by omega)]
  have s3 : ∀ x : Int32, (x >>> ((3 : Int32) &&& 31) &&& nI (2 ^ b) = 0) ↔ bt x (3 + b) = false := fun x => by rw [r0 _ (by omega), show bt (x >>> ((3 : Int32) &&& 31)) b = bt x (3 + b) from sh_bt x (n := 3) (by omega)]
  have ite01 : ∀ {p : Prop} [Decidable p] {c : Bool}, (p ↔ c = false) → (if p then (0 : Int32) else 1) = nI c.toNat := fun {p} _ {c} hp => by
    cases c
    · rw [if_pos (hp.mpr rfl)]; rfl
    · rw [if_neg (fun q => absurd (hp.mp q) (by decide))]; rfl
  rw [f_X8_leastOf, nI_clamp (show t < 2 ^ 31 by omega), h34, ways]
  by_cases e1 : u = o
  · rw [if_pos (by rw [e1]), if_pos e1]
    exact ite01 (s6 _)
  · rw [if_neg (fun q => e1 ((nI_eq (by omega) (by omega)).mp q)), if_neg e1]
    have he := entryOf_all h ht hn h41 (s := u) (by omega)
    rw [show u / 6 = 0 from Nat.div_eq_of_lt hu, show u % 6 = u from Nat.mod_eq_of_lt hu] at he
    rcases he with ⟨a1, a2, a3⟩ | ⟨l, l1, l2, l3, l4⟩
    · rw [show f_X8_entryOf (nI t) 0 (nI u) m = -1 from a1, if_pos rfl, if_pos a2]
      have bg : f_X8_byGroups (nI u) (nI t) (nI (2 ^ b)) m = oi (bt G gr || anyb (wQ e G) 6) ((bt G gr && (bt (m 36 0 t) (3 + b) && (decide (n = 0) || bt (m 40 0 t) b))).toNat + sw (wP e G (m 40 0 t) b) 6) := by
        rw [f_X8_byGroups, nI_clamp (show t < 2 ^ 31 by omega), hG, h35, hasBit_bt G (by omega), h41]
        have key : ∀ (c : Bool) (x0 : Nat), x0 ≤ 1 → (c = false → x0 = 0) → f_X8_byGroups_L79 (nI u) (nI t) (nI (2 ^ b)) 6 0 (oi c x0) G m = oi (c || anyb (wQ e G) 6) (x0 + sw (wP e G (m 40 0 t) b) 6) := fun c x0 c1 c2 => by
          have := bg79_all (G := G) h ht hn h41 (nI u) hb c x0 c1 c2 6 0 rfl (by omega)
          rw [h.anyQ, h.sumP] at this
          simpa [anyb, sw] using this
        cases e3 : bt G gr
        · rw [z0F]
          exact key false 0 (by omega) (fun _ => rfl)
        · rw [z1T]
          cases e4 : bt (m 36 0 t) (3 + b)
          · rw [if_pos ((s3 _).mpr e4)]
            exact key true 0 (by omega) (fun q => absurd q (by decide))
          · rw [if_neg (fun q => by rw [(s3 _).mp q] at e4; exact absurd e4 (by decide))]
            by_cases e5 : n = 0
            · rw [if_pos (by rw [e5]; rfl), decide_eq_true e5]
              exact key true 1 (by omega) (fun q => absurd q (by decide))
            · rw [if_neg (nI_ne0 (by omega) (by omega)), decide_eq_false e5]
              cases e6 : bt (m 40 0 t) b
              · rw [if_pos ((r0 _ (by omega)).mpr e6)]
                exact key true 0 (by omega) (fun q => absurd q (by decide))
              · rw [if_neg (fun q => by rw [(r0 _ (by omega)).mp q] at e6; exact absurd e6 (by decide))]
                exact key true 1 (by omega) (fun q => absurd q (by decide))
      rw [bg]
      cases e7 : (bt G gr || anyb (wQ e G) 6)
      · rw [if_pos (show oi false _ = -1 from rfl), if_neg (show ¬ (false = true) by decide)]
        exact ite01 (r0 _ (by omega))
      · have hle := sw_le (wP e G (m 40 0 t) b) 6
        have hlt : (bt G gr && (bt (m 36 0 t) (3 + b) && (decide (n = 0) || bt (m 40 0 t) b))).toNat ≤ 1 := cz_b _
        rw [if_neg (fun q => by
          have h1 : nI _ = -1 := q
          have := congrArg Int32.toInt h1
          rw [nI_toInt (by omega)] at this
          simp at this <;> omega), if_pos rfl, Nat.add_comm]
        rfl
    · rw [show f_X8_entryOf (nI t) 0 (nI u) m = nI l from l3, if_neg ((by decide : ∀ l : Nat, l < 5 → ¬ nI l = -1) l (by omega)), if_neg l4, i5k ht (by omega)]
      obtain ⟨-, -, -, g4, -⟩ := h.1 l l1
      rw [g4, l2]
      exact ite01 ((r0 _ (by omega)).trans (by rw [b_and]))
end ML
