/-! the search over all sets -/
section LR
variable {σ : Sg} {o b : Nat}
theorem holds_eq {m : Int32} {e : Nat → Int32} {τ : Sg} (hm : τ 5 o 2 = m) (he : τ 20 o = e) (hb : b < 3) {p : Nat} (hp : p < 15) : (f_X5_holdsRight o (nI p) (nI (2 ^ b)) τ = 0) ↔ wH m e b p = false := by
  unfold f_X5_holdsRight wH
  by_cases h3 : p < 3
  · rw [if_neg (show ¬ (3 : Int32) ≤ nI p from nI_ge (b := 3) h3 (by decide)), if_pos h3, hm, show (3 : Int32) * nI p = nI (3 * p) from pk_mul 3 p, iteb _ (by omega), bI_0, sh_bt _ (by omega)]
  · rw [if_pos (show (3 : Int32) ≤ nI p from nI_le (a := 3) (by omega) (by omega)), if_neg h3, show nI p - (3 : Int32) = nI (p - 3) from pk_sub (b := 3) (by omega), rightsOf_eq (by omega), he]
    by_cases h0 : e (p - 3) = -1
    · rw [if_pos h0]
      simp [pe, h0]
    · rw [if_neg h0, iteb _ (by omega), bI_0]
      simp [pe, h0]
/-- the places so far: pl lists those below k that have the right -/
def Li (H : Nat → Bool) (pl : Nat → Nat) (k : Nat) : Prop := (∀ j : Nat, j < sw H k → pl j < k ∧ H (pl j) = true) ∧ (∀ j : Nat, j < sw H k → ∀ l : Nat, l < sw H k → pl j = pl l → j = l) ∧ ∀ p : Nat, p < k → H p = true → ∃ j : Nat, j < sw H k ∧ pl j = p
theorem lr5 (r : Int32) (n k : Nat) (v : Int32) (τ : Sg) : f_X7_listRemovable_L5 o r (n + 1) k v τ = if 15 ≤ (nI k) then (v, τ) else if (f_X5_holdsRight o (nI k) r τ) = 0 then f_X7_listRemovable_L5 o r n (k + 1) v τ else f_X7_listRemovable_L5 o r n (k + 1) (v + 1) (us τ 21 0 v.toNatClampNeg (nI k)) := rfl
theorem lr_all {m : Int32} {e : Nat → Int32} (hb : b < 3) : ∀ (n k : Nat) (τ : Sg) (pl : Nat → Nat), n + k = 16 → k ≤ 15 → τ 5 o 2 = m → τ 20 o = e → Li (wH m e b) pl k → (∀ j : Nat, j < sw (wH m e b) k → τ 21 0 j = nI (pl j)) → ∃ pl' : Nat → Nat, (f_X7_listRemovable_L5 o (nI (2 ^ b)) n k (nI (sw (wH m e b) k)) τ).1 = nI (sw (wH m e b) 15) ∧ Li (wH m e b) pl' 15 ∧ ∀ j : Nat, j < sw (wH m e b) 15 → (f_X7_listRemovable_L5 o (nI (2 ^ b)) n k (nI (sw (wH m e b) k)) τ).2 21 0 j = nI (pl' j)
  | 0, k, τ, pl, hn, hk, _, _, _, _ => by omega
  | n + 1, k, τ, pl, hn, hk, hm, he, hL, h21 => by
    rw [lr5]
    by_cases hk15 : k = 15
    · subst hk15
      rw [if_pos (by decide)]
      exact ⟨pl, rfl, hL, h21⟩
    · have hk2 : k < 15 := by omega
      rw [if_neg (show ¬ (15 : Int32) ≤ nI k from nI_ge (b := 15) hk2 (by decide))]
      have sH : sw (wH m e b) (k + 1) = sw (wH m e b) k + (wH m e b k).toNat := rfl
      have hle := sw_le (wH m e b) k
      obtain ⟨g1, g2, g3⟩ := hL
      cases e9 : wH m e b k
      · rw [if_pos ((holds_eq hm he hb hk2).mpr e9)]
        have s0 : sw (wH m e b) (k + 1) = sw (wH m e b) k := by rw [sH, e9]; rfl
        rw [← s0]
        refine lr_all hb n (k + 1) τ pl (by omega) (by omega) hm he ⟨fun j hj => ?_, fun j hj l hl => ?_, fun p hp hH => ?_⟩ (fun j hj => h21 j (by omega))
        · obtain ⟨a, c⟩ := g1 j (by omega)
          exact ⟨by omega, c⟩
        · exact g2 j (by omega) l (by omega)
        · by_cases ep : p = k
          · subst ep; rw [e9] at hH; exact absurd hH (by decide)
          · obtain ⟨j, a, c⟩ := g3 p (by omega) hH
            exact ⟨j, by omega, c⟩
      · rw [if_neg (fun q => by rw [(holds_eq hm he hb hk2).mp q] at e9; exact absurd e9 (by decide)), nI_1, nI_clamp (by omega)]
        have s1 : sw (wH m e b) (k + 1) = sw (wH m e b) k + 1 := by rw [sH, e9]; rfl
        rw [← s1]
        refine lr_all hb n (k + 1) (us τ 21 0 (sw (wH m e b) k) (nI k)) (fun j => if j = sw (wH m e b) k then k else pl j) (by omega) (by omega) hm he ⟨fun j hj => ?_, fun j hj l hl q => ?_, fun p hp hH => ?_⟩ (fun j hj => ?_)
        · by_cases ej : j = sw (wH m e b) k
          · simp only [if_pos ej]
            exact ⟨by omega, e9⟩
          · simp only [if_neg ej]
            obtain ⟨a, c⟩ := g1 j (by omega)
            exact ⟨by omega, c⟩
        · by_cases ej : j = sw (wH m e b) k <;> by_cases el : l = sw (wH m e b) k <;> simp only [ej, el, if_true, if_false] at q ⊢
          · have := (g1 l (by omega)).1; omega
          · have := (g1 j (by omega)).1; omega
          · exact g2 j (by omega) l (by omega) q
        · by_cases ep : p = k
          · exact ⟨sw (wH m e b) k, by omega, by simp [ep]⟩
          · obtain ⟨j, a, c⟩ := g3 p (by omega) hH
            exact ⟨j, by omega, by simp only [if_neg (show ¬ (j = sw (wH m e b) k) by omega)]; exact c⟩
        · by_cases ej : j = sw (wH m e b) k
          · rw [if_pos ej, ej, us_h]
          · rw [if_neg ej, us_j ej]
            exact h21 j (by omega)
end LR
/-! a thing made like another one -/
section CT
variable {i o : Nat}
theorem ct74k {kk : Nat} (h : kk ≠ 20) : ∀ (n k : Nat) (σ : Sg), s_X5_copyFrom_L74 i o n k σ kk = σ kk
  | 0, k, σ => rfl
  | n + 1, k, σ => by
    show (if 12 ≤ nI k then σ else s_X5_copyFrom_L74 i o n (k + 1) (us σ 20 i k (σ 20 o k))) kk = _
    by_cases q : 12 ≤ nI k
    · rw [if_pos q]
    · rw [if_neg q, ct74k h n (k + 1), us_kk h]
theorem ct74i {i' : Nat} (h : i' ≠ i) : ∀ (n k : Nat) (σ : Sg), s_X5_copyFrom_L74 i o n k σ 20 i' = σ 20 i'
  | 0, k, σ => rfl
  | n + 1, k, σ => by
    show (if 12 ≤ nI k then σ else s_X5_copyFrom_L74 i o n (k + 1) (us σ 20 i k (σ 20 o k))) 20 i' = _
    by_cases q : 12 ≤ nI k
    · rw [if_pos q]
    · rw [if_neg q, ct74i h n (k + 1)]
      funext j
      exact us_i h
theorem ct74l : ∀ (n k : Nat) (τ : Sg) (j : Nat), j < k → s_X5_copyFrom_L74 i o n k τ 20 i j = τ 20 i j
  | 0, k, τ, j, _ => rfl
  | n + 1, k, τ, j, h => by
    show (if 12 ≤ nI k then τ else s_X5_copyFrom_L74 i o n (k + 1) (us τ 20 i k (τ 20 o k))) 20 i j = _
    by_cases q : 12 ≤ nI k
    · rw [if_pos q]
    · rw [if_neg q, ct74l n (k + 1) _ j (by omega), us_j (by omega)]
theorem ct74 (h : o ≠ i) : ∀ (n k : Nat) (σ : Sg), n + k = 13 → k ≤ 12 → ∀ j : Nat, j < 12 → k ≤ j → s_X5_copyFrom_L74 i o n k σ 20 i j = σ 20 o j
  | 0, k, σ, hn, hk, _, _, _ => by omega
  | n + 1, k, σ, hn, hk, j, hj, hkj => by
    show (if 12 ≤ nI k then σ else s_X5_copyFrom_L74 i o n (k + 1) (us σ 20 i k (σ 20 o k))) 20 i j = _
    rw [if_neg (show ¬ (12 : Int32) ≤ nI k from nI_ge (b := 12) (by omega) (by decide))]
    by_cases e : j = k
    · subst e
      rw [ct74l n (j + 1) _ j (by omega), us_h]
    · rw [ct74 h n (k + 1) _ (by omega) (by omega) j hj (by omega), us_i h]
theorem copyT_all {σ : Sg} (h : o ≠ i) : (∀ j : Nat, j < 9 → s_X5_copyFrom i o σ 5 i j = σ 5 o j) ∧ (∀ j : Nat, j < 12 → s_X5_copyFrom i o σ 20 i j = σ 20 o j) ∧ (∀ i' : Nat, i' ≠ i → s_X5_copyFrom i o σ 5 i' = σ 5 i' ∧ s_X5_copyFrom i o σ 20 i' = σ 20 i') ∧ ∀ kk : Nat, kk ≠ 5 → kk ≠ 20 → s_X5_copyFrom i o σ kk = σ kk := by
  refine ⟨fun j hj => ?_, fun j hj => ?_, fun i' hi => ⟨?_, ?_⟩, fun kk h0 h10 => fr_X5_copyFrom h0 h10⟩
  · rw [s_X5_copyFrom, ct74k (by decide)]
    have h9 : j = 0 ∨ j = 1 ∨ j = 2 ∨ j = 3 ∨ j = 4 ∨ j = 5 ∨ j = 6 ∨ j = 7 ∨ j = 8 := by omega
    rcases h9 with rfl | rfl | rfl | rfl | rfl | rfl | rfl | rfl | rfl <;> simp [us]
  · rw [s_X5_copyFrom, ct74 h 13 0 _ rfl (by omega) j hj (Nat.zero_le _)]
    simp [us]
  · rw [s_X5_copyFrom, ct74k (by decide)]
    funext j
    simp [us, hi]
  · rw [s_X5_copyFrom, ct74i hi]
    funext j
    simp [us]
end CT
section SS
variable {o b : Nat} {pl : Nat → Nat} {k : Nat}
/-- the places that a set takes away, by its first j bits -/
def sS (pl : Nat → Nat) (k j p : Nat) : Bool := anyb (fun i => (pl i == p) && k.testBit i) j
theorem bt_nI (k : Nat) {j : Nat} (hj : j < 32) : bt (nI k) j = k.testBit j := by
  show (BitVec.ofNat 32 k).getLsbD j = _
  rw [BitVec.getLsbD_ofNat]
  simp [hj]
/-- the bare thing so far -/
def Bi (m k6 : Int32) (e : Nat → Int32) (b : Nat) (S : Nat → Bool) (τ : Sg) : Prop := (∀ p : Nat, p < 3 → bt (τ 5 12 2) (3 * p + b) = (bt m (3 * p + b) && !S p)) ∧ τ 5 12 6 = k6 ∧ ∀ s : Nat, s < 12 → (e s = -1 ∧ τ 20 12 s = -1) ∨ (nb 8 (e s) ∧ nb 8 (τ 20 12 s) ∧ bt (τ 20 12 s) b = (bt (e s) b && !S (3 + s)))
theorem btr {b : Nat} (hb : b < 32) {i : Nat} (hi : i < 32) : bt (nI (2 ^ b)) i = decide (i = b) := by
  rw [bt_nI _ hi, Nat.testBit_two_pow]
  exact decide_eq_decide.mpr ⟨fun q => q.symm, fun q => q.symm⟩
/-- one right taken -/
theorem take_spec {τ : Sg} {p : Nat} (hp : p < 15) (hb : b < 3) : s_X5_takeRight 12 (nI p) (nI (2 ^ b)) τ = if p < 3 then us τ 5 12 2 ((τ 5 12 2) &&& ((nI (2 ^ b) <<< (nI (3 * p) &&& 31)) ^^^ (-1 : Int32))) else us τ 20 12 (p - 3) ((τ 20 12 (p - 3)) &&& (nI (2 ^ b) ^^^ (-1 : Int32))) := by
  unfold s_X5_takeRight
  rw [if_neg (nI_pos (by omega))]
  by_cases h3 : p < 3
  · rw [if_neg (show ¬ (3 : Int32) ≤ nI p from nI_ge (b := 3) h3 (by decide)), if_pos h3, show (3 : Int32) * nI p = nI (3 * p) from pk_mul 3 p]
  · rw [if_pos (show (3 : Int32) ≤ nI p from nI_le (a := 3) (by omega) (by omega)), if_neg h3, if_neg (show ¬ nI p < (3 : Int32) from nI_nlt (b := 3) (by omega) (by omega)), show nI p - (3 : Int32) = nI (p - 3) from pk_sub (b := 3) (by omega), if_neg (show ¬ (12 : Int32) ≤ nI (p - 3) from nI_ge (b := 12) (by omega) (by decide)), nI_clamp (by omega)]
theorem ss59 (o : Nat) (u r : Int32) (n j : Nat) (c : Int32) (τ : Sg) : f_X7_smallestSet_L59 o u r k (n + 1) j c τ = if c ≤ (nI j) then τ else if (((nI k) >>> ((nI j) &&& 31)) &&& (1 : Int32)) = 0 then f_X7_smallestSet_L59 o u r k n (j + 1) c τ else f_X7_smallestSet_L59 o u r k n (j + 1) c (s_X5_takeRight 12 (τ 21 0 j) r τ) := rfl
theorem ss59_all {m k6 : Int32} {e : Nat → Int32} {cnt : Nat} (hb : b < 3) (hc : cnt ≤ 15) (hpl : ∀ j : Nat, j < cnt → pl j < 15 ∧ wH m e b (pl j) = true) (u : Int32) : ∀ (n j : Nat) (τ : Sg), n + j = 16 → j ≤ cnt → (∀ i : Nat, i < cnt → τ 21 0 i = nI (pl i)) → Bi m k6 e b (sS pl k j) τ → Bi m k6 e b (sS pl k cnt) (f_X7_smallestSet_L59 o u (nI (2 ^ b)) k n j (nI cnt) τ) ∧ (∀ i' : Nat, i' ≠ 12 → f_X7_smallestSet_L59 o u (nI (2 ^ b)) k n j (nI cnt) τ 5 i' = τ 5 i' ∧ f_X7_smallestSet_L59 o u (nI (2 ^ b)) k n j (nI cnt) τ 20 i' = τ 20 i') ∧ (∀ q : Nat, q ≠ 2 → f_X7_smallestSet_L59 o u (nI (2 ^ b)) k n j (nI cnt) τ 5 12 q = τ 5 12 q) ∧ ∀ kk : Nat, kk ≠ 5 → kk ≠ 20 → f_X7_smallestSet_L59 o u (nI (2 ^ b)) k n j (nI cnt) τ kk = τ kk
  | 0, j, τ, hn, hj, _, _ => by omega
  | n + 1, j, τ, hn, hj, h21, hB => by
    rw [ss59]
    by_cases e9 : j = cnt
    · rw [if_pos (nI_le (by omega) (by omega)), ← e9]
      exact ⟨hB, fun _ _ => ⟨rfl, rfl⟩, fun _ _ => rfl, fun _ _ _ => rfl⟩
    · have hj2 : j < cnt := by omega
      rw [if_neg (nI_ge hj2 (by omega)), hb_bt _ j (by omega), bt_nI k (by omega)]
      have sn : ∀ p : Nat, sS pl k (j + 1) p = (sS pl k j p || ((pl j == p) && k.testBit j)) := fun _ => rfl
      cases e8 : k.testBit j
      · rw [z0F]
        refine ss59_all hb hc hpl u n (j + 1) τ (by omega) (by omega) h21 ?_
        have : sS pl k (j + 1) = sS pl k j := by
          funext p
          rw [sn p, e8, Bool.and_false, Bool.or_false]
        rw [this]
        exact hB
      · rw [z1T, h21 j hj2]
        obtain ⟨p1, p2⟩ := hpl j hj2
        rw [take_spec p1 hb]
        obtain ⟨b1, b2, b3⟩ := hB
        have sn' : ∀ p : Nat, sS pl k (j + 1) p = (sS pl k j p || (pl j == p)) := fun p => by rw [sn p, e8, Bool.and_true]
        by_cases h3 : pl j < 3
        · rw [if_pos h3]
          have hb9 : ∀ c : Nat, c < 32 → bt ((τ 5 12 2) &&& ((nI (2 ^ b) <<< (nI (3 * pl j) &&& 31)) ^^^ (-1 : Int32))) c = (bt (τ 5 12 2) c && !decide (c = 3 * pl j + b)) := fun c hc9 => by
            rw [b_and, b_xor, b_shl _ (by omega) _ hc9, b_m1 c hc9]
            by_cases q : 3 * pl j ≤ c
            · rw [btr (by omega) (by omega), decide_eq_true q]
              have : decide (c - 3 * pl j = b) = decide (c = 3 * pl j + b) := decide_eq_decide.mpr ⟨fun z => by omega, fun z => by omega⟩
              rw [this]; simp
            · rw [decide_eq_false q, decide_eq_false (show ¬ c = 3 * pl j + b by omega)]; simp
          have hB2 : Bi m k6 e b (sS pl k (j + 1)) (us τ 5 12 2 ((τ 5 12 2) &&& ((nI (2 ^ b) <<< (nI (3 * pl j) &&& 31)) ^^^ (-1 : Int32)))) := by
            refine ⟨fun p hp => ?_, by rw [us_j (by decide)]; exact b2, fun s hs => ?_⟩
            · rw [us_h, hb9 _ (by omega), b1 p hp, sn' p]
              by_cases q : pl j = p
              · subst q; simp
              · have : ¬ 3 * p + b = 3 * pl j + b := by omega
                rw [decide_eq_false this, show (pl j == p) = false by simpa using q]
                simp
            · rw [us_k (by decide), sn' (3 + s)]
              have : (pl j == 3 + s) = false := by simp; omega
              rw [this, Bool.or_false]
              exact b3 s hs
          obtain ⟨r1, r2, r3, r4⟩ := ss59_all (m := m) (k6 := k6) hb hc hpl u n (j + 1) (us τ 5 12 2 ((τ 5 12 2) &&& ((nI (2 ^ b) <<< (nI (3 * pl j) &&& 31)) ^^^ (-1 : Int32)))) (by omega) (by omega) h21 hB2
          exact ⟨r1, fun i' hi => ⟨by rw [(r2 i' hi).1]; funext q; exact us_i hi, by rw [(r2 i' hi).2, us_kk (by decide)]⟩, fun q hq => by rw [r3 q hq, us_j hq], fun kk h5 h20 => by rw [r4 kk h5 h20, us_kk h5]⟩
        · rw [if_neg h3]
          have hne : pe e (pl j - 3) = true := by
            rw [wH, if_neg h3, Bool.and_eq_true] at p2
            exact p2.1
          have hb9 : ∀ x : Int32, bt (x &&& (nI (2 ^ b) ^^^ (-1 : Int32))) b = false := fun x => by
            rw [b_and, b_xor, btr (by omega) (by omega), b_m1 b (by omega)]; simp
          have hB2 : Bi m k6 e b (sS pl k (j + 1)) (us τ 20 12 (pl j - 3) ((τ 20 12 (pl j - 3)) &&& (nI (2 ^ b) ^^^ (-1 : Int32)))) := by
            refine ⟨fun p hp => ?_, by rw [us_k (by decide)]; exact b2, fun s hs => ?_⟩
            · rw [us_k (by decide), b1 p hp, sn' p]
              have : (pl j == p) = false := by simp; omega
              rw [this, Bool.or_false]
            · rw [sn' (3 + s)]
              by_cases q : s = pl j - 3
              · subst q
                rw [us_h]
                rcases b3 (pl j - 3) hs with ⟨z1, z2⟩ | ⟨z1, z2, z3⟩
                · simp [pe, z1] at hne
                · refine Or.inr ⟨z1, nb_and (by decide) z2 _, ?_⟩
                  have : (pl j == 3 + (pl j - 3)) = true := by simp; omega
                  rw [hb9, this]; simp
              · rw [us_j q]
                have : (pl j == 3 + s) = false := by simp; omega
                rw [this, Bool.or_false]
                exact b3 s hs
          obtain ⟨r1, r2, r3, r4⟩ := ss59_all (m := m) (k6 := k6) hb hc hpl u n (j + 1) (us τ 20 12 (pl j - 3) ((τ 20 12 (pl j - 3)) &&& (nI (2 ^ b) ^^^ (-1 : Int32)))) (by omega) (by omega) (fun i hi => by rw [us_k (by decide)]; exact h21 i hi) hB2
          exact ⟨r1, fun i' hi => ⟨by rw [(r2 i' hi).1, us_kk (by decide)], by rw [(r2 i' hi).2]; funext q; exact us_i hi⟩, fun q hq => by rw [r3 q hq, us_k (by decide)], fun kk h5 h20 => by rw [r4 kk h5 h20, us_kk h20]⟩
end SS
theorem sw_inj15 {F : Nat → Bool} {sj : Nat → Nat} {M : Nat} : ∀ {n : Nat}, (∀ k : Nat, k < n → sj k < M) → (∀ k : Nat, k < n → ∀ l : Nat, l < n → sj k = sj l → k = l) → sw F n = sw (fun s => anyb (fun k => (sj k == s) && F k) n) M
  | 0, _, _ => (sw_0 fun _ _ => rfl).symm
  | n + 1, h1, h2 => by
    show sw F n + (F n).toNat = _
    rw [sw_inj15 (n := n) (fun k hk => h1 k (by omega)) (fun k hk l hl => h2 k (by omega) l (by omega))]
    have hnew : anyb (fun k => (sj k == sj n) && F k) n = false := by
      cases e : anyb (fun k => (sj k == sj n) && F k) n
      · rfl
      · obtain ⟨k, k1, k2⟩ := anyb_iff.mp e
        have k3 : sj k = sj n := by
          have := k2
          simp at this
          exact this.1
        have := h2 k (by omega) n (by omega) k3
        omega
    cases hF : F n
    · show sw _ M + 0 = _
      rw [Nat.add_zero]
      refine sw_congr fun s _ => ?_
      show _ = (anyb (fun k => (sj k == s) && F k) n || ((sj n == s) && F n))
      rw [hF, Bool.and_false, Bool.or_false]
    · refine (sw_one (a := sj n) hnew ?_ (fun s hs => ?_) (h1 n (by omega))).symm
      · show (anyb (fun k => (sj k == sj n) && F k) n || ((sj n == sj n) && F n)) = true
        rw [hF]; simp
      · show (anyb (fun k => (sj k == s) && F k) n || ((sj n == s) && F n)) = anyb (fun k => (sj k == s) && F k) n
        have : (sj n == s) = false := by simpa using fun q => hs (Eq.symm q)
        rw [this, Bool.false_and, Bool.or_false]
theorem sw_mono {P Q : Nat → Bool} : ∀ {n : Nat}, (∀ i : Nat, i < n → P i = true → Q i = true) → sw P n ≤ sw Q n
  | 0, _ => Nat.le_refl _
  | n + 1, h => by
    show sw P n + (P n).toNat ≤ sw Q n + (Q n).toNat
    have := sw_mono (n := n) (fun i hi => h i (by omega))
    have h2 := h n (by omega)
    cases e1 : P n <;> cases e2 : Q n <;> simp_all <;> omega
/-- a number out of bits -/
def ofB (B : Nat → Bool) : Nat → Nat
  | 0 => 0
  | n + 1 => ofB B n + (if B n = true then 2 ^ n else 0)
theorem ofB_lt (B : Nat → Bool) : ∀ n : Nat, ofB B n < 2 ^ n
  | 0 => (by decide : 0 < 2 ^ 0)
  | n + 1 => by
    have := ofB_lt B n
    show ofB B n + _ < 2 ^ (n + 1)
    rw [Nat.pow_succ]
    split <;> omega
theorem ofB_bit (B : Nat → Bool) : ∀ (n i : Nat), (ofB B n).testBit i = (decide (i < n) && B i)
  | 0, i => by simp [ofB]
  | n + 1, i => by
    show (ofB B n + (if B n = true then 2 ^ n else 0)).testBit i = _
    have hlt := ofB_lt B n
    have e1 : ofB B n + (if B n = true then 2 ^ n else 0) = 2 ^ n * (B n).toNat + ofB B n := by
      cases B n <;> simp <;> omega
    rw [e1, Nat.testBit_two_pow_mul_add _ hlt]
    by_cases h : i < n
    · rw [if_pos h, ofB_bit B n i]
      simp [h, show i < n + 1 by omega]
    · rw [if_neg h]
      by_cases e : i = n
      · subst e
        cases B i <;> simp
      · rw [show (decide (i < n + 1)) = false from decide_eq_false (by omega), Bool.false_and]
        apply Nat.testBit_lt_two_pow
        have : 2 ^ 1 ≤ 2 ^ (i - n) := Nat.pow_le_pow_right (by decide) (by omega)
        have := cz_b (B n)
        omega
theorem pc_lt {k n : Nat} (hk : k < 2 ^ n) (hn : n ≤ 15) : pc k = sw (fun j => k.testBit j) n := by
  obtain ⟨d, hd⟩ : ∃ d, 15 = n + d := ⟨15 - n, by omega⟩
  rw [pc, hd, sw_split n d, sw_0 (n := d) (fun i _ => ?_), Nat.add_zero]
  apply Nat.testBit_lt_two_pow
  exact Nat.lt_of_lt_of_le hk (Nat.pow_le_pow_right (by decide) (by omega))
section SM
variable {o b cnt : Nat} {pl : Nat → Nat} {m k6 : Int32} {e : Nat → Int32}
theorem ss25 (o : Nat) (u r : Int32) (n k : Nat) (v c g : Int32) (τ : Sg) : f_X7_smallestSet_L25 o u r (n + 1) k v c g τ = if ((1 : Int32) <<< (c &&& 31)) ≤ (nI k) then (v, τ) else if v ≤ (f_J6_bitCount_0f7a4 (nI k)) then f_X7_smallestSet_L25 o u r n (k + 1) v c g τ else if (f_X5_allowsAnew 12 u g r (f_X7_smallestSet_L59 o u r k 16 0 c (s_X5_copyFrom 12 o τ))) = 0 then f_X7_smallestSet_L25 o u r n (k + 1) (f_J6_bitCount_0f7a4 (nI k)) c g (f_X7_smallestSet_L59 o u r k 16 0 c (s_X5_copyFrom 12 o τ)) else f_X7_smallestSet_L25 o u r n (k + 1) v c g (f_X7_smallestSet_L59 o u r k 16 0 c (s_X5_copyFrom 12 o τ)) := rfl
/-- what a set leaves: nothing only if it takes all ways -/
theorem set_try {ow gr u : Nat} {ne : Bool} {G : Int32} (hu : u < 6) (how : ow < 6) (hgr : gr < 6) (hb : b < 3) (hc : cnt ≤ 15) (ho : o ≠ 12) (hpl : ∀ j : Nat, j < cnt → pl j < 15 ∧ wH m e b (pl j) = true) (hrow : ∀ s : Nat, s < 12 → e s = -1 ∨ nb 8 (e s)) (hne : ne = !anyb (pe e) 12) {τ : Sg} (h0 : τ 5 o 0 = nI ow) (h1 : τ 5 o 1 = nI gr) (h2 : τ 5 o 2 = m) (h6 : τ 5 o 6 = k6) (h20 : τ 20 o = e) (h21 : ∀ j : Nat, j < cnt → τ 21 0 j = nI (pl j)) (k : Nat) : (f_X5_allowsAnew 12 (nI u) G (nI (2 ^ b)) (f_X7_smallestSet_L59 o (nI u) (nI (2 ^ b)) k 16 0 (nI cnt) (s_X5_copyFrom 12 o τ)) = 0 ↔ ∀ p : Nat, p < 15 → wW ow gr m k6 e ne u G b p = true → sS pl k cnt p = true) ∧ (∀ i' : Nat, i' ≠ 12 → f_X7_smallestSet_L59 o (nI u) (nI (2 ^ b)) k 16 0 (nI cnt) (s_X5_copyFrom 12 o τ) 5 i' = τ 5 i' ∧ f_X7_smallestSet_L59 o (nI u) (nI (2 ^ b)) k 16 0 (nI cnt) (s_X5_copyFrom 12 o τ) 20 i' = τ 20 i') ∧ ∀ kk : Nat, kk ≠ 5 → kk ≠ 20 → f_X7_smallestSet_L59 o (nI u) (nI (2 ^ b)) k 16 0 (nI cnt) (s_X5_copyFrom 12 o τ) kk = τ kk := by
  obtain ⟨c1, c2, c3, c4⟩ := copyT_all (σ := τ) ho
  obtain ⟨r1, r2, r3, r4⟩ := ss59_all (o := o) (k := k) (m := m) (k6 := k6) (e := e) hb hc hpl (nI u) 16 0 (s_X5_copyFrom 12 o τ) rfl (Nat.zero_le _) (fun i hi => by rw [c4 21 (by decide) (by decide)]; exact h21 i hi) ⟨fun p hp => by rw [c1 2 (by decide), h2]; simp [sS, anyb], by rw [c1 6 (by decide), h6], fun s hs => by
    rw [c2 s hs, h20]
    rcases hrow s hs with z | z
    · exact Or.inl ⟨z, z⟩
    · exact Or.inr ⟨z, z, by simp [sS, anyb]⟩⟩
  refine ⟨?_, fun i' hi => ⟨(r2 i' hi).1.trans (c3 i' hi).1, (r2 i' hi).2.trans (c3 i' hi).2⟩, fun kk h5 h20 => (r4 kk h5 h20).trans (c4 kk h5 h20)⟩
  generalize hX : f_X7_smallestSet_L59 o (nI u) (nI (2 ^ b)) k 16 0 (nI cnt) (s_X5_copyFrom 12 o τ) = X at r1 r2 r3 r4
  obtain ⟨b1, b2, b3⟩ := r1
  have hpe : ∀ s : Nat, s < 12 → pe (X 20 12) s = pe e s := fun s hs => by
    rcases b3 s hs with ⟨z1, z2⟩ | ⟨⟨a, a1, a2⟩, ⟨c, d1, d2⟩, -⟩
    · simp [pe, z1, z2]
    · have q1 : ¬ e s = -1 := by rw [a2]; exact nI_m1 (by omega)
      have q2 : ¬ X 20 12 s = -1 := by rw [d2]; exact nI_m1 (by omega)
      have z1 : pe (X 20 12) s = true := by simp [pe, q2]
      have z2 : pe e s = true := by simp [pe, q1]
      rw [z1, z2]
  have ea := allows_eq (σ := X) (i := 12) (u := u) (G := G) (b := b) how hgr hu hb (by rw [r3 0 (by decide), c1 0 (by decide)]; exact h0) (by rw [r3 1 (by decide), c1 1 (by decide)]; exact h1)
  have en : (!anyb (pe (X 20 12)) 12) = ne := by rw [hne, anyb_congr hpe]
  rw [ea, en, b2, bI_0]
  have wl : ∀ p : Nat, p < 15 → wW ow gr (X 5 12 2) k6 (X 20 12) ne u G b p = (wW ow gr m k6 e ne u G b p && !sS pl k cnt p) := fun p hp => wW_less hu b1 hpe (fun s hs hp1 => by
    rcases b3 s hs with ⟨z1, z2⟩ | ⟨-, -, z⟩
    · simp [pe, z1] at hp1
    · exact z) hp
  have key : allow ow gr (X 5 12 2) k6 (X 20 12) ne u G b = true ↔ ∃ p : Nat, p < 15 ∧ wW ow gr m k6 e ne u G b p = true ∧ sS pl k cnt p = false := by
    rw [← ways_allow, ways_sw hu, sw_pos, anyb_iff]
    constructor
    · rintro ⟨p, p1, p2⟩
      rw [wl p p1, Bool.and_eq_true] at p2
      exact ⟨p, p1, p2.1, by simpa using p2.2⟩
    · rintro ⟨p, p1, p2, p3⟩
      exact ⟨p, p1, by rw [wl p p1, p2, p3]; rfl⟩
  constructor
  · intro q p p1 p2
    cases z : sS pl k cnt p
    · rw [key.mpr ⟨p, p1, p2, z⟩] at q
      exact absurd q (by decide)
    · rfl
  · intro q
    cases z : allow ow gr (X 5 12 2) k6 (X 20 12) ne u G b
    · rfl
    · obtain ⟨p, p1, p2, p3⟩ := key.mp z
      rw [q p p1 p2] at p3
      exact absurd p3 (by decide)
theorem ss25_all {ow gr u : Nat} {ne : Bool} {G : Int32} (hu : u < 6) (how : ow < 6) (hgr : gr < 6) (hb : b < 3) (hc : cnt = sw (wH m e b) 15) (ho : o ≠ 12) (hL : Li (wH m e b) pl 15) (hrow : ∀ s : Nat, s < 12 → e s = -1 ∨ nb 8 (e s)) (hne : ne = !anyb (pe e) 12) {k0 : Nat} (hk0 : k0 < 2 ^ cnt) (hp0 : pc k0 = sw (wW ow gr m k6 e ne u G b) 15) (hs0 : ∀ p : Nat, p < 15 → wW ow gr m k6 e ne u G b p = true → sS pl k0 cnt p = true) : ∀ (n k x : Nat) (τ : Sg), n + k = 32769 → k ≤ 2 ^ cnt → sw (wW ow gr m k6 e ne u G b) 15 ≤ x → x ≤ cnt → (k0 < k → x ≤ sw (wW ow gr m k6 e ne u G b) 15) → τ 5 o 0 = nI ow → τ 5 o 1 = nI gr → τ 5 o 2 = m → τ 5 o 6 = k6 → τ 20 o = e → (∀ j : Nat, j < cnt → τ 21 0 j = nI (pl j)) → (f_X7_smallestSet_L25 o (nI u) (nI (2 ^ b)) n k (nI x) (nI cnt) G τ).1 = nI (sw (wW ow gr m k6 e ne u G b) 15) ∧ (∀ i' : Nat, i' ≠ 12 → (f_X7_smallestSet_L25 o (nI u) (nI (2 ^ b)) n k (nI x) (nI cnt) G τ).2 5 i' = τ 5 i' ∧ (f_X7_smallestSet_L25 o (nI u) (nI (2 ^ b)) n k (nI x) (nI cnt) G τ).2 20 i' = τ 20 i') ∧ ∀ kk : Nat, kk ≠ 5 → kk ≠ 20 → (f_X7_smallestSet_L25 o (nI u) (nI (2 ^ b)) n k (nI x) (nI cnt) G τ).2 kk = τ kk
  | 0, k, x, τ, hn, hk, _, _, _, _, _, _, _, _, _ => by
    have hc15 : cnt ≤ 15 := by rw [hc]; exact sw_le _ _
    have : 2 ^ cnt ≤ 2 ^ 15 := Nat.pow_le_pow_right (by decide) hc15
    omega
  | n + 1, k, x, τ, hn, hk, hw1, hx, hw2, h0, h1, h2, h6, h20, h21 => by
    have hc15 : cnt ≤ 15 := by rw [hc]; exact sw_le _ _
    have h2c : 2 ^ cnt ≤ 2 ^ 15 := Nat.pow_le_pow_right (by decide) hc15
    have hpl : ∀ j : Nat, j < cnt → pl j < 15 ∧ wH m e b (pl j) = true := fun j hj => hL.1 j (by rw [← hc]; exact hj)
    have e1 : (1 : Int32) <<< (nI cnt &&& 31) = nI (2 ^ cnt) := by
      apply b_ext
      intro i hi
      rw [bt_bit cnt (by omega) hi, btr (by omega) hi]
    rw [ss25, e1]
    by_cases hk9 : k = 2 ^ cnt
    · rw [if_pos (nI_le (by omega) (by omega))]
      have := hw2 (by omega)
      exact ⟨by rw [show x = _ from Nat.le_antisymm this hw1], fun _ _ => ⟨rfl, rfl⟩, fun _ _ _ => rfl⟩
    · have hk2 : k < 2 ^ cnt := by omega
      rw [if_neg (nI_ge hk2 (by omega)), bitCount_pc (by omega)]
      have hpc : pc k = sw (fun j => k.testBit j) cnt := pc_lt hk2 hc15
      have hpcs : pc k = sw (sS pl k cnt) 15 := by
        rw [hpc]
        exact sw_inj15 (F := fun j => k.testBit j) (fun j hj => (hpl j hj).1) (fun j hj l hl => hL.2.1 j (by rw [← hc]; exact hj) l (by rw [← hc]; exact hl))
      have hple : pc k ≤ 15 := sw_le _ _
      by_cases hsz : x ≤ pc k
      · rw [if_pos (nI_le hsz (by omega))]
        refine ss25_all hu how hgr hb hc ho hL hrow hne hk0 hp0 hs0 n (k + 1) x τ (by omega) (by omega) hw1 hx (fun q => ?_) h0 h1 h2 h6 h20 h21
        by_cases ek : k0 = k
        · rw [← ek, hp0] at hsz
          exact hsz
        · exact hw2 (by omega)
      · rw [if_neg (nI_ge (by omega) (by omega))]
        obtain ⟨t1, t2, t3⟩ := set_try (k6 := k6) (G := G) hu how hgr hb hc15 ho hpl hrow hne h0 h1 h2 h6 h20 h21 k
        generalize hX : f_X7_smallestSet_L59 o (nI u) (nI (2 ^ b)) k 16 0 (nI cnt) (s_X5_copyFrom 12 o τ) = X at t1 t2 t3
        have X5 : X 5 o = τ 5 o := (t2 o ho).1
        have X20 : X 20 o = τ 20 o := (t2 o ho).2
        have X21 : X 21 = τ 21 := t3 21 (by decide) (by decide)
        by_cases hz : f_X5_allowsAnew 12 (nI u) G (nI (2 ^ b)) X = 0
        · rw [if_pos hz]
          have hcov := t1.mp hz
          have hge : sw (wW ow gr m k6 e ne u G b) 15 ≤ pc k := by rw [hpcs]; exact sw_mono hcov
          obtain ⟨a1, a2, a3⟩ := ss25_all hu how hgr hb hc ho hL hrow hne hk0 hp0 hs0 n (k + 1) (pc k) X (by omega) (by omega) hge (by omega) (fun q => by
            by_cases ek : k0 = k
            · rw [← ek, hp0]; exact Nat.le_refl _
            · have := hw2 (by omega)
              omega) (by rw [X5]; exact h0) (by rw [X5]; exact h1) (by rw [X5]; exact h2) (by rw [X5]; exact h6) (by rw [X20]; exact h20) (by rw [X21]; exact h21)
          exact ⟨a1, fun i' hi => ⟨(a2 i' hi).1.trans (t2 i' hi).1, (a2 i' hi).2.trans (t2 i' hi).2⟩, fun kk h5 h20 => (a3 kk h5 h20).trans (t3 kk h5 h20)⟩
        · rw [if_neg hz]
          obtain ⟨a1, a2, a3⟩ := ss25_all hu how hgr hb hc ho hL hrow hne hk0 hp0 hs0 n (k + 1) x X (by omega) (by omega) hw1 hx (fun q => by
            by_cases ek : k0 = k
            · rw [← ek] at t1
              exact absurd (t1.mpr hs0) hz
            · exact hw2 (by omega)) (by rw [X5]; exact h0) (by rw [X5]; exact h1) (by rw [X5]; exact h2) (by rw [X5]; exact h6) (by rw [X20]; exact h20) (by rw [X21]; exact h21)
          exact ⟨a1, fun i' hi => ⟨(a2 i' hi).1.trans (t2 i' hi).1, (a2 i' hi).2.trans (t2 i' hi).2⟩, fun kk h5 h20 => (a3 kk h5 h20).trans (t3 kk h5 h20)⟩
end SM
theorem RR.smallest {T P K N : Nat} {σ : Sg} (h : RR T P K N σ) (h15 : ∀ x : Nat, x < 6 → σ 15 0 x = σ 14 0 x) {q u b : Nat} (hq : q < T) (hu : u < 6) (hb : b < 3) : (f_X7_smallestSet q (nI u) (nI (2 ^ b)) σ).1 = f_X8_leastOf (nI u) (nI q) (nI (2 ^ b)) σ ∧ RR T P K N (f_X7_smallestSet q (nI u) (nI (2 ^ b)) σ).2 := by
  have hB := h.b
  obtain ⟨w, w1, w2, w3, o, gr, n, o1, g1, o2, g2, n2, n3, w4⟩ := h.wy (b := b) hq hu hb
  obtain ⟨n', sj, n1', n2', n3', he⟩ := h.en (t := q) (by omega)
  have nn : n' = n := (nI_eq (by omega) (by omega)).mp (n3'.symm.trans n2)
  subst nn
  have hg2 : f_X2_groupsFoundAnew (nI u) σ = σ 14 0 u := by
    rw [f_X2_groupsFoundAnew, if_neg (nI_pos (by omega)), if_pos (show nI u < 6 from nI_lt (b := 6) hu (by decide)), nI_clamp (by omega), h15 u hu]
  have hrow : ∀ s : Nat, s < 12 → σ 20 q s = -1 ∨ nb 8 (σ 20 q s) := fun s hs => by
    rcases he.2.2.1 s hs with z | ⟨k, k1, k2⟩
    · exact Or.inl z
    · obtain ⟨-, -, -, -, r, -⟩ := he.1 k k1
      rw [k2] at r
      exact Or.inr r
  obtain ⟨pl, p1, p2, p3⟩ := lr_all (o := q) (m := σ 5 q 2) (e := σ 20 q) hb 16 0 σ (fun _ => 0) rfl (by omega) rfl rfl ⟨fun j hj => absurd hj (Nat.not_lt_zero _), fun j hj => absurd hj (Nat.not_lt_zero _), fun p hp => absurd hp (Nat.not_lt_zero _)⟩ (fun j hj => absurd hj (Nat.not_lt_zero _))
  obtain ⟨τ, hτ⟩ : ∃ τ, τ = (f_X7_listRemovable q (nI (2 ^ b)) σ).2 := ⟨_, rfl⟩
  have l1 : (f_X7_listRemovable q (nI (2 ^ b)) σ).1 = nI (sw (wH (σ 5 q 2) (σ 20 q) b) 15) := p1
  have τk : ∀ kk : Nat, kk ≠ 21 → τ kk = σ kk := fun kk hk => by rw [hτ]; exact fr_X7_listRemovable hk
  have τ21 : ∀ j : Nat, j < sw (wH (σ 5 q 2) (σ 20 q) b) 15 → τ 21 0 j = nI (pl j) := fun j hj => by rw [hτ]; exact p3 j hj
  have hne : decide (n' = 0) = !anyb (pe (σ 20 q)) 12 := he.none
  have hsub : sw (wW o gr (σ 5 q 2) (σ 5 q 6) (σ 20 q) (decide (n' = 0)) u (σ 14 0 u) b) 15 ≤ sw (wH (σ 5 q 2) (σ 20 q) b) 15 := sw_mono fun i _ z => wW_H z
  -- the set of just the ways
  have hk0 := ofB_lt (fun j => wW o gr (σ 5 q 2) (σ 5 q 6) (σ 20 q) (decide (n' = 0)) u (σ 14 0 u) b (pl j)) (sw (wH (σ 5 q 2) (σ 20 q) b) 15)
  have hbit := ofB_bit (fun j => wW o gr (σ 5 q 2) (σ 5 q 6) (σ 20 q) (decide (n' = 0)) u (σ 14 0 u) b (pl j)) (sw (wH (σ 5 q 2) (σ 20 q) b) 15)
  generalize hk0e : ofB (fun j => wW o gr (σ 5 q 2) (σ 5 q 6) (σ 20 q) (decide (n' = 0)) u (σ 14 0 u) b (pl j)) (sw (wH (σ 5 q 2) (σ 20 q) b) 15) = k0 at hk0 hbit
  have hs0 : ∀ p : Nat, p < 15 → sS pl k0 (sw (wH (σ 5 q 2) (σ 20 q) b) 15) p = wW o gr (σ 5 q 2) (σ 5 q 6) (σ 20 q) (decide (n' = 0)) u (σ 14 0 u) b p := fun p hp => by
    cases z : wW o gr (σ 5 q 2) (σ 5 q 6) (σ 20 q) (decide (n' = 0)) u (σ 14 0 u) b p
    · cases z2 : sS pl k0 (sw (wH (σ 5 q 2) (σ 20 q) b) 15) p
      · rfl
      · obtain ⟨j, j1, j2⟩ := anyb_iff.mp z2
        have j3 : pl j = p ∧ k0.testBit j = true := by simpa using j2
        have := j3.2
        rw [hbit j, Bool.and_eq_true, j3.1, z] at this
        exact absurd this.2 (by decide)
    · obtain ⟨j, j1, j2⟩ := p2.2.2 p hp (wW_H z)
      exact anyb_iff.mpr ⟨j, j1, by rw [hbit j, j2, z, decide_eq_true j1]; simp⟩
  have hc15 : sw (wH (σ 5 q 2) (σ 20 q) b) 15 ≤ 15 := sw_le _ _
  have hpc0 : pc k0 = sw (wW o gr (σ 5 q 2) (σ 5 q 6) (σ 20 q) (decide (n' = 0)) u (σ 14 0 u) b) 15 := by
    rw [pc_lt hk0 hc15]
    rw [sw_inj15 (F := fun j => k0.testBit j) (sj := pl) (M := 15) (fun j hj => (p2.1 j hj).1) p2.2.1]
    exact sw_congr hs0
  obtain ⟨a1, a2, a3⟩ := ss25_all (o := q) (b := b) (G := σ 14 0 u) hu o1 g1 hb rfl (by omega) p2 hrow hne hk0 hpc0 (fun p hp z => by rw [hs0 p hp]; exact z) 32769 0 (sw (wH (σ 5 q 2) (σ 20 q) b) 15) τ rfl (Nat.zero_le _) hsub (Nat.le_refl _) (fun z => absurd z (Nat.not_lt_zero _)) (by rw [τk 5 (by decide)]; exact o2) (by rw [τk 5 (by decide)]; exact g2) (by rw [τk 5 (by decide)]) (by rw [τk 5 (by decide)]) (by rw [τk 20 (by decide)]) τ21
  have hval : f_X7_smallestSet q (nI u) (nI (2 ^ b)) σ = f_X7_smallestSet_L25 q (nI u) (nI (2 ^ b)) 32769 0 (nI (sw (wH (σ 5 q 2) (σ 20 q) b) 15)) (nI (sw (wH (σ 5 q 2) (σ 20 q) b) 15)) (σ 14 0 u) τ := by
    rw [f_X7_smallestSet, l1, hg2, ← hτ]
  rw [hval]
  constructor
  · rw [a1, w3, w4, ways_sw hu]
  · refine h.sc (fun kk i hs => ?_) (fun j hj => by rw [a3 8 (by decide) (by decide), τk 8 (by decide)])
    by_cases q5 : kk = 5
    · subst q5
      simp [scr] at hs
      rw [(a2 i (by omega)).1, τk 5 (by decide)]
    · by_cases q20 : kk = 20
      · subst q20
        simp [scr] at hs
        rw [(a2 i (by omega)).2, τk 20 (by decide)]
      · simp [scr] at hs
        rw [a3 kk q5 q20, τk kk (by omega)]
theorem st_leastAnew {σ : Sg} (h : RS σ) (u t r : Int32) : OKc (f_L_leastAnew u t r σ) (f_X8_leastAnew u t r) := by
  obtain ⟨T, P, K, N, hR⟩ := id h
  have hB := hR.b
  rcases c_six u with ⟨u, hu, rfl, e1, w1⟩ | ⟨e1, w1⟩
  rotate_left
  · exact OKc.er (c := 1) (x := 0) h (by decide) (by simp [f_L_leastAnew, m_X7_leastAnew, nd, e1]) (by simp [f_X8_leastAnew, f_X8_least, w1])
  rcases hR.thi t with ⟨q, hq, rfl, e2, w2⟩ | ⟨e2, w2⟩
  rotate_left
  · exact OKc.er (c := 1) (x := 0) h (by decide) (by simp [f_L_leastAnew, m_X7_leastAnew, nd, e1, e2]) (by simp [f_X8_leastAnew, f_X8_least, w1, w2])
  rcases c_right r with ⟨b, hb, rfl, e3, w3⟩ | ⟨e3, w3⟩
  rotate_left
  · exact OKc.er (c := 2) (x := 0) h (by decide) (by simp [f_L_leastAnew, m_X7_leastAnew, nd, e1, e2, e3]) (by simp [f_X8_leastAnew, f_X8_least, w1, w2, w3])
  obtain ⟨hR2, h15⟩ := hR.fresh15
  obtain ⟨x1, x2⟩ := hR2.smallest h15 hq hu hb
  have fk : ∀ kk : Nat, 30 < kk → (f_X7_smallestSet q (nI u) (nI (2 ^ b)) (s_X2_findAnew σ)).2 kk = σ kk := fun kk hk => by
    rw [fr_X7_smallestSet (by omega) (by omega) (by omega), fr_X2_findAnew (by omega)]
  have f8 : (f_X7_smallestSet q (nI u) (nI (2 ^ b)) (s_X2_findAnew σ)).2 8 = σ 8 := by
    rw [fr_X7_smallestSet (by decide) (by decide) (by decide), fr_X2_findAnew (by decide)]
  have ex : f_X8_leastOf (nI u) (nI q) (nI (2 ^ b)) (s_X2_findAnew σ) = f_X8_leastOf (nI u) (nI q) (nI (2 ^ b)) σ := least_congr (Mv.of fun kk _ h2 _ _ _ _ _ _ => by rw [fr_X2_findAnew (by omega)])
  rw [ex] at x1
  obtain ⟨τ, hτ⟩ : ∃ τ, τ = (f_X7_smallestSet q (nI u) (nI (2 ^ b)) (s_X2_findAnew σ)).2 := ⟨_, rfl⟩
  rw [← hτ] at x2 f8
  have fk' : ∀ kk : Nat, 30 < kk → τ kk = σ kk := fun kk hk => by rw [hτ]; exact fk kk hk
  refine OKc.ok (τ := τ) (x := f_X8_leastOf (nI u) (nI q) (nI (2 ^ b)) σ) (τ' := us (us τ 90 0 0 (f_X8_leastOf (nI u) (nI q) (nI (2 ^ b)) σ)) 8 0 0 0) ?_ ?_ rfl ⟨T, P, K, N, x2⟩
  · simp [f_L_leastAnew, m_X7_leastAnew, nd, e1, e2, e3, nI_clamp (show q < 2 ^ 31 by omega), x1, ← hτ]
  · have k1 : f_X8_isThing (nI q) (us τ 90 0 0 (f_X8_leastOf (nI u) (nI q) (nI (2 ^ b)) σ)) = 1 := by
      rw [← w2, f_X8_isThing, f_X8_isThing, us_kk (by decide), f8]
    have k2 : f_X8_leastOf (nI u) (nI q) (nI (2 ^ b)) (us (us τ 90 0 0 (f_X8_leastOf (nI u) (nI q) (nI (2 ^ b)) σ)) 8 0 0 0) = f_X8_leastOf (nI u) (nI q) (nI (2 ^ b)) σ := least_congr (Mv.of fun kk h1 h2 h3 _ _ _ _ _ => by rw [us_kk h1, us_kk h3, fk' kk h2])
    simp only [f_X8_leastAnew, f_X8_least, w1, k1, w3, k2, show ¬ (1 : Int32) = 0 by decide, if_false]
