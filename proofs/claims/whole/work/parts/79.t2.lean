/-! the model's layers -/
section LM
variable {T P K N : Nat} {σ : Sg} {p q b s0 : Nat}
/-- a state in which only the layers and what ran changed -/
def Ms (σ m : Sg) : Prop := (∀ kk : Nat, 30 < kk → kk ≠ 77 → kk ≠ 90 → m kk = σ kk) ∧ m 8 0 3 = σ 8 0 3
theorem Ms.ok {m : Sg} (hM : Ms σ m) (s t b : Nat) : (f_X8_verdictOf (nI (s / 32)) (nI (s / 8 % 4)) (nI p) (nI (s % 8)) (nI t) (nI (2 ^ b)) m = 0) ↔ okv σ p s t b := by
  rw [okv, verdict_congr (c := σ) (m := m) (Mv.of fun kk _ h2 h3 h77 _ _ _ _ => by rw [hM.1 kk h2 h77 h3])]
theorem dec_s {k : Nat} (hk : k < 192) : nI k / (32 : Int32) = nI (k / 32) ∧ (nI k / (8 : Int32)) - (nI k / (8 : Int32)) / (4 : Int32) * (4 : Int32) = nI (k / 8 % 4) ∧ nI k - nI k / (8 : Int32) * (8 : Int32) = nI (k % 8) := by
  have e8 : nI k / (8 : Int32) = nI (k / 8) := pk_div (d := 8) (by omega) (by decide) (by decide)
  refine ⟨pk_div (d := 32) (by omega) (by decide) (by decide), ?_, pk_rem (d := 8) (by omega) (by decide) (by decide)⟩
  rw [e8]
  exact pk_rem (d := 4) (by omega) (by decide) (by decide)
theorem run_s (h : RR T P K N σ) (hp : p < 8) {m : Sg} (hM : Ms σ m) {s t : Nat} (hs : s < 192) (ht : t < 12) {X : Sg} (hX : X = s_X8_runAs (nI p) (nI (s / 32)) (nI (s / 8 % 4)) (nI (s % 8)) (nI t) m) : ((((32 : Int32) * (X 8 0 44)) + ((8 : Int32) * (X 8 0 45))) + (X 8 0 46)).toNatClampNeg = nxt σ p s t ∧ nxt σ p s t < 192 ∧ Ms σ X ∧ X 77 = m 77 := by
  obtain ⟨x1, x2, x3⟩ := ra_all (m := m) (k := nI p) (u := nI (s / 32)) (d := nI (s / 8 % 4)) (f := nI (s % 8)) (t := nI t)
  rw [← hX, nI_clamp (show t < 2 ^ 31 by omega)] at x1 x2 x3
  rw [nI_clamp (show p < 2 ^ 31 by omega)] at x3
  obtain ⟨n1, n2, n3, n4⟩ := h.nx9 hp ht hs
  have d4 : nb 4 (nI (s / 8 % 4)) := ⟨s / 8 % 4, by omega, rfl⟩
  obtain ⟨mv1, -⟩ := h.mv (t := t) d4 ht
  rw [hM.1 36 (by decide) (by decide) (by decide), hM.1 34 (by decide) (by decide) (by decide), n1] at x1
  rw [hM.1 47 (by decide) (by decide) (by decide), hM.1 37 (by decide) (by decide) (by decide), ← mv1, n2] at x2
  rw [hM.1 36 (by decide) (by decide) (by decide), hM.1 34 (by decide) (by decide) (by decide), hM.1 54 (by decide) (by decide) (by decide), n3] at x3
  have fk : ∀ kk : Nat, kk ≠ 8 → X kk = m kk := fun kk hk => by rw [hX, fr_X8_runAs hk]
  refine ⟨?_, n4, ⟨fun kk h1 h2 h3 => by rw [fk kk (by omega), hM.1 kk h1 h2 h3], by rw [hX, fs_X8_runAs (by decide) (by decide) (by decide)]; exact hM.2⟩, fk 77 (by decide)⟩
  rw [x1, x2, x3, show (32 : Int32) * nI (nxt σ p s t / 32) = nI (32 * (nxt σ p s t / 32)) from pk_mul 32 _, show (8 : Int32) * nI (nxt σ p s t / 8 % 4) = nI (8 * (nxt σ p s t / 8 % 4)) from pk_mul 8 _, nI_add, nI_add, nI_clamp (by omega)]
  omega
/-- a step of one state by all things -/
def Ly (σ : Sg) (p x r k : Nat) (m m' : Sg) : Prop := Ms σ m' ∧ ∀ y : Nat, y < 192 → (m 77 0 y = -1 ∧ (∃ t : Nat, t < k ∧ okv σ p x t 2 ∧ y = nxt σ p x t) ∧ m' 77 0 y = nI (r + 1)) ∨ (¬ (m 77 0 y = -1 ∧ ∃ t : Nat, t < k ∧ okv σ p x t 2 ∧ y = nxt σ p x t) ∧ m' 77 0 y = m 77 0 y)
theorem ra3_all (h : RR T P K N σ) (hp : p < 8) {x r : Nat} (hr3 : r ≤ 3) (hx : x < 192) {m0 : Sg} : ∀ (n k : Nat) (m : Sg), n + k = 13 → k ≤ T → Ly σ p x r k m0 m → Ly σ p x r T m0 (s_X8_runAll_L3 (nI p) (nI x) (nI r) n k m)
  | 0, k, m, hn, hk, _ => by
    have := h.b
    omega
  | n + 1, k, m, hn, hk, hL => by
    have hb9 := h.b
    obtain ⟨d1, d2, d3⟩ := dec_s hx
    obtain ⟨X, hX⟩ : ∃ X, X = s_X8_runAs (nI p) (nI (x / 32)) (nI (x / 8 % 4)) (nI (x % 8)) (nI k) m := ⟨_, rfl⟩
    have e1 : s_X8_runAll_L3 (nI p) (nI x) (nI r) (n + 1) k m = if (m 8 0 3) ≤ (nI k) then m else if (f_X8_verdictOf (nI (x / 32)) (nI (x / 8 % 4)) (nI p) (nI (x % 8)) (nI k) 4 m) = 0 then (if (m 77 0 (((((32 : Int32) * (X 8 0 44)) + ((8 : Int32) * (X 8 0 45))) + (X 8 0 46)).toNatClampNeg)) = (-1) then s_X8_runAll_L3 (nI p) (nI x) (nI r) n (k + 1) (us X 77 0 (((((32 : Int32) * (X 8 0 44)) + ((8 : Int32) * (X 8 0 45))) + (X 8 0 46)).toNatClampNeg) (nI r + (1 : Int32))) else s_X8_runAll_L3 (nI p) (nI x) (nI r) n (k + 1) (us X 77 0 (((((32 : Int32) * (X 8 0 44)) + ((8 : Int32) * (X 8 0 45))) + (X 8 0 46)).toNatClampNeg) (m 77 0 (((((32 : Int32) * (X 8 0 44)) + ((8 : Int32) * (X 8 0 45))) + (X 8 0 46)).toNatClampNeg)))) else s_X8_runAll_L3 (nI p) (nI x) (nI r) n (k + 1) m := by
      rw [hX, ← d1, ← d2, ← d3]
      rfl
    obtain ⟨hM, hy⟩ := id hL
    rw [e1, hM.2, h.s7.2.1]
    by_cases e : k = T
    · rw [if_pos (nI_le (by omega) (by omega))]
      rw [e] at hL
      exact hL
    · rw [if_neg (nI_ge (by omega) (by omega))]
      have hok : (f_X8_verdictOf (nI (x / 32)) (nI (x / 8 % 4)) (nI p) (nI (x % 8)) (nI k) 4 m = 0) ↔ okv σ p x k 2 := Ms.ok hM x k 2
      by_cases c : f_X8_verdictOf (nI (x / 32)) (nI (x / 8 % 4)) (nI p) (nI (x % 8)) (nI k) 4 m = 0
      · obtain ⟨r1, r2, r3, r4⟩ := run_s h hp hM hx (t := k) (by omega) hX
        rw [if_pos c, r1, nI_1]
        have msu : ∀ v : Int32, Ms σ (us X 77 0 (nxt σ p x k) v) := fun v => ⟨fun kk h1 h2 h3 => by rw [us_kk h2, r3.1 kk h1 h2 h3], by rw [us_k (by decide)]; exact r3.2⟩
        by_cases c2 : m 77 0 (nxt σ p x k) = -1
        · rw [if_pos c2]
          refine ra3_all h hp hr3 hx n (k + 1) _ (by omega) (by omega) ⟨msu _, fun y hy9 => ?_⟩
          by_cases ey : y = nxt σ p x k
          · subst ey
            rcases hy _ r2 with ⟨a1, a2, a3⟩ | ⟨a1, a2⟩
            · rw [a3] at c2
              exact absurd c2 (nI_m1 (by omega))
            · exact Or.inl ⟨by rw [← a2]; exact c2, ⟨k, by omega, hok.mp c, rfl⟩, us_h⟩
          · rw [us_j ey, r4]
            rcases hy y hy9 with ⟨a1, ⟨t, t1, t2, t3⟩, a3⟩ | ⟨a1, a2⟩
            · exact Or.inl ⟨a1, ⟨t, by omega, t2, t3⟩, a3⟩
            · refine Or.inr ⟨fun ⟨z1, t, t1, t2, t3⟩ => ?_, a2⟩
              by_cases et : t = k
              · subst et; exact ey t3
              · exact a1 ⟨z1, t, by omega, t2, t3⟩
        · rw [if_neg c2]
          refine ra3_all h hp hr3 hx n (k + 1) _ (by omega) (by omega) ⟨msu _, fun y hy9 => ?_⟩
          by_cases ey : y = nxt σ p x k
          · subst ey
            rw [us_h]
            rcases hy _ r2 with ⟨a1, ⟨t, t1, t2, t3⟩, a3⟩ | ⟨a1, a2⟩
            · exact Or.inl ⟨a1, ⟨t, by omega, t2, t3⟩, a3⟩
            · exact Or.inr ⟨fun ⟨z1, _⟩ => c2 (a2.trans z1), a2⟩
          · rw [us_j ey, r4]
            rcases hy y hy9 with ⟨a1, ⟨t, t1, t2, t3⟩, a3⟩ | ⟨a1, a2⟩
            · exact Or.inl ⟨a1, ⟨t, by omega, t2, t3⟩, a3⟩
            · refine Or.inr ⟨fun ⟨z1, t, t1, t2, t3⟩ => ?_, a2⟩
              by_cases et : t = k
              · subst et; exact ey t3
              · exact a1 ⟨z1, t, by omega, t2, t3⟩
      · rw [if_neg c]
        refine ra3_all h hp hr3 hx n (k + 1) m (by omega) (by omega) ⟨hM, fun y hy9 => ?_⟩
        rcases hy y hy9 with ⟨a1, ⟨t, t1, t2, t3⟩, a3⟩ | ⟨a1, a2⟩
        · exact Or.inl ⟨a1, ⟨t, by omega, t2, t3⟩, a3⟩
        · refine Or.inr ⟨fun ⟨z1, t, t1, t2, t3⟩ => ?_, a2⟩
          by_cases et : t = k
          · subst et; exact c (hok.mpr t2)
          · exact a1 ⟨z1, t, by omega, t2, t3⟩
/-- the layers up to r -/
def Dl (σ : Sg) (T p s0 r : Nat) (m : Sg) : Prop := Ms σ m ∧ ∀ y : Nat, y < 192 → (m 77 0 y = -1 ∧ ∀ n : Nat, n ≤ r → ¬ Rc σ T p n s0 y) ∨ ∃ n : Nat, n ≤ r ∧ m 77 0 y = nI n ∧ Rc σ T p n s0 y ∧ ∀ j : Nat, j < n → ¬ Rc σ T p j s0 y
/-- while layer r is gone through, up to k -/
def Dk (σ : Sg) (T p s0 r : Nat) (m0 : Sg) (k : Nat) (m : Sg) : Prop := Ms σ m ∧ ∀ y : Nat, y < 192 → (m0 77 0 y = -1 ∧ (∃ x t : Nat, x < k ∧ m0 77 0 x = nI r ∧ t < T ∧ okv σ p x t 2 ∧ y = nxt σ p x t) ∧ m 77 0 y = nI (r + 1)) ∨ (¬ (m0 77 0 y = -1 ∧ ∃ x t : Nat, x < k ∧ m0 77 0 x = nI r ∧ t < T ∧ okv σ p x t 2 ∧ y = nxt σ p x t) ∧ m 77 0 y = m0 77 0 y)
theorem l144_all (h : RR T P K N σ) (hp : p < 8) {r : Nat} (hr : r ≤ 3) {m0 : Sg} (hm0 : ∀ y : Nat, y < 192 → m0 77 0 y = -1 ∨ ∃ n : Nat, n ≤ r ∧ m0 77 0 y = nI n) (tt rr : Int32) : ∀ (n k : Nat) (m : Sg), n + k = 193 → k ≤ 192 → Dk σ T p s0 r m0 k m → Dk σ T p s0 r m0 192 (f_X8_reach_L144 (nI p) tt rr r n k m)
  | 0, k, m, hn, hk, _ => by omega
  | n + 1, k, m, hn, hk, hD => by
    have e1 : f_X8_reach_L144 (nI p) tt rr r (n + 1) k m = if 192 ≤ (nI k) then m else if (m 77 0 k) = (nI r) then f_X8_reach_L144 (nI p) tt rr r n (k + 1) (s_X8_runAll (nI p) (nI k) (nI r) m) else f_X8_reach_L144 (nI p) tt rr r n (k + 1) m := rfl
    rw [e1]
    by_cases e : k = 192
    · rw [if_pos (by rw [e]; decide)]
      rw [e] at hD
      exact hD
    · have hk2 : k < 192 := by omega
      rw [if_neg (show ¬ (192 : Int32) ≤ nI k from nI_ge (b := 192) hk2 (by decide))]
      obtain ⟨hM, hy⟩ := hD
      -- the state k is of layer r now just if it was
      have hkk : (m 77 0 k = nI r) ↔ m0 77 0 k = nI r := by
        rcases hy k hk2 with ⟨a1, -, a3⟩ | ⟨-, a2⟩
        · rw [a1, a3]
          constructor
          · intro z
            have := (nI_eq (by omega) (by omega)).mp z
            omega
          · intro z
            exact absurd z.symm (nI_m1 (by omega))
        · rw [a2]
      by_cases c : m 77 0 k = nI r
      · rw [if_pos c]
        have hL := ra3_all h hp hr hk2 (r := r) (m0 := m) 13 0 m rfl (Nat.zero_le _) ⟨hM, fun y _ => Or.inr ⟨fun ⟨_, t, t1, _⟩ => by omega, rfl⟩⟩
        obtain ⟨l1, l2⟩ := hL
        refine l144_all h hp hr hm0 tt rr n (k + 1) _ (by omega) (by omega) ⟨l1, fun y hy9 => ?_⟩
        rcases hy y hy9 with ⟨a1, ⟨x, t, x1, x2, x3⟩, a3⟩ | ⟨a1, a2⟩
        · rcases l2 y hy9 with ⟨b1, -⟩ | ⟨-, b2⟩
          · rw [a3] at b1
            exact absurd b1 (nI_m1 (by omega))
          · exact Or.inl ⟨a1, ⟨x, t, by omega, x2, x3⟩, b2.trans a3⟩
        · rcases l2 y hy9 with ⟨b1, ⟨t, t1, t2, t3⟩, b3⟩ | ⟨b1, b2⟩
          · exact Or.inl ⟨by rw [← a2]; exact b1, ⟨k, t, by omega, hkk.mp c, t1, t2, t3⟩, b3⟩
          · refine Or.inr ⟨fun ⟨z1, x, t, x1, x2, x3, x4, x5⟩ => ?_, b2.trans a2⟩
            by_cases ex : x = k
            · subst ex
              exact b1 ⟨a2.trans z1, t, x3, x4, x5⟩
            · exact a1 ⟨z1, x, t, by omega, x2, x3, x4, x5⟩
      · rw [if_neg c]
        refine l144_all h hp hr hm0 tt rr n (k + 1) m (by omega) (by omega) ⟨hM, fun y hy9 => ?_⟩
        rcases hy y hy9 with ⟨a1, ⟨x, t, x1, x2, x3⟩, a3⟩ | ⟨a1, a2⟩
        · exact Or.inl ⟨a1, ⟨x, t, by omega, x2, x3⟩, a3⟩
        · refine Or.inr ⟨fun ⟨z1, x, t, x1, x2, x3, x4, x5⟩ => ?_, a2⟩
          by_cases ex : x = k
          · subst ex
            exact c (hkk.mpr x2)
          · exact a1 ⟨z1, x, t, by omega, x2, x3, x4, x5⟩
theorem nxt_lt (h : RR T P K N σ) (hp : p < 8) {n x : Nat} (hs0 : s0 < 192) : Rc σ T p n s0 x → x < 192 := by
  have hb9 := h.b
  intro hr
  cases n with
  | zero =>
    have e : s0 = x := hr
    rw [← e]
    exact hs0
  | succ n =>
    have key : ∀ (n s y : Nat), s < 192 → Rc σ T p n s y → y < 192 := by
      intro n
      induction n with
      | zero =>
        intro s y hs hr
        have e : s = y := hr
        rw [← e]
        exact hs
      | succ n ih =>
        rintro s y hs ⟨t, t1, t2, t3⟩
        exact ih _ y (h.nx9 hp (by omega) hs).2.2.2 t3
    exact key (n + 1) s0 x hs0 hr
theorem Dl.next (h : RR T P K N σ) (hp : p < 8) (hs0 : s0 < 192) {r : Nat} (hr : r ≤ 3) {m : Sg} (hD : Dl σ T p s0 r m) (tt rr : Int32) : Dl σ T p s0 (r + 1) (f_X8_reach_L144 (nI p) tt rr r 193 0 m) := by
  obtain ⟨hM, hy⟩ := hD
  have hk := l144_all (s0 := s0) h hp hr (m0 := m) (fun y hy9 => (hy y hy9).imp (fun z => z.1) (fun ⟨n, n1, n2, _⟩ => ⟨n, n1, n2⟩)) tt rr 193 0 m rfl (Nat.zero_le _) ⟨hM, fun y _ => Or.inr ⟨fun ⟨_, x, t, x1, _⟩ => by omega, rfl⟩⟩
  obtain ⟨k1, k2⟩ := hk
  -- layer r is just what is reached in r runs and no less
  have lay : ∀ x : Nat, x < 192 → ((m 77 0 x = nI r) ↔ Rc σ T p r s0 x ∧ ∀ j : Nat, j < r → ¬ Rc σ T p j s0 x) := fun x hx => by
    rcases hy x hx with ⟨a1, a2⟩ | ⟨n, n1, n2, n3, n4⟩
    · rw [a1]
      constructor
      · intro z
        exact absurd z.symm (nI_m1 (by omega))
      · rintro ⟨z, -⟩
        exact absurd z (a2 r (Nat.le_refl _))
    · rw [n2, nI_eq (by omega) (by omega)]
      constructor
      · rintro rfl
        exact ⟨n3, n4⟩
      · rintro ⟨z1, z2⟩
        rcases Nat.lt_or_ge n r with c | c
        · exact absurd n3 (z2 n c)
        · omega
  have step : ∀ y : Nat, (∀ j : Nat, j ≤ r → ¬ Rc σ T p j s0 y) → (Rc σ T p (r + 1) s0 y ↔ ∃ x t : Nat, x < 192 ∧ m 77 0 x = nI r ∧ t < T ∧ okv σ p x t 2 ∧ y = nxt σ p x t) := fun y hno => by
    constructor
    · intro z
      obtain ⟨x, t, t1, x1, t2, t3⟩ := Rc_last r s0 y z
      have hx := nxt_lt h hp hs0 x1
      refine ⟨x, t, hx, (lay x hx).mpr ⟨x1, fun j hj w => ?_⟩, t1, t2, t3⟩
      refine hno (j + 1) (by omega) ?_
      rw [t3]
      exact Rc_snoc j s0 x t w t1 t2
    · rintro ⟨x, t, hx, x1, t1, t2, rfl⟩
      exact Rc_snoc r s0 x t ((lay x hx).mp x1).1 t1 t2
  refine ⟨k1, fun y hy9 => ?_⟩
  rcases k2 y hy9 with ⟨a1, ⟨x, t, x1, x2, x3, x4, x5⟩, a3⟩ | ⟨a1, a2⟩
  · rcases hy y hy9 with ⟨-, c2⟩ | ⟨n, n1, n2, -⟩
    · exact Or.inr ⟨r + 1, Nat.le_refl _, a3, (step y c2).mpr ⟨x, t, x1, x2, x3, x4, x5⟩, fun j hj => c2 j (by omega)⟩
    · rw [n2] at a1
      exact absurd a1 (nI_m1 (by omega))
  · rcases hy y hy9 with ⟨c1, c2⟩ | ⟨n, n1, n2, n3, n4⟩
    · refine Or.inl ⟨a2.trans c1, fun n hn z => ?_⟩
      by_cases en : n = r + 1
      · subst en
        exact a1 ⟨c1, (step y c2).mp z⟩
      · exact c2 n (by omega) z
    · exact Or.inr ⟨n, by omega, a2.trans n2, n3, n4⟩
theorem l85_all {m : Sg} (hM : Ms σ m) (r : Nat) : ∀ (n k : Nat), n + k = 193 → k ≤ 192 → (f_X8_reach_L85 (nI p) (nI q) (nI (2 ^ b)) r n k m = 1 ↔ ∃ x : Nat, k ≤ x ∧ x < 192 ∧ m 77 0 x = nI r ∧ okv σ p x q b)
  | 0, k, hn, hk => by omega
  | n + 1, k, hn, hk => by
    by_cases e : k = 192
    · have e1 : f_X8_reach_L85 (nI p) (nI q) (nI (2 ^ b)) r (n + 1) k m = 0 := by
        rw [e]
        show (if 192 ≤ (nI 192) then (0 : Int32) else _) = 0
        rw [if_pos (by decide)]
      rw [e1]
      exact ⟨fun z => absurd z (by decide), fun ⟨x, x1, x2, _⟩ => by omega⟩
    · have hk2 : k < 192 := by omega
      obtain ⟨d1, d2, d3⟩ := dec_s hk2
      have e1 : f_X8_reach_L85 (nI p) (nI q) (nI (2 ^ b)) r (n + 1) k m = if 192 ≤ (nI k) then 0 else if (m 77 0 k) = (nI r) then (if (f_X8_verdictOf (nI (k / 32)) (nI (k / 8 % 4)) (nI p) (nI (k % 8)) (nI q) (nI (2 ^ b)) m) = 0 then 1 else f_X8_reach_L85 (nI p) (nI q) (nI (2 ^ b)) r n (k + 1) m) else f_X8_reach_L85 (nI p) (nI q) (nI (2 ^ b)) r n (k + 1) m := by
        rw [← d1, ← d2, ← d3]
        rfl
      have ih := l85_all hM r n (k + 1) (by omega) (by omega)
      have hok := Ms.ok (p := p) hM k q b
      rw [e1, if_neg (show ¬ (192 : Int32) ≤ nI k from nI_ge (b := 192) hk2 (by decide))]
      have nx : (∃ x : Nat, k ≤ x ∧ x < 192 ∧ m 77 0 x = nI r ∧ okv σ p x q b) ↔ (m 77 0 k = nI r ∧ okv σ p k q b) ∨ ∃ x : Nat, k + 1 ≤ x ∧ x < 192 ∧ m 77 0 x = nI r ∧ okv σ p x q b := by
        constructor
        · rintro ⟨x, x1, x2, x3⟩
          by_cases ex : x = k
          · subst ex; exact Or.inl x3
          · exact Or.inr ⟨x, by omega, x2, x3⟩
        · rintro (z | ⟨x, x1, x2, x3⟩)
          · exact ⟨k, Nat.le_refl _, hk2, z⟩
          · exact ⟨x, by omega, x2, x3⟩
      rw [nx]
      by_cases c1 : m 77 0 k = nI r
      · rw [if_pos c1]
        by_cases c2 : f_X8_verdictOf (nI (k / 32)) (nI (k / 8 % 4)) (nI p) (nI (k % 8)) (nI q) (nI (2 ^ b)) m = 0
        · rw [if_pos c2]
          exact ⟨fun _ => Or.inl ⟨c1, hok.mp c2⟩, fun _ => rfl⟩
        · rw [if_neg c2, ih]
          exact ⟨Or.inr, fun z => z.elim (fun w => absurd (hok.mpr w.2) c2) id⟩
      · rw [if_neg c1, ih]
        exact ⟨Or.inr, fun z => z.elim (fun w => absurd w.1 c1) id⟩
theorem l76_all (h : RR T P K N σ) (hp : p < 8) (hs0 : s0 < 192) : ∀ (n r : Nat) (m : Sg), n + r = 5 → r ≤ 4 → Dl σ T p s0 r m → (∀ j : Nat, j < r → ¬ Gs σ T p q b j s0) → Vs (fun n => Gs σ T p q b n s0) 0 (f_X8_reach_L76 (nI p) (nI q) (nI (2 ^ b)) n r m).1
  | 0, r, m, hn, hr, _, _ => by omega
  | n + 1, r, m, hn, hr, hD, hno => by
    show Vs _ 0 (if 3 < (nI r) then ((-1 : Int32), m) else if (f_X8_reach_L85 (nI p) (nI q) (nI (2 ^ b)) r 193 0 m) = 1 then (nI r, m) else (f_X8_reach_L76 (nI p) (nI q) (nI (2 ^ b)) n (r + 1) (f_X8_reach_L144 (nI p) (nI q) (nI (2 ^ b)) r 193 0 m))).1
    by_cases e : r = 4
    · rw [if_pos (by rw [e]; decide)]
      exact Or.inl ⟨rfl, fun j hj => hno j (by omega)⟩
    · rw [if_neg (show ¬ (3 : Int32) < nI r from nI_nlt (a := 3) (by omega) (by decide))]
      have h85 := l85_all (p := p) (q := q) (b := b) hD.1 r 193 0 rfl (Nat.zero_le _)
      by_cases c : f_X8_reach_L85 (nI p) (nI q) (nI (2 ^ b)) r 193 0 m = 1
      · rw [if_pos c]
        obtain ⟨x, -, x2, x3, x4⟩ := h85.mp c
        refine Or.inr ⟨r, by omega, by rw [Nat.zero_add], (Gs_iff r s0).mpr ⟨x, ?_, x4⟩, hno⟩
        rcases hD.2 x x2 with ⟨a1, -⟩ | ⟨n', n1, n2, n3, -⟩
        · rw [a1] at x3
          exact absurd x3.symm (nI_m1 (by omega))
        · rw [n2] at x3
          have := (nI_eq (by omega) (by omega)).mp x3
          subst this
          exact n3
      · rw [if_neg c]
        refine l76_all h hp hs0 n (r + 1) _ (by omega) (by omega) (hD.next h hp hs0 (by omega) _ _) (fun j hj z => ?_)
        by_cases ej : j = r
        · subst ej
          obtain ⟨x, x1, x2⟩ := (Gs_iff j s0).mp z
          have hx := nxt_lt h hp hs0 x1
          refine c (h85.mpr ⟨x, Nat.zero_le _, hx, ?_, x2⟩)
          rcases hD.2 x hx with ⟨-, a2⟩ | ⟨n', n1, n2, n3, n4⟩
          · exact absurd x1 (a2 j (Nat.le_refl _))
          · rcases Nat.lt_or_ge n' j with w | w
            · exact absurd ((Gs_iff n' s0).mpr ⟨x, n3, x2⟩) (hno n' w)
            · rw [n2, show n' = j by omega]
        · exact hno j (by omega) z
theorem l19_all (kk tt rr : Int32) : ∀ (n k : Nat) (m : Sg), n + k = 193 → k ≤ 192 → (∀ y : Nat, f_X8_reach_L19 kk tt rr n k m 77 0 y = if k ≤ y ∧ y < 192 then -1 else m 77 0 y) ∧ ∀ j : Nat, j ≠ 77 → f_X8_reach_L19 kk tt rr n k m j = m j
  | 0, k, m, hn, hk => by omega
  | n + 1, k, m, hn, hk => by
    have e1 : f_X8_reach_L19 kk tt rr (n + 1) k m = if 192 ≤ (nI k) then m else f_X8_reach_L19 kk tt rr n (k + 1) (us m 77 0 k (-1)) := rfl
    rw [e1]
    by_cases e : k = 192
    · rw [if_pos (by rw [e]; decide)]
      exact ⟨fun y => by rw [if_neg (by omega)], fun _ _ => rfl⟩
    · rw [if_neg (show ¬ (192 : Int32) ≤ nI k from nI_ge (b := 192) (by omega) (by decide))]
      obtain ⟨a1, a2⟩ := l19_all kk tt rr n (k + 1) (us m 77 0 k (-1)) (by omega) (by omega)
      refine ⟨fun y => ?_, fun j hj => by rw [a2 j hj, us_kk hj]⟩
      rw [a1 y]
      by_cases ey : y = k
      · subst ey
        rw [if_neg (by omega), if_pos (by omega), us_h]
      · rw [us_j ey]
        by_cases c : k ≤ y ∧ y < 192
        · rw [if_pos c, if_pos (by omega)]
        · rw [if_neg c, if_neg (by omega)]
/-- the model's answer -/
theorem RR.layers (h : RR T P K N σ) (hp : p < P) {m : Sg} (hM : Ms σ m) (hs0 : s0 < 192) (h1 : σ 49 0 p = nI (s0 / 32)) (h2 : σ 50 0 p = nI (s0 / 8 % 4)) (h3 : σ 53 0 p = nI (s0 % 8)) : Vs (fun n => Gs σ T p q b n s0) 0 (f_X8_reach_K19 (nI p) (nI q) (nI (2 ^ b)) (f_X8_reach_L19 (nI p) (nI q) (nI (2 ^ b)) 193 0 m)).1 := by
  have hb9 := h.b
  obtain ⟨a1, a2⟩ := l19_all (nI p) (nI q) (nI (2 ^ b)) 193 0 m rfl (Nat.zero_le _)
  obtain ⟨τ, hτ⟩ : ∃ τ, τ = f_X8_reach_L19 (nI p) (nI q) (nI (2 ^ b)) 193 0 m := ⟨_, rfl⟩
  rw [← hτ] at a1 a2 ⊢
  have hMτ : Ms σ τ := ⟨fun kk x1 x2 x3 => by rw [a2 kk x2, hM.1 kk x1 x2 x3], by rw [a2 8 (by decide)]; exact hM.2⟩
  have ei : ((((32 : Int32) * (τ 49 0 (nI p).toNatClampNeg)) + ((8 : Int32) * (τ 50 0 (nI p).toNatClampNeg))) + (τ 53 0 (nI p).toNatClampNeg)).toNatClampNeg = s0 := by
    rw [nI_clamp (by omega), hMτ.1 49 (by decide) (by decide) (by decide), hMτ.1 50 (by decide) (by decide) (by decide), hMτ.1 53 (by decide) (by decide) (by decide), h1, h2, h3, show (32 : Int32) * nI (s0 / 32) = nI (32 * (s0 / 32)) from pk_mul 32 _, show (8 : Int32) * nI (s0 / 8 % 4) = nI (8 * (s0 / 8 % 4)) from pk_mul 8 _, nI_add, nI_add, nI_clamp (by omega)]
    omega
  rw [f_X8_reach_K19, ei]
  refine l76_all h (by omega) hs0 5 0 _ rfl (by omega) ⟨⟨fun kk x1 x2 x3 => by rw [us_kk x2, hMτ.1 kk x1 x2 x3], by rw [us_k (by decide)]; exact hMτ.2⟩, fun y hy => ?_⟩ (fun j hj => by omega)
  by_cases ey : y = s0
  · subst ey
    exact Or.inr ⟨0, Nat.le_refl _, us_h, rfl, fun j hj => by omega⟩
  · rw [us_j ey, a1 y, if_pos ⟨Nat.zero_le _, hy⟩]
    refine Or.inl ⟨rfl, fun n hn z => ?_⟩
    have : n = 0 := by omega
    subst this
    exact ey (Eq.symm z)
end LM
