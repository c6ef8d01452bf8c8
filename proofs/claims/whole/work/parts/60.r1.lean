/-! LAYER 2: what the class's cells and the model's cells have in common -/
/-- a set of the numbers 0 to 5, as bits -/
def S6 (v : Int32) : Prop := ∀ b : Nat, b < 32 → 6 ≤ b → bt v b = false
/-- the least set that holds S and goes up along i -/
def Up (i : Nat → Int32) (S : Nat → Prop) (g : Nat) : Prop := ∀ T : Nat → Prop, (∀ h : Nat, h < 6 → S h → T h) → (∀ h : Nat, h < 6 → ∀ h' : Nat, h' < 6 → bt (i h) h' = true → T h' → T h) → T g
def St (v : Int32) (P : Nat → Prop) : Prop := ∀ b : Nat, b < 32 → (bt v b = true ↔ b < 6 ∧ P b)
theorem St.eq {v w : Int32} {P : Nat → Prop} (h : St v P) (h2 : St w P) : v = w := b_ext fun b hb => by
  have h3 := (h b hb).trans (h2 b hb).symm
  cases e : bt v b <;> cases e2 : bt w b <;> simp_all
def Rm (u i k uI gI : Nat → Int32) : Prop := (∀ g : Nat, g < 6 → uI g = u g ∧ gI g = i g ∧ S6 (u g) ∧ S6 (i g)) ∧ ∀ x : Nat, x < 6 → St (k x) (Up i fun h => bt (u h) x = true)
def Ren (cnt hd : Int32) (e : Nat → Int32) (ml : Int32) (wh ig ha dn : Nat → Int32) : Prop := ∃ n : Nat, n ≤ 5 ∧ ml = nI n ∧ cnt = nI n ∧ ∃ sj : Nat → Nat, (∀ k : Nat, k < n → sj k < 12 ∧ ig k = nI (sj k / 6) ∧ wh k = nI (sj k % 6) ∧ ha k = e (sj k) ∧ (∃ r : Nat, r < 8 ∧ e (sj k) = nI r) ∧ dn k = (if bt hd (sj k) = true then 1 else 0)) ∧ (∀ k : Nat, k < n → ∀ l : Nat, l < n → sj k = sj l → k = l) ∧ (∀ s : Nat, s < 12 → e s = -1 ∨ ∃ k : Nat, k < n ∧ sj k = s) ∧ ∀ s : Nat, s < 32 → bt hd s = true → ∃ k : Nat, k < n ∧ sj k = s
def nb (n : Nat) (x : Int32) : Prop := ∃ a : Nat, a < n ∧ x = nI a
def Rth (T t : Nat) (f e : Nat → Int32) (ow gr mo ty le ca ma ml : Int32) (wh ig ha dn : Nat → Int32) : Prop :=
  (ow = f 0 ∧ gr = f 1 ∧ mo = f 2 ∧ ty = f 3 ∧ le = f 4 ∧ ca = f 5) ∧ (t < T → ma = f 6) ∧ (nb 6 (f 0) ∧ nb 6 (f 1) ∧ nb 1024 (f 2) ∧ nb 4 (f 3) ∧ nb 8 (f 6)) ∧ Ren (f 7) (f 8) e ml wh ig ha dn ∧ (T ≤ t → f 6 = 7 ∧ ml = 0)
def Rr (c16 c17 m46 m47 : Nat → Int32) : Prop := ∀ i : Nat, i < 16 → m46 i = c16 i ∧ m47 i = c17 i ∧ (c17 i = -1 ∨ nb 4 (c17 i))
def lpf (fl : Nat → Int32) : Nat → Int32
  | 0 => 7
  | c + 1 => lpf fl c &&& fl c
def Ra (P p : Nat) (f fl : Nat → Int32) (us9 dm hi so fi bo fc pa : Int32) : Prop :=
  (us9 = f 0 ∧ dm = f 1 ∧ hi = f 2 ∧ so = f 3 ∧ fi = f 4 ∧ bo = f 5 ∧ fc = f 6) ∧ (p < P → pa = f 7) ∧ (nb 6 (f 0) ∧ nb 4 (f 1) ∧ nb 8 (f 4) ∧ nb 8 (f 5)) ∧ (∃ c : Nat, c ≤ 3 ∧ f 6 = nI c ∧ f 7 = lpf fl c) ∧ (P ≤ p → f 6 = 0)
def Rtk (T K k : Nat) (g : Nat → Int32) (tt tr tu mk ho us9 dm fr it : Int32) : Prop :=
  (k < K → (tt = g 0 ∧ tr = g 1 ∧ tu = g 2 ∧ mk = g 5 ∧ ho = g 6 ∧ us9 = g 3 ∧ dm = g 4 ∧ fr = g 7) ∧ ((g 8 = 0 ∧ it = 1) ∨ (g 8 = 1 ∧ it = 0)) ∧ nb T (g 0) ∧ nb 10001 (g 2)) ∧ (K ≤ k → g 8 = 0) ∧ (nb 6 us9 ∧ nb 4 dm ∧ nb 12 tt)
def Rkc (K : Nat) (c : Nat → Nat → Int32) : Prop := ∀ k : Nat, k < K → c k 7 = -1 ∨ ∃ j : Nat, j < k ∧ c k 7 = nI j ∧ c k 2 ≤ c j 2
def Rl (c1 c11 : Nat → Int32) (f40 f41 f42 : Int32) (r73 : Nat → Int32) : Prop := ∃ a n : Nat, a < 20 ∧ n ≤ 20 ∧ c1 1 = nI a ∧ c1 2 = nI n ∧ f40 = nI n ∧ f41 = c1 3 ∧ f42 = c1 4 ∧ ∀ q : Nat, q < n → ∀ w : Nat, w < 6 → c11 ((a + q) % 20 * 6 + w) = r73 (6 * q + w)
def Rs (T P K N : Nat) (f : Nat → Int32) (f3 f18 f27 f37 f38 f39 : Int32) : Prop := f 6 = nI T ∧ f3 = nI T ∧ f 7 = nI P ∧ f18 = nI P ∧ f 8 = nI K ∧ f27 = nI K ∧ f 9 = nI N ∧ f37 = nI N ∧ f38 = f 10 ∧ f39 = f 11
def BZr (r43 r45 : Nat → Int32) : Prop := ∀ i : Nat, r43 i &&& 1 = r43 i ∧ r45 i &&& 1 = r45 i
def RR (T P K N : Nat) (σ : Sg) : Prop := (T ≤ 12 ∧ P ≤ 8 ∧ K ≤ 10 ∧ N ≤ 10000) ∧ Rs T P K N (σ 7 0) (σ 8 0 3) (σ 8 0 18) (σ 8 0 27) (σ 8 0 37) (σ 8 0 38) (σ 8 0 39) ∧ Rm (σ 12 0) (σ 13 0) (σ 14 0) (σ 31 0) (σ 32 0) ∧
  (∀ t : Nat, t < 12 → Rth T t (σ 5 t) (σ 20 t) (σ 34 0 t) (σ 35 0 t) (σ 36 0 t) (σ 37 0 t) (σ 38 0 t) (σ 39 0 t) (σ 40 0 t) (σ 41 0 t) (fun k => σ 42 0 (5 * t + k)) (fun k => σ 43 0 (5 * t + k)) (fun k => σ 44 0 (5 * t + k)) (fun k => σ 45 0 (5 * t + k))) ∧
  Rr (σ 16 0) (σ 17 0) (σ 46 0) (σ 47 0) ∧
  (∀ p : Nat, p < 8 → Ra P p (σ 0 p) (σ 10 p) (σ 49 0 p) (σ 50 0 p) (σ 51 0 p) (σ 52 0 p) (σ 53 0 p) (σ 54 0 p) (σ 55 0 p) (σ 56 0 p)) ∧
  (∀ k : Nat, k < 10 → Rtk T K k (σ 6 k) (σ 58 0 k) (σ 59 0 k) (σ 60 0 k) (σ 61 0 k) (σ 62 0 k) (σ 63 0 k) (σ 64 0 k) (σ 65 0 k) (σ 66 0 k)) ∧
  Rkc K (σ 6) ∧ Rl (σ 1 0) (σ 11 0) (σ 8 0 40) (σ 8 0 41) (σ 8 0 42) (σ 73 0) ∧ BZr (σ 43 0) (σ 45 0)
def RS (σ : Sg) : Prop := ∃ T P K N : Nat, RR T P K N σ
theorem nb.lt {n : Nat} {x : Int32} (h : nb n x) : ∃ a : Nat, a < n ∧ x = nI a := h
theorem nb.mono {n m : Nat} {x : Int32} (h : nb n x) (hm : n ≤ m) : nb m x := by
  obtain ⟨a, h1, h2⟩ := h
  exact ⟨a, by omega, h2⟩
/-- kinds that the relation doesn't speak of, and the model's refusal -/
theorem RS.ref {σ : Sg} (h : RS σ) (c : Int32) : RS (us σ 8 0 0 c) := by
  obtain ⟨T, P, K, N, h⟩ := h
  exact ⟨T, P, K, N, h⟩
theorem RS.out {σ : Sg} (h : RS σ) (c : Int32) : RS (us σ 90 0 0 c) := by
  obtain ⟨T, P, K, N, h⟩ := h
  exact ⟨T, P, K, N, h⟩
theorem RS.inv {σ : Sg} (h : RS σ) : LInv σ := by
  obtain ⟨T, P, K, N, hB, hs, hm, ht, hr, ha, hk, hc, hl, hz⟩ := h
  obtain ⟨b1, b2, b3, b4⟩ := hB
  obtain ⟨s1, s2, s3, s4, s5, s6, s7, s8, s9, s10⟩ := hs
  obtain ⟨la, ln, l1, l2, l3, l4, l5, l6, l7, l8⟩ := hl
  refine ⟨⟨⟨la, ln, l1, l2, l3, l4⟩, ⟨T, b1, s1⟩, ⟨P, b2, s3⟩, ⟨K, b3, s5⟩⟩, fun k hk9 => ?_, ⟨⟨T, b1, s2⟩, ⟨P, b2, s4⟩, ⟨K, b3, s6, fun k hk9 => ?_⟩, ⟨ln, l2, l5⟩, fun t h9 => ?_, fun t h9 => ?_, fun t h9 => ?_, fun t h9 => ?_, fun k h9 => ?_, fun k h9 => ?_⟩, hz, ?_⟩
  · rw [e_X7_needToken, s5] at hk9
    rcases pk_ix k (n := K) (by omega) with q | q | ⟨j, hj, rfl⟩
    · rw [e_X7_needPlace, if_pos q] at hk9
      cases hk9
    · rw [e_X7_needPlace, if_neg (fun q2 => by
        have h5 : nI K ≤ k := q
        rw [Int32.le_iff_toInt_le, nI_toInt (by omega)] at h5
        rw [Int32.lt_iff_toInt_lt] at q2
        simp at q2
        omega), if_neg (Int32.not_lt.mpr q)] at hk9
      cases hk9
    · rw [nI_clamp (by omega)]
      obtain ⟨⟨-, -, ⟨a, a1, a2⟩, -⟩, -⟩ := (hk j (by omega)).imp (fun q => q hj) id
      rw [a2, e_X7_needThing, s1, e_X7_needPlace, if_neg (nI_pos (by omega)), if_pos (nI_lt a1 (by omega))]
      rfl
  · obtain ⟨q1, -⟩ := hk k (by omega)
    obtain ⟨⟨-, -, -, -, -, -, -, q2⟩, -⟩ := q1 hk9
    rw [q2]
    rcases hc k hk9 with q | ⟨j, j1, j2, -⟩
    · exact Or.inl q
    · exact Or.inr ⟨j, j1, j2⟩
  · obtain ⟨-, -, -, ⟨n, n1, n2, -⟩, -⟩ := ht t h9
    exact ⟨n, n1, n2⟩
  · obtain ⟨⟨-, -, -, q, -⟩, -, ⟨-, -, -, ⟨a, a1, a2⟩, -⟩, -⟩ := ht t h9
    exact ⟨a, a1, q.trans a2⟩
  · obtain ⟨⟨q, -⟩, -, ⟨⟨a, a1, a2⟩, -⟩, -⟩ := ht t h9
    exact ⟨a, a1, q.trans a2⟩
  · obtain ⟨-, q, q2⟩ := hr t h9
    rw [q]
    rcases q2 with q2 | ⟨a, a1, a2⟩
    · exact Or.inl q2
    · exact Or.inr ⟨a, a1, a2⟩
  · obtain ⟨⟨q0, q1, -, -, q4, q5, -⟩, -, ⟨⟨a, a1, a2⟩, ⟨b, d1, d2⟩, ⟨c, c1, c2⟩, ⟨d, e1, e2⟩⟩, -⟩ := ha k h9
    exact ⟨⟨a, a1, q0.trans a2⟩, ⟨b, d1, q1.trans d2⟩, ⟨c, c1, q4.trans c2⟩, ⟨d, e1, q5.trans e2⟩⟩
  · obtain ⟨-, -, q⟩ := hk k h9
    exact q
  · by_cases h12 : T = 12
    · right
      rw [s2, h12]
      rfl
    · left
      rw [s2, nI_clamp (by omega)]
      obtain ⟨-, -, -, -, q⟩ := ht T (by omega)
      exact (q (Nat.le_refl _)).2
/-- the law's comparison of two answers -/
theorem lg_cmp0 (x : Int64) : lg_cmp x x = 0 := (lg_cmp_eq x x).mpr rfl
/-- a call of the law: class first, the model on what is there then -/
def OKc (a : Int32 × Sg) (f : Sg → Int32 × Sg) : Prop := (a.1 = 0 ∧ f_X8_thrown (f a.2).2 = 0 ∧ a.2 90 0 0 = (f a.2).1 ∧ RS (f a.2).2) ∨ (a.1 ≠ 0 ∧ f_X8_thrown (f a.2).2 = a.1 ∧ RS (f a.2).2)
theorem OKc.er {a : Int32 × Sg} {f : Sg → Int32 × Sg} {σ : Sg} {c x : Int32} (h : RS σ) (hc : c ≠ 0) (ha : a = (c, σ)) (hf : f σ = (x, us σ 8 0 0 c)) : OKc a f := by
  subst ha
  refine Or.inr ⟨hc, ?_, ?_⟩
  · show f_X8_thrown (f σ).2 = c
    rw [hf]
    exact (us_h : us σ 8 0 0 c 8 0 0 = c)
  · show RS (f σ).2
    rw [hf]
    exact h.ref c
theorem OKc.ok {a : Int32 × Sg} {f : Sg → Int32 × Sg} {τ τ' : Sg} {x : Int32} (ha : a = (0, us τ 90 0 0 x)) (hf : f (us τ 90 0 0 x) = (x, τ')) (ht : τ' 8 0 0 = 0) (hR : RS τ') : OKc a f := by
  subst ha
  refine Or.inl ⟨rfl, ?_, ?_, ?_⟩
  · show f_X8_thrown (f (us τ 90 0 0 x)).2 = 0
    rw [hf]
    exact ht
  · show us τ 90 0 0 x 90 0 0 = (f (us τ 90 0 0 x)).1
    rw [hf]
    exact us_h
  · show RS (f (us τ 90 0 0 x)).2
    rw [hf]
    exact hR
/-- the law's rows out of it: an int's answer -/
theorem OKc.int {a : Int32 × Sg} {f : Sg → Int32 × Sg} (h : OKc a f) : ∃ σ', (if f_X8_thrown (f a.2).2 = a.1 then (if a.1 = 0 then (if lg_cmp ((a.2 90 0 0).toInt64) ((f a.2).1.toInt64) = 0 then some (f a.2).2 else none) else some (f a.2).2) else none) = some σ' ∧ RS σ' := by
  rcases h with ⟨h1, h2, h3, h4⟩ | ⟨h1, h2, h3⟩
  · exact ⟨_, by rw [if_pos (h2.trans h1.symm), if_pos h1, h3, if_pos (lg_cmp0 _)], h4⟩
  · exact ⟨_, by rw [if_pos h2, if_neg h1], h3⟩
/-- and a boolean's -/
theorem OKc.bool {a : Int32 × Sg} {f : Sg → Int32 × Sg} (h : OKc a f) (hb : a.1 = 0 → (f a.2).1 = 0 ∨ (f a.2).1 = 1) : ∃ σ', (if f_X8_thrown (f a.2).2 = a.1 then (if a.1 = 0 then (if (f a.2).1 = 0 then (if lg_cmp ((a.2 90 0 0).toInt64) (0 : Int64) = 0 then some (f a.2).2 else none) else (if lg_cmp ((a.2 90 0 0).toInt64) (1 : Int64) = 0 then some (f a.2).2 else none)) else some (f a.2).2) else none) = some σ' ∧ RS σ' := by
  rcases h with ⟨h1, h2, h3, h4⟩ | ⟨h1, h2, h3⟩
  · refine ⟨_, ?_, h4⟩
    rw [if_pos (h2.trans h1.symm), if_pos h1, h3]
    rcases hb h1 with q | q
    · rw [q, if_pos rfl]
      rfl
    · rw [q, if_neg (by decide)]
      rfl
  · exact ⟨_, by rw [if_pos h2, if_neg h1], h3⟩
