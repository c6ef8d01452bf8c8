/-! the least set of rights that could go -/
/-- the ways, each at its place: 0 to 2 the rights of others, group and owner, then the entries -/
def wW (o gr : Nat) (m k : Int32) (e : Nat → Int32) (ne : Bool) (u : Nat) (G : Int32) (b p : Nat) : Bool :=
  if u = o then decide (p = 2) && bt m (6 + b) else if e u = -1 then (if (bt G gr || anyb (wQ e G) 6) = true then ((decide (p = 1) && (bt G gr && (bt m (3 + b) && (ne || bt k b)))) || (decide (9 ≤ p) && wP e G k b (p - 9))) else decide (p = 0) && bt m b) else decide (p = 3 + u) && (bt (e u) b && bt k b)
theorem sw_at {a : Nat} {c : Bool} : ∀ {n : Nat}, a < n → sw (fun p => decide (p = a) && c) n = c.toNat
  | 0, h => by omega
  | n + 1, h => by
    show sw (fun p => decide (p = a) && c) n + (decide (n = a) && c).toNat = _
    by_cases e : n = a
    · subst e
      rw [sw_0 (fun i hi => by simp [show ¬ i = n by omega])]
      simp
    · rw [sw_at (n := n) (by omega)]
      simp [e]
theorem sw_dis {P Q : Nat → Bool} : ∀ {n : Nat}, (∀ i : Nat, i < n → P i = true → Q i = true → False) → sw (fun i => P i || Q i) n = sw P n + sw Q n
  | 0, _ => rfl
  | n + 1, h => by
    show sw (fun i => P i || Q i) n + (P n || Q n).toNat = sw P n + (P n).toNat + (sw Q n + (Q n).toNat)
    rw [sw_dis (n := n) (fun i hi => h i (by omega))]
    have := h n (by omega)
    cases e1 : P n <;> cases e2 : Q n <;> simp_all <;> omega
theorem ways_sw {o gr : Nat} {m k : Int32} {e : Nat → Int32} {ne : Bool} {u : Nat} {G : Int32} {b : Nat} (hu : u < 6) : ways o gr m k e ne u G b = sw (wW o gr m k e ne u G b) 15 := by
  unfold ways wW
  split
  · rw [sw_at (by decide)]
  · split
    · split
      · have e9 : sw (fun p => decide (9 ≤ p) && wP e G k b (p - 9)) 15 = sw (wP e G k b) 6 := by
          rw [show 15 = 9 + 6 from rfl, sw_split 9 6, sw_0 (n := 9) (fun i hi => by simp [show ¬ 9 ≤ i by omega]), Nat.zero_add]
          exact sw_congr fun i _ => by simp
        rw [sw_dis (P := fun p => decide (p = 1) && _) (Q := fun p => decide (9 ≤ p) && _) (fun i hi h1 h2 => by simp at h1 h2; omega), sw_at (by decide), e9, Nat.add_comm]
      · rw [sw_at (by decide)]
    · rw [sw_at (by omega)]
/-- a place that has the right -/
def wH (m : Int32) (e : Nat → Int32) (b p : Nat) : Bool := if p < 3 then bt m (3 * p + b) else pe e (p - 3) && bt (e (p - 3)) b
theorem wW_H {o gr : Nat} {m k : Int32} {e : Nat → Int32} {ne : Bool} {u : Nat} {G : Int32} {b p : Nat} (h : wW o gr m k e ne u G b p = true) : wH m e b p = true := by
  unfold wW at h
  unfold wH
  split at h
  · simp at h
    obtain ⟨rfl, h⟩ := h
    rw [if_pos (by decide)]
    exact h
  · split at h
    · split at h
      · rw [Bool.or_eq_true] at h
        rcases h with h | h
        · simp at h
          obtain ⟨rfl, h⟩ := h
          rw [if_pos (by decide)]
          exact h.2.1
        · rw [Bool.and_eq_true] at h
          obtain ⟨h1, h⟩ := h
          have h1 : 9 ≤ p := by simpa using h1
          simp only [wP, wQ, Bool.and_eq_true] at h
          rw [if_neg (by omega), show p - 3 = 6 + (p - 9) by omega, h.1.1, h.2.1]
          rfl
      · simp at h
        obtain ⟨rfl, h⟩ := h
        rw [if_pos (by decide)]
        simpa using h
    · rename_i h2
      simp at h
      obtain ⟨rfl, h⟩ := h
      rw [if_neg (by omega), show 3 + u - 3 = u by omega, h.1]
      simp [pe, h2]
/-- the ways that are left when a set of places lost the right -/
theorem wW_less {o gr : Nat} {m k : Int32} {e : Nat → Int32} {ne : Bool} {u : Nat} {G : Int32} {b : Nat} (hu : u < 6) {m' : Int32} {e' : Nat → Int32} {S : Nat → Bool} (hm : ∀ p : Nat, p < 3 → bt m' (3 * p + b) = (bt m (3 * p + b) && !S p)) (hp : ∀ s : Nat, s < 12 → pe e' s = pe e s) (he : ∀ s : Nat, s < 12 → pe e s = true → bt (e' s) b = (bt (e s) b && !S (3 + s))) {p : Nat} (hp15 : p < 15) : wW o gr m' k e' ne u G b p = (wW o gr m k e ne u G b p && !S p) := by
  have m0 : bt m' b = (bt m b && !S 0) := by simpa using hm 0 (by decide)
  have m3 : bt m' (3 + b) = (bt m (3 + b) && !S 1) := hm 1 (by decide)
  have m6 : bt m' (6 + b) = (bt m (6 + b) && !S 2) := hm 2 (by decide)
  have q6 : ∀ i : Nat, i < 6 → wQ e' G i = wQ e G i := fun i hi => by simp [wQ, hp (6 + i) (by omega)]
  have a6 : anyb (wQ e' G) 6 = anyb (wQ e G) 6 := anyb_congr q6
  have p6 : ∀ i : Nat, i < 6 → wP e' G k b i = (wP e G k b i && !S (9 + i)) := fun i hi => by
    rw [wP, wP, q6 i hi]
    cases q : wQ e G i
    · simp
    · have : pe e (6 + i) = true := by
        rw [wQ, Bool.and_eq_true] at q
        exact q.1
      rw [he (6 + i) (by omega) this, show 3 + (6 + i) = 9 + i by omega]
      cases bt (e (6 + i)) b <;> cases bt k b <;> cases S (9 + i) <;> rfl
  have eu : (e' u = -1) ↔ (e u = -1) := by
    have := hp u (by omega)
    by_cases c1 : e' u = -1 <;> by_cases c2 : e u = -1 <;> simp [pe, c1, c2] at this ⊢
  unfold wW
  by_cases h1 : u = o
  · rw [if_pos h1, if_pos h1, m6]
    by_cases e2 : p = 2
    · subst e2; simp
    · simp [e2]
  · rw [if_neg h1, if_neg h1]
    by_cases h2 : e u = -1
    · rw [if_pos (eu.mpr h2), if_pos h2, a6]
      by_cases h3 : (bt G gr || anyb (wQ e G) 6) = true
      · rw [if_pos h3, if_pos h3, m3]
        by_cases e2 : p = 1
        · subst e2
          simp
          cases bt G gr <;> cases bt m (3 + b) <;> cases S 1 <;> cases ne <;> cases bt k b <;> rfl
        · by_cases e3 : 9 ≤ p
          · have := p6 (p - 9) (by omega)
            rw [show 9 + (p - 9) = p by omega] at this
            simp [e2, e3, this]
          · simp [e2, e3]
      · rw [if_neg h3, if_neg h3, m0]
        by_cases e2 : p = 0
        · subst e2; simp
        · simp [e2]
    · rw [if_neg (fun q => h2 (eu.mp q)), if_neg h2]
      by_cases e2 : p = 3 + u
      · subst e2
        rw [he u (by omega) (by simp [pe, h2])]
        simp
        cases bt (e u) b <;> cases bt k b <;> cases S (3 + u) <;> rfl
      · simp [e2]
/-! counting bits -/
def F1 (x : Nat) : Nat := x - ((x / 2 ^ 1) &&& 1431655765)
def F2 (x : Nat) : Nat := (x &&& 858993459) + ((x / 2 ^ 2) &&& 858993459)
def F3 (x : Nat) : Nat := (x + x / 2 ^ 4) &&& 252645135
def F4 (x : Nat) : Nat := x + x / 2 ^ 8
def F5 (x : Nat) : Nat := (x + x / 2 ^ 16) &&& 63
def pc (k : Nat) : Nat := sw (fun j => k.testBit j) 15
def pc8 (k : Nat) : Nat := sw (fun j => k.testBit j) 8
theorem and_split (x m : Nat) {y n : Nat} (hy : y < 2 ^ 8) (hn : n < 2 ^ 8) : (2 ^ 8 * x + y) &&& (2 ^ 8 * m + n) = 2 ^ 8 * (x &&& m) + (y &&& n) := by
  apply Nat.eq_of_testBit_eq
  intro i
  have hyn : y &&& n < 2 ^ 8 := Nat.lt_of_le_of_lt Nat.and_le_left hy
  rw [Nat.testBit_and, Nat.testBit_two_pow_mul_add _ hy, Nat.testBit_two_pow_mul_add _ hn, Nat.testBit_two_pow_mul_add _ hyn]
  by_cases h : i < 8
  · rw [if_pos h, if_pos h, if_pos h, Nat.testBit_and]
  · rw [if_neg h, if_neg h, if_neg h, Nat.testBit_and]
theorem byte_f : ∀ c : Nat, c < 256 → F3 (F2 (F1 c)) = pc8 c ∧ F1 c < 256 ∧ F2 (F1 c) < 256 ∧ F2 (F1 c) % 16 ≤ 4 ∧ F2 (F1 c) / 16 ≤ 4 ∧ pc8 c ≤ 8 ∧ ((c / 2 ^ 1) &&& 1431655765) ≤ c := by decide +kernel
theorem byte_1 : ∀ d : Nat, d < 2 → ∀ c : Nat, c < 256 → (128 * d + c / 2) &&& 85 = (c / 2 ^ 1) &&& 1431655765 := by decide +kernel
theorem byte_1b : ∀ c : Nat, c < 256 → (c / 2) &&& 5592405 = (c / 2 ^ 1) &&& 1431655765 := by decide +kernel
theorem byte_2 : ∀ d : Nat, d < 4 → ∀ c : Nat, c < 256 → (64 * d + c / 4) &&& 51 = (c / 2 ^ 2) &&& 858993459 := by decide +kernel
theorem byte_2b : ∀ c : Nat, c < 256 → (c / 4) &&& 3355443 = (c / 2 ^ 2) &&& 858993459 ∧ c &&& 3355443 = c &&& 858993459 ∧ c &&& 51 = c &&& 858993459 := by decide +kernel
theorem byte_3 : ∀ c : Nat, c < 512 → c &&& 986895 = c &&& 252645135 := by decide +kernel
theorem byte_4 : ∀ h : Nat, h < 5 → ∀ l : Nat, l < 5 → ∀ d : Nat, d < 5 → (16 * d + (16 * h + l) + (16 * h + l) / 16) &&& 15 = ((16 * h + l) + (16 * h + l) / 16) &&& 252645135 := by decide +kernel
theorem F1_s {a c : Nat} (ha : a < 256) (hc : c < 256) : F1 (2 ^ 8 * a + c) = 2 ^ 8 * F1 a + F1 c := by
  have ea : (2 ^ 8 * a + c) / 2 ^ 1 = 2 ^ 8 * (a / 2) + (128 * (a % 2) + c / 2) := by omega
  have hA := (byte_f a ha).2.2.2.2.2.2
  have hC := (byte_f c hc).2.2.2.2.2.2
  unfold F1
  rw [ea, show (1431655765 : Nat) = 2 ^ 8 * 5592405 + 85 from rfl, and_split _ _ (by omega) (by decide), byte_1 (a % 2) (by omega) c hc, byte_1b a ha, show 2 ^ 8 * 5592405 + 85 = (1431655765 : Nat) from rfl]
  omega
theorem F2_s {a c : Nat} (ha : a < 256) (hc : c < 256) : F2 (2 ^ 8 * a + c) = 2 ^ 8 * F2 a + F2 c := by
  have ea : (2 ^ 8 * a + c) / 2 ^ 2 = 2 ^ 8 * (a / 4) + (64 * (a % 4) + c / 4) := by omega
  obtain ⟨x1, x2, x3⟩ := byte_2b a ha
  obtain ⟨y1, y2, y3⟩ := byte_2b c hc
  unfold F2
  rw [ea, show (858993459 : Nat) = 2 ^ 8 * 3355443 + 51 from rfl, and_split _ _ hc (by decide), and_split _ _ (show 64 * (a % 4) + c / 4 < 2 ^ 8 by omega) (by decide), byte_2 (a % 4) (by omega) c hc, x1, x2, y3, show 2 ^ 8 * 3355443 + 51 = (858993459 : Nat) from rfl]
  omega
theorem F3_s {a c : Nat} (ha : a < 256) (hc : c < 256) (h1 : a % 16 ≤ 4) (h2 : c % 16 ≤ 4) (h3 : c / 16 ≤ 4) : F3 (2 ^ 8 * a + c) = 2 ^ 8 * F3 a + F3 c := by
  have ea : (2 ^ 8 * a + c) + (2 ^ 8 * a + c) / 2 ^ 4 = 2 ^ 8 * (a + a / 2 ^ 4) + (16 * (a % 16) + c + c / 16) := by omega
  have ec : c = 16 * (c / 16) + c % 16 := by omega
  have b4 := byte_4 (c / 16) (by omega) (c % 16) (by omega) (a % 16) (by omega)
  rw [← ec] at b4
  unfold F3
  rw [ea, show (252645135 : Nat) = 2 ^ 8 * 986895 + 15 from rfl, and_split _ _ (show 16 * (a % 16) + c + c / 16 < 2 ^ 8 by omega) (by decide), b4, byte_3 _ (show a + a / 2 ^ 4 < 512 by omega)]
theorem F_1 {k : Nat} (hk : k < 32768) : (k / 2 ^ 1) &&& 1431655765 ≤ k := by
  have : (k / 2 ^ 1) &&& 1431655765 ≤ k / 2 ^ 1 := Nat.and_le_left
  omega
theorem F_pc {a c : Nat} (ha : a < 128) (hc : c < 256) : F5 (F4 (F3 (F2 (F1 (2 ^ 8 * a + c))))) = pc (2 ^ 8 * a + c) := by
  obtain ⟨a1, a2, a3, a4, a5, a6, -⟩ := byte_f a (by omega)
  obtain ⟨c1, c2, c3, c4, c5, c6, -⟩ := byte_f c hc
  rw [F1_s (by omega) hc, F2_s a2 c2, F3_s a3 c3 a4 c4 c5, a1, c1]
  have hp : pc (2 ^ 8 * a + c) = pc8 c + pc8 a := by
    have h7 : sw (fun j => a.testBit j) 8 = sw (fun j => a.testBit j) 7 := by
      show sw (fun j => a.testBit j) 7 + (a.testBit 7).toNat = _
      rw [Nat.testBit_lt_two_pow (by omega)]
      rfl
    unfold pc pc8
    rw [h7, show 15 = 8 + 7 from rfl, sw_split 8 7]
    congr 1
    · exact sw_congr fun i hi => by rw [Nat.testBit_two_pow_mul_add _ hc, if_pos hi]
    · exact sw_congr fun i hi => by rw [Nat.testBit_two_pow_mul_add _ hc, if_neg (by omega), show 8 + i - 8 = i by omega]
  rw [hp]
  unfold F4 F5
  rw [show (63 : Nat) = 2 ^ 6 - 1 from rfl, Nat.and_two_pow_sub_one_eq_mod]
  generalize pc8 a = x at a6
  generalize pc8 c = y at c6
  rw [show (2 ^ 8 * x + y) / 2 ^ 8 = x by omega, show (2 ^ 8 * x + y + x) / 2 ^ 16 = 0 by omega]
  omega
theorem us1 {n : Nat} (hn : n < 2 ^ 32) : ((nI n).toUInt32 >>> ((1 : Int32).toUInt32 &&& Int32.toUInt32 31)).toInt32 = nI (n / 2 ^ 1) := pk_ushrN hn 1 1 (by decide)
theorem us2 {n : Nat} (hn : n < 2 ^ 32) : ((nI n).toUInt32 >>> ((2 : Int32).toUInt32 &&& Int32.toUInt32 31)).toInt32 = nI (n / 2 ^ 2) := pk_ushrN hn 2 2 (by decide)
theorem us4 {n : Nat} (hn : n < 2 ^ 32) : ((nI n).toUInt32 >>> ((4 : Int32).toUInt32 &&& Int32.toUInt32 31)).toInt32 = nI (n / 2 ^ 4) := pk_ushrN hn 4 4 (by decide)
theorem us8 {n : Nat} (hn : n < 2 ^ 32) : ((nI n).toUInt32 >>> ((8 : Int32).toUInt32 &&& Int32.toUInt32 31)).toInt32 = nI (n / 2 ^ 8) := pk_ushrN hn 8 8 (by decide)
theorem us16 {n : Nat} (hn : n < 2 ^ 32) : ((nI n).toUInt32 >>> ((16 : Int32).toUInt32 &&& Int32.toUInt32 31)).toInt32 = nI (n / 2 ^ 16) := pk_ushrN hn 16 16 (by decide)
theorem bitCount_pc {k : Nat} (hk : k < 32768) : f_J6_bitCount_0f7a4 (nI k) = nI (pc k) := by
  have e : k = 2 ^ 8 * (k / 256) + k % 256 := by omega
  have h1 := F_1 hk
  have h2 := F_pc (show k / 256 < 128 by omega) (show k % 256 < 256 by omega)
  rw [← e] at h2
  have l1 : F1 k < 2 ^ 16 := by unfold F1; omega
  have l2 : F2 (F1 k) < 2 ^ 20 := by
    have a1 : F1 k &&& 858993459 ≤ F1 k := Nat.and_le_left
    have a2 : (F1 k / 2 ^ 2) &&& 858993459 ≤ F1 k / 2 ^ 2 := Nat.and_le_left
    unfold F2
    omega
  have l3 : F3 (F2 (F1 k)) < 2 ^ 22 := by
    have a1 : (F2 (F1 k) + F2 (F1 k) / 2 ^ 4) &&& 252645135 ≤ F2 (F1 k) + F2 (F1 k) / 2 ^ 4 := Nat.and_le_left
    unfold F3
    omega
  have l4 : F4 (F3 (F2 (F1 k))) < 2 ^ 24 := by unfold F4; omega
  have s1 : nI k - (((nI k).toUInt32 >>> ((1 : Int32).toUInt32 &&& Int32.toUInt32 31)).toInt32 &&& (1431655765 : Int32)) = nI (F1 k) := by
    rw [us1 (by omega), show (1431655765 : Int32) = nI 1431655765 from rfl, nx_and, pk_sub h1]
    rfl
  have s2 : (nI (F1 k) &&& (858993459 : Int32)) + (((nI (F1 k)).toUInt32 >>> ((2 : Int32).toUInt32 &&& Int32.toUInt32 31)).toInt32 &&& (858993459 : Int32)) = nI (F2 (F1 k)) := by
    rw [us2 (by omega), show (858993459 : Int32) = nI 858993459 from rfl, nx_and, nx_and, nI_add]
    rfl
  have s3 : (nI (F2 (F1 k)) + ((nI (F2 (F1 k))).toUInt32 >>> ((4 : Int32).toUInt32 &&& Int32.toUInt32 31)).toInt32) &&& (252645135 : Int32) = nI (F3 (F2 (F1 k))) := by
    rw [us4 (by omega), nI_add, show (252645135 : Int32) = nI 252645135 from rfl, nx_and]
    rfl
  have s4 : nI (F3 (F2 (F1 k))) + ((nI (F3 (F2 (F1 k)))).toUInt32 >>> ((8 : Int32).toUInt32 &&& Int32.toUInt32 31)).toInt32 = nI (F4 (F3 (F2 (F1 k)))) := by
    rw [us8 (by omega), nI_add]
    rfl
  have s5 : (nI (F4 (F3 (F2 (F1 k)))) + ((nI (F4 (F3 (F2 (F1 k))))).toUInt32 >>> ((16 : Int32).toUInt32 &&& Int32.toUInt32 31)).toInt32) &&& (63 : Int32) = nI (F5 (F4 (F3 (F2 (F1 k))))) := by
    rw [us16 (by omega), nI_add, show (63 : Int32) = nI 63 from rfl, nx_and]
    rfl
  rw [f_J6_bitCount_0f7a4]
  simp only [s1, s2, s3, s4]
  rw [s5, h2]
