/-! what a call needs, on both sides -/
theorem ltI {x y : Int32} : x < y ↔ x.toInt < y.toInt := Int32.lt_iff_toInt_lt
theorem leI {x y : Int32} : x ≤ y ↔ x.toInt ≤ y.toInt := Int32.le_iff_toInt_le
theorem c_place (x : Int32) {n : Nat} (hn : n < 2 ^ 20) : (∃ j : Nat, j < n ∧ x = nI j ∧ e_X7_needPlace x (nI n) = none ∧ f_X8_within x 0 (nI n - 1) = 1) ∨ (e_X7_needPlace x (nI n) = some "java/lang/IndexOutOfBoundsException" ∧ f_X8_within x 0 (nI n - 1) = 0) := by
  have hm : (nI n - 1).toInt = (n : Int) - 1 := by
    rcases Nat.eq_zero_or_pos n with rfl | h
    · decide
    · rw [show (1 : Int32) = nI 1 from rfl, pk_sub h, nI_toInt (by omega)]
      omega
  rcases pk_ix x (n := n) (by omega) with q | q | ⟨j, hj, rfl⟩
  · right
    exact ⟨by rw [e_X7_needPlace, if_pos q], by rw [f_X8_within, if_pos q]⟩
  · right
    have h5 : (n : Int) ≤ x.toInt := by rw [← nI_toInt (n := n) (by omega)]; exact leI.mp q
    have h0 : ¬ x < 0 := fun q2 => by
      have := ltI.mp q2
      simp at this
      omega
    exact ⟨by rw [e_X7_needPlace, if_neg h0, if_neg (Int32.not_lt.mpr q)], by rw [f_X8_within, if_neg h0, if_pos (ltI.mpr (by omega))]⟩
  · left
    refine ⟨j, hj, rfl, by rw [e_X7_needPlace, if_neg (nI_pos (by omega)), if_pos (nI_lt hj (by omega))], ?_⟩
    rw [f_X8_within, if_neg (nI_pos (by omega)), if_neg (fun q => by
      have := ltI.mp q
      rw [hm, nI_toInt (by omega)] at this
      omega)]
theorem c_six (x : Int32) : (∃ j : Nat, j < 6 ∧ x = nI j ∧ e_X7_needPlace x 6 = none ∧ f_X8_isSix x = 1) ∨ (e_X7_needPlace x 6 = some "java/lang/IndexOutOfBoundsException" ∧ f_X8_isSix x = 0) := c_place x (n := 6) (by decide)
theorem c_four (x : Int32) : (∃ j : Nat, j < 4 ∧ x = nI j ∧ e_X7_needPlace x 4 = none ∧ f_X8_within x 0 3 = 1) ∨ (e_X7_needPlace x 4 = some "java/lang/IndexOutOfBoundsException" ∧ f_X8_within x 0 3 = 0) := c_place x (n := 4) (by decide)
theorem c_range (x lo hi : Int32) : ((lo ≤ x ∧ x ≤ hi) ∧ e_X7_needRange x lo hi = none ∧ f_X8_within x lo hi = 1) ∨ (e_X7_needRange x lo hi = some "java/lang/IllegalArgumentException" ∧ f_X8_within x lo hi = 0) := by
  by_cases h1 : x < lo
  · exact Or.inr ⟨by rw [e_X7_needRange, if_pos h1], by rw [f_X8_within, if_pos h1]⟩
  · by_cases h2 : hi < x
    · exact Or.inr ⟨by rw [e_X7_needRange, if_neg h1, if_neg (Int32.not_le.mpr h2)], by rw [f_X8_within, if_neg h1, if_pos h2]⟩
    · exact Or.inl ⟨⟨Int32.not_lt.mp h1, Int32.not_lt.mp h2⟩, by rw [e_X7_needRange, if_neg h1, if_pos (Int32.not_lt.mp h2)], by rw [f_X8_within, if_neg h1, if_neg h2]⟩
theorem c_upto (x : Int32) {n : Nat} (hn : n < 2 ^ 20) {hi : Int32} (hh : hi = nI n) : (nb (n + 1) x ∧ e_X7_needRange x 0 hi = none ∧ f_X8_within x 0 hi = 1) ∨ (e_X7_needRange x 0 hi = some "java/lang/IllegalArgumentException" ∧ f_X8_within x 0 hi = 0) := by
  rcases c_range x 0 hi with ⟨⟨h1, h2⟩, h3⟩ | h
  · obtain ⟨j, j1, rfl⟩ := nI_of (Int32.not_lt.mpr h1)
    refine Or.inl ⟨⟨j, ?_, rfl⟩, h3⟩
    have := leI.mp h2
    rw [hh, nI_toInt (by omega), nI_toInt (by omega)] at this
    omega
  · exact Or.inr h
theorem c_right (r : Int32) : (∃ b : Nat, b < 3 ∧ r = nI (2 ^ b) ∧ e_X7_needRight r = none ∧ f_X8_isRight r = 1) ∨ (e_X7_needRight r = some "java/lang/IllegalArgumentException" ∧ f_X8_isRight r = 0) := by
  by_cases h1 : r = 1
  · subst h1; exact Or.inl ⟨0, by decide, rfl, by decide, by decide⟩
  by_cases h2 : r = 2
  · subst h2; exact Or.inl ⟨1, by decide, rfl, by decide, by decide⟩
  by_cases h3 : r = 4
  · subst h3; exact Or.inl ⟨2, by decide, rfl, by decide, by decide⟩
  exact Or.inr ⟨by rw [e_X7_needRight, if_neg h1, if_neg h2, if_neg h3], by rw [f_X8_isRight, if_neg h1, if_neg h2, if_neg h3]⟩
section RN
variable {T P K N : Nat} {σ : Sg}
theorem RR.s7 (h : RR T P K N σ) : σ 7 0 6 = nI T ∧ σ 8 0 3 = nI T ∧ σ 7 0 7 = nI P ∧ σ 8 0 18 = nI P ∧ σ 7 0 8 = nI K ∧ σ 8 0 27 = nI K ∧ σ 7 0 9 = nI N ∧ σ 8 0 37 = nI N ∧ σ 8 0 38 = σ 7 0 10 ∧ σ 8 0 39 = σ 7 0 11 := h.2.1
theorem RR.b (h : RR T P K N σ) : T ≤ 12 ∧ P ≤ 8 ∧ K ≤ 10 ∧ N ≤ 10000 := h.1
theorem RR.act (h : RR T P K N σ) (k : Int32) : (∃ p : Nat, p < P ∧ k = nI p ∧ e_X7_needActor k σ = none ∧ f_X8_isProcess k σ = 1) ∨ (e_X7_needActor k σ = some "java/lang/IndexOutOfBoundsException" ∧ f_X8_isProcess k σ = 0) := by
  obtain ⟨-, -, a, b, -⟩ := h.s7
  have hB := h.b
  rw [e_X7_needActor, f_X8_isProcess, a, b]
  rcases c_place k (n := P) (by omega) with ⟨p, p1, p2, p3, p4⟩ | ⟨p3, p4⟩
  · exact Or.inl ⟨p, p1, p2, by rw [p3]; rfl, p4⟩
  · exact Or.inr ⟨by rw [p3]; rfl, p4⟩
theorem RR.thi (h : RR T P K N σ) (k : Int32) : (∃ p : Nat, p < T ∧ k = nI p ∧ e_X7_needThing k σ = none ∧ f_X8_isThing k σ = 1) ∨ (e_X7_needThing k σ = some "java/lang/IndexOutOfBoundsException" ∧ f_X8_isThing k σ = 0) := by
  obtain ⟨a, b, -⟩ := h.s7
  have hB := h.b
  rw [e_X7_needThing, f_X8_isThing, a, b]
  rcases c_place k (n := T) (by omega) with ⟨p, p1, p2, p3, p4⟩ | ⟨p3, p4⟩
  · exact Or.inl ⟨p, p1, p2, by rw [p3]; rfl, p4⟩
  · exact Or.inr ⟨by rw [p3]; rfl, p4⟩
theorem RR.tok (h : RR T P K N σ) (k : Int32) : (∃ p : Nat, p < K ∧ k = nI p ∧ e_X7_needToken k σ = none ∧ f_X8_isToken k σ = 1) ∨ (e_X7_needToken k σ = some "java/lang/IndexOutOfBoundsException" ∧ f_X8_isToken k σ = 0) := by
  obtain ⟨-, -, -, -, a, b, -⟩ := h.s7
  have hB := h.b
  rw [e_X7_needToken, f_X8_isToken, a, b]
  rcases c_place k (n := K) (by omega) with ⟨p, p1, p2, p3, p4⟩ | ⟨p3, p4⟩
  · exact Or.inl ⟨p, p1, p2, by rw [p3]; rfl, p4⟩
  · exact Or.inr ⟨by rw [p3]; rfl, p4⟩
theorem c_room {n M : Nat} (hn : n ≤ M) (hM : M < 2 ^ 20) : (n < M ∧ e_X7_needRoom (nI n) (nI M) = none ∧ nI n ≠ nI M) ∨ (n = M ∧ e_X7_needRoom (nI n) (nI M) = some "java/lang/IllegalStateException" ∧ nI n = nI M) := by
  rcases Nat.lt_or_ge n M with q | q
  · refine Or.inl ⟨q, by rw [e_X7_needRoom, if_pos (nI_lt q (by omega))], fun q2 => ?_⟩
    have := (nI_eq (by omega) (by omega)).mp q2
    omega
  · have e : n = M := by omega
    subst e
    exact Or.inr ⟨rfl, by rw [e_X7_needRoom, if_neg (nI_nlt (Nat.le_refl _) (by omega))], rfl⟩
/-! one right, one bit -/
theorem r0 (x : Int32) {b : Nat} (hb : b < 32) : (x &&& nI (2 ^ b) = 0) ↔ bt x b = false := by
  have hp : ∀ i, i < 32 → bt (nI (2 ^ b)) i = decide (i = b) := by
    intro i hi
    show (BitVec.ofNat 32 (2 ^ b)).getLsbD i = _
    rw [BitVec.getLsbD_ofNat]
    simp only [hi, decide_true, Bool.true_and, Nat.testBit_two_pow]
    exact decide_eq_decide.mpr ⟨fun q => q.symm, fun q => q.symm⟩
  constructor
  · intro h
    have h2 := congrArg (fun z => bt z b) h
    simp only [b_and, b_0, hp b hb, decide_true, Bool.and_true] at h2
    exact h2
  · intro h
    apply b_ext
    intro i hi
    rw [b_and, hp i hi, b_0]
    by_cases e : i = b
    · subst e; simp [h]
    · simp [e]
theorem fine2 (x : Int32) : (x &&& 2 = 0) ↔ f_X8_hasBit x 1 = 0 := by
  rw [f_X8_hasBit, show (2 : Int32) = nI (2 ^ 1) from rfl, r0 x (by decide), show (1 : Int32) &&& 31 = nI 1 &&& 31 from rfl, hb_bt x 1 (by decide)]
  cases bt x 1 <;> decide
theorem hasBit_bt (x : Int32) {b : Nat} (hb : b < 32) : f_X8_hasBit x (nI b) = if bt x b = true then 1 else 0 := by
  rw [f_X8_hasBit, hb_bt x b hb]
  cases bt x b <;> rfl
theorem fineB (x : Int32) {b : Nat} (hb : b < 32) : (x &&& nI (2 ^ b) = 0) ↔ f_X8_hasBit x (nI b) = 0 := by
  rw [r0 x hb, hasBit_bt x hb]
  cases bt x b <;> decide
end RN
