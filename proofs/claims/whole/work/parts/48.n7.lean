theorem ci_X0 : CIw yX0_init cX0_init 1 := ⟨⟨q_178, q_51, q_179⟩, ⟨by decide +kernel, by decide +kernel⟩, rfl⟩
theorem ci_X1 : CIw yX1_init cX1_init 1 := ⟨⟨q_107, q_49, q_108⟩, ⟨by decide +kernel, by decide +kernel⟩, rfl⟩
theorem ci_X2 : CIw yX2_init cX2_init 1 := ⟨⟨q_74, q_47, q_75⟩, ⟨by decide +kernel, by decide +kernel⟩, rfl⟩
theorem ci_X3 : CIw yX3_init cX3_init 2 := ⟨⟨q_94, q_48, q_95⟩, ⟨by decide +kernel, by decide +kernel⟩, rfl⟩
theorem ci_X4 : CIw yX4_init cX4_init 1 := ⟨⟨q_258, q_53, q_259⟩, ⟨by decide +kernel, by decide +kernel⟩, rfl⟩
theorem ci_X5 : CIw yX5_init cX5_init 2 := ⟨⟨q_132, q_50, q_133⟩, ⟨by decide +kernel, by decide +kernel⟩, rfl⟩
theorem ci_X6 : CIw yX6_init cX6_init 1 := ⟨⟨q_224, q_52, q_225⟩, ⟨by decide +kernel, by decide +kernel⟩, rfl⟩
theorem ci_X7 : CIw yX7_init cX7_init 2 := ⟨⟨q_66, q_46, q_67⟩, ⟨by decide +kernel, by decide +kernel⟩, rfl⟩
theorem ci_X8 : CIw yX8_init cX8_init 2 := ⟨⟨q_919, q_54, q_920⟩, ⟨by decide +kernel, by decide +kernel⟩, rfl⟩
/-- the rows of references, filled up to a, b, c, d -/
def hT (a b c d : Nat) : Rh := fun k i j => if k = 22 ∧ i = 0 then decide (j < a ∨ 12 ≤ j) else if k = 23 ∧ i = 0 then decide (j < b ∨ 8 ≤ j) else if k = 24 ∧ i = 0 then decide (j < c ∨ 10 ≤ j) else if k = 25 ∧ i = 0 then decide (j < d ∨ 4 ≤ j) else true
theorem hT_off (a b c d : Nat) {k i : Nat} (h : ¬ (22 ≤ k ∧ k ≤ 25)) : hT a b c d k i = fun _ => true := by
  funext j
  have h1 : ¬ (k = 22 ∧ i = 0) := fun q => h (by omega)
  have h2 : ¬ (k = 23 ∧ i = 0) := fun q => h (by omega)
  have h3 : ¬ (k = 24 ∧ i = 0) := fun q => h (by omega)
  have h4 : ¬ (k = 25 ∧ i = 0) := fun q => h (by omega)
  simp only [hT, if_neg h1, if_neg h2, if_neg h3, if_neg h4]
theorem hT_full (k i : Nat) : hT 12 8 10 4 k i = fun _ => true := by
  funext j
  simp only [hT]
  (repeat' split) <;> first | rfl | (apply decide_eq_true; omega)
theorem hT_22 (a b c d : Nat) : ur (hT a b c d) 22 0 a = hT (a + 1) b c d := by
  funext k i j
  simp only [ur, hT]
  by_cases h : k = 22 ∧ i = 0
  · obtain ⟨rfl, rfl⟩ := h
    by_cases e : j = a
    · subst e; simp
    · simp only [e, and_false, if_false, and_self, if_true]
      congr 1
      exact propext (by omega)
  · have h0 : ¬ (k = 22 ∧ i = 0 ∧ j = a) := fun q => h ⟨q.1, q.2.1⟩
    simp only [if_neg h0, if_neg h]
theorem hT_23 (a b c d : Nat) : ur (hT a b c d) 23 0 b = hT a (b + 1) c d := by
  funext k i j
  simp only [ur, hT]
  by_cases h : k = 23 ∧ i = 0
  · obtain ⟨rfl, rfl⟩ := h
    by_cases e : j = b
    · subst e; simp
    · simp only [e, and_false, if_false, and_self, if_true, false_and, show ¬ (23 = 22) by decide]
      congr 1
      exact propext (by omega)
  · have h0 : ¬ (k = 23 ∧ i = 0 ∧ j = b) := fun q => h ⟨q.1, q.2.1⟩
    simp only [if_neg h0, if_neg h]
theorem hT_24 (a b c d : Nat) : ur (hT a b c d) 24 0 c = hT a b (c + 1) d := by
  funext k i j
  simp only [ur, hT]
  by_cases h : k = 24 ∧ i = 0
  · obtain ⟨rfl, rfl⟩ := h
    by_cases e : j = c
    · subst e; simp
    · simp only [e, and_false, if_false, and_self, if_true, false_and, show ¬ (24 = 22) by decide, show ¬ (24 = 23) by decide]
      congr 1
      exact propext (by omega)
  · have h0 : ¬ (k = 24 ∧ i = 0 ∧ j = c) := fun q => h ⟨q.1, q.2.1⟩
    simp only [if_neg h0, if_neg h]
theorem hT_25 (a b c d : Nat) : ur (hT a b c d) 25 0 d = hT a b c (d + 1) := by
  funext k i j
  simp only [ur, hT]
  by_cases h : k = 25 ∧ i = 0
  · obtain ⟨rfl, rfl⟩ := h
    by_cases e : j = d
    · subst e; simp
    · simp only [e, and_false, if_false, and_self, if_true, false_and, show ¬ (25 = 22) by decide, show ¬ (25 = 23) by decide, show ¬ (25 = 24) by decide]
      congr 1
      exact propext (by omega)
  · have h0 : ¬ (k = 25 ∧ i = 0 ∧ j = d) := fun q => h ⟨q.1, q.2.1⟩
    simp only [if_neg h0, if_neg h]
theorem rb_22 (b c d : Nat) : hT 0 b c d 22 0 = rb 22 := by
  funext j
  rcases Nat.lt_or_ge j 12 with q | q
  · exact (show ∀ j, j < 12 → decide (j < 0 ∨ 12 ≤ j) = rb 22 j by decide) j q
  · have : rb 22 j = true := by simp only [rb, refs, List.contains_eq_mem, List.mem_cons, List.not_mem_nil, or_false]; simp; omega
    rw [this]; simp [hT, q]
theorem rb_23 (a c d : Nat) : hT a 0 c d 23 0 = rb 23 := by
  funext j
  rcases Nat.lt_or_ge j 8 with q | q
  · exact (show ∀ j, j < 8 → decide (j < 0 ∨ 8 ≤ j) = rb 23 j by decide) j q
  · have : rb 23 j = true := by simp only [rb, refs, List.contains_eq_mem, List.mem_cons, List.not_mem_nil, or_false]; simp; omega
    rw [this]; simp [hT, q]
theorem rb_24 (a b d : Nat) : hT a b 0 d 24 0 = rb 24 := by
  funext j
  rcases Nat.lt_or_ge j 10 with q | q
  · exact (show ∀ j, j < 10 → decide (j < 0 ∨ 10 ≤ j) = rb 24 j by decide) j q
  · have : rb 24 j = true := by simp only [rb, refs, List.contains_eq_mem, List.mem_cons, List.not_mem_nil, or_false]; simp; omega
    rw [this]; simp [hT, q]
theorem rb_25 (a b c : Nat) : hT a b c 0 25 0 = rb 25 := by
  funext j
  rcases Nat.lt_or_ge j 4 with q | q
  · exact (show ∀ j, j < 4 → decide (j < 0 ∨ 4 ≤ j) = rb 25 j by decide) j q
  · have : rb 25 j = true := by simp only [rb, refs, List.contains_eq_mem, List.mem_cons, List.not_mem_nil, or_false]; simp; omega
    rw [this]; simp [hT, q]
