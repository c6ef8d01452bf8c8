/-- the cells in the order in which they are made -/
def LA : List (Nat × Nat) := [(7, 0), (2, 0), (12, 0), (13, 0), (14, 0), (15, 0), (3, 0), (16, 0), (17, 0), (1, 0), (11, 0), (22, 0), (5, 0), (20, 0), (5, 1), (20, 1), (5, 2), (20, 2), (5, 3), (20, 3), (5, 4), (20, 4), (5, 5), (20, 5), (5, 6), (20, 6), (5, 7), (20, 7), (5, 8), (20, 8), (5, 9), (20, 9), (5, 10), (20, 10), (5, 11), (20, 11), (23, 0), (0, 0), (10, 0), (0, 1), (10, 1), (0, 2), (10, 2), (0, 3), (10, 3), (0, 4), (10, 4), (0, 5), (10, 5), (0, 6), (10, 6), (0, 7), (10, 7), (24, 0), (6, 0), (6, 1), (6, 2), (6, 3), (6, 4), (6, 5), (6, 6), (6, 7), (6, 8), (6, 9), (25, 0), (0, 8), (10, 8), (0, 9), (10, 9), (0, 10), (10, 10), (0, 11), (10, 11), (5, 12), (20, 12), (21, 0), (4, 0), (18, 0), (19, 0), (8, 0), (31, 0), (32, 0), (34, 0), (35, 0), (36, 0), (37, 0), (38, 0), (39, 0), (40, 0), (41, 0), (42, 0), (43, 0), (44, 0), (45, 0), (46, 0), (47, 0), (49, 0), (50, 0), (51, 0), (52, 0), (53, 0), (54, 0), (55, 0), (56, 0), (58, 0), (59, 0), (60, 0), (61, 0), (62, 0), (63, 0), (64, 0), (65, 0), (66, 0), (73, 0), (77, 0), (90, 0)]
def pr2 (k1 k2 o j : Nat) : List (Nat × Nat) := (List.range j).flatMap fun t => [(k1, o + t), (k2, o + t)]
def pr1 (k1 j : Nat) : List (Nat × Nat) := (List.range j).map fun t => (k1, t)
theorem pr2_s (k1 k2 o j : Nat) : pr2 k1 k2 o (j + 1) = pr2 k1 k2 o j ++ [(k1, o + j), (k2, o + j)] := by
  simp [pr2, List.range_succ, List.flatMap_append]
theorem pr1_s (k1 j : Nat) : pr1 k1 (j + 1) = pr1 k1 j ++ [(k1, j)] := by
  simp [pr1, List.range_succ]
theorem pr2_len (k1 k2 o j : Nat) : (pr2 k1 k2 o j).length = 2 * j := by
  induction j with
  | zero => rfl
  | succ j ih => rw [pr2_s, List.length_append, ih]; simp; omega
theorem pr1_len (k1 j : Nat) : (pr1 k1 j).length = j := by simp [pr1]
theorem pr2_off {k1 k2 o j : Nat} {x : Nat × Nat} (h : x ∈ pr2 k1 k2 o j) : x.1 = k1 ∨ x.1 = k2 := by
  simp only [pr2, List.mem_flatMap, List.mem_range, List.mem_cons, List.not_mem_nil, or_false] at h
  obtain ⟨t, -, rfl | rfl⟩ := h
  · exact Or.inl rfl
  · exact Or.inr rfl
theorem pr1_off {k1 j : Nat} {x : Nat × Nat} (h : x ∈ pr1 k1 j) : x.1 = k1 := by
  simp only [pr1, List.mem_map, List.mem_range] at h
  obtain ⟨t, -, rfl⟩ := h
  rfl
theorem LA_5 : ∀ j, j < 12 → LA[12 + 2 * j]? = some (5, j) ∧ LA[12 + 2 * j + 1]? = some (20, j) := by decide
theorem LA_0 : ∀ j, j < 8 → LA[37 + 2 * j]? = some (0, j) ∧ LA[37 + 2 * j + 1]? = some (10, j) := by decide
theorem LA_6 : ∀ j, j < 10 → LA[54 + j]? = some (6, j) := by decide
theorem LA_8 : ∀ j, j < 4 → LA[65 + 2 * j]? = some (0, 8 + j) ∧ LA[65 + 2 * j + 1]? = some (10, 8 + j) := by decide
theorem LA_Lm : (∀ x ∈ Lm, x ∈ LA) ∧ LA.length = Lm.length := by decide +kernel
