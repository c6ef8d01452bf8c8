/-! every call of a law keeps the relation -/
theorem law_0 (xs : Nat → Int32) (iN : Nat) {σ : Sg} (h : RS σ) : ∃ σ', g_law_0 xs iN σ = some σ' ∧ RS σ' := by
  unfold g_law_0
  by_cases c : xs (iN + 2) = 0
  · rw [if_pos c]
    by_cases d : xs (iN + 4) = 0
    · rw [if_pos d]
      exact (st_member h _ _ _ _).bool fun _ => mem01 _ _ _ _ _
    · rw [if_neg d]
      exact (st_member h _ _ _ _).bool fun _ => mem01 _ _ _ _ _
  · rw [if_neg c]
    by_cases d : xs (iN + 4) = 0
    · rw [if_pos d]
      exact (st_member h _ _ _ _).bool fun _ => mem01 _ _ _ _ _
    · rw [if_neg d]
      exact (st_member h _ _ _ _).bool fun _ => mem01 _ _ _ _ _
theorem law_1 (xs : Nat → Int32) (iN : Nat) {σ : Sg} (h : RS σ) : ∃ σ', g_law_1 xs iN σ = some σ' ∧ RS σ' := by
  unfold g_law_1
  exact (st_groups h _).int
theorem law_2 (xs : Nat → Int32) (iN : Nat) {σ : Sg} (h : RS σ) : ∃ σ', g_law_2 xs iN σ = some σ' ∧ RS σ' := by
  unfold g_law_2
  exact (st_thing h _ _ _ _).int
theorem law_3 (xs : Nat → Int32) (iN : Nat) {σ : Sg} (h : RS σ) : ∃ σ', g_law_3 xs iN σ = some σ' ∧ RS σ' := by
  unfold g_law_3
  exact (st_type h _ _).int
theorem law_4 (xs : Nat → Int32) (iN : Nat) {σ : Sg} (h : RS σ) : ∃ σ', g_law_4 xs iN σ = some σ' ∧ RS σ' := by
  unfold g_law_4
  exact (st_mode h _ _ _).int
theorem law_5 (xs : Nat → Int32) (iN : Nat) {σ : Sg} (h : RS σ) : ∃ σ', g_law_5 xs iN σ = some σ' ∧ RS σ' := by
  unfold g_law_5
  exact (st_mask h _ _ _).int
theorem law_6 (xs : Nat → Int32) (iN : Nat) {σ : Sg} (h : RS σ) : ∃ σ', g_law_6 xs iN σ = some σ' ∧ RS σ' := by
  unfold g_law_6
  by_cases c : xs (iN + 3) = 0
  · rw [if_pos c]
    by_cases d : xs (iN + 6) = 0
    · rw [if_pos d]
      exact (st_entry h _ _ _ _ _ _ (by simp) (by simp)).int
    · rw [if_neg d]
      exact (st_entry h _ _ _ _ _ _ (by simp) (by simp)).int
  · rw [if_neg c]
    by_cases d : xs (iN + 6) = 0
    · rw [if_pos d]
      exact (st_entry h _ _ _ _ _ _ (by simp) (by simp)).int
    · rw [if_neg d]
      exact (st_entry h _ _ _ _ _ _ (by simp) (by simp)).int
theorem law_7 (xs : Nat → Int32) (iN : Nat) {σ : Sg} (h : RS σ) : ∃ σ', g_law_7 xs iN σ = some σ' ∧ RS σ' := by
  unfold g_law_7
  exact (st_give h _ _ _).int
theorem law_8 (xs : Nat → Int32) (iN : Nat) {σ : Sg} (h : RS σ) : ∃ σ', g_law_8 xs iN σ = some σ' ∧ RS σ' := by
  unfold g_law_8
  exact (st_label h _ _ _ _).int
theorem law_9 (xs : Nat → Int32) (iN : Nat) {σ : Sg} (h : RS σ) : ∃ σ', g_law_9 xs iN σ = some σ' ∧ RS σ' := by
  unfold g_law_9
  exact (st_rule h _ _ _).int
theorem law_10 (xs : Nat → Int32) (iN : Nat) {σ : Sg} (h : RS σ) : ∃ σ', g_law_10 xs iN σ = some σ' ∧ RS σ' := by
  unfold g_law_10
  exact (st_move h _ _ _).int
theorem law_11 (xs : Nat → Int32) (iN : Nat) {σ : Sg} (h : RS σ) : ∃ σ', g_law_11 xs iN σ = some σ' ∧ RS σ' := by
  unfold g_law_11
  exact (st_process h _ _ _ _ _ _).int
theorem law_12 (xs : Nat → Int32) (iN : Nat) {σ : Sg} (h : RS σ) : ∃ σ', g_law_12 xs iN σ = some σ' ∧ RS σ' := by
  unfold g_law_12
  exact (st_filter h _ _).int
theorem law_13 (xs : Nat → Int32) (iN : Nat) {σ : Sg} (h : RS σ) : ∃ σ', g_law_13 xs iN σ = some σ' ∧ RS σ' := by
  unfold g_law_13
  exact (st_bound h _ _).int
theorem law_14 (xs : Nat → Int32) (iN : Nat) {σ : Sg} (h : RS σ) : ∃ σ', g_law_14 xs iN σ = some σ' ∧ RS σ' := by
  unfold g_law_14
  exact (st_about h _ _).int
theorem law_15 (xs : Nat → Int32) (iN : Nat) {σ : Sg} (h : RS σ) : ∃ σ', g_law_15 xs iN σ = some σ' ∧ RS σ' := by
  unfold g_law_15
  exact (st_act h _ _ _).int
theorem law_16 (xs : Nat → Int32) (iN : Nat) {σ : Sg} (h : RS σ) : ∃ σ', g_law_16 xs iN σ = some σ' ∧ RS σ' := by
  unfold g_law_16
  exact (st_actBy h _ _ _).int
theorem law_17 (xs : Nat → Int32) (iN : Nat) {σ : Sg} (h : RS σ) : ∃ σ', g_law_17 xs iN σ = some σ' ∧ RS σ' := by
  unfold g_law_17
  exact (st_token h _ _ _ _).int
theorem law_18 (xs : Nat → Int32) (iN : Nat) {σ : Sg} (h : RS σ) : ∃ σ', g_law_18 xs iN σ = some σ' ∧ RS σ' := by
  unfold g_law_18
  exact (st_narrow h _ _ _ _ _).int
theorem law_19 (xs : Nat → Int32) (iN : Nat) {σ : Sg} (h : RS σ) : ∃ σ', g_law_19 xs iN σ = some σ' ∧ RS σ' := by
  unfold g_law_19
  exact (st_takeBack h _ _).1.bool (st_takeBack h _ _).2
theorem law_20 (xs : Nat → Int32) (iN : Nat) {σ : Sg} (h : RS σ) : ∃ σ', g_law_20 xs iN σ = some σ' ∧ RS σ' := by
  unfold g_law_20
  exact (st_pass h _).int
theorem law_21 (xs : Nat → Int32) (iN : Nat) {σ : Sg} (h : RS σ) : ∃ σ', g_law_21 xs iN σ = some σ' ∧ RS σ' := by
  unfold g_law_21
  obtain ⟨a, c⟩ := st_watch h (xs (iN + 1)) (xs (iN + 2))
  exact ⟨_, by rw [if_pos a], c⟩
theorem law_22 (xs : Nat → Int32) (iN : Nat) {σ : Sg} (h : RS σ) : ∃ σ', g_law_22 xs iN σ = some σ' ∧ RS σ' := by
  unfold g_law_22
  obtain ⟨a, c⟩ := st_entries h
  exact ⟨_, by rw [if_pos a], c⟩
theorem law_23 (xs : Nat → Int32) (iN : Nat) {σ : Sg} (h : RS σ) : ∃ σ', g_law_23 xs iN σ = some σ' ∧ RS σ' := by
  unfold g_law_23
  obtain ⟨a, c⟩ := st_lost h
  exact ⟨_, by rw [if_pos a], c⟩
theorem law_24 (xs : Nat → Int32) (iN : Nat) {σ : Sg} (h : RS σ) : ∃ σ', g_law_24 xs iN σ = some σ' ∧ RS σ' := by
  unfold g_law_24
  exact (st_logged h _ _).int
theorem law_25 (xs : Nat → Int32) (iN : Nat) {σ : Sg} (h : RS σ) : ∃ σ', g_law_25 xs iN σ = some σ' ∧ RS σ' := by
  unfold g_law_25
  exact (st_forge h _ _).int
theorem law_26 (xs : Nat → Int32) (iN : Nat) {σ : Sg} (h : RS σ) : ∃ σ', g_law_26 xs iN σ = some σ' ∧ RS σ' := by
  unfold g_law_26
  obtain ⟨a, c⟩ := st_broken h
  exact ⟨_, by rw [if_pos a], c⟩
theorem law_27 (xs : Nat → Int32) (iN : Nat) {σ : Sg} (h : RS σ) : ∃ σ', g_law_27 xs iN σ = some σ' ∧ RS σ' := by
  unfold g_law_27
  exact (st_verdict h _ _ _).int
theorem law_28 (xs : Nat → Int32) (iN : Nat) {σ : Sg} (h : RS σ) : ∃ σ', g_law_28 xs iN σ = some σ' ∧ RS σ' := by
  unfold g_law_28
  exact (st_verdictAnew h _ _ _).int
theorem law_29 (xs : Nat → Int32) (iN : Nat) {σ : Sg} (h : RS σ) : ∃ σ', g_law_29 xs iN σ = some σ' ∧ RS σ' := by
  unfold g_law_29
  exact (st_reach h _ _ _).int
theorem law_30 (xs : Nat → Int32) (iN : Nat) {σ : Sg} (h : RS σ) : ∃ σ', g_law_30 xs iN σ = some σ' ∧ RS σ' := by
  unfold g_law_30
  exact (st_reachAnew h _ _ _).int
theorem law_31 (xs : Nat → Int32) (iN : Nat) {σ : Sg} (h : RS σ) : ∃ σ', g_law_31 xs iN σ = some σ' ∧ RS σ' := by
  unfold g_law_31
  exact (st_least h _ _ _).int
theorem law_32 (xs : Nat → Int32) (iN : Nat) {σ : Sg} (h : RS σ) : ∃ σ', g_law_32 xs iN σ = some σ' ∧ RS σ' := by
  unfold g_law_32
  exact (st_leastAnew h _ _ _).int
theorem law_all (xs : Nat → Int32) (k iN : Nat) (σ : Sg) (hk : k < 33) (h : RS σ) : ∃ σ', g_law k xs iN σ = some σ' ∧ RS σ' := by
  match k, hk with
  | 0, _ => exact law_0 xs iN h
  | 1, _ => exact law_1 xs iN h
  | 2, _ => exact law_2 xs iN h
  | 3, _ => exact law_3 xs iN h
  | 4, _ => exact law_4 xs iN h
  | 5, _ => exact law_5 xs iN h
  | 6, _ => exact law_6 xs iN h
  | 7, _ => exact law_7 xs iN h
  | 8, _ => exact law_8 xs iN h
  | 9, _ => exact law_9 xs iN h
  | 10, _ => exact law_10 xs iN h
  | 11, _ => exact law_11 xs iN h
  | 12, _ => exact law_12 xs iN h
  | 13, _ => exact law_13 xs iN h
  | 14, _ => exact law_14 xs iN h
  | 15, _ => exact law_15 xs iN h
  | 16, _ => exact law_16 xs iN h
  | 17, _ => exact law_17 xs iN h
  | 18, _ => exact law_18 xs iN h
  | 19, _ => exact law_19 xs iN h
  | 20, _ => exact law_20 xs iN h
  | 21, _ => exact law_21 xs iN h
  | 22, _ => exact law_22 xs iN h
  | 23, _ => exact law_23 xs iN h
  | 24, _ => exact law_24 xs iN h
  | 25, _ => exact law_25 xs iN h
  | 26, _ => exact law_26 xs iN h
  | 27, _ => exact law_27 xs iN h
  | 28, _ => exact law_28 xs iN h
  | 29, _ => exact law_29 xs iN h
  | 30, _ => exact law_30 xs iN h
  | 31, _ => exact law_31 xs iN h
  | 32, _ => exact law_32 xs iN h
  | n + 33, hk => exact absurd hk (by omega)
