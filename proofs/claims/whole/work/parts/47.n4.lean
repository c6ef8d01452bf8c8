def gLp (kr ir j : Nat) : Sg := fun k' i' j' => if k' = kr ∧ i' = ir ∧ j' < j then -1 else 0
theorem gLp_step (kr ir j : Nat) : us (gLp kr ir j) kr ir j (-1) = gLp kr ir (j + 1) := by
  funext k' i' j'
  simp only [us, gLp]
  by_cases h : k' = kr ∧ i' = ir
  · obtain ⟨rfl, rfl⟩ := h
    by_cases h1 : j' = j
    · subst h1; simp
    · simp only [h1, true_and, and_false, if_false]
      by_cases h2 : j' < j
      · rw [if_pos h2, if_pos (by omega)]
      · rw [if_neg h2, if_neg (by omega)]
  · have e1 : ¬ (k' = kr ∧ i' = ir ∧ j' = j) := fun q => h ⟨q.1, q.2.1⟩
    have e2 : ¬ (k' = kr ∧ i' = ir ∧ j' < j) := fun q => h ⟨q.1, q.2.1⟩
    have e3 : ¬ (k' = kr ∧ i' = ir ∧ j' < j + 1) := fun q => h ⟨q.1, q.2.1⟩
    rw [if_neg e1, if_neg e2, if_neg e3]
set_option maxHeartbeats 4000000 in
set_option maxRecDepth 100000 in
theorem c_X3_init {l : Launch} {D : va_G} {ca : Nat → ClassId} {base : Nat} {ad : Adr} {i : Nat} {L : List (Nat × Nat)} {ρ : Rh} {σ : Sg} (h1 : ρ 3 i = rb 3) (h2 : σ 3 i = fun _ => 0) (hB : (3, i) ∈ L) (had16 : ad 16 0 = base + (L.length + 0)) (had17 : ad 17 0 = base + (L.length + 1)) : Mk l yX3_init cX3_init 2 { frames := 1, cells := 2, slots := 32, locals := 12 } D ca base ad 3 i L [(16, 0), (17, 0)] ρ σ [] := by
  refine w_ofK (by decide +kernel) rfl (by decide) ?_
  intro p e s m args below meth c hC hW hS hw0 ls hl hin
  have hx := hC.1
  have hb := hC.2.1
  have hI : Iv 3 i L [] ρ σ ρ σ (rq [0, 1]) (fun _ => 0) (fun _ _ _ => 0) := ⟨fun _ _ _ => ⟨rfl, rfl⟩, h1, h2, (fun _ h => by cases h), hB, (fun _ h => by cases h)⟩
  have hW : Wz D ca base ad ρ (L ++ []) σ s.heap := by rw [List.append_nil]; exact hW
  refine lv_aload_n hx hb dX3_init_0 rfl (lv_at hl 0 rfl) ?_
  refine w_objI hC hl q_96 dX3_init_1 (by decide) ?_
  refine lv_aload_n hx hb dX3_init_4 rfl (lv_at hl 0 rfl) ?_
  refine lv_bipush (v := 16) hx hb dX3_init_5 (by decide) ?_
  refine n_newa hC hW hI hS (kr := 16) (ir := 0) had16 (ty := .int) rfl q_90 (t := 0) rfl (fun _ => rfl) rfl (fun cA => by rw [vp_cell_i]; rfl) (by decide) (n2 := 16) (by decide) (by decide) rfl rfl (by decide) (by decide) dX3_init_7 (c2 := 1) (s2 := 16) (N2 := [(16, 0)]) rfl rfl rfl (fun ρc σc H hW hI hS => ?_)
  refine n_putF hC hW hI hS rfl kf3 0 (by decide) q_97 rfl hin rfl (tyX3_ok 0 (by decide)) rfl rfl (by show 0 < 2; decide) (rq_step (by decide)) rfl dX3_init_9 (fun ρc H locs hW hI hS => ?_)
  refine lv_aload_n hx hb dX3_init_12 rfl (lv_at hl 0 rfl) ?_
  refine lv_bipush (v := 16) hx hb dX3_init_13 (by decide) ?_
  refine n_newa hC hW hI hS (kr := 17) (ir := 0) had17 (ty := .int) rfl q_90 (t := 0) rfl (fun _ => rfl) rfl (fun cA => by rw [vp_cell_i]; rfl) (by decide) (n2 := 16) (by decide) (by decide) rfl rfl (by decide) (by decide) dX3_init_15 (c2 := 2) (s2 := 32) (N2 := [(16, 0), (17, 0)]) rfl rfl rfl (fun ρc σc H hW hI hS => ?_)
  refine n_putF hC hW hI hS rfl kf3 1 (by decide) q_98 rfl hin rfl (tyX3_ok 1 (by decide)) rfl rfl (by show 1 < 2; decide) (rq_step (by decide)) rfl dX3_init_17 (fun ρc H locs hW hI hS => ?_)
  refine lv_iconst (v := 0) hx hb dX3_init_20 (by decide) ?_
  refine lv_istore_n (lv' := [(1, .int (nI 0)), (0, .ref (ad 3 i))]) hx hb dX3_init_21 rfl hl (by decide) rfl (fun ls hl => ?_)
  obtain ⟨f9, hf9⟩ : ∃ f9, f9 = sI 3 i := ⟨_, rfl⟩
  have hI : Iv 3 i L [(16, 0), (17, 0)] ρ σ ρc σc (rq []) (sI 3 i) (gLp 17 0 0) := by
    have e : gLp 17 0 0 = fun _ _ _ => 0 := by funext a b c; simp [gLp]
    obtain ⟨h1, h2, h3, h4⟩ := hI
    rw [e]
    exact ⟨h1, h2, h3.trans (by funext j; first | (simp [upd, sI]; done) | (simp only [upd, sI]; (repeat' split) <;> first | rfl | omega)), h4⟩
  clear hf9 f9
  have loop : ∀ (n j : Nat), j + n = 16 → ∀ (σc : Sg) (H : Heap) (locs : List Loc) (ls : Array Slot), Wz D ca base ad ρc (L ++ [(16, 0), (17, 0)]) σc H → Iv 3 i L [(16, 0), (17, 0)] ρ σ ρc σc (rq []) (sI 3 i) (gLp 17 0 j) → va_S (Ab base) s.heap H locs → lv_has ls 2 [(1, .int (nI j)), (0, .ref (ad 3 i))] → W p l e { frames := 1, cells := 2, slots := 32, locals := 12 } s m args below meth c H locs 2 32 (MQ below (Rk D ca base ad 3 i L [(16, 0), (17, 0)] ρ σ) args s 2 32 (Ab base)) (F0 m 22 ls []) := by
    intro n
    induction n with
    | zero =>
      intro j hj σc H locs ls hW hI hS hl
      have h9 := hI.2.2.2.1
      have hre := (h9 (17, 0) (by simp)).2
      have hB9 : (17, 0) ∈ L ++ [(16, 0), (17, 0)] := List.mem_append_right _ (by simp)
      refine lv_iload_n hx hb dX3_init_22 rfl (lv_at hl 0 rfl) ?_
      refine lv_aload_n hx hb dX3_init_23 rfl (lv_at hl 1 rfl) ?_
      refine w_get hC hW.1 (List.mem_append_left _ hB) (by rw [hI.2.1, hI.2.2.1]; rfl) kf3 1 (by decide) q_98 (v := .ref (ad 17 0)) rfl dX3_init_24 ?_
      refine w_alen hC hW.1 hB9 0 (ty := .int) rfl (x := (16, .inl (σc 17 0))) (by rw [hre]; rfl) (v := nI 16) rfl dX3_init_27 ?_
      refine lv_icmp_ge (tgt := 44) hx hb dX3_init_28 (by decide) (fun c_1 => ?_) (fun c_1 => ?_)
      · exact w_vretK hC (hI.nw hW rq_nil rfl (fun x hx => by
          rw [show j = 16 by omega]
          simp only [List.mem_cons, List.not_mem_nil, or_false] at hx
          rcases hx with rfl | rfl <;> (funext q; simp [gLp, sI]))) hS (by decide) (by decide) dX3_init_44
      · exact absurd (by rw [show j = 16 by omega]; decide) c_1
    | succ n ih =>
      intro j hj σc H locs ls hW hI hS hl
      have h9 := hI.2.2.2.1
      have hre := (h9 (17, 0) (by simp)).2
      have hB9 : (17, 0) ∈ L ++ [(16, 0), (17, 0)] := List.mem_append_right _ (by simp)
      refine lv_iload_n hx hb dX3_init_22 rfl (lv_at hl 0 rfl) ?_
      refine lv_aload_n hx hb dX3_init_23 rfl (lv_at hl 1 rfl) ?_
      refine w_get hC hW.1 (List.mem_append_left _ hB) (by rw [hI.2.1, hI.2.2.1]; rfl) kf3 1 (by decide) q_98 (v := .ref (ad 17 0)) rfl dX3_init_24 ?_
      refine w_alen hC hW.1 hB9 0 (ty := .int) rfl (x := (16, .inl (σc 17 0))) (by rw [hre]; rfl) (v := nI 16) rfl dX3_init_27 ?_
      refine lv_icmp_ge (tgt := 44) hx hb dX3_init_28 (by decide) (fun c_1 => ?_) (fun c_1 => ?_)
      · exact absurd c_1 (nI_ge (show j < 16 by omega) (by decide))
      · have hjn : j < 16 := by omega
        refine lv_aload_n hx hb dX3_init_31 rfl (lv_at hl 1 rfl) ?_
        refine w_get hC hW.1 (List.mem_append_left _ hB) (by rw [hI.2.1, hI.2.2.1]; rfl) kf3 1 (by decide) q_98 (v := .ref (ad 17 0)) rfl dX3_init_32 ?_
        refine lv_iload_n hx hb dX3_init_35 rfl (lv_at hl 0 rfl) ?_
        refine lv_iconst (v := -1) hx hb dX3_init_36 (by decide) ?_
        refine n_iast hC hW hI hS (kr := 17) (ir := 0) (n := 16) (by simp) (fun f => rfl) (vp_in_nI hjn (by omega)) dX3_init_37 (fun σc H locs hW hI hS => ?_)
        rw [nI_clamp (show j < 2 ^ 31 by omega), gLp_step] at hI
        refine lv_iinc (v := nI (j + 1)) (lv' := [(1, .int (nI (j + 1))), (0, .ref (ad 3 i))]) hx hb dX3_init_38 hl (k := 0) rfl (nI_add j 1) (by decide) rfl (fun ls hl => ?_)
        refine lv_goto (tgt := 22) hx hb dX3_init_41 (by decide) ?_
        exact ih (j + 1) (by omega) σc H locs ls hW hI hS hl
  exact loop 16 0 rfl σc H locs ls hW hI hS hl
set_option maxHeartbeats 4000000 in
set_option maxRecDepth 100000 in
theorem c_X5_init {l : Launch} {D : va_G} {ca : Nat → ClassId} {base : Nat} {ad : Adr} {i : Nat} {L : List (Nat × Nat)} {ρ : Rh} {σ : Sg} (h1 : ρ 5 i = rb 5) (h2 : σ 5 i = fun _ => 0) (hB : (5, i) ∈ L) (had20 : ad 20 i = base + (L.length + 0)) : Mk l yX5_init cX5_init 2 { frames := 1, cells := 1, slots := 12, locals := 12 } D ca base ad 5 i L [(20, i)] ρ σ [] := by
  refine w_ofK (by decide +kernel) rfl (by decide) ?_
  intro p e s m args below meth c hC hW hS hw0 ls hl hin
  have hx := hC.1
  have hb := hC.2.1
  have hI : Iv 5 i L [] ρ σ ρ σ (rq [9]) (fun _ => 0) (fun _ _ _ => 0) := ⟨fun _ _ _ => ⟨rfl, rfl⟩, h1, h2, (fun _ h => by cases h), hB, (fun _ h => by cases h)⟩
  have hW : Wz D ca base ad ρ (L ++ []) σ s.heap := by rw [List.append_nil]; exact hW
  refine lv_aload_n hx hb dX5_init_0 rfl (lv_at hl 0 rfl) ?_
  refine w_objI hC hl q_134 dX5_init_1 (by decide) ?_
  refine lv_aload_n hx hb dX5_init_4 rfl (lv_at hl 0 rfl) ?_
  refine lv_bipush (v := 7) hx hb dX5_init_5 (by decide) ?_
  refine n_putI hC hW hI hS (C := RX5) rfl kf5 6 (by decide) q_147 rfl (tyX5_ok 6 (by decide)) rfl rfl (by show 6 < 10; decide) rfl rfl dX5_init_7 (fun σc H locs hW hI hS => ?_)
  refine lv_aload_n hx hb dX5_init_10 rfl (lv_at hl 0 rfl) ?_
  refine lv_bipush (v := 12) hx hb dX5_init_11 (by decide) ?_
  refine n_newa hC hW hI hS (kr := 20) (ir := i) had20 (ty := .int) rfl q_90 (t := 0) rfl (fun _ => rfl) rfl (fun cA => by rw [vp_cell_i]; rfl) (by decide) (n2 := 12) (by decide) (by decide) rfl rfl (by decide) (by decide) dX5_init_13 (c2 := 1) (s2 := 12) (N2 := [(20, i)]) rfl rfl rfl (fun ρc σc H hW hI hS => ?_)
  refine n_putF hC hW hI hS rfl kf5 9 (by decide) q_152 rfl hin rfl (tyX5_ok 9 (by decide)) rfl rfl (by show 9 < 10; decide) (rq_step (by decide)) rfl dX5_init_15 (fun ρc H locs hW hI hS => ?_)
  refine lv_iconst (v := 0) hx hb dX5_init_18 (by decide) ?_
  refine lv_istore_n (lv' := [(1, .int (nI 0)), (0, .ref (ad 5 i))]) hx hb dX5_init_19 rfl hl (by decide) rfl (fun ls hl => ?_)
  obtain ⟨f9, hf9⟩ : ∃ f9, f9 = sI 5 i := ⟨_, rfl⟩
  have hI : Iv 5 i L [(20, i)] ρ σ ρc σc (rq []) (sI 5 i) (gLp 20 i 0) := by
    have e : gLp 20 i 0 = fun _ _ _ => 0 := by funext a b c; simp [gLp]
    obtain ⟨h1, h2, h3, h4⟩ := hI
    rw [e]
    exact ⟨h1, h2, h3.trans (by funext j; first | (simp [upd, sI]; done) | (simp only [upd, sI]; (repeat' split) <;> first | rfl | omega)), h4⟩
  clear hf9 f9
  have loop : ∀ (n j : Nat), j + n = 12 → ∀ (σc : Sg) (H : Heap) (locs : List Loc) (ls : Array Slot), Wz D ca base ad ρc (L ++ [(20, i)]) σc H → Iv 5 i L [(20, i)] ρ σ ρc σc (rq []) (sI 5 i) (gLp 20 i j) → va_S (Ab base) s.heap H locs → lv_has ls 2 [(1, .int (nI j)), (0, .ref (ad 5 i))] → W p l e { frames := 1, cells := 1, slots := 12, locals := 12 } s m args below meth c H locs 1 12 (MQ below (Rk D ca base ad 5 i L [(20, i)] ρ σ) args s 1 12 (Ab base)) (F0 m 20 ls []) := by
    intro n
    induction n with
    | zero =>
      intro j hj σc H locs ls hW hI hS hl
      have h9 := hI.2.2.2.1
      have hre := (h9 (20, i) (by simp)).2
      have hB9 : (20, i) ∈ L ++ [(20, i)] := List.mem_append_right _ (by simp)
      refine lv_iload_n hx hb dX5_init_20 rfl (lv_at hl 0 rfl) ?_
      refine lv_aload_n hx hb dX5_init_21 rfl (lv_at hl 1 rfl) ?_
      refine w_get hC hW.1 (List.mem_append_left _ hB) (by rw [hI.2.1, hI.2.2.1]; rfl) kf5 9 (by decide) q_152 (v := .ref (ad 20 i)) rfl dX5_init_22 ?_
      refine w_alen hC hW.1 hB9 0 (ty := .int) rfl (x := (12, .inl (σc 20 i))) (by rw [hre]; rfl) (v := nI 12) rfl dX5_init_25 ?_
      refine lv_icmp_ge (tgt := 42) hx hb dX5_init_26 (by decide) (fun c_1 => ?_) (fun c_1 => ?_)
      · exact w_vretK hC (hI.nw hW rq_nil rfl (fun x hx => by
          rw [show j = 12 by omega]
          simp only [List.mem_cons, List.not_mem_nil, or_false] at hx
          rcases hx with rfl <;> (funext q; simp [gLp, sI]))) hS (by decide) (by decide) dX5_init_42
      · exact absurd (by rw [show j = 12 by omega]; decide) c_1
    | succ n ih =>
      intro j hj σc H locs ls hW hI hS hl
      have h9 := hI.2.2.2.1
      have hre := (h9 (20, i) (by simp)).2
      have hB9 : (20, i) ∈ L ++ [(20, i)] := List.mem_append_right _ (by simp)
      refine lv_iload_n hx hb dX5_init_20 rfl (lv_at hl 0 rfl) ?_
      refine lv_aload_n hx hb dX5_init_21 rfl (lv_at hl 1 rfl) ?_
      refine w_get hC hW.1 (List.mem_append_left _ hB) (by rw [hI.2.1, hI.2.2.1]; rfl) kf5 9 (by decide) q_152 (v := .ref (ad 20 i)) rfl dX5_init_22 ?_
      refine w_alen hC hW.1 hB9 0 (ty := .int) rfl (x := (12, .inl (σc 20 i))) (by rw [hre]; rfl) (v := nI 12) rfl dX5_init_25 ?_
      refine lv_icmp_ge (tgt := 42) hx hb dX5_init_26 (by decide) (fun c_1 => ?_) (fun c_1 => ?_)
      · exact absurd c_1 (nI_ge (show j < 12 by omega) (by decide))
      · have hjn : j < 12 := by omega
        refine lv_aload_n hx hb dX5_init_29 rfl (lv_at hl 1 rfl) ?_
        refine w_get hC hW.1 (List.mem_append_left _ hB) (by rw [hI.2.1, hI.2.2.1]; rfl) kf5 9 (by decide) q_152 (v := .ref (ad 20 i)) rfl dX5_init_30 ?_
        refine lv_iload_n hx hb dX5_init_33 rfl (lv_at hl 0 rfl) ?_
        refine lv_iconst (v := -1) hx hb dX5_init_34 (by decide) ?_
        refine n_iast hC hW hI hS (kr := 20) (ir := i) (n := 12) (by simp) (fun f => rfl) (vp_in_nI hjn (by omega)) dX5_init_35 (fun σc H locs hW hI hS => ?_)
        rw [nI_clamp (show j < 2 ^ 31 by omega), gLp_step] at hI
        refine lv_iinc (v := nI (j + 1)) (lv' := [(1, .int (nI (j + 1))), (0, .ref (ad 5 i))]) hx hb dX5_init_36 hl (k := 0) rfl (nI_add j 1) (by decide) rfl (fun ls hl => ?_)
        refine lv_goto (tgt := 20) hx hb dX5_init_39 (by decide) ?_
        exact ih (j + 1) (by omega) σc H locs ls hW hI hS hl
  exact loop 12 0 rfl σc H locs ls hW hI hS hl
