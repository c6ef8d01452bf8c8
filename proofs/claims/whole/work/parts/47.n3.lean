set_option maxHeartbeats 4000000 in
set_option maxRecDepth 100000 in
theorem c_X0_init {l : Launch} {D : va_G} {ca : Nat → ClassId} {base : Nat} {ad : Adr} {i : Nat} {L : List (Nat × Nat)} {ρ : Rh} {σ : Sg} (h1 : ρ 0 i = rb 0) (h2 : σ 0 i = fun _ => 0) (hB : (0, i) ∈ L) (had10 : ad 10 i = base + (L.length + 0)) : Mk l yX0_init cX0_init 1 { frames := 1, cells := 1, slots := 3, locals := 12 } D ca base ad 0 i L [(10, i)] ρ σ [] := by
  refine w_ofK (by decide +kernel) rfl (by decide) ?_
  intro p e s m args below meth c hC hW hS hw0 ls hl hin
  have hx := hC.1
  have hb := hC.2.1
  have hI : Iv 0 i L [] ρ σ ρ σ (rq [8]) (fun _ => 0) (fun _ _ _ => 0) := ⟨fun _ _ _ => ⟨rfl, rfl⟩, h1, h2, (fun _ h => by cases h), hB, (fun _ h => by cases h)⟩
  have hW : Wz D ca base ad ρ (L ++ []) σ s.heap := by rw [List.append_nil]; exact hW
  refine lv_aload_n hx hb dX0_init_0 rfl (lv_at hl 0 rfl) ?_
  refine w_objI hC hl q_180 dX0_init_1 (by decide) ?_
  refine lv_aload_n hx hb dX0_init_4 rfl (lv_at hl 0 rfl) ?_
  refine lv_bipush (v := 7) hx hb dX0_init_5 (by decide) ?_
  refine n_putI hC hW hI hS (C := RX0) rfl kf0 7 (by decide) q_198 rfl (tyX0_ok 7 (by decide)) rfl rfl (by show 7 < 9; decide) rfl rfl dX0_init_7 (fun σc H locs hW hI hS => ?_)
  refine lv_aload_n hx hb dX0_init_10 rfl (lv_at hl 0 rfl) ?_
  refine lv_iconst (v := 3) hx hb dX0_init_11 (by decide) ?_
  refine n_newa hC hW hI hS (kr := 10) (ir := i) had10 (ty := .int) rfl q_90 (t := 0) rfl (fun _ => rfl) rfl (fun cA => by rw [vp_cell_i]; rfl) (by decide) (n2 := 3) (by decide) (by decide) rfl rfl (by decide) (by decide) dX0_init_12 (c2 := 1) (s2 := 3) (N2 := [(10, i)]) rfl rfl rfl (fun ρc σc H hW hI hS => ?_)
  refine n_putF hC hW hI hS rfl kf0 8 (by decide) q_200 rfl hin rfl (tyX0_ok 8 (by decide)) rfl rfl (by show 8 < 9; decide) (rq_step (by decide)) rfl dX0_init_14 (fun ρc H locs hW hI hS => ?_)
  exact w_vretK hC (hI.nw hW rq_nil (by funext j; simp [upd, sI] <;> omega) (fun x hx => by
    simp only [List.mem_cons, List.not_mem_nil, or_false] at hx
    rcases hx with rfl <;> rfl)) hS (by decide) (by decide) dX0_init_17
set_option maxHeartbeats 4000000 in
set_option maxRecDepth 100000 in
theorem c_X1_init {l : Launch} {D : va_G} {ca : Nat → ClassId} {base : Nat} {ad : Adr} {i : Nat} {L : List (Nat × Nat)} {ρ : Rh} {σ : Sg} (h1 : ρ 1 i = rb 1) (h2 : σ 1 i = fun _ => 0) (hB : (1, i) ∈ L) (had11 : ad 11 0 = base + (L.length + 0)) : Mk l yX1_init cX1_init 1 { frames := 1, cells := 1, slots := 120, locals := 12 } D ca base ad 1 i L [(11, 0)] ρ σ [] := by
  refine w_ofK (by decide +kernel) rfl (by decide) ?_
  intro p e s m args below meth c hC hW hS hw0 ls hl hin
  have hx := hC.1
  have hb := hC.2.1
  have hI : Iv 1 i L [] ρ σ ρ σ (rq [0]) (fun _ => 0) (fun _ _ _ => 0) := ⟨fun _ _ _ => ⟨rfl, rfl⟩, h1, h2, (fun _ h => by cases h), hB, (fun _ h => by cases h)⟩
  have hW : Wz D ca base ad ρ (L ++ []) σ s.heap := by rw [List.append_nil]; exact hW
  refine lv_aload_n hx hb dX1_init_0 rfl (lv_at hl 0 rfl) ?_
  refine w_objI hC hl q_109 dX1_init_1 (by decide) ?_
  refine lv_aload_n hx hb dX1_init_4 rfl (lv_at hl 0 rfl) ?_
  refine lv_bipush (v := 120) hx hb dX1_init_5 (by decide) ?_
  refine n_newa hC hW hI hS (kr := 11) (ir := 0) had11 (ty := .int) rfl q_90 (t := 0) rfl (fun _ => rfl) rfl (fun cA => by rw [vp_cell_i]; rfl) (by decide) (n2 := 120) (by decide) (by decide) rfl rfl (by decide) (by decide) dX1_init_7 (c2 := 1) (s2 := 120) (N2 := [(11, 0)]) rfl rfl rfl (fun ρc σc H hW hI hS => ?_)
  refine n_putF hC hW hI hS rfl kf1 0 (by decide) q_110 rfl hin rfl (tyX1_ok 0 (by decide)) rfl rfl (by show 0 < 5; decide) (rq_step (by decide)) rfl dX1_init_9 (fun ρc H locs hW hI hS => ?_)
  refine lv_aload_n hx hb dX1_init_12 rfl (lv_at hl 0 rfl) ?_
  refine lv_bipush (v := 17) hx hb dX1_init_13 (by decide) ?_
  refine n_putI hC hW hI hS (C := RX1) rfl kf1 4 (by decide) q_116 rfl (tyX1_ok 4 (by decide)) rfl rfl (by show 4 < 5; decide) rfl rfl dX1_init_15 (fun σc H locs hW hI hS => ?_)
  exact w_vretK hC (hI.nw hW rq_nil (by funext j; simp [upd, sI] <;> omega) (fun x hx => by
    simp only [List.mem_cons, List.not_mem_nil, or_false] at hx
    rcases hx with rfl <;> rfl)) hS (by decide) (by decide) dX1_init_18
set_option maxHeartbeats 4000000 in
set_option maxRecDepth 100000 in
theorem c_X2_init {l : Launch} {D : va_G} {ca : Nat → ClassId} {base : Nat} {ad : Adr} {i : Nat} {L : List (Nat × Nat)} {ρ : Rh} {σ : Sg} (h1 : ρ 2 i = rb 2) (h2 : σ 2 i = fun _ => 0) (hB : (2, i) ∈ L) (had12 : ad 12 0 = base + (L.length + 0)) (had13 : ad 13 0 = base + (L.length + 1)) (had14 : ad 14 0 = base + (L.length + 2)) (had15 : ad 15 0 = base + (L.length + 3)) : Mk l yX2_init cX2_init 1 { frames := 1, cells := 4, slots := 24, locals := 12 } D ca base ad 2 i L [(12, 0), (13, 0), (14, 0), (15, 0)] ρ σ [] := by
  refine w_ofK (by decide +kernel) rfl (by decide) ?_
  intro p e s m args below meth c hC hW hS hw0 ls hl hin
  have hx := hC.1
  have hb := hC.2.1
  have hI : Iv 2 i L [] ρ σ ρ σ (rq [0, 1, 2, 3]) (fun _ => 0) (fun _ _ _ => 0) := ⟨fun _ _ _ => ⟨rfl, rfl⟩, h1, h2, (fun _ h => by cases h), hB, (fun _ h => by cases h)⟩
  have hW : Wz D ca base ad ρ (L ++ []) σ s.heap := by rw [List.append_nil]; exact hW
  refine lv_aload_n hx hb dX2_init_0 rfl (lv_at hl 0 rfl) ?_
  refine w_objI hC hl q_76 dX2_init_1 (by decide) ?_
  refine lv_aload_n hx hb dX2_init_4 rfl (lv_at hl 0 rfl) ?_
  refine lv_bipush (v := 6) hx hb dX2_init_5 (by decide) ?_
  refine n_newa hC hW hI hS (kr := 12) (ir := 0) had12 (ty := .int) rfl q_90 (t := 0) rfl (fun _ => rfl) rfl (fun cA => by rw [vp_cell_i]; rfl) (by decide) (n2 := 6) (by decide) (by decide) rfl rfl (by decide) (by decide) dX2_init_7 (c2 := 1) (s2 := 6) (N2 := [(12, 0)]) rfl rfl rfl (fun ρc σc H hW hI hS => ?_)
  refine n_putF hC hW hI hS rfl kf2 0 (by decide) q_77 rfl hin rfl (tyX2_ok 0 (by decide)) rfl rfl (by show 0 < 4; decide) (rq_step (by decide)) rfl dX2_init_9 (fun ρc H locs hW hI hS => ?_)
  refine lv_aload_n hx hb dX2_init_12 rfl (lv_at hl 0 rfl) ?_
  refine lv_bipush (v := 6) hx hb dX2_init_13 (by decide) ?_
  refine n_newa hC hW hI hS (kr := 13) (ir := 0) had13 (ty := .int) rfl q_90 (t := 0) rfl (fun _ => rfl) rfl (fun cA => by rw [vp_cell_i]; rfl) (by decide) (n2 := 6) (by decide) (by decide) rfl rfl (by decide) (by decide) dX2_init_15 (c2 := 2) (s2 := 12) (N2 := [(12, 0), (13, 0)]) rfl rfl rfl (fun ρc σc H hW hI hS => ?_)
  refine n_putF hC hW hI hS rfl kf2 1 (by decide) q_78 rfl hin rfl (tyX2_ok 1 (by decide)) rfl rfl (by show 1 < 4; decide) (rq_step (by decide)) rfl dX2_init_17 (fun ρc H locs hW hI hS => ?_)
  refine lv_aload_n hx hb dX2_init_20 rfl (lv_at hl 0 rfl) ?_
  refine lv_bipush (v := 6) hx hb dX2_init_21 (by decide) ?_
  refine n_newa hC hW hI hS (kr := 14) (ir := 0) had14 (ty := .int) rfl q_90 (t := 0) rfl (fun _ => rfl) rfl (fun cA => by rw [vp_cell_i]; rfl) (by decide) (n2 := 6) (by decide) (by decide) rfl rfl (by decide) (by decide) dX2_init_23 (c2 := 3) (s2 := 18) (N2 := [(12, 0), (13, 0), (14, 0)]) rfl rfl rfl (fun ρc σc H hW hI hS => ?_)
  refine n_putF hC hW hI hS rfl kf2 2 (by decide) q_79 rfl hin rfl (tyX2_ok 2 (by decide)) rfl rfl (by show 2 < 4; decide) (rq_step (by decide)) rfl dX2_init_25 (fun ρc H locs hW hI hS => ?_)
  refine lv_aload_n hx hb dX2_init_28 rfl (lv_at hl 0 rfl) ?_
  refine lv_bipush (v := 6) hx hb dX2_init_29 (by decide) ?_
  refine n_newa hC hW hI hS (kr := 15) (ir := 0) had15 (ty := .int) rfl q_90 (t := 0) rfl (fun _ => rfl) rfl (fun cA => by rw [vp_cell_i]; rfl) (by decide) (n2 := 6) (by decide) (by decide) rfl rfl (by decide) (by decide) dX2_init_31 (c2 := 4) (s2 := 24) (N2 := [(12, 0), (13, 0), (14, 0), (15, 0)]) rfl rfl rfl (fun ρc σc H hW hI hS => ?_)
  refine n_putF hC hW hI hS rfl kf2 3 (by decide) q_80 rfl hin rfl (tyX2_ok 3 (by decide)) rfl rfl (by show 3 < 4; decide) (rq_step (by decide)) rfl dX2_init_33 (fun ρc H locs hW hI hS => ?_)
  exact w_vretK hC (hI.nw hW rq_nil (by funext j; simp [upd, sI] <;> omega) (fun x hx => by
    simp only [List.mem_cons, List.not_mem_nil, or_false] at hx
    rcases hx with rfl | rfl | rfl | rfl <;> rfl)) hS (by decide) (by decide) dX2_init_36
set_option maxHeartbeats 4000000 in
set_option maxRecDepth 100000 in
theorem c_X4_init {l : Launch} {D : va_G} {ca : Nat → ClassId} {base : Nat} {ad : Adr} {i : Nat} {L : List (Nat × Nat)} {ρ : Rh} {σ : Sg} (h1 : ρ 4 i = rb 4) (h2 : σ 4 i = fun _ => 0) (hB : (4, i) ∈ L) (had18 : ad 18 0 = base + (L.length + 0)) (had19 : ad 19 0 = base + (L.length + 1)) : Mk l yX4_init cX4_init 1 { frames := 1, cells := 2, slots := 384, locals := 12 } D ca base ad 4 i L [(18, 0), (19, 0)] ρ σ [] := by
  refine w_ofK (by decide +kernel) rfl (by decide) ?_
  intro p e s m args below meth c hC hW hS hw0 ls hl hin
  have hx := hC.1
  have hb := hC.2.1
  have hI : Iv 4 i L [] ρ σ ρ σ (rq [0, 1]) (fun _ => 0) (fun _ _ _ => 0) := ⟨fun _ _ _ => ⟨rfl, rfl⟩, h1, h2, (fun _ h => by cases h), hB, (fun _ h => by cases h)⟩
  have hW : Wz D ca base ad ρ (L ++ []) σ s.heap := by rw [List.append_nil]; exact hW
  refine lv_aload_n hx hb dX4_init_0 rfl (lv_at hl 0 rfl) ?_
  refine w_objI hC hl q_260 dX4_init_1 (by decide) ?_
  refine lv_aload_n hx hb dX4_init_4 rfl (lv_at hl 0 rfl) ?_
  refine lv_sipush (v := 192) hx hb dX4_init_5 (by decide) ?_
  refine n_newa hC hW hI hS (kr := 18) (ir := 0) had18 (ty := .int) rfl q_90 (t := 0) rfl (fun _ => rfl) rfl (fun cA => by rw [vp_cell_i]; rfl) (by decide) (n2 := 192) (by decide) (by decide) rfl rfl (by decide) (by decide) dX4_init_8 (c2 := 1) (s2 := 192) (N2 := [(18, 0)]) rfl rfl rfl (fun ρc σc H hW hI hS => ?_)
  refine n_putF hC hW hI hS rfl kf4 0 (by decide) q_261 rfl hin rfl (tyX4_ok 0 (by decide)) rfl rfl (by show 0 < 3; decide) (rq_step (by decide)) rfl dX4_init_10 (fun ρc H locs hW hI hS => ?_)
  refine lv_aload_n hx hb dX4_init_13 rfl (lv_at hl 0 rfl) ?_
  refine lv_sipush (v := 192) hx hb dX4_init_14 (by decide) ?_
  refine n_newa hC hW hI hS (kr := 19) (ir := 0) had19 (ty := .int) rfl q_90 (t := 0) rfl (fun _ => rfl) rfl (fun cA => by rw [vp_cell_i]; rfl) (by decide) (n2 := 192) (by decide) (by decide) rfl rfl (by decide) (by decide) dX4_init_17 (c2 := 2) (s2 := 384) (N2 := [(18, 0), (19, 0)]) rfl rfl rfl (fun ρc σc H hW hI hS => ?_)
  refine n_putF hC hW hI hS rfl kf4 1 (by decide) q_262 rfl hin rfl (tyX4_ok 1 (by decide)) rfl rfl (by show 1 < 3; decide) (rq_step (by decide)) rfl dX4_init_19 (fun ρc H locs hW hI hS => ?_)
  exact w_vretK hC (hI.nw hW rq_nil (by funext j; simp [upd, sI] <;> omega) (fun x hx => by
    simp only [List.mem_cons, List.not_mem_nil, or_false] at hx
    rcases hx with rfl | rfl <;> rfl)) hS (by decide) (by decide) dX4_init_22
set_option maxHeartbeats 4000000 in
set_option maxRecDepth 100000 in
theorem c_X6_init {l : Launch} {D : va_G} {ca : Nat → ClassId} {base : Nat} {ad : Adr} {i : Nat} {L : List (Nat × Nat)} {ρ : Rh} {σ : Sg} (h1 : ρ 6 i = rb 6) (h2 : σ 6 i = fun _ => 0) (hB : (6, i) ∈ L)  : Mk l yX6_init cX6_init 1 { frames := 1, cells := 0, slots := 0, locals := 12 } D ca base ad 6 i L [] ρ σ [] := by
  refine w_ofK (by decide +kernel) rfl (by decide) ?_
  intro p e s m args below meth c hC hW hS hw0 ls hl hin
  have hx := hC.1
  have hb := hC.2.1
  have hI : Iv 6 i L [] ρ σ ρ σ (rq []) (fun _ => 0) (fun _ _ _ => 0) := ⟨fun _ _ _ => ⟨rfl, rfl⟩, h1, h2, (fun _ h => by cases h), hB, (fun _ h => by cases h)⟩
  have hW : Wz D ca base ad ρ (L ++ []) σ s.heap := by rw [List.append_nil]; exact hW
  refine lv_aload_n hx hb dX6_init_0 rfl (lv_at hl 0 rfl) ?_
  refine w_objI hC hl q_226 dX6_init_1 (by decide) ?_
  exact w_vretK hC (hI.nw hW rq_nil (by funext j; rfl) (fun x hx => by cases hx)) hS (by decide) (by decide) dX6_init_4
