/-- what the class's constructor needs beside the steady words -/
def W7 : List Cond := [.methodLinkNest RX7 11 yX2_init "AuditgateReeve", .methodLinkNest RX7 25 yX1_init "AuditgateReeve", .methodLinkNest RX7 43 yX0_init "AuditgateReeve", .methodLinkNest RX7 50 yX6_init "AuditgateReeve", .methodLinkNest RX7 64 yX4_init "AuditgateReeve", .arrayOver (.object RX5), .arrayOver (.object RX0), .arrayOver (.object RX6)]
theorem hT_ls {a b c d : Nat} {l : List (Nat × Nat)} (h : ∀ x ∈ l, x.1 < 22) : ∀ x ∈ l, hT a b c d x.1 x.2 = fun _ => true := fun x hx => hT_off a b c d (fun q => by have := h x hx; omega)
theorem hfs_X0 {ad : Adr} {i : Nat} : ∀ j, j < 9 → defaultValue (tyX0 j) = vp_V (wO ad (rb 0) (fun _ => 0) 0 i) j := by
  intro j hj
  have h : j = 0 ∨ j = 1 ∨ j = 2 ∨ j = 3 ∨ j = 4 ∨ j = 5 ∨ j = 6 ∨ j = 7 ∨ j = 8 := by omega
  rcases h with rfl | rfl | rfl | rfl | rfl | rfl | rfl | rfl | rfl <;> rfl
theorem hfs_X1 {ad : Adr} {i : Nat} : ∀ j, j < 5 → defaultValue (tyX1 j) = vp_V (wO ad (rb 1) (fun _ => 0) 1 i) j := by
  intro j hj
  have h : j = 0 ∨ j = 1 ∨ j = 2 ∨ j = 3 ∨ j = 4 := by omega
  rcases h with rfl | rfl | rfl | rfl | rfl <;> rfl
theorem hfs_X2 {ad : Adr} {i : Nat} : ∀ j, j < 4 → defaultValue (tyX2 j) = vp_V (wO ad (rb 2) (fun _ => 0) 2 i) j := by
  intro j hj
  have h : j = 0 ∨ j = 1 ∨ j = 2 ∨ j = 3 := by omega
  rcases h with rfl | rfl | rfl | rfl <;> rfl
theorem hfs_X3 {ad : Adr} {i : Nat} : ∀ j, j < 2 → defaultValue (tyX3 j) = vp_V (wO ad (rb 3) (fun _ => 0) 3 i) j := by
  intro j hj
  have h : j = 0 ∨ j = 1 := by omega
  rcases h with rfl | rfl <;> rfl
theorem hfs_X4 {ad : Adr} {i : Nat} : ∀ j, j < 3 → defaultValue (tyX4 j) = vp_V (wO ad (rb 4) (fun _ => 0) 4 i) j := by
  intro j hj
  have h : j = 0 ∨ j = 1 ∨ j = 2 := by omega
  rcases h with rfl | rfl | rfl <;> rfl
theorem hfs_X5 {ad : Adr} {i : Nat} : ∀ j, j < 10 → defaultValue (tyX5 j) = vp_V (wO ad (rb 5) (fun _ => 0) 5 i) j := by
  intro j hj
  have h : j = 0 ∨ j = 1 ∨ j = 2 ∨ j = 3 ∨ j = 4 ∨ j = 5 ∨ j = 6 ∨ j = 7 ∨ j = 8 ∨ j = 9 := by omega
  rcases h with rfl | rfl | rfl | rfl | rfl | rfl | rfl | rfl | rfl | rfl <;> rfl
theorem hfs_X6 {ad : Adr} {i : Nat} : ∀ j, j < 9 → defaultValue (tyX6 j) = vp_V (wO ad (rb 6) (fun _ => 0) 6 i) j := by
  intro j hj
  have h : j = 0 ∨ j = 1 ∨ j = 2 ∨ j = 3 ∨ j = 4 ∨ j = 5 ∨ j = 6 ∨ j = 7 ∨ j = 8 := by omega
  rcases h with rfl | rfl | rfl | rfl | rfl | rfl | rfl | rfl | rfl <;> rfl
theorem hfs_X8 {ad : Adr} {i : Nat} : ∀ j, j < 48 → defaultValue (tyX8 j) = vp_V (wO ad (rb 8) (fun _ => 0) 8 i) j := by
  intro j hj
  have h : j = 0 ∨ j = 1 ∨ j = 2 ∨ j = 3 ∨ j = 4 ∨ j = 5 ∨ j = 6 ∨ j = 7 ∨ j = 8 ∨ j = 9 ∨ j = 10 ∨ j = 11 ∨ j = 12 ∨ j = 13 ∨ j = 14 ∨ j = 15 ∨ j = 16 ∨ j = 17 ∨ j = 18 ∨ j = 19 ∨ j = 20 ∨ j = 21 ∨ j = 22 ∨ j = 23 ∨ j = 24 ∨ j = 25 ∨ j = 26 ∨ j = 27 ∨ j = 28 ∨ j = 29 ∨ j = 30 ∨ j = 31 ∨ j = 32 ∨ j = 33 ∨ j = 34 ∨ j = 35 ∨ j = 36 ∨ j = 37 ∨ j = 38 ∨ j = 39 ∨ j = 40 ∨ j = 41 ∨ j = 42 ∨ j = 43 ∨ j = 44 ∨ j = 45 ∨ j = 46 ∨ j = 47 := by omega
  rcases h with rfl | rfl | rfl | rfl | rfl | rfl | rfl | rfl | rfl | rfl | rfl | rfl | rfl | rfl | rfl | rfl | rfl | rfl | rfl | rfl | rfl | rfl | rfl | rfl | rfl | rfl | rfl | rfl | rfl | rfl | rfl | rfl | rfl | rfl | rfl | rfl | rfl | rfl | rfl | rfl | rfl | rfl | rfl | rfl | rfl | rfl | rfl | rfl <;> rfl
theorem hfs_X7 {ad : Adr} {i : Nat} : ∀ j, j < 16 → defaultValue (tyX7 j) = vp_V (wO ad (rb 7) (fun _ => 0) 7 i) j := by
  intro j hj
  have h : j = 0 ∨ j = 1 ∨ j = 2 ∨ j = 3 ∨ j = 4 ∨ j = 5 ∨ j = 6 ∨ j = 7 ∨ j = 8 ∨ j = 9 ∨ j = 10 ∨ j = 11 ∨ j = 12 ∨ j = 13 ∨ j = 14 ∨ j = 15 := by omega
  rcases h with rfl | rfl | rfl | rfl | rfl | rfl | rfl | rfl | rfl | rfl | rfl | rfl | rfl | rfl | rfl | rfl <;> rfl
set_option maxHeartbeats 4000000 in
set_option maxRecDepth 100000 in
theorem x7_l5 {p : Program} {l : Launch} {e : Env} {s : State} {m : MethodId} {args : Array Value} {below : List Frame} {meth : Method} {c : Code} {Q : State → Prop} {D : va_G} {ca : Nat → ClassId} {base : Nat} {ad : Adr} {ρ : Rh} {σ : Sg} (hC : Cx p s m args meth c cX7_init 2 RX7 none D ca base) (had : ∀ n x, LA[n]? = some x → ad x.1 x.2 = base + n) (hw : ∀ w ∈ W7, va_Nw w s) {N0 : List (Nat × Nat)} (hN : N0.length = 11) (hm : (22, 0) ∈ N0) (kk : ∀ (ρc : Rh) (σc : Sg) (H : Heap) (locs : List Loc) (ls : Array Slot), Wz D ca base ad ρc ([(7, 0)] ++ (N0 ++ pr2 5 20 0 12)) σc H → Jv 7 0 [(7, 0)] (N0 ++ pr2 5 20 0 12) ρ σ ρc σc (rq [4, 5, 12, 13, 14, 15]) (fun _ => 0) (hT 12 0 0 0) → va_S (Ab base) s.heap H locs → lv_has ls 2 [(1, .int (nI 12)), (0, .ref (ad 7 0))] → W p l e { frames := 2, cells := 78, slots := 1143, locals := 33 } s m args below meth c H locs (11 + 2 * 12) (199 + 22 * 12) Q (F0 m 76 ls [])) : ∀ (n j : Nat), j + n = 12 → ∀ (ρc : Rh) (σc : Sg) (H : Heap) (locs : List Loc) (ls : Array Slot), Wz D ca base ad ρc ([(7, 0)] ++ (N0 ++ pr2 5 20 0 j)) σc H → Jv 7 0 [(7, 0)] (N0 ++ pr2 5 20 0 j) ρ σ ρc σc (rq [4, 5, 12, 13, 14, 15]) (fun _ => 0) (hT j 0 0 0) → va_S (Ab base) s.heap H locs → lv_has ls 2 [(1, .int (nI j)), (0, .ref (ad 7 0))] → W p l e { frames := 2, cells := 78, slots := 1143, locals := 33 } s m args below meth c H locs (11 + 2 * j) (199 + 22 * j) Q (F0 m 48 ls []) := by
  have hx := hC.1
  have hb := hC.2.1
  intro n
  induction n with
  | zero =>
    intro j hj ρc σc H locs ls hW hJ hS hl
    have hB7 : (7, 0) ∈ [(7, 0)] ++ (N0 ++ pr2 5 20 0 j) := by simp
    have hB9 : (22, 0) ∈ [(7, 0)] ++ (N0 ++ pr2 5 20 0 j) := List.mem_append_right _ (List.mem_append_left _ hm)
    refine lv_iload_n hx hb dX7_init_48 rfl (lv_at hl 0 rfl) ?_
    refine lv_aload_n hx hb dX7_init_49 rfl (lv_at hl 1 rfl) ?_
    refine w_get hC hW.1 hB7 (by rw [hJ.2.1, hJ.2.2.1]; rfl) kf7 3 (by decide) q_275 (v := .ref (ad 22 0)) rfl dX7_init_50 ?_
    refine w_alen hC hW.1 hB9 3 (ty := .object RX5) rfl rfl (v := nI 12) rfl dX7_init_53 ?_
    refine lv_icmp_ge (tgt := 76) hx hb dX7_init_54 (by decide) (fun c_1 => ?_) (fun c_1 => ?_)
    · obtain rfl : j = 12 := by omega
      exact kk ρc σc H locs ls hW hJ hS hl
    · exact absurd (by rw [show j = 12 by omega]; decide) c_1
  | succ n ih =>
    intro j hj ρc σc H locs ls hW hJ hS hl
    have hB7 : (7, 0) ∈ [(7, 0)] ++ (N0 ++ pr2 5 20 0 j) := by simp
    have hB9 : (22, 0) ∈ [(7, 0)] ++ (N0 ++ pr2 5 20 0 j) := List.mem_append_right _ (List.mem_append_left _ hm)
    refine lv_iload_n hx hb dX7_init_48 rfl (lv_at hl 0 rfl) ?_
    refine lv_aload_n hx hb dX7_init_49 rfl (lv_at hl 1 rfl) ?_
    refine w_get hC hW.1 hB7 (by rw [hJ.2.1, hJ.2.2.1]; rfl) kf7 3 (by decide) q_275 (v := .ref (ad 22 0)) rfl dX7_init_50 ?_
    refine w_alen hC hW.1 hB9 3 (ty := .object RX5) rfl rfl (v := nI 12) rfl dX7_init_53 ?_
    refine lv_icmp_ge (tgt := 76) hx hb dX7_init_54 (by decide) (fun c_1 => ?_) (fun c_1 => ?_)
    · exact absurd c_1 (nI_ge (show j < 12 by omega) (by decide))
    · have hjn : j < 12 := by omega
      refine lv_aload_n hx hb dX7_init_57 rfl (lv_at hl 1 rfl) ?_
      refine w_get hC hW.1 hB7 (by rw [hJ.2.1, hJ.2.2.1]; rfl) kf7 3 (by decide) q_275 (v := .ref (ad 22 0)) rfl dX7_init_58 ?_
      refine lv_iload_n hx hb dX7_init_61 rfl (lv_at hl 0 rfl) ?_
      have had1 : ad 5 (j) = base + ([(7, 0)].length + (N0 ++ pr2 5 20 0 j).length) := (had _ _ (LA_5 j hjn).1).trans (by simp only [List.length_append, List.length_cons, List.length_nil, hN, pr2_len]; omega)
      have had2 : ad 20 (j) = base + (([(7, 0)] ++ ((N0 ++ pr2 5 20 0 j) ++ [(5, j)])).length + 0) := (had _ _ (LA_5 j hjn).2).trans (by simp only [List.length_append, List.length_cons, List.length_nil, hN, pr2_len]; omega)
      refine j_make hC hW hJ hS hl (k1 := 5) (i1 := j) (had1) kf5 q_128 q_130 q_50 (fs := wO ad (rb 5) (fun _ => 0) 5 (j)) rfl hfs_X5 ci_X5 (Or.inl q_131) (fun ρ2 σ2 h1 h2 => c_X5_init h1 h2 (by simp) (had2)) (hT_ls (by simp)) (by simp) ⟨by decide, by decide⟩ (by show (1 + (1 + (0))) + 1 ≤ 8; decide) ⟨by show _ + (1 + 1) ≤ 78; omega, by show _ + (10 + 12) ≤ 1143; omega⟩ dX7_init_62 dX7_init_65 dX7_init_66 (c2 := 11 + 2 * (j + 1)) (s2 := 199 + 22 * (j + 1)) (by show _ + (1 + 1) = _; omega) (by show _ + (10 + 12) = _; omega) (N2 := N0 ++ pr2 5 20 0 (j + 1)) (by simp [pr2_s]) (fun ρc σc H locs hW hJ hS => ?_)
      have hB9 : (22, 0) ∈ N0 ++ pr2 5 20 0 (j + 1) := List.mem_append_left _ hm
      refine w_aastZ hC hW hS (kr := 22) (ir := 0) (List.mem_append_right _ hB9) (n := 12) (t := 3) (k' := 5) (i := j) (g := fun q => q) (fun r => rfl) (C := RX5) rfl (List.mem_append_right _ (by simp [pr2_s])) (by decide) kf5.1 (vp_in_nI hjn (by omega)) (by show (nI j).toNatClampNeg = _; rw [nI_clamp (by omega)]) dX7_init_69 (fun H locs hW hS => ?_)
      rw [nI_clamp (show j < 2 ^ 31 by omega)] at hW
      have hJ := hJ.row (j := j) hB9 (hT_22 j 0 0 0)
      refine lv_iinc (v := nI (j + 1)) (lv' := [(1, .int (nI (j + 1))), (0, .ref (ad 7 0))]) hx hb dX7_init_70 hl (k := 0) rfl (nI_add j 1) (by decide) rfl (fun ls hl => ?_)
      refine lv_goto (tgt := 48) hx hb dX7_init_73 (by decide) ?_
      exact ih (j + 1) (by omega) _ σc H locs ls hW hJ hS hl
set_option maxHeartbeats 4000000 in
set_option maxRecDepth 100000 in
theorem x7_l0 {p : Program} {l : Launch} {e : Env} {s : State} {m : MethodId} {args : Array Value} {below : List Frame} {meth : Method} {c : Code} {Q : State → Prop} {D : va_G} {ca : Nat → ClassId} {base : Nat} {ad : Adr} {ρ : Rh} {σ : Sg} (hC : Cx p s m args meth c cX7_init 2 RX7 none D ca base) (had : ∀ n x, LA[n]? = some x → ad x.1 x.2 = base + n) (hw : ∀ w ∈ W7, va_Nw w s) {N0 : List (Nat × Nat)} (hN : N0.length = 36) (hm : (23, 0) ∈ N0) (kk : ∀ (ρc : Rh) (σc : Sg) (H : Heap) (locs : List Loc) (ls : Array Slot), Wz D ca base ad ρc ([(7, 0)] ++ (N0 ++ pr2 0 10 0 8)) σc H → Jv 7 0 [(7, 0)] (N0 ++ pr2 0 10 0 8) ρ σ ρc σc (rq [5, 12, 13, 14, 15]) (fun _ => 0) (hT 12 8 0 0) → va_S (Ab base) s.heap H locs → lv_has ls 2 [(1, .int (nI 8)), (0, .ref (ad 7 0))] → W p l e { frames := 2, cells := 78, slots := 1143, locals := 33 } s m args below meth c H locs (36 + 2 * 8) (471 + 12 * 8) Q (F0 m 115 ls [])) : ∀ (n j : Nat), j + n = 8 → ∀ (ρc : Rh) (σc : Sg) (H : Heap) (locs : List Loc) (ls : Array Slot), Wz D ca base ad ρc ([(7, 0)] ++ (N0 ++ pr2 0 10 0 j)) σc H → Jv 7 0 [(7, 0)] (N0 ++ pr2 0 10 0 j) ρ σ ρc σc (rq [5, 12, 13, 14, 15]) (fun _ => 0) (hT 12 j 0 0) → va_S (Ab base) s.heap H locs → lv_has ls 2 [(1, .int (nI j)), (0, .ref (ad 7 0))] → W p l e { frames := 2, cells := 78, slots := 1143, locals := 33 } s m args below meth c H locs (36 + 2 * j) (471 + 12 * j) Q (F0 m 87 ls []) := by
  have hx := hC.1
  have hb := hC.2.1
  intro n
  induction n with
  | zero =>
    intro j hj ρc σc H locs ls hW hJ hS hl
    have hB7 : (7, 0) ∈ [(7, 0)] ++ (N0 ++ pr2 0 10 0 j) := by simp
    have hB9 : (23, 0) ∈ [(7, 0)] ++ (N0 ++ pr2 0 10 0 j) := List.mem_append_right _ (List.mem_append_left _ hm)
    refine lv_iload_n hx hb dX7_init_87 rfl (lv_at hl 0 rfl) ?_
    refine lv_aload_n hx hb dX7_init_88 rfl (lv_at hl 1 rfl) ?_
    refine w_get hC hW.1 hB7 (by rw [hJ.2.1, hJ.2.2.1]; rfl) kf7 4 (by decide) q_276 (v := .ref (ad 23 0)) rfl dX7_init_89 ?_
    refine w_alen hC hW.1 hB9 4 (ty := .object RX0) rfl rfl (v := nI 8) rfl dX7_init_92 ?_
    refine lv_icmp_ge (tgt := 115) hx hb dX7_init_93 (by decide) (fun c_1 => ?_) (fun c_1 => ?_)
    · obtain rfl : j = 8 := by omega
      exact kk ρc σc H locs ls hW hJ hS hl
    · exact absurd (by rw [show j = 8 by omega]; decide) c_1
  | succ n ih =>
    intro j hj ρc σc H locs ls hW hJ hS hl
    have hB7 : (7, 0) ∈ [(7, 0)] ++ (N0 ++ pr2 0 10 0 j) := by simp
    have hB9 : (23, 0) ∈ [(7, 0)] ++ (N0 ++ pr2 0 10 0 j) := List.mem_append_right _ (List.mem_append_left _ hm)
    refine lv_iload_n hx hb dX7_init_87 rfl (lv_at hl 0 rfl) ?_
    refine lv_aload_n hx hb dX7_init_88 rfl (lv_at hl 1 rfl) ?_
    refine w_get hC hW.1 hB7 (by rw [hJ.2.1, hJ.2.2.1]; rfl) kf7 4 (by decide) q_276 (v := .ref (ad 23 0)) rfl dX7_init_89 ?_
    refine w_alen hC hW.1 hB9 4 (ty := .object RX0) rfl rfl (v := nI 8) rfl dX7_init_92 ?_
    refine lv_icmp_ge (tgt := 115) hx hb dX7_init_93 (by decide) (fun c_1 => ?_) (fun c_1 => ?_)
    · exact absurd c_1 (nI_ge (show j < 8 by omega) (by decide))
    · have hjn : j < 8 := by omega
      refine lv_aload_n hx hb dX7_init_96 rfl (lv_at hl 1 rfl) ?_
      refine w_get hC hW.1 hB7 (by rw [hJ.2.1, hJ.2.2.1]; rfl) kf7 4 (by decide) q_276 (v := .ref (ad 23 0)) rfl dX7_init_97 ?_
      refine lv_iload_n hx hb dX7_init_100 rfl (lv_at hl 0 rfl) ?_
      have had1 : ad 0 (j) = base + ([(7, 0)].length + (N0 ++ pr2 0 10 0 j).length) := (had _ _ (LA_0 j hjn).1).trans (by simp only [List.length_append, List.length_cons, List.length_nil, hN, pr2_len]; omega)
      have had2 : ad 10 (j) = base + (([(7, 0)] ++ ((N0 ++ pr2 0 10 0 j) ++ [(0, j)])).length + 0) := (had _ _ (LA_0 j hjn).2).trans (by simp only [List.length_append, List.length_cons, List.length_nil, hN, pr2_len]; omega)
      refine j_make hC hW hJ hS hl (k1 := 0) (i1 := j) (had1) kf0 q_174 q_176 q_51 (fs := wO ad (rb 0) (fun _ => 0) 0 (j)) rfl hfs_X0 ci_X0 (Or.inr ⟨"AuditgateReeve", hw _ (by simp [W7])⟩) (fun ρ2 σ2 h1 h2 => c_X0_init h1 h2 (by simp) (had2)) (hT_ls (by simp)) (by simp) ⟨by decide, by decide⟩ (by show (1 + (1 + (0))) + 1 ≤ 8; decide) ⟨by show _ + (1 + 1) ≤ 78; omega, by show _ + (9 + 3) ≤ 1143; omega⟩ dX7_init_101 dX7_init_104 dX7_init_105 (c2 := 36 + 2 * (j + 1)) (s2 := 471 + 12 * (j + 1)) (by show _ + (1 + 1) = _; omega) (by show _ + (9 + 3) = _; omega) (N2 := N0 ++ pr2 0 10 0 (j + 1)) (by simp [pr2_s]) (fun ρc σc H locs hW hJ hS => ?_)
      have hB9 : (23, 0) ∈ N0 ++ pr2 0 10 0 (j + 1) := List.mem_append_left _ hm
      refine w_aastZ hC hW hS (kr := 23) (ir := 0) (List.mem_append_right _ hB9) (n := 8) (t := 4) (k' := 0) (i := j) (g := fun q => q) (fun r => rfl) (C := RX0) rfl (List.mem_append_right _ (by simp [pr2_s])) (by decide) kf0.1 (vp_in_nI hjn (by omega)) (by show (nI j).toNatClampNeg = _; rw [nI_clamp (by omega)]) dX7_init_108 (fun H locs hW hS => ?_)
      rw [nI_clamp (show j < 2 ^ 31 by omega)] at hW
      have hJ := hJ.row (j := j) hB9 (hT_23 12 j 0 0)
      refine lv_iinc (v := nI (j + 1)) (lv' := [(1, .int (nI (j + 1))), (0, .ref (ad 7 0))]) hx hb dX7_init_109 hl (k := 0) rfl (nI_add j 1) (by decide) rfl (fun ls hl => ?_)
      refine lv_goto (tgt := 87) hx hb dX7_init_112 (by decide) ?_
      exact ih (j + 1) (by omega) _ σc H locs ls hW hJ hS hl
set_option maxHeartbeats 4000000 in
set_option maxRecDepth 100000 in
theorem x7_l6 {p : Program} {l : Launch} {e : Env} {s : State} {m : MethodId} {args : Array Value} {below : List Frame} {meth : Method} {c : Code} {Q : State → Prop} {D : va_G} {ca : Nat → ClassId} {base : Nat} {ad : Adr} {ρ : Rh} {σ : Sg} (hC : Cx p s m args meth c cX7_init 2 RX7 none D ca base) (had : ∀ n x, LA[n]? = some x → ad x.1 x.2 = base + n) (hw : ∀ w ∈ W7, va_Nw w s) {N0 : List (Nat × Nat)} (hN : N0.length = 53) (hm : (24, 0) ∈ N0) (kk : ∀ (ρc : Rh) (σc : Sg) (H : Heap) (locs : List Loc) (ls : Array Slot), Wz D ca base ad ρc ([(7, 0)] ++ (N0 ++ pr1 6 10)) σc H → Jv 7 0 [(7, 0)] (N0 ++ pr1 6 10) ρ σ ρc σc (rq [12, 13, 14, 15]) (fun _ => 0) (hT 12 8 10 0) → va_S (Ab base) s.heap H locs → lv_has ls 2 [(1, .int (nI 10)), (0, .ref (ad 7 0))] → W p l e { frames := 2, cells := 78, slots := 1143, locals := 33 } s m args below meth c H locs (53 + 1 * 10) (577 + 9 * 10) Q (F0 m 154 ls [])) : ∀ (n j : Nat), j + n = 10 → ∀ (ρc : Rh) (σc : Sg) (H : Heap) (locs : List Loc) (ls : Array Slot), Wz D ca base ad ρc ([(7, 0)] ++ (N0 ++ pr1 6 j)) σc H → Jv 7 0 [(7, 0)] (N0 ++ pr1 6 j) ρ σ ρc σc (rq [12, 13, 14, 15]) (fun _ => 0) (hT 12 8 j 0) → va_S (Ab base) s.heap H locs → lv_has ls 2 [(1, .int (nI j)), (0, .ref (ad 7 0))] → W p l e { frames := 2, cells := 78, slots := 1143, locals := 33 } s m args below meth c H locs (53 + 1 * j) (577 + 9 * j) Q (F0 m 126 ls []) := by
  have hx := hC.1
  have hb := hC.2.1
  intro n
  induction n with
  | zero =>
    intro j hj ρc σc H locs ls hW hJ hS hl
    have hB7 : (7, 0) ∈ [(7, 0)] ++ (N0 ++ pr1 6 j) := by simp
    have hB9 : (24, 0) ∈ [(7, 0)] ++ (N0 ++ pr1 6 j) := List.mem_append_right _ (List.mem_append_left _ hm)
    refine lv_iload_n hx hb dX7_init_126 rfl (lv_at hl 0 rfl) ?_
    refine lv_aload_n hx hb dX7_init_127 rfl (lv_at hl 1 rfl) ?_
    refine w_get hC hW.1 hB7 (by rw [hJ.2.1, hJ.2.2.1]; rfl) kf7 5 (by decide) q_277 (v := .ref (ad 24 0)) rfl dX7_init_128 ?_
    refine w_alen hC hW.1 hB9 5 (ty := .object RX6) rfl rfl (v := nI 10) rfl dX7_init_131 ?_
    refine lv_icmp_ge (tgt := 154) hx hb dX7_init_132 (by decide) (fun c_1 => ?_) (fun c_1 => ?_)
    · obtain rfl : j = 10 := by omega
      exact kk ρc σc H locs ls hW hJ hS hl
    · exact absurd (by rw [show j = 10 by omega]; decide) c_1
  | succ n ih =>
    intro j hj ρc σc H locs ls hW hJ hS hl
    have hB7 : (7, 0) ∈ [(7, 0)] ++ (N0 ++ pr1 6 j) := by simp
    have hB9 : (24, 0) ∈ [(7, 0)] ++ (N0 ++ pr1 6 j) := List.mem_append_right _ (List.mem_append_left _ hm)
    refine lv_iload_n hx hb dX7_init_126 rfl (lv_at hl 0 rfl) ?_
    refine lv_aload_n hx hb dX7_init_127 rfl (lv_at hl 1 rfl) ?_
    refine w_get hC hW.1 hB7 (by rw [hJ.2.1, hJ.2.2.1]; rfl) kf7 5 (by decide) q_277 (v := .ref (ad 24 0)) rfl dX7_init_128 ?_
    refine w_alen hC hW.1 hB9 5 (ty := .object RX6) rfl rfl (v := nI 10) rfl dX7_init_131 ?_
    refine lv_icmp_ge (tgt := 154) hx hb dX7_init_132 (by decide) (fun c_1 => ?_) (fun c_1 => ?_)
    · exact absurd c_1 (nI_ge (show j < 10 by omega) (by decide))
    · have hjn : j < 10 := by omega
      refine lv_aload_n hx hb dX7_init_135 rfl (lv_at hl 1 rfl) ?_
      refine w_get hC hW.1 hB7 (by rw [hJ.2.1, hJ.2.2.1]; rfl) kf7 5 (by decide) q_277 (v := .ref (ad 24 0)) rfl dX7_init_136 ?_
      refine lv_iload_n hx hb dX7_init_139 rfl (lv_at hl 0 rfl) ?_
      have had1 : ad 6 j = base + ([(7, 0)].length + (N0 ++ pr1 6 j).length) := (had _ _ (LA_6 j hjn)).trans (by simp only [List.length_append, List.length_cons, List.length_nil, hN, pr1_len]; omega)
      refine j_make hC hW hJ hS hl (k1 := 6) (i1 := j) (had1) kf6 q_220 q_222 q_52 (fs := wO ad (rb 6) (fun _ => 0) 6 (j)) rfl hfs_X6 ci_X6 (Or.inr ⟨"AuditgateReeve", hw _ (by simp [W7])⟩) (fun ρ2 σ2 h1 h2 => c_X6_init h1 h2 (by simp) ) (hT_ls (by simp)) (by simp) ⟨by decide, by decide⟩ (by show (1 + (1 + (0))) + 1 ≤ 8; decide) ⟨by show _ + (1 + 0) ≤ 78; omega, by show _ + (9 + 0) ≤ 1143; omega⟩ dX7_init_140 dX7_init_143 dX7_init_144 (c2 := 53 + 1 * (j + 1)) (s2 := 577 + 9 * (j + 1)) (by show _ + (1 + 0) = _; omega) (by show _ + (9 + 0) = _; omega) (N2 := N0 ++ pr1 6 (j + 1)) (by simp [pr1_s]) (fun ρc σc H locs hW hJ hS => ?_)
      have hB9 : (24, 0) ∈ N0 ++ pr1 6 (j + 1) := List.mem_append_left _ hm
      refine w_aastZ hC hW hS (kr := 24) (ir := 0) (List.mem_append_right _ hB9) (n := 10) (t := 5) (k' := 6) (i := j) (g := fun q => q) (fun r => rfl) (C := RX6) rfl (List.mem_append_right _ (by simp [pr1_s])) (by decide) kf6.1 (vp_in_nI hjn (by omega)) (by show (nI j).toNatClampNeg = _; rw [nI_clamp (by omega)]) dX7_init_147 (fun H locs hW hS => ?_)
      rw [nI_clamp (show j < 2 ^ 31 by omega)] at hW
      have hJ := hJ.row (j := j) hB9 (hT_24 12 8 j 0)
      refine lv_iinc (v := nI (j + 1)) (lv' := [(1, .int (nI (j + 1))), (0, .ref (ad 7 0))]) hx hb dX7_init_148 hl (k := 0) rfl (nI_add j 1) (by decide) rfl (fun ls hl => ?_)
      refine lv_goto (tgt := 126) hx hb dX7_init_151 (by decide) ?_
      exact ih (j + 1) (by omega) _ σc H locs ls hW hJ hS hl
set_option maxHeartbeats 4000000 in
set_option maxRecDepth 100000 in
theorem x7_l8 {p : Program} {l : Launch} {e : Env} {s : State} {m : MethodId} {args : Array Value} {below : List Frame} {meth : Method} {c : Code} {Q : State → Prop} {D : va_G} {ca : Nat → ClassId} {base : Nat} {ad : Adr} {ρ : Rh} {σ : Sg} (hC : Cx p s m args meth c cX7_init 2 RX7 none D ca base) (had : ∀ n x, LA[n]? = some x → ad x.1 x.2 = base + n) (hw : ∀ w ∈ W7, va_Nw w s) {N0 : List (Nat × Nat)} (hN : N0.length = 64) (hm : (25, 0) ∈ N0) (kk : ∀ (ρc : Rh) (σc : Sg) (H : Heap) (locs : List Loc) (ls : Array Slot), Wz D ca base ad ρc ([(7, 0)] ++ (N0 ++ pr2 0 10 8 4)) σc H → Jv 7 0 [(7, 0)] (N0 ++ pr2 0 10 8 4) ρ σ ρc σc (rq [13, 14, 15]) (fun _ => 0) (hT 12 8 10 4) → va_S (Ab base) s.heap H locs → lv_has ls 2 [(1, .int (nI 4)), (0, .ref (ad 7 0))] → W p l e { frames := 2, cells := 78, slots := 1143, locals := 33 } s m args below meth c H locs (64 + 2 * 4) (671 + 12 * 4) Q (F0 m 192 ls [])) : ∀ (n j : Nat), j + n = 4 → ∀ (ρc : Rh) (σc : Sg) (H : Heap) (locs : List Loc) (ls : Array Slot), Wz D ca base ad ρc ([(7, 0)] ++ (N0 ++ pr2 0 10 8 j)) σc H → Jv 7 0 [(7, 0)] (N0 ++ pr2 0 10 8 j) ρ σ ρc σc (rq [13, 14, 15]) (fun _ => 0) (hT 12 8 10 j) → va_S (Ab base) s.heap H locs → lv_has ls 2 [(1, .int (nI j)), (0, .ref (ad 7 0))] → W p l e { frames := 2, cells := 78, slots := 1143, locals := 33 } s m args below meth c H locs (64 + 2 * j) (671 + 12 * j) Q (F0 m 164 ls []) := by
  have hx := hC.1
  have hb := hC.2.1
  intro n
  induction n with
  | zero =>
    intro j hj ρc σc H locs ls hW hJ hS hl
    have hB7 : (7, 0) ∈ [(7, 0)] ++ (N0 ++ pr2 0 10 8 j) := by simp
    have hB9 : (25, 0) ∈ [(7, 0)] ++ (N0 ++ pr2 0 10 8 j) := List.mem_append_right _ (List.mem_append_left _ hm)
    refine lv_iload_n hx hb dX7_init_164 rfl (lv_at hl 0 rfl) ?_
    refine lv_aload_n hx hb dX7_init_165 rfl (lv_at hl 1 rfl) ?_
    refine w_get hC hW.1 hB7 (by rw [hJ.2.1, hJ.2.2.1]; rfl) kf7 12 (by decide) q_284 (v := .ref (ad 25 0)) rfl dX7_init_166 ?_
    refine w_alen hC hW.1 hB9 4 (ty := .object RX0) rfl rfl (v := nI 4) rfl dX7_init_169 ?_
    refine lv_icmp_ge (tgt := 192) hx hb dX7_init_170 (by decide) (fun c_1 => ?_) (fun c_1 => ?_)
    · obtain rfl : j = 4 := by omega
      exact kk ρc σc H locs ls hW hJ hS hl
    · exact absurd (by rw [show j = 4 by omega]; decide) c_1
  | succ n ih =>
    intro j hj ρc σc H locs ls hW hJ hS hl
    have hB7 : (7, 0) ∈ [(7, 0)] ++ (N0 ++ pr2 0 10 8 j) := by simp
    have hB9 : (25, 0) ∈ [(7, 0)] ++ (N0 ++ pr2 0 10 8 j) := List.mem_append_right _ (List.mem_append_left _ hm)
    refine lv_iload_n hx hb dX7_init_164 rfl (lv_at hl 0 rfl) ?_
    refine lv_aload_n hx hb dX7_init_165 rfl (lv_at hl 1 rfl) ?_
    refine w_get hC hW.1 hB7 (by rw [hJ.2.1, hJ.2.2.1]; rfl) kf7 12 (by decide) q_284 (v := .ref (ad 25 0)) rfl dX7_init_166 ?_
    refine w_alen hC hW.1 hB9 4 (ty := .object RX0) rfl rfl (v := nI 4) rfl dX7_init_169 ?_
    refine lv_icmp_ge (tgt := 192) hx hb dX7_init_170 (by decide) (fun c_1 => ?_) (fun c_1 => ?_)
    · exact absurd c_1 (nI_ge (show j < 4 by omega) (by decide))
    · have hjn : j < 4 := by omega
      refine lv_aload_n hx hb dX7_init_173 rfl (lv_at hl 1 rfl) ?_
      refine w_get hC hW.1 hB7 (by rw [hJ.2.1, hJ.2.2.1]; rfl) kf7 12 (by decide) q_284 (v := .ref (ad 25 0)) rfl dX7_init_174 ?_
      refine lv_iload_n hx hb dX7_init_177 rfl (lv_at hl 0 rfl) ?_
      have had1 : ad 0 (8 + j) = base + ([(7, 0)].length + (N0 ++ pr2 0 10 8 j).length) := (had _ _ (LA_8 j hjn).1).trans (by simp only [List.length_append, List.length_cons, List.length_nil, hN, pr2_len]; omega)
      have had2 : ad 10 (8 + j) = base + (([(7, 0)] ++ ((N0 ++ pr2 0 10 8 j) ++ [(0, 8 + j)])).length + 0) := (had _ _ (LA_8 j hjn).2).trans (by simp only [List.length_append, List.length_cons, List.length_nil, hN, pr2_len]; omega)
      refine j_make hC hW hJ hS hl (k1 := 0) (i1 := (8 + j)) (had1) kf0 q_174 q_176 q_51 (fs := wO ad (rb 0) (fun _ => 0) 0 ((8 + j))) rfl hfs_X0 ci_X0 (Or.inr ⟨"AuditgateReeve", hw _ (by simp [W7])⟩) (fun ρ2 σ2 h1 h2 => c_X0_init h1 h2 (by simp) (had2)) (hT_ls (by simp)) (by simp) ⟨by decide, by decide⟩ (by show (1 + (1 + (0))) + 1 ≤ 8; decide) ⟨by show _ + (1 + 1) ≤ 78; omega, by show _ + (9 + 3) ≤ 1143; omega⟩ dX7_init_178 dX7_init_181 dX7_init_182 (c2 := 64 + 2 * (j + 1)) (s2 := 671 + 12 * (j + 1)) (by show _ + (1 + 1) = _; omega) (by show _ + (9 + 3) = _; omega) (N2 := N0 ++ pr2 0 10 8 (j + 1)) (by simp [pr2_s]) (fun ρc σc H locs hW hJ hS => ?_)
      have hB9 : (25, 0) ∈ N0 ++ pr2 0 10 8 (j + 1) := List.mem_append_left _ hm
      refine w_aastZ hC hW hS (kr := 25) (ir := 0) (List.mem_append_right _ hB9) (n := 4) (t := 4) (k' := 0) (i := 8 + j) (g := fun q => 8 + q) (fun r => rfl) (C := RX0) rfl (List.mem_append_right _ (by simp [pr2_s])) (by decide) kf0.1 (vp_in_nI hjn (by omega)) (by show 8 + (nI j).toNatClampNeg = _; rw [nI_clamp (by omega)]) dX7_init_185 (fun H locs hW hS => ?_)
      rw [nI_clamp (show j < 2 ^ 31 by omega)] at hW
      have hJ := hJ.row (j := j) hB9 (hT_25 12 8 10 j)
      refine lv_iinc (v := nI (j + 1)) (lv' := [(1, .int (nI (j + 1))), (0, .ref (ad 7 0))]) hx hb dX7_init_186 hl (k := 0) rfl (nI_add j 1) (by decide) rfl (fun ls hl => ?_)
      refine lv_goto (tgt := 164) hx hb dX7_init_189 (by decide) ?_
      exact ih (j + 1) (by omega) _ σc H locs ls hW hJ hS hl
