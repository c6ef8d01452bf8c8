/-- the cells that the class's constructor makes -/
def N7 : List (Nat × Nat) := ((((((((([(2, 0), (12, 0), (13, 0), (14, 0), (15, 0), (3, 0), (16, 0), (17, 0), (1, 0), (11, 0), (22, 0)] ++ pr2 5 20 0 12) ++ [(23, 0)]) ++ pr2 0 10 0 8) ++ [(24, 0)]) ++ pr1 6 10) ++ [(25, 0)]) ++ pr2 0 10 8 4) ++ [(5, 12), (20, 12)]) ++ [(21, 0)]) ++ [(4, 0), (18, 0), (19, 0)]
set_option maxHeartbeats 8000000 in
set_option maxRecDepth 100000 in
theorem c_X7_init {l : Launch} {D : va_G} {ca : Nat → ClassId} {base : Nat} {ad : Adr} {ρ : Rh} {σ : Sg} (h1 : ρ 7 0 = rb 7) (h2 : σ 7 0 = fun _ => 0) (had : ∀ n x, LA[n]? = some x → ad x.1 x.2 = base + n) : Mk l yX7_init cX7_init 2 { frames := 2, cells := 78, slots := 1143, locals := 33 } D ca base ad 7 0 [(7, 0)] N7 ρ σ W7 := by
  refine w_ofK (by decide +kernel) rfl (by decide) ?_
  intro p e s m args below meth c hC hW hS hw ls hl hin
  have hC : Cx p s m args meth c cX7_init 2 RX7 none D ca base := hC
  have hx := hC.1
  have hb := hC.2.1
  have hJ : Jv 7 0 [(7, 0)] [] ρ σ ρ σ (rq [0, 1, 2, 3, 4, 5, 12, 13, 14, 15]) (fun _ => 0) (hT 0 0 0 0) := ⟨fun _ _ _ => ⟨rfl, rfl⟩, h1, h2, (fun _ h => by cases h), by simp, (fun _ h => by cases h)⟩
  have hW : Wz D ca base ad ρ ([(7, 0)] ++ []) σ s.heap := by rw [List.append_nil]; exact hW
  refine lv_aload_n hx hb dX7_init_0 rfl (lv_at hl 0 rfl) ?_
  refine w_objI hC hl q_68 dX7_init_1 (by decide) ?_
  refine lv_aload_n hx hb dX7_init_4 rfl (lv_at hl 0 rfl) ?_
  refine j_make hC hW hJ hS hl (k1 := 2) (i1 := 0) ((had 1 (2, 0) rfl).trans (by simp [pr2_len, pr1_len])) kf2 q_71 q_72 q_47 (fs := wO ad (rb 2) (fun _ => 0) 2 (0)) rfl hfs_X2 ci_X2 (Or.inr ⟨"AuditgateReeve", hw _ (by simp [W7])⟩) (fun ρ2 σ2 h1 h2 => c_X2_init h1 h2 (by simp) ((had 2 (12, 0) rfl).trans (by simp [pr2_len, pr1_len])) ((had 3 (13, 0) rfl).trans (by simp [pr2_len, pr1_len])) ((had 4 (14, 0) rfl).trans (by simp [pr2_len, pr1_len])) ((had 5 (15, 0) rfl).trans (by simp [pr2_len, pr1_len]))) (hT_ls (by simp)) (by simp) ⟨by decide, by decide⟩ (by show (1 + (0)) + 1 ≤ 8; decide) ⟨by show _ + (1 + 4) ≤ 78; omega, by show _ + (4 + 24) ≤ 1143; omega⟩ dX7_init_5 dX7_init_8 dX7_init_9 (c2 := 5) (s2 := 28) (by show _ + (1 + 4) = _; omega) (by show _ + (4 + 24) = _; omega) (N2 := [(2, 0), (12, 0), (13, 0), (14, 0), (15, 0)]) (by simp) (fun ρc σc H locs hW hJ hS => ?_)
  refine j_putF hC hW hJ hS rfl kf7 0 (by decide) q_272 rfl hin rfl (tyX7_ok 0 (by decide)) rfl rfl (by show 0 < 16; decide) (rq_step (by decide)) rfl dX7_init_12 (fun ρc H locs hW hJ hS => ?_)
  refine lv_aload_n hx hb dX7_init_15 rfl (lv_at hl 0 rfl) ?_
  refine j_make hC hW hJ hS hl (k1 := 3) (i1 := 0) ((had 6 (3, 0) rfl).trans (by simp [pr2_len, pr1_len])) kf3 q_91 q_92 q_48 (fs := wO ad (rb 3) (fun _ => 0) 3 (0)) rfl hfs_X3 ci_X3 (Or.inl q_93) (fun ρ2 σ2 h1 h2 => c_X3_init h1 h2 (by simp) ((had 7 (16, 0) rfl).trans (by simp [pr2_len, pr1_len])) ((had 8 (17, 0) rfl).trans (by simp [pr2_len, pr1_len]))) (hT_ls (by simp)) (by simp) ⟨by decide, by decide⟩ (by show (1 + (0)) + 1 ≤ 8; decide) ⟨by show _ + (1 + 2) ≤ 78; omega, by show _ + (2 + 32) ≤ 1143; omega⟩ dX7_init_16 dX7_init_19 dX7_init_20 (c2 := 8) (s2 := 62) (by show _ + (1 + 2) = _; omega) (by show _ + (2 + 32) = _; omega) (N2 := [(2, 0), (12, 0), (13, 0), (14, 0), (15, 0), (3, 0), (16, 0), (17, 0)]) (by simp) (fun ρc σc H locs hW hJ hS => ?_)
  refine j_putF hC hW hJ hS rfl kf7 1 (by decide) q_273 rfl hin rfl (tyX7_ok 1 (by decide)) rfl rfl (by show 1 < 16; decide) (rq_step (by decide)) rfl dX7_init_23 (fun ρc H locs hW hJ hS => ?_)
  refine lv_aload_n hx hb dX7_init_26 rfl (lv_at hl 0 rfl) ?_
  refine j_make hC hW hJ hS hl (k1 := 1) (i1 := 0) ((had 9 (1, 0) rfl).trans (by simp [pr2_len, pr1_len])) kf1 q_104 q_105 q_49 (fs := wO ad (rb 1) (fun _ => 0) 1 (0)) rfl hfs_X1 ci_X1 (Or.inr ⟨"AuditgateReeve", hw _ (by simp [W7])⟩) (fun ρ2 σ2 h1 h2 => c_X1_init h1 h2 (by simp) ((had 10 (11, 0) rfl).trans (by simp [pr2_len, pr1_len]))) (hT_ls (by simp)) (by simp) ⟨by decide, by decide⟩ (by show (1 + (0)) + 1 ≤ 8; decide) ⟨by show _ + (1 + 1) ≤ 78; omega, by show _ + (5 + 120) ≤ 1143; omega⟩ dX7_init_27 dX7_init_30 dX7_init_31 (c2 := 10) (s2 := 187) (by show _ + (1 + 1) = _; omega) (by show _ + (5 + 120) = _; omega) (N2 := [(2, 0), (12, 0), (13, 0), (14, 0), (15, 0), (3, 0), (16, 0), (17, 0), (1, 0), (11, 0)]) (by simp) (fun ρc σc H locs hW hJ hS => ?_)
  refine j_putF hC hW hJ hS rfl kf7 2 (by decide) q_274 rfl hin rfl (tyX7_ok 2 (by decide)) rfl rfl (by show 2 < 16; decide) (rq_step (by decide)) rfl dX7_init_34 (fun ρc H locs hW hJ hS => ?_)
  refine lv_aload_n hx hb dX7_init_37 rfl (lv_at hl 0 rfl) ?_
  refine lv_bipush (v := 12) hx hb dX7_init_38 (by decide) ?_
  refine w_newq hC hW hS (k := 22) (i := 0) ((had 11 (22, 0) rfl).trans (by simp [pr2_len, pr1_len])) q_128 (C := RX5) (hw _ (by simp [W7])) (t := 3) rfl (N := 12) rfl (by decide) (by decide) (by decide) (by decide) (by decide) (by decide) dX7_init_40 (fun H hnot hW hS => ?_)
  have hJ := hJ.born hnot rfl (rb_22 0 0 0)
  rw [List.append_assoc] at hW
  change Wz D ca base ad _ ([(7, 0)] ++ ([(2, 0), (12, 0), (13, 0), (14, 0), (15, 0), (3, 0), (16, 0), (17, 0), (1, 0), (11, 0), (22, 0)])) _ _ at hW
  change Jv _ _ _ ([(2, 0), (12, 0), (13, 0), (14, 0), (15, 0), (3, 0), (16, 0), (17, 0), (1, 0), (11, 0), (22, 0)]) _ _ _ _ _ _ _ at hJ
  generalize rz ρc 22 0 = ρc at hW hJ
  generalize sz σc 22 0 = σc at hW hJ
  refine j_putF hC hW hJ hS rfl kf7 3 (by decide) q_275 rfl hin rfl (tyX7_ok 3 (by decide)) rfl rfl (by show 3 < 16; decide) (rq_step (by decide)) rfl dX7_init_43 (fun ρc H locs hW hJ hS => ?_)
  refine lv_iconst (v := 0) hx hb dX7_init_46 (by decide) ?_
  refine lv_istore_n (lv' := [(1, .int (nI 0)), (0, .ref (ad 7 0))]) hx hb dX7_init_47 rfl hl (by decide) rfl (fun ls hl => ?_)
  refine x7_l5 hC had hw (N0 := [(2, 0), (12, 0), (13, 0), (14, 0), (15, 0), (3, 0), (16, 0), (17, 0), (1, 0), (11, 0), (22, 0)]) (by simp [pr2_len, pr1_len]) (by simp) (fun ρc σc H locs ls hW hJ hS hl => ?_) 12 0 rfl _ _ _ _ _ (by rw [show pr2 5 20 0 0 = [] from rfl, List.append_nil]; exact hW) (by rw [show pr2 5 20 0 0 = [] from rfl, List.append_nil]; exact hJ) hS hl
  refine lv_aload_n hx hb dX7_init_76 rfl (lv_at hl 1 rfl) ?_
  refine lv_bipush (v := 8) hx hb dX7_init_77 (by decide) ?_
  refine w_newq hC hW hS (k := 23) (i := 0) ((had 36 (23, 0) rfl).trans (by simp [pr2_len, pr1_len])) q_174 (C := RX0) (hw _ (by simp [W7])) (t := 4) rfl (N := 8) rfl (by decide) (by decide) (by decide) (by decide) (by decide) (by decide) dX7_init_79 (fun H hnot hW hS => ?_)
  have hJ := hJ.born hnot rfl (rb_23 12 0 0)
  rw [List.append_assoc] at hW
  change Wz D ca base ad _ ([(7, 0)] ++ (([(2, 0), (12, 0), (13, 0), (14, 0), (15, 0), (3, 0), (16, 0), (17, 0), (1, 0), (11, 0), (22, 0)] ++ pr2 5 20 0 12) ++ [(23, 0)])) _ _ at hW
  change Jv _ _ _ (([(2, 0), (12, 0), (13, 0), (14, 0), (15, 0), (3, 0), (16, 0), (17, 0), (1, 0), (11, 0), (22, 0)] ++ pr2 5 20 0 12) ++ [(23, 0)]) _ _ _ _ _ _ _ at hJ
  generalize rz ρc 23 0 = ρc at hW hJ
  generalize sz σc 23 0 = σc at hW hJ
  refine j_putF hC hW hJ hS rfl kf7 4 (by decide) q_276 rfl hin rfl (tyX7_ok 4 (by decide)) rfl rfl (by show 4 < 16; decide) (rq_step (by decide)) rfl dX7_init_82 (fun ρc H locs hW hJ hS => ?_)
  refine lv_iconst (v := 0) hx hb dX7_init_85 (by decide) ?_
  refine lv_istore_n (lv' := [(1, .int (nI 0)), (0, .ref (ad 7 0))]) hx hb dX7_init_86 rfl hl (by decide) rfl (fun ls hl => ?_)
  refine x7_l0 hC had hw (N0 := ([(2, 0), (12, 0), (13, 0), (14, 0), (15, 0), (3, 0), (16, 0), (17, 0), (1, 0), (11, 0), (22, 0)] ++ pr2 5 20 0 12) ++ [(23, 0)]) (by simp [pr2_len, pr1_len]) (by simp) (fun ρc σc H locs ls hW hJ hS hl => ?_) 8 0 rfl _ _ _ _ _ (by rw [show pr2 0 10 0 0 = [] from rfl, List.append_nil]; exact hW) (by rw [show pr2 0 10 0 0 = [] from rfl, List.append_nil]; exact hJ) hS hl
  refine lv_aload_n hx hb dX7_init_115 rfl (lv_at hl 1 rfl) ?_
  refine lv_bipush (v := 10) hx hb dX7_init_116 (by decide) ?_
  refine w_newq hC hW hS (k := 24) (i := 0) ((had 53 (24, 0) rfl).trans (by simp [pr2_len, pr1_len])) q_220 (C := RX6) (hw _ (by simp [W7])) (t := 5) rfl (N := 10) rfl (by decide) (by decide) (by decide) (by decide) (by decide) (by decide) dX7_init_118 (fun H hnot hW hS => ?_)
  have hJ := hJ.born hnot rfl (rb_24 12 8 0)
  rw [List.append_assoc] at hW
  change Wz D ca base ad _ ([(7, 0)] ++ (((([(2, 0), (12, 0), (13, 0), (14, 0), (15, 0), (3, 0), (16, 0), (17, 0), (1, 0), (11, 0), (22, 0)] ++ pr2 5 20 0 12) ++ [(23, 0)]) ++ pr2 0 10 0 8) ++ [(24, 0)])) _ _ at hW
  change Jv _ _ _ (((([(2, 0), (12, 0), (13, 0), (14, 0), (15, 0), (3, 0), (16, 0), (17, 0), (1, 0), (11, 0), (22, 0)] ++ pr2 5 20 0 12) ++ [(23, 0)]) ++ pr2 0 10 0 8) ++ [(24, 0)]) _ _ _ _ _ _ _ at hJ
  generalize rz ρc 24 0 = ρc at hW hJ
  generalize sz σc 24 0 = σc at hW hJ
  refine j_putF hC hW hJ hS rfl kf7 5 (by decide) q_277 rfl hin rfl (tyX7_ok 5 (by decide)) rfl rfl (by show 5 < 16; decide) (rq_step (by decide)) rfl dX7_init_121 (fun ρc H locs hW hJ hS => ?_)
  refine lv_iconst (v := 0) hx hb dX7_init_124 (by decide) ?_
  refine lv_istore_n (lv' := [(1, .int (nI 0)), (0, .ref (ad 7 0))]) hx hb dX7_init_125 rfl hl (by decide) rfl (fun ls hl => ?_)
  refine x7_l6 hC had hw (N0 := ((([(2, 0), (12, 0), (13, 0), (14, 0), (15, 0), (3, 0), (16, 0), (17, 0), (1, 0), (11, 0), (22, 0)] ++ pr2 5 20 0 12) ++ [(23, 0)]) ++ pr2 0 10 0 8) ++ [(24, 0)]) (by simp [pr2_len, pr1_len]) (by simp) (fun ρc σc H locs ls hW hJ hS hl => ?_) 10 0 rfl _ _ _ _ _ (by rw [show pr1 6 0 = [] from rfl, List.append_nil]; exact hW) (by rw [show pr1 6 0 = [] from rfl, List.append_nil]; exact hJ) hS hl
  refine lv_aload_n hx hb dX7_init_154 rfl (lv_at hl 1 rfl) ?_
  refine lv_iconst (v := 4) hx hb dX7_init_155 (by decide) ?_
  refine w_newq hC hW hS (k := 25) (i := 0) ((had 64 (25, 0) rfl).trans (by simp [pr2_len, pr1_len])) q_174 (C := RX0) (hw _ (by simp [W7])) (t := 4) rfl (N := 4) rfl (by decide) (by decide) (by decide) (by decide) (by decide) (by decide) dX7_init_156 (fun H hnot hW hS => ?_)
  have hJ := hJ.born hnot rfl (rb_25 12 8 10)
  rw [List.append_assoc] at hW
  change Wz D ca base ad _ ([(7, 0)] ++ (((((([(2, 0), (12, 0), (13, 0), (14, 0), (15, 0), (3, 0), (16, 0), (17, 0), (1, 0), (11, 0), (22, 0)] ++ pr2 5 20 0 12) ++ [(23, 0)]) ++ pr2 0 10 0 8) ++ [(24, 0)]) ++ pr1 6 10) ++ [(25, 0)])) _ _ at hW
  change Jv _ _ _ (((((([(2, 0), (12, 0), (13, 0), (14, 0), (15, 0), (3, 0), (16, 0), (17, 0), (1, 0), (11, 0), (22, 0)] ++ pr2 5 20 0 12) ++ [(23, 0)]) ++ pr2 0 10 0 8) ++ [(24, 0)]) ++ pr1 6 10) ++ [(25, 0)]) _ _ _ _ _ _ _ at hJ
  generalize rz ρc 25 0 = ρc at hW hJ
  generalize sz σc 25 0 = σc at hW hJ
  refine j_putF hC hW hJ hS rfl kf7 12 (by decide) q_284 rfl hin rfl (tyX7_ok 12 (by decide)) rfl rfl (by show 12 < 16; decide) (rq_step (by decide)) rfl dX7_init_159 (fun ρc H locs hW hJ hS => ?_)
  refine lv_iconst (v := 0) hx hb dX7_init_162 (by decide) ?_
  refine lv_istore_n (lv' := [(1, .int (nI 0)), (0, .ref (ad 7 0))]) hx hb dX7_init_163 rfl hl (by decide) rfl (fun ls hl => ?_)
  refine x7_l8 hC had hw (N0 := ((((([(2, 0), (12, 0), (13, 0), (14, 0), (15, 0), (3, 0), (16, 0), (17, 0), (1, 0), (11, 0), (22, 0)] ++ pr2 5 20 0 12) ++ [(23, 0)]) ++ pr2 0 10 0 8) ++ [(24, 0)]) ++ pr1 6 10) ++ [(25, 0)]) (by simp [pr2_len, pr1_len]) (by simp) (fun ρc σc H locs ls hW hJ hS hl => ?_) 4 0 rfl _ _ _ _ _ (by rw [show pr2 0 10 8 0 = [] from rfl, List.append_nil]; exact hW) (by rw [show pr2 0 10 8 0 = [] from rfl, List.append_nil]; exact hJ) hS hl
  refine lv_aload_n hx hb dX7_init_192 rfl (lv_at hl 1 rfl) ?_
  refine j_make hC hW hJ hS hl (k1 := 5) (i1 := 12) ((had 73 (5, 12) rfl).trans (by simp [pr2_len, pr1_len])) kf5 q_128 q_130 q_50 (fs := wO ad (rb 5) (fun _ => 0) 5 (12)) rfl hfs_X5 ci_X5 (Or.inl q_131) (fun ρ2 σ2 h1 h2 => c_X5_init h1 h2 (by simp) ((had 74 (20, 12) rfl).trans (by simp [pr2_len, pr1_len]))) (hT_ls (by simp)) (by simp) ⟨by decide, by decide⟩ (by show (1 + (0)) + 1 ≤ 8; decide) ⟨by show _ + (1 + 1) ≤ 78; omega, by show _ + (10 + 12) ≤ 1143; omega⟩ dX7_init_193 dX7_init_196 dX7_init_197 (c2 := 74) (s2 := 741) (by show _ + (1 + 1) = _; omega) (by show _ + (10 + 12) = _; omega) (N2 := ((((((([(2, 0), (12, 0), (13, 0), (14, 0), (15, 0), (3, 0), (16, 0), (17, 0), (1, 0), (11, 0), (22, 0)] ++ pr2 5 20 0 12) ++ [(23, 0)]) ++ pr2 0 10 0 8) ++ [(24, 0)]) ++ pr1 6 10) ++ [(25, 0)]) ++ pr2 0 10 8 4) ++ [(5, 12), (20, 12)]) (by simp) (fun ρc σc H locs hW hJ hS => ?_)
  refine j_putF hC hW hJ hS rfl kf7 13 (by decide) q_285 rfl hin rfl (tyX7_ok 13 (by decide)) rfl rfl (by show 13 < 16; decide) (rq_step (by decide)) rfl dX7_init_200 (fun ρc H locs hW hJ hS => ?_)
  refine lv_aload_n hx hb dX7_init_203 rfl (lv_at hl 1 rfl) ?_
  refine lv_bipush (v := 15) hx hb dX7_init_204 (by decide) ?_
  refine w_newa hC hW hS (k := 21) (i := 0) ((had 75 (21, 0) rfl).trans (by simp [pr2_len, pr1_len])) (ty := .int) rfl q_90 (t := 0) rfl (fun _ => rfl) rfl (fun cA => by rw [vp_cell_i]; rfl) (by decide) (N := 15) (by decide) (by decide) (by decide) (by decide) dX7_init_206 (fun H hnot hW hS => ?_)
  have hJ := hJ.born hnot rfl ((hT_off _ _ _ _ (by decide)).trans rfl)
  rw [List.append_assoc] at hW
  generalize rz ρc 21 0 = ρc at hW hJ
  generalize sz σc 21 0 = σc at hW hJ
  refine j_putF hC hW hJ hS rfl kf7 14 (by decide) q_286 rfl hin rfl (tyX7_ok 14 (by decide)) rfl rfl (by show 14 < 16; decide) (rq_step (by decide)) rfl dX7_init_208 (fun ρc H locs hW hJ hS => ?_)
  refine lv_aload_n hx hb dX7_init_211 rfl (lv_at hl 1 rfl) ?_
  refine j_make hC hW hJ hS hl (k1 := 4) (i1 := 0) ((had 76 (4, 0) rfl).trans (by simp [pr2_len, pr1_len])) kf4 q_255 q_256 q_53 (fs := wO ad (rb 4) (fun _ => 0) 4 (0)) rfl hfs_X4 ci_X4 (Or.inr ⟨"AuditgateReeve", hw _ (by simp [W7])⟩) (fun ρ2 σ2 h1 h2 => c_X4_init h1 h2 (by simp) ((had 77 (18, 0) rfl).trans (by simp [pr2_len, pr1_len])) ((had 78 (19, 0) rfl).trans (by simp [pr2_len, pr1_len]))) (hT_ls (by simp)) (by simp) ⟨by decide, by decide⟩ (by show (1 + (0)) + 1 ≤ 8; decide) ⟨by show _ + (1 + 2) ≤ 78; omega, by show _ + (3 + 384) ≤ 1143; omega⟩ dX7_init_212 dX7_init_215 dX7_init_216 (c2 := 78) (s2 := 1143) (by show _ + (1 + 2) = _; omega) (by show _ + (3 + 384) = _; omega) (N2 := ((((((((([(2, 0), (12, 0), (13, 0), (14, 0), (15, 0), (3, 0), (16, 0), (17, 0), (1, 0), (11, 0), (22, 0)] ++ pr2 5 20 0 12) ++ [(23, 0)]) ++ pr2 0 10 0 8) ++ [(24, 0)]) ++ pr1 6 10) ++ [(25, 0)]) ++ pr2 0 10 8 4) ++ [(5, 12), (20, 12)]) ++ [(21, 0)]) ++ [(4, 0), (18, 0), (19, 0)]) (by simp) (fun ρc σc H locs hW hJ hS => ?_)
  refine j_putF hC hW hJ hS rfl kf7 15 (by decide) q_287 rfl hin rfl (tyX7_ok 15 (by decide)) rfl rfl (by show 15 < 16; decide) (rq_step (by decide)) rfl dX7_init_219 (fun ρc H locs hW hJ hS => ?_)
  refine lv_aload_n hx hb dX7_init_222 rfl (lv_at hl 1 rfl) ?_
  refine lv_bipush (v := 7) hx hb dX7_init_223 (by decide) ?_
  refine j_putI hC hW hJ hS (C := RX7) rfl kf7 10 (by decide) q_282 rfl (tyX7_ok 10 (by decide)) rfl rfl (by show 10 < 16; decide) rfl rfl dX7_init_225 (fun σc H locs hW hJ hS => ?_)
  refine lv_aload_n hx hb dX7_init_228 rfl (lv_at hl 1 rfl) ?_
  refine lv_bipush (v := 7) hx hb dX7_init_229 (by decide) ?_
  refine j_putI hC hW hJ hS (C := RX7) rfl kf7 11 (by decide) q_283 rfl (tyX7_ok 11 (by decide)) rfl rfl (by show 11 < 16; decide) rfl rfl dX7_init_231 (fun σc H locs hW hJ hS => ?_)
  exact w_vretK hC (hJ.nw hW rq_nil (by funext j; first | (simp [upd, sI]; done) | (simp only [upd, sI]; (repeat' split) <;> first | rfl | omega)) (fun x hx => hT_full _ _)) hS (by decide) (by decide) dX7_init_234
