set_option maxHeartbeats 4000000 in
set_option maxRecDepth 100000 in
theorem c_X8_init {l : Launch} {D : va_G} {ca : Nat → ClassId} {base : Nat} {ad : Adr} {i : Nat} {L : List (Nat × Nat)} {ρ : Rh} {σ : Sg} (h1 : ρ 8 i = rb 8) (h2 : σ 8 i = fun _ => 0) (hB : (8, i) ∈ L) (had31 : ad 31 0 = base + (L.length + 0)) (had32 : ad 32 0 = base + (L.length + 1)) (had34 : ad 34 0 = base + (L.length + 2)) (had35 : ad 35 0 = base + (L.length + 3)) (had36 : ad 36 0 = base + (L.length + 4)) (had37 : ad 37 0 = base + (L.length + 5)) (had38 : ad 38 0 = base + (L.length + 6)) (had39 : ad 39 0 = base + (L.length + 7)) (had40 : ad 40 0 = base + (L.length + 8)) (had41 : ad 41 0 = base + (L.length + 9)) (had42 : ad 42 0 = base + (L.length + 10)) (had43 : ad 43 0 = base + (L.length + 11)) (had44 : ad 44 0 = base + (L.length + 12)) (had45 : ad 45 0 = base + (L.length + 13)) (had46 : ad 46 0 = base + (L.length + 14)) (had47 : ad 47 0 = base + (L.length + 15)) (had49 : ad 49 0 = base + (L.length + 16)) (had50 : ad 50 0 = base + (L.length + 17)) (had51 : ad 51 0 = base + (L.length + 18)) (had52 : ad 52 0 = base + (L.length + 19)) (had53 : ad 53 0 = base + (L.length + 20)) (had54 : ad 54 0 = base + (L.length + 21)) (had55 : ad 55 0 = base + (L.length + 22)) (had56 : ad 56 0 = base + (L.length + 23)) (had58 : ad 58 0 = base + (L.length + 24)) (had59 : ad 59 0 = base + (L.length + 25)) (had60 : ad 60 0 = base + (L.length + 26)) (had61 : ad 61 0 = base + (L.length + 27)) (had62 : ad 62 0 = base + (L.length + 28)) (had63 : ad 63 0 = base + (L.length + 29)) (had64 : ad 64 0 = base + (L.length + 30)) (had65 : ad 65 0 = base + (L.length + 31)) (had66 : ad 66 0 = base + (L.length + 32)) (had73 : ad 73 0 = base + (L.length + 33)) (had77 : ad 77 0 = base + (L.length + 34)) : Mk l yX8_init cX8_init 2 { frames := 1, cells := 35, slots := 846, locals := 12 } D ca base ad 8 i L [(31, 0), (32, 0), (34, 0), (35, 0), (36, 0), (37, 0), (38, 0), (39, 0), (40, 0), (41, 0), (42, 0), (43, 0), (44, 0), (45, 0), (46, 0), (47, 0), (49, 0), (50, 0), (51, 0), (52, 0), (53, 0), (54, 0), (55, 0), (56, 0), (58, 0), (59, 0), (60, 0), (61, 0), (62, 0), (63, 0), (64, 0), (65, 0), (66, 0), (73, 0), (77, 0)] ρ σ [] := by
  refine w_ofK (by decide +kernel) rfl (by decide) ?_
  intro p e s m args below meth c hC hW hS hw0 ls hl hin
  have hx := hC.1
  have hb := hC.2.1
  have hI : Iv 8 i L [] ρ σ ρ σ (rq [1, 2, 4, 5, 6, 7, 8, 9, 10, 11, 12, 13, 14, 15, 16, 17, 19, 20, 21, 22, 23, 24, 25, 26, 28, 29, 30, 31, 32, 33, 34, 35, 36, 43, 47]) (fun _ => 0) (fun _ _ _ => 0) := ⟨fun _ _ _ => ⟨rfl, rfl⟩, h1, h2, (fun _ h => by cases h), hB, (fun _ h => by cases h)⟩
  have hW : Wz D ca base ad ρ (L ++ []) σ s.heap := by rw [List.append_nil]; exact hW
  refine lv_aload_n hx hb dX8_init_0 rfl (lv_at hl 0 rfl) ?_
  refine w_objI hC hl q_921 dX8_init_1 (by decide) ?_
  refine lv_aload_n hx hb dX8_init_4 rfl (lv_at hl 0 rfl) ?_
  refine lv_bipush (v := 6) hx hb dX8_init_5 (by decide) ?_
  refine n_newa hC hW hI hS (kr := 31) (ir := 0) had31 (ty := .int) rfl q_90 (t := 0) rfl (fun _ => rfl) rfl (fun cA => by rw [vp_cell_i]; rfl) (by decide) (n2 := 6) (by decide) (by decide) rfl rfl (by decide) (by decide) dX8_init_7 (c2 := 1) (s2 := 6) (N2 := [(31, 0)]) rfl rfl rfl (fun ρc σc H hW hI hS => ?_)
  refine n_putF hC hW hI hS rfl kf8 1 (by decide) q_923 rfl hin rfl (tyX8_ok 1 (by decide)) rfl rfl (by show 1 < 48; decide) (rq_step (by decide)) rfl dX8_init_9 (fun ρc H locs hW hI hS => ?_)
  refine lv_aload_n hx hb dX8_init_12 rfl (lv_at hl 0 rfl) ?_
  refine lv_bipush (v := 6) hx hb dX8_init_13 (by decide) ?_
  refine n_newa hC hW hI hS (kr := 32) (ir := 0) had32 (ty := .int) rfl q_90 (t := 0) rfl (fun _ => rfl) rfl (fun cA => by rw [vp_cell_i]; rfl) (by decide) (n2 := 6) (by decide) (by decide) rfl rfl (by decide) (by decide) dX8_init_15 (c2 := 2) (s2 := 12) (N2 := [(31, 0), (32, 0)]) rfl rfl rfl (fun ρc σc H hW hI hS => ?_)
  refine n_putF hC hW hI hS rfl kf8 2 (by decide) q_924 rfl hin rfl (tyX8_ok 2 (by decide)) rfl rfl (by show 2 < 48; decide) (rq_step (by decide)) rfl dX8_init_17 (fun ρc H locs hW hI hS => ?_)
  refine lv_aload_n hx hb dX8_init_20 rfl (lv_at hl 0 rfl) ?_
  refine lv_bipush (v := 12) hx hb dX8_init_21 (by decide) ?_
  refine n_newa hC hW hI hS (kr := 34) (ir := 0) had34 (ty := .int) rfl q_90 (t := 0) rfl (fun _ => rfl) rfl (fun cA => by rw [vp_cell_i]; rfl) (by decide) (n2 := 12) (by decide) (by decide) rfl rfl (by decide) (by decide) dX8_init_23 (c2 := 3) (s2 := 24) (N2 := [(31, 0), (32, 0), (34, 0)]) rfl rfl rfl (fun ρc σc H hW hI hS => ?_)
  refine n_putF hC hW hI hS rfl kf8 4 (by decide) q_926 rfl hin rfl (tyX8_ok 4 (by decide)) rfl rfl (by show 4 < 48; decide) (rq_step (by decide)) rfl dX8_init_25 (fun ρc H locs hW hI hS => ?_)
  refine lv_aload_n hx hb dX8_init_28 rfl (lv_at hl 0 rfl) ?_
  refine lv_bipush (v := 12) hx hb dX8_init_29 (by decide) ?_
  refine n_newa hC hW hI hS (kr := 35) (ir := 0) had35 (ty := .int) rfl q_90 (t := 0) rfl (fun _ => rfl) rfl (fun cA => by rw [vp_cell_i]; rfl) (by decide) (n2 := 12) (by decide) (by decide) rfl rfl (by decide) (by decide) dX8_init_31 (c2 := 4) (s2 := 36) (N2 := [(31, 0), (32, 0), (34, 0), (35, 0)]) rfl rfl rfl (fun ρc σc H hW hI hS => ?_)
  refine n_putF hC hW hI hS rfl kf8 5 (by decide) q_927 rfl hin rfl (tyX8_ok 5 (by decide)) rfl rfl (by show 5 < 48; decide) (rq_step (by decide)) rfl dX8_init_33 (fun ρc H locs hW hI hS => ?_)
  refine lv_aload_n hx hb dX8_init_36 rfl (lv_at hl 0 rfl) ?_
  refine lv_bipush (v := 12) hx hb dX8_init_37 (by decide) ?_
  refine n_newa hC hW hI hS (kr := 36) (ir := 0) had36 (ty := .int) rfl q_90 (t := 0) rfl (fun _ => rfl) rfl (fun cA => by rw [vp_cell_i]; rfl) (by decide) (n2 := 12) (by decide) (by decide) rfl rfl (by decide) (by decide) dX8_init_39 (c2 := 5) (s2 := 48) (N2 := [(31, 0), (32, 0), (34, 0), (35, 0), (36, 0)]) rfl rfl rfl (fun ρc σc H hW hI hS => ?_)
  refine n_putF hC hW hI hS rfl kf8 6 (by decide) q_928 rfl hin rfl (tyX8_ok 6 (by decide)) rfl rfl (by show 6 < 48; decide) (rq_step (by decide)) rfl dX8_init_41 (fun ρc H locs hW hI hS => ?_)
  refine lv_aload_n hx hb dX8_init_44 rfl (lv_at hl 0 rfl) ?_
  refine lv_bipush (v := 12) hx hb dX8_init_45 (by decide) ?_
  refine n_newa hC hW hI hS (kr := 37) (ir := 0) had37 (ty := .int) rfl q_90 (t := 0) rfl (fun _ => rfl) rfl (fun cA => by rw [vp_cell_i]; rfl) (by decide) (n2 := 12) (by decide) (by decide) rfl rfl (by decide) (by decide) dX8_init_47 (c2 := 6) (s2 := 60) (N2 := [(31, 0), (32, 0), (34, 0), (35, 0), (36, 0), (37, 0)]) rfl rfl rfl (fun ρc σc H hW hI hS => ?_)
  refine n_putF hC hW hI hS rfl kf8 7 (by decide) q_929 rfl hin rfl (tyX8_ok 7 (by decide)) rfl rfl (by show 7 < 48; decide) (rq_step (by decide)) rfl dX8_init_49 (fun ρc H locs hW hI hS => ?_)
  refine lv_aload_n hx hb dX8_init_52 rfl (lv_at hl 0 rfl) ?_
  refine lv_bipush (v := 12) hx hb dX8_init_53 (by decide) ?_
  refine n_newa hC hW hI hS (kr := 38) (ir := 0) had38 (ty := .int) rfl q_90 (t := 0) rfl (fun _ => rfl) rfl (fun cA => by rw [vp_cell_i]; rfl) (by decide) (n2 := 12) (by decide) (by decide) rfl rfl (by decide) (by decide) dX8_init_55 (c2 := 7) (s2 := 72) (N2 := [(31, 0), (32, 0), (34, 0), (35, 0), (36, 0), (37, 0), (38, 0)]) rfl rfl rfl (fun ρc σc H hW hI hS => ?_)
  refine n_putF hC hW hI hS rfl kf8 8 (by decide) q_930 rfl hin rfl (tyX8_ok 8 (by decide)) rfl rfl (by show 8 < 48; decide) (rq_step (by decide)) rfl dX8_init_57 (fun ρc H locs hW hI hS => ?_)
  refine lv_aload_n hx hb dX8_init_60 rfl (lv_at hl 0 rfl) ?_
  refine lv_bipush (v := 12) hx hb dX8_init_61 (by decide) ?_
  refine n_newa hC hW hI hS (kr := 39) (ir := 0) had39 (ty := .int) rfl q_90 (t := 0) rfl (fun _ => rfl) rfl (fun cA => by rw [vp_cell_i]; rfl) (by decide) (n2 := 12) (by decide) (by decide) rfl rfl (by decide) (by decide) dX8_init_63 (c2 := 8) (s2 := 84) (N2 := [(31, 0), (32, 0), (34, 0), (35, 0), (36, 0), (37, 0), (38, 0), (39, 0)]) rfl rfl rfl (fun ρc σc H hW hI hS => ?_)
  refine n_putF hC hW hI hS rfl kf8 9 (by decide) q_931 rfl hin rfl (tyX8_ok 9 (by decide)) rfl rfl (by show 9 < 48; decide) (rq_step (by decide)) rfl dX8_init_65 (fun ρc H locs hW hI hS => ?_)
  refine lv_aload_n hx hb dX8_init_68 rfl (lv_at hl 0 rfl) ?_
  refine lv_bipush (v := 12) hx hb dX8_init_69 (by decide) ?_
  refine n_newa hC hW hI hS (kr := 40) (ir := 0) had40 (ty := .int) rfl q_90 (t := 0) rfl (fun _ => rfl) rfl (fun cA => by rw [vp_cell_i]; rfl) (by decide) (n2 := 12) (by decide) (by decide) rfl rfl (by decide) (by decide) dX8_init_71 (c2 := 9) (s2 := 96) (N2 := [(31, 0), (32, 0), (34, 0), (35, 0), (36, 0), (37, 0), (38, 0), (39, 0), (40, 0)]) rfl rfl rfl (fun ρc σc H hW hI hS => ?_)
  refine n_putF hC hW hI hS rfl kf8 10 (by decide) q_932 rfl hin rfl (tyX8_ok 10 (by decide)) rfl rfl (by show 10 < 48; decide) (rq_step (by decide)) rfl dX8_init_73 (fun ρc H locs hW hI hS => ?_)
  refine lv_aload_n hx hb dX8_init_76 rfl (lv_at hl 0 rfl) ?_
  refine lv_bipush (v := 12) hx hb dX8_init_77 (by decide) ?_
  refine n_newa hC hW hI hS (kr := 41) (ir := 0) had41 (ty := .int) rfl q_90 (t := 0) rfl (fun _ => rfl) rfl (fun cA => by rw [vp_cell_i]; rfl) (by decide) (n2 := 12) (by decide) (by decide) rfl rfl (by decide) (by decide) dX8_init_79 (c2 := 10) (s2 := 108) (N2 := [(31, 0), (32, 0), (34, 0), (35, 0), (36, 0), (37, 0), (38, 0), (39, 0), (40, 0), (41, 0)]) rfl rfl rfl (fun ρc σc H hW hI hS => ?_)
  refine n_putF hC hW hI hS rfl kf8 11 (by decide) q_933 rfl hin rfl (tyX8_ok 11 (by decide)) rfl rfl (by show 11 < 48; decide) (rq_step (by decide)) rfl dX8_init_81 (fun ρc H locs hW hI hS => ?_)
  refine lv_aload_n hx hb dX8_init_84 rfl (lv_at hl 0 rfl) ?_
  refine lv_bipush (v := 60) hx hb dX8_init_85 (by decide) ?_
  refine n_newa hC hW hI hS (kr := 42) (ir := 0) had42 (ty := .int) rfl q_90 (t := 0) rfl (fun _ => rfl) rfl (fun cA => by rw [vp_cell_i]; rfl) (by decide) (n2 := 60) (by decide) (by decide) rfl rfl (by decide) (by decide) dX8_init_87 (c2 := 11) (s2 := 168) (N2 := [(31, 0), (32, 0), (34, 0), (35, 0), (36, 0), (37, 0), (38, 0), (39, 0), (40, 0), (41, 0), (42, 0)]) rfl rfl rfl (fun ρc σc H hW hI hS => ?_)
  refine n_putF hC hW hI hS rfl kf8 12 (by decide) q_934 rfl hin rfl (tyX8_ok 12 (by decide)) rfl rfl (by show 12 < 48; decide) (rq_step (by decide)) rfl dX8_init_89 (fun ρc H locs hW hI hS => ?_)
  refine lv_aload_n hx hb dX8_init_92 rfl (lv_at hl 0 rfl) ?_
  refine lv_bipush (v := 60) hx hb dX8_init_93 (by decide) ?_
  refine n_newa hC hW hI hS (kr := 43) (ir := 0) had43 (ty := .boolean) rfl q_1067 (t := 1) rfl (fun _ => rfl) rfl (fun cA => by rw [vp_cell_i]; rfl) (by decide) (n2 := 60) (by decide) (by decide) rfl rfl (by decide) (by decide) dX8_init_95 (c2 := 12) (s2 := 228) (N2 := [(31, 0), (32, 0), (34, 0), (35, 0), (36, 0), (37, 0), (38, 0), (39, 0), (40, 0), (41, 0), (42, 0), (43, 0)]) rfl rfl rfl (fun ρc σc H hW hI hS => ?_)
  refine n_putF hC hW hI hS rfl kf8 13 (by decide) q_935 rfl hin rfl (tyX8_ok 13 (by decide)) rfl rfl (by show 13 < 48; decide) (rq_step (by decide)) rfl dX8_init_97 (fun ρc H locs hW hI hS => ?_)
  refine lv_aload_n hx hb dX8_init_100 rfl (lv_at hl 0 rfl) ?_
  refine lv_bipush (v := 60) hx hb dX8_init_101 (by decide) ?_
  refine n_newa hC hW hI hS (kr := 44) (ir := 0) had44 (ty := .int) rfl q_90 (t := 0) rfl (fun _ => rfl) rfl (fun cA => by rw [vp_cell_i]; rfl) (by decide) (n2 := 60) (by decide) (by decide) rfl rfl (by decide) (by decide) dX8_init_103 (c2 := 13) (s2 := 288) (N2 := [(31, 0), (32, 0), (34, 0), (35, 0), (36, 0), (37, 0), (38, 0), (39, 0), (40, 0), (41, 0), (42, 0), (43, 0), (44, 0)]) rfl rfl rfl (fun ρc σc H hW hI hS => ?_)
  refine n_putF hC hW hI hS rfl kf8 14 (by decide) q_936 rfl hin rfl (tyX8_ok 14 (by decide)) rfl rfl (by show 14 < 48; decide) (rq_step (by decide)) rfl dX8_init_105 (fun ρc H locs hW hI hS => ?_)
  refine lv_aload_n hx hb dX8_init_108 rfl (lv_at hl 0 rfl) ?_
  refine lv_bipush (v := 60) hx hb dX8_init_109 (by decide) ?_
  refine n_newa hC hW hI hS (kr := 45) (ir := 0) had45 (ty := .boolean) rfl q_1067 (t := 1) rfl (fun _ => rfl) rfl (fun cA => by rw [vp_cell_i]; rfl) (by decide) (n2 := 60) (by decide) (by decide) rfl rfl (by decide) (by decide) dX8_init_111 (c2 := 14) (s2 := 348) (N2 := [(31, 0), (32, 0), (34, 0), (35, 0), (36, 0), (37, 0), (38, 0), (39, 0), (40, 0), (41, 0), (42, 0), (43, 0), (44, 0), (45, 0)]) rfl rfl rfl (fun ρc σc H hW hI hS => ?_)
  refine n_putF hC hW hI hS rfl kf8 15 (by decide) q_937 rfl hin rfl (tyX8_ok 15 (by decide)) rfl rfl (by show 15 < 48; decide) (rq_step (by decide)) rfl dX8_init_113 (fun ρc H locs hW hI hS => ?_)
  refine lv_aload_n hx hb dX8_init_116 rfl (lv_at hl 0 rfl) ?_
  refine lv_bipush (v := 16) hx hb dX8_init_117 (by decide) ?_
  refine n_newa hC hW hI hS (kr := 46) (ir := 0) had46 (ty := .int) rfl q_90 (t := 0) rfl (fun _ => rfl) rfl (fun cA => by rw [vp_cell_i]; rfl) (by decide) (n2 := 16) (by decide) (by decide) rfl rfl (by decide) (by decide) dX8_init_119 (c2 := 15) (s2 := 364) (N2 := [(31, 0), (32, 0), (34, 0), (35, 0), (36, 0), (37, 0), (38, 0), (39, 0), (40, 0), (41, 0), (42, 0), (43, 0), (44, 0), (45, 0), (46, 0)]) rfl rfl rfl (fun ρc σc H hW hI hS => ?_)
  refine n_putF hC hW hI hS rfl kf8 16 (by decide) q_938 rfl hin rfl (tyX8_ok 16 (by decide)) rfl rfl (by show 16 < 48; decide) (rq_step (by decide)) rfl dX8_init_121 (fun ρc H locs hW hI hS => ?_)
  refine lv_aload_n hx hb dX8_init_124 rfl (lv_at hl 0 rfl) ?_
  refine lv_bipush (v := 16) hx hb dX8_init_125 (by decide) ?_
  refine n_newa hC hW hI hS (kr := 47) (ir := 0) had47 (ty := .int) rfl q_90 (t := 0) rfl (fun _ => rfl) rfl (fun cA => by rw [vp_cell_i]; rfl) (by decide) (n2 := 16) (by decide) (by decide) rfl rfl (by decide) (by decide) dX8_init_127 (c2 := 16) (s2 := 380) (N2 := [(31, 0), (32, 0), (34, 0), (35, 0), (36, 0), (37, 0), (38, 0), (39, 0), (40, 0), (41, 0), (42, 0), (43, 0), (44, 0), (45, 0), (46, 0), (47, 0)]) rfl rfl rfl (fun ρc σc H hW hI hS => ?_)
  refine n_putF hC hW hI hS rfl kf8 17 (by decide) q_939 rfl hin rfl (tyX8_ok 17 (by decide)) rfl rfl (by show 17 < 48; decide) (rq_step (by decide)) rfl dX8_init_129 (fun ρc H locs hW hI hS => ?_)
  refine lv_aload_n hx hb dX8_init_132 rfl (lv_at hl 0 rfl) ?_
  refine lv_bipush (v := 8) hx hb dX8_init_133 (by decide) ?_
  refine n_newa hC hW hI hS (kr := 49) (ir := 0) had49 (ty := .int) rfl q_90 (t := 0) rfl (fun _ => rfl) rfl (fun cA => by rw [vp_cell_i]; rfl) (by decide) (n2 := 8) (by decide) (by decide) rfl rfl (by decide) (by decide) dX8_init_135 (c2 := 17) (s2 := 388) (N2 := [(31, 0), (32, 0), (34, 0), (35, 0), (36, 0), (37, 0), (38, 0), (39, 0), (40, 0), (41, 0), (42, 0), (43, 0), (44, 0), (45, 0), (46, 0), (47, 0), (49, 0)]) rfl rfl rfl (fun ρc σc H hW hI hS => ?_)
  refine n_putF hC hW hI hS rfl kf8 19 (by decide) q_941 rfl hin rfl (tyX8_ok 19 (by decide)) rfl rfl (by show 19 < 48; decide) (rq_step (by decide)) rfl dX8_init_137 (fun ρc H locs hW hI hS => ?_)
  refine lv_aload_n hx hb dX8_init_140 rfl (lv_at hl 0 rfl) ?_
  refine lv_bipush (v := 8) hx hb dX8_init_141 (by decide) ?_
  refine n_newa hC hW hI hS (kr := 50) (ir := 0) had50 (ty := .int) rfl q_90 (t := 0) rfl (fun _ => rfl) rfl (fun cA => by rw [vp_cell_i]; rfl) (by decide) (n2 := 8) (by decide) (by decide) rfl rfl (by decide) (by decide) dX8_init_143 (c2 := 18) (s2 := 396) (N2 := [(31, 0), (32, 0), (34, 0), (35, 0), (36, 0), (37, 0), (38, 0), (39, 0), (40, 0), (41, 0), (42, 0), (43, 0), (44, 0), (45, 0), (46, 0), (47, 0), (49, 0), (50, 0)]) rfl rfl rfl (fun ρc σc H hW hI hS => ?_)
  refine n_putF hC hW hI hS rfl kf8 20 (by decide) q_942 rfl hin rfl (tyX8_ok 20 (by decide)) rfl rfl (by show 20 < 48; decide) (rq_step (by decide)) rfl dX8_init_145 (fun ρc H locs hW hI hS => ?_)
  refine lv_aload_n hx hb dX8_init_148 rfl (lv_at hl 0 rfl) ?_
  refine lv_bipush (v := 8) hx hb dX8_init_149 (by decide) ?_
  refine n_newa hC hW hI hS (kr := 51) (ir := 0) had51 (ty := .int) rfl q_90 (t := 0) rfl (fun _ => rfl) rfl (fun cA => by rw [vp_cell_i]; rfl) (by decide) (n2 := 8) (by decide) (by decide) rfl rfl (by decide) (by decide) dX8_init_151 (c2 := 19) (s2 := 404) (N2 := [(31, 0), (32, 0), (34, 0), (35, 0), (36, 0), (37, 0), (38, 0), (39, 0), (40, 0), (41, 0), (42, 0), (43, 0), (44, 0), (45, 0), (46, 0), (47, 0), (49, 0), (50, 0), (51, 0)]) rfl rfl rfl (fun ρc σc H hW hI hS => ?_)
  refine n_putF hC hW hI hS rfl kf8 21 (by decide) q_943 rfl hin rfl (tyX8_ok 21 (by decide)) rfl rfl (by show 21 < 48; decide) (rq_step (by decide)) rfl dX8_init_153 (fun ρc H locs hW hI hS => ?_)
  refine lv_aload_n hx hb dX8_init_156 rfl (lv_at hl 0 rfl) ?_
  refine lv_bipush (v := 8) hx hb dX8_init_157 (by decide) ?_
  refine n_newa hC hW hI hS (kr := 52) (ir := 0) had52 (ty := .int) rfl q_90 (t := 0) rfl (fun _ => rfl) rfl (fun cA => by rw [vp_cell_i]; rfl) (by decide) (n2 := 8) (by decide) (by decide) rfl rfl (by decide) (by decide) dX8_init_159 (c2 := 20) (s2 := 412) (N2 := [(31, 0), (32, 0), (34, 0), (35, 0), (36, 0), (37, 0), (38, 0), (39, 0), (40, 0), (41, 0), (42, 0), (43, 0), (44, 0), (45, 0), (46, 0), (47, 0), (49, 0), (50, 0), (51, 0), (52, 0)]) rfl rfl rfl (fun ρc σc H hW hI hS => ?_)
  refine n_putF hC hW hI hS rfl kf8 22 (by decide) q_944 rfl hin rfl (tyX8_ok 22 (by decide)) rfl rfl (by show 22 < 48; decide) (rq_step (by decide)) rfl dX8_init_161 (fun ρc H locs hW hI hS => ?_)
  refine lv_aload_n hx hb dX8_init_164 rfl (lv_at hl 0 rfl) ?_
  refine lv_bipush (v := 8) hx hb dX8_init_165 (by decide) ?_
  refine n_newa hC hW hI hS (kr := 53) (ir := 0) had53 (ty := .int) rfl q_90 (t := 0) rfl (fun _ => rfl) rfl (fun cA => by rw [vp_cell_i]; rfl) (by decide) (n2 := 8) (by decide) (by decide) rfl rfl (by decide) (by decide) dX8_init_167 (c2 := 21) (s2 := 420) (N2 := [(31, 0), (32, 0), (34, 0), (35, 0), (36, 0), (37, 0), (38, 0), (39, 0), (40, 0), (41, 0), (42, 0), (43, 0), (44, 0), (45, 0), (46, 0), (47, 0), (49, 0), (50, 0), (51, 0), (52, 0), (53, 0)]) rfl rfl rfl (fun ρc σc H hW hI hS => ?_)
  refine n_putF hC hW hI hS rfl kf8 23 (by decide) q_945 rfl hin rfl (tyX8_ok 23 (by decide)) rfl rfl (by show 23 < 48; decide) (rq_step (by decide)) rfl dX8_init_169 (fun ρc H locs hW hI hS => ?_)
  refine lv_aload_n hx hb dX8_init_172 rfl (lv_at hl 0 rfl) ?_
  refine lv_bipush (v := 8) hx hb dX8_init_173 (by decide) ?_
  refine n_newa hC hW hI hS (kr := 54) (ir := 0) had54 (ty := .int) rfl q_90 (t := 0) rfl (fun _ => rfl) rfl (fun cA => by rw [vp_cell_i]; rfl) (by decide) (n2 := 8) (by decide) (by decide) rfl rfl (by decide) (by decide) dX8_init_175 (c2 := 22) (s2 := 428) (N2 := [(31, 0), (32, 0), (34, 0), (35, 0), (36, 0), (37, 0), (38, 0), (39, 0), (40, 0), (41, 0), (42, 0), (43, 0), (44, 0), (45, 0), (46, 0), (47, 0), (49, 0), (50, 0), (51, 0), (52, 0), (53, 0), (54, 0)]) rfl rfl rfl (fun ρc σc H hW hI hS => ?_)
  refine n_putF hC hW hI hS rfl kf8 24 (by decide) q_946 rfl hin rfl (tyX8_ok 24 (by decide)) rfl rfl (by show 24 < 48; decide) (rq_step (by decide)) rfl dX8_init_177 (fun ρc H locs hW hI hS => ?_)
  refine lv_aload_n hx hb dX8_init_180 rfl (lv_at hl 0 rfl) ?_
  refine lv_bipush (v := 8) hx hb dX8_init_181 (by decide) ?_
  refine n_newa hC hW hI hS (kr := 55) (ir := 0) had55 (ty := .int) rfl q_90 (t := 0) rfl (fun _ => rfl) rfl (fun cA => by rw [vp_cell_i]; rfl) (by decide) (n2 := 8) (by decide) (by decide) rfl rfl (by decide) (by decide) dX8_init_183 (c2 := 23) (s2 := 436) (N2 := [(31, 0), (32, 0), (34, 0), (35, 0), (36, 0), (37, 0), (38, 0), (39, 0), (40, 0), (41, 0), (42, 0), (43, 0), (44, 0), (45, 0), (46, 0), (47, 0), (49, 0), (50, 0), (51, 0), (52, 0), (53, 0), (54, 0), (55, 0)]) rfl rfl rfl (fun ρc σc H hW hI hS => ?_)
  refine n_putF hC hW hI hS rfl kf8 25 (by decide) q_947 rfl hin rfl (tyX8_ok 25 (by decide)) rfl rfl (by show 25 < 48; decide) (rq_step (by decide)) rfl dX8_init_185 (fun ρc H locs hW hI hS => ?_)
  refine lv_aload_n hx hb dX8_init_188 rfl (lv_at hl 0 rfl) ?_
  refine lv_bipush (v := 8) hx hb dX8_init_189 (by decide) ?_
  refine n_newa hC hW hI hS (kr := 56) (ir := 0) had56 (ty := .int) rfl q_90 (t := 0) rfl (fun _ => rfl) rfl (fun cA => by rw [vp_cell_i]; rfl) (by decide) (n2 := 8) (by decide) (by decide) rfl rfl (by decide) (by decide) dX8_init_191 (c2 := 24) (s2 := 444) (N2 := [(31, 0), (32, 0), (34, 0), (35, 0), (36, 0), (37, 0), (38, 0), (39, 0), (40, 0), (41, 0), (42, 0), (43, 0), (44, 0), (45, 0), (46, 0), (47, 0), (49, 0), (50, 0), (51, 0), (52, 0), (53, 0), (54, 0), (55, 0), (56, 0)]) rfl rfl rfl (fun ρc σc H hW hI hS => ?_)
  refine n_putF hC hW hI hS rfl kf8 26 (by decide) q_948 rfl hin rfl (tyX8_ok 26 (by decide)) rfl rfl (by show 26 < 48; decide) (rq_step (by decide)) rfl dX8_init_193 (fun ρc H locs hW hI hS => ?_)
  refine lv_aload_n hx hb dX8_init_196 rfl (lv_at hl 0 rfl) ?_
  refine lv_bipush (v := 10) hx hb dX8_init_197 (by decide) ?_
  refine n_newa hC hW hI hS (kr := 58) (ir := 0) had58 (ty := .int) rfl q_90 (t := 0) rfl (fun _ => rfl) rfl (fun cA => by rw [vp_cell_i]; rfl) (by decide) (n2 := 10) (by decide) (by decide) rfl rfl (by decide) (by decide) dX8_init_199 (c2 := 25) (s2 := 454) (N2 := [(31, 0), (32, 0), (34, 0), (35, 0), (36, 0), (37, 0), (38, 0), (39, 0), (40, 0), (41, 0), (42, 0), (43, 0), (44, 0), (45, 0), (46, 0), (47, 0), (49, 0), (50, 0), (51, 0), (52, 0), (53, 0), (54, 0), (55, 0), (56, 0), (58, 0)]) rfl rfl rfl (fun ρc σc H hW hI hS => ?_)
  refine n_putF hC hW hI hS rfl kf8 28 (by decide) q_950 rfl hin rfl (tyX8_ok 28 (by decide)) rfl rfl (by show 28 < 48; decide) (rq_step (by decide)) rfl dX8_init_201 (fun ρc H locs hW hI hS => ?_)
  refine lv_aload_n hx hb dX8_init_204 rfl (lv_at hl 0 rfl) ?_
  refine lv_bipush (v := 10) hx hb dX8_init_205 (by decide) ?_
  refine n_newa hC hW hI hS (kr := 59) (ir := 0) had59 (ty := .int) rfl q_90 (t := 0) rfl (fun _ => rfl) rfl (fun cA => by rw [vp_cell_i]; rfl) (by decide) (n2 := 10) (by decide) (by decide) rfl rfl (by decide) (by decide) dX8_init_207 (c2 := 26) (s2 := 464) (N2 := [(31, 0), (32, 0), (34, 0), (35, 0), (36, 0), (37, 0), (38, 0), (39, 0), (40, 0), (41, 0), (42, 0), (43, 0), (44, 0), (45, 0), (46, 0), (47, 0), (49, 0), (50, 0), (51, 0), (52, 0), (53, 0), (54, 0), (55, 0), (56, 0), (58, 0), (59, 0)]) rfl rfl rfl (fun ρc σc H hW hI hS => ?_)
  refine n_putF hC hW hI hS rfl kf8 29 (by decide) q_951 rfl hin rfl (tyX8_ok 29 (by decide)) rfl rfl (by show 29 < 48; decide) (rq_step (by decide)) rfl dX8_init_209 (fun ρc H locs hW hI hS => ?_)
  refine lv_aload_n hx hb dX8_init_212 rfl (lv_at hl 0 rfl) ?_
  refine lv_bipush (v := 10) hx hb dX8_init_213 (by decide) ?_
  refine n_newa hC hW hI hS (kr := 60) (ir := 0) had60 (ty := .int) rfl q_90 (t := 0) rfl (fun _ => rfl) rfl (fun cA => by rw [vp_cell_i]; rfl) (by decide) (n2 := 10) (by decide) (by decide) rfl rfl (by decide) (by decide) dX8_init_215 (c2 := 27) (s2 := 474) (N2 := [(31, 0), (32, 0), (34, 0), (35, 0), (36, 0), (37, 0), (38, 0), (39, 0), (40, 0), (41, 0), (42, 0), (43, 0), (44, 0), (45, 0), (46, 0), (47, 0), (49, 0), (50, 0), (51, 0), (52, 0), (53, 0), (54, 0), (55, 0), (56, 0), (58, 0), (59, 0), (60, 0)]) rfl rfl rfl (fun ρc σc H hW hI hS => ?_)
  refine n_putF hC hW hI hS rfl kf8 30 (by decide) q_952 rfl hin rfl (tyX8_ok 30 (by decide)) rfl rfl (by show 30 < 48; decide) (rq_step (by decide)) rfl dX8_init_217 (fun ρc H locs hW hI hS => ?_)
  refine lv_aload_n hx hb dX8_init_220 rfl (lv_at hl 0 rfl) ?_
  refine lv_bipush (v := 10) hx hb dX8_init_221 (by decide) ?_
  refine n_newa hC hW hI hS (kr := 61) (ir := 0) had61 (ty := .int) rfl q_90 (t := 0) rfl (fun _ => rfl) rfl (fun cA => by rw [vp_cell_i]; rfl) (by decide) (n2 := 10) (by decide) (by decide) rfl rfl (by decide) (by decide) dX8_init_223 (c2 := 28) (s2 := 484) (N2 := [(31, 0), (32, 0), (34, 0), (35, 0), (36, 0), (37, 0), (38, 0), (39, 0), (40, 0), (41, 0), (42, 0), (43, 0), (44, 0), (45, 0), (46, 0), (47, 0), (49, 0), (50, 0), (51, 0), (52, 0), (53, 0), (54, 0), (55, 0), (56, 0), (58, 0), (59, 0), (60, 0), (61, 0)]) rfl rfl rfl (fun ρc σc H hW hI hS => ?_)
  refine n_putF hC hW hI hS rfl kf8 31 (by decide) q_953 rfl hin rfl (tyX8_ok 31 (by decide)) rfl rfl (by show 31 < 48; decide) (rq_step (by decide)) rfl dX8_init_225 (fun ρc H locs hW hI hS => ?_)
  refine lv_aload_n hx hb dX8_init_228 rfl (lv_at hl 0 rfl) ?_
  refine lv_bipush (v := 10) hx hb dX8_init_229 (by decide) ?_
  refine n_newa hC hW hI hS (kr := 62) (ir := 0) had62 (ty := .int) rfl q_90 (t := 0) rfl (fun _ => rfl) rfl (fun cA => by rw [vp_cell_i]; rfl) (by decide) (n2 := 10) (by decide) (by decide) rfl rfl (by decide) (by decide) dX8_init_231 (c2 := 29) (s2 := 494) (N2 := [(31, 0), (32, 0), (34, 0), (35, 0), (36, 0), (37, 0), (38, 0), (39, 0), (40, 0), (41, 0), (42, 0), (43, 0), (44, 0), (45, 0), (46, 0), (47, 0), (49, 0), (50, 0), (51, 0), (52, 0), (53, 0), (54, 0), (55, 0), (56, 0), (58, 0), (59, 0), (60, 0), (61, 0), (62, 0)]) rfl rfl rfl (fun ρc σc H hW hI hS => ?_)
  refine n_putF hC hW hI hS rfl kf8 32 (by decide) q_954 rfl hin rfl (tyX8_ok 32 (by decide)) rfl rfl (by show 32 < 48; decide) (rq_step (by decide)) rfl dX8_init_233 (fun ρc H locs hW hI hS => ?_)
  refine lv_aload_n hx hb dX8_init_236 rfl (lv_at hl 0 rfl) ?_
  refine lv_bipush (v := 10) hx hb dX8_init_237 (by decide) ?_
  refine n_newa hC hW hI hS (kr := 63) (ir := 0) had63 (ty := .int) rfl q_90 (t := 0) rfl (fun _ => rfl) rfl (fun cA => by rw [vp_cell_i]; rfl) (by decide) (n2 := 10) (by decide) (by decide) rfl rfl (by decide) (by decide) dX8_init_239 (c2 := 30) (s2 := 504) (N2 := [(31, 0), (32, 0), (34, 0), (35, 0), (36, 0), (37, 0), (38, 0), (39, 0), (40, 0), (41, 0), (42, 0), (43, 0), (44, 0), (45, 0), (46, 0), (47, 0), (49, 0), (50, 0), (51, 0), (52, 0), (53, 0), (54, 0), (55, 0), (56, 0), (58, 0), (59, 0), (60, 0), (61, 0), (62, 0), (63, 0)]) rfl rfl rfl (fun ρc σc H hW hI hS => ?_)
  refine n_putF hC hW hI hS rfl kf8 33 (by decide) q_955 rfl hin rfl (tyX8_ok 33 (by decide)) rfl rfl (by show 33 < 48; decide) (rq_step (by decide)) rfl dX8_init_241 (fun ρc H locs hW hI hS => ?_)
  refine lv_aload_n hx hb dX8_init_244 rfl (lv_at hl 0 rfl) ?_
  refine lv_bipush (v := 10) hx hb dX8_init_245 (by decide) ?_
  refine n_newa hC hW hI hS (kr := 64) (ir := 0) had64 (ty := .int) rfl q_90 (t := 0) rfl (fun _ => rfl) rfl (fun cA => by rw [vp_cell_i]; rfl) (by decide) (n2 := 10) (by decide) (by decide) rfl rfl (by decide) (by decide) dX8_init_247 (c2 := 31) (s2 := 514) (N2 := [(31, 0), (32, 0), (34, 0), (35, 0), (36, 0), (37, 0), (38, 0), (39, 0), (40, 0), (41, 0), (42, 0), (43, 0), (44, 0), (45, 0), (46, 0), (47, 0), (49, 0), (50, 0), (51, 0), (52, 0), (53, 0), (54, 0), (55, 0), (56, 0), (58, 0), (59, 0), (60, 0), (61, 0), (62, 0), (63, 0), (64, 0)]) rfl rfl rfl (fun ρc σc H hW hI hS => ?_)
  refine n_putF hC hW hI hS rfl kf8 34 (by decide) q_956 rfl hin rfl (tyX8_ok 34 (by decide)) rfl rfl (by show 34 < 48; decide) (rq_step (by decide)) rfl dX8_init_249 (fun ρc H locs hW hI hS => ?_)
  refine lv_aload_n hx hb dX8_init_252 rfl (lv_at hl 0 rfl) ?_
  refine lv_bipush (v := 10) hx hb dX8_init_253 (by decide) ?_
  refine n_newa hC hW hI hS (kr := 65) (ir := 0) had65 (ty := .int) rfl q_90 (t := 0) rfl (fun _ => rfl) rfl (fun cA => by rw [vp_cell_i]; rfl) (by decide) (n2 := 10) (by decide) (by decide) rfl rfl (by decide) (by decide) dX8_init_255 (c2 := 32) (s2 := 524) (N2 := [(31, 0), (32, 0), (34, 0), (35, 0), (36, 0), (37, 0), (38, 0), (39, 0), (40, 0), (41, 0), (42, 0), (43, 0), (44, 0), (45, 0), (46, 0), (47, 0), (49, 0), (50, 0), (51, 0), (52, 0), (53, 0), (54, 0), (55, 0), (56, 0), (58, 0), (59, 0), (60, 0), (61, 0), (62, 0), (63, 0), (64, 0), (65, 0)]) rfl rfl rfl (fun ρc σc H hW hI hS => ?_)
  refine n_putF hC hW hI hS rfl kf8 35 (by decide) q_957 rfl hin rfl (tyX8_ok 35 (by decide)) rfl rfl (by show 35 < 48; decide) (rq_step (by decide)) rfl dX8_init_257 (fun ρc H locs hW hI hS => ?_)
  refine lv_aload_n hx hb dX8_init_260 rfl (lv_at hl 0 rfl) ?_
  refine lv_bipush (v := 10) hx hb dX8_init_261 (by decide) ?_
  refine n_newa hC hW hI hS (kr := 66) (ir := 0) had66 (ty := .boolean) rfl q_1067 (t := 1) rfl (fun _ => rfl) rfl (fun cA => by rw [vp_cell_i]; rfl) (by decide) (n2 := 10) (by decide) (by decide) rfl rfl (by decide) (by decide) dX8_init_263 (c2 := 33) (s2 := 534) (N2 := [(31, 0), (32, 0), (34, 0), (35, 0), (36, 0), (37, 0), (38, 0), (39, 0), (40, 0), (41, 0), (42, 0), (43, 0), (44, 0), (45, 0), (46, 0), (47, 0), (49, 0), (50, 0), (51, 0), (52, 0), (53, 0), (54, 0), (55, 0), (56, 0), (58, 0), (59, 0), (60, 0), (61, 0), (62, 0), (63, 0), (64, 0), (65, 0), (66, 0)]) rfl rfl rfl (fun ρc σc H hW hI hS => ?_)
  refine n_putF hC hW hI hS rfl kf8 36 (by decide) q_958 rfl hin rfl (tyX8_ok 36 (by decide)) rfl rfl (by show 36 < 48; decide) (rq_step (by decide)) rfl dX8_init_265 (fun ρc H locs hW hI hS => ?_)
  refine lv_aload_n hx hb dX8_init_268 rfl (lv_at hl 0 rfl) ?_
  refine lv_bipush (v := 7) hx hb dX8_init_269 (by decide) ?_
  refine n_putI hC hW hI hS (C := RX8) rfl kf8 38 (by decide) q_960 rfl (tyX8_ok 38 (by decide)) rfl rfl (by show 38 < 48; decide) rfl rfl dX8_init_271 (fun σc H locs hW hI hS => ?_)
  refine lv_aload_n hx hb dX8_init_274 rfl (lv_at hl 0 rfl) ?_
  refine lv_bipush (v := 7) hx hb dX8_init_275 (by decide) ?_
  refine n_putI hC hW hI hS (C := RX8) rfl kf8 39 (by decide) q_961 rfl (tyX8_ok 39 (by decide)) rfl rfl (by show 39 < 48; decide) rfl rfl dX8_init_277 (fun σc H locs hW hI hS => ?_)
  refine lv_aload_n hx hb dX8_init_280 rfl (lv_at hl 0 rfl) ?_
  refine lv_bipush (v := 17) hx hb dX8_init_281 (by decide) ?_
  refine n_putI hC hW hI hS (C := RX8) rfl kf8 42 (by decide) q_964 rfl (tyX8_ok 42 (by decide)) rfl rfl (by show 42 < 48; decide) rfl rfl dX8_init_283 (fun σc H locs hW hI hS => ?_)
  refine lv_aload_n hx hb dX8_init_286 rfl (lv_at hl 0 rfl) ?_
  refine lv_bipush (v := 120) hx hb dX8_init_287 (by decide) ?_
  refine n_newa hC hW hI hS (kr := 73) (ir := 0) had73 (ty := .int) rfl q_90 (t := 0) rfl (fun _ => rfl) rfl (fun cA => by rw [vp_cell_i]; rfl) (by decide) (n2 := 120) (by decide) (by decide) rfl rfl (by decide) (by decide) dX8_init_289 (c2 := 34) (s2 := 654) (N2 := [(31, 0), (32, 0), (34, 0), (35, 0), (36, 0), (37, 0), (38, 0), (39, 0), (40, 0), (41, 0), (42, 0), (43, 0), (44, 0), (45, 0), (46, 0), (47, 0), (49, 0), (50, 0), (51, 0), (52, 0), (53, 0), (54, 0), (55, 0), (56, 0), (58, 0), (59, 0), (60, 0), (61, 0), (62, 0), (63, 0), (64, 0), (65, 0), (66, 0), (73, 0)]) rfl rfl rfl (fun ρc σc H hW hI hS => ?_)
  refine n_putF hC hW hI hS rfl kf8 43 (by decide) q_965 rfl hin rfl (tyX8_ok 43 (by decide)) rfl rfl (by show 43 < 48; decide) (rq_step (by decide)) rfl dX8_init_291 (fun ρc H locs hW hI hS => ?_)
  refine lv_aload_n hx hb dX8_init_294 rfl (lv_at hl 0 rfl) ?_
  refine lv_sipush (v := 192) hx hb dX8_init_295 (by decide) ?_
  refine n_newa hC hW hI hS (kr := 77) (ir := 0) had77 (ty := .int) rfl q_90 (t := 0) rfl (fun _ => rfl) rfl (fun cA => by rw [vp_cell_i]; rfl) (by decide) (n2 := 192) (by decide) (by decide) rfl rfl (by decide) (by decide) dX8_init_298 (c2 := 35) (s2 := 846) (N2 := [(31, 0), (32, 0), (34, 0), (35, 0), (36, 0), (37, 0), (38, 0), (39, 0), (40, 0), (41, 0), (42, 0), (43, 0), (44, 0), (45, 0), (46, 0), (47, 0), (49, 0), (50, 0), (51, 0), (52, 0), (53, 0), (54, 0), (55, 0), (56, 0), (58, 0), (59, 0), (60, 0), (61, 0), (62, 0), (63, 0), (64, 0), (65, 0), (66, 0), (73, 0), (77, 0)]) rfl rfl rfl (fun ρc σc H hW hI hS => ?_)
  refine n_putF hC hW hI hS rfl kf8 47 (by decide) q_969 rfl hin rfl (tyX8_ok 47 (by decide)) rfl rfl (by show 47 < 48; decide) (rq_step (by decide)) rfl dX8_init_300 (fun ρc H locs hW hI hS => ?_)
  refine lv_iconst (v := 0) hx hb dX8_init_303 (by decide) ?_
  refine lv_istore_n (lv' := [(1, .int (nI 0)), (0, .ref (ad 8 i))]) hx hb dX8_init_304 rfl hl (by decide) rfl (fun ls hl => ?_)
  obtain ⟨f9, hf9⟩ : ∃ f9, f9 = sI 8 i := ⟨_, rfl⟩
  have hI : Iv 8 i L [(31, 0), (32, 0), (34, 0), (35, 0), (36, 0), (37, 0), (38, 0), (39, 0), (40, 0), (41, 0), (42, 0), (43, 0), (44, 0), (45, 0), (46, 0), (47, 0), (49, 0), (50, 0), (51, 0), (52, 0), (53, 0), (54, 0), (55, 0), (56, 0), (58, 0), (59, 0), (60, 0), (61, 0), (62, 0), (63, 0), (64, 0), (65, 0), (66, 0), (73, 0), (77, 0)] ρ σ ρc σc (rq []) (sI 8 i) (gLp 47 0 0) := by
    have e : gLp 47 0 0 = fun _ _ _ => 0 := by funext a b c; simp [gLp]
    obtain ⟨h1, h2, h3, h4⟩ := hI
    rw [e]
    exact ⟨h1, h2, h3.trans (by funext j; first | (simp [upd, sI]; done) | (simp only [upd, sI]; (repeat' split) <;> first | rfl | omega)), h4⟩
  clear hf9 f9
  have loop : ∀ (n j : Nat), j + n = 16 → ∀ (σc : Sg) (H : Heap) (locs : List Loc) (ls : Array Slot), Wz D ca base ad ρc (L ++ [(31, 0), (32, 0), (34, 0), (35, 0), (36, 0), (37, 0), (38, 0), (39, 0), (40, 0), (41, 0), (42, 0), (43, 0), (44, 0), (45, 0), (46, 0), (47, 0), (49, 0), (50, 0), (51, 0), (52, 0), (53, 0), (54, 0), (55, 0), (56, 0), (58, 0), (59, 0), (60, 0), (61, 0), (62, 0), (63, 0), (64, 0), (65, 0), (66, 0), (73, 0), (77, 0)]) σc H → Iv 8 i L [(31, 0), (32, 0), (34, 0), (35, 0), (36, 0), (37, 0), (38, 0), (39, 0), (40, 0), (41, 0), (42, 0), (43, 0), (44, 0), (45, 0), (46, 0), (47, 0), (49, 0), (50, 0), (51, 0), (52, 0), (53, 0), (54, 0), (55, 0), (56, 0), (58, 0), (59, 0), (60, 0), (61, 0), (62, 0), (63, 0), (64, 0), (65, 0), (66, 0), (73, 0), (77, 0)] ρ σ ρc σc (rq []) (sI 8 i) (gLp 47 0 j) → va_S (Ab base) s.heap H locs → lv_has ls 2 [(1, .int (nI j)), (0, .ref (ad 8 i))] → W p l e { frames := 1, cells := 35, slots := 846, locals := 12 } s m args below meth c H locs 35 846 (MQ below (Rk D ca base ad 8 i L [(31, 0), (32, 0), (34, 0), (35, 0), (36, 0), (37, 0), (38, 0), (39, 0), (40, 0), (41, 0), (42, 0), (43, 0), (44, 0), (45, 0), (46, 0), (47, 0), (49, 0), (50, 0), (51, 0), (52, 0), (53, 0), (54, 0), (55, 0), (56, 0), (58, 0), (59, 0), (60, 0), (61, 0), (62, 0), (63, 0), (64, 0), (65, 0), (66, 0), (73, 0), (77, 0)] ρ σ) args s 35 846 (Ab base)) (F0 m 305 ls []) := by
    intro n
    induction n with
    | zero =>
      intro j hj σc H locs ls hW hI hS hl
      have h9 := hI.2.2.2.1
      have hre := (h9 (47, 0) (by simp)).2
      have hB9 : (47, 0) ∈ L ++ [(31, 0), (32, 0), (34, 0), (35, 0), (36, 0), (37, 0), (38, 0), (39, 0), (40, 0), (41, 0), (42, 0), (43, 0), (44, 0), (45, 0), (46, 0), (47, 0), (49, 0), (50, 0), (51, 0), (52, 0), (53, 0), (54, 0), (55, 0), (56, 0), (58, 0), (59, 0), (60, 0), (61, 0), (62, 0), (63, 0), (64, 0), (65, 0), (66, 0), (73, 0), (77, 0)] := List.mem_append_right _ (by simp)
      refine lv_iload_n hx hb dX8_init_305 rfl (lv_at hl 0 rfl) ?_
      refine lv_bipush (v := nI 16) hx hb dX8_init_306 (by decide) ?_
      refine lv_icmp_ge (tgt := 324) hx hb dX8_init_308 (by decide) (fun c_1 => ?_) (fun c_1 => ?_)
      · exact w_vretK hC (hI.nw hW rq_nil rfl (fun x hx => by
          rw [show j = 16 by omega]
          simp only [List.mem_cons, List.not_mem_nil, or_false] at hx
          rcases hx with rfl | rfl | rfl | rfl | rfl | rfl | rfl | rfl | rfl | rfl | rfl | rfl | rfl | rfl | rfl | rfl | rfl | rfl | rfl | rfl | rfl | rfl | rfl | rfl | rfl | rfl | rfl | rfl | rfl | rfl | rfl | rfl | rfl | rfl | rfl <;> (funext q; simp [gLp, sI]))) hS (by decide) (by decide) dX8_init_324
      · exact absurd (by rw [show j = 16 by omega]; decide) c_1
    | succ n ih =>
      intro j hj σc H locs ls hW hI hS hl
      have h9 := hI.2.2.2.1
      have hre := (h9 (47, 0) (by simp)).2
      have hB9 : (47, 0) ∈ L ++ [(31, 0), (32, 0), (34, 0), (35, 0), (36, 0), (37, 0), (38, 0), (39, 0), (40, 0), (41, 0), (42, 0), (43, 0), (44, 0), (45, 0), (46, 0), (47, 0), (49, 0), (50, 0), (51, 0), (52, 0), (53, 0), (54, 0), (55, 0), (56, 0), (58, 0), (59, 0), (60, 0), (61, 0), (62, 0), (63, 0), (64, 0), (65, 0), (66, 0), (73, 0), (77, 0)] := List.mem_append_right _ (by simp)
      refine lv_iload_n hx hb dX8_init_305 rfl (lv_at hl 0 rfl) ?_
      refine lv_bipush (v := nI 16) hx hb dX8_init_306 (by decide) ?_
      refine lv_icmp_ge (tgt := 324) hx hb dX8_init_308 (by decide) (fun c_1 => ?_) (fun c_1 => ?_)
      · exact absurd c_1 (nI_ge (show j < 16 by omega) (by decide))
      · have hjn : j < 16 := by omega
        refine lv_aload_n hx hb dX8_init_311 rfl (lv_at hl 1 rfl) ?_
        refine w_get hC hW.1 (List.mem_append_left _ hB) (by rw [hI.2.1, hI.2.2.1]; rfl) kf8 17 (by decide) q_939 (v := .ref (ad 47 0)) rfl dX8_init_312 ?_
        refine lv_iload_n hx hb dX8_init_315 rfl (lv_at hl 0 rfl) ?_
        refine lv_iconst (v := -1) hx hb dX8_init_316 (by decide) ?_
        refine n_iast hC hW hI hS (kr := 47) (ir := 0) (n := 16) (by simp) (fun f => rfl) (vp_in_nI hjn (by omega)) dX8_init_317 (fun σc H locs hW hI hS => ?_)
        rw [nI_clamp (show j < 2 ^ 31 by omega), gLp_step] at hI
        refine lv_iinc (v := nI (j + 1)) (lv' := [(1, .int (nI (j + 1))), (0, .ref (ad 8 i))]) hx hb dX8_init_318 hl (k := 0) rfl (nI_add j 1) (by decide) rfl (fun ls hl => ?_)
        refine lv_goto (tgt := 305) hx hb dX8_init_321 (by decide) ?_
        exact ih (j + 1) (by omega) σc H locs ls hW hI hS hl
  exact loop 16 0 rfl σc H locs ls hW hI hS hl
