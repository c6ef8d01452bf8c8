def m_X7_process (u : Int32) (d : Int32) (v : Int32) (w : Int32) (f : Int32) (b : Int32) (σ : Sg) : Option String × Int32 × Sg :=
  nd (e_X7_needPlace u 6) (nd (e_X7_needPlace d 4) (nd (e_X7_needRange v 0 3) (nd (e_X7_needRange w 0 7) (nd (e_X7_needRange f 0 7) (nd (e_X7_needRange b 0 7) (nd (e_X7_needSubset f b) (nd (e_X7_needRoom (σ 7 0 7) 8) ((none, ((σ 7 0 7) + (1 : Int32)) - (1 : Int32), us (us (us (us (us (us (us σ 0 ((σ 7 0 7).toNatClampNeg) 0 u) 0 ((σ 7 0 7).toNatClampNeg) 1 d) 0 ((σ 7 0 7).toNatClampNeg) 2 v) 0 ((σ 7 0 7).toNatClampNeg) 3 w) 0 ((σ 7 0 7).toNatClampNeg) 4 f) 0 ((σ 7 0 7).toNatClampNeg) 5 b) 7 0 7 ((σ 7 0 7) + (1 : Int32)))))))))))
set_option maxHeartbeats 4000000 in
set_option maxRecDepth 100000 in
theorem c_X7_process (l : Launch) (hl9 : l.stackTraces = false) (D : va_G) (ca : Nat → ClassId) (base : Nat) (ad : Adr) (σ : Sg) (u : Int32) (d : Int32) (v : Int32) (w : Int32) (f : Int32) (b : Int32) (hI : CInv σ) : Mx l yX7_process cX7_process 8 (some .int) { frames := 7, cells := 8, slots := 48, locals := 122 } D ca base ad ρm Lm [.ref (ad 7 0), .int u, .int d, .int v, .int w, .int f, .int b] σ (m_X7_process u d v w f b σ).1 (some (.int (m_X7_process u d v w f b σ).2.1)) (m_X7_process u d v w f b σ).2.2 := by
  refine w_ofX (by decide) (Nat.le_of_ble_eq_true rfl) rfl ?_
  intro p e s m args below meth c hC hW hS hout ls hl
  have hx := hC.1
  have hb := hC.2.1
  refine lv_iload_n hx hb dX7_process_0 rfl (lv_at hl 1 rfl) ?_
  refine lv_bipush (v := 6) hx hb dX7_process_1 (by decide) ?_
  refine w_callSX (As := [.int u, .int 6]) (rest := []) (st2 := []) hC hW hS hl cs_X7_76 (c_X7_needPlace l hl9 D ca base ad σ u 6 ) rfl rfl rfl ⟨Nat.le_of_ble_eq_true rfl, Nat.le_of_ble_eq_true rfl⟩ (Nat.le_of_ble_eq_true rfl) dX7_process_3 ⟨Nat.le_of_ble_eq_true rfl, Nat.le_of_ble_eq_true rfl⟩ (fun E ce q9 H locs e_1 hW hS hce hcv hcl => ?_) (fun e_1 H locs hW hS => ?_)
  · have hO : (m_X7_process u d v w f b σ).1 = some E := by rw [m_X7_process, e_1, nd_some]
    exact w_out hC hW hS hout hO hce hcv hcl (Nat.le_of_ble_eq_true rfl) (Nat.le_of_ble_eq_true rfl)
  refine lv_iload_n hx hb dX7_process_6 rfl (lv_at hl 2 rfl) ?_
  refine lv_iconst (v := 4) hx hb dX7_process_7 (by decide) ?_
  refine w_callSX (As := [.int d, .int 4]) (rest := []) (st2 := []) hC hW hS hl cs_X7_76 (c_X7_needPlace l hl9 D ca base ad σ d 4 ) rfl rfl rfl ⟨Nat.le_of_ble_eq_true rfl, Nat.le_of_ble_eq_true rfl⟩ (Nat.le_of_ble_eq_true rfl) dX7_process_8 ⟨Nat.le_of_ble_eq_true rfl, Nat.le_of_ble_eq_true rfl⟩ (fun E ce q9 H locs e_2 hW hS hce hcv hcl => ?_) (fun e_2 H locs hW hS => ?_)
  · have hO : (m_X7_process u d v w f b σ).1 = some E := by rw [m_X7_process, e_1, nd_none, e_2, nd_some]
    exact w_out hC hW hS hout hO hce hcv hcl (Nat.le_of_ble_eq_true rfl) (Nat.le_of_ble_eq_true rfl)
  refine lv_iload_n hx hb dX7_process_11 rfl (lv_at hl 3 rfl) ?_
  refine lv_iconst (v := 0) hx hb dX7_process_12 (by decide) ?_
  refine lv_iconst (v := 3) hx hb dX7_process_13 (by decide) ?_
  refine w_callSX (As := [.int v, .int 0, .int 3]) (rest := []) (st2 := []) hC hW hS hl cs_X7_107 (c_X7_needRange l hl9 D ca base ad σ v 0 3 ) rfl rfl rfl ⟨Nat.le_of_ble_eq_true rfl, Nat.le_of_ble_eq_true rfl⟩ (Nat.le_of_ble_eq_true rfl) dX7_process_14 ⟨Nat.le_of_ble_eq_true rfl, Nat.le_of_ble_eq_true rfl⟩ (fun E ce q9 H locs e_3 hW hS hce hcv hcl => ?_) (fun e_3 H locs hW hS => ?_)
  · have hO : (m_X7_process u d v w f b σ).1 = some E := by rw [m_X7_process, e_1, nd_none, e_2, nd_none, e_3, nd_some]
    exact w_out hC hW hS hout hO hce hcv hcl (Nat.le_of_ble_eq_true rfl) (Nat.le_of_ble_eq_true rfl)
  refine lv_iload hx hb dX7_process_17 (lv_at hl 4 rfl) ?_
  refine lv_iconst (v := 0) hx hb dX7_process_19 (by decide) ?_
  refine lv_bipush (v := 7) hx hb dX7_process_20 (by decide) ?_
  refine w_callSX (As := [.int w, .int 0, .int 7]) (rest := []) (st2 := []) hC hW hS hl cs_X7_107 (c_X7_needRange l hl9 D ca base ad σ w 0 7 ) rfl rfl rfl ⟨Nat.le_of_ble_eq_true rfl, Nat.le_of_ble_eq_true rfl⟩ (Nat.le_of_ble_eq_true rfl) dX7_process_22 ⟨Nat.le_of_ble_eq_true rfl, Nat.le_of_ble_eq_true rfl⟩ (fun E ce q9 H locs e_4 hW hS hce hcv hcl => ?_) (fun e_4 H locs hW hS => ?_)
  · have hO : (m_X7_process u d v w f b σ).1 = some E := by rw [m_X7_process, e_1, nd_none, e_2, nd_none, e_3, nd_none, e_4, nd_some]
    exact w_out hC hW hS hout hO hce hcv hcl (Nat.le_of_ble_eq_true rfl) (Nat.le_of_ble_eq_true rfl)
  refine lv_iload hx hb dX7_process_25 (lv_at hl 5 rfl) ?_
  refine lv_iconst (v := 0) hx hb dX7_process_27 (by decide) ?_
  refine lv_bipush (v := 7) hx hb dX7_process_28 (by decide) ?_
  refine w_callSX (As := [.int f, .int 0, .int 7]) (rest := []) (st2 := []) hC hW hS hl cs_X7_107 (c_X7_needRange l hl9 D ca base ad σ f 0 7 ) rfl rfl rfl ⟨Nat.le_of_ble_eq_true rfl, Nat.le_of_ble_eq_true rfl⟩ (Nat.le_of_ble_eq_true rfl) dX7_process_30 ⟨Nat.le_of_ble_eq_true rfl, Nat.le_of_ble_eq_true rfl⟩ (fun E ce q9 H locs e_5 hW hS hce hcv hcl => ?_) (fun e_5 H locs hW hS => ?_)
  · have hO : (m_X7_process u d v w f b σ).1 = some E := by rw [m_X7_process, e_1, nd_none, e_2, nd_none, e_3, nd_none, e_4, nd_none, e_5, nd_some]
    exact w_out hC hW hS hout hO hce hcv hcl (Nat.le_of_ble_eq_true rfl) (Nat.le_of_ble_eq_true rfl)
  refine lv_iload hx hb dX7_process_33 (lv_at hl 6 rfl) ?_
  refine lv_iconst (v := 0) hx hb dX7_process_35 (by decide) ?_
  refine lv_bipush (v := 7) hx hb dX7_process_36 (by decide) ?_
  refine w_callSX (As := [.int b, .int 0, .int 7]) (rest := []) (st2 := []) hC hW hS hl cs_X7_107 (c_X7_needRange l hl9 D ca base ad σ b 0 7 ) rfl rfl rfl ⟨Nat.le_of_ble_eq_true rfl, Nat.le_of_ble_eq_true rfl⟩ (Nat.le_of_ble_eq_true rfl) dX7_process_38 ⟨Nat.le_of_ble_eq_true rfl, Nat.le_of_ble_eq_true rfl⟩ (fun E ce q9 H locs e_6 hW hS hce hcv hcl => ?_) (fun e_6 H locs hW hS => ?_)
  · have hO : (m_X7_process u d v w f b σ).1 = some E := by rw [m_X7_process, e_1, nd_none, e_2, nd_none, e_3, nd_none, e_4, nd_none, e_5, nd_none, e_6, nd_some]
    exact w_out hC hW hS hout hO hce hcv hcl (Nat.le_of_ble_eq_true rfl) (Nat.le_of_ble_eq_true rfl)
  refine lv_iload hx hb dX7_process_41 (lv_at hl 5 rfl) ?_
  refine lv_iload hx hb dX7_process_43 (lv_at hl 6 rfl) ?_
  refine w_callSX (As := [.int f, .int b]) (rest := []) (st2 := []) hC hW hS hl cs_X7_186 (c_X7_needSubset l hl9 D ca base ad σ f b ) rfl rfl rfl ⟨Nat.le_of_ble_eq_true rfl, Nat.le_of_ble_eq_true rfl⟩ (Nat.le_of_ble_eq_true rfl) dX7_process_45 ⟨Nat.le_of_ble_eq_true rfl, Nat.le_of_ble_eq_true rfl⟩ (fun E ce q9 H locs e_7 hW hS hce hcv hcl => ?_) (fun e_7 H locs hW hS => ?_)
  · have hO : (m_X7_process u d v w f b σ).1 = some E := by rw [m_X7_process, e_1, nd_none, e_2, nd_none, e_3, nd_none, e_4, nd_none, e_5, nd_none, e_6, nd_none, e_7, nd_some]
    exact w_out hC hW hS hout hO hce hcv hcl (Nat.le_of_ble_eq_true rfl) (Nat.le_of_ble_eq_true rfl)
  refine lv_aload_n hx hb dX7_process_48 rfl (lv_at hl 0 rfl) ?_
  refine gf_X7_189 hC hW m_7 dX7_process_49 ?_
  refine lv_aload_n hx hb dX7_process_52 rfl (lv_at hl 0 rfl) ?_
  refine gf_X7_39 hC hW m_7 rfl dX7_process_53 ?_
  refine w_alen hC hW m_23 4 (v := 8) rfl rfl rfl dX7_process_56 ?_
  refine w_callSX (As := [.int (σ 7 0 7), .int 8]) (rest := []) (st2 := []) hC hW hS hl cs_X7_114 (c_X7_needRoom l hl9 D ca base ad σ (σ 7 0 7) 8 ) rfl rfl rfl ⟨Nat.le_of_ble_eq_true rfl, Nat.le_of_ble_eq_true rfl⟩ (Nat.le_of_ble_eq_true rfl) dX7_process_57 ⟨Nat.le_of_ble_eq_true rfl, Nat.le_of_ble_eq_true rfl⟩ (fun E ce q9 H locs e_8 hW hS hce hcv hcl => ?_) (fun e_8 H locs hW hS => ?_)
  · have hO : (m_X7_process u d v w f b σ).1 = some E := by rw [m_X7_process, e_1, nd_none, e_2, nd_none, e_3, nd_none, e_4, nd_none, e_5, nd_none, e_6, nd_none, e_7, nd_none, e_8, nd_some]
    exact w_out hC hW hS hout hO hce hcv hcl (Nat.le_of_ble_eq_true rfl) (Nat.le_of_ble_eq_true rfl)
  refine lv_aload_n hx hb dX7_process_60 rfl (lv_at hl 0 rfl) ?_
  refine gf_X7_39 hC hW m_7 rfl dX7_process_61 ?_
  refine lv_aload_n hx hb dX7_process_64 rfl (lv_at hl 0 rfl) ?_
  refine gf_X7_189 hC hW m_7 dX7_process_65 ?_
  have h_9 : vp_in (σ 7 0 7) 8 := (by obtain ⟨b, h1, h2⟩ := hI.2.2.1; exact nr_in (b := 8) rfl ⟨b, by omega, h2⟩ (by decide) (by decide) (by assumption))
  refine w_aald hC hW m_23 4 (n := 8) rfl rfl h_9 (by rfl) dX7_process_68 ?_
  refine lv_astore (lv' := [(7, .ref (ad 0 ((σ 7 0 7).toNatClampNeg))), (0, .ref (ad 7 0)), (1, .int u), (2, .int d), (3, .int v), (4, .int w), (5, .int f), (6, .int b)]) hx hb dX7_process_69 hl (by decide) rfl (fun ls hl => ?_)
  refine lv_aload hx hb dX7_process_71 (lv_at hl 0 rfl) ?_
  refine lv_iload_n hx hb dX7_process_73 rfl (lv_at hl 2 rfl) ?_
  refine pf_X7_192 hC hW (mm_0 (Nat.lt_trans (vp_lt h_9) (by decide))) hS dX7_process_74 (fun H locs hW hS => ?_)
  refine lv_aload hx hb dX7_process_77 (lv_at hl 0 rfl) ?_
  refine lv_iload_n hx hb dX7_process_79 rfl (lv_at hl 3 rfl) ?_
  refine pf_X7_195 hC hW (mm_0 (Nat.lt_trans (vp_lt h_9) (by decide))) hS dX7_process_80 (fun H locs hW hS => ?_)
  refine lv_aload hx hb dX7_process_83 (lv_at hl 0 rfl) ?_
  refine lv_iload_n hx hb dX7_process_85 rfl (lv_at hl 4 rfl) ?_
  refine pf_X7_162 hC hW (mm_0 (Nat.lt_trans (vp_lt h_9) (by decide))) hS dX7_process_86 (fun H locs hW hS => ?_)
  refine lv_aload hx hb dX7_process_89 (lv_at hl 0 rfl) ?_
  refine lv_iload hx hb dX7_process_91 (lv_at hl 5 rfl) ?_
  refine pf_X7_165 hC hW (mm_0 (Nat.lt_trans (vp_lt h_9) (by decide))) hS dX7_process_93 (fun H locs hW hS => ?_)
  refine lv_aload hx hb dX7_process_96 (lv_at hl 0 rfl) ?_
  refine lv_iload hx hb dX7_process_98 (lv_at hl 6 rfl) ?_
  refine pf_X7_198 hC hW (mm_0 (Nat.lt_trans (vp_lt h_9) (by decide))) hS dX7_process_100 (fun H locs hW hS => ?_)
  refine lv_aload hx hb dX7_process_103 (lv_at hl 0 rfl) ?_
  refine lv_iload hx hb dX7_process_105 (lv_at hl 7 rfl) ?_
  refine pf_X7_201 hC hW (mm_0 (Nat.lt_trans (vp_lt h_9) (by decide))) hS dX7_process_107 (fun H locs hW hS => ?_)
  refine lv_aload_n hx hb dX7_process_110 rfl (lv_at hl 1 rfl) ?_
  refine lv_dup hx hb dX7_process_111 rfl ?_
  refine gf_X7_189 hC hW m_7 dX7_process_112 ?_
  refine lv_eqi (y := σ 7 0 7) (by rw [us_k (by decide), us_k (by decide), us_k (by decide), us_k (by decide), us_k (by decide), us_k (by decide)]) ?_
  refine lv_iconst (v := 1) hx hb dX7_process_115 (by decide) ?_
  refine lv_iadd hx hb dX7_process_116 ?_
  refine pf_X7_189 hC hW m_7 hS dX7_process_117 (fun H locs hW hS => ?_)
  refine lv_aload_n hx hb dX7_process_120 rfl (lv_at hl 1 rfl) ?_
  refine gf_X7_189 hC hW m_7 dX7_process_121 ?_
  refine lv_eqi (y := (σ 7 0 7) + (1 : Int32)) (by rw [us_h]) ?_
  refine lv_iconst (v := 1) hx hb dX7_process_124 (by decide) ?_
  refine lv_isub hx hb dX7_process_125 ?_
  have hO : m_X7_process u d v w f b σ = (none, ((σ 7 0 7) + (1 : Int32)) - (1 : Int32), us (us (us (us (us (us (us σ 0 ((σ 7 0 7).toNatClampNeg) 0 u) 0 ((σ 7 0 7).toNatClampNeg) 1 d) 0 ((σ 7 0 7).toNatClampNeg) 2 v) 0 ((σ 7 0 7).toNatClampNeg) 3 w) 0 ((σ 7 0 7).toNatClampNeg) 4 f) 0 ((σ 7 0 7).toNatClampNeg) 5 b) 7 0 7 ((σ 7 0 7) + (1 : Int32))) := by rw [m_X7_process, e_1, nd_none, e_2, nd_none, e_3, nd_none, e_4, nd_none, e_5, nd_none, e_6, nd_none, e_7, nd_none, e_8, nd_none]
  exact w_iretZ hC hW hS hO (Nat.le_of_ble_eq_true rfl) (Nat.le_of_ble_eq_true rfl) dX7_process_126
theorem fr_X7_process {kk : Nat}  {u : Int32} {d : Int32} {v : Int32} {w : Int32} {f : Int32} {b : Int32} {σ : Sg} (h0 : kk ≠ 0) (h7 : kk ≠ 7) : (m_X7_process u d v w f b σ).2.2 kk = σ kk := by
  rw [m_X7_process]
  repeat' split
  all_goals (first | (simp only [nd_2, us_kk, ne_eq, not_false_eq_true, h0, h7]; done) | with_reducible rfl | (simp only [nd_2, us_kk, ne_eq, not_false_eq_true, h0, h7]; with_reducible rfl))

def m_X7_filter (k : Int32) (v : Int32) (σ : Sg) : Option String × Int32 × Sg :=
  nd (e_X7_needActor k σ) (nd (e_X7_needRange v 0 7) (nd (e_X7_needRoom (σ 0 k.toNatClampNeg 6) 3) ((none, (s_X0_addFilter k.toNatClampNeg v σ) 0 k.toNatClampNeg 7, s_X0_addFilter k.toNatClampNeg v σ))))
set_option maxHeartbeats 4000000 in
set_option maxRecDepth 100000 in
theorem c_X7_filter (l : Launch) (hl9 : l.stackTraces = false) (D : va_G) (ca : Nat → ClassId) (base : Nat) (ad : Adr) (σ : Sg) (k : Int32) (v : Int32) (hI : CInv σ) : Mx l yX7_filter cX7_filter 4 (some .int) { frames := 8, cells := 3, slots := 18, locals := 142 } D ca base ad ρm Lm [.ref (ad 7 0), .int k, .int v] σ (m_X7_filter k v σ).1 (some (.int (m_X7_filter k v σ).2.1)) (m_X7_filter k v σ).2.2 := by
  refine w_ofX (by decide) (Nat.le_of_ble_eq_true rfl) rfl ?_
  intro p e s m args below meth c hC hW hS hout ls hl
  have hx := hC.1
  have hb := hC.2.1
  refine lv_aload_n hx hb dX7_filter_0 rfl (lv_at hl 0 rfl) ?_
  refine lv_iload_n hx hb dX7_filter_1 rfl (lv_at hl 1 rfl) ?_
  refine w_callVX (As := [.int k]) (rest := []) (st2 := .ref (ad 0 k.toNatClampNeg) :: []) hC hW hS hl cv_X7_133 m_7 (by decide) rfl (c_X7_needActor l hl9 D ca base ad σ k (by first | assumption | decide | omega)) rfl rfl rfl ⟨Nat.le_of_ble_eq_true rfl, Nat.le_of_ble_eq_true rfl⟩ (Nat.le_of_ble_eq_true rfl) dX7_filter_2 ⟨Nat.le_of_ble_eq_true rfl, Nat.le_of_ble_eq_true rfl⟩ (fun E ce q9 H locs e_1 hW hS hce hcv hcl => ?_) (fun e_1 H locs hW hS => ?_)
  · have hO : (m_X7_filter k v σ).1 = some E := by rw [m_X7_filter, e_1, nd_some]
    exact w_out hC hW hS hout hO hce hcv hcl (Nat.le_of_ble_eq_true rfl) (Nat.le_of_ble_eq_true rfl)
  have hv_2 : vp_in k 8 := na_in hI e_1
  refine lv_astore_n (lv' := [(3, .ref (ad 0 k.toNatClampNeg)), (0, .ref (ad 7 0)), (1, .int k), (2, .int v)]) hx hb dX7_filter_5 rfl hl (by decide) rfl (fun ls hl => ?_)
  refine lv_iload_n hx hb dX7_filter_6 rfl (lv_at hl 3 rfl) ?_
  refine lv_iconst (v := 0) hx hb dX7_filter_7 (by decide) ?_
  refine lv_bipush (v := 7) hx hb dX7_filter_8 (by decide) ?_
  refine w_callSX (As := [.int v, .int 0, .int 7]) (rest := []) (st2 := []) hC hW hS hl cs_X7_107 (c_X7_needRange l hl9 D ca base ad σ v 0 7 ) rfl rfl rfl ⟨Nat.le_of_ble_eq_true rfl, Nat.le_of_ble_eq_true rfl⟩ (Nat.le_of_ble_eq_true rfl) dX7_filter_10 ⟨Nat.le_of_ble_eq_true rfl, Nat.le_of_ble_eq_true rfl⟩ (fun E ce q9 H locs e_3 hW hS hce hcv hcl => ?_) (fun e_3 H locs hW hS => ?_)
  · have hO : (m_X7_filter k v σ).1 = some E := by rw [m_X7_filter, e_1, nd_none, e_3, nd_some]
    exact w_out hC hW hS hout hO hce hcv hcl (Nat.le_of_ble_eq_true rfl) (Nat.le_of_ble_eq_true rfl)
  refine lv_aload_n hx hb dX7_filter_13 rfl (lv_at hl 0 rfl) ?_
  refine gf_X7_204 hC hW (mm_0 (Nat.lt_trans (vp_lt hv_2) (by decide))) dX7_filter_14 ?_
  refine lv_iconst (v := 3) hx hb dX7_filter_17 (by decide) ?_
  refine w_callSX (As := [.int (σ 0 k.toNatClampNeg 6), .int 3]) (rest := []) (st2 := []) hC hW hS hl cs_X7_114 (c_X7_needRoom l hl9 D ca base ad σ (σ 0 k.toNatClampNeg 6) 3 ) rfl rfl rfl ⟨Nat.le_of_ble_eq_true rfl, Nat.le_of_ble_eq_true rfl⟩ (Nat.le_of_ble_eq_true rfl) dX7_filter_18 ⟨Nat.le_of_ble_eq_true rfl, Nat.le_of_ble_eq_true rfl⟩ (fun E ce q9 H locs e_4 hW hS hce hcv hcl => ?_) (fun e_4 H locs hW hS => ?_)
  · have hO : (m_X7_filter k v σ).1 = some E := by rw [m_X7_filter, e_1, nd_none, e_3, nd_none, e_4, nd_some]
    exact w_out hC hW hS hout hO hce hcv hcl (Nat.le_of_ble_eq_true rfl) (Nat.le_of_ble_eq_true rfl)
  refine lv_aload_n hx hb dX7_filter_21 rfl (lv_at hl 0 rfl) ?_
  refine lv_iload_n hx hb dX7_filter_22 rfl (lv_at hl 3 rfl) ?_
  refine w_callV (As := [.int v]) (rest := []) (st2 := []) hC hW hS hl cv_X7_207 (mm_0 (Nat.lt_trans (vp_lt hv_2) (by decide))) (by decide) rfl (c_X0_addFilter l hl9 D ca base ad σ k.toNatClampNeg v (Nat.lt_trans (vp_lt hv_2) (by decide))) rfl rfl rfl ⟨Nat.le_of_ble_eq_true rfl, Nat.le_of_ble_eq_true rfl⟩ (Nat.le_of_ble_eq_true rfl) dX7_filter_23 ⟨Nat.le_of_ble_eq_true rfl, Nat.le_of_ble_eq_true rfl⟩ (fun H locs hW hS => ?_)
  refine lv_aload_n hx hb dX7_filter_26 rfl (lv_at hl 0 rfl) ?_
  refine gf_X7_211 hC hW (mm_0 (Nat.lt_trans (vp_lt hv_2) (by decide))) dX7_filter_27 ?_
  have hO : m_X7_filter k v σ = (none, (s_X0_addFilter k.toNatClampNeg v σ) 0 k.toNatClampNeg 7, s_X0_addFilter k.toNatClampNeg v σ) := by rw [m_X7_filter, e_1, nd_none, e_3, nd_none, e_4, nd_none]
  exact w_iretZ hC hW hS hO (Nat.le_of_ble_eq_true rfl) (Nat.le_of_ble_eq_true rfl) dX7_filter_30
theorem fr_X7_filter {kk : Nat}  {k : Int32} {v : Int32} {σ : Sg} (h0 : kk ≠ 0) (h10 : kk ≠ 10) : (m_X7_filter k v σ).2.2 kk = σ kk := by
  rw [m_X7_filter]
  repeat' split
  all_goals (first | (simp only [nd_2, us_kk, ne_eq, not_false_eq_true, h0, h10, fr_X0_addFilter]; done) | with_reducible rfl | (simp only [nd_2, us_kk, ne_eq, not_false_eq_true, h0, h10, fr_X0_addFilter]; with_reducible rfl))

def m_X7_bound (k : Int32) (v : Int32) (σ : Sg) : Option String × Int32 × Sg :=
  nd (e_X7_needActor k σ) (nd (e_X7_needRange v 0 7) ((none, (σ 0 k.toNatClampNeg 5) &&& (v ^^^ (-1 : Int32)), us (us σ 0 k.toNatClampNeg 5 ((σ 0 k.toNatClampNeg 5) &&& (v ^^^ (-1 : Int32)))) 0 k.toNatClampNeg 4 ((σ 0 k.toNatClampNeg 4) &&& (v ^^^ (-1 : Int32))))))
set_option maxHeartbeats 4000000 in
set_option maxRecDepth 100000 in
theorem c_X7_bound (l : Launch) (hl9 : l.stackTraces = false) (D : va_G) (ca : Nat → ClassId) (base : Nat) (ad : Adr) (σ : Sg) (k : Int32) (v : Int32) (hI : CInv σ) : Mx l yX7_bound cX7_bound 4 (some .int) { frames := 8, cells := 2, slots := 12, locals := 142 } D ca base ad ρm Lm [.ref (ad 7 0), .int k, .int v] σ (m_X7_bound k v σ).1 (some (.int (m_X7_bound k v σ).2.1)) (m_X7_bound k v σ).2.2 := by
  refine w_ofX (by decide) (Nat.le_of_ble_eq_true rfl) rfl ?_
  intro p e s m args below meth c hC hW hS hout ls hl
  have hx := hC.1
  have hb := hC.2.1
  refine lv_aload_n hx hb dX7_bound_0 rfl (lv_at hl 0 rfl) ?_
  refine lv_iload_n hx hb dX7_bound_1 rfl (lv_at hl 1 rfl) ?_
  refine w_callVX (As := [.int k]) (rest := []) (st2 := .ref (ad 0 k.toNatClampNeg) :: []) hC hW hS hl cv_X7_133 m_7 (by decide) rfl (c_X7_needActor l hl9 D ca base ad σ k (by first | assumption | decide | omega)) rfl rfl rfl ⟨Nat.le_of_ble_eq_true rfl, Nat.le_of_ble_eq_true rfl⟩ (Nat.le_of_ble_eq_true rfl) dX7_bound_2 ⟨Nat.le_of_ble_eq_true rfl, Nat.le_of_ble_eq_true rfl⟩ (fun E ce q9 H locs e_1 hW hS hce hcv hcl => ?_) (fun e_1 H locs hW hS => ?_)
  · have hO : (m_X7_bound k v σ).1 = some E := by rw [m_X7_bound, e_1, nd_some]
    exact w_out hC hW hS hout hO hce hcv hcl (Nat.le_of_ble_eq_true rfl) (Nat.le_of_ble_eq_true rfl)
  have hv_2 : vp_in k 8 := na_in hI e_1
  refine lv_astore_n (lv' := [(3, .ref (ad 0 k.toNatClampNeg)), (0, .ref (ad 7 0)), (1, .int k), (2, .int v)]) hx hb dX7_bound_5 rfl hl (by decide) rfl (fun ls hl => ?_)
  refine lv_iload_n hx hb dX7_bound_6 rfl (lv_at hl 3 rfl) ?_
  refine lv_iconst (v := 0) hx hb dX7_bound_7 (by decide) ?_
  refine lv_bipush (v := 7) hx hb dX7_bound_8 (by decide) ?_
  refine w_callSX (As := [.int v, .int 0, .int 7]) (rest := []) (st2 := []) hC hW hS hl cs_X7_107 (c_X7_needRange l hl9 D ca base ad σ v 0 7 ) rfl rfl rfl ⟨Nat.le_of_ble_eq_true rfl, Nat.le_of_ble_eq_true rfl⟩ (Nat.le_of_ble_eq_true rfl) dX7_bound_10 ⟨Nat.le_of_ble_eq_true rfl, Nat.le_of_ble_eq_true rfl⟩ (fun E ce q9 H locs e_3 hW hS hce hcv hcl => ?_) (fun e_3 H locs hW hS => ?_)
  · have hO : (m_X7_bound k v σ).1 = some E := by rw [m_X7_bound, e_1, nd_none, e_3, nd_some]
    exact w_out hC hW hS hout hO hce hcv hcl (Nat.le_of_ble_eq_true rfl) (Nat.le_of_ble_eq_true rfl)
  refine lv_aload_n hx hb dX7_bound_13 rfl (lv_at hl 0 rfl) ?_
  refine lv_dup hx hb dX7_bound_14 rfl ?_
  refine gf_X7_201 hC hW (mm_0 (Nat.lt_trans (vp_lt hv_2) (by decide))) dX7_bound_15 ?_
  refine lv_iload_n hx hb dX7_bound_18 rfl (lv_at hl 3 rfl) ?_
  refine lv_iconst (v := (-1)) hx hb dX7_bound_19 (by decide) ?_
  refine lv_ixor hx hb dX7_bound_20 ?_
  refine lv_iand hx hb dX7_bound_21 ?_
  refine pf_X7_201 hC hW (mm_0 (Nat.lt_trans (vp_lt hv_2) (by decide))) hS dX7_bound_22 (fun H locs hW hS => ?_)
  refine lv_aload_n hx hb dX7_bound_25 rfl (lv_at hl 0 rfl) ?_
  refine lv_dup hx hb dX7_bound_26 rfl ?_
  refine gf_X7_198 hC hW (mm_0 (Nat.lt_trans (vp_lt hv_2) (by decide))) dX7_bound_27 ?_
  refine lv_eqi (y := σ 0 k.toNatClampNeg 4) (by rw [us_j (by decide)]) ?_
  refine lv_iload_n hx hb dX7_bound_30 rfl (lv_at hl 3 rfl) ?_
  refine lv_iconst (v := (-1)) hx hb dX7_bound_31 (by decide) ?_
  refine lv_ixor hx hb dX7_bound_32 ?_
  refine lv_iand hx hb dX7_bound_33 ?_
  refine pf_X7_198 hC hW (mm_0 (Nat.lt_trans (vp_lt hv_2) (by decide))) hS dX7_bound_34 (fun H locs hW hS => ?_)
  refine lv_aload_n hx hb dX7_bound_37 rfl (lv_at hl 0 rfl) ?_
  refine gf_X7_201 hC hW (mm_0 (Nat.lt_trans (vp_lt hv_2) (by decide))) dX7_bound_38 ?_
  refine lv_eqi (y := (σ 0 k.toNatClampNeg 5) &&& (v ^^^ (-1 : Int32))) (by rw [us_j (by decide), us_h]) ?_
  have hO : m_X7_bound k v σ = (none, (σ 0 k.toNatClampNeg 5) &&& (v ^^^ (-1 : Int32)), us (us σ 0 k.toNatClampNeg 5 ((σ 0 k.toNatClampNeg 5) &&& (v ^^^ (-1 : Int32)))) 0 k.toNatClampNeg 4 ((σ 0 k.toNatClampNeg 4) &&& (v ^^^ (-1 : Int32)))) := by rw [m_X7_bound, e_1, nd_none, e_3, nd_none]
  exact w_iretZ hC hW hS hO (Nat.le_of_ble_eq_true rfl) (Nat.le_of_ble_eq_true rfl) dX7_bound_41
theorem fr_X7_bound {kk : Nat}  {k : Int32} {v : Int32} {σ : Sg} (h0 : kk ≠ 0) : (m_X7_bound k v σ).2.2 kk = σ kk := by
  rw [m_X7_bound]
  repeat' split
  all_goals (first | (simp only [nd_2, us_kk, ne_eq, not_false_eq_true, h0]; done) | with_reducible rfl | (simp only [nd_2, us_kk, ne_eq, not_false_eq_true, h0]; with_reducible rfl))

def m_X7_about (k : Int32) (v : Int32) (σ : Sg) : Option String × Int32 × Sg :=
  nd (e_X7_needActor k σ) (nd (e_X7_needRange v 0 6) (if v = 0 then (none, σ 0 k.toNatClampNeg 0, σ)
  else if v = 1 then (none, σ 0 k.toNatClampNeg 1, σ)
  else if v = 2 then (none, σ 0 k.toNatClampNeg 2, σ)
  else if v = 3 then (none, σ 0 k.toNatClampNeg 3, σ)
  else if v = 4 then (none, σ 0 k.toNatClampNeg 4, σ)
  else if v = 5 then (none, σ 0 k.toNatClampNeg 5, σ)
  else (none, σ 0 k.toNatClampNeg 7, σ)))
set_option maxHeartbeats 4000000 in
set_option maxRecDepth 100000 in
theorem c_X7_about (l : Launch) (hl9 : l.stackTraces = false) (D : va_G) (ca : Nat → ClassId) (base : Nat) (ad : Adr) (σ : Sg) (k : Int32) (v : Int32) (hI : CInv σ) : Mx l yX7_about cX7_about 4 (some .int) { frames := 8, cells := 2, slots := 12, locals := 142 } D ca base ad ρm Lm [.ref (ad 7 0), .int k, .int v] σ (m_X7_about k v σ).1 (some (.int (m_X7_about k v σ).2.1)) (m_X7_about k v σ).2.2 := by
  refine w_ofX (by decide) (Nat.le_of_ble_eq_true rfl) rfl ?_
  intro p e s m args below meth c hC hW hS hout ls hl
  have hx := hC.1
  have hb := hC.2.1
  refine lv_aload_n hx hb dX7_about_0 rfl (lv_at hl 0 rfl) ?_
  refine lv_iload_n hx hb dX7_about_1 rfl (lv_at hl 1 rfl) ?_
  refine w_callVX (As := [.int k]) (rest := []) (st2 := .ref (ad 0 k.toNatClampNeg) :: []) hC hW hS hl cv_X7_133 m_7 (by decide) rfl (c_X7_needActor l hl9 D ca base ad σ k (by first | assumption | decide | omega)) rfl rfl rfl ⟨Nat.le_of_ble_eq_true rfl, Nat.le_of_ble_eq_true rfl⟩ (Nat.le_of_ble_eq_true rfl) dX7_about_2 ⟨Nat.le_of_ble_eq_true rfl, Nat.le_of_ble_eq_true rfl⟩ (fun E ce q9 H locs e_1 hW hS hce hcv hcl => ?_) (fun e_1 H locs hW hS => ?_)
  · have hO : (m_X7_about k v σ).1 = some E := by rw [m_X7_about, e_1, nd_some]
    exact w_out hC hW hS hout hO hce hcv hcl (Nat.le_of_ble_eq_true rfl) (Nat.le_of_ble_eq_true rfl)
  have hv_2 : vp_in k 8 := na_in hI e_1
  refine lv_astore_n (lv' := [(3, .ref (ad 0 k.toNatClampNeg)), (0, .ref (ad 7 0)), (1, .int k), (2, .int v)]) hx hb dX7_about_5 rfl hl (by decide) rfl (fun ls hl => ?_)
  refine lv_iload_n hx hb dX7_about_6 rfl (lv_at hl 3 rfl) ?_
  refine lv_iconst (v := 0) hx hb dX7_about_7 (by decide) ?_
  refine lv_bipush (v := 6) hx hb dX7_about_8 (by decide) ?_
  refine w_callSX (As := [.int v, .int 0, .int 6]) (rest := []) (st2 := []) hC hW hS hl cs_X7_107 (c_X7_needRange l hl9 D ca base ad σ v 0 6 ) rfl rfl rfl ⟨Nat.le_of_ble_eq_true rfl, Nat.le_of_ble_eq_true rfl⟩ (Nat.le_of_ble_eq_true rfl) dX7_about_10 ⟨Nat.le_of_ble_eq_true rfl, Nat.le_of_ble_eq_true rfl⟩ (fun E ce q9 H locs e_3 hW hS hce hcv hcl => ?_) (fun e_3 H locs hW hS => ?_)
  · have hO : (m_X7_about k v σ).1 = some E := by rw [m_X7_about, e_1, nd_none, e_3, nd_some]
    exact w_out hC hW hS hout hO hce hcv hcl (Nat.le_of_ble_eq_true rfl) (Nat.le_of_ble_eq_true rfl)
  refine lv_iload_n hx hb dX7_about_13 rfl (lv_at hl 3 rfl) ?_
  by_cases c_5 : v = 0
  · refine lv_tableIn (tgt := 52) hx hb dX7_about_14 (by rw [c_5]; decide) (by rw [c_5]; decide) (off := 38) (by rw [c_5]; rfl) (by decide) ?_
    refine lv_aload_n hx hb dX7_about_52 rfl (lv_at hl 0 rfl) ?_
    refine gf_X7_192 hC hW (mm_0 (Nat.lt_trans (vp_lt hv_2) (by decide))) dX7_about_53 ?_
    have hO : m_X7_about k v σ = (none, σ 0 k.toNatClampNeg 0, σ) := by rw [m_X7_about, e_1, nd_none, e_3, nd_none, if_pos c_5]
    exact w_iretZ hC hW hS hO (Nat.le_of_ble_eq_true rfl) (Nat.le_of_ble_eq_true rfl) dX7_about_56
  by_cases c_6 : v = 1
  · refine lv_tableIn (tgt := 57) hx hb dX7_about_14 (by rw [c_6]; decide) (by rw [c_6]; decide) (off := 43) (by rw [c_6]; rfl) (by decide) ?_
    refine lv_aload_n hx hb dX7_about_57 rfl (lv_at hl 0 rfl) ?_
    refine gf_X7_195 hC hW (mm_0 (Nat.lt_trans (vp_lt hv_2) (by decide))) dX7_about_58 ?_
    have hO : m_X7_about k v σ = (none, σ 0 k.toNatClampNeg 1, σ) := by rw [m_X7_about, e_1, nd_none, e_3, nd_none, if_neg c_5, if_pos c_6]
    exact w_iretZ hC hW hS hO (Nat.le_of_ble_eq_true rfl) (Nat.le_of_ble_eq_true rfl) dX7_about_61
  by_cases c_7 : v = 2
  · refine lv_tableIn (tgt := 62) hx hb dX7_about_14 (by rw [c_7]; decide) (by rw [c_7]; decide) (off := 48) (by rw [c_7]; rfl) (by decide) ?_
    refine lv_aload_n hx hb dX7_about_62 rfl (lv_at hl 0 rfl) ?_
    refine gf_X7_162 hC hW (mm_0 (Nat.lt_trans (vp_lt hv_2) (by decide))) dX7_about_63 ?_
    have hO : m_X7_about k v σ = (none, σ 0 k.toNatClampNeg 2, σ) := by rw [m_X7_about, e_1, nd_none, e_3, nd_none, if_neg c_5, if_neg c_6, if_pos c_7]
    exact w_iretZ hC hW hS hO (Nat.le_of_ble_eq_true rfl) (Nat.le_of_ble_eq_true rfl) dX7_about_66
  by_cases c_8 : v = 3
  · refine lv_tableIn (tgt := 67) hx hb dX7_about_14 (by rw [c_8]; decide) (by rw [c_8]; decide) (off := 53) (by rw [c_8]; rfl) (by decide) ?_
    refine lv_aload_n hx hb dX7_about_67 rfl (lv_at hl 0 rfl) ?_
    refine gf_X7_165 hC hW (mm_0 (Nat.lt_trans (vp_lt hv_2) (by decide))) dX7_about_68 ?_
    have hO : m_X7_about k v σ = (none, σ 0 k.toNatClampNeg 3, σ) := by rw [m_X7_about, e_1, nd_none, e_3, nd_none, if_neg c_5, if_neg c_6, if_neg c_7, if_pos c_8]
    exact w_iretZ hC hW hS hO (Nat.le_of_ble_eq_true rfl) (Nat.le_of_ble_eq_true rfl) dX7_about_71
  by_cases c_9 : v = 4
  · refine lv_tableIn (tgt := 72) hx hb dX7_about_14 (by rw [c_9]; decide) (by rw [c_9]; decide) (off := 58) (by rw [c_9]; rfl) (by decide) ?_
    refine lv_aload_n hx hb dX7_about_72 rfl (lv_at hl 0 rfl) ?_
    refine gf_X7_198 hC hW (mm_0 (Nat.lt_trans (vp_lt hv_2) (by decide))) dX7_about_73 ?_
    have hO : m_X7_about k v σ = (none, σ 0 k.toNatClampNeg 4, σ) := by rw [m_X7_about, e_1, nd_none, e_3, nd_none, if_neg c_5, if_neg c_6, if_neg c_7, if_neg c_8, if_pos c_9]
    exact w_iretZ hC hW hS hO (Nat.le_of_ble_eq_true rfl) (Nat.le_of_ble_eq_true rfl) dX7_about_76
  by_cases c_10 : v = 5
  · refine lv_tableIn (tgt := 77) hx hb dX7_about_14 (by rw [c_10]; decide) (by rw [c_10]; decide) (off := 63) (by rw [c_10]; rfl) (by decide) ?_
    refine lv_aload_n hx hb dX7_about_77 rfl (lv_at hl 0 rfl) ?_
    refine gf_X7_201 hC hW (mm_0 (Nat.lt_trans (vp_lt hv_2) (by decide))) dX7_about_78 ?_
    have hO : m_X7_about k v σ = (none, σ 0 k.toNatClampNeg 5, σ) := by rw [m_X7_about, e_1, nd_none, e_3, nd_none, if_neg c_5, if_neg c_6, if_neg c_7, if_neg c_8, if_neg c_9, if_pos c_10]
    exact w_iretZ hC hW hS hO (Nat.le_of_ble_eq_true rfl) (Nat.le_of_ble_eq_true rfl) dX7_about_81
  refine lv_tableOut (tgt := 82) hx hb dX7_about_14 (sw6 c_5 c_6 c_7 c_8 c_9 c_10) (by decide) ?_
  refine lv_aload_n hx hb dX7_about_82 rfl (lv_at hl 0 rfl) ?_
  refine gf_X7_211 hC hW (mm_0 (Nat.lt_trans (vp_lt hv_2) (by decide))) dX7_about_83 ?_
  have hO : m_X7_about k v σ = (none, σ 0 k.toNatClampNeg 7, σ) := by rw [m_X7_about, e_1, nd_none, e_3, nd_none, if_neg c_5, if_neg c_6, if_neg c_7, if_neg c_8, if_neg c_9, if_neg c_10]
  exact w_iretZ hC hW hS hO (Nat.le_of_ble_eq_true rfl) (Nat.le_of_ble_eq_true rfl) dX7_about_86
theorem fr_X7_about {kk : Nat}  {k : Int32} {v : Int32} {σ : Sg}  : (m_X7_about k v σ).2.2 kk = σ kk := by
  rw [m_X7_about]
  repeat' split
  all_goals (first | (simp only [nd_2, us_kk, ne_eq, not_false_eq_true]; done) | with_reducible rfl | (simp only [nd_2, us_kk, ne_eq, not_false_eq_true]; with_reducible rfl))

def m_X7_act (k : Int32) (t : Int32) (r : Int32) (σ : Sg) : Option String × Int32 × Sg :=
  nd (e_X7_needActor k σ) (nd (e_X7_needThing t σ) (nd (e_X7_needRight r) (if (f_X7_judge k.toNatClampNeg t.toNatClampNeg r σ) = 0 then (if r = 4 then (none, f_X7_judge k.toNatClampNeg t.toNatClampNeg r σ, s_X7_carryOutRun k.toNatClampNeg t.toNatClampNeg (s_X7_note k t r (f_X7_judge k.toNatClampNeg t.toNatClampNeg r σ) σ))
    else (none, f_X7_judge k.toNatClampNeg t.toNatClampNeg r σ, s_X7_note k t r (f_X7_judge k.toNatClampNeg t.toNatClampNeg r σ) σ))
  else (none, f_X7_judge k.toNatClampNeg t.toNatClampNeg r σ, s_X7_note k t r (f_X7_judge k.toNatClampNeg t.toNatClampNeg r σ) σ))))
set_option maxHeartbeats 4000000 in
set_option maxRecDepth 100000 in
theorem c_X7_act (l : Launch) (hl9 : l.stackTraces = false) (D : va_G) (ca : Nat → ClassId) (base : Nat) (ad : Adr) (σ : Sg) (k : Int32) (t : Int32) (r : Int32) (hI : CInv σ) : Mx l yX7_act cX7_act 7 (some .int) { frames := 8, cells := 3, slots := 18, locals := 142 } D ca base ad ρm Lm [.ref (ad 7 0), .int k, .int t, .int r] σ (m_X7_act k t r σ).1 (some (.int (m_X7_act k t r σ).2.1)) (m_X7_act k t r σ).2.2 := by
  refine w_ofX (by decide) (Nat.le_of_ble_eq_true rfl) rfl ?_
  intro p e s m args below meth c hC hW hS hout ls hl
  have hx := hC.1
  have hb := hC.2.1
  refine lv_aload_n hx hb dX7_act_0 rfl (lv_at hl 0 rfl) ?_
  refine lv_iload_n hx hb dX7_act_1 rfl (lv_at hl 1 rfl) ?_
  refine w_callVX (As := [.int k]) (rest := []) (st2 := .ref (ad 0 k.toNatClampNeg) :: []) hC hW hS hl cv_X7_133 m_7 (by decide) rfl (c_X7_needActor l hl9 D ca base ad σ k (by first | assumption | decide | omega)) rfl rfl rfl ⟨Nat.le_of_ble_eq_true rfl, Nat.le_of_ble_eq_true rfl⟩ (Nat.le_of_ble_eq_true rfl) dX7_act_2 ⟨Nat.le_of_ble_eq_true rfl, Nat.le_of_ble_eq_true rfl⟩ (fun E ce q9 H locs e_1 hW hS hce hcv hcl => ?_) (fun e_1 H locs hW hS => ?_)
  · have hO : (m_X7_act k t r σ).1 = some E := by rw [m_X7_act, e_1, nd_some]
    exact w_out hC hW hS hout hO hce hcv hcl (Nat.le_of_ble_eq_true rfl) (Nat.le_of_ble_eq_true rfl)
  have hv_2 : vp_in k 8 := na_in hI e_1
  refine lv_astore (lv' := [(4, .ref (ad 0 k.toNatClampNeg)), (0, .ref (ad 7 0)), (1, .int k), (2, .int t), (3, .int r)]) hx hb dX7_act_5 hl (by decide) rfl (fun ls hl => ?_)
  refine lv_aload_n hx hb dX7_act_7 rfl (lv_at hl 1 rfl) ?_
  refine lv_iload_n hx hb dX7_act_8 rfl (lv_at hl 3 rfl) ?_
  refine w_callVX (As := [.int t]) (rest := []) (st2 := .ref (ad 5 t.toNatClampNeg) :: []) hC hW hS hl cv_X7_103 m_7 (by decide) rfl (c_X7_needThing l hl9 D ca base ad σ t (by first | assumption | decide | omega)) rfl rfl rfl ⟨Nat.le_of_ble_eq_true rfl, Nat.le_of_ble_eq_true rfl⟩ (Nat.le_of_ble_eq_true rfl) dX7_act_9 ⟨Nat.le_of_ble_eq_true rfl, Nat.le_of_ble_eq_true rfl⟩ (fun E ce q9 H locs e_3 hW hS hce hcv hcl => ?_) (fun e_3 H locs hW hS => ?_)
  · have hO : (m_X7_act k t r σ).1 = some E := by rw [m_X7_act, e_1, nd_none, e_3, nd_some]
    exact w_out hC hW hS hout hO hce hcv hcl (Nat.le_of_ble_eq_true rfl) (Nat.le_of_ble_eq_true rfl)
  have hv_4 : vp_in t 12 := nt_in hI e_3
  refine lv_astore (lv' := [(5, .ref (ad 5 t.toNatClampNeg)), (4, .ref (ad 0 k.toNatClampNeg)), (0, .ref (ad 7 0)), (1, .int k), (2, .int t), (3, .int r)]) hx hb dX7_act_12 hl (by decide) rfl (fun ls hl => ?_)
  refine lv_iload_n hx hb dX7_act_14 rfl (lv_at hl 5 rfl) ?_
  refine w_callSX (As := [.int r]) (rest := []) (st2 := []) hC hW hS hl cs_X7_214 (c_X7_needRight l hl9 D ca base ad σ r ) rfl rfl rfl ⟨Nat.le_of_ble_eq_true rfl, Nat.le_of_ble_eq_true rfl⟩ (Nat.le_of_ble_eq_true rfl) dX7_act_15 ⟨Nat.le_of_ble_eq_true rfl, Nat.le_of_ble_eq_true rfl⟩ (fun E ce q9 H locs e_5 hW hS hce hcv hcl => ?_) (fun e_5 H locs hW hS => ?_)
  · have hO : (m_X7_act k t r σ).1 = some E := by rw [m_X7_act, e_1, nd_none, e_3, nd_none, e_5, nd_some]
    exact w_out hC hW hS hout hO hce hcv hcl (Nat.le_of_ble_eq_true rfl) (Nat.le_of_ble_eq_true rfl)
  refine lv_aload_n hx hb dX7_act_18 rfl (lv_at hl 2 rfl) ?_
  refine lv_aload hx hb dX7_act_19 (lv_at hl 1 rfl) ?_
  refine lv_aload hx hb dX7_act_21 (lv_at hl 0 rfl) ?_
  refine lv_iload_n hx hb dX7_act_23 rfl (lv_at hl 5 rfl) ?_
  refine w_callV (As := [.ref (ad 0 k.toNatClampNeg), .ref (ad 5 t.toNatClampNeg), .int r]) (rest := []) (st2 := .int (f_X7_judge k.toNatClampNeg t.toNatClampNeg r σ) :: []) hC hW hS hl cv_X7_217 m_7 (by decide) rfl (c_X7_judge l hl9 D ca base ad σ k.toNatClampNeg t.toNatClampNeg r (Nat.lt_trans (vp_lt hv_2) (by decide)) (Nat.lt_trans (vp_lt hv_4) (by decide))) rfl rfl rfl ⟨Nat.le_of_ble_eq_true rfl, Nat.le_of_ble_eq_true rfl⟩ (Nat.le_of_ble_eq_true rfl) dX7_act_24 ⟨Nat.le_of_ble_eq_true rfl, Nat.le_of_ble_eq_true rfl⟩ (fun H locs hW hS => ?_)
  refine lv_istore (lv' := [(6, .int (f_X7_judge k.toNatClampNeg t.toNatClampNeg r σ)), (5, .ref (ad 5 t.toNatClampNeg)), (4, .ref (ad 0 k.toNatClampNeg)), (0, .ref (ad 7 0)), (1, .int k), (2, .int t), (3, .int r)]) hx hb dX7_act_27 hl (by decide) rfl (fun ls hl => ?_)
  refine lv_aload_n hx hb dX7_act_29 rfl (lv_at hl 3 rfl) ?_
  refine lv_iload_n hx hb dX7_act_30 rfl (lv_at hl 4 rfl) ?_
  refine lv_iload_n hx hb dX7_act_31 rfl (lv_at hl 5 rfl) ?_
  refine lv_iload_n hx hb dX7_act_32 rfl (lv_at hl 6 rfl) ?_
  refine lv_iload hx hb dX7_act_33 (lv_at hl 0 rfl) ?_
  refine w_callV (As := [.int k, .int t, .int r, .int (f_X7_judge k.toNatClampNeg t.toNatClampNeg r σ)]) (rest := []) (st2 := []) hC hW hS hl cv_X7_221 m_7 (by decide) rfl (c_X7_note l hl9 D ca base ad σ k t r (f_X7_judge k.toNatClampNeg t.toNatClampNeg r σ) hI.1) rfl rfl rfl ⟨Nat.le_of_ble_eq_true rfl, Nat.le_of_ble_eq_true rfl⟩ (Nat.le_of_ble_eq_true rfl) dX7_act_35 ⟨Nat.le_of_ble_eq_true rfl, Nat.le_of_ble_eq_true rfl⟩ (fun H locs hW hS => ?_)
  refine lv_iload hx hb dX7_act_38 (lv_at hl 0 rfl) ?_
  refine lv_if_ne (tgt := 56) hx hb dX7_act_40 (by decide) (fun c_6 => ?_) (fun c_6 => ?_)
  · refine lv_iload hx hb dX7_act_56 (lv_at hl 0 rfl) ?_
    have hO : m_X7_act k t r σ = (none, f_X7_judge k.toNatClampNeg t.toNatClampNeg r σ, s_X7_note k t r (f_X7_judge k.toNatClampNeg t.toNatClampNeg r σ) σ) := by rw [m_X7_act, e_1, nd_none, e_3, nd_none, e_5, nd_none, if_neg c_6]
    exact w_iretZ hC hW hS hO (Nat.le_of_ble_eq_true rfl) (Nat.le_of_ble_eq_true rfl) dX7_act_58
  · refine lv_iload_n hx hb dX7_act_43 rfl (lv_at hl 6 rfl) ?_
    refine lv_iconst (v := 4) hx hb dX7_act_44 (by decide) ?_
    refine lv_icmp_ne (tgt := 56) hx hb dX7_act_45 (by decide) (fun c_7 => ?_) (fun c_7 => ?_)
    · refine lv_iload hx hb dX7_act_56 (lv_at hl 0 rfl) ?_
      have hO : m_X7_act k t r σ = (none, f_X7_judge k.toNatClampNeg t.toNatClampNeg r σ, s_X7_note k t r (f_X7_judge k.toNatClampNeg t.toNatClampNeg r σ) σ) := by rw [m_X7_act, e_1, nd_none, e_3, nd_none, e_5, nd_none, if_pos c_6, if_neg c_7]
      exact w_iretZ hC hW hS hO (Nat.le_of_ble_eq_true rfl) (Nat.le_of_ble_eq_true rfl) dX7_act_58
    · refine lv_aload_n hx hb dX7_act_48 rfl (lv_at hl 3 rfl) ?_
      refine lv_aload hx hb dX7_act_49 (lv_at hl 2 rfl) ?_
      refine lv_aload hx hb dX7_act_51 (lv_at hl 1 rfl) ?_
      refine w_callV (As := [.ref (ad 0 k.toNatClampNeg), .ref (ad 5 t.toNatClampNeg)]) (rest := []) (st2 := []) hC hW hS hl cv_X7_225 m_7 (by decide) rfl (c_X7_carryOutRun l hl9 D ca base ad (s_X7_note k t r (f_X7_judge k.toNatClampNeg t.toNatClampNeg r σ) σ) k.toNatClampNeg t.toNatClampNeg (Nat.lt_trans (vp_lt hv_2) (by decide)) (Nat.lt_trans (vp_lt hv_4) (by decide))) rfl rfl rfl ⟨Nat.le_of_ble_eq_true rfl, Nat.le_of_ble_eq_true rfl⟩ (Nat.le_of_ble_eq_true rfl) dX7_act_53 ⟨Nat.le_of_ble_eq_true rfl, Nat.le_of_ble_eq_true rfl⟩ (fun H locs hW hS => ?_)
      refine lv_iload hx hb dX7_act_56 (lv_at hl 0 rfl) ?_
      have hO : m_X7_act k t r σ = (none, f_X7_judge k.toNatClampNeg t.toNatClampNeg r σ, s_X7_carryOutRun k.toNatClampNeg t.toNatClampNeg (s_X7_note k t r (f_X7_judge k.toNatClampNeg t.toNatClampNeg r σ) σ)) := by rw [m_X7_act, e_1, nd_none, e_3, nd_none, e_5, nd_none, if_pos c_6, if_pos c_7]
      exact w_iretZ hC hW hS hO (Nat.le_of_ble_eq_true rfl) (Nat.le_of_ble_eq_true rfl) dX7_act_58
theorem fr_X7_act {kk : Nat}  {k : Int32} {t : Int32} {r : Int32} {σ : Sg} (h0 : kk ≠ 0) (h1 : kk ≠ 1) (h11 : kk ≠ 11) : (m_X7_act k t r σ).2.2 kk = σ kk := by
  rw [m_X7_act]
  repeat' split
  all_goals (first | (simp only [nd_2, us_kk, ne_eq, not_false_eq_true, h0, h1, h11, fr_X7_note, fr_X7_carryOutRun]; done) | with_reducible rfl | (simp only [nd_2, us_kk, ne_eq, not_false_eq_true, h0, h1, h11, fr_X7_note, fr_X7_carryOutRun]; with_reducible rfl))

def m_X7_actBy (k : Int32) (t : Int32) (r : Int32) (σ : Sg) : Option String × Int32 × Sg :=
  nd (e_X7_needActor k σ) (nd (e_X7_needToken t σ) (nd (e_X7_needRight r) (if (σ 6 t.toNatClampNeg 6) = k then nd (e_X7_needPower 1) ((none, (f_X7_judgeToken k.toNatClampNeg t r σ).1, s_X7_note k (σ 6 t.toNatClampNeg 0) r ((f_X7_judgeToken k.toNatClampNeg t r σ).1) ((f_X7_judgeToken k.toNatClampNeg t r σ).2)))
  else nd (e_X7_needPower 0) ((none, (f_X7_judgeToken k.toNatClampNeg t r σ).1, s_X7_note k (σ 6 t.toNatClampNeg 0) r ((f_X7_judgeToken k.toNatClampNeg t r σ).1) ((f_X7_judgeToken k.toNatClampNeg t r σ).2))))))
set_option maxHeartbeats 4000000 in
set_option maxRecDepth 100000 in
theorem c_X7_actBy (l : Launch) (hl9 : l.stackTraces = false) (D : va_G) (ca : Nat → ClassId) (base : Nat) (ad : Adr) (σ : Sg) (k : Int32) (t : Int32) (r : Int32) (hI : CInv σ) (hT9 : ∀ k : Int32, e_X7_needToken k σ = none → e_X7_needThing (σ 6 k.toNatClampNeg 0) σ = none) : Mx l yX7_actBy cX7_actBy 7 (some .int) { frames := 9, cells := 9, slots := 54, locals := 167 } D ca base ad ρm Lm [.ref (ad 7 0), .int k, .int t, .int r] σ (m_X7_actBy k t r σ).1 (some (.int (m_X7_actBy k t r σ).2.1)) (m_X7_actBy k t r σ).2.2 := by
  refine w_ofX (by decide) (Nat.le_of_ble_eq_true rfl) rfl ?_
  intro p e s m args below meth c hC hW hS hout ls hl
  have hx := hC.1
  have hb := hC.2.1
  refine lv_aload_n hx hb dX7_actBy_0 rfl (lv_at hl 0 rfl) ?_
  refine lv_iload_n hx hb dX7_actBy_1 rfl (lv_at hl 1 rfl) ?_
  refine w_callVX (As := [.int k]) (rest := []) (st2 := .ref (ad 0 k.toNatClampNeg) :: []) hC hW hS hl cv_X7_133 m_7 (by decide) rfl (c_X7_needActor l hl9 D ca base ad σ k (by first | assumption | decide | omega)) rfl rfl rfl ⟨Nat.le_of_ble_eq_true rfl, Nat.le_of_ble_eq_true rfl⟩ (Nat.le_of_ble_eq_true rfl) dX7_actBy_2 ⟨Nat.le_of_ble_eq_true rfl, Nat.le_of_ble_eq_true rfl⟩ (fun E ce q9 H locs e_1 hW hS hce hcv hcl => ?_) (fun e_1 H locs hW hS => ?_)
  · have hO : (m_X7_actBy k t r σ).1 = some E := by rw [m_X7_actBy, e_1, nd_some]
    exact w_out hC hW hS hout hO hce hcv hcl (Nat.le_of_ble_eq_true rfl) (Nat.le_of_ble_eq_true rfl)
  have hv_2 : vp_in k 8 := na_in hI e_1
  refine lv_astore (lv' := [(4, .ref (ad 0 k.toNatClampNeg)), (0, .ref (ad 7 0)), (1, .int k), (2, .int t), (3, .int r)]) hx hb dX7_actBy_5 hl (by decide) rfl (fun ls hl => ?_)
  refine lv_aload_n hx hb dX7_actBy_7 rfl (lv_at hl 1 rfl) ?_
  refine lv_iload_n hx hb dX7_actBy_8 rfl (lv_at hl 3 rfl) ?_
  refine w_callVX (As := [.int t]) (rest := []) (st2 := .ref (ad 6 t.toNatClampNeg) :: []) hC hW hS hl cv_X7_229 m_7 (by decide) rfl (c_X7_needToken l hl9 D ca base ad σ t (by first | assumption | decide | omega)) rfl rfl rfl ⟨Nat.le_of_ble_eq_true rfl, Nat.le_of_ble_eq_true rfl⟩ (Nat.le_of_ble_eq_true rfl) dX7_actBy_9 ⟨Nat.le_of_ble_eq_true rfl, Nat.le_of_ble_eq_true rfl⟩ (fun E ce q9 H locs e_3 hW hS hce hcv hcl => ?_) (fun e_3 H locs hW hS => ?_)
  · have hO : (m_X7_actBy k t r σ).1 = some E := by rw [m_X7_actBy, e_1, nd_none, e_3, nd_some]
    exact w_out hC hW hS hout hO hce hcv hcl (Nat.le_of_ble_eq_true rfl) (Nat.le_of_ble_eq_true rfl)
  have hv_4 : vp_in t 10 := nk_in hI e_3
  refine lv_astore (lv' := [(5, .ref (ad 6 t.toNatClampNeg)), (4, .ref (ad 0 k.toNatClampNeg)), (0, .ref (ad 7 0)), (1, .int k), (2, .int t), (3, .int r)]) hx hb dX7_actBy_12 hl (by decide) rfl (fun ls hl => ?_)
  refine lv_iload_n hx hb dX7_actBy_14 rfl (lv_at hl 5 rfl) ?_
  refine w_callSX (As := [.int r]) (rest := []) (st2 := []) hC hW hS hl cs_X7_214 (c_X7_needRight l hl9 D ca base ad σ r ) rfl rfl rfl ⟨Nat.le_of_ble_eq_true rfl, Nat.le_of_ble_eq_true rfl⟩ (Nat.le_of_ble_eq_true rfl) dX7_actBy_15 ⟨Nat.le_of_ble_eq_true rfl, Nat.le_of_ble_eq_true rfl⟩ (fun E ce q9 H locs e_5 hW hS hce hcv hcl => ?_) (fun e_5 H locs hW hS => ?_)
  · have hO : (m_X7_actBy k t r σ).1 = some E := by rw [m_X7_actBy, e_1, nd_none, e_3, nd_none, e_5, nd_some]
    exact w_out hC hW hS hout hO hce hcv hcl (Nat.le_of_ble_eq_true rfl) (Nat.le_of_ble_eq_true rfl)
  refine lv_aload hx hb dX7_actBy_18 (lv_at hl 0 rfl) ?_
  refine gf_X7_233 hC hW (mm_6 (vp_lt hv_4)) dX7_actBy_20 ?_
  refine lv_iload_n hx hb dX7_actBy_23 rfl (lv_at hl 3 rfl) ?_
  refine lv_icmp_ne (tgt := 31) hx hb dX7_actBy_24 (by decide) (fun c_6 => ?_) (fun c_6 => ?_)
  · refine lv_iconst (v := 0) hx hb dX7_actBy_31 (by decide) ?_
    refine w_callSX (As := [.int 0]) (rest := []) (st2 := []) hC hW hS hl cs_X7_141 (c_X7_needPower l hl9 D ca base ad σ 0 ) rfl rfl rfl ⟨Nat.le_of_ble_eq_true rfl, Nat.le_of_ble_eq_true rfl⟩ (Nat.le_of_ble_eq_true rfl) dX7_actBy_32 ⟨Nat.le_of_ble_eq_true rfl, Nat.le_of_ble_eq_true rfl⟩ (fun E ce q9 H locs e_7 hW hS hce hcv hcl => ?_) (fun e_7 H locs hW hS => ?_)
    · have hO : (m_X7_actBy k t r σ).1 = some E := by rw [m_X7_actBy, e_1, nd_none, e_3, nd_none, e_5, nd_none, if_neg c_6, e_7, nd_some]
      exact w_out hC hW hS hout hO hce hcv hcl (Nat.le_of_ble_eq_true rfl) (Nat.le_of_ble_eq_true rfl)
    refine lv_aload_n hx hb dX7_actBy_35 rfl (lv_at hl 2 rfl) ?_
    refine lv_aload hx hb dX7_actBy_36 (lv_at hl 1 rfl) ?_
    refine lv_iload_n hx hb dX7_actBy_38 rfl (lv_at hl 4 rfl) ?_
    refine lv_iload_n hx hb dX7_actBy_39 rfl (lv_at hl 5 rfl) ?_
    refine w_callV (As := [.ref (ad 0 k.toNatClampNeg), .int t, .int r]) (rest := []) (st2 := .int ((f_X7_judgeToken k.toNatClampNeg t r σ).1) :: []) hC hW hS hl cv_X7_236 m_7 (by decide) rfl (c_X7_judgeToken l hl9 D ca base ad σ k.toNatClampNeg t r (by first | assumption | decide | omega) (Nat.lt_trans (vp_lt hv_2) (by decide)) (by first | assumption | decide | omega) (hT9 _ (by assumption))) rfl rfl rfl ⟨Nat.le_of_ble_eq_true rfl, Nat.le_of_ble_eq_true rfl⟩ (Nat.le_of_ble_eq_true rfl) dX7_actBy_40 ⟨Nat.le_of_ble_eq_true rfl, Nat.le_of_ble_eq_true rfl⟩ (fun H locs hW hS => ?_)
    refine lv_istore (lv' := [(6, .int ((f_X7_judgeToken k.toNatClampNeg t r σ).1)), (5, .ref (ad 6 t.toNatClampNeg)), (4, .ref (ad 0 k.toNatClampNeg)), (0, .ref (ad 7 0)), (1, .int k), (2, .int t), (3, .int r)]) hx hb dX7_actBy_43 hl (by decide) rfl (fun ls hl => ?_)
    refine lv_aload_n hx hb dX7_actBy_45 rfl (lv_at hl 3 rfl) ?_
    refine lv_iload_n hx hb dX7_actBy_46 rfl (lv_at hl 4 rfl) ?_
    refine lv_aload hx hb dX7_actBy_47 (lv_at hl 1 rfl) ?_
    refine gf_X7_240 hC hW (mm_6 (vp_lt hv_4)) dX7_actBy_49 ?_
    refine lv_eqi (y := σ 6 t.toNatClampNeg 0) (by rw [fr_X7_judgeToken (by decide) (by decide)]) ?_
    refine lv_iload_n hx hb dX7_actBy_52 rfl (lv_at hl 6 rfl) ?_
    refine lv_iload hx hb dX7_actBy_53 (lv_at hl 0 rfl) ?_
    refine w_callV (As := [.int k, .int (σ 6 t.toNatClampNeg 0), .int r, .int ((f_X7_judgeToken k.toNatClampNeg t r σ).1)]) (rest := []) (st2 := []) hC hW hS hl cv_X7_221 m_7 (by decide) rfl (c_X7_note l hl9 D ca base ad ((f_X7_judgeToken k.toNatClampNeg t r σ).2) k (σ 6 t.toNatClampNeg 0) r ((f_X7_judgeToken k.toNatClampNeg t r σ).1) (li_fr hI.1 (by rw [fr_X7_judgeToken (by decide) (by decide)]))) rfl rfl rfl ⟨Nat.le_of_ble_eq_true rfl, Nat.le_of_ble_eq_true rfl⟩ (Nat.le_of_ble_eq_true rfl) dX7_actBy_55 ⟨Nat.le_of_ble_eq_true rfl, Nat.le_of_ble_eq_true rfl⟩ (fun H locs hW hS => ?_)
    refine lv_iload hx hb dX7_actBy_58 (lv_at hl 0 rfl) ?_
    have hO : m_X7_actBy k t r σ = (none, (f_X7_judgeToken k.toNatClampNeg t r σ).1, s_X7_note k (σ 6 t.toNatClampNeg 0) r ((f_X7_judgeToken k.toNatClampNeg t r σ).1) ((f_X7_judgeToken k.toNatClampNeg t r σ).2)) := by rw [m_X7_actBy, e_1, nd_none, e_3, nd_none, e_5, nd_none, if_neg c_6, e_7, nd_none]
    exact w_iretZ hC hW hS hO (Nat.le_of_ble_eq_true rfl) (Nat.le_of_ble_eq_true rfl) dX7_actBy_60
  · refine lv_iconst (v := 1) hx hb dX7_actBy_27 (by decide) ?_
    refine lv_goto (tgt := 32) hx hb dX7_actBy_28 (by decide) ?_
    refine w_callSX (As := [.int 1]) (rest := []) (st2 := []) hC hW hS hl cs_X7_141 (c_X7_needPower l hl9 D ca base ad σ 1 ) rfl rfl rfl ⟨Nat.le_of_ble_eq_true rfl, Nat.le_of_ble_eq_true rfl⟩ (Nat.le_of_ble_eq_true rfl) dX7_actBy_32 ⟨Nat.le_of_ble_eq_true rfl, Nat.le_of_ble_eq_true rfl⟩ (fun E ce q9 H locs e_8 hW hS hce hcv hcl => ?_) (fun e_8 H locs hW hS => ?_)
    · have hO : (m_X7_actBy k t r σ).1 = some E := by rw [m_X7_actBy, e_1, nd_none, e_3, nd_none, e_5, nd_none, if_pos c_6, e_8, nd_some]
      exact w_out hC hW hS hout hO hce hcv hcl (Nat.le_of_ble_eq_true rfl) (Nat.le_of_ble_eq_true rfl)
    refine lv_aload_n hx hb dX7_actBy_35 rfl (lv_at hl 2 rfl) ?_
    refine lv_aload hx hb dX7_actBy_36 (lv_at hl 1 rfl) ?_
    refine lv_iload_n hx hb dX7_actBy_38 rfl (lv_at hl 4 rfl) ?_
    refine lv_iload_n hx hb dX7_actBy_39 rfl (lv_at hl 5 rfl) ?_
    refine w_callV (As := [.ref (ad 0 k.toNatClampNeg), .int t, .int r]) (rest := []) (st2 := .int ((f_X7_judgeToken k.toNatClampNeg t r σ).1) :: []) hC hW hS hl cv_X7_236 m_7 (by decide) rfl (c_X7_judgeToken l hl9 D ca base ad σ k.toNatClampNeg t r (by first | assumption | decide | omega) (Nat.lt_trans (vp_lt hv_2) (by decide)) (by first | assumption | decide | omega) (hT9 _ (by assumption))) rfl rfl rfl ⟨Nat.le_of_ble_eq_true rfl, Nat.le_of_ble_eq_true rfl⟩ (Nat.le_of_ble_eq_true rfl) dX7_actBy_40 ⟨Nat.le_of_ble_eq_true rfl, Nat.le_of_ble_eq_true rfl⟩ (fun H locs hW hS => ?_)
    refine lv_istore (lv' := [(6, .int ((f_X7_judgeToken k.toNatClampNeg t r σ).1)), (5, .ref (ad 6 t.toNatClampNeg)), (4, .ref (ad 0 k.toNatClampNeg)), (0, .ref (ad 7 0)), (1, .int k), (2, .int t), (3, .int r)]) hx hb dX7_actBy_43 hl (by decide) rfl (fun ls hl => ?_)
    refine lv_aload_n hx hb dX7_actBy_45 rfl (lv_at hl 3 rfl) ?_
    refine lv_iload_n hx hb dX7_actBy_46 rfl (lv_at hl 4 rfl) ?_
    refine lv_aload hx hb dX7_actBy_47 (lv_at hl 1 rfl) ?_
    refine gf_X7_240 hC hW (mm_6 (vp_lt hv_4)) dX7_actBy_49 ?_
    refine lv_eqi (y := σ 6 t.toNatClampNeg 0) (by rw [fr_X7_judgeToken (by decide) (by decide)]) ?_
    refine lv_iload_n hx hb dX7_actBy_52 rfl (lv_at hl 6 rfl) ?_
    refine lv_iload hx hb dX7_actBy_53 (lv_at hl 0 rfl) ?_
    refine w_callV (As := [.int k, .int (σ 6 t.toNatClampNeg 0), .int r, .int ((f_X7_judgeToken k.toNatClampNeg t r σ).1)]) (rest := []) (st2 := []) hC hW hS hl cv_X7_221 m_7 (by decide) rfl (c_X7_note l hl9 D ca base ad ((f_X7_judgeToken k.toNatClampNeg t r σ).2) k (σ 6 t.toNatClampNeg 0) r ((f_X7_judgeToken k.toNatClampNeg t r σ).1) (li_fr hI.1 (by rw [fr_X7_judgeToken (by decide) (by decide)]))) rfl rfl rfl ⟨Nat.le_of_ble_eq_true rfl, Nat.le_of_ble_eq_true rfl⟩ (Nat.le_of_ble_eq_true rfl) dX7_actBy_55 ⟨Nat.le_of_ble_eq_true rfl, Nat.le_of_ble_eq_true rfl⟩ (fun H locs hW hS => ?_)
    refine lv_iload hx hb dX7_actBy_58 (lv_at hl 0 rfl) ?_
    have hO : m_X7_actBy k t r σ = (none, (f_X7_judgeToken k.toNatClampNeg t r σ).1, s_X7_note k (σ 6 t.toNatClampNeg 0) r ((f_X7_judgeToken k.toNatClampNeg t r σ).1) ((f_X7_judgeToken k.toNatClampNeg t r σ).2)) := by rw [m_X7_actBy, e_1, nd_none, e_3, nd_none, e_5, nd_none, if_pos c_6, e_8, nd_none]
    exact w_iretZ hC hW hS hO (Nat.le_of_ble_eq_true rfl) (Nat.le_of_ble_eq_true rfl) dX7_actBy_60
theorem fr_X7_actBy {kk : Nat}  {k : Int32} {t : Int32} {r : Int32} {σ : Sg} (h0 : kk ≠ 0) (h1 : kk ≠ 1) (h10 : kk ≠ 10) (h11 : kk ≠ 11) : (m_X7_actBy k t r σ).2.2 kk = σ kk := by
  rw [m_X7_actBy]
  repeat' split
  all_goals (first | (simp only [nd_2, us_kk, ne_eq, not_false_eq_true, h0, h1, h10, h11, fr_X7_judgeToken, fr_X7_note]; done) | with_reducible rfl | (simp only [nd_2, us_kk, ne_eq, not_false_eq_true, h0, h1, h10, h11, fr_X7_judgeToken, fr_X7_note]; with_reducible rfl))

def m_X7_token (k : Int32) (t : Int32) (v : Int32) (u : Int32) (σ : Sg) : Option String × Int32 × Sg :=
  nd (e_X7_needActor k σ) (nd (e_X7_needThing t σ) (nd (e_X7_needRange v 1 7) (nd (e_X7_needRange u (σ 7 0 9) 10000) (nd (e_X7_needRoom (σ 7 0 8) 10) ((none, (f_X7_handOut ((σ 7 0 8).toNatClampNeg) v u k k (us (us (us (us σ 6 ((σ 7 0 8).toNatClampNeg) 0 t) 6 ((σ 7 0 8).toNatClampNeg) 3 (σ 0 k.toNatClampNeg 0)) 6 ((σ 7 0 8).toNatClampNeg) 4 (σ 0 k.toNatClampNeg 1)) 6 ((σ 7 0 8).toNatClampNeg) 7 (-1))).1, (f_X7_handOut ((σ 7 0 8).toNatClampNeg) v u k k (us (us (us (us σ 6 ((σ 7 0 8).toNatClampNeg) 0 t) 6 ((σ 7 0 8).toNatClampNeg) 3 (σ 0 k.toNatClampNeg 0)) 6 ((σ 7 0 8).toNatClampNeg) 4 (σ 0 k.toNatClampNeg 1)) 6 ((σ 7 0 8).toNatClampNeg) 7 (-1))).2))))))
set_option maxHeartbeats 4000000 in
set_option maxRecDepth 100000 in
theorem c_X7_token (l : Launch) (hl9 : l.stackTraces = false) (D : va_G) (ca : Nat → ClassId) (base : Nat) (ad : Adr) (σ : Sg) (k : Int32) (t : Int32) (v : Int32) (u : Int32) (hI : CInv σ) : Mx l yX7_token cX7_token 7 (some .int) { frames := 8, cells := 5, slots := 30, locals := 142 } D ca base ad ρm Lm [.ref (ad 7 0), .int k, .int t, .int v, .int u] σ (m_X7_token k t v u σ).1 (some (.int (m_X7_token k t v u σ).2.1)) (m_X7_token k t v u σ).2.2 := by
  refine w_ofX (by decide) (Nat.le_of_ble_eq_true rfl) rfl ?_
  intro p e s m args below meth c hC hW hS hout ls hl
  have hx := hC.1
  have hb := hC.2.1
  refine lv_aload_n hx hb dX7_token_0 rfl (lv_at hl 0 rfl) ?_
  refine lv_iload_n hx hb dX7_token_1 rfl (lv_at hl 1 rfl) ?_
  refine w_callVX (As := [.int k]) (rest := []) (st2 := .ref (ad 0 k.toNatClampNeg) :: []) hC hW hS hl cv_X7_133 m_7 (by decide) rfl (c_X7_needActor l hl9 D ca base ad σ k (by first | assumption | decide | omega)) rfl rfl rfl ⟨Nat.le_of_ble_eq_true rfl, Nat.le_of_ble_eq_true rfl⟩ (Nat.le_of_ble_eq_true rfl) dX7_token_2 ⟨Nat.le_of_ble_eq_true rfl, Nat.le_of_ble_eq_true rfl⟩ (fun E ce q9 H locs e_1 hW hS hce hcv hcl => ?_) (fun e_1 H locs hW hS => ?_)
  · have hO : (m_X7_token k t v u σ).1 = some E := by rw [m_X7_token, e_1, nd_some]
    exact w_out hC hW hS hout hO hce hcv hcl (Nat.le_of_ble_eq_true rfl) (Nat.le_of_ble_eq_true rfl)
  have hv_2 : vp_in k 8 := na_in hI e_1
  refine lv_astore (lv' := [(5, .ref (ad 0 k.toNatClampNeg)), (0, .ref (ad 7 0)), (1, .int k), (2, .int t), (3, .int v), (4, .int u)]) hx hb dX7_token_5 hl (by decide) rfl (fun ls hl => ?_)
  refine lv_aload_n hx hb dX7_token_7 rfl (lv_at hl 1 rfl) ?_
  refine lv_iload_n hx hb dX7_token_8 rfl (lv_at hl 3 rfl) ?_
  refine w_callVX (As := [.int t]) (rest := []) (st2 := .ref (ad 5 t.toNatClampNeg) :: []) hC hW hS hl cv_X7_103 m_7 (by decide) rfl (c_X7_needThing l hl9 D ca base ad σ t (by first | assumption | decide | omega)) rfl rfl rfl ⟨Nat.le_of_ble_eq_true rfl, Nat.le_of_ble_eq_true rfl⟩ (Nat.le_of_ble_eq_true rfl) dX7_token_9 ⟨Nat.le_of_ble_eq_true rfl, Nat.le_of_ble_eq_true rfl⟩ (fun E ce q9 H locs e_3 hW hS hce hcv hcl => ?_) (fun e_3 H locs hW hS => ?_)
  · have hO : (m_X7_token k t v u σ).1 = some E := by rw [m_X7_token, e_1, nd_none, e_3, nd_some]
    exact w_out hC hW hS hout hO hce hcv hcl (Nat.le_of_ble_eq_true rfl) (Nat.le_of_ble_eq_true rfl)
  have hv_4 : vp_in t 12 := nt_in hI e_3
  refine lv_pop hx hb dX7_token_12 rfl ?_
  refine lv_iload_n hx hb dX7_token_13 rfl (lv_at hl 4 rfl) ?_
  refine lv_iconst (v := 1) hx hb dX7_token_14 (by decide) ?_
  refine lv_bipush (v := 7) hx hb dX7_token_15 (by decide) ?_
  refine w_callSX (As := [.int v, .int 1, .int 7]) (rest := []) (st2 := []) hC hW hS hl cs_X7_107 (c_X7_needRange l hl9 D ca base ad σ v 1 7 ) rfl rfl rfl ⟨Nat.le_of_ble_eq_true rfl, Nat.le_of_ble_eq_true rfl⟩ (Nat.le_of_ble_eq_true rfl) dX7_token_17 ⟨Nat.le_of_ble_eq_true rfl, Nat.le_of_ble_eq_true rfl⟩ (fun E ce q9 H locs e_5 hW hS hce hcv hcl => ?_) (fun e_5 H locs hW hS => ?_)
  · have hO : (m_X7_token k t v u σ).1 = some E := by rw [m_X7_token, e_1, nd_none, e_3, nd_none, e_5, nd_some]
    exact w_out hC hW hS hout hO hce hcv hcl (Nat.le_of_ble_eq_true rfl) (Nat.le_of_ble_eq_true rfl)
  refine lv_iload hx hb dX7_token_20 (lv_at hl 5 rfl) ?_
  refine lv_aload_n hx hb dX7_token_22 rfl (lv_at hl 1 rfl) ?_
  refine gf_X7_243 hC hW m_7 dX7_token_23 ?_
  refine lv_sipush (v := 10000) hx hb dX7_token_26 (by decide) ?_
  refine w_callSX (As := [.int u, .int (σ 7 0 9), .int 10000]) (rest := []) (st2 := []) hC hW hS hl cs_X7_107 (c_X7_needRange l hl9 D ca base ad σ u (σ 7 0 9) 10000 ) rfl rfl rfl ⟨Nat.le_of_ble_eq_true rfl, Nat.le_of_ble_eq_true rfl⟩ (Nat.le_of_ble_eq_true rfl) dX7_token_29 ⟨Nat.le_of_ble_eq_true rfl, Nat.le_of_ble_eq_true rfl⟩ (fun E ce q9 H locs e_6 hW hS hce hcv hcl => ?_) (fun e_6 H locs hW hS => ?_)
  · have hO : (m_X7_token k t v u σ).1 = some E := by rw [m_X7_token, e_1, nd_none, e_3, nd_none, e_5, nd_none, e_6, nd_some]
    exact w_out hC hW hS hout hO hce hcv hcl (Nat.le_of_ble_eq_true rfl) (Nat.le_of_ble_eq_true rfl)
  refine lv_aload_n hx hb dX7_token_32 rfl (lv_at hl 1 rfl) ?_
  refine gf_X7_246 hC hW m_7 dX7_token_33 ?_
  refine lv_aload_n hx hb dX7_token_36 rfl (lv_at hl 1 rfl) ?_
  refine gf_X7_46 hC hW m_7 rfl dX7_token_37 ?_
  refine w_alen hC hW m_24 5 (v := 10) rfl rfl rfl dX7_token_40 ?_
  refine w_callSX (As := [.int (σ 7 0 8), .int 10]) (rest := []) (st2 := []) hC hW hS hl cs_X7_114 (c_X7_needRoom l hl9 D ca base ad σ (σ 7 0 8) 10 ) rfl rfl rfl ⟨Nat.le_of_ble_eq_true rfl, Nat.le_of_ble_eq_true rfl⟩ (Nat.le_of_ble_eq_true rfl) dX7_token_41 ⟨Nat.le_of_ble_eq_true rfl, Nat.le_of_ble_eq_true rfl⟩ (fun E ce q9 H locs e_7 hW hS hce hcv hcl => ?_) (fun e_7 H locs hW hS => ?_)
  · have hO : (m_X7_token k t v u σ).1 = some E := by rw [m_X7_token, e_1, nd_none, e_3, nd_none, e_5, nd_none, e_6, nd_none, e_7, nd_some]
    exact w_out hC hW hS hout hO hce hcv hcl (Nat.le_of_ble_eq_true rfl) (Nat.le_of_ble_eq_true rfl)
  refine lv_aload_n hx hb dX7_token_44 rfl (lv_at hl 1 rfl) ?_
  refine gf_X7_46 hC hW m_7 rfl dX7_token_45 ?_
  refine lv_aload_n hx hb dX7_token_48 rfl (lv_at hl 1 rfl) ?_
  refine gf_X7_246 hC hW m_7 dX7_token_49 ?_
  have h_8 : vp_in (σ 7 0 8) 10 := (by obtain ⟨b, h1, h2⟩ := hI.2.2.2; exact nr_in (b := 10) rfl ⟨b, by omega, h2⟩ (by decide) (by decide) (by assumption))
  refine w_aald hC hW m_24 5 (n := 10) rfl rfl h_8 (by rfl) dX7_token_52 ?_
  refine lv_astore (lv' := [(6, .ref (ad 6 ((σ 7 0 8).toNatClampNeg))), (5, .ref (ad 0 k.toNatClampNeg)), (0, .ref (ad 7 0)), (1, .int k), (2, .int t), (3, .int v), (4, .int u)]) hx hb dX7_token_53 hl (by decide) rfl (fun ls hl => ?_)
  refine lv_aload hx hb dX7_token_55 (lv_at hl 0 rfl) ?_
  refine lv_iload_n hx hb dX7_token_57 rfl (lv_at hl 4 rfl) ?_
  refine pf_X7_240 hC hW (mm_6 (vp_lt h_8)) hS dX7_token_58 (fun H locs hW hS => ?_)
  refine lv_aload hx hb dX7_token_61 (lv_at hl 0 rfl) ?_
  refine lv_aload hx hb dX7_token_63 (lv_at hl 1 rfl) ?_
  refine gf_X7_192 hC hW (mm_0 (Nat.lt_trans (vp_lt hv_2) (by decide))) dX7_token_65 ?_
  refine lv_eqi (y := σ 0 k.toNatClampNeg 0) (by rw [us_k (by decide)]) ?_
  refine pf_X7_249 hC hW (mm_6 (vp_lt h_8)) hS dX7_token_68 (fun H locs hW hS => ?_)
  refine lv_aload hx hb dX7_token_71 (lv_at hl 0 rfl) ?_
  refine lv_aload hx hb dX7_token_73 (lv_at hl 1 rfl) ?_
  refine gf_X7_195 hC hW (mm_0 (Nat.lt_trans (vp_lt hv_2) (by decide))) dX7_token_75 ?_
  refine lv_eqi (y := σ 0 k.toNatClampNeg 1) (by rw [us_k (by decide), us_k (by decide)]) ?_
  refine pf_X7_250 hC hW (mm_6 (vp_lt h_8)) hS dX7_token_78 (fun H locs hW hS => ?_)
  refine lv_aload hx hb dX7_token_81 (lv_at hl 0 rfl) ?_
  refine lv_iconst (v := (-1)) hx hb dX7_token_83 (by decide) ?_
  refine pf_X7_251 hC hW (mm_6 (vp_lt h_8)) hS dX7_token_84 (fun H locs hW hS => ?_)
  refine lv_aload_n hx hb dX7_token_87 rfl (lv_at hl 2 rfl) ?_
  refine lv_aload hx hb dX7_token_88 (lv_at hl 0 rfl) ?_
  refine lv_iload_n hx hb dX7_token_90 rfl (lv_at hl 5 rfl) ?_
  refine lv_iload hx hb dX7_token_91 (lv_at hl 6 rfl) ?_
  refine lv_iload_n hx hb dX7_token_93 rfl (lv_at hl 3 rfl) ?_
  refine lv_iload_n hx hb dX7_token_94 rfl (lv_at hl 3 rfl) ?_
  refine w_callV (As := [.ref (ad 6 ((σ 7 0 8).toNatClampNeg)), .int v, .int u, .int k, .int k]) (rest := []) (st2 := .int ((f_X7_handOut ((σ 7 0 8).toNatClampNeg) v u k k (us (us (us (us σ 6 ((σ 7 0 8).toNatClampNeg) 0 t) 6 ((σ 7 0 8).toNatClampNeg) 3 (σ 0 k.toNatClampNeg 0)) 6 ((σ 7 0 8).toNatClampNeg) 4 (σ 0 k.toNatClampNeg 1)) 6 ((σ 7 0 8).toNatClampNeg) 7 (-1))).1) :: []) hC hW hS hl cv_X7_254 m_7 (by decide) rfl (c_X7_handOut l hl9 D ca base ad (us (us (us (us σ 6 ((σ 7 0 8).toNatClampNeg) 0 t) 6 ((σ 7 0 8).toNatClampNeg) 3 (σ 0 k.toNatClampNeg 0)) 6 ((σ 7 0 8).toNatClampNeg) 4 (σ 0 k.toNatClampNeg 1)) 6 ((σ 7 0 8).toNatClampNeg) 7 (-1)) ((σ 7 0 8).toNatClampNeg) v u k k (vp_lt h_8)) rfl rfl rfl ⟨Nat.le_of_ble_eq_true rfl, Nat.le_of_ble_eq_true rfl⟩ (Nat.le_of_ble_eq_true rfl) dX7_token_95 ⟨Nat.le_of_ble_eq_true rfl, Nat.le_of_ble_eq_true rfl⟩ (fun H locs hW hS => ?_)
  have hO : m_X7_token k t v u σ = (none, (f_X7_handOut ((σ 7 0 8).toNatClampNeg) v u k k (us (us (us (us σ 6 ((σ 7 0 8).toNatClampNeg) 0 t) 6 ((σ 7 0 8).toNatClampNeg) 3 (σ 0 k.toNatClampNeg 0)) 6 ((σ 7 0 8).toNatClampNeg) 4 (σ 0 k.toNatClampNeg 1)) 6 ((σ 7 0 8).toNatClampNeg) 7 (-1))).1, (f_X7_handOut ((σ 7 0 8).toNatClampNeg) v u k k (us (us (us (us σ 6 ((σ 7 0 8).toNatClampNeg) 0 t) 6 ((σ 7 0 8).toNatClampNeg) 3 (σ 0 k.toNatClampNeg 0)) 6 ((σ 7 0 8).toNatClampNeg) 4 (σ 0 k.toNatClampNeg 1)) 6 ((σ 7 0 8).toNatClampNeg) 7 (-1))).2) := by rw [m_X7_token, e_1, nd_none, e_3, nd_none, e_5, nd_none, e_6, nd_none, e_7, nd_none]
  exact w_iretZ hC hW hS hO (Nat.le_of_ble_eq_true rfl) (Nat.le_of_ble_eq_true rfl) dX7_token_98
theorem fr_X7_token {kk : Nat}  {k : Int32} {t : Int32} {v : Int32} {u : Int32} {σ : Sg} (h6 : kk ≠ 6) (h7 : kk ≠ 7) : (m_X7_token k t v u σ).2.2 kk = σ kk := by
  rw [m_X7_token]
  repeat' split
  all_goals (first | (simp only [nd_2, us_kk, ne_eq, not_false_eq_true, h6, h7, fr_X7_handOut]; done) | with_reducible rfl | (simp only [nd_2, us_kk, ne_eq, not_false_eq_true, h6, h7, fr_X7_handOut]; with_reducible rfl))

def m_X7_narrow (k : Int32) (t : Int32) (v : Int32) (u : Int32) (w : Int32) (σ : Sg) : Option String × Int32 × Sg :=
  nd (e_X7_needActor k σ) (nd (e_X7_needToken t σ) (nd (e_X7_needActor w σ) (nd (e_X7_needRange v 1 7) (nd (e_X7_needSubset v (σ 6 t.toNatClampNeg 1)) (nd (e_X7_needRange u (σ 7 0 9) (σ 6 t.toNatClampNeg 2)) (if (σ 6 t.toNatClampNeg 6) = k then nd (e_X7_needPower 1) (nd (e_X7_needRoom (σ 7 0 8) 10) ((none, (f_X7_handOut ((σ 7 0 8).toNatClampNeg) v u k w (us (us (us (us σ 6 ((σ 7 0 8).toNatClampNeg) 0 (σ 6 t.toNatClampNeg 0)) 6 ((σ 7 0 8).toNatClampNeg) 3 (σ 6 t.toNatClampNeg 3)) 6 ((σ 7 0 8).toNatClampNeg) 4 (σ 6 t.toNatClampNeg 4)) 6 ((σ 7 0 8).toNatClampNeg) 7 t)).1, (f_X7_handOut ((σ 7 0 8).toNatClampNeg) v u k w (us (us (us (us σ 6 ((σ 7 0 8).toNatClampNeg) 0 (σ 6 t.toNatClampNeg 0)) 6 ((σ 7 0 8).toNatClampNeg) 3 (σ 6 t.toNatClampNeg 3)) 6 ((σ 7 0 8).toNatClampNeg) 4 (σ 6 t.toNatClampNeg 4)) 6 ((σ 7 0 8).toNatClampNeg) 7 t)).2)))
  else nd (e_X7_needPower 0) (nd (e_X7_needRoom (σ 7 0 8) 10) ((none, (f_X7_handOut ((σ 7 0 8).toNatClampNeg) v u k w (us (us (us (us σ 6 ((σ 7 0 8).toNatClampNeg) 0 (σ 6 t.toNatClampNeg 0)) 6 ((σ 7 0 8).toNatClampNeg) 3 (σ 6 t.toNatClampNeg 3)) 6 ((σ 7 0 8).toNatClampNeg) 4 (σ 6 t.toNatClampNeg 4)) 6 ((σ 7 0 8).toNatClampNeg) 7 t)).1, (f_X7_handOut ((σ 7 0 8).toNatClampNeg) v u k w (us (us (us (us σ 6 ((σ 7 0 8).toNatClampNeg) 0 (σ 6 t.toNatClampNeg 0)) 6 ((σ 7 0 8).toNatClampNeg) 3 (σ 6 t.toNatClampNeg 3)) 6 ((σ 7 0 8).toNatClampNeg) 4 (σ 6 t.toNatClampNeg 4)) 6 ((σ 7 0 8).toNatClampNeg) 7 t)).2)))))))))
set_option maxHeartbeats 4000000 in
set_option maxRecDepth 100000 in
theorem c_X7_narrow (l : Launch) (hl9 : l.stackTraces = false) (D : va_G) (ca : Nat → ClassId) (base : Nat) (ad : Adr) (σ : Sg) (k : Int32) (t : Int32) (v : Int32) (u : Int32) (w : Int32) (hI : CInv σ) : Mx l yX7_narrow cX7_narrow 8 (some .int) { frames := 8, cells := 10, slots := 60, locals := 142 } D ca base ad ρm Lm [.ref (ad 7 0), .int k, .int t, .int v, .int u, .int w] σ (m_X7_narrow k t v u w σ).1 (some (.int (m_X7_narrow k t v u w σ).2.1)) (m_X7_narrow k t v u w σ).2.2 := by
  refine w_ofX (by decide) (Nat.le_of_ble_eq_true rfl) rfl ?_
  intro p e s m args below meth c hC hW hS hout ls hl
  have hx := hC.1
  have hb := hC.2.1
  refine lv_aload_n hx hb dX7_narrow_0 rfl (lv_at hl 0 rfl) ?_
  refine lv_iload_n hx hb dX7_narrow_1 rfl (lv_at hl 1 rfl) ?_
  refine w_callVX (As := [.int k]) (rest := []) (st2 := .ref (ad 0 k.toNatClampNeg) :: []) hC hW hS hl cv_X7_133 m_7 (by decide) rfl (c_X7_needActor l hl9 D ca base ad σ k (by first | assumption | decide | omega)) rfl rfl rfl ⟨Nat.le_of_ble_eq_true rfl, Nat.le_of_ble_eq_true rfl⟩ (Nat.le_of_ble_eq_true rfl) dX7_narrow_2 ⟨Nat.le_of_ble_eq_true rfl, Nat.le_of_ble_eq_true rfl⟩ (fun E ce q9 H locs e_1 hW hS hce hcv hcl => ?_) (fun e_1 H locs hW hS => ?_)
  · have hO : (m_X7_narrow k t v u w σ).1 = some E := by rw [m_X7_narrow, e_1, nd_some]
    exact w_out hC hW hS hout hO hce hcv hcl (Nat.le_of_ble_eq_true rfl) (Nat.le_of_ble_eq_true rfl)
  have hv_2 : vp_in k 8 := na_in hI e_1
  refine lv_pop hx hb dX7_narrow_5 rfl ?_
  refine lv_aload_n hx hb dX7_narrow_6 rfl (lv_at hl 0 rfl) ?_
  refine lv_iload_n hx hb dX7_narrow_7 rfl (lv_at hl 2 rfl) ?_
  refine w_callVX (As := [.int t]) (rest := []) (st2 := .ref (ad 6 t.toNatClampNeg) :: []) hC hW hS hl cv_X7_229 m_7 (by decide) rfl (c_X7_needToken l hl9 D ca base ad σ t (by first | assumption | decide | omega)) rfl rfl rfl ⟨Nat.le_of_ble_eq_true rfl, Nat.le_of_ble_eq_true rfl⟩ (Nat.le_of_ble_eq_true rfl) dX7_narrow_8 ⟨Nat.le_of_ble_eq_true rfl, Nat.le_of_ble_eq_true rfl⟩ (fun E ce q9 H locs e_3 hW hS hce hcv hcl => ?_) (fun e_3 H locs hW hS => ?_)
  · have hO : (m_X7_narrow k t v u w σ).1 = some E := by rw [m_X7_narrow, e_1, nd_none, e_3, nd_some]
    exact w_out hC hW hS hout hO hce hcv hcl (Nat.le_of_ble_eq_true rfl) (Nat.le_of_ble_eq_true rfl)
  have hv_4 : vp_in t 10 := nk_in hI e_3
  refine lv_astore (lv' := [(6, .ref (ad 6 t.toNatClampNeg)), (0, .ref (ad 7 0)), (1, .int k), (2, .int t), (3, .int v), (4, .int u), (5, .int w)]) hx hb dX7_narrow_11 hl (by decide) rfl (fun ls hl => ?_)
  refine lv_aload_n hx hb dX7_narrow_13 rfl (lv_at hl 1 rfl) ?_
  refine lv_iload hx hb dX7_narrow_14 (lv_at hl 6 rfl) ?_
  refine w_callVX (As := [.int w]) (rest := []) (st2 := .ref (ad 0 w.toNatClampNeg) :: []) hC hW hS hl cv_X7_133 m_7 (by decide) rfl (c_X7_needActor l hl9 D ca base ad σ w (by first | assumption | decide | omega)) rfl rfl rfl ⟨Nat.le_of_ble_eq_true rfl, Nat.le_of_ble_eq_true rfl⟩ (Nat.le_of_ble_eq_true rfl) dX7_narrow_16 ⟨Nat.le_of_ble_eq_true rfl, Nat.le_of_ble_eq_true rfl⟩ (fun E ce q9 H locs e_5 hW hS hce hcv hcl => ?_) (fun e_5 H locs hW hS => ?_)
  · have hO : (m_X7_narrow k t v u w σ).1 = some E := by rw [m_X7_narrow, e_1, nd_none, e_3, nd_none, e_5, nd_some]
    exact w_out hC hW hS hout hO hce hcv hcl (Nat.le_of_ble_eq_true rfl) (Nat.le_of_ble_eq_true rfl)
  have hv_6 : vp_in w 8 := na_in hI e_5
  refine lv_pop hx hb dX7_narrow_19 rfl ?_
  refine lv_iload_n hx hb dX7_narrow_20 rfl (lv_at hl 4 rfl) ?_
  refine lv_iconst (v := 1) hx hb dX7_narrow_21 (by decide) ?_
  refine lv_bipush (v := 7) hx hb dX7_narrow_22 (by decide) ?_
  refine w_callSX (As := [.int v, .int 1, .int 7]) (rest := []) (st2 := []) hC hW hS hl cs_X7_107 (c_X7_needRange l hl9 D ca base ad σ v 1 7 ) rfl rfl rfl ⟨Nat.le_of_ble_eq_true rfl, Nat.le_of_ble_eq_true rfl⟩ (Nat.le_of_ble_eq_true rfl) dX7_narrow_24 ⟨Nat.le_of_ble_eq_true rfl, Nat.le_of_ble_eq_true rfl⟩ (fun E ce q9 H locs e_7 hW hS hce hcv hcl => ?_) (fun e_7 H locs hW hS => ?_)
  · have hO : (m_X7_narrow k t v u w σ).1 = some E := by rw [m_X7_narrow, e_1, nd_none, e_3, nd_none, e_5, nd_none, e_7, nd_some]
    exact w_out hC hW hS hout hO hce hcv hcl (Nat.le_of_ble_eq_true rfl) (Nat.le_of_ble_eq_true rfl)
  refine lv_iload_n hx hb dX7_narrow_27 rfl (lv_at hl 4 rfl) ?_
  refine lv_aload hx hb dX7_narrow_28 (lv_at hl 0 rfl) ?_
  refine gf_X7_258 hC hW (mm_6 (vp_lt hv_4)) dX7_narrow_30 ?_
  refine w_callSX (As := [.int v, .int (σ 6 t.toNatClampNeg 1)]) (rest := []) (st2 := []) hC hW hS hl cs_X7_186 (c_X7_needSubset l hl9 D ca base ad σ v (σ 6 t.toNatClampNeg 1) ) rfl rfl rfl ⟨Nat.le_of_ble_eq_true rfl, Nat.le_of_ble_eq_true rfl⟩ (Nat.le_of_ble_eq_true rfl) dX7_narrow_33 ⟨Nat.le_of_ble_eq_true rfl, Nat.le_of_ble_eq_true rfl⟩ (fun E ce q9 H locs e_8 hW hS hce hcv hcl => ?_) (fun e_8 H locs hW hS => ?_)
  · have hO : (m_X7_narrow k t v u w σ).1 = some E := by rw [m_X7_narrow, e_1, nd_none, e_3, nd_none, e_5, nd_none, e_7, nd_none, e_8, nd_some]
    exact w_out hC hW hS hout hO hce hcv hcl (Nat.le_of_ble_eq_true rfl) (Nat.le_of_ble_eq_true rfl)
  refine lv_iload hx hb dX7_narrow_36 (lv_at hl 5 rfl) ?_
  refine lv_aload_n hx hb dX7_narrow_38 rfl (lv_at hl 1 rfl) ?_
  refine gf_X7_243 hC hW m_7 dX7_narrow_39 ?_
  refine lv_aload hx hb dX7_narrow_42 (lv_at hl 0 rfl) ?_
  refine gf_X7_261 hC hW (mm_6 (vp_lt hv_4)) dX7_narrow_44 ?_
  refine w_callSX (As := [.int u, .int (σ 7 0 9), .int (σ 6 t.toNatClampNeg 2)]) (rest := []) (st2 := []) hC hW hS hl cs_X7_107 (c_X7_needRange l hl9 D ca base ad σ u (σ 7 0 9) (σ 6 t.toNatClampNeg 2) ) rfl rfl rfl ⟨Nat.le_of_ble_eq_true rfl, Nat.le_of_ble_eq_true rfl⟩ (Nat.le_of_ble_eq_true rfl) dX7_narrow_47 ⟨Nat.le_of_ble_eq_true rfl, Nat.le_of_ble_eq_true rfl⟩ (fun E ce q9 H locs e_9 hW hS hce hcv hcl => ?_) (fun e_9 H locs hW hS => ?_)
  · have hO : (m_X7_narrow k t v u w σ).1 = some E := by rw [m_X7_narrow, e_1, nd_none, e_3, nd_none, e_5, nd_none, e_7, nd_none, e_8, nd_none, e_9, nd_some]
    exact w_out hC hW hS hout hO hce hcv hcl (Nat.le_of_ble_eq_true rfl) (Nat.le_of_ble_eq_true rfl)
  refine lv_aload hx hb dX7_narrow_50 (lv_at hl 0 rfl) ?_
  refine gf_X7_233 hC hW (mm_6 (vp_lt hv_4)) dX7_narrow_52 ?_
  refine lv_iload_n hx hb dX7_narrow_55 rfl (lv_at hl 2 rfl) ?_
  refine lv_icmp_ne (tgt := 63) hx hb dX7_narrow_56 (by decide) (fun c_10 => ?_) (fun c_10 => ?_)
  · refine lv_iconst (v := 0) hx hb dX7_narrow_63 (by decide) ?_
    refine w_callSX (As := [.int 0]) (rest := []) (st2 := []) hC hW hS hl cs_X7_141 (c_X7_needPower l hl9 D ca base ad σ 0 ) rfl rfl rfl ⟨Nat.le_of_ble_eq_true rfl, Nat.le_of_ble_eq_true rfl⟩ (Nat.le_of_ble_eq_true rfl) dX7_narrow_64 ⟨Nat.le_of_ble_eq_true rfl, Nat.le_of_ble_eq_true rfl⟩ (fun E ce q9 H locs e_11 hW hS hce hcv hcl => ?_) (fun e_11 H locs hW hS => ?_)
    · have hO : (m_X7_narrow k t v u w σ).1 = some E := by rw [m_X7_narrow, e_1, nd_none, e_3, nd_none, e_5, nd_none, e_7, nd_none, e_8, nd_none, e_9, nd_none, if_neg c_10, e_11, nd_some]
      exact w_out hC hW hS hout hO hce hcv hcl (Nat.le_of_ble_eq_true rfl) (Nat.le_of_ble_eq_true rfl)
    refine lv_aload_n hx hb dX7_narrow_67 rfl (lv_at hl 1 rfl) ?_
    refine gf_X7_246 hC hW m_7 dX7_narrow_68 ?_
    refine lv_aload_n hx hb dX7_narrow_71 rfl (lv_at hl 1 rfl) ?_
    refine gf_X7_46 hC hW m_7 rfl dX7_narrow_72 ?_
    refine w_alen hC hW m_24 5 (v := 10) rfl rfl rfl dX7_narrow_75 ?_
    refine w_callSX (As := [.int (σ 7 0 8), .int 10]) (rest := []) (st2 := []) hC hW hS hl cs_X7_114 (c_X7_needRoom l hl9 D ca base ad σ (σ 7 0 8) 10 ) rfl rfl rfl ⟨Nat.le_of_ble_eq_true rfl, Nat.le_of_ble_eq_true rfl⟩ (Nat.le_of_ble_eq_true rfl) dX7_narrow_76 ⟨Nat.le_of_ble_eq_true rfl, Nat.le_of_ble_eq_true rfl⟩ (fun E ce q9 H locs e_12 hW hS hce hcv hcl => ?_) (fun e_12 H locs hW hS => ?_)
    · have hO : (m_X7_narrow k t v u w σ).1 = some E := by rw [m_X7_narrow, e_1, nd_none, e_3, nd_none, e_5, nd_none, e_7, nd_none, e_8, nd_none, e_9, nd_none, if_neg c_10, e_11, nd_none, e_12, nd_some]
      exact w_out hC hW hS hout hO hce hcv hcl (Nat.le_of_ble_eq_true rfl) (Nat.le_of_ble_eq_true rfl)
    refine lv_aload_n hx hb dX7_narrow_79 rfl (lv_at hl 1 rfl) ?_
    refine gf_X7_46 hC hW m_7 rfl dX7_narrow_80 ?_
    refine lv_aload_n hx hb dX7_narrow_83 rfl (lv_at hl 1 rfl) ?_
    refine gf_X7_246 hC hW m_7 dX7_narrow_84 ?_
    have h_13 : vp_in (σ 7 0 8) 10 := (by obtain ⟨b, h1, h2⟩ := hI.2.2.2; exact nr_in (b := 10) rfl ⟨b, by omega, h2⟩ (by decide) (by decide) (by assumption))
    refine w_aald hC hW m_24 5 (n := 10) rfl rfl h_13 (by rfl) dX7_narrow_87 ?_
    refine lv_astore (lv' := [(7, .ref (ad 6 ((σ 7 0 8).toNatClampNeg))), (6, .ref (ad 6 t.toNatClampNeg)), (0, .ref (ad 7 0)), (1, .int k), (2, .int t), (3, .int v), (4, .int u), (5, .int w)]) hx hb dX7_narrow_88 hl (by decide) rfl (fun ls hl => ?_)
    refine lv_aload hx hb dX7_narrow_90 (lv_at hl 0 rfl) ?_
    refine lv_aload hx hb dX7_narrow_92 (lv_at hl 1 rfl) ?_
    refine gf_X7_240 hC hW (mm_6 (vp_lt hv_4)) dX7_narrow_94 ?_
    refine pf_X7_240 hC hW (mm_6 (vp_lt h_13)) hS dX7_narrow_97 (fun H locs hW hS => ?_)
    refine lv_aload hx hb dX7_narrow_100 (lv_at hl 0 rfl) ?_
    refine lv_aload hx hb dX7_narrow_102 (lv_at hl 1 rfl) ?_
    refine gf_X7_249 hC hW (mm_6 (vp_lt hv_4)) dX7_narrow_104 ?_
    refine lv_eqi (y := σ 6 t.toNatClampNeg 3) (by rw [us_j (by decide)]) ?_
    refine pf_X7_249 hC hW (mm_6 (vp_lt h_13)) hS dX7_narrow_107 (fun H locs hW hS => ?_)
    refine lv_aload hx hb dX7_narrow_110 (lv_at hl 0 rfl) ?_
    refine lv_aload hx hb dX7_narrow_112 (lv_at hl 1 rfl) ?_
    refine gf_X7_250 hC hW (mm_6 (vp_lt hv_4)) dX7_narrow_114 ?_
    refine lv_eqi (y := σ 6 t.toNatClampNeg 4) (by rw [us_j (by decide), us_j (by decide)]) ?_
    refine pf_X7_250 hC hW (mm_6 (vp_lt h_13)) hS dX7_narrow_117 (fun H locs hW hS => ?_)
    refine lv_aload hx hb dX7_narrow_120 (lv_at hl 0 rfl) ?_
    refine lv_iload_n hx hb dX7_narrow_122 rfl (lv_at hl 4 rfl) ?_
    refine pf_X7_251 hC hW (mm_6 (vp_lt h_13)) hS dX7_narrow_123 (fun H locs hW hS => ?_)
    refine lv_aload_n hx hb dX7_narrow_126 rfl (lv_at hl 2 rfl) ?_
    refine lv_aload hx hb dX7_narrow_127 (lv_at hl 0 rfl) ?_
    refine lv_iload_n hx hb dX7_narrow_129 rfl (lv_at hl 5 rfl) ?_
    refine lv_iload hx hb dX7_narrow_130 (lv_at hl 6 rfl) ?_
    refine lv_iload_n hx hb dX7_narrow_132 rfl (lv_at hl 3 rfl) ?_
    refine lv_iload hx hb dX7_narrow_133 (lv_at hl 7 rfl) ?_
    refine w_callV (As := [.ref (ad 6 ((σ 7 0 8).toNatClampNeg)), .int v, .int u, .int k, .int w]) (rest := []) (st2 := .int ((f_X7_handOut ((σ 7 0 8).toNatClampNeg) v u k w (us (us (us (us σ 6 ((σ 7 0 8).toNatClampNeg) 0 (σ 6 t.toNatClampNeg 0)) 6 ((σ 7 0 8).toNatClampNeg) 3 (σ 6 t.toNatClampNeg 3)) 6 ((σ 7 0 8).toNatClampNeg) 4 (σ 6 t.toNatClampNeg 4)) 6 ((σ 7 0 8).toNatClampNeg) 7 t)).1) :: []) hC hW hS hl cv_X7_254 m_7 (by decide) rfl (c_X7_handOut l hl9 D ca base ad (us (us (us (us σ 6 ((σ 7 0 8).toNatClampNeg) 0 (σ 6 t.toNatClampNeg 0)) 6 ((σ 7 0 8).toNatClampNeg) 3 (σ 6 t.toNatClampNeg 3)) 6 ((σ 7 0 8).toNatClampNeg) 4 (σ 6 t.toNatClampNeg 4)) 6 ((σ 7 0 8).toNatClampNeg) 7 t) ((σ 7 0 8).toNatClampNeg) v u k w (vp_lt h_13)) rfl rfl rfl ⟨Nat.le_of_ble_eq_true rfl, Nat.le_of_ble_eq_true rfl⟩ (Nat.le_of_ble_eq_true rfl) dX7_narrow_135 ⟨Nat.le_of_ble_eq_true rfl, Nat.le_of_ble_eq_true rfl⟩ (fun H locs hW hS => ?_)
    have hO : m_X7_narrow k t v u w σ = (none, (f_X7_handOut ((σ 7 0 8).toNatClampNeg) v u k w (us (us (us (us σ 6 ((σ 7 0 8).toNatClampNeg) 0 (σ 6 t.toNatClampNeg 0)) 6 ((σ 7 0 8).toNatClampNeg) 3 (σ 6 t.toNatClampNeg 3)) 6 ((σ 7 0 8).toNatClampNeg) 4 (σ 6 t.toNatClampNeg 4)) 6 ((σ 7 0 8).toNatClampNeg) 7 t)).1, (f_X7_handOut ((σ 7 0 8).toNatClampNeg) v u k w (us (us (us (us σ 6 ((σ 7 0 8).toNatClampNeg) 0 (σ 6 t.toNatClampNeg 0)) 6 ((σ 7 0 8).toNatClampNeg) 3 (σ 6 t.toNatClampNeg 3)) 6 ((σ 7 0 8).toNatClampNeg) 4 (σ 6 t.toNatClampNeg 4)) 6 ((σ 7 0 8).toNatClampNeg) 7 t)).2) := by rw [m_X7_narrow, e_1, nd_none, e_3, nd_none, e_5, nd_none, e_7, nd_none, e_8, nd_none, e_9, nd_none, if_neg c_10, e_11, nd_none, e_12, nd_none]
    exact w_iretZ hC hW hS hO (Nat.le_of_ble_eq_true rfl) (Nat.le_of_ble_eq_true rfl) dX7_narrow_138
  · refine lv_iconst (v := 1) hx hb dX7_narrow_59 (by decide) ?_
    refine lv_goto (tgt := 64) hx hb dX7_narrow_60 (by decide) ?_
    refine w_callSX (As := [.int 1]) (rest := []) (st2 := []) hC hW hS hl cs_X7_141 (c_X7_needPower l hl9 D ca base ad σ 1 ) rfl rfl rfl ⟨Nat.le_of_ble_eq_true rfl, Nat.le_of_ble_eq_true rfl⟩ (Nat.le_of_ble_eq_true rfl) dX7_narrow_64 ⟨Nat.le_of_ble_eq_true rfl, Nat.le_of_ble_eq_true rfl⟩ (fun E ce q9 H locs e_14 hW hS hce hcv hcl => ?_) (fun e_14 H locs hW hS => ?_)
    · have hO : (m_X7_narrow k t v u w σ).1 = some E := by rw [m_X7_narrow, e_1, nd_none, e_3, nd_none, e_5, nd_none, e_7, nd_none, e_8, nd_none, e_9, nd_none, if_pos c_10, e_14, nd_some]
      exact w_out hC hW hS hout hO hce hcv hcl (Nat.le_of_ble_eq_true rfl) (Nat.le_of_ble_eq_true rfl)
    refine lv_aload_n hx hb dX7_narrow_67 rfl (lv_at hl 1 rfl) ?_
    refine gf_X7_246 hC hW m_7 dX7_narrow_68 ?_
    refine lv_aload_n hx hb dX7_narrow_71 rfl (lv_at hl 1 rfl) ?_
    refine gf_X7_46 hC hW m_7 rfl dX7_narrow_72 ?_
    refine w_alen hC hW m_24 5 (v := 10) rfl rfl rfl dX7_narrow_75 ?_
    refine w_callSX (As := [.int (σ 7 0 8), .int 10]) (rest := []) (st2 := []) hC hW hS hl cs_X7_114 (c_X7_needRoom l hl9 D ca base ad σ (σ 7 0 8) 10 ) rfl rfl rfl ⟨Nat.le_of_ble_eq_true rfl, Nat.le_of_ble_eq_true rfl⟩ (Nat.le_of_ble_eq_true rfl) dX7_narrow_76 ⟨Nat.le_of_ble_eq_true rfl, Nat.le_of_ble_eq_true rfl⟩ (fun E ce q9 H locs e_15 hW hS hce hcv hcl => ?_) (fun e_15 H locs hW hS => ?_)
    · have hO : (m_X7_narrow k t v u w σ).1 = some E := by rw [m_X7_narrow, e_1, nd_none, e_3, nd_none, e_5, nd_none, e_7, nd_none, e_8, nd_none, e_9, nd_none, if_pos c_10, e_14, nd_none, e_15, nd_some]
      exact w_out hC hW hS hout hO hce hcv hcl (Nat.le_of_ble_eq_true rfl) (Nat.le_of_ble_eq_true rfl)
    refine lv_aload_n hx hb dX7_narrow_79 rfl (lv_at hl 1 rfl) ?_
    refine gf_X7_46 hC hW m_7 rfl dX7_narrow_80 ?_
    refine lv_aload_n hx hb dX7_narrow_83 rfl (lv_at hl 1 rfl) ?_
    refine gf_X7_246 hC hW m_7 dX7_narrow_84 ?_
    have h_16 : vp_in (σ 7 0 8) 10 := (by obtain ⟨b, h1, h2⟩ := hI.2.2.2; exact nr_in (b := 10) rfl ⟨b, by omega, h2⟩ (by decide) (by decide) (by assumption))
    refine w_aald hC hW m_24 5 (n := 10) rfl rfl h_16 (by rfl) dX7_narrow_87 ?_
    refine lv_astore (lv' := [(7, .ref (ad 6 ((σ 7 0 8).toNatClampNeg))), (6, .ref (ad 6 t.toNatClampNeg)), (0, .ref (ad 7 0)), (1, .int k), (2, .int t), (3, .int v), (4, .int u), (5, .int w)]) hx hb dX7_narrow_88 hl (by decide) rfl (fun ls hl => ?_)
    refine lv_aload hx hb dX7_narrow_90 (lv_at hl 0 rfl) ?_
    refine lv_aload hx hb dX7_narrow_92 (lv_at hl 1 rfl) ?_
    refine gf_X7_240 hC hW (mm_6 (vp_lt hv_4)) dX7_narrow_94 ?_
    refine pf_X7_240 hC hW (mm_6 (vp_lt h_16)) hS dX7_narrow_97 (fun H locs hW hS => ?_)
    refine lv_aload hx hb dX7_narrow_100 (lv_at hl 0 rfl) ?_
    refine lv_aload hx hb dX7_narrow_102 (lv_at hl 1 rfl) ?_
    refine gf_X7_249 hC hW (mm_6 (vp_lt hv_4)) dX7_narrow_104 ?_
    refine lv_eqi (y := σ 6 t.toNatClampNeg 3) (by rw [us_j (by decide)]) ?_
    refine pf_X7_249 hC hW (mm_6 (vp_lt h_16)) hS dX7_narrow_107 (fun H locs hW hS => ?_)
    refine lv_aload hx hb dX7_narrow_110 (lv_at hl 0 rfl) ?_
    refine lv_aload hx hb dX7_narrow_112 (lv_at hl 1 rfl) ?_
    refine gf_X7_250 hC hW (mm_6 (vp_lt hv_4)) dX7_narrow_114 ?_
    refine lv_eqi (y := σ 6 t.toNatClampNeg 4) (by rw [us_j (by decide), us_j (by decide)]) ?_
    refine pf_X7_250 hC hW (mm_6 (vp_lt h_16)) hS dX7_narrow_117 (fun H locs hW hS => ?_)
    refine lv_aload hx hb dX7_narrow_120 (lv_at hl 0 rfl) ?_
    refine lv_iload_n hx hb dX7_narrow_122 rfl (lv_at hl 4 rfl) ?_
    refine pf_X7_251 hC hW (mm_6 (vp_lt h_16)) hS dX7_narrow_123 (fun H locs hW hS => ?_)
    refine lv_aload_n hx hb dX7_narrow_126 rfl (lv_at hl 2 rfl) ?_
    refine lv_aload hx hb dX7_narrow_127 (lv_at hl 0 rfl) ?_
    refine lv_iload_n hx hb dX7_narrow_129 rfl (lv_at hl 5 rfl) ?_
    refine lv_iload hx hb dX7_narrow_130 (lv_at hl 6 rfl) ?_
    refine lv_iload_n hx hb dX7_narrow_132 rfl (lv_at hl 3 rfl) ?_
    refine lv_iload hx hb dX7_narrow_133 (lv_at hl 7 rfl) ?_
    refine w_callV (As := [.ref (ad 6 ((σ 7 0 8).toNatClampNeg)), .int v, .int u, .int k, .int w]) (rest := []) (st2 := .int ((f_X7_handOut ((σ 7 0 8).toNatClampNeg) v u k w (us (us (us (us σ 6 ((σ 7 0 8).toNatClampNeg) 0 (σ 6 t.toNatClampNeg 0)) 6 ((σ 7 0 8).toNatClampNeg) 3 (σ 6 t.toNatClampNeg 3)) 6 ((σ 7 0 8).toNatClampNeg) 4 (σ 6 t.toNatClampNeg 4)) 6 ((σ 7 0 8).toNatClampNeg) 7 t)).1) :: []) hC hW hS hl cv_X7_254 m_7 (by decide) rfl (c_X7_handOut l hl9 D ca base ad (us (us (us (us σ 6 ((σ 7 0 8).toNatClampNeg) 0 (σ 6 t.toNatClampNeg 0)) 6 ((σ 7 0 8).toNatClampNeg) 3 (σ 6 t.toNatClampNeg 3)) 6 ((σ 7 0 8).toNatClampNeg) 4 (σ 6 t.toNatClampNeg 4)) 6 ((σ 7 0 8).toNatClampNeg) 7 t) ((σ 7 0 8).toNatClampNeg) v u k w (vp_lt h_16)) rfl rfl rfl ⟨Nat.le_of_ble_eq_true rfl, Nat.le_of_ble_eq_true rfl⟩ (Nat.le_of_ble_eq_true rfl) dX7_narrow_135 ⟨Nat.le_of_ble_eq_true rfl, Nat.le_of_ble_eq_true rfl⟩ (fun H locs hW hS => ?_)
    have hO : m_X7_narrow k t v u w σ = (none, (f_X7_handOut ((σ 7 0 8).toNatClampNeg) v u k w (us (us (us (us σ 6 ((σ 7 0 8).toNatClampNeg) 0 (σ 6 t.toNatClampNeg 0)) 6 ((σ 7 0 8).toNatClampNeg) 3 (σ 6 t.toNatClampNeg 3)) 6 ((σ 7 0 8).toNatClampNeg) 4 (σ 6 t.toNatClampNeg 4)) 6 ((σ 7 0 8).toNatClampNeg) 7 t)).1, (f_X7_handOut ((σ 7 0 8).toNatClampNeg) v u k w (us (us (us (us σ 6 ((σ 7 0 8).toNatClampNeg) 0 (σ 6 t.toNatClampNeg 0)) 6 ((σ 7 0 8).toNatClampNeg) 3 (σ 6 t.toNatClampNeg 3)) 6 ((σ 7 0 8).toNatClampNeg) 4 (σ 6 t.toNatClampNeg 4)) 6 ((σ 7 0 8).toNatClampNeg) 7 t)).2) := by rw [m_X7_narrow, e_1, nd_none, e_3, nd_none, e_5, nd_none, e_7, nd_none, e_8, nd_none, e_9, nd_none, if_pos c_10, e_14, nd_none, e_15, nd_none]
    exact w_iretZ hC hW hS hO (Nat.le_of_ble_eq_true rfl) (Nat.le_of_ble_eq_true rfl) dX7_narrow_138
theorem fr_X7_narrow {kk : Nat}  {k : Int32} {t : Int32} {v : Int32} {u : Int32} {w : Int32} {σ : Sg} (h6 : kk ≠ 6) (h7 : kk ≠ 7) : (m_X7_narrow k t v u w σ).2.2 kk = σ kk := by
  rw [m_X7_narrow]
  repeat' split
  all_goals (first | (simp only [nd_2, us_kk, ne_eq, not_false_eq_true, h6, h7, fr_X7_handOut]; done) | with_reducible rfl | (simp only [nd_2, us_kk, ne_eq, not_false_eq_true, h6, h7, fr_X7_handOut]; with_reducible rfl))

def m_X7_takeBack (k : Int32) (t : Int32) (σ : Sg) : Option String × Int32 × Sg :=
  nd (e_X7_needActor k σ) (nd (e_X7_needToken t σ) (if (σ 6 t.toNatClampNeg 5) = k then nd (e_X7_needPower 1) ((none, f_X7_isThereStill t σ, us σ 6 t.toNatClampNeg 8 1))
  else nd (e_X7_needPower 0) ((none, f_X7_isThereStill t σ, us σ 6 t.toNatClampNeg 8 1))))
set_option maxHeartbeats 4000000 in
set_option maxRecDepth 100000 in
theorem c_X7_takeBack (l : Launch) (hl9 : l.stackTraces = false) (D : va_G) (ca : Nat → ClassId) (base : Nat) (ad : Adr) (σ : Sg) (k : Int32) (t : Int32) (hI : CInv σ) : Mx l yX7_takeBack cX7_takeBack 5 (some .boolean) { frames := 8, cells := 4, slots := 24, locals := 142 } D ca base ad ρm Lm [.ref (ad 7 0), .int k, .int t] σ (m_X7_takeBack k t σ).1 (some (.int (m_X7_takeBack k t σ).2.1)) (m_X7_takeBack k t σ).2.2 := by
  refine w_ofX (by decide) (Nat.le_of_ble_eq_true rfl) rfl ?_
  intro p e s m args below meth c hC hW hS hout ls hl
  have hx := hC.1
  have hb := hC.2.1
  refine lv_aload_n hx hb dX7_takeBack_0 rfl (lv_at hl 0 rfl) ?_
  refine lv_iload_n hx hb dX7_takeBack_1 rfl (lv_at hl 1 rfl) ?_
  refine w_callVX (As := [.int k]) (rest := []) (st2 := .ref (ad 0 k.toNatClampNeg) :: []) hC hW hS hl cv_X7_133 m_7 (by decide) rfl (c_X7_needActor l hl9 D ca base ad σ k (by first | assumption | decide | omega)) rfl rfl rfl ⟨Nat.le_of_ble_eq_true rfl, Nat.le_of_ble_eq_true rfl⟩ (Nat.le_of_ble_eq_true rfl) dX7_takeBack_2 ⟨Nat.le_of_ble_eq_true rfl, Nat.le_of_ble_eq_true rfl⟩ (fun E ce q9 H locs e_1 hW hS hce hcv hcl => ?_) (fun e_1 H locs hW hS => ?_)
  · have hO : (m_X7_takeBack k t σ).1 = some E := by rw [m_X7_takeBack, e_1, nd_some]
    exact w_out hC hW hS hout hO hce hcv hcl (Nat.le_of_ble_eq_true rfl) (Nat.le_of_ble_eq_true rfl)
  have hv_2 : vp_in k 8 := na_in hI e_1
  refine lv_pop hx hb dX7_takeBack_5 rfl ?_
  refine lv_aload_n hx hb dX7_takeBack_6 rfl (lv_at hl 0 rfl) ?_
  refine lv_iload_n hx hb dX7_takeBack_7 rfl (lv_at hl 2 rfl) ?_
  refine w_callVX (As := [.int t]) (rest := []) (st2 := .ref (ad 6 t.toNatClampNeg) :: []) hC hW hS hl cv_X7_229 m_7 (by decide) rfl (c_X7_needToken l hl9 D ca base ad σ t (by first | assumption | decide | omega)) rfl rfl rfl ⟨Nat.le_of_ble_eq_true rfl, Nat.le_of_ble_eq_true rfl⟩ (Nat.le_of_ble_eq_true rfl) dX7_takeBack_8 ⟨Nat.le_of_ble_eq_true rfl, Nat.le_of_ble_eq_true rfl⟩ (fun E ce q9 H locs e_3 hW hS hce hcv hcl => ?_) (fun e_3 H locs hW hS => ?_)
  · have hO : (m_X7_takeBack k t σ).1 = some E := by rw [m_X7_takeBack, e_1, nd_none, e_3, nd_some]
    exact w_out hC hW hS hout hO hce hcv hcl (Nat.le_of_ble_eq_true rfl) (Nat.le_of_ble_eq_true rfl)
  have hv_4 : vp_in t 10 := nk_in hI e_3
  refine lv_astore_n (lv' := [(3, .ref (ad 6 t.toNatClampNeg)), (0, .ref (ad 7 0)), (1, .int k), (2, .int t)]) hx hb dX7_takeBack_11 rfl hl (by decide) rfl (fun ls hl => ?_)
  refine lv_aload_n hx hb dX7_takeBack_12 rfl (lv_at hl 0 rfl) ?_
  refine gf_X7_264 hC hW (mm_6 (vp_lt hv_4)) dX7_takeBack_13 ?_
  refine lv_iload_n hx hb dX7_takeBack_16 rfl (lv_at hl 2 rfl) ?_
  refine lv_icmp_ne (tgt := 24) hx hb dX7_takeBack_17 (by decide) (fun c_5 => ?_) (fun c_5 => ?_)
  · refine lv_iconst (v := 0) hx hb dX7_takeBack_24 (by decide) ?_
    refine w_callSX (As := [.int 0]) (rest := []) (st2 := []) hC hW hS hl cs_X7_141 (c_X7_needPower l hl9 D ca base ad σ 0 ) rfl rfl rfl ⟨Nat.le_of_ble_eq_true rfl, Nat.le_of_ble_eq_true rfl⟩ (Nat.le_of_ble_eq_true rfl) dX7_takeBack_25 ⟨Nat.le_of_ble_eq_true rfl, Nat.le_of_ble_eq_true rfl⟩ (fun E ce q9 H locs e_6 hW hS hce hcv hcl => ?_) (fun e_6 H locs hW hS => ?_)
    · have hO : (m_X7_takeBack k t σ).1 = some E := by rw [m_X7_takeBack, e_1, nd_none, e_3, nd_none, if_neg c_5, e_6, nd_some]
      exact w_out hC hW hS hout hO hce hcv hcl (Nat.le_of_ble_eq_true rfl) (Nat.le_of_ble_eq_true rfl)
    refine lv_aload_n hx hb dX7_takeBack_28 rfl (lv_at hl 1 rfl) ?_
    refine lv_iload_n hx hb dX7_takeBack_29 rfl (lv_at hl 3 rfl) ?_
    refine w_callV (As := [.int t]) (rest := []) (st2 := .int (f_X7_isThereStill t σ) :: []) hC hW hS hl cv_X7_267 m_7 (by decide) rfl (c_X7_isThereStill l hl9 D ca base ad σ t (by first | assumption | decide | omega)) rfl rfl rfl ⟨Nat.le_of_ble_eq_true rfl, Nat.le_of_ble_eq_true rfl⟩ (Nat.le_of_ble_eq_true rfl) dX7_takeBack_30 ⟨Nat.le_of_ble_eq_true rfl, Nat.le_of_ble_eq_true rfl⟩ (fun H locs hW hS => ?_)
    refine lv_istore (lv' := [(4, .int (f_X7_isThereStill t σ)), (3, .ref (ad 6 t.toNatClampNeg)), (0, .ref (ad 7 0)), (1, .int k), (2, .int t)]) hx hb dX7_takeBack_33 hl (by decide) rfl (fun ls hl => ?_)
    refine lv_aload_n hx hb dX7_takeBack_35 rfl (lv_at hl 1 rfl) ?_
    refine lv_iconst (v := 1) hx hb dX7_takeBack_36 (by decide) ?_
    refine pf_X7_270 hC hW (mm_6 (vp_lt hv_4)) hS dX7_takeBack_37 (fun H locs hW hS => ?_)
    refine lv_iload hx hb dX7_takeBack_40 (lv_at hl 0 rfl) ?_
    have hO : m_X7_takeBack k t σ = (none, f_X7_isThereStill t σ, us σ 6 t.toNatClampNeg 8 1) := by rw [m_X7_takeBack, e_1, nd_none, e_3, nd_none, if_neg c_5, e_6, nd_none]
    exact w_zretZ hC hW hS b_still hO (Nat.le_of_ble_eq_true rfl) (Nat.le_of_ble_eq_true rfl) dX7_takeBack_42
  · refine lv_iconst (v := 1) hx hb dX7_takeBack_20 (by decide) ?_
    refine lv_goto (tgt := 25) hx hb dX7_takeBack_21 (by decide) ?_
    refine w_callSX (As := [.int 1]) (rest := []) (st2 := []) hC hW hS hl cs_X7_141 (c_X7_needPower l hl9 D ca base ad σ 1 ) rfl rfl rfl ⟨Nat.le_of_ble_eq_true rfl, Nat.le_of_ble_eq_true rfl⟩ (Nat.le_of_ble_eq_true rfl) dX7_takeBack_25 ⟨Nat.le_of_ble_eq_true rfl, Nat.le_of_ble_eq_true rfl⟩ (fun E ce q9 H locs e_7 hW hS hce hcv hcl => ?_) (fun e_7 H locs hW hS => ?_)
    · have hO : (m_X7_takeBack k t σ).1 = some E := by rw [m_X7_takeBack, e_1, nd_none, e_3, nd_none, if_pos c_5, e_7, nd_some]
      exact w_out hC hW hS hout hO hce hcv hcl (Nat.le_of_ble_eq_true rfl) (Nat.le_of_ble_eq_true rfl)
    refine lv_aload_n hx hb dX7_takeBack_28 rfl (lv_at hl 1 rfl) ?_
    refine lv_iload_n hx hb dX7_takeBack_29 rfl (lv_at hl 3 rfl) ?_
    refine w_callV (As := [.int t]) (rest := []) (st2 := .int (f_X7_isThereStill t σ) :: []) hC hW hS hl cv_X7_267 m_7 (by decide) rfl (c_X7_isThereStill l hl9 D ca base ad σ t (by first | assumption | decide | omega)) rfl rfl rfl ⟨Nat.le_of_ble_eq_true rfl, Nat.le_of_ble_eq_true rfl⟩ (Nat.le_of_ble_eq_true rfl) dX7_takeBack_30 ⟨Nat.le_of_ble_eq_true rfl, Nat.le_of_ble_eq_true rfl⟩ (fun H locs hW hS => ?_)
    refine lv_istore (lv' := [(4, .int (f_X7_isThereStill t σ)), (3, .ref (ad 6 t.toNatClampNeg)), (0, .ref (ad 7 0)), (1, .int k), (2, .int t)]) hx hb dX7_takeBack_33 hl (by decide) rfl (fun ls hl => ?_)
    refine lv_aload_n hx hb dX7_takeBack_35 rfl (lv_at hl 1 rfl) ?_
    refine lv_iconst (v := 1) hx hb dX7_takeBack_36 (by decide) ?_
    refine pf_X7_270 hC hW (mm_6 (vp_lt hv_4)) hS dX7_takeBack_37 (fun H locs hW hS => ?_)
    refine lv_iload hx hb dX7_takeBack_40 (lv_at hl 0 rfl) ?_
    have hO : m_X7_takeBack k t σ = (none, f_X7_isThereStill t σ, us σ 6 t.toNatClampNeg 8 1) := by rw [m_X7_takeBack, e_1, nd_none, e_3, nd_none, if_pos c_5, e_7, nd_none]
    exact w_zretZ hC hW hS b_still hO (Nat.le_of_ble_eq_true rfl) (Nat.le_of_ble_eq_true rfl) dX7_takeBack_42
theorem fr_X7_takeBack {kk : Nat}  {k : Int32} {t : Int32} {σ : Sg} (h6 : kk ≠ 6) : (m_X7_takeBack k t σ).2.2 kk = σ kk := by
  rw [m_X7_takeBack]
  repeat' split
  all_goals (first | (simp only [nd_2, us_kk, ne_eq, not_false_eq_true, h6]; done) | with_reducible rfl | (simp only [nd_2, us_kk, ne_eq, not_false_eq_true, h6]; with_reducible rfl))

def m_X7_pass (v : Int32) (σ : Sg) : Option String × Int32 × Sg :=
  nd (e_X7_needRange v 1 1000) (if ((σ 7 0 9) + v) ≤ 10000 then (none, (σ 7 0 9) + v, us σ 7 0 9 ((σ 7 0 9) + v))
  else (some "java/lang/IllegalStateException", 0, σ))
set_option maxHeartbeats 4000000 in
set_option maxRecDepth 100000 in
theorem c_X7_pass (l : Launch) (hl9 : l.stackTraces = false) (D : va_G) (ca : Nat → ClassId) (base : Nat) (ad : Adr) (σ : Sg) (v : Int32) (hI : CInv σ) : Mx l yX7_pass cX7_pass 2 (some .int) { frames := 7, cells := 2, slots := 12, locals := 122 } D ca base ad ρm Lm [.ref (ad 7 0), .int v] σ (m_X7_pass v σ).1 (some (.int (m_X7_pass v σ).2.1)) (m_X7_pass v σ).2.2 := by
  refine w_ofX (by decide) (Nat.le_of_ble_eq_true rfl) rfl ?_
  intro p e s m args below meth c hC hW hS hout ls hl
  have hx := hC.1
  have hb := hC.2.1
  refine lv_iload_n hx hb dX7_pass_0 rfl (lv_at hl 1 rfl) ?_
  refine lv_iconst (v := 1) hx hb dX7_pass_1 (by decide) ?_
  refine lv_sipush (v := 1000) hx hb dX7_pass_2 (by decide) ?_
  refine w_callSX (As := [.int v, .int 1, .int 1000]) (rest := []) (st2 := []) hC hW hS hl cs_X7_107 (c_X7_needRange l hl9 D ca base ad σ v 1 1000 ) rfl rfl rfl ⟨Nat.le_of_ble_eq_true rfl, Nat.le_of_ble_eq_true rfl⟩ (Nat.le_of_ble_eq_true rfl) dX7_pass_5 ⟨Nat.le_of_ble_eq_true rfl, Nat.le_of_ble_eq_true rfl⟩ (fun E ce q9 H locs e_1 hW hS hce hcv hcl => ?_) (fun e_1 H locs hW hS => ?_)
  · have hO : (m_X7_pass v σ).1 = some E := by rw [m_X7_pass, e_1, nd_some]
    exact w_out hC hW hS hout hO hce hcv hcl (Nat.le_of_ble_eq_true rfl) (Nat.le_of_ble_eq_true rfl)
  refine lv_aload_n hx hb dX7_pass_8 rfl (lv_at hl 0 rfl) ?_
  refine gf_X7_243 hC hW m_7 dX7_pass_9 ?_
  refine lv_iload_n hx hb dX7_pass_12 rfl (lv_at hl 1 rfl) ?_
  refine lv_iadd hx hb dX7_pass_13 ?_
  refine lv_sipush (v := 10000) hx hb dX7_pass_14 (by decide) ?_
  refine lv_icmp_le (tgt := 31) hx hb dX7_pass_17 (by decide) (fun c_2 => ?_) (fun c_2 => ?_)
  · refine lv_aload_n hx hb dX7_pass_31 rfl (lv_at hl 0 rfl) ?_
    refine lv_dup hx hb dX7_pass_32 rfl ?_
    refine gf_X7_243 hC hW m_7 dX7_pass_33 ?_
    refine lv_iload_n hx hb dX7_pass_36 rfl (lv_at hl 1 rfl) ?_
    refine lv_iadd hx hb dX7_pass_37 ?_
    refine pf_X7_243 hC hW m_7 hS dX7_pass_38 (fun H locs hW hS => ?_)
    refine lv_aload_n hx hb dX7_pass_41 rfl (lv_at hl 0 rfl) ?_
    refine gf_X7_243 hC hW m_7 dX7_pass_42 ?_
    refine lv_eqi (y := (σ 7 0 9) + v) (by rw [us_h]) ?_
    have hO : m_X7_pass v σ = (none, (σ 7 0 9) + v, us σ 7 0 9 ((σ 7 0 9) + v)) := by rw [m_X7_pass, e_1, nd_none, if_pos c_2]
    exact w_iretZ hC hW hS hO (Nat.le_of_ble_eq_true rfl) (Nat.le_of_ble_eq_true rfl) dX7_pass_45
  · have hO : m_X7_pass v σ = (some "java/lang/IllegalStateException", 0, σ) := by rw [m_X7_pass, e_1, nd_none, if_neg c_2]
    exact w_throw hl9 hC hW hS hout hl th_84_274_88 (by rw [hO]) dX7_pass_20 dX7_pass_23 dX7_pass_24 dX7_pass_27 dX7_pass_30 (Nat.le_of_ble_eq_true rfl) (Nat.le_of_ble_eq_true rfl) (Nat.le_of_ble_eq_true rfl) (Nat.le_of_ble_eq_true rfl) (Nat.le_of_ble_eq_true rfl) (Nat.le_of_ble_eq_true rfl)
theorem fr_X7_pass {kk : Nat}  {v : Int32} {σ : Sg} (h7 : kk ≠ 7) : (m_X7_pass v σ).2.2 kk = σ kk := by
  rw [m_X7_pass]
  repeat' split
  all_goals (first | (simp only [nd_2, us_kk, ne_eq, not_false_eq_true, h7]; done) | with_reducible rfl | (simp only [nd_2, us_kk, ne_eq, not_false_eq_true, h7]; with_reducible rfl))

def m_X7_watch (v : Int32) (w : Int32) (σ : Sg) : Option String × Int32 × Sg :=
  nd (e_X7_needRange v 0 7) (nd (e_X7_needRange w 0 7) ((none, 0, us (us σ 7 0 10 v) 7 0 11 w)))
set_option maxHeartbeats 4000000 in
set_option maxRecDepth 100000 in
theorem c_X7_watch (l : Launch) (hl9 : l.stackTraces = false) (D : va_G) (ca : Nat → ClassId) (base : Nat) (ad : Adr) (σ : Sg) (v : Int32) (w : Int32) (hI : CInv σ) : Mx l yX7_watch cX7_watch 3 none { frames := 7, cells := 2, slots := 12, locals := 122 } D ca base ad ρm Lm [.ref (ad 7 0), .int v, .int w] σ (m_X7_watch v w σ).1 none (m_X7_watch v w σ).2.2 := by
  refine w_ofX (by decide) (Nat.le_of_ble_eq_true rfl) rfl ?_
  intro p e s m args below meth c hC hW hS hout ls hl
  have hx := hC.1
  have hb := hC.2.1
  refine lv_iload_n hx hb dX7_watch_0 rfl (lv_at hl 1 rfl) ?_
  refine lv_iconst (v := 0) hx hb dX7_watch_1 (by decide) ?_
  refine lv_bipush (v := 7) hx hb dX7_watch_2 (by decide) ?_
  refine w_callSX (As := [.int v, .int 0, .int 7]) (rest := []) (st2 := []) hC hW hS hl cs_X7_107 (c_X7_needRange l hl9 D ca base ad σ v 0 7 ) rfl rfl rfl ⟨Nat.le_of_ble_eq_true rfl, Nat.le_of_ble_eq_true rfl⟩ (Nat.le_of_ble_eq_true rfl) dX7_watch_4 ⟨Nat.le_of_ble_eq_true rfl, Nat.le_of_ble_eq_true rfl⟩ (fun E ce q9 H locs e_1 hW hS hce hcv hcl => ?_) (fun e_1 H locs hW hS => ?_)
  · have hO : (m_X7_watch v w σ).1 = some E := by rw [m_X7_watch, e_1, nd_some]
    exact w_out hC hW hS hout hO hce hcv hcl (Nat.le_of_ble_eq_true rfl) (Nat.le_of_ble_eq_true rfl)
  refine lv_iload_n hx hb dX7_watch_7 rfl (lv_at hl 2 rfl) ?_
  refine lv_iconst (v := 0) hx hb dX7_watch_8 (by decide) ?_
  refine lv_bipush (v := 7) hx hb dX7_watch_9 (by decide) ?_
  refine w_callSX (As := [.int w, .int 0, .int 7]) (rest := []) (st2 := []) hC hW hS hl cs_X7_107 (c_X7_needRange l hl9 D ca base ad σ w 0 7 ) rfl rfl rfl ⟨Nat.le_of_ble_eq_true rfl, Nat.le_of_ble_eq_true rfl⟩ (Nat.le_of_ble_eq_true rfl) dX7_watch_11 ⟨Nat.le_of_ble_eq_true rfl, Nat.le_of_ble_eq_true rfl⟩ (fun E ce q9 H locs e_2 hW hS hce hcv hcl => ?_) (fun e_2 H locs hW hS => ?_)
  · have hO : (m_X7_watch v w σ).1 = some E := by rw [m_X7_watch, e_1, nd_none, e_2, nd_some]
    exact w_out hC hW hS hout hO hce hcv hcl (Nat.le_of_ble_eq_true rfl) (Nat.le_of_ble_eq_true rfl)
  refine lv_aload_n hx hb dX7_watch_14 rfl (lv_at hl 0 rfl) ?_
  refine lv_iload_n hx hb dX7_watch_15 rfl (lv_at hl 1 rfl) ?_
  refine pf_X7_69 hC hW m_7 hS dX7_watch_16 (fun H locs hW hS => ?_)
  refine lv_aload_n hx hb dX7_watch_19 rfl (lv_at hl 0 rfl) ?_
  refine lv_iload_n hx hb dX7_watch_20 rfl (lv_at hl 2 rfl) ?_
  refine pf_X7_73 hC hW m_7 hS dX7_watch_21 (fun H locs hW hS => ?_)
  have hO : m_X7_watch v w σ = (none, 0, us (us σ 7 0 10 v) 7 0 11 w) := by rw [m_X7_watch, e_1, nd_none, e_2, nd_none]
  exact w_vretZ hC hW hS hO (Nat.le_of_ble_eq_true rfl) (Nat.le_of_ble_eq_true rfl) dX7_watch_24
theorem fr_X7_watch {kk : Nat}  {v : Int32} {w : Int32} {σ : Sg} (h7 : kk ≠ 7) : (m_X7_watch v w σ).2.2 kk = σ kk := by
  rw [m_X7_watch]
  repeat' split
  all_goals (first | (simp only [nd_2, us_kk, ne_eq, not_false_eq_true, h7]; done) | with_reducible rfl | (simp only [nd_2, us_kk, ne_eq, not_false_eq_true, h7]; with_reducible rfl))
