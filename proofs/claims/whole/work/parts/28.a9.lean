def f_X7_entries  (σ : Sg) : Int32 :=
  σ 1 0 2
set_option maxHeartbeats 4000000 in
set_option maxRecDepth 100000 in
theorem c_X7_entries (l : Launch) (hl9 : l.stackTraces = false) (D : va_G) (ca : Nat → ClassId) (base : Nat) (ad : Adr) (σ : Sg)   : Mt l yX7_entries cX7_entries 1 (some .int) { frames := 0, cells := 0, slots := 0, locals := 0 } D ca base ad ρm Lm [.ref (ad 7 0)] σ (some (.int (f_X7_entries σ))) σ := by
  refine w_ofW (by decide) (Nat.le_of_ble_eq_true rfl) rfl ?_
  intro p e s m args below meth c hC hW hS ls hl hin
  have hx := hC.1
  have hb := hC.2.1
  refine lv_aload_n hx hb dX7_entries_0 rfl (lv_at hl 0 rfl) ?_
  refine gf_X7_26 hC hW m_7 rfl dX7_entries_1 ?_
  refine gf_X7_276 hC hW m_1 dX7_entries_4 ?_
  have hO : f_X7_entries σ = σ 1 0 2 := by rw [f_X7_entries]
  exact w_iretP hC hW hS hO (Nat.le_of_ble_eq_true rfl) (Nat.le_of_ble_eq_true rfl) dX7_entries_7

def f_X7_lost  (σ : Sg) : Int32 :=
  σ 1 0 3
set_option maxHeartbeats 4000000 in
set_option maxRecDepth 100000 in
theorem c_X7_lost (l : Launch) (hl9 : l.stackTraces = false) (D : va_G) (ca : Nat → ClassId) (base : Nat) (ad : Adr) (σ : Sg)   : Mt l yX7_lost cX7_lost 1 (some .int) { frames := 0, cells := 0, slots := 0, locals := 0 } D ca base ad ρm Lm [.ref (ad 7 0)] σ (some (.int (f_X7_lost σ))) σ := by
  refine w_ofW (by decide) (Nat.le_of_ble_eq_true rfl) rfl ?_
  intro p e s m args below meth c hC hW hS ls hl hin
  have hx := hC.1
  have hb := hC.2.1
  refine lv_aload_n hx hb dX7_lost_0 rfl (lv_at hl 0 rfl) ?_
  refine gf_X7_26 hC hW m_7 rfl dX7_lost_1 ?_
  refine gf_X7_279 hC hW m_1 dX7_lost_4 ?_
  have hO : f_X7_lost σ = σ 1 0 3 := by rw [f_X7_lost]
  exact w_iretP hC hW hS hO (Nat.le_of_ble_eq_true rfl) (Nat.le_of_ble_eq_true rfl) dX7_lost_7

def m_X7_logged (x : Int32) (v : Int32) (σ : Sg) : Option String × Int32 × Sg :=
  nd (e_X7_needPlace x (σ 1 0 2)) (nd (e_X7_needRange v 0 4) ((none, f_X1_read x v σ, σ)))
set_option maxHeartbeats 4000000 in
set_option maxRecDepth 100000 in
theorem c_X7_logged (l : Launch) (hl9 : l.stackTraces = false) (D : va_G) (ca : Nat → ClassId) (base : Nat) (ad : Adr) (σ : Sg) (x : Int32) (v : Int32) (hI : CInv σ) : Mx l yX7_logged cX7_logged 3 (some .int) { frames := 7, cells := 2, slots := 12, locals := 122 } D ca base ad ρm Lm [.ref (ad 7 0), .int x, .int v] σ (m_X7_logged x v σ).1 (some (.int (m_X7_logged x v σ).2.1)) (m_X7_logged x v σ).2.2 := by
  refine w_ofX (by decide) (Nat.le_of_ble_eq_true rfl) rfl ?_
  intro p e s m args below meth c hC hW hS hout ls hl
  have hx := hC.1
  have hb := hC.2.1
  refine lv_iload_n hx hb dX7_logged_0 rfl (lv_at hl 1 rfl) ?_
  refine lv_aload_n hx hb dX7_logged_1 rfl (lv_at hl 0 rfl) ?_
  refine gf_X7_26 hC hW m_7 rfl dX7_logged_2 ?_
  refine gf_X7_276 hC hW m_1 dX7_logged_5 ?_
  refine w_callSX (As := [.int x, .int (σ 1 0 2)]) (rest := []) (st2 := []) hC hW hS hl cs_X7_76 (c_X7_needPlace l hl9 D ca base ad σ x (σ 1 0 2) ) rfl rfl rfl ⟨Nat.le_of_ble_eq_true rfl, Nat.le_of_ble_eq_true rfl⟩ (Nat.le_of_ble_eq_true rfl) dX7_logged_8 ⟨Nat.le_of_ble_eq_true rfl, Nat.le_of_ble_eq_true rfl⟩ (fun E ce q9 H locs e_1 hW hS hce hcv hcl => ?_) (fun e_1 H locs hW hS => ?_)
  · have hO : (m_X7_logged x v σ).1 = some E := by rw [m_X7_logged, e_1, nd_some]
    exact w_out hC hW hS hout hO hce hcv hcl (Nat.le_of_ble_eq_true rfl) (Nat.le_of_ble_eq_true rfl)
  refine lv_iload_n hx hb dX7_logged_11 rfl (lv_at hl 2 rfl) ?_
  refine lv_iconst (v := 0) hx hb dX7_logged_12 (by decide) ?_
  refine lv_iconst (v := 4) hx hb dX7_logged_13 (by decide) ?_
  refine w_callSX (As := [.int v, .int 0, .int 4]) (rest := []) (st2 := []) hC hW hS hl cs_X7_107 (c_X7_needRange l hl9 D ca base ad σ v 0 4 ) rfl rfl rfl ⟨Nat.le_of_ble_eq_true rfl, Nat.le_of_ble_eq_true rfl⟩ (Nat.le_of_ble_eq_true rfl) dX7_logged_14 ⟨Nat.le_of_ble_eq_true rfl, Nat.le_of_ble_eq_true rfl⟩ (fun E ce q9 H locs e_2 hW hS hce hcv hcl => ?_) (fun e_2 H locs hW hS => ?_)
  · have hO : (m_X7_logged x v σ).1 = some E := by rw [m_X7_logged, e_1, nd_none, e_2, nd_some]
    exact w_out hC hW hS hout hO hce hcv hcl (Nat.le_of_ble_eq_true rfl) (Nat.le_of_ble_eq_true rfl)
  refine lv_aload_n hx hb dX7_logged_17 rfl (lv_at hl 0 rfl) ?_
  refine gf_X7_26 hC hW m_7 rfl dX7_logged_18 ?_
  refine lv_iload_n hx hb dX7_logged_21 rfl (lv_at hl 1 rfl) ?_
  refine lv_iload_n hx hb dX7_logged_22 rfl (lv_at hl 2 rfl) ?_
  refine w_callV (As := [.int x, .int v]) (rest := []) (st2 := .int (f_X1_read x v σ) :: []) hC hW hS hl cv_X7_282 m_1 (by decide) rfl (c_X1_read l hl9 D ca base ad σ x v hI.1) rfl rfl rfl ⟨Nat.le_of_ble_eq_true rfl, Nat.le_of_ble_eq_true rfl⟩ (Nat.le_of_ble_eq_true rfl) dX7_logged_23 ⟨Nat.le_of_ble_eq_true rfl, Nat.le_of_ble_eq_true rfl⟩ (fun H locs hW hS => ?_)
  have hO : m_X7_logged x v σ = (none, f_X1_read x v σ, σ) := by rw [m_X7_logged, e_1, nd_none, e_2, nd_none]
  exact w_iretZ hC hW hS hO (Nat.le_of_ble_eq_true rfl) (Nat.le_of_ble_eq_true rfl) dX7_logged_26
theorem fr_X7_logged {kk : Nat}  {x : Int32} {v : Int32} {σ : Sg}  : (m_X7_logged x v σ).2.2 kk = σ kk := by
  rw [m_X7_logged]
  repeat' split
  all_goals (first | (simp only [nd_2, us_kk, ne_eq, not_false_eq_true]; done) | with_reducible rfl | (simp only [nd_2, us_kk, ne_eq, not_false_eq_true]; with_reducible rfl))

def m_X7_forge (x : Int32) (v : Int32) (σ : Sg) : Option String × Int32 × Sg :=
  nd (e_X7_needPlace x (σ 1 0 2)) (nd (e_X7_needRange v 0 5) ((none, f_X1_read x 4 σ, s_X1_write x 4 v σ)))
set_option maxHeartbeats 4000000 in
set_option maxRecDepth 100000 in
theorem c_X7_forge (l : Launch) (hl9 : l.stackTraces = false) (D : va_G) (ca : Nat → ClassId) (base : Nat) (ad : Adr) (σ : Sg) (x : Int32) (v : Int32) (hI : CInv σ) : Mx l yX7_forge cX7_forge 4 (some .int) { frames := 7, cells := 2, slots := 12, locals := 122 } D ca base ad ρm Lm [.ref (ad 7 0), .int x, .int v] σ (m_X7_forge x v σ).1 (some (.int (m_X7_forge x v σ).2.1)) (m_X7_forge x v σ).2.2 := by
  refine w_ofX (by decide) (Nat.le_of_ble_eq_true rfl) rfl ?_
  intro p e s m args below meth c hC hW hS hout ls hl
  have hx := hC.1
  have hb := hC.2.1
  refine lv_iload_n hx hb dX7_forge_0 rfl (lv_at hl 1 rfl) ?_
  refine lv_aload_n hx hb dX7_forge_1 rfl (lv_at hl 0 rfl) ?_
  refine gf_X7_26 hC hW m_7 rfl dX7_forge_2 ?_
  refine gf_X7_276 hC hW m_1 dX7_forge_5 ?_
  refine w_callSX (As := [.int x, .int (σ 1 0 2)]) (rest := []) (st2 := []) hC hW hS hl cs_X7_76 (c_X7_needPlace l hl9 D ca base ad σ x (σ 1 0 2) ) rfl rfl rfl ⟨Nat.le_of_ble_eq_true rfl, Nat.le_of_ble_eq_true rfl⟩ (Nat.le_of_ble_eq_true rfl) dX7_forge_8 ⟨Nat.le_of_ble_eq_true rfl, Nat.le_of_ble_eq_true rfl⟩ (fun E ce q9 H locs e_1 hW hS hce hcv hcl => ?_) (fun e_1 H locs hW hS => ?_)
  · have hO : (m_X7_forge x v σ).1 = some E := by rw [m_X7_forge, e_1, nd_some]
    exact w_out hC hW hS hout hO hce hcv hcl (Nat.le_of_ble_eq_true rfl) (Nat.le_of_ble_eq_true rfl)
  refine lv_iload_n hx hb dX7_forge_11 rfl (lv_at hl 2 rfl) ?_
  refine lv_iconst (v := 0) hx hb dX7_forge_12 (by decide) ?_
  refine lv_iconst (v := 5) hx hb dX7_forge_13 (by decide) ?_
  refine w_callSX (As := [.int v, .int 0, .int 5]) (rest := []) (st2 := []) hC hW hS hl cs_X7_107 (c_X7_needRange l hl9 D ca base ad σ v 0 5 ) rfl rfl rfl ⟨Nat.le_of_ble_eq_true rfl, Nat.le_of_ble_eq_true rfl⟩ (Nat.le_of_ble_eq_true rfl) dX7_forge_14 ⟨Nat.le_of_ble_eq_true rfl, Nat.le_of_ble_eq_true rfl⟩ (fun E ce q9 H locs e_2 hW hS hce hcv hcl => ?_) (fun e_2 H locs hW hS => ?_)
  · have hO : (m_X7_forge x v σ).1 = some E := by rw [m_X7_forge, e_1, nd_none, e_2, nd_some]
    exact w_out hC hW hS hout hO hce hcv hcl (Nat.le_of_ble_eq_true rfl) (Nat.le_of_ble_eq_true rfl)
  refine lv_aload_n hx hb dX7_forge_17 rfl (lv_at hl 0 rfl) ?_
  refine gf_X7_26 hC hW m_7 rfl dX7_forge_18 ?_
  refine lv_iload_n hx hb dX7_forge_21 rfl (lv_at hl 1 rfl) ?_
  refine lv_iconst (v := 4) hx hb dX7_forge_22 (by decide) ?_
  refine w_callV (As := [.int x, .int 4]) (rest := []) (st2 := .int (f_X1_read x 4 σ) :: []) hC hW hS hl cv_X7_282 m_1 (by decide) rfl (c_X1_read l hl9 D ca base ad σ x 4 hI.1) rfl rfl rfl ⟨Nat.le_of_ble_eq_true rfl, Nat.le_of_ble_eq_true rfl⟩ (Nat.le_of_ble_eq_true rfl) dX7_forge_23 ⟨Nat.le_of_ble_eq_true rfl, Nat.le_of_ble_eq_true rfl⟩ (fun H locs hW hS => ?_)
  refine lv_istore_n (lv' := [(3, .int (f_X1_read x 4 σ)), (0, .ref (ad 7 0)), (1, .int x), (2, .int v)]) hx hb dX7_forge_26 rfl hl (by decide) rfl (fun ls hl => ?_)
  refine lv_aload_n hx hb dX7_forge_27 rfl (lv_at hl 1 rfl) ?_
  refine gf_X7_26 hC hW m_7 rfl dX7_forge_28 ?_
  refine lv_iload_n hx hb dX7_forge_31 rfl (lv_at hl 2 rfl) ?_
  refine lv_iconst (v := 4) hx hb dX7_forge_32 (by decide) ?_
  refine lv_iload_n hx hb dX7_forge_33 rfl (lv_at hl 3 rfl) ?_
  refine w_callV (As := [.int x, .int 4, .int v]) (rest := []) (st2 := []) hC hW hS hl cv_X7_285 m_1 (by decide) rfl (c_X1_write l hl9 D ca base ad σ x 4 v hI.1) rfl rfl rfl ⟨Nat.le_of_ble_eq_true rfl, Nat.le_of_ble_eq_true rfl⟩ (Nat.le_of_ble_eq_true rfl) dX7_forge_34 ⟨Nat.le_of_ble_eq_true rfl, Nat.le_of_ble_eq_true rfl⟩ (fun H locs hW hS => ?_)
  refine lv_iload_n hx hb dX7_forge_37 rfl (lv_at hl 0 rfl) ?_
  have hO : m_X7_forge x v σ = (none, f_X1_read x 4 σ, s_X1_write x 4 v σ) := by rw [m_X7_forge, e_1, nd_none, e_2, nd_none]
  exact w_iretZ hC hW hS hO (Nat.le_of_ble_eq_true rfl) (Nat.le_of_ble_eq_true rfl) dX7_forge_38
theorem fr_X7_forge {kk : Nat}  {x : Int32} {v : Int32} {σ : Sg} (h11 : kk ≠ 11) : (m_X7_forge x v σ).2.2 kk = σ kk := by
  rw [m_X7_forge]
  repeat' split
  all_goals (first | (simp only [nd_2, us_kk, ne_eq, not_false_eq_true, h11, fr_X1_write]; done) | with_reducible rfl | (simp only [nd_2, us_kk, ne_eq, not_false_eq_true, h11, fr_X1_write]; with_reducible rfl))

def f_X7_broken  (σ : Sg) : Int32 :=
  f_X1_firstBroken σ
set_option maxHeartbeats 4000000 in
set_option maxRecDepth 100000 in
theorem c_X7_broken (l : Launch) (hl9 : l.stackTraces = false) (D : va_G) (ca : Nat → ClassId) (base : Nat) (ad : Adr) (σ : Sg)  (hI : CInv σ) : Mt l yX7_broken cX7_broken 1 (some .int) { frames := 4, cells := 0, slots := 0, locals := 91 } D ca base ad ρm Lm [.ref (ad 7 0)] σ (some (.int (f_X7_broken σ))) σ := by
  refine w_ofW (by decide) (Nat.le_of_ble_eq_true rfl) rfl ?_
  intro p e s m args below meth c hC hW hS ls hl hin
  have hx := hC.1
  have hb := hC.2.1
  refine lv_aload_n hx hb dX7_broken_0 rfl (lv_at hl 0 rfl) ?_
  refine gf_X7_26 hC hW m_7 rfl dX7_broken_1 ?_
  refine w_callV (As := []) (rest := []) (st2 := .int (f_X1_firstBroken σ) :: []) hC hW hS hl cv_X7_288 m_1 (by decide) rfl (c_X1_firstBroken l hl9 D ca base ad σ hI.1) rfl rfl rfl ⟨Nat.le_of_ble_eq_true rfl, Nat.le_of_ble_eq_true rfl⟩ (Nat.le_of_ble_eq_true rfl) dX7_broken_4 ⟨Nat.le_of_ble_eq_true rfl, Nat.le_of_ble_eq_true rfl⟩ (fun H locs hW hS => ?_)
  have hO : f_X7_broken σ = f_X1_firstBroken σ := by rw [f_X7_broken]
  exact w_iretP hC hW hS hO (Nat.le_of_ble_eq_true rfl) (Nat.le_of_ble_eq_true rfl) dX7_broken_7

def m_X7_verdict (k : Int32) (t : Int32) (r : Int32) (σ : Sg) : Option String × Int32 × Sg :=
  nd (e_X7_needActor k σ) (nd (e_X7_needThing t σ) (nd (e_X7_needRight r) ((none, f_X7_judge k.toNatClampNeg t.toNatClampNeg r σ, σ))))
set_option maxHeartbeats 4000000 in
set_option maxRecDepth 100000 in
theorem c_X7_verdict (l : Launch) (hl9 : l.stackTraces = false) (D : va_G) (ca : Nat → ClassId) (base : Nat) (ad : Adr) (σ : Sg) (k : Int32) (t : Int32) (r : Int32) (hI : CInv σ) : Mx l yX7_verdict cX7_verdict 6 (some .int) { frames := 8, cells := 3, slots := 18, locals := 142 } D ca base ad ρm Lm [.ref (ad 7 0), .int k, .int t, .int r] σ (m_X7_verdict k t r σ).1 (some (.int (m_X7_verdict k t r σ).2.1)) (m_X7_verdict k t r σ).2.2 := by
  refine w_ofX (by decide) (Nat.le_of_ble_eq_true rfl) rfl ?_
  intro p e s m args below meth c hC hW hS hout ls hl
  have hx := hC.1
  have hb := hC.2.1
  refine lv_aload_n hx hb dX7_verdict_0 rfl (lv_at hl 0 rfl) ?_
  refine lv_iload_n hx hb dX7_verdict_1 rfl (lv_at hl 1 rfl) ?_
  refine w_callVX (As := [.int k]) (rest := []) (st2 := .ref (ad 0 k.toNatClampNeg) :: []) hC hW hS hl cv_X7_133 m_7 (by decide) rfl (c_X7_needActor l hl9 D ca base ad σ k (by first | assumption | decide | omega)) rfl rfl rfl ⟨Nat.le_of_ble_eq_true rfl, Nat.le_of_ble_eq_true rfl⟩ (Nat.le_of_ble_eq_true rfl) dX7_verdict_2 ⟨Nat.le_of_ble_eq_true rfl, Nat.le_of_ble_eq_true rfl⟩ (fun E ce q9 H locs e_1 hW hS hce hcv hcl => ?_) (fun e_1 H locs hW hS => ?_)
  · have hO : (m_X7_verdict k t r σ).1 = some E := by rw [m_X7_verdict, e_1, nd_some]
    exact w_out hC hW hS hout hO hce hcv hcl (Nat.le_of_ble_eq_true rfl) (Nat.le_of_ble_eq_true rfl)
  have hv_2 : vp_in k 8 := na_in hI e_1
  refine lv_astore (lv' := [(4, .ref (ad 0 k.toNatClampNeg)), (0, .ref (ad 7 0)), (1, .int k), (2, .int t), (3, .int r)]) hx hb dX7_verdict_5 hl (by decide) rfl (fun ls hl => ?_)
  refine lv_aload_n hx hb dX7_verdict_7 rfl (lv_at hl 1 rfl) ?_
  refine lv_iload_n hx hb dX7_verdict_8 rfl (lv_at hl 3 rfl) ?_
  refine w_callVX (As := [.int t]) (rest := []) (st2 := .ref (ad 5 t.toNatClampNeg) :: []) hC hW hS hl cv_X7_103 m_7 (by decide) rfl (c_X7_needThing l hl9 D ca base ad σ t (by first | assumption | decide | omega)) rfl rfl rfl ⟨Nat.le_of_ble_eq_true rfl, Nat.le_of_ble_eq_true rfl⟩ (Nat.le_of_ble_eq_true rfl) dX7_verdict_9 ⟨Nat.le_of_ble_eq_true rfl, Nat.le_of_ble_eq_true rfl⟩ (fun E ce q9 H locs e_3 hW hS hce hcv hcl => ?_) (fun e_3 H locs hW hS => ?_)
  · have hO : (m_X7_verdict k t r σ).1 = some E := by rw [m_X7_verdict, e_1, nd_none, e_3, nd_some]
    exact w_out hC hW hS hout hO hce hcv hcl (Nat.le_of_ble_eq_true rfl) (Nat.le_of_ble_eq_true rfl)
  have hv_4 : vp_in t 12 := nt_in hI e_3
  refine lv_astore (lv' := [(5, .ref (ad 5 t.toNatClampNeg)), (4, .ref (ad 0 k.toNatClampNeg)), (0, .ref (ad 7 0)), (1, .int k), (2, .int t), (3, .int r)]) hx hb dX7_verdict_12 hl (by decide) rfl (fun ls hl => ?_)
  refine lv_iload_n hx hb dX7_verdict_14 rfl (lv_at hl 5 rfl) ?_
  refine w_callSX (As := [.int r]) (rest := []) (st2 := []) hC hW hS hl cs_X7_214 (c_X7_needRight l hl9 D ca base ad σ r ) rfl rfl rfl ⟨Nat.le_of_ble_eq_true rfl, Nat.le_of_ble_eq_true rfl⟩ (Nat.le_of_ble_eq_true rfl) dX7_verdict_15 ⟨Nat.le_of_ble_eq_true rfl, Nat.le_of_ble_eq_true rfl⟩ (fun E ce q9 H locs e_5 hW hS hce hcv hcl => ?_) (fun e_5 H locs hW hS => ?_)
  · have hO : (m_X7_verdict k t r σ).1 = some E := by rw [m_X7_verdict, e_1, nd_none, e_3, nd_none, e_5, nd_some]
    exact w_out hC hW hS hout hO hce hcv hcl (Nat.le_of_ble_eq_true rfl) (Nat.le_of_ble_eq_true rfl)
  refine lv_aload_n hx hb dX7_verdict_18 rfl (lv_at hl 2 rfl) ?_
  refine lv_aload hx hb dX7_verdict_19 (lv_at hl 1 rfl) ?_
  refine lv_aload hx hb dX7_verdict_21 (lv_at hl 0 rfl) ?_
  refine lv_iload_n hx hb dX7_verdict_23 rfl (lv_at hl 5 rfl) ?_
  refine w_callV (As := [.ref (ad 0 k.toNatClampNeg), .ref (ad 5 t.toNatClampNeg), .int r]) (rest := []) (st2 := .int (f_X7_judge k.toNatClampNeg t.toNatClampNeg r σ) :: []) hC hW hS hl cv_X7_217 m_7 (by decide) rfl (c_X7_judge l hl9 D ca base ad σ k.toNatClampNeg t.toNatClampNeg r (Nat.lt_trans (vp_lt hv_2) (by decide)) (Nat.lt_trans (vp_lt hv_4) (by decide))) rfl rfl rfl ⟨Nat.le_of_ble_eq_true rfl, Nat.le_of_ble_eq_true rfl⟩ (Nat.le_of_ble_eq_true rfl) dX7_verdict_24 ⟨Nat.le_of_ble_eq_true rfl, Nat.le_of_ble_eq_true rfl⟩ (fun H locs hW hS => ?_)
  have hO : m_X7_verdict k t r σ = (none, f_X7_judge k.toNatClampNeg t.toNatClampNeg r σ, σ) := by rw [m_X7_verdict, e_1, nd_none, e_3, nd_none, e_5, nd_none]
  exact w_iretZ hC hW hS hO (Nat.le_of_ble_eq_true rfl) (Nat.le_of_ble_eq_true rfl) dX7_verdict_27
theorem fr_X7_verdict {kk : Nat}  {k : Int32} {t : Int32} {r : Int32} {σ : Sg}  : (m_X7_verdict k t r σ).2.2 kk = σ kk := by
  rw [m_X7_verdict]
  repeat' split
  all_goals (first | (simp only [nd_2, us_kk, ne_eq, not_false_eq_true]; done) | with_reducible rfl | (simp only [nd_2, us_kk, ne_eq, not_false_eq_true]; with_reducible rfl))

def m_X7_verdictAnew (k : Int32) (t : Int32) (r : Int32) (σ : Sg) : Option String × Int32 × Sg :=
  nd (e_X7_needActor k σ) (nd (e_X7_needThing t σ) (nd (e_X7_needRight r) ((none, f_X7_judgeAnew k.toNatClampNeg t.toNatClampNeg r (s_X2_findAnew σ), s_X2_findAnew σ))))
set_option maxHeartbeats 4000000 in
set_option maxRecDepth 100000 in
theorem c_X7_verdictAnew (l : Launch) (hl9 : l.stackTraces = false) (D : va_G) (ca : Nat → ClassId) (base : Nat) (ad : Adr) (σ : Sg) (k : Int32) (t : Int32) (r : Int32) (hI : CInv σ) : Mx l yX7_verdictAnew cX7_verdictAnew 6 (some .int) { frames := 8, cells := 3, slots := 18, locals := 142 } D ca base ad ρm Lm [.ref (ad 7 0), .int k, .int t, .int r] σ (m_X7_verdictAnew k t r σ).1 (some (.int (m_X7_verdictAnew k t r σ).2.1)) (m_X7_verdictAnew k t r σ).2.2 := by
  refine w_ofX (by decide) (Nat.le_of_ble_eq_true rfl) rfl ?_
  intro p e s m args below meth c hC hW hS hout ls hl
  have hx := hC.1
  have hb := hC.2.1
  refine lv_aload_n hx hb dX7_verdictAnew_0 rfl (lv_at hl 0 rfl) ?_
  refine lv_iload_n hx hb dX7_verdictAnew_1 rfl (lv_at hl 1 rfl) ?_
  refine w_callVX (As := [.int k]) (rest := []) (st2 := .ref (ad 0 k.toNatClampNeg) :: []) hC hW hS hl cv_X7_133 m_7 (by decide) rfl (c_X7_needActor l hl9 D ca base ad σ k (by first | assumption | decide | omega)) rfl rfl rfl ⟨Nat.le_of_ble_eq_true rfl, Nat.le_of_ble_eq_true rfl⟩ (Nat.le_of_ble_eq_true rfl) dX7_verdictAnew_2 ⟨Nat.le_of_ble_eq_true rfl, Nat.le_of_ble_eq_true rfl⟩ (fun E ce q9 H locs e_1 hW hS hce hcv hcl => ?_) (fun e_1 H locs hW hS => ?_)
  · have hO : (m_X7_verdictAnew k t r σ).1 = some E := by rw [m_X7_verdictAnew, e_1, nd_some]
    exact w_out hC hW hS hout hO hce hcv hcl (Nat.le_of_ble_eq_true rfl) (Nat.le_of_ble_eq_true rfl)
  have hv_2 : vp_in k 8 := na_in hI e_1
  refine lv_astore (lv' := [(4, .ref (ad 0 k.toNatClampNeg)), (0, .ref (ad 7 0)), (1, .int k), (2, .int t), (3, .int r)]) hx hb dX7_verdictAnew_5 hl (by decide) rfl (fun ls hl => ?_)
  refine lv_aload_n hx hb dX7_verdictAnew_7 rfl (lv_at hl 1 rfl) ?_
  refine lv_iload_n hx hb dX7_verdictAnew_8 rfl (lv_at hl 3 rfl) ?_
  refine w_callVX (As := [.int t]) (rest := []) (st2 := .ref (ad 5 t.toNatClampNeg) :: []) hC hW hS hl cv_X7_103 m_7 (by decide) rfl (c_X7_needThing l hl9 D ca base ad σ t (by first | assumption | decide | omega)) rfl rfl rfl ⟨Nat.le_of_ble_eq_true rfl, Nat.le_of_ble_eq_true rfl⟩ (Nat.le_of_ble_eq_true rfl) dX7_verdictAnew_9 ⟨Nat.le_of_ble_eq_true rfl, Nat.le_of_ble_eq_true rfl⟩ (fun E ce q9 H locs e_3 hW hS hce hcv hcl => ?_) (fun e_3 H locs hW hS => ?_)
  · have hO : (m_X7_verdictAnew k t r σ).1 = some E := by rw [m_X7_verdictAnew, e_1, nd_none, e_3, nd_some]
    exact w_out hC hW hS hout hO hce hcv hcl (Nat.le_of_ble_eq_true rfl) (Nat.le_of_ble_eq_true rfl)
  have hv_4 : vp_in t 12 := nt_in hI e_3
  refine lv_astore (lv' := [(5, .ref (ad 5 t.toNatClampNeg)), (4, .ref (ad 0 k.toNatClampNeg)), (0, .ref (ad 7 0)), (1, .int k), (2, .int t), (3, .int r)]) hx hb dX7_verdictAnew_12 hl (by decide) rfl (fun ls hl => ?_)
  refine lv_iload_n hx hb dX7_verdictAnew_14 rfl (lv_at hl 5 rfl) ?_
  refine w_callSX (As := [.int r]) (rest := []) (st2 := []) hC hW hS hl cs_X7_214 (c_X7_needRight l hl9 D ca base ad σ r ) rfl rfl rfl ⟨Nat.le_of_ble_eq_true rfl, Nat.le_of_ble_eq_true rfl⟩ (Nat.le_of_ble_eq_true rfl) dX7_verdictAnew_15 ⟨Nat.le_of_ble_eq_true rfl, Nat.le_of_ble_eq_true rfl⟩ (fun E ce q9 H locs e_5 hW hS hce hcv hcl => ?_) (fun e_5 H locs hW hS => ?_)
  · have hO : (m_X7_verdictAnew k t r σ).1 = some E := by rw [m_X7_verdictAnew, e_1, nd_none, e_3, nd_none, e_5, nd_some]
    exact w_out hC hW hS hout hO hce hcv hcl (Nat.le_of_ble_eq_true rfl) (Nat.le_of_ble_eq_true rfl)
  refine lv_aload_n hx hb dX7_verdictAnew_18 rfl (lv_at hl 2 rfl) ?_
  refine gf_X7_12 hC hW m_7 rfl dX7_verdictAnew_19 ?_
  refine w_callV (As := []) (rest := []) (st2 := []) hC hW hS hl cv_X7_292 m_2 (by decide) rfl (c_X2_findAnew l hl9 D ca base ad σ ) rfl rfl rfl ⟨Nat.le_of_ble_eq_true rfl, Nat.le_of_ble_eq_true rfl⟩ (Nat.le_of_ble_eq_true rfl) dX7_verdictAnew_22 ⟨Nat.le_of_ble_eq_true rfl, Nat.le_of_ble_eq_true rfl⟩ (fun H locs hW hS => ?_)
  refine lv_aload_n hx hb dX7_verdictAnew_25 rfl (lv_at hl 2 rfl) ?_
  refine lv_aload hx hb dX7_verdictAnew_26 (lv_at hl 1 rfl) ?_
  refine lv_aload hx hb dX7_verdictAnew_28 (lv_at hl 0 rfl) ?_
  refine lv_iload_n hx hb dX7_verdictAnew_30 rfl (lv_at hl 5 rfl) ?_
  refine w_callV (As := [.ref (ad 0 k.toNatClampNeg), .ref (ad 5 t.toNatClampNeg), .int r]) (rest := []) (st2 := .int (f_X7_judgeAnew k.toNatClampNeg t.toNatClampNeg r (s_X2_findAnew σ)) :: []) hC hW hS hl cv_X7_295 m_7 (by decide) rfl (c_X7_judgeAnew l hl9 D ca base ad (s_X2_findAnew σ) k.toNatClampNeg t.toNatClampNeg r (Nat.lt_trans (vp_lt hv_2) (by decide)) (Nat.lt_trans (vp_lt hv_4) (by decide))) rfl rfl rfl ⟨Nat.le_of_ble_eq_true rfl, Nat.le_of_ble_eq_true rfl⟩ (Nat.le_of_ble_eq_true rfl) dX7_verdictAnew_31 ⟨Nat.le_of_ble_eq_true rfl, Nat.le_of_ble_eq_true rfl⟩ (fun H locs hW hS => ?_)
  have hO : m_X7_verdictAnew k t r σ = (none, f_X7_judgeAnew k.toNatClampNeg t.toNatClampNeg r (s_X2_findAnew σ), s_X2_findAnew σ) := by rw [m_X7_verdictAnew, e_1, nd_none, e_3, nd_none, e_5, nd_none]
  exact w_iretZ hC hW hS hO (Nat.le_of_ble_eq_true rfl) (Nat.le_of_ble_eq_true rfl) dX7_verdictAnew_34
theorem fr_X7_verdictAnew {kk : Nat}  {k : Int32} {t : Int32} {r : Int32} {σ : Sg} (h15 : kk ≠ 15) : (m_X7_verdictAnew k t r σ).2.2 kk = σ kk := by
  rw [m_X7_verdictAnew]
  repeat' split
  all_goals (first | (simp only [nd_2, us_kk, ne_eq, not_false_eq_true, h15, fr_X2_findAnew]; done) | with_reducible rfl | (simp only [nd_2, us_kk, ne_eq, not_false_eq_true, h15, fr_X2_findAnew]; with_reducible rfl))

def m_X7_reach (k : Int32) (t : Int32) (r : Int32) (σ : Sg) : Option String × Int32 × Sg :=
  nd (e_X7_needActor k σ) (nd (e_X7_needThing t σ) (nd (e_X7_needRight r) ((none, (f_X7_fewestRuns k.toNatClampNeg t.toNatClampNeg r σ).1, (f_X7_fewestRuns k.toNatClampNeg t.toNatClampNeg r σ).2))))
set_option maxHeartbeats 4000000 in
set_option maxRecDepth 100000 in
theorem c_X7_reach (l : Launch) (hl9 : l.stackTraces = false) (D : va_G) (ca : Nat → ClassId) (base : Nat) (ad : Adr) (σ : Sg) (k : Int32) (t : Int32) (r : Int32) (hI : CInv σ) : Mx l yX7_reach cX7_reach 6 (some .int) { frames := 8, cells := 3, slots := 18, locals := 142 } D ca base ad ρm Lm [.ref (ad 7 0), .int k, .int t, .int r] σ (m_X7_reach k t r σ).1 (some (.int (m_X7_reach k t r σ).2.1)) (m_X7_reach k t r σ).2.2 := by
  refine w_ofX (by decide) (Nat.le_of_ble_eq_true rfl) rfl ?_
  intro p e s m args below meth c hC hW hS hout ls hl
  have hx := hC.1
  have hb := hC.2.1
  refine lv_aload_n hx hb dX7_reach_0 rfl (lv_at hl 0 rfl) ?_
  refine lv_iload_n hx hb dX7_reach_1 rfl (lv_at hl 1 rfl) ?_
  refine w_callVX (As := [.int k]) (rest := []) (st2 := .ref (ad 0 k.toNatClampNeg) :: []) hC hW hS hl cv_X7_133 m_7 (by decide) rfl (c_X7_needActor l hl9 D ca base ad σ k (by first | assumption | decide | omega)) rfl rfl rfl ⟨Nat.le_of_ble_eq_true rfl, Nat.le_of_ble_eq_true rfl⟩ (Nat.le_of_ble_eq_true rfl) dX7_reach_2 ⟨Nat.le_of_ble_eq_true rfl, Nat.le_of_ble_eq_true rfl⟩ (fun E ce q9 H locs e_1 hW hS hce hcv hcl => ?_) (fun e_1 H locs hW hS => ?_)
  · have hO : (m_X7_reach k t r σ).1 = some E := by rw [m_X7_reach, e_1, nd_some]
    exact w_out hC hW hS hout hO hce hcv hcl (Nat.le_of_ble_eq_true rfl) (Nat.le_of_ble_eq_true rfl)
  have hv_2 : vp_in k 8 := na_in hI e_1
  refine lv_astore (lv' := [(4, .ref (ad 0 k.toNatClampNeg)), (0, .ref (ad 7 0)), (1, .int k), (2, .int t), (3, .int r)]) hx hb dX7_reach_5 hl (by decide) rfl (fun ls hl => ?_)
  refine lv_aload_n hx hb dX7_reach_7 rfl (lv_at hl 1 rfl) ?_
  refine lv_iload_n hx hb dX7_reach_8 rfl (lv_at hl 3 rfl) ?_
  refine w_callVX (As := [.int t]) (rest := []) (st2 := .ref (ad 5 t.toNatClampNeg) :: []) hC hW hS hl cv_X7_103 m_7 (by decide) rfl (c_X7_needThing l hl9 D ca base ad σ t (by first | assumption | decide | omega)) rfl rfl rfl ⟨Nat.le_of_ble_eq_true rfl, Nat.le_of_ble_eq_true rfl⟩ (Nat.le_of_ble_eq_true rfl) dX7_reach_9 ⟨Nat.le_of_ble_eq_true rfl, Nat.le_of_ble_eq_true rfl⟩ (fun E ce q9 H locs e_3 hW hS hce hcv hcl => ?_) (fun e_3 H locs hW hS => ?_)
  · have hO : (m_X7_reach k t r σ).1 = some E := by rw [m_X7_reach, e_1, nd_none, e_3, nd_some]
    exact w_out hC hW hS hout hO hce hcv hcl (Nat.le_of_ble_eq_true rfl) (Nat.le_of_ble_eq_true rfl)
  have hv_4 : vp_in t 12 := nt_in hI e_3
  refine lv_astore (lv' := [(5, .ref (ad 5 t.toNatClampNeg)), (4, .ref (ad 0 k.toNatClampNeg)), (0, .ref (ad 7 0)), (1, .int k), (2, .int t), (3, .int r)]) hx hb dX7_reach_12 hl (by decide) rfl (fun ls hl => ?_)
  refine lv_iload_n hx hb dX7_reach_14 rfl (lv_at hl 5 rfl) ?_
  refine w_callSX (As := [.int r]) (rest := []) (st2 := []) hC hW hS hl cs_X7_214 (c_X7_needRight l hl9 D ca base ad σ r ) rfl rfl rfl ⟨Nat.le_of_ble_eq_true rfl, Nat.le_of_ble_eq_true rfl⟩ (Nat.le_of_ble_eq_true rfl) dX7_reach_15 ⟨Nat.le_of_ble_eq_true rfl, Nat.le_of_ble_eq_true rfl⟩ (fun E ce q9 H locs e_5 hW hS hce hcv hcl => ?_) (fun e_5 H locs hW hS => ?_)
  · have hO : (m_X7_reach k t r σ).1 = some E := by rw [m_X7_reach, e_1, nd_none, e_3, nd_none, e_5, nd_some]
    exact w_out hC hW hS hout hO hce hcv hcl (Nat.le_of_ble_eq_true rfl) (Nat.le_of_ble_eq_true rfl)
  refine lv_aload_n hx hb dX7_reach_18 rfl (lv_at hl 2 rfl) ?_
  refine lv_aload hx hb dX7_reach_19 (lv_at hl 1 rfl) ?_
  refine lv_aload hx hb dX7_reach_21 (lv_at hl 0 rfl) ?_
  refine lv_iload_n hx hb dX7_reach_23 rfl (lv_at hl 5 rfl) ?_
  refine w_callV (As := [.ref (ad 0 k.toNatClampNeg), .ref (ad 5 t.toNatClampNeg), .int r]) (rest := []) (st2 := .int ((f_X7_fewestRuns k.toNatClampNeg t.toNatClampNeg r σ).1) :: []) hC hW hS hl cv_X7_298 m_7 (by decide) rfl (c_X7_fewestRuns l hl9 D ca base ad σ k.toNatClampNeg t.toNatClampNeg r (Nat.lt_trans (vp_lt hv_2) (by decide)) (Nat.lt_trans (vp_lt hv_4) (by decide)) hI.2.1) rfl rfl rfl ⟨Nat.le_of_ble_eq_true rfl, Nat.le_of_ble_eq_true rfl⟩ (Nat.le_of_ble_eq_true rfl) dX7_reach_24 ⟨Nat.le_of_ble_eq_true rfl, Nat.le_of_ble_eq_true rfl⟩ (fun H locs hW hS => ?_)
  have hO : m_X7_reach k t r σ = (none, (f_X7_fewestRuns k.toNatClampNeg t.toNatClampNeg r σ).1, (f_X7_fewestRuns k.toNatClampNeg t.toNatClampNeg r σ).2) := by rw [m_X7_reach, e_1, nd_none, e_3, nd_none, e_5, nd_none]
  exact w_iretZ hC hW hS hO (Nat.le_of_ble_eq_true rfl) (Nat.le_of_ble_eq_true rfl) dX7_reach_27
theorem fr_X7_reach {kk : Nat}  {k : Int32} {t : Int32} {r : Int32} {σ : Sg} (h0 : kk ≠ 0) (h4 : kk ≠ 4) (h10 : kk ≠ 10) (h18 : kk ≠ 18) (h19 : kk ≠ 19) : (m_X7_reach k t r σ).2.2 kk = σ kk := by
  rw [m_X7_reach]
  repeat' split
  all_goals (first | (simp only [nd_2, us_kk, ne_eq, not_false_eq_true, h0, h4, h10, h18, h19, fr_X7_fewestRuns]; done) | with_reducible rfl | (simp only [nd_2, us_kk, ne_eq, not_false_eq_true, h0, h4, h10, h18, h19, fr_X7_fewestRuns]; with_reducible rfl))

def m_X7_reachAnew (k : Int32) (t : Int32) (r : Int32) (σ : Sg) : Option String × Int32 × Sg :=
  nd (e_X7_needActor k σ) (nd (e_X7_needThing t σ) (nd (e_X7_needRight r) ((none, (f_X7_fewestOfRows_0 t.toNatClampNeg r (s_X0_copyFrom 8 k.toNatClampNeg (s_X2_findAnew σ))).1, (f_X7_fewestOfRows_0 t.toNatClampNeg r (s_X0_copyFrom 8 k.toNatClampNeg (s_X2_findAnew σ))).2))))
set_option maxHeartbeats 4000000 in
set_option maxRecDepth 100000 in
theorem c_X7_reachAnew (l : Launch) (hl9 : l.stackTraces = false) (D : va_G) (ca : Nat → ClassId) (base : Nat) (ad : Adr) (σ : Sg) (k : Int32) (t : Int32) (r : Int32) (hI : CInv σ) : Mx l yX7_reachAnew cX7_reachAnew 6 (some .int) { frames := 11, cells := 3, slots := 18, locals := 271 } D ca base ad ρm Lm [.ref (ad 7 0), .int k, .int t, .int r] σ (m_X7_reachAnew k t r σ).1 (some (.int (m_X7_reachAnew k t r σ).2.1)) (m_X7_reachAnew k t r σ).2.2 := by
  refine w_ofX (by decide) (Nat.le_of_ble_eq_true rfl) rfl ?_
  intro p e s m args below meth c hC hW hS hout ls hl
  have hx := hC.1
  have hb := hC.2.1
  refine lv_aload_n hx hb dX7_reachAnew_0 rfl (lv_at hl 0 rfl) ?_
  refine lv_iload_n hx hb dX7_reachAnew_1 rfl (lv_at hl 1 rfl) ?_
  refine w_callVX (As := [.int k]) (rest := []) (st2 := .ref (ad 0 k.toNatClampNeg) :: []) hC hW hS hl cv_X7_133 m_7 (by decide) rfl (c_X7_needActor l hl9 D ca base ad σ k (by first | assumption | decide | omega)) rfl rfl rfl ⟨Nat.le_of_ble_eq_true rfl, Nat.le_of_ble_eq_true rfl⟩ (Nat.le_of_ble_eq_true rfl) dX7_reachAnew_2 ⟨Nat.le_of_ble_eq_true rfl, Nat.le_of_ble_eq_true rfl⟩ (fun E ce q9 H locs e_1 hW hS hce hcv hcl => ?_) (fun e_1 H locs hW hS => ?_)
  · have hO : (m_X7_reachAnew k t r σ).1 = some E := by rw [m_X7_reachAnew, e_1, nd_some]
    exact w_out hC hW hS hout hO hce hcv hcl (Nat.le_of_ble_eq_true rfl) (Nat.le_of_ble_eq_true rfl)
  have hv_2 : vp_in k 8 := na_in hI e_1
  refine lv_astore (lv' := [(4, .ref (ad 0 k.toNatClampNeg)), (0, .ref (ad 7 0)), (1, .int k), (2, .int t), (3, .int r)]) hx hb dX7_reachAnew_5 hl (by decide) rfl (fun ls hl => ?_)
  refine lv_aload_n hx hb dX7_reachAnew_7 rfl (lv_at hl 1 rfl) ?_
  refine lv_iload_n hx hb dX7_reachAnew_8 rfl (lv_at hl 3 rfl) ?_
  refine w_callVX (As := [.int t]) (rest := []) (st2 := .ref (ad 5 t.toNatClampNeg) :: []) hC hW hS hl cv_X7_103 m_7 (by decide) rfl (c_X7_needThing l hl9 D ca base ad σ t (by first | assumption | decide | omega)) rfl rfl rfl ⟨Nat.le_of_ble_eq_true rfl, Nat.le_of_ble_eq_true rfl⟩ (Nat.le_of_ble_eq_true rfl) dX7_reachAnew_9 ⟨Nat.le_of_ble_eq_true rfl, Nat.le_of_ble_eq_true rfl⟩ (fun E ce q9 H locs e_3 hW hS hce hcv hcl => ?_) (fun e_3 H locs hW hS => ?_)
  · have hO : (m_X7_reachAnew k t r σ).1 = some E := by rw [m_X7_reachAnew, e_1, nd_none, e_3, nd_some]
    exact w_out hC hW hS hout hO hce hcv hcl (Nat.le_of_ble_eq_true rfl) (Nat.le_of_ble_eq_true rfl)
  have hv_4 : vp_in t 12 := nt_in hI e_3
  refine lv_astore (lv' := [(5, .ref (ad 5 t.toNatClampNeg)), (4, .ref (ad 0 k.toNatClampNeg)), (0, .ref (ad 7 0)), (1, .int k), (2, .int t), (3, .int r)]) hx hb dX7_reachAnew_12 hl (by decide) rfl (fun ls hl => ?_)
  refine lv_iload_n hx hb dX7_reachAnew_14 rfl (lv_at hl 5 rfl) ?_
  refine w_callSX (As := [.int r]) (rest := []) (st2 := []) hC hW hS hl cs_X7_214 (c_X7_needRight l hl9 D ca base ad σ r ) rfl rfl rfl ⟨Nat.le_of_ble_eq_true rfl, Nat.le_of_ble_eq_true rfl⟩ (Nat.le_of_ble_eq_true rfl) dX7_reachAnew_15 ⟨Nat.le_of_ble_eq_true rfl, Nat.le_of_ble_eq_true rfl⟩ (fun E ce q9 H locs e_5 hW hS hce hcv hcl => ?_) (fun e_5 H locs hW hS => ?_)
  · have hO : (m_X7_reachAnew k t r σ).1 = some E := by rw [m_X7_reachAnew, e_1, nd_none, e_3, nd_none, e_5, nd_some]
    exact w_out hC hW hS hout hO hce hcv hcl (Nat.le_of_ble_eq_true rfl) (Nat.le_of_ble_eq_true rfl)
  refine lv_aload_n hx hb dX7_reachAnew_18 rfl (lv_at hl 2 rfl) ?_
  refine gf_X7_12 hC hW m_7 rfl dX7_reachAnew_19 ?_
  refine w_callV (As := []) (rest := []) (st2 := []) hC hW hS hl cv_X7_292 m_2 (by decide) rfl (c_X2_findAnew l hl9 D ca base ad σ ) rfl rfl rfl ⟨Nat.le_of_ble_eq_true rfl, Nat.le_of_ble_eq_true rfl⟩ (Nat.le_of_ble_eq_true rfl) dX7_reachAnew_22 ⟨Nat.le_of_ble_eq_true rfl, Nat.le_of_ble_eq_true rfl⟩ (fun H locs hW hS => ?_)
  refine lv_aload_n hx hb dX7_reachAnew_25 rfl (lv_at hl 2 rfl) ?_
  refine gf_X7_51 hC hW m_7 rfl dX7_reachAnew_26 ?_
  refine lv_iconst (v := 0) hx hb dX7_reachAnew_29 (by decide) ?_
  have h_6 : vp_in (0 : Int32) 4 := (vp_lit (by decide))
  refine w_aald hC hW m_25 4 (n := 4) rfl rfl h_6 (by rfl) dX7_reachAnew_30 ?_
  refine W.eq (g2 := F0 m 31 ls (.ref (ad 0 8) :: [])) rfl ?_
  refine lv_aload hx hb dX7_reachAnew_31 (lv_at hl 1 rfl) ?_
  refine w_callV (As := [.ref (ad 0 k.toNatClampNeg)]) (rest := []) (st2 := []) hC hW hS hl cv_X7_301 (mm_0 (by decide)) (by decide) rfl (c_X0_copyFrom l hl9 D ca base ad (s_X2_findAnew σ) 8 k.toNatClampNeg (by decide) (Nat.lt_trans (vp_lt hv_2) (by decide))) rfl rfl rfl ⟨Nat.le_of_ble_eq_true rfl, Nat.le_of_ble_eq_true rfl⟩ (Nat.le_of_ble_eq_true rfl) dX7_reachAnew_33 ⟨Nat.le_of_ble_eq_true rfl, Nat.le_of_ble_eq_true rfl⟩ (fun H locs hW hS => ?_)
  refine lv_aload_n hx hb dX7_reachAnew_36 rfl (lv_at hl 2 rfl) ?_
  refine lv_iconst (v := 0) hx hb dX7_reachAnew_37 (by decide) ?_
  refine lv_aload hx hb dX7_reachAnew_38 (lv_at hl 0 rfl) ?_
  refine lv_iload_n hx hb dX7_reachAnew_40 rfl (lv_at hl 5 rfl) ?_
  refine w_callV (As := [.int 0, .ref (ad 5 t.toNatClampNeg), .int r]) (rest := []) (st2 := .int ((f_X7_fewestOfRows_0 t.toNatClampNeg r (s_X0_copyFrom 8 k.toNatClampNeg (s_X2_findAnew σ))).1) :: []) hC hW hS hl cv_X7_305 m_7 (by decide) rfl (c_X7_fewestOfRows_0 l hl9 D ca base ad (s_X0_copyFrom 8 k.toNatClampNeg (s_X2_findAnew σ)) t.toNatClampNeg r (Nat.lt_trans (vp_lt hv_4) (by decide)) (tc_fr hI.2.1 (by rw [fr_X0_copyFrom (by decide) (by decide), fr_X2_findAnew (by decide)]))) rfl rfl rfl ⟨Nat.le_of_ble_eq_true rfl, Nat.le_of_ble_eq_true rfl⟩ (Nat.le_of_ble_eq_true rfl) dX7_reachAnew_41 ⟨Nat.le_of_ble_eq_true rfl, Nat.le_of_ble_eq_true rfl⟩ (fun H locs hW hS => ?_)
  have hO : m_X7_reachAnew k t r σ = (none, (f_X7_fewestOfRows_0 t.toNatClampNeg r (s_X0_copyFrom 8 k.toNatClampNeg (s_X2_findAnew σ))).1, (f_X7_fewestOfRows_0 t.toNatClampNeg r (s_X0_copyFrom 8 k.toNatClampNeg (s_X2_findAnew σ))).2) := by rw [m_X7_reachAnew, e_1, nd_none, e_3, nd_none, e_5, nd_none]
  exact w_iretZ hC hW hS hO (Nat.le_of_ble_eq_true rfl) (Nat.le_of_ble_eq_true rfl) dX7_reachAnew_44
theorem fr_X7_reachAnew {kk : Nat}  {k : Int32} {t : Int32} {r : Int32} {σ : Sg} (h0 : kk ≠ 0) (h10 : kk ≠ 10) (h15 : kk ≠ 15) : (m_X7_reachAnew k t r σ).2.2 kk = σ kk := by
  rw [m_X7_reachAnew]
  repeat' split
  all_goals (first | (simp only [nd_2, us_kk, ne_eq, not_false_eq_true, h0, h10, h15, fr_X2_findAnew, fr_X0_copyFrom, fr_X7_fewestOfRows_0]; done) | with_reducible rfl | (simp only [nd_2, us_kk, ne_eq, not_false_eq_true, h0, h10, h15, fr_X2_findAnew, fr_X0_copyFrom, fr_X7_fewestOfRows_0]; with_reducible rfl))

def m_X7_least (u : Int32) (t : Int32) (r : Int32) (σ : Sg) : Option String × Int32 × Sg :=
  nd (e_X7_needPlace u 6) (nd (e_X7_needThing t σ) (nd (e_X7_needRight r) ((none, f_X5_countWays t.toNatClampNeg u (f_X2_groupsOf u σ) r σ, σ))))
set_option maxHeartbeats 4000000 in
set_option maxRecDepth 100000 in
theorem c_X7_least (l : Launch) (hl9 : l.stackTraces = false) (D : va_G) (ca : Nat → ClassId) (base : Nat) (ad : Adr) (σ : Sg) (u : Int32) (t : Int32) (r : Int32) (hI : CInv σ) : Mx l yX7_least cX7_least 5 (some .int) { frames := 8, cells := 3, slots := 18, locals := 142 } D ca base ad ρm Lm [.ref (ad 7 0), .int u, .int t, .int r] σ (m_X7_least u t r σ).1 (some (.int (m_X7_least u t r σ).2.1)) (m_X7_least u t r σ).2.2 := by
  refine w_ofX (by decide) (Nat.le_of_ble_eq_true rfl) rfl ?_
  intro p e s m args below meth c hC hW hS hout ls hl
  have hx := hC.1
  have hb := hC.2.1
  refine lv_iload_n hx hb dX7_least_0 rfl (lv_at hl 1 rfl) ?_
  refine lv_bipush (v := 6) hx hb dX7_least_1 (by decide) ?_
  refine w_callSX (As := [.int u, .int 6]) (rest := []) (st2 := []) hC hW hS hl cs_X7_76 (c_X7_needPlace l hl9 D ca base ad σ u 6 ) rfl rfl rfl ⟨Nat.le_of_ble_eq_true rfl, Nat.le_of_ble_eq_true rfl⟩ (Nat.le_of_ble_eq_true rfl) dX7_least_3 ⟨Nat.le_of_ble_eq_true rfl, Nat.le_of_ble_eq_true rfl⟩ (fun E ce q9 H locs e_1 hW hS hce hcv hcl => ?_) (fun e_1 H locs hW hS => ?_)
  · have hO : (m_X7_least u t r σ).1 = some E := by rw [m_X7_least, e_1, nd_some]
    exact w_out hC hW hS hout hO hce hcv hcl (Nat.le_of_ble_eq_true rfl) (Nat.le_of_ble_eq_true rfl)
  refine lv_aload_n hx hb dX7_least_6 rfl (lv_at hl 0 rfl) ?_
  refine lv_iload_n hx hb dX7_least_7 rfl (lv_at hl 2 rfl) ?_
  refine w_callVX (As := [.int t]) (rest := []) (st2 := .ref (ad 5 t.toNatClampNeg) :: []) hC hW hS hl cv_X7_103 m_7 (by decide) rfl (c_X7_needThing l hl9 D ca base ad σ t (by first | assumption | decide | omega)) rfl rfl rfl ⟨Nat.le_of_ble_eq_true rfl, Nat.le_of_ble_eq_true rfl⟩ (Nat.le_of_ble_eq_true rfl) dX7_least_8 ⟨Nat.le_of_ble_eq_true rfl, Nat.le_of_ble_eq_true rfl⟩ (fun E ce q9 H locs e_2 hW hS hce hcv hcl => ?_) (fun e_2 H locs hW hS => ?_)
  · have hO : (m_X7_least u t r σ).1 = some E := by rw [m_X7_least, e_1, nd_none, e_2, nd_some]
    exact w_out hC hW hS hout hO hce hcv hcl (Nat.le_of_ble_eq_true rfl) (Nat.le_of_ble_eq_true rfl)
  have hv_3 : vp_in t 12 := nt_in hI e_2
  refine lv_astore (lv' := [(4, .ref (ad 5 t.toNatClampNeg)), (0, .ref (ad 7 0)), (1, .int u), (2, .int t), (3, .int r)]) hx hb dX7_least_11 hl (by decide) rfl (fun ls hl => ?_)
  refine lv_iload_n hx hb dX7_least_13 rfl (lv_at hl 4 rfl) ?_
  refine w_callSX (As := [.int r]) (rest := []) (st2 := []) hC hW hS hl cs_X7_214 (c_X7_needRight l hl9 D ca base ad σ r ) rfl rfl rfl ⟨Nat.le_of_ble_eq_true rfl, Nat.le_of_ble_eq_true rfl⟩ (Nat.le_of_ble_eq_true rfl) dX7_least_14 ⟨Nat.le_of_ble_eq_true rfl, Nat.le_of_ble_eq_true rfl⟩ (fun E ce q9 H locs e_4 hW hS hce hcv hcl => ?_) (fun e_4 H locs hW hS => ?_)
  · have hO : (m_X7_least u t r σ).1 = some E := by rw [m_X7_least, e_1, nd_none, e_2, nd_none, e_4, nd_some]
    exact w_out hC hW hS hout hO hce hcv hcl (Nat.le_of_ble_eq_true rfl) (Nat.le_of_ble_eq_true rfl)
  refine lv_aload hx hb dX7_least_17 (lv_at hl 0 rfl) ?_
  refine lv_iload_n hx hb dX7_least_19 rfl (lv_at hl 2 rfl) ?_
  refine lv_aload_n hx hb dX7_least_20 rfl (lv_at hl 1 rfl) ?_
  refine gf_X7_12 hC hW m_7 rfl dX7_least_21 ?_
  refine lv_iload_n hx hb dX7_least_24 rfl (lv_at hl 2 rfl) ?_
  refine w_callV (As := [.int u]) (rest := .int u :: .ref (ad 5 t.toNatClampNeg) :: []) (st2 := .int (f_X2_groupsOf u σ) :: .int u :: .ref (ad 5 t.toNatClampNeg) :: []) hC hW hS hl cv_X7_99 m_2 (by decide) rfl (c_X2_groupsOf l hl9 D ca base ad σ u ) rfl rfl rfl ⟨Nat.le_of_ble_eq_true rfl, Nat.le_of_ble_eq_true rfl⟩ (Nat.le_of_ble_eq_true rfl) dX7_least_25 ⟨Nat.le_of_ble_eq_true rfl, Nat.le_of_ble_eq_true rfl⟩ (fun H locs hW hS => ?_)
  refine lv_iload_n hx hb dX7_least_28 rfl (lv_at hl 4 rfl) ?_
  refine w_callV (As := [.int u, .int (f_X2_groupsOf u σ), .int r]) (rest := []) (st2 := .int (f_X5_countWays t.toNatClampNeg u (f_X2_groupsOf u σ) r σ) :: []) hC hW hS hl cv_X7_309 (mm_5 (Nat.lt_trans (vp_lt hv_3) (by decide))) (by decide) rfl (c_X5_countWays l hl9 D ca base ad σ t.toNatClampNeg u (f_X2_groupsOf u σ) r (Nat.lt_trans (vp_lt hv_3) (by decide))) rfl rfl rfl ⟨Nat.le_of_ble_eq_true rfl, Nat.le_of_ble_eq_true rfl⟩ (Nat.le_of_ble_eq_true rfl) dX7_least_29 ⟨Nat.le_of_ble_eq_true rfl, Nat.le_of_ble_eq_true rfl⟩ (fun H locs hW hS => ?_)
  have hO : m_X7_least u t r σ = (none, f_X5_countWays t.toNatClampNeg u (f_X2_groupsOf u σ) r σ, σ) := by rw [m_X7_least, e_1, nd_none, e_2, nd_none, e_4, nd_none]
  exact w_iretZ hC hW hS hO (Nat.le_of_ble_eq_true rfl) (Nat.le_of_ble_eq_true rfl) dX7_least_32
theorem fr_X7_least {kk : Nat}  {u : Int32} {t : Int32} {r : Int32} {σ : Sg}  : (m_X7_least u t r σ).2.2 kk = σ kk := by
  rw [m_X7_least]
  repeat' split
  all_goals (first | (simp only [nd_2, us_kk, ne_eq, not_false_eq_true]; done) | with_reducible rfl | (simp only [nd_2, us_kk, ne_eq, not_false_eq_true]; with_reducible rfl))

def m_X7_leastAnew (u : Int32) (t : Int32) (r : Int32) (σ : Sg) : Option String × Int32 × Sg :=
  nd (e_X7_needPlace u 6) (nd (e_X7_needThing t σ) (nd (e_X7_needRight r) ((none, (f_X7_smallestSet t.toNatClampNeg u r (s_X2_findAnew σ)).1, (f_X7_smallestSet t.toNatClampNeg u r (s_X2_findAnew σ)).2))))
set_option maxHeartbeats 4000000 in
set_option maxRecDepth 100000 in
theorem c_X7_leastAnew (l : Launch) (hl9 : l.stackTraces = false) (D : va_G) (ca : Nat → ClassId) (base : Nat) (ad : Adr) (σ : Sg) (u : Int32) (t : Int32) (r : Int32) (hI : CInv σ) : Mx l yX7_leastAnew cX7_leastAnew 5 (some .int) { frames := 8, cells := 3, slots := 18, locals := 142 } D ca base ad ρm Lm [.ref (ad 7 0), .int u, .int t, .int r] σ (m_X7_leastAnew u t r σ).1 (some (.int (m_X7_leastAnew u t r σ).2.1)) (m_X7_leastAnew u t r σ).2.2 := by
  refine w_ofX (by decide) (Nat.le_of_ble_eq_true rfl) rfl ?_
  intro p e s m args below meth c hC hW hS hout ls hl
  have hx := hC.1
  have hb := hC.2.1
  refine lv_iload_n hx hb dX7_leastAnew_0 rfl (lv_at hl 1 rfl) ?_
  refine lv_bipush (v := 6) hx hb dX7_leastAnew_1 (by decide) ?_
  refine w_callSX (As := [.int u, .int 6]) (rest := []) (st2 := []) hC hW hS hl cs_X7_76 (c_X7_needPlace l hl9 D ca base ad σ u 6 ) rfl rfl rfl ⟨Nat.le_of_ble_eq_true rfl, Nat.le_of_ble_eq_true rfl⟩ (Nat.le_of_ble_eq_true rfl) dX7_leastAnew_3 ⟨Nat.le_of_ble_eq_true rfl, Nat.le_of_ble_eq_true rfl⟩ (fun E ce q9 H locs e_1 hW hS hce hcv hcl => ?_) (fun e_1 H locs hW hS => ?_)
  · have hO : (m_X7_leastAnew u t r σ).1 = some E := by rw [m_X7_leastAnew, e_1, nd_some]
    exact w_out hC hW hS hout hO hce hcv hcl (Nat.le_of_ble_eq_true rfl) (Nat.le_of_ble_eq_true rfl)
  refine lv_aload_n hx hb dX7_leastAnew_6 rfl (lv_at hl 0 rfl) ?_
  refine lv_iload_n hx hb dX7_leastAnew_7 rfl (lv_at hl 2 rfl) ?_
  refine w_callVX (As := [.int t]) (rest := []) (st2 := .ref (ad 5 t.toNatClampNeg) :: []) hC hW hS hl cv_X7_103 m_7 (by decide) rfl (c_X7_needThing l hl9 D ca base ad σ t (by first | assumption | decide | omega)) rfl rfl rfl ⟨Nat.le_of_ble_eq_true rfl, Nat.le_of_ble_eq_true rfl⟩ (Nat.le_of_ble_eq_true rfl) dX7_leastAnew_8 ⟨Nat.le_of_ble_eq_true rfl, Nat.le_of_ble_eq_true rfl⟩ (fun E ce q9 H locs e_2 hW hS hce hcv hcl => ?_) (fun e_2 H locs hW hS => ?_)
  · have hO : (m_X7_leastAnew u t r σ).1 = some E := by rw [m_X7_leastAnew, e_1, nd_none, e_2, nd_some]
    exact w_out hC hW hS hout hO hce hcv hcl (Nat.le_of_ble_eq_true rfl) (Nat.le_of_ble_eq_true rfl)
  have hv_3 : vp_in t 12 := nt_in hI e_2
  refine lv_astore (lv' := [(4, .ref (ad 5 t.toNatClampNeg)), (0, .ref (ad 7 0)), (1, .int u), (2, .int t), (3, .int r)]) hx hb dX7_leastAnew_11 hl (by decide) rfl (fun ls hl => ?_)
  refine lv_iload_n hx hb dX7_leastAnew_13 rfl (lv_at hl 4 rfl) ?_
  refine w_callSX (As := [.int r]) (rest := []) (st2 := []) hC hW hS hl cs_X7_214 (c_X7_needRight l hl9 D ca base ad σ r ) rfl rfl rfl ⟨Nat.le_of_ble_eq_true rfl, Nat.le_of_ble_eq_true rfl⟩ (Nat.le_of_ble_eq_true rfl) dX7_leastAnew_14 ⟨Nat.le_of_ble_eq_true rfl, Nat.le_of_ble_eq_true rfl⟩ (fun E ce q9 H locs e_4 hW hS hce hcv hcl => ?_) (fun e_4 H locs hW hS => ?_)
  · have hO : (m_X7_leastAnew u t r σ).1 = some E := by rw [m_X7_leastAnew, e_1, nd_none, e_2, nd_none, e_4, nd_some]
    exact w_out hC hW hS hout hO hce hcv hcl (Nat.le_of_ble_eq_true rfl) (Nat.le_of_ble_eq_true rfl)
  refine lv_aload_n hx hb dX7_leastAnew_17 rfl (lv_at hl 1 rfl) ?_
  refine gf_X7_12 hC hW m_7 rfl dX7_leastAnew_18 ?_
  refine w_callV (As := []) (rest := []) (st2 := []) hC hW hS hl cv_X7_292 m_2 (by decide) rfl (c_X2_findAnew l hl9 D ca base ad σ ) rfl rfl rfl ⟨Nat.le_of_ble_eq_true rfl, Nat.le_of_ble_eq_true rfl⟩ (Nat.le_of_ble_eq_true rfl) dX7_leastAnew_21 ⟨Nat.le_of_ble_eq_true rfl, Nat.le_of_ble_eq_true rfl⟩ (fun H locs hW hS => ?_)
  refine lv_aload_n hx hb dX7_leastAnew_24 rfl (lv_at hl 1 rfl) ?_
  refine lv_aload hx hb dX7_leastAnew_25 (lv_at hl 0 rfl) ?_
  refine lv_iload_n hx hb dX7_leastAnew_27 rfl (lv_at hl 2 rfl) ?_
  refine lv_iload_n hx hb dX7_leastAnew_28 rfl (lv_at hl 4 rfl) ?_
  refine w_callV (As := [.ref (ad 5 t.toNatClampNeg), .int u, .int r]) (rest := []) (st2 := .int ((f_X7_smallestSet t.toNatClampNeg u r (s_X2_findAnew σ)).1) :: []) hC hW hS hl cv_X7_313 m_7 (by decide) rfl (c_X7_smallestSet l hl9 D ca base ad (s_X2_findAnew σ) t.toNatClampNeg u r (Nat.lt_trans (vp_lt hv_3) (by decide))) rfl rfl rfl ⟨Nat.le_of_ble_eq_true rfl, Nat.le_of_ble_eq_true rfl⟩ (Nat.le_of_ble_eq_true rfl) dX7_leastAnew_29 ⟨Nat.le_of_ble_eq_true rfl, Nat.le_of_ble_eq_true rfl⟩ (fun H locs hW hS => ?_)
  have hO : m_X7_leastAnew u t r σ = (none, (f_X7_smallestSet t.toNatClampNeg u r (s_X2_findAnew σ)).1, (f_X7_smallestSet t.toNatClampNeg u r (s_X2_findAnew σ)).2) := by rw [m_X7_leastAnew, e_1, nd_none, e_2, nd_none, e_4, nd_none]
  exact w_iretZ hC hW hS hO (Nat.le_of_ble_eq_true rfl) (Nat.le_of_ble_eq_true rfl) dX7_leastAnew_32
theorem fr_X7_leastAnew {kk : Nat}  {u : Int32} {t : Int32} {r : Int32} {σ : Sg} (h5 : kk ≠ 5) (h15 : kk ≠ 15) (h20 : kk ≠ 20) (h21 : kk ≠ 21) : (m_X7_leastAnew u t r σ).2.2 kk = σ kk := by
  rw [m_X7_leastAnew]
  repeat' split
  all_goals (first | (simp only [nd_2, us_kk, ne_eq, not_false_eq_true, h5, h15, h20, h21, fr_X2_findAnew, fr_X7_smallestSet]; done) | with_reducible rfl | (simp only [nd_2, us_kk, ne_eq, not_false_eq_true, h5, h15, h20, h21, fr_X2_findAnew, fr_X7_smallestSet]; with_reducible rfl))
