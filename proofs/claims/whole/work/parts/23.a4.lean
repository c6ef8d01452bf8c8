def TC (σ : Sg) : Prop := ∃ n : Nat, n ≤ 12 ∧ σ 7 0 6 = nI n
def AC (σ : Sg) : Prop := ∃ n : Nat, n ≤ 8 ∧ σ 7 0 7 = nI n
def KC (σ : Sg) : Prop := ∃ n : Nat, n ≤ 10 ∧ σ 7 0 8 = nI n
/-- the class's own counts are in their bounds -/
def CInv (σ : Sg) : Prop := LogInv σ ∧ TC σ ∧ AC σ ∧ KC σ
theorem tc_fr {σ σ' : Sg} (h : TC σ) (e : σ' 7 = σ 7) : TC σ' := by
  obtain ⟨n, h1, h2⟩ := h
  exact ⟨n, h1, by rw [e]; exact h2⟩
theorem ci_fr {σ σ' : Sg} (h : CInv σ) (e7 : σ' 7 = σ 7) (e1 : σ' 1 = σ 1) : CInv σ' := by
  unfold CInv LogInv TC AC KC at h ⊢
  rw [e7, e1]
  exact h
theorem np_in {x y : Int32} {b n : Nat} (hy : y = nI b) (hb : b ≤ n) (hn : n < 2 ^ 31) (h : e_X7_needPlace x y = none) : vp_in x n := by
  unfold e_X7_needPlace at h
  split at h
  · cases h
  · split at h
    · rename_i h1 h2
      obtain ⟨j, hj, rfl⟩ := vp_in_of (vp_in_d (n := b) hy (by omega) h1 h2) (by omega)
      exact vp_in_nI (by omega) hn
    · cases h
theorem nr_in {x y : Int32} {b n : Nat} (hy : y = nI b) (hx : ∃ a : Nat, a < 2 ^ 31 ∧ x = nI a) (hb : b ≤ n) (hn : n < 2 ^ 31) (h : e_X7_needRoom x y = none) : vp_in x n := by
  obtain ⟨a, ha, rfl⟩ := hx
  unfold e_X7_needRoom at h
  split at h
  · rename_i h1
    rw [hy] at h1
    rcases Nat.lt_or_ge a b with q | q
    · exact vp_in_nI (by omega) hn
    · exact absurd h1 (nI_nlt q ha)
  · cases h
theorem tc_cnt {σ : Sg} (h : TC σ) {k : Nat} (hk : k ≤ 12) (c : ¬ σ 7 0 6 ≤ nI k) : k < 12 := by
  obtain ⟨b, h1, h2⟩ := h
  exact idx_lt4 c h2 h1 (by decide) hk
theorem kc_in {σ : Sg} (h : KC σ) {x : Int32} (h1 : ¬ x < 0) (h2 : ¬ σ 7 0 8 ≤ x) : vp_in x 10 := by
  obtain ⟨b, hb, h3⟩ := h
  rw [h3] at h2
  obtain ⟨j, hj, rfl⟩ := vp_in_of (vp_in_c (n := b) rfl (by omega) h1 h2) (by omega)
  exact vp_in_nI (by omega) (by decide)
def e_X7_needThing (x : Int32) (σ : Sg) : Option String :=
  ndN (e_X7_needPlace x (σ 7 0 6)) (none)
theorem nt_in {σ : Sg} {x : Int32} (hI : CInv σ) (h : e_X7_needThing x σ = none) : vp_in x 12 := by
  obtain ⟨b, h1, h2⟩ := hI.2.1
  refine np_in h2 h1 (by decide) ?_
  unfold e_X7_needThing at h
  cases hq : e_X7_needPlace x (σ 7 0 6) with
  | none => rfl
  | some E => rw [hq] at h; cases h
theorem nt_in_fr {σ σ' : Sg} {x : Int32} (h : e_X7_needThing x σ = none) (e : σ' 7 = σ 7) : e_X7_needThing x σ' = none := by
  unfold e_X7_needThing at h ⊢
  rw [e]
  exact h
set_option maxHeartbeats 4000000 in
set_option maxRecDepth 100000 in
theorem c_X7_needThing (l : Launch) (hl9 : l.stackTraces = false) (D : va_G) (ca : Nat → ClassId) (base : Nat) (ad : Adr) (σ : Sg) (x : Int32) (hI : CInv σ) : Mx l yX7_needThing cX7_needThing 2 (some (.object "AuditgateReeve$Thing")) { frames := 7, cells := 1, slots := 6, locals := 121 } D ca base ad ρm Lm [.ref (ad 7 0), .int x] σ (e_X7_needThing x σ) (some (.ref (ad 5 x.toNatClampNeg))) σ := by
  refine w_ofX (by decide) (Nat.le_of_ble_eq_true rfl) rfl ?_
  intro p e s m args below meth c hC hW hS hout ls hl
  have hx := hC.1
  have hb := hC.2.1
  refine lv_iload_n hx hb dX7_needThing_0 rfl (lv_at hl 1 rfl) ?_
  refine lv_aload_n hx hb dX7_needThing_1 rfl (lv_at hl 0 rfl) ?_
  refine gf_X7_111 hC hW m_7 dX7_needThing_2 ?_
  refine w_callSX (As := [.int x, .int (σ 7 0 6)]) (rest := []) (st2 := []) hC hW hS hl cs_X7_76 (c_X7_needPlace l hl9 D ca base ad σ x (σ 7 0 6) ) rfl rfl rfl ⟨Nat.le_of_ble_eq_true rfl, Nat.le_of_ble_eq_true rfl⟩ (Nat.le_of_ble_eq_true rfl) dX7_needThing_5 ⟨Nat.le_of_ble_eq_true rfl, Nat.le_of_ble_eq_true rfl⟩ (fun E ce q9 H locs e_1 hW hS hce hcv hcl => ?_) (fun e_1 H locs hW hS => ?_)
  · have hO : e_X7_needThing x σ = some E := by rw [e_X7_needThing, e_1, ndN_some]
    exact w_out hC hW hS hout hO hce hcv hcl (Nat.le_of_ble_eq_true rfl) (Nat.le_of_ble_eq_true rfl)
  refine lv_aload_n hx hb dX7_needThing_8 rfl (lv_at hl 0 rfl) ?_
  refine gf_X7_32 hC hW m_7 rfl dX7_needThing_9 ?_
  refine lv_iload_n hx hb dX7_needThing_12 rfl (lv_at hl 1 rfl) ?_
  have h_2 : vp_in x 12 := (by obtain ⟨b, h1, h2⟩ := hI.2.1; exact np_in h2 h1 (by decide) (by assumption))
  refine w_aald hC hW m_22 3 (n := 12) rfl rfl h_2 (by rfl) dX7_needThing_13 ?_
  have hO : e_X7_needThing x σ = none := by rw [e_X7_needThing, e_1, ndN_none]
  exact w_aretX hC hW hS hO rfl (Nat.le_of_ble_eq_true rfl) (Nat.le_of_ble_eq_true rfl) dX7_needThing_14
def e_X7_needActor (x : Int32) (σ : Sg) : Option String :=
  ndN (e_X7_needPlace x (σ 7 0 7)) (none)
theorem na_in {σ : Sg} {x : Int32} (hI : CInv σ) (h : e_X7_needActor x σ = none) : vp_in x 8 := by
  obtain ⟨b, h1, h2⟩ := hI.2.2.1
  refine np_in h2 h1 (by decide) ?_
  unfold e_X7_needActor at h
  cases hq : e_X7_needPlace x (σ 7 0 7) with
  | none => rfl
  | some E => rw [hq] at h; cases h
theorem na_in_fr {σ σ' : Sg} {x : Int32} (h : e_X7_needActor x σ = none) (e : σ' 7 = σ 7) : e_X7_needActor x σ' = none := by
  unfold e_X7_needActor at h ⊢
  rw [e]
  exact h
set_option maxHeartbeats 4000000 in
set_option maxRecDepth 100000 in
theorem c_X7_needActor (l : Launch) (hl9 : l.stackTraces = false) (D : va_G) (ca : Nat → ClassId) (base : Nat) (ad : Adr) (σ : Sg) (x : Int32) (hI : CInv σ) : Mx l yX7_needActor cX7_needActor 2 (some (.object "AuditgateReeve$Actor")) { frames := 7, cells := 1, slots := 6, locals := 121 } D ca base ad ρm Lm [.ref (ad 7 0), .int x] σ (e_X7_needActor x σ) (some (.ref (ad 0 x.toNatClampNeg))) σ := by
  refine w_ofX (by decide) (Nat.le_of_ble_eq_true rfl) rfl ?_
  intro p e s m args below meth c hC hW hS hout ls hl
  have hx := hC.1
  have hb := hC.2.1
  refine lv_iload_n hx hb dX7_needActor_0 rfl (lv_at hl 1 rfl) ?_
  refine lv_aload_n hx hb dX7_needActor_1 rfl (lv_at hl 0 rfl) ?_
  refine gf_X7_189 hC hW m_7 dX7_needActor_2 ?_
  refine w_callSX (As := [.int x, .int (σ 7 0 7)]) (rest := []) (st2 := []) hC hW hS hl cs_X7_76 (c_X7_needPlace l hl9 D ca base ad σ x (σ 7 0 7) ) rfl rfl rfl ⟨Nat.le_of_ble_eq_true rfl, Nat.le_of_ble_eq_true rfl⟩ (Nat.le_of_ble_eq_true rfl) dX7_needActor_5 ⟨Nat.le_of_ble_eq_true rfl, Nat.le_of_ble_eq_true rfl⟩ (fun E ce q9 H locs e_1 hW hS hce hcv hcl => ?_) (fun e_1 H locs hW hS => ?_)
  · have hO : e_X7_needActor x σ = some E := by rw [e_X7_needActor, e_1, ndN_some]
    exact w_out hC hW hS hout hO hce hcv hcl (Nat.le_of_ble_eq_true rfl) (Nat.le_of_ble_eq_true rfl)
  refine lv_aload_n hx hb dX7_needActor_8 rfl (lv_at hl 0 rfl) ?_
  refine gf_X7_39 hC hW m_7 rfl dX7_needActor_9 ?_
  refine lv_iload_n hx hb dX7_needActor_12 rfl (lv_at hl 1 rfl) ?_
  have h_2 : vp_in x 8 := (by obtain ⟨b, h1, h2⟩ := hI.2.2.1; exact np_in h2 h1 (by decide) (by assumption))
  refine w_aald hC hW m_23 4 (n := 8) rfl rfl h_2 (by rfl) dX7_needActor_13 ?_
  have hO : e_X7_needActor x σ = none := by rw [e_X7_needActor, e_1, ndN_none]
  exact w_aretX hC hW hS hO rfl (Nat.le_of_ble_eq_true rfl) (Nat.le_of_ble_eq_true rfl) dX7_needActor_14
def e_X7_needToken (x : Int32) (σ : Sg) : Option String :=
  ndN (e_X7_needPlace x (σ 7 0 8)) (none)
theorem nk_in {σ : Sg} {x : Int32} (hI : CInv σ) (h : e_X7_needToken x σ = none) : vp_in x 10 := by
  obtain ⟨b, h1, h2⟩ := hI.2.2.2
  refine np_in h2 h1 (by decide) ?_
  unfold e_X7_needToken at h
  cases hq : e_X7_needPlace x (σ 7 0 8) with
  | none => rfl
  | some E => rw [hq] at h; cases h
theorem nk_in_fr {σ σ' : Sg} {x : Int32} (h : e_X7_needToken x σ = none) (e : σ' 7 = σ 7) : e_X7_needToken x σ' = none := by
  unfold e_X7_needToken at h ⊢
  rw [e]
  exact h
set_option maxHeartbeats 4000000 in
set_option maxRecDepth 100000 in
theorem c_X7_needToken (l : Launch) (hl9 : l.stackTraces = false) (D : va_G) (ca : Nat → ClassId) (base : Nat) (ad : Adr) (σ : Sg) (x : Int32) (hI : CInv σ) : Mx l yX7_needToken cX7_needToken 2 (some (.object "AuditgateReeve$Token")) { frames := 7, cells := 1, slots := 6, locals := 121 } D ca base ad ρm Lm [.ref (ad 7 0), .int x] σ (e_X7_needToken x σ) (some (.ref (ad 6 x.toNatClampNeg))) σ := by
  refine w_ofX (by decide) (Nat.le_of_ble_eq_true rfl) rfl ?_
  intro p e s m args below meth c hC hW hS hout ls hl
  have hx := hC.1
  have hb := hC.2.1
  refine lv_iload_n hx hb dX7_needToken_0 rfl (lv_at hl 1 rfl) ?_
  refine lv_aload_n hx hb dX7_needToken_1 rfl (lv_at hl 0 rfl) ?_
  refine gf_X7_246 hC hW m_7 dX7_needToken_2 ?_
  refine w_callSX (As := [.int x, .int (σ 7 0 8)]) (rest := []) (st2 := []) hC hW hS hl cs_X7_76 (c_X7_needPlace l hl9 D ca base ad σ x (σ 7 0 8) ) rfl rfl rfl ⟨Nat.le_of_ble_eq_true rfl, Nat.le_of_ble_eq_true rfl⟩ (Nat.le_of_ble_eq_true rfl) dX7_needToken_5 ⟨Nat.le_of_ble_eq_true rfl, Nat.le_of_ble_eq_true rfl⟩ (fun E ce q9 H locs e_1 hW hS hce hcv hcl => ?_) (fun e_1 H locs hW hS => ?_)
  · have hO : e_X7_needToken x σ = some E := by rw [e_X7_needToken, e_1, ndN_some]
    exact w_out hC hW hS hout hO hce hcv hcl (Nat.le_of_ble_eq_true rfl) (Nat.le_of_ble_eq_true rfl)
  refine lv_aload_n hx hb dX7_needToken_8 rfl (lv_at hl 0 rfl) ?_
  refine gf_X7_46 hC hW m_7 rfl dX7_needToken_9 ?_
  refine lv_iload_n hx hb dX7_needToken_12 rfl (lv_at hl 1 rfl) ?_
  have h_2 : vp_in x 10 := (by obtain ⟨b, h1, h2⟩ := hI.2.2.2; exact np_in h2 h1 (by decide) (by assumption))
  refine w_aald hC hW m_24 5 (n := 10) rfl rfl h_2 (by rfl) dX7_needToken_13 ?_
  have hO : e_X7_needToken x σ = none := by rw [e_X7_needToken, e_1, ndN_none]
  exact w_aretX hC hW hS hO rfl (Nat.le_of_ble_eq_true rfl) (Nat.le_of_ble_eq_true rfl) dX7_needToken_14
def f_X7_mayChange (i : Nat) (o : Nat) (σ : Sg) : Int32 :=
  if (σ 0 i 0) = (σ 5 o 0) then 1
  else if (f_X0_isFine i 2 σ) = 0 then 0
  else 1
set_option maxHeartbeats 4000000 in
set_option maxRecDepth 100000 in
theorem c_X7_mayChange (l : Launch) (hl9 : l.stackTraces = false) (D : va_G) (ca : Nat → ClassId) (base : Nat) (ad : Adr) (σ : Sg) (i : Nat) (o : Nat) (hi : i < 12) (ho : o < 13) : Mt l yX7_mayChange cX7_mayChange 2 (some .boolean) { frames := 1, cells := 0, slots := 0, locals := 21 } D ca base ad ρm Lm [.ref (ad 0 i), .ref (ad 5 o)] σ (some (.int (f_X7_mayChange i o σ))) σ := by
  refine w_ofW (by decide) (Nat.le_of_ble_eq_true rfl) rfl ?_
  intro p e s m args below meth c hC hW hS ls hl hin
  have hx := hC.1
  have hb := hC.2.1
  refine lv_aload_n hx hb dX7_mayChange_0 rfl (lv_at hl 0 rfl) ?_
  refine gf_X7_192 hC hW (mm_0 hi) dX7_mayChange_1 ?_
  refine lv_aload_n hx hb dX7_mayChange_4 rfl (lv_at hl 1 rfl) ?_
  refine gf_X7_117 hC hW (mm_5 ho) dX7_mayChange_5 ?_
  refine lv_icmp_eq (tgt := 19) hx hb dX7_mayChange_8 (by decide) (fun c_1 => ?_) (fun c_1 => ?_)
  · refine lv_iconst (v := 1) hx hb dX7_mayChange_19 (by decide) ?_
    refine lv_goto (tgt := 24) hx hb dX7_mayChange_20 (by decide) ?_
    have hO : f_X7_mayChange i o σ = 1 := by rw [f_X7_mayChange, if_pos c_1]
    exact w_zretP hC hW hS (by decide) hO (Nat.le_of_ble_eq_true rfl) (Nat.le_of_ble_eq_true rfl) dX7_mayChange_24
  · refine lv_aload_n hx hb dX7_mayChange_11 rfl (lv_at hl 0 rfl) ?_
    refine lv_iconst (v := 2) hx hb dX7_mayChange_12 (by decide) ?_
    refine w_callV (As := [.int 2]) (rest := []) (st2 := .int (f_X0_isFine i 2 σ) :: []) hC hW hS hl cv_X7_158 (mm_0 hi) (by decide) rfl (c_X0_isFine l hl9 D ca base ad σ i 2 hi) rfl rfl rfl ⟨Nat.le_of_ble_eq_true rfl, Nat.le_of_ble_eq_true rfl⟩ (Nat.le_of_ble_eq_true rfl) dX7_mayChange_13 ⟨Nat.le_of_ble_eq_true rfl, Nat.le_of_ble_eq_true rfl⟩ (fun H locs hW hS => ?_)
    refine lv_if_eq (tgt := 23) hx hb dX7_mayChange_16 (by decide) (fun c_2 => ?_) (fun c_2 => ?_)
    · refine lv_iconst (v := 0) hx hb dX7_mayChange_23 (by decide) ?_
      have hO : f_X7_mayChange i o σ = 0 := by rw [f_X7_mayChange, if_neg c_1, if_pos c_2]
      exact w_zretP hC hW hS (by decide) hO (Nat.le_of_ble_eq_true rfl) (Nat.le_of_ble_eq_true rfl) dX7_mayChange_24
    · refine lv_iconst (v := 1) hx hb dX7_mayChange_19 (by decide) ?_
      refine lv_goto (tgt := 24) hx hb dX7_mayChange_20 (by decide) ?_
      have hO : f_X7_mayChange i o σ = 1 := by rw [f_X7_mayChange, if_neg c_1, if_neg c_2]
      exact w_zretP hC hW hS (by decide) hO (Nat.le_of_ble_eq_true rfl) (Nat.le_of_ble_eq_true rfl) dX7_mayChange_24
theorem bb_X7_mayChange {i : Nat} {o : Nat} {σ : Sg} : f_X7_mayChange i o σ &&& 1 = f_X7_mayChange i o σ := by
  rw [f_X7_mayChange]
  repeat' split
  all_goals first | decide | exact bb_X0_isFine

def f_X7_dominates (a : Int32) (b : Int32) (x : Int32) (y : Int32) : Int32 :=
  if a < x then 0
  else if (y &&& (b ^^^ (-1 : Int32))) = 0 then 1
  else 0
set_option maxHeartbeats 4000000 in
set_option maxRecDepth 100000 in
theorem c_X7_dominates (l : Launch) (hl9 : l.stackTraces = false) (D : va_G) (ca : Nat → ClassId) (base : Nat) (ad : Adr) (σ : Sg) (a : Int32) (b : Int32) (x : Int32) (y : Int32)  : Mt l yX7_dominates cX7_dominates 4 (some .boolean) { frames := 0, cells := 0, slots := 0, locals := 0 } D ca base ad ρm Lm [.int a, .int b, .int x, .int y] σ (some (.int (f_X7_dominates a b x y))) σ := by
  refine w_ofW (by decide) (Nat.le_of_ble_eq_true rfl) rfl ?_
  intro p e s m args below meth c hC hW hS ls hl hin
  have hx := hC.1
  have hb := hC.2.1
  refine lv_iload_n hx hb dX7_dominates_0 rfl (lv_at hl 0 rfl) ?_
  refine lv_iload_n hx hb dX7_dominates_1 rfl (lv_at hl 2 rfl) ?_
  refine lv_icmp_lt (tgt := 17) hx hb dX7_dominates_2 (by decide) (fun c_1 => ?_) (fun c_1 => ?_)
  · refine lv_iconst (v := 0) hx hb dX7_dominates_17 (by decide) ?_
    have hO : f_X7_dominates a b x y = 0 := by rw [f_X7_dominates, if_pos c_1]
    exact w_zretP hC hW hS (by decide) hO (Nat.le_of_ble_eq_true rfl) (Nat.le_of_ble_eq_true rfl) dX7_dominates_18
  · refine lv_iload_n hx hb dX7_dominates_5 rfl (lv_at hl 3 rfl) ?_
    refine lv_iload_n hx hb dX7_dominates_6 rfl (lv_at hl 1 rfl) ?_
    refine lv_iconst (v := (-1)) hx hb dX7_dominates_7 (by decide) ?_
    refine lv_ixor hx hb dX7_dominates_8 ?_
    refine lv_iand hx hb dX7_dominates_9 ?_
    refine lv_if_ne (tgt := 17) hx hb dX7_dominates_10 (by decide) (fun c_2 => ?_) (fun c_2 => ?_)
    · refine lv_iconst (v := 0) hx hb dX7_dominates_17 (by decide) ?_
      have hO : f_X7_dominates a b x y = 0 := by rw [f_X7_dominates, if_neg c_1, if_neg c_2]
      exact w_zretP hC hW hS (by decide) hO (Nat.le_of_ble_eq_true rfl) (Nat.le_of_ble_eq_true rfl) dX7_dominates_18
    · refine lv_iconst (v := 1) hx hb dX7_dominates_13 (by decide) ?_
      refine lv_goto (tgt := 18) hx hb dX7_dominates_14 (by decide) ?_
      have hO : f_X7_dominates a b x y = 1 := by rw [f_X7_dominates, if_neg c_1, if_pos c_2]
      exact w_zretP hC hW hS (by decide) hO (Nat.le_of_ble_eq_true rfl) (Nat.le_of_ble_eq_true rfl) dX7_dominates_18
theorem bb_X7_dominates {a : Int32} {b : Int32} {x : Int32} {y : Int32} : f_X7_dominates a b x y &&& 1 = f_X7_dominates a b x y := by
  rw [f_X7_dominates]
  repeat' split
  all_goals first | decide

def f_X7_judgeBeyondModes (i : Nat) (o : Nat) (r : Int32) (f : Int32) (σ : Sg) : Int32 :=
  if r = 2 then (if (f_X7_dominates (σ 5 o 4) (σ 5 o 5) (σ 0 i 2) (σ 0 i 3)) = 0 then 2
    else if ((f_X3_rightsOf (σ 0 i 1) (σ 5 o 3) σ) &&& r) = 0 then 3
    else if (f &&& r) = 0 then 4
    else 0)
  else if (f_X7_dominates (σ 0 i 2) (σ 0 i 3) (σ 5 o 4) (σ 5 o 5)) = 0 then 2
  else if ((f_X3_rightsOf (σ 0 i 1) (σ 5 o 3) σ) &&& r) = 0 then 3
  else if (f &&& r) = 0 then 4
  else 0
set_option maxHeartbeats 4000000 in
set_option maxRecDepth 100000 in
theorem c_X7_judgeBeyondModes (l : Launch) (hl9 : l.stackTraces = false) (D : va_G) (ca : Nat → ClassId) (base : Nat) (ad : Adr) (σ : Sg) (i : Nat) (o : Nat) (r : Int32) (f : Int32) (hi : i < 12) (ho : o < 13) : Mt l yX7_judgeBeyondModes cX7_judgeBeyondModes 6 (some .int) { frames := 2, cells := 0, slots := 0, locals := 43 } D ca base ad ρm Lm [.ref (ad 7 0), .ref (ad 0 i), .ref (ad 5 o), .int r, .int f] σ (some (.int (f_X7_judgeBeyondModes i o r f σ))) σ := by
  refine w_ofW (by decide) (Nat.le_of_ble_eq_true rfl) rfl ?_
  intro p e s m args below meth c hC hW hS ls hl hin
  have hx := hC.1
  have hb := hC.2.1
  refine lv_iload_n hx hb dX7_judgeBeyondModes_0 rfl (lv_at hl 3 rfl) ?_
  refine lv_iconst (v := 2) hx hb dX7_judgeBeyondModes_1 (by decide) ?_
  refine lv_icmp_ne (tgt := 27) hx hb dX7_judgeBeyondModes_2 (by decide) (fun c_1 => ?_) (fun c_1 => ?_)
  · refine lv_aload_n hx hb dX7_judgeBeyondModes_27 rfl (lv_at hl 1 rfl) ?_
    refine gf_X7_162 hC hW (mm_0 hi) dX7_judgeBeyondModes_28 ?_
    refine lv_aload_n hx hb dX7_judgeBeyondModes_31 rfl (lv_at hl 1 rfl) ?_
    refine gf_X7_165 hC hW (mm_0 hi) dX7_judgeBeyondModes_32 ?_
    refine lv_aload_n hx hb dX7_judgeBeyondModes_35 rfl (lv_at hl 2 rfl) ?_
    refine gf_X7_172 hC hW (mm_5 ho) dX7_judgeBeyondModes_36 ?_
    refine lv_aload_n hx hb dX7_judgeBeyondModes_39 rfl (lv_at hl 2 rfl) ?_
    refine gf_X7_173 hC hW (mm_5 ho) dX7_judgeBeyondModes_40 ?_
    refine w_callS (As := [.int (σ 0 i 2), .int (σ 0 i 3), .int (σ 5 o 4), .int (σ 5 o 5)]) (rest := []) (st2 := .int (f_X7_dominates (σ 0 i 2) (σ 0 i 3) (σ 5 o 4) (σ 5 o 5)) :: []) hC hW hS hl cs_X7_168 (c_X7_dominates l hl9 D ca base ad σ (σ 0 i 2) (σ 0 i 3) (σ 5 o 4) (σ 5 o 5) ) rfl rfl rfl ⟨Nat.le_of_ble_eq_true rfl, Nat.le_of_ble_eq_true rfl⟩ (Nat.le_of_ble_eq_true rfl) dX7_judgeBeyondModes_43 ⟨Nat.le_of_ble_eq_true rfl, Nat.le_of_ble_eq_true rfl⟩ (fun H locs hW hS => ?_)
    refine lv_istore (lv' := [(5, .int (f_X7_dominates (σ 0 i 2) (σ 0 i 3) (σ 5 o 4) (σ 5 o 5))), (0, .ref (ad 7 0)), (1, .ref (ad 0 i)), (2, .ref (ad 5 o)), (3, .int r), (4, .int f)]) hx hb dX7_judgeBeyondModes_46 hl (by decide) rfl (fun ls hl => ?_)
    refine lv_iload hx hb dX7_judgeBeyondModes_48 (lv_at hl 0 rfl) ?_
    refine lv_if_ne (tgt := 55) hx hb dX7_judgeBeyondModes_50 (by decide) (fun c_2 => ?_) (fun c_2 => ?_)
    · refine lv_aload_n hx hb dX7_judgeBeyondModes_55 rfl (lv_at hl 1 rfl) ?_
      refine gf_X7_19 hC hW m_7 rfl dX7_judgeBeyondModes_56 ?_
      refine lv_aload_n hx hb dX7_judgeBeyondModes_59 rfl (lv_at hl 2 rfl) ?_
      refine gf_X7_195 hC hW (mm_0 hi) dX7_judgeBeyondModes_60 ?_
      refine lv_aload_n hx hb dX7_judgeBeyondModes_63 rfl (lv_at hl 3 rfl) ?_
      refine gf_X7_130 hC hW (mm_5 ho) dX7_judgeBeyondModes_64 ?_
      refine w_callV (As := [.int (σ 0 i 1), .int (σ 5 o 3)]) (rest := []) (st2 := .int (f_X3_rightsOf (σ 0 i 1) (σ 5 o 3) σ) :: []) hC hW hS hl cv_X7_174 m_3 (by decide) rfl (c_X3_rightsOf l hl9 D ca base ad σ (σ 0 i 1) (σ 5 o 3) ) rfl rfl rfl ⟨Nat.le_of_ble_eq_true rfl, Nat.le_of_ble_eq_true rfl⟩ (Nat.le_of_ble_eq_true rfl) dX7_judgeBeyondModes_67 ⟨Nat.le_of_ble_eq_true rfl, Nat.le_of_ble_eq_true rfl⟩ (fun H locs hW hS => ?_)
      refine lv_iload_n hx hb dX7_judgeBeyondModes_70 rfl (lv_at hl 4 rfl) ?_
      refine lv_iand hx hb dX7_judgeBeyondModes_71 ?_
      refine lv_if_ne (tgt := 77) hx hb dX7_judgeBeyondModes_72 (by decide) (fun c_3 => ?_) (fun c_3 => ?_)
      · refine lv_iload hx hb dX7_judgeBeyondModes_77 (lv_at hl 5 rfl) ?_
        refine lv_iload_n hx hb dX7_judgeBeyondModes_79 rfl (lv_at hl 4 rfl) ?_
        refine lv_iand hx hb dX7_judgeBeyondModes_80 ?_
        refine lv_if_ne (tgt := 88) hx hb dX7_judgeBeyondModes_81 (by decide) (fun c_4 => ?_) (fun c_4 => ?_)
        · refine lv_iconst (v := 0) hx hb dX7_judgeBeyondModes_88 (by decide) ?_
          have hO : f_X7_judgeBeyondModes i o r f σ = 0 := by rw [f_X7_judgeBeyondModes, if_neg c_1, if_neg c_2, if_neg c_3, if_neg c_4]
          exact w_iretP hC hW hS hO (Nat.le_of_ble_eq_true rfl) (Nat.le_of_ble_eq_true rfl) dX7_judgeBeyondModes_89
        · refine lv_iconst (v := 4) hx hb dX7_judgeBeyondModes_84 (by decide) ?_
          refine lv_goto (tgt := 89) hx hb dX7_judgeBeyondModes_85 (by decide) ?_
          have hO : f_X7_judgeBeyondModes i o r f σ = 4 := by rw [f_X7_judgeBeyondModes, if_neg c_1, if_neg c_2, if_neg c_3, if_pos c_4]
          exact w_iretP hC hW hS hO (Nat.le_of_ble_eq_true rfl) (Nat.le_of_ble_eq_true rfl) dX7_judgeBeyondModes_89
      · refine lv_iconst (v := 3) hx hb dX7_judgeBeyondModes_75 (by decide) ?_
        have hO : f_X7_judgeBeyondModes i o r f σ = 3 := by rw [f_X7_judgeBeyondModes, if_neg c_1, if_neg c_2, if_pos c_3]
        exact w_iretP hC hW hS hO (Nat.le_of_ble_eq_true rfl) (Nat.le_of_ble_eq_true rfl) dX7_judgeBeyondModes_76
    · refine lv_iconst (v := 2) hx hb dX7_judgeBeyondModes_53 (by decide) ?_
      have hO : f_X7_judgeBeyondModes i o r f σ = 2 := by rw [f_X7_judgeBeyondModes, if_neg c_1, if_pos c_2]
      exact w_iretP hC hW hS hO (Nat.le_of_ble_eq_true rfl) (Nat.le_of_ble_eq_true rfl) dX7_judgeBeyondModes_54
  · refine lv_aload_n hx hb dX7_judgeBeyondModes_5 rfl (lv_at hl 2 rfl) ?_
    refine gf_X7_172 hC hW (mm_5 ho) dX7_judgeBeyondModes_6 ?_
    refine lv_aload_n hx hb dX7_judgeBeyondModes_9 rfl (lv_at hl 2 rfl) ?_
    refine gf_X7_173 hC hW (mm_5 ho) dX7_judgeBeyondModes_10 ?_
    refine lv_aload_n hx hb dX7_judgeBeyondModes_13 rfl (lv_at hl 1 rfl) ?_
    refine gf_X7_162 hC hW (mm_0 hi) dX7_judgeBeyondModes_14 ?_
    refine lv_aload_n hx hb dX7_judgeBeyondModes_17 rfl (lv_at hl 1 rfl) ?_
    refine gf_X7_165 hC hW (mm_0 hi) dX7_judgeBeyondModes_18 ?_
    refine w_callS (As := [.int (σ 5 o 4), .int (σ 5 o 5), .int (σ 0 i 2), .int (σ 0 i 3)]) (rest := []) (st2 := .int (f_X7_dominates (σ 5 o 4) (σ 5 o 5) (σ 0 i 2) (σ 0 i 3)) :: []) hC hW hS hl cs_X7_168 (c_X7_dominates l hl9 D ca base ad σ (σ 5 o 4) (σ 5 o 5) (σ 0 i 2) (σ 0 i 3) ) rfl rfl rfl ⟨Nat.le_of_ble_eq_true rfl, Nat.le_of_ble_eq_true rfl⟩ (Nat.le_of_ble_eq_true rfl) dX7_judgeBeyondModes_21 ⟨Nat.le_of_ble_eq_true rfl, Nat.le_of_ble_eq_true rfl⟩ (fun H locs hW hS => ?_)
    refine lv_goto (tgt := 46) hx hb dX7_judgeBeyondModes_24 (by decide) ?_
    refine lv_istore (lv' := [(5, .int (f_X7_dominates (σ 5 o 4) (σ 5 o 5) (σ 0 i 2) (σ 0 i 3))), (0, .ref (ad 7 0)), (1, .ref (ad 0 i)), (2, .ref (ad 5 o)), (3, .int r), (4, .int f)]) hx hb dX7_judgeBeyondModes_46 hl (by decide) rfl (fun ls hl => ?_)
    refine lv_iload hx hb dX7_judgeBeyondModes_48 (lv_at hl 0 rfl) ?_
    refine lv_if_ne (tgt := 55) hx hb dX7_judgeBeyondModes_50 (by decide) (fun c_5 => ?_) (fun c_5 => ?_)
    · refine lv_aload_n hx hb dX7_judgeBeyondModes_55 rfl (lv_at hl 1 rfl) ?_
      refine gf_X7_19 hC hW m_7 rfl dX7_judgeBeyondModes_56 ?_
      refine lv_aload_n hx hb dX7_judgeBeyondModes_59 rfl (lv_at hl 2 rfl) ?_
      refine gf_X7_195 hC hW (mm_0 hi) dX7_judgeBeyondModes_60 ?_
      refine lv_aload_n hx hb dX7_judgeBeyondModes_63 rfl (lv_at hl 3 rfl) ?_
      refine gf_X7_130 hC hW (mm_5 ho) dX7_judgeBeyondModes_64 ?_
      refine w_callV (As := [.int (σ 0 i 1), .int (σ 5 o 3)]) (rest := []) (st2 := .int (f_X3_rightsOf (σ 0 i 1) (σ 5 o 3) σ) :: []) hC hW hS hl cv_X7_174 m_3 (by decide) rfl (c_X3_rightsOf l hl9 D ca base ad σ (σ 0 i 1) (σ 5 o 3) ) rfl rfl rfl ⟨Nat.le_of_ble_eq_true rfl, Nat.le_of_ble_eq_true rfl⟩ (Nat.le_of_ble_eq_true rfl) dX7_judgeBeyondModes_67 ⟨Nat.le_of_ble_eq_true rfl, Nat.le_of_ble_eq_true rfl⟩ (fun H locs hW hS => ?_)
      refine lv_iload_n hx hb dX7_judgeBeyondModes_70 rfl (lv_at hl 4 rfl) ?_
      refine lv_iand hx hb dX7_judgeBeyondModes_71 ?_
      refine lv_if_ne (tgt := 77) hx hb dX7_judgeBeyondModes_72 (by decide) (fun c_6 => ?_) (fun c_6 => ?_)
      · refine lv_iload hx hb dX7_judgeBeyondModes_77 (lv_at hl 5 rfl) ?_
        refine lv_iload_n hx hb dX7_judgeBeyondModes_79 rfl (lv_at hl 4 rfl) ?_
        refine lv_iand hx hb dX7_judgeBeyondModes_80 ?_
        refine lv_if_ne (tgt := 88) hx hb dX7_judgeBeyondModes_81 (by decide) (fun c_7 => ?_) (fun c_7 => ?_)
        · refine lv_iconst (v := 0) hx hb dX7_judgeBeyondModes_88 (by decide) ?_
          have hO : f_X7_judgeBeyondModes i o r f σ = 0 := by rw [f_X7_judgeBeyondModes, if_pos c_1, if_neg c_5, if_neg c_6, if_neg c_7]
          exact w_iretP hC hW hS hO (Nat.le_of_ble_eq_true rfl) (Nat.le_of_ble_eq_true rfl) dX7_judgeBeyondModes_89
        · refine lv_iconst (v := 4) hx hb dX7_judgeBeyondModes_84 (by decide) ?_
          refine lv_goto (tgt := 89) hx hb dX7_judgeBeyondModes_85 (by decide) ?_
          have hO : f_X7_judgeBeyondModes i o r f σ = 4 := by rw [f_X7_judgeBeyondModes, if_pos c_1, if_neg c_5, if_neg c_6, if_pos c_7]
          exact w_iretP hC hW hS hO (Nat.le_of_ble_eq_true rfl) (Nat.le_of_ble_eq_true rfl) dX7_judgeBeyondModes_89
      · refine lv_iconst (v := 3) hx hb dX7_judgeBeyondModes_75 (by decide) ?_
        have hO : f_X7_judgeBeyondModes i o r f σ = 3 := by rw [f_X7_judgeBeyondModes, if_pos c_1, if_neg c_5, if_pos c_6]
        exact w_iretP hC hW hS hO (Nat.le_of_ble_eq_true rfl) (Nat.le_of_ble_eq_true rfl) dX7_judgeBeyondModes_76
    · refine lv_iconst (v := 2) hx hb dX7_judgeBeyondModes_53 (by decide) ?_
      have hO : f_X7_judgeBeyondModes i o r f σ = 2 := by rw [f_X7_judgeBeyondModes, if_pos c_1, if_pos c_5]
      exact w_iretP hC hW hS hO (Nat.le_of_ble_eq_true rfl) (Nat.le_of_ble_eq_true rfl) dX7_judgeBeyondModes_54

def f_X7_judge (i : Nat) (o : Nat) (r : Int32) (σ : Sg) : Int32 :=
  if (f_X0_isFine i 1 σ) = 0 then (if (f_X5_countWays o (σ 0 i 0) (f_X2_groupsOf (σ 0 i 0) σ) r σ) = 0 then 1
    else f_X7_judgeBeyondModes i o r (σ 0 i 7) σ)
  else if r = 4 then (if (f_X5_hasSomeRun o σ) = 0 then (if (f_X5_countWays o (σ 0 i 0) (f_X2_groupsOf (σ 0 i 0) σ) r σ) = 0 then 1
      else f_X7_judgeBeyondModes i o r (σ 0 i 7) σ)
    else f_X7_judgeBeyondModes i o r (σ 0 i 7) σ)
  else f_X7_judgeBeyondModes i o r (σ 0 i 7) σ
set_option maxHeartbeats 4000000 in
set_option maxRecDepth 100000 in
theorem c_X7_judge (l : Launch) (hl9 : l.stackTraces = false) (D : va_G) (ca : Nat → ClassId) (base : Nat) (ad : Adr) (σ : Sg) (i : Nat) (o : Nat) (r : Int32) (hi : i < 12) (ho : o < 13) : Mt l yX7_judge cX7_judge 5 (some .int) { frames := 3, cells := 0, slots := 0, locals := 68 } D ca base ad ρm Lm [.ref (ad 7 0), .ref (ad 0 i), .ref (ad 5 o), .int r] σ (some (.int (f_X7_judge i o r σ))) σ := by
  refine w_ofW (by decide) (Nat.le_of_ble_eq_true rfl) rfl ?_
  intro p e s m args below meth c hC hW hS ls hl hin
  have hx := hC.1
  have hb := hC.2.1
  refine lv_aload_n hx hb dX7_judge_0 rfl (lv_at hl 1 rfl) ?_
  refine lv_iconst (v := 1) hx hb dX7_judge_1 (by decide) ?_
  refine w_callV (As := [.int 1]) (rest := []) (st2 := .int (f_X0_isFine i 1 σ) :: []) hC hW hS hl cv_X7_158 (mm_0 hi) (by decide) rfl (c_X0_isFine l hl9 D ca base ad σ i 1 hi) rfl rfl rfl ⟨Nat.le_of_ble_eq_true rfl, Nat.le_of_ble_eq_true rfl⟩ (Nat.le_of_ble_eq_true rfl) dX7_judge_2 ⟨Nat.le_of_ble_eq_true rfl, Nat.le_of_ble_eq_true rfl⟩ (fun H locs hW hS => ?_)
  refine lv_if_eq (tgt := 24) hx hb dX7_judge_5 (by decide) (fun c_1 => ?_) (fun c_1 => ?_)
  · refine lv_iconst (v := 0) hx hb dX7_judge_24 (by decide) ?_
    refine lv_istore (lv' := [(4, .int 0), (0, .ref (ad 7 0)), (1, .ref (ad 0 i)), (2, .ref (ad 5 o)), (3, .int r)]) hx hb dX7_judge_25 hl (by decide) rfl (fun ls hl => ?_)
    refine lv_iload hx hb dX7_judge_27 (lv_at hl 0 rfl) ?_
    refine lv_if_ne (tgt := 57) hx hb dX7_judge_29 (by decide) (fun c => absurd (by decide) c) (fun _ => ?_)
    refine lv_aload_n hx hb dX7_judge_32 rfl (lv_at hl 3 rfl) ?_
    refine lv_aload_n hx hb dX7_judge_33 rfl (lv_at hl 2 rfl) ?_
    refine gf_X7_192 hC hW (mm_0 hi) dX7_judge_34 ?_
    refine lv_aload_n hx hb dX7_judge_37 rfl (lv_at hl 1 rfl) ?_
    refine gf_X7_12 hC hW m_7 rfl dX7_judge_38 ?_
    refine lv_aload_n hx hb dX7_judge_41 rfl (lv_at hl 2 rfl) ?_
    refine gf_X7_192 hC hW (mm_0 hi) dX7_judge_42 ?_
    refine w_callV (As := [.int (σ 0 i 0)]) (rest := .int (σ 0 i 0) :: .ref (ad 5 o) :: []) (st2 := .int (f_X2_groupsOf (σ 0 i 0) σ) :: .int (σ 0 i 0) :: .ref (ad 5 o) :: []) hC hW hS hl cv_X7_99 m_2 (by decide) rfl (c_X2_groupsOf l hl9 D ca base ad σ (σ 0 i 0) ) rfl rfl rfl ⟨Nat.le_of_ble_eq_true rfl, Nat.le_of_ble_eq_true rfl⟩ (Nat.le_of_ble_eq_true rfl) dX7_judge_45 ⟨Nat.le_of_ble_eq_true rfl, Nat.le_of_ble_eq_true rfl⟩ (fun H locs hW hS => ?_)
    refine lv_iload_n hx hb dX7_judge_48 rfl (lv_at hl 4 rfl) ?_
    refine w_callV (As := [.int (σ 0 i 0), .int (f_X2_groupsOf (σ 0 i 0) σ), .int r]) (rest := []) (st2 := .int (f_X5_countWays o (σ 0 i 0) (f_X2_groupsOf (σ 0 i 0) σ) r σ) :: []) hC hW hS hl cv_X7_309 (mm_5 ho) (by decide) rfl (c_X5_countWays l hl9 D ca base ad σ o (σ 0 i 0) (f_X2_groupsOf (σ 0 i 0) σ) r ho) rfl rfl rfl ⟨Nat.le_of_ble_eq_true rfl, Nat.le_of_ble_eq_true rfl⟩ (Nat.le_of_ble_eq_true rfl) dX7_judge_49 ⟨Nat.le_of_ble_eq_true rfl, Nat.le_of_ble_eq_true rfl⟩ (fun H locs hW hS => ?_)
    refine lv_if_ne (tgt := 57) hx hb dX7_judge_52 (by decide) (fun c_2 => ?_) (fun c_2 => ?_)
    · refine lv_aload_n hx hb dX7_judge_57 rfl (lv_at hl 1 rfl) ?_
      refine lv_aload_n hx hb dX7_judge_58 rfl (lv_at hl 2 rfl) ?_
      refine lv_aload_n hx hb dX7_judge_59 rfl (lv_at hl 3 rfl) ?_
      refine lv_iload_n hx hb dX7_judge_60 rfl (lv_at hl 4 rfl) ?_
      refine lv_aload_n hx hb dX7_judge_61 rfl (lv_at hl 2 rfl) ?_
      refine gf_X7_211 hC hW (mm_0 hi) dX7_judge_62 ?_
      refine w_callV (As := [.ref (ad 0 i), .ref (ad 5 o), .int r, .int (σ 0 i 7)]) (rest := []) (st2 := .int (f_X7_judgeBeyondModes i o r (σ 0 i 7) σ) :: []) hC hW hS hl cv_X7_342 m_7 (by decide) rfl (c_X7_judgeBeyondModes l hl9 D ca base ad σ i o r (σ 0 i 7) hi ho) rfl rfl rfl ⟨Nat.le_of_ble_eq_true rfl, Nat.le_of_ble_eq_true rfl⟩ (Nat.le_of_ble_eq_true rfl) dX7_judge_65 ⟨Nat.le_of_ble_eq_true rfl, Nat.le_of_ble_eq_true rfl⟩ (fun H locs hW hS => ?_)
      have hO : f_X7_judge i o r σ = f_X7_judgeBeyondModes i o r (σ 0 i 7) σ := by rw [f_X7_judge, if_pos c_1, if_neg c_2]
      exact w_iretP hC hW hS hO (Nat.le_of_ble_eq_true rfl) (Nat.le_of_ble_eq_true rfl) dX7_judge_68
    · refine lv_iconst (v := 1) hx hb dX7_judge_55 (by decide) ?_
      have hO : f_X7_judge i o r σ = 1 := by rw [f_X7_judge, if_pos c_1, if_pos c_2]
      exact w_iretP hC hW hS hO (Nat.le_of_ble_eq_true rfl) (Nat.le_of_ble_eq_true rfl) dX7_judge_56
  · refine lv_iload_n hx hb dX7_judge_8 rfl (lv_at hl 3 rfl) ?_
    refine lv_iconst (v := 4) hx hb dX7_judge_9 (by decide) ?_
    refine lv_icmp_ne (tgt := 20) hx hb dX7_judge_10 (by decide) (fun c_3 => ?_) (fun c_3 => ?_)
    · refine lv_iconst (v := 1) hx hb dX7_judge_20 (by decide) ?_
      refine lv_goto (tgt := 25) hx hb dX7_judge_21 (by decide) ?_
      refine lv_istore (lv' := [(4, .int 1), (0, .ref (ad 7 0)), (1, .ref (ad 0 i)), (2, .ref (ad 5 o)), (3, .int r)]) hx hb dX7_judge_25 hl (by decide) rfl (fun ls hl => ?_)
      refine lv_iload hx hb dX7_judge_27 (lv_at hl 0 rfl) ?_
      refine lv_if_ne (tgt := 57) hx hb dX7_judge_29 (by decide) (fun _ => ?_) (fun c => absurd c (by decide))
      refine lv_aload_n hx hb dX7_judge_57 rfl (lv_at hl 1 rfl) ?_
      refine lv_aload_n hx hb dX7_judge_58 rfl (lv_at hl 2 rfl) ?_
      refine lv_aload_n hx hb dX7_judge_59 rfl (lv_at hl 3 rfl) ?_
      refine lv_iload_n hx hb dX7_judge_60 rfl (lv_at hl 4 rfl) ?_
      refine lv_aload_n hx hb dX7_judge_61 rfl (lv_at hl 2 rfl) ?_
      refine gf_X7_211 hC hW (mm_0 hi) dX7_judge_62 ?_
      refine w_callV (As := [.ref (ad 0 i), .ref (ad 5 o), .int r, .int (σ 0 i 7)]) (rest := []) (st2 := .int (f_X7_judgeBeyondModes i o r (σ 0 i 7) σ) :: []) hC hW hS hl cv_X7_342 m_7 (by decide) rfl (c_X7_judgeBeyondModes l hl9 D ca base ad σ i o r (σ 0 i 7) hi ho) rfl rfl rfl ⟨Nat.le_of_ble_eq_true rfl, Nat.le_of_ble_eq_true rfl⟩ (Nat.le_of_ble_eq_true rfl) dX7_judge_65 ⟨Nat.le_of_ble_eq_true rfl, Nat.le_of_ble_eq_true rfl⟩ (fun H locs hW hS => ?_)
      have hO : f_X7_judge i o r σ = f_X7_judgeBeyondModes i o r (σ 0 i 7) σ := by rw [f_X7_judge, if_neg c_1, if_neg c_3]
      exact w_iretP hC hW hS hO (Nat.le_of_ble_eq_true rfl) (Nat.le_of_ble_eq_true rfl) dX7_judge_68
    · refine lv_aload_n hx hb dX7_judge_13 rfl (lv_at hl 2 rfl) ?_
      refine w_callV (As := []) (rest := []) (st2 := .int (f_X5_hasSomeRun o σ) :: []) hC hW hS hl cv_X7_338 (mm_5 ho) (by decide) rfl (c_X5_hasSomeRun l hl9 D ca base ad σ o ho) rfl rfl rfl ⟨Nat.le_of_ble_eq_true rfl, Nat.le_of_ble_eq_true rfl⟩ (Nat.le_of_ble_eq_true rfl) dX7_judge_14 ⟨Nat.le_of_ble_eq_true rfl, Nat.le_of_ble_eq_true rfl⟩ (fun H locs hW hS => ?_)
      refine lv_if_eq (tgt := 24) hx hb dX7_judge_17 (by decide) (fun c_4 => ?_) (fun c_4 => ?_)
      · refine lv_iconst (v := 0) hx hb dX7_judge_24 (by decide) ?_
        refine lv_istore (lv' := [(4, .int 0), (0, .ref (ad 7 0)), (1, .ref (ad 0 i)), (2, .ref (ad 5 o)), (3, .int r)]) hx hb dX7_judge_25 hl (by decide) rfl (fun ls hl => ?_)
        refine lv_iload hx hb dX7_judge_27 (lv_at hl 0 rfl) ?_
        refine lv_if_ne (tgt := 57) hx hb dX7_judge_29 (by decide) (fun c => absurd (by decide) c) (fun _ => ?_)
        refine lv_aload_n hx hb dX7_judge_32 rfl (lv_at hl 3 rfl) ?_
        refine lv_aload_n hx hb dX7_judge_33 rfl (lv_at hl 2 rfl) ?_
        refine gf_X7_192 hC hW (mm_0 hi) dX7_judge_34 ?_
        refine lv_aload_n hx hb dX7_judge_37 rfl (lv_at hl 1 rfl) ?_
        refine gf_X7_12 hC hW m_7 rfl dX7_judge_38 ?_
        refine lv_aload_n hx hb dX7_judge_41 rfl (lv_at hl 2 rfl) ?_
        refine gf_X7_192 hC hW (mm_0 hi) dX7_judge_42 ?_
        refine w_callV (As := [.int (σ 0 i 0)]) (rest := .int (σ 0 i 0) :: .ref (ad 5 o) :: []) (st2 := .int (f_X2_groupsOf (σ 0 i 0) σ) :: .int (σ 0 i 0) :: .ref (ad 5 o) :: []) hC hW hS hl cv_X7_99 m_2 (by decide) rfl (c_X2_groupsOf l hl9 D ca base ad σ (σ 0 i 0) ) rfl rfl rfl ⟨Nat.le_of_ble_eq_true rfl, Nat.le_of_ble_eq_true rfl⟩ (Nat.le_of_ble_eq_true rfl) dX7_judge_45 ⟨Nat.le_of_ble_eq_true rfl, Nat.le_of_ble_eq_true rfl⟩ (fun H locs hW hS => ?_)
        refine lv_iload_n hx hb dX7_judge_48 rfl (lv_at hl 4 rfl) ?_
        refine w_callV (As := [.int (σ 0 i 0), .int (f_X2_groupsOf (σ 0 i 0) σ), .int r]) (rest := []) (st2 := .int (f_X5_countWays o (σ 0 i 0) (f_X2_groupsOf (σ 0 i 0) σ) r σ) :: []) hC hW hS hl cv_X7_309 (mm_5 ho) (by decide) rfl (c_X5_countWays l hl9 D ca base ad σ o (σ 0 i 0) (f_X2_groupsOf (σ 0 i 0) σ) r ho) rfl rfl rfl ⟨Nat.le_of_ble_eq_true rfl, Nat.le_of_ble_eq_true rfl⟩ (Nat.le_of_ble_eq_true rfl) dX7_judge_49 ⟨Nat.le_of_ble_eq_true rfl, Nat.le_of_ble_eq_true rfl⟩ (fun H locs hW hS => ?_)
        refine lv_if_ne (tgt := 57) hx hb dX7_judge_52 (by decide) (fun c_5 => ?_) (fun c_5 => ?_)
        · refine lv_aload_n hx hb dX7_judge_57 rfl (lv_at hl 1 rfl) ?_
          refine lv_aload_n hx hb dX7_judge_58 rfl (lv_at hl 2 rfl) ?_
          refine lv_aload_n hx hb dX7_judge_59 rfl (lv_at hl 3 rfl) ?_
          refine lv_iload_n hx hb dX7_judge_60 rfl (lv_at hl 4 rfl) ?_
          refine lv_aload_n hx hb dX7_judge_61 rfl (lv_at hl 2 rfl) ?_
          refine gf_X7_211 hC hW (mm_0 hi) dX7_judge_62 ?_
          refine w_callV (As := [.ref (ad 0 i), .ref (ad 5 o), .int r, .int (σ 0 i 7)]) (rest := []) (st2 := .int (f_X7_judgeBeyondModes i o r (σ 0 i 7) σ) :: []) hC hW hS hl cv_X7_342 m_7 (by decide) rfl (c_X7_judgeBeyondModes l hl9 D ca base ad σ i o r (σ 0 i 7) hi ho) rfl rfl rfl ⟨Nat.le_of_ble_eq_true rfl, Nat.le_of_ble_eq_true rfl⟩ (Nat.le_of_ble_eq_true rfl) dX7_judge_65 ⟨Nat.le_of_ble_eq_true rfl, Nat.le_of_ble_eq_true rfl⟩ (fun H locs hW hS => ?_)
          have hO : f_X7_judge i o r σ = f_X7_judgeBeyondModes i o r (σ 0 i 7) σ := by rw [f_X7_judge, if_neg c_1, if_pos c_3, if_pos c_4, if_neg c_5]
          exact w_iretP hC hW hS hO (Nat.le_of_ble_eq_true rfl) (Nat.le_of_ble_eq_true rfl) dX7_judge_68
        · refine lv_iconst (v := 1) hx hb dX7_judge_55 (by decide) ?_
          have hO : f_X7_judge i o r σ = 1 := by rw [f_X7_judge, if_neg c_1, if_pos c_3, if_pos c_4, if_pos c_5]
          exact w_iretP hC hW hS hO (Nat.le_of_ble_eq_true rfl) (Nat.le_of_ble_eq_true rfl) dX7_judge_56
      · refine lv_iconst (v := 1) hx hb dX7_judge_20 (by decide) ?_
        refine lv_goto (tgt := 25) hx hb dX7_judge_21 (by decide) ?_
        refine lv_istore (lv' := [(4, .int 1), (0, .ref (ad 7 0)), (1, .ref (ad 0 i)), (2, .ref (ad 5 o)), (3, .int r)]) hx hb dX7_judge_25 hl (by decide) rfl (fun ls hl => ?_)
        refine lv_iload hx hb dX7_judge_27 (lv_at hl 0 rfl) ?_
        refine lv_if_ne (tgt := 57) hx hb dX7_judge_29 (by decide) (fun _ => ?_) (fun c => absurd c (by decide))
        refine lv_aload_n hx hb dX7_judge_57 rfl (lv_at hl 1 rfl) ?_
        refine lv_aload_n hx hb dX7_judge_58 rfl (lv_at hl 2 rfl) ?_
        refine lv_aload_n hx hb dX7_judge_59 rfl (lv_at hl 3 rfl) ?_
        refine lv_iload_n hx hb dX7_judge_60 rfl (lv_at hl 4 rfl) ?_
        refine lv_aload_n hx hb dX7_judge_61 rfl (lv_at hl 2 rfl) ?_
        refine gf_X7_211 hC hW (mm_0 hi) dX7_judge_62 ?_
        refine w_callV (As := [.ref (ad 0 i), .ref (ad 5 o), .int r, .int (σ 0 i 7)]) (rest := []) (st2 := .int (f_X7_judgeBeyondModes i o r (σ 0 i 7) σ) :: []) hC hW hS hl cv_X7_342 m_7 (by decide) rfl (c_X7_judgeBeyondModes l hl9 D ca base ad σ i o r (σ 0 i 7) hi ho) rfl rfl rfl ⟨Nat.le_of_ble_eq_true rfl, Nat.le_of_ble_eq_true rfl⟩ (Nat.le_of_ble_eq_true rfl) dX7_judge_65 ⟨Nat.le_of_ble_eq_true rfl, Nat.le_of_ble_eq_true rfl⟩ (fun H locs hW hS => ?_)
        have hO : f_X7_judge i o r σ = f_X7_judgeBeyondModes i o r (σ 0 i 7) σ := by rw [f_X7_judge, if_neg c_1, if_pos c_3, if_neg c_4]
        exact w_iretP hC hW hS hO (Nat.le_of_ble_eq_true rfl) (Nat.le_of_ble_eq_true rfl) dX7_judge_68

def f_X7_judgeAnew (i : Nat) (o : Nat) (r : Int32) (σ : Sg) : Int32 :=
  if (f_X0_isFine i 1 σ) = 0 then (if (f_X5_allowsAnew o (σ 0 i 0) (f_X2_groupsFoundAnew (σ 0 i 0) σ) r σ) = 0 then 1
    else f_X7_judgeBeyondModes i o r (f_X0_letPassAnew i σ) σ)
  else if r = 4 then (if (f_X5_hasSomeRun o σ) = 0 then (if (f_X5_allowsAnew o (σ 0 i 0) (f_X2_groupsFoundAnew (σ 0 i 0) σ) r σ) = 0 then 1
      else f_X7_judgeBeyondModes i o r (f_X0_letPassAnew i σ) σ)
    else f_X7_judgeBeyondModes i o r (f_X0_letPassAnew i σ) σ)
  else f_X7_judgeBeyondModes i o r (f_X0_letPassAnew i σ) σ
set_option maxHeartbeats 4000000 in
set_option maxRecDepth 100000 in
theorem c_X7_judgeAnew (l : Launch) (hl9 : l.stackTraces = false) (D : va_G) (ca : Nat → ClassId) (base : Nat) (ad : Adr) (σ : Sg) (i : Nat) (o : Nat) (r : Int32) (hi : i < 12) (ho : o < 13) : Mt l yX7_judgeAnew cX7_judgeAnew 5 (some .int) { frames := 3, cells := 0, slots := 0, locals := 68 } D ca base ad ρm Lm [.ref (ad 7 0), .ref (ad 0 i), .ref (ad 5 o), .int r] σ (some (.int (f_X7_judgeAnew i o r σ))) σ := by
  refine w_ofW (by decide) (Nat.le_of_ble_eq_true rfl) rfl ?_
  intro p e s m args below meth c hC hW hS ls hl hin
  have hx := hC.1
  have hb := hC.2.1
  refine lv_aload_n hx hb dX7_judgeAnew_0 rfl (lv_at hl 1 rfl) ?_
  refine lv_iconst (v := 1) hx hb dX7_judgeAnew_1 (by decide) ?_
  refine w_callV (As := [.int 1]) (rest := []) (st2 := .int (f_X0_isFine i 1 σ) :: []) hC hW hS hl cv_X7_158 (mm_0 hi) (by decide) rfl (c_X0_isFine l hl9 D ca base ad σ i 1 hi) rfl rfl rfl ⟨Nat.le_of_ble_eq_true rfl, Nat.le_of_ble_eq_true rfl⟩ (Nat.le_of_ble_eq_true rfl) dX7_judgeAnew_2 ⟨Nat.le_of_ble_eq_true rfl, Nat.le_of_ble_eq_true rfl⟩ (fun H locs hW hS => ?_)
  refine lv_if_eq (tgt := 24) hx hb dX7_judgeAnew_5 (by decide) (fun c_1 => ?_) (fun c_1 => ?_)
  · refine lv_iconst (v := 0) hx hb dX7_judgeAnew_24 (by decide) ?_
    refine lv_istore (lv' := [(4, .int 0), (0, .ref (ad 7 0)), (1, .ref (ad 0 i)), (2, .ref (ad 5 o)), (3, .int r)]) hx hb dX7_judgeAnew_25 hl (by decide) rfl (fun ls hl => ?_)
    refine lv_iload hx hb dX7_judgeAnew_27 (lv_at hl 0 rfl) ?_
    refine lv_if_ne (tgt := 57) hx hb dX7_judgeAnew_29 (by decide) (fun c => absurd (by decide) c) (fun _ => ?_)
    refine lv_aload_n hx hb dX7_judgeAnew_32 rfl (lv_at hl 3 rfl) ?_
    refine lv_aload_n hx hb dX7_judgeAnew_33 rfl (lv_at hl 2 rfl) ?_
    refine gf_X7_192 hC hW (mm_0 hi) dX7_judgeAnew_34 ?_
    refine lv_aload_n hx hb dX7_judgeAnew_37 rfl (lv_at hl 1 rfl) ?_
    refine gf_X7_12 hC hW m_7 rfl dX7_judgeAnew_38 ?_
    refine lv_aload_n hx hb dX7_judgeAnew_41 rfl (lv_at hl 2 rfl) ?_
    refine gf_X7_192 hC hW (mm_0 hi) dX7_judgeAnew_42 ?_
    refine w_callV (As := [.int (σ 0 i 0)]) (rest := .int (σ 0 i 0) :: .ref (ad 5 o) :: []) (st2 := .int (f_X2_groupsFoundAnew (σ 0 i 0) σ) :: .int (σ 0 i 0) :: .ref (ad 5 o) :: []) hC hW hS hl cv_X7_346 m_2 (by decide) rfl (c_X2_groupsFoundAnew l hl9 D ca base ad σ (σ 0 i 0) ) rfl rfl rfl ⟨Nat.le_of_ble_eq_true rfl, Nat.le_of_ble_eq_true rfl⟩ (Nat.le_of_ble_eq_true rfl) dX7_judgeAnew_45 ⟨Nat.le_of_ble_eq_true rfl, Nat.le_of_ble_eq_true rfl⟩ (fun H locs hW hS => ?_)
    refine lv_iload_n hx hb dX7_judgeAnew_48 rfl (lv_at hl 4 rfl) ?_
    refine w_callV (As := [.int (σ 0 i 0), .int (f_X2_groupsFoundAnew (σ 0 i 0) σ), .int r]) (rest := []) (st2 := .int (f_X5_allowsAnew o (σ 0 i 0) (f_X2_groupsFoundAnew (σ 0 i 0) σ) r σ) :: []) hC hW hS hl cv_X7_349 (mm_5 ho) (by decide) rfl (c_X5_allowsAnew l hl9 D ca base ad σ o (σ 0 i 0) (f_X2_groupsFoundAnew (σ 0 i 0) σ) r ho) rfl rfl rfl ⟨Nat.le_of_ble_eq_true rfl, Nat.le_of_ble_eq_true rfl⟩ (Nat.le_of_ble_eq_true rfl) dX7_judgeAnew_49 ⟨Nat.le_of_ble_eq_true rfl, Nat.le_of_ble_eq_true rfl⟩ (fun H locs hW hS => ?_)
    refine lv_if_ne (tgt := 57) hx hb dX7_judgeAnew_52 (by decide) (fun c_2 => ?_) (fun c_2 => ?_)
    · refine lv_aload_n hx hb dX7_judgeAnew_57 rfl (lv_at hl 1 rfl) ?_
      refine lv_aload_n hx hb dX7_judgeAnew_58 rfl (lv_at hl 2 rfl) ?_
      refine lv_aload_n hx hb dX7_judgeAnew_59 rfl (lv_at hl 3 rfl) ?_
      refine lv_iload_n hx hb dX7_judgeAnew_60 rfl (lv_at hl 4 rfl) ?_
      refine lv_aload_n hx hb dX7_judgeAnew_61 rfl (lv_at hl 2 rfl) ?_
      refine w_callV (As := []) (rest := .int r :: .ref (ad 5 o) :: .ref (ad 0 i) :: .ref (ad 7 0) :: []) (st2 := .int (f_X0_letPassAnew i σ) :: .int r :: .ref (ad 5 o) :: .ref (ad 0 i) :: .ref (ad 7 0) :: []) hC hW hS hl cv_X7_353 (mm_0 hi) (by decide) rfl (c_X0_letPassAnew l hl9 D ca base ad σ i hi) rfl rfl rfl ⟨Nat.le_of_ble_eq_true rfl, Nat.le_of_ble_eq_true rfl⟩ (Nat.le_of_ble_eq_true rfl) dX7_judgeAnew_62 ⟨Nat.le_of_ble_eq_true rfl, Nat.le_of_ble_eq_true rfl⟩ (fun H locs hW hS => ?_)
      refine w_callV (As := [.ref (ad 0 i), .ref (ad 5 o), .int r, .int (f_X0_letPassAnew i σ)]) (rest := []) (st2 := .int (f_X7_judgeBeyondModes i o r (f_X0_letPassAnew i σ) σ) :: []) hC hW hS hl cv_X7_342 m_7 (by decide) rfl (c_X7_judgeBeyondModes l hl9 D ca base ad σ i o r (f_X0_letPassAnew i σ) hi ho) rfl rfl rfl ⟨Nat.le_of_ble_eq_true rfl, Nat.le_of_ble_eq_true rfl⟩ (Nat.le_of_ble_eq_true rfl) dX7_judgeAnew_65 ⟨Nat.le_of_ble_eq_true rfl, Nat.le_of_ble_eq_true rfl⟩ (fun H locs hW hS => ?_)
      have hO : f_X7_judgeAnew i o r σ = f_X7_judgeBeyondModes i o r (f_X0_letPassAnew i σ) σ := by rw [f_X7_judgeAnew, if_pos c_1, if_neg c_2]
      exact w_iretP hC hW hS hO (Nat.le_of_ble_eq_true rfl) (Nat.le_of_ble_eq_true rfl) dX7_judgeAnew_68
    · refine lv_iconst (v := 1) hx hb dX7_judgeAnew_55 (by decide) ?_
      have hO : f_X7_judgeAnew i o r σ = 1 := by rw [f_X7_judgeAnew, if_pos c_1, if_pos c_2]
      exact w_iretP hC hW hS hO (Nat.le_of_ble_eq_true rfl) (Nat.le_of_ble_eq_true rfl) dX7_judgeAnew_56
  · refine lv_iload_n hx hb dX7_judgeAnew_8 rfl (lv_at hl 3 rfl) ?_
    refine lv_iconst (v := 4) hx hb dX7_judgeAnew_9 (by decide) ?_
    refine lv_icmp_ne (tgt := 20) hx hb dX7_judgeAnew_10 (by decide) (fun c_3 => ?_) (fun c_3 => ?_)
    · refine lv_iconst (v := 1) hx hb dX7_judgeAnew_20 (by decide) ?_
      refine lv_goto (tgt := 25) hx hb dX7_judgeAnew_21 (by decide) ?_
      refine lv_istore (lv' := [(4, .int 1), (0, .ref (ad 7 0)), (1, .ref (ad 0 i)), (2, .ref (ad 5 o)), (3, .int r)]) hx hb dX7_judgeAnew_25 hl (by decide) rfl (fun ls hl => ?_)
      refine lv_iload hx hb dX7_judgeAnew_27 (lv_at hl 0 rfl) ?_
      refine lv_if_ne (tgt := 57) hx hb dX7_judgeAnew_29 (by decide) (fun _ => ?_) (fun c => absurd c (by decide))
      refine lv_aload_n hx hb dX7_judgeAnew_57 rfl (lv_at hl 1 rfl) ?_
      refine lv_aload_n hx hb dX7_judgeAnew_58 rfl (lv_at hl 2 rfl) ?_
      refine lv_aload_n hx hb dX7_judgeAnew_59 rfl (lv_at hl 3 rfl) ?_
      refine lv_iload_n hx hb dX7_judgeAnew_60 rfl (lv_at hl 4 rfl) ?_
      refine lv_aload_n hx hb dX7_judgeAnew_61 rfl (lv_at hl 2 rfl) ?_
      refine w_callV (As := []) (rest := .int r :: .ref (ad 5 o) :: .ref (ad 0 i) :: .ref (ad 7 0) :: []) (st2 := .int (f_X0_letPassAnew i σ) :: .int r :: .ref (ad 5 o) :: .ref (ad 0 i) :: .ref (ad 7 0) :: []) hC hW hS hl cv_X7_353 (mm_0 hi) (by decide) rfl (c_X0_letPassAnew l hl9 D ca base ad σ i hi) rfl rfl rfl ⟨Nat.le_of_ble_eq_true rfl, Nat.le_of_ble_eq_true rfl⟩ (Nat.le_of_ble_eq_true rfl) dX7_judgeAnew_62 ⟨Nat.le_of_ble_eq_true rfl, Nat.le_of_ble_eq_true rfl⟩ (fun H locs hW hS => ?_)
      refine w_callV (As := [.ref (ad 0 i), .ref (ad 5 o), .int r, .int (f_X0_letPassAnew i σ)]) (rest := []) (st2 := .int (f_X7_judgeBeyondModes i o r (f_X0_letPassAnew i σ) σ) :: []) hC hW hS hl cv_X7_342 m_7 (by decide) rfl (c_X7_judgeBeyondModes l hl9 D ca base ad σ i o r (f_X0_letPassAnew i σ) hi ho) rfl rfl rfl ⟨Nat.le_of_ble_eq_true rfl, Nat.le_of_ble_eq_true rfl⟩ (Nat.le_of_ble_eq_true rfl) dX7_judgeAnew_65 ⟨Nat.le_of_ble_eq_true rfl, Nat.le_of_ble_eq_true rfl⟩ (fun H locs hW hS => ?_)
      have hO : f_X7_judgeAnew i o r σ = f_X7_judgeBeyondModes i o r (f_X0_letPassAnew i σ) σ := by rw [f_X7_judgeAnew, if_neg c_1, if_neg c_3]
      exact w_iretP hC hW hS hO (Nat.le_of_ble_eq_true rfl) (Nat.le_of_ble_eq_true rfl) dX7_judgeAnew_68
    · refine lv_aload_n hx hb dX7_judgeAnew_13 rfl (lv_at hl 2 rfl) ?_
      refine w_callV (As := []) (rest := []) (st2 := .int (f_X5_hasSomeRun o σ) :: []) hC hW hS hl cv_X7_338 (mm_5 ho) (by decide) rfl (c_X5_hasSomeRun l hl9 D ca base ad σ o ho) rfl rfl rfl ⟨Nat.le_of_ble_eq_true rfl, Nat.le_of_ble_eq_true rfl⟩ (Nat.le_of_ble_eq_true rfl) dX7_judgeAnew_14 ⟨Nat.le_of_ble_eq_true rfl, Nat.le_of_ble_eq_true rfl⟩ (fun H locs hW hS => ?_)
      refine lv_if_eq (tgt := 24) hx hb dX7_judgeAnew_17 (by decide) (fun c_4 => ?_) (fun c_4 => ?_)
      · refine lv_iconst (v := 0) hx hb dX7_judgeAnew_24 (by decide) ?_
        refine lv_istore (lv' := [(4, .int 0), (0, .ref (ad 7 0)), (1, .ref (ad 0 i)), (2, .ref (ad 5 o)), (3, .int r)]) hx hb dX7_judgeAnew_25 hl (by decide) rfl (fun ls hl => ?_)
        refine lv_iload hx hb dX7_judgeAnew_27 (lv_at hl 0 rfl) ?_
        refine lv_if_ne (tgt := 57) hx hb dX7_judgeAnew_29 (by decide) (fun c => absurd (by decide) c) (fun _ => ?_)
        refine lv_aload_n hx hb dX7_judgeAnew_32 rfl (lv_at hl 3 rfl) ?_
        refine lv_aload_n hx hb dX7_judgeAnew_33 rfl (lv_at hl 2 rfl) ?_
        refine gf_X7_192 hC hW (mm_0 hi) dX7_judgeAnew_34 ?_
        refine lv_aload_n hx hb dX7_judgeAnew_37 rfl (lv_at hl 1 rfl) ?_
        refine gf_X7_12 hC hW m_7 rfl dX7_judgeAnew_38 ?_
        refine lv_aload_n hx hb dX7_judgeAnew_41 rfl (lv_at hl 2 rfl) ?_
        refine gf_X7_192 hC hW (mm_0 hi) dX7_judgeAnew_42 ?_
        refine w_callV (As := [.int (σ 0 i 0)]) (rest := .int (σ 0 i 0) :: .ref (ad 5 o) :: []) (st2 := .int (f_X2_groupsFoundAnew (σ 0 i 0) σ) :: .int (σ 0 i 0) :: .ref (ad 5 o) :: []) hC hW hS hl cv_X7_346 m_2 (by decide) rfl (c_X2_groupsFoundAnew l hl9 D ca base ad σ (σ 0 i 0) ) rfl rfl rfl ⟨Nat.le_of_ble_eq_true rfl, Nat.le_of_ble_eq_true rfl⟩ (Nat.le_of_ble_eq_true rfl) dX7_judgeAnew_45 ⟨Nat.le_of_ble_eq_true rfl, Nat.le_of_ble_eq_true rfl⟩ (fun H locs hW hS => ?_)
        refine lv_iload_n hx hb dX7_judgeAnew_48 rfl (lv_at hl 4 rfl) ?_
        refine w_callV (As := [.int (σ 0 i 0), .int (f_X2_groupsFoundAnew (σ 0 i 0) σ), .int r]) (rest := []) (st2 := .int (f_X5_allowsAnew o (σ 0 i 0) (f_X2_groupsFoundAnew (σ 0 i 0) σ) r σ) :: []) hC hW hS hl cv_X7_349 (mm_5 ho) (by decide) rfl (c_X5_allowsAnew l hl9 D ca base ad σ o (σ 0 i 0) (f_X2_groupsFoundAnew (σ 0 i 0) σ) r ho) rfl rfl rfl ⟨Nat.le_of_ble_eq_true rfl, Nat.le_of_ble_eq_true rfl⟩ (Nat.le_of_ble_eq_true rfl) dX7_judgeAnew_49 ⟨Nat.le_of_ble_eq_true rfl, Nat.le_of_ble_eq_true rfl⟩ (fun H locs hW hS => ?_)
        refine lv_if_ne (tgt := 57) hx hb dX7_judgeAnew_52 (by decide) (fun c_5 => ?_) (fun c_5 => ?_)
        · refine lv_aload_n hx hb dX7_judgeAnew_57 rfl (lv_at hl 1 rfl) ?_
          refine lv_aload_n hx hb dX7_judgeAnew_58 rfl (lv_at hl 2 rfl) ?_
          refine lv_aload_n hx hb dX7_judgeAnew_59 rfl (lv_at hl 3 rfl) ?_
          refine lv_iload_n hx hb dX7_judgeAnew_60 rfl (lv_at hl 4 rfl) ?_
          refine lv_aload_n hx hb dX7_judgeAnew_61 rfl (lv_at hl 2 rfl) ?_
          refine w_callV (As := []) (rest := .int r :: .ref (ad 5 o) :: .ref (ad 0 i) :: .ref (ad 7 0) :: []) (st2 := .int (f_X0_letPassAnew i σ) :: .int r :: .ref (ad 5 o) :: .ref (ad 0 i) :: .ref (ad 7 0) :: []) hC hW hS hl cv_X7_353 (mm_0 hi) (by decide) rfl (c_X0_letPassAnew l hl9 D ca base ad σ i hi) rfl rfl rfl ⟨Nat.le_of_ble_eq_true rfl, Nat.le_of_ble_eq_true rfl⟩ (Nat.le_of_ble_eq_true rfl) dX7_judgeAnew_62 ⟨Nat.le_of_ble_eq_true rfl, Nat.le_of_ble_eq_true rfl⟩ (fun H locs hW hS => ?_)
          refine w_callV (As := [.ref (ad 0 i), .ref (ad 5 o), .int r, .int (f_X0_letPassAnew i σ)]) (rest := []) (st2 := .int (f_X7_judgeBeyondModes i o r (f_X0_letPassAnew i σ) σ) :: []) hC hW hS hl cv_X7_342 m_7 (by decide) rfl (c_X7_judgeBeyondModes l hl9 D ca base ad σ i o r (f_X0_letPassAnew i σ) hi ho) rfl rfl rfl ⟨Nat.le_of_ble_eq_true rfl, Nat.le_of_ble_eq_true rfl⟩ (Nat.le_of_ble_eq_true rfl) dX7_judgeAnew_65 ⟨Nat.le_of_ble_eq_true rfl, Nat.le_of_ble_eq_true rfl⟩ (fun H locs hW hS => ?_)
          have hO : f_X7_judgeAnew i o r σ = f_X7_judgeBeyondModes i o r (f_X0_letPassAnew i σ) σ := by rw [f_X7_judgeAnew, if_neg c_1, if_pos c_3, if_pos c_4, if_neg c_5]
          exact w_iretP hC hW hS hO (Nat.le_of_ble_eq_true rfl) (Nat.le_of_ble_eq_true rfl) dX7_judgeAnew_68
        · refine lv_iconst (v := 1) hx hb dX7_judgeAnew_55 (by decide) ?_
          have hO : f_X7_judgeAnew i o r σ = 1 := by rw [f_X7_judgeAnew, if_neg c_1, if_pos c_3, if_pos c_4, if_pos c_5]
          exact w_iretP hC hW hS hO (Nat.le_of_ble_eq_true rfl) (Nat.le_of_ble_eq_true rfl) dX7_judgeAnew_56
      · refine lv_iconst (v := 1) hx hb dX7_judgeAnew_20 (by decide) ?_
        refine lv_goto (tgt := 25) hx hb dX7_judgeAnew_21 (by decide) ?_
        refine lv_istore (lv' := [(4, .int 1), (0, .ref (ad 7 0)), (1, .ref (ad 0 i)), (2, .ref (ad 5 o)), (3, .int r)]) hx hb dX7_judgeAnew_25 hl (by decide) rfl (fun ls hl => ?_)
        refine lv_iload hx hb dX7_judgeAnew_27 (lv_at hl 0 rfl) ?_
        refine lv_if_ne (tgt := 57) hx hb dX7_judgeAnew_29 (by decide) (fun _ => ?_) (fun c => absurd c (by decide))
        refine lv_aload_n hx hb dX7_judgeAnew_57 rfl (lv_at hl 1 rfl) ?_
        refine lv_aload_n hx hb dX7_judgeAnew_58 rfl (lv_at hl 2 rfl) ?_
        refine lv_aload_n hx hb dX7_judgeAnew_59 rfl (lv_at hl 3 rfl) ?_
        refine lv_iload_n hx hb dX7_judgeAnew_60 rfl (lv_at hl 4 rfl) ?_
        refine lv_aload_n hx hb dX7_judgeAnew_61 rfl (lv_at hl 2 rfl) ?_
        refine w_callV (As := []) (rest := .int r :: .ref (ad 5 o) :: .ref (ad 0 i) :: .ref (ad 7 0) :: []) (st2 := .int (f_X0_letPassAnew i σ) :: .int r :: .ref (ad 5 o) :: .ref (ad 0 i) :: .ref (ad 7 0) :: []) hC hW hS hl cv_X7_353 (mm_0 hi) (by decide) rfl (c_X0_letPassAnew l hl9 D ca base ad σ i hi) rfl rfl rfl ⟨Nat.le_of_ble_eq_true rfl, Nat.le_of_ble_eq_true rfl⟩ (Nat.le_of_ble_eq_true rfl) dX7_judgeAnew_62 ⟨Nat.le_of_ble_eq_true rfl, Nat.le_of_ble_eq_true rfl⟩ (fun H locs hW hS => ?_)
        refine w_callV (As := [.ref (ad 0 i), .ref (ad 5 o), .int r, .int (f_X0_letPassAnew i σ)]) (rest := []) (st2 := .int (f_X7_judgeBeyondModes i o r (f_X0_letPassAnew i σ) σ) :: []) hC hW hS hl cv_X7_342 m_7 (by decide) rfl (c_X7_judgeBeyondModes l hl9 D ca base ad σ i o r (f_X0_letPassAnew i σ) hi ho) rfl rfl rfl ⟨Nat.le_of_ble_eq_true rfl, Nat.le_of_ble_eq_true rfl⟩ (Nat.le_of_ble_eq_true rfl) dX7_judgeAnew_65 ⟨Nat.le_of_ble_eq_true rfl, Nat.le_of_ble_eq_true rfl⟩ (fun H locs hW hS => ?_)
        have hO : f_X7_judgeAnew i o r σ = f_X7_judgeBeyondModes i o r (f_X0_letPassAnew i σ) σ := by rw [f_X7_judgeAnew, if_neg c_1, if_pos c_3, if_neg c_4]
        exact w_iretP hC hW hS hO (Nat.le_of_ble_eq_true rfl) (Nat.le_of_ble_eq_true rfl) dX7_judgeAnew_68

def s_X7_carryOutRun (i : Nat) (o : Nat) (σ : Sg) : Sg :=
  if (f_X3_moveOf (σ 0 i 1) (σ 5 o 3) σ) = (-1) then (if ((σ 5 o 2) &&& (512 : Int32)) = 0 then σ
    else if (σ 5 o 0) = 0 then us (us σ 0 i 0 (σ 5 o 0)) 0 i 4 (σ 0 i 5)
    else us (us σ 0 i 0 (σ 5 o 0)) 0 i 4 0)
  else if ((σ 5 o 2) &&& (512 : Int32)) = 0 then us σ 0 i 1 (f_X3_moveOf (σ 0 i 1) (σ 5 o 3) σ)
  else if (σ 5 o 0) = 0 then us (us (us σ 0 i 1 (f_X3_moveOf (σ 0 i 1) (σ 5 o 3) σ)) 0 i 0 (σ 5 o 0)) 0 i 4 (σ 0 i 5)
  else us (us (us σ 0 i 1 (f_X3_moveOf (σ 0 i 1) (σ 5 o 3) σ)) 0 i 0 (σ 5 o 0)) 0 i 4 0
set_option maxHeartbeats 4000000 in
set_option maxRecDepth 100000 in
theorem c_X7_carryOutRun (l : Launch) (hl9 : l.stackTraces = false) (D : va_G) (ca : Nat → ClassId) (base : Nat) (ad : Adr) (σ : Sg) (i : Nat) (o : Nat) (hi : i < 12) (ho : o < 13) : Mt l yX7_carryOutRun cX7_carryOutRun 4 none { frames := 2, cells := 0, slots := 0, locals := 43 } D ca base ad ρm Lm [.ref (ad 7 0), .ref (ad 0 i), .ref (ad 5 o)] σ none (s_X7_carryOutRun i o σ) := by
  refine w_ofW (by decide) (Nat.le_of_ble_eq_true rfl) rfl ?_
  intro p e s m args below meth c hC hW hS ls hl hin
  have hx := hC.1
  have hb := hC.2.1
  refine lv_aload_n hx hb dX7_carryOutRun_0 rfl (lv_at hl 0 rfl) ?_
  refine gf_X7_19 hC hW m_7 rfl dX7_carryOutRun_1 ?_
  refine lv_aload_n hx hb dX7_carryOutRun_4 rfl (lv_at hl 1 rfl) ?_
  refine gf_X7_195 hC hW (mm_0 hi) dX7_carryOutRun_5 ?_
  refine lv_aload_n hx hb dX7_carryOutRun_8 rfl (lv_at hl 2 rfl) ?_
  refine gf_X7_130 hC hW (mm_5 ho) dX7_carryOutRun_9 ?_
  refine w_callV (As := [.int (σ 0 i 1), .int (σ 5 o 3)]) (rest := []) (st2 := .int (f_X3_moveOf (σ 0 i 1) (σ 5 o 3) σ) :: []) hC hW hS hl cv_X7_180 m_3 (by decide) rfl (c_X3_moveOf l hl9 D ca base ad σ (σ 0 i 1) (σ 5 o 3) ) rfl rfl rfl ⟨Nat.le_of_ble_eq_true rfl, Nat.le_of_ble_eq_true rfl⟩ (Nat.le_of_ble_eq_true rfl) dX7_carryOutRun_12 ⟨Nat.le_of_ble_eq_true rfl, Nat.le_of_ble_eq_true rfl⟩ (fun H locs hW hS => ?_)
  refine lv_istore_n (lv' := [(3, .int (f_X3_moveOf (σ 0 i 1) (σ 5 o 3) σ)), (0, .ref (ad 7 0)), (1, .ref (ad 0 i)), (2, .ref (ad 5 o))]) hx hb dX7_carryOutRun_15 rfl hl (by decide) rfl (fun ls hl => ?_)
  refine lv_iload_n hx hb dX7_carryOutRun_16 rfl (lv_at hl 0 rfl) ?_
  refine lv_iconst (v := (-1)) hx hb dX7_carryOutRun_17 (by decide) ?_
  refine lv_icmp_eq (tgt := 26) hx hb dX7_carryOutRun_18 (by decide) (fun c_1 => ?_) (fun c_1 => ?_)
  · refine lv_aload_n hx hb dX7_carryOutRun_26 rfl (lv_at hl 3 rfl) ?_
    refine gf_X7_123 hC hW (mm_5 ho) dX7_carryOutRun_27 ?_
    refine lv_sipush (v := 512) hx hb dX7_carryOutRun_30 (by decide) ?_
    refine lv_iand hx hb dX7_carryOutRun_33 ?_
    refine lv_if_eq (tgt := 64) hx hb dX7_carryOutRun_34 (by decide) (fun c_2 => ?_) (fun c_2 => ?_)
    · have hO : s_X7_carryOutRun i o σ = σ := by rw [s_X7_carryOutRun, if_pos c_1, if_pos c_2]
      exact w_vretV hC hW hS hO (Nat.le_of_ble_eq_true rfl) (Nat.le_of_ble_eq_true rfl) dX7_carryOutRun_64
    · refine lv_aload_n hx hb dX7_carryOutRun_37 rfl (lv_at hl 2 rfl) ?_
      refine lv_aload_n hx hb dX7_carryOutRun_38 rfl (lv_at hl 3 rfl) ?_
      refine gf_X7_117 hC hW (mm_5 ho) dX7_carryOutRun_39 ?_
      refine pf_X7_192 hC hW (mm_0 hi) hS dX7_carryOutRun_42 (fun H locs hW hS => ?_)
      refine lv_aload_n hx hb dX7_carryOutRun_45 rfl (lv_at hl 2 rfl) ?_
      refine lv_aload_n hx hb dX7_carryOutRun_46 rfl (lv_at hl 3 rfl) ?_
      refine gf_X7_117 hC hW (mm_5 ho) dX7_carryOutRun_47 ?_
      refine lv_eqi (y := σ 5 o 0) (by rw [us_k (by decide)]) ?_
      refine lv_if_ne (tgt := 60) hx hb dX7_carryOutRun_50 (by decide) (fun c_3 => ?_) (fun c_3 => ?_)
      · refine lv_iconst (v := 0) hx hb dX7_carryOutRun_60 (by decide) ?_
        refine pf_X7_198 hC hW (mm_0 hi) hS dX7_carryOutRun_61 (fun H locs hW hS => ?_)
        have hO : s_X7_carryOutRun i o σ = us (us σ 0 i 0 (σ 5 o 0)) 0 i 4 0 := by rw [s_X7_carryOutRun, if_pos c_1, if_neg c_2, if_neg c_3]
        exact w_vretV hC hW hS hO (Nat.le_of_ble_eq_true rfl) (Nat.le_of_ble_eq_true rfl) dX7_carryOutRun_64
      · refine lv_aload_n hx hb dX7_carryOutRun_53 rfl (lv_at hl 2 rfl) ?_
        refine gf_X7_201 hC hW (mm_0 hi) dX7_carryOutRun_54 ?_
        refine lv_eqi (y := σ 0 i 5) (by rw [us_j (by decide)]) ?_
        refine lv_goto (tgt := 61) hx hb dX7_carryOutRun_57 (by decide) ?_
        refine pf_X7_198 hC hW (mm_0 hi) hS dX7_carryOutRun_61 (fun H locs hW hS => ?_)
        have hO : s_X7_carryOutRun i o σ = us (us σ 0 i 0 (σ 5 o 0)) 0 i 4 (σ 0 i 5) := by rw [s_X7_carryOutRun, if_pos c_1, if_neg c_2, if_pos c_3]
        exact w_vretV hC hW hS hO (Nat.le_of_ble_eq_true rfl) (Nat.le_of_ble_eq_true rfl) dX7_carryOutRun_64
  · refine lv_aload_n hx hb dX7_carryOutRun_21 rfl (lv_at hl 2 rfl) ?_
    refine lv_iload_n hx hb dX7_carryOutRun_22 rfl (lv_at hl 0 rfl) ?_
    refine pf_X7_195 hC hW (mm_0 hi) hS dX7_carryOutRun_23 (fun H locs hW hS => ?_)
    refine lv_aload_n hx hb dX7_carryOutRun_26 rfl (lv_at hl 3 rfl) ?_
    refine gf_X7_123 hC hW (mm_5 ho) dX7_carryOutRun_27 ?_
    refine lv_eqi (y := σ 5 o 2) (by rw [us_k (by decide)]) ?_
    refine lv_sipush (v := 512) hx hb dX7_carryOutRun_30 (by decide) ?_
    refine lv_iand hx hb dX7_carryOutRun_33 ?_
    refine lv_if_eq (tgt := 64) hx hb dX7_carryOutRun_34 (by decide) (fun c_4 => ?_) (fun c_4 => ?_)
    · have hO : s_X7_carryOutRun i o σ = us σ 0 i 1 (f_X3_moveOf (σ 0 i 1) (σ 5 o 3) σ) := by rw [s_X7_carryOutRun, if_neg c_1, if_pos c_4]
      exact w_vretV hC hW hS hO (Nat.le_of_ble_eq_true rfl) (Nat.le_of_ble_eq_true rfl) dX7_carryOutRun_64
    · refine lv_aload_n hx hb dX7_carryOutRun_37 rfl (lv_at hl 2 rfl) ?_
      refine lv_aload_n hx hb dX7_carryOutRun_38 rfl (lv_at hl 3 rfl) ?_
      refine gf_X7_117 hC hW (mm_5 ho) dX7_carryOutRun_39 ?_
      refine lv_eqi (y := σ 5 o 0) (by rw [us_k (by decide)]) ?_
      refine pf_X7_192 hC hW (mm_0 hi) hS dX7_carryOutRun_42 (fun H locs hW hS => ?_)
      refine lv_aload_n hx hb dX7_carryOutRun_45 rfl (lv_at hl 2 rfl) ?_
      refine lv_aload_n hx hb dX7_carryOutRun_46 rfl (lv_at hl 3 rfl) ?_
      refine gf_X7_117 hC hW (mm_5 ho) dX7_carryOutRun_47 ?_
      refine lv_eqi (y := σ 5 o 0) (by rw [us_k (by decide), us_k (by decide)]) ?_
      refine lv_if_ne (tgt := 60) hx hb dX7_carryOutRun_50 (by decide) (fun c_5 => ?_) (fun c_5 => ?_)
      · refine lv_iconst (v := 0) hx hb dX7_carryOutRun_60 (by decide) ?_
        refine pf_X7_198 hC hW (mm_0 hi) hS dX7_carryOutRun_61 (fun H locs hW hS => ?_)
        have hO : s_X7_carryOutRun i o σ = us (us (us σ 0 i 1 (f_X3_moveOf (σ 0 i 1) (σ 5 o 3) σ)) 0 i 0 (σ 5 o 0)) 0 i 4 0 := by rw [s_X7_carryOutRun, if_neg c_1, if_neg c_4, if_neg c_5]
        exact w_vretV hC hW hS hO (Nat.le_of_ble_eq_true rfl) (Nat.le_of_ble_eq_true rfl) dX7_carryOutRun_64
      · refine lv_aload_n hx hb dX7_carryOutRun_53 rfl (lv_at hl 2 rfl) ?_
        refine gf_X7_201 hC hW (mm_0 hi) dX7_carryOutRun_54 ?_
        refine lv_eqi (y := σ 0 i 5) (by rw [us_j (by decide), us_j (by decide)]) ?_
        refine lv_goto (tgt := 61) hx hb dX7_carryOutRun_57 (by decide) ?_
        refine pf_X7_198 hC hW (mm_0 hi) hS dX7_carryOutRun_61 (fun H locs hW hS => ?_)
        have hO : s_X7_carryOutRun i o σ = us (us (us σ 0 i 1 (f_X3_moveOf (σ 0 i 1) (σ 5 o 3) σ)) 0 i 0 (σ 5 o 0)) 0 i 4 (σ 0 i 5) := by rw [s_X7_carryOutRun, if_neg c_1, if_neg c_4, if_pos c_5]
        exact w_vretV hC hW hS hO (Nat.le_of_ble_eq_true rfl) (Nat.le_of_ble_eq_true rfl) dX7_carryOutRun_64
theorem fr_X7_carryOutRun {kk : Nat}  {i : Nat} {o : Nat} {σ : Sg} (h0 : kk ≠ 0) : (s_X7_carryOutRun i o σ) kk = σ kk := by
  rw [s_X7_carryOutRun]
  repeat' split
  all_goals (first | (simp only [us_kk, ne_eq, not_false_eq_true, h0]; done) | with_reducible rfl | (simp only [us_kk, ne_eq, not_false_eq_true, h0]; with_reducible rfl))

def s_X7_note (a : Int32) (t : Int32) (r : Int32) (v : Int32) (σ : Sg) : Sg :=
  if v = 0 then (if ((σ 7 0 10) &&& r) = 0 then σ
    else s_X1_add (σ 7 0 9) a t r v σ)
  else if ((σ 7 0 11) &&& r) = 0 then σ
  else s_X1_add (σ 7 0 9) a t r v σ
set_option maxHeartbeats 4000000 in
set_option maxRecDepth 100000 in
theorem c_X7_note (l : Launch) (hl9 : l.stackTraces = false) (D : va_G) (ca : Nat → ClassId) (base : Nat) (ad : Adr) (σ : Sg) (a : Int32) (t : Int32) (r : Int32) (v : Int32) (hI : LogInv σ) : Mt l yX7_note cX7_note 6 none { frames := 4, cells := 0, slots := 0, locals := 95 } D ca base ad ρm Lm [.ref (ad 7 0), .int a, .int t, .int r, .int v] σ none (s_X7_note a t r v σ) := by
  refine w_ofW (by decide) (Nat.le_of_ble_eq_true rfl) rfl ?_
  intro p e s m args below meth c hC hW hS ls hl hin
  have hx := hC.1
  have hb := hC.2.1
  refine lv_iload hx hb dX7_note_0 (lv_at hl 4 rfl) ?_
  refine lv_if_ne (tgt := 12) hx hb dX7_note_2 (by decide) (fun c_1 => ?_) (fun c_1 => ?_)
  · refine lv_aload_n hx hb dX7_note_12 rfl (lv_at hl 0 rfl) ?_
    refine gf_X7_73 hC hW m_7 dX7_note_13 ?_
    refine lv_istore (lv' := [(5, .int (σ 7 0 11)), (0, .ref (ad 7 0)), (1, .int a), (2, .int t), (3, .int r), (4, .int v)]) hx hb dX7_note_16 hl (by decide) rfl (fun ls hl => ?_)
    refine lv_iload hx hb dX7_note_18 (lv_at hl 0 rfl) ?_
    refine lv_iload_n hx hb dX7_note_20 rfl (lv_at hl 4 rfl) ?_
    refine lv_iand hx hb dX7_note_21 ?_
    refine lv_if_eq (tgt := 41) hx hb dX7_note_22 (by decide) (fun c_2 => ?_) (fun c_2 => ?_)
    · have hO : s_X7_note a t r v σ = σ := by rw [s_X7_note, if_neg c_1, if_pos c_2]
      exact w_vretV hC hW hS hO (Nat.le_of_ble_eq_true rfl) (Nat.le_of_ble_eq_true rfl) dX7_note_41
    · refine lv_aload_n hx hb dX7_note_25 rfl (lv_at hl 1 rfl) ?_
      refine gf_X7_26 hC hW m_7 rfl dX7_note_26 ?_
      refine lv_aload_n hx hb dX7_note_29 rfl (lv_at hl 1 rfl) ?_
      refine gf_X7_243 hC hW m_7 dX7_note_30 ?_
      refine lv_iload_n hx hb dX7_note_33 rfl (lv_at hl 2 rfl) ?_
      refine lv_iload_n hx hb dX7_note_34 rfl (lv_at hl 3 rfl) ?_
      refine lv_iload_n hx hb dX7_note_35 rfl (lv_at hl 4 rfl) ?_
      refine lv_iload hx hb dX7_note_36 (lv_at hl 5 rfl) ?_
      refine w_callV (As := [.int (σ 7 0 9), .int a, .int t, .int r, .int v]) (rest := []) (st2 := []) hC hW hS hl cv_X7_356 m_1 (by decide) rfl (c_X1_add l hl9 D ca base ad σ (σ 7 0 9) a t r v (by first | assumption | decide | omega)) rfl rfl rfl ⟨Nat.le_of_ble_eq_true rfl, Nat.le_of_ble_eq_true rfl⟩ (Nat.le_of_ble_eq_true rfl) dX7_note_38 ⟨Nat.le_of_ble_eq_true rfl, Nat.le_of_ble_eq_true rfl⟩ (fun H locs hW hS => ?_)
      have hO : s_X7_note a t r v σ = s_X1_add (σ 7 0 9) a t r v σ := by rw [s_X7_note, if_neg c_1, if_neg c_2]
      exact w_vretV hC hW hS hO (Nat.le_of_ble_eq_true rfl) (Nat.le_of_ble_eq_true rfl) dX7_note_41
  · refine lv_aload_n hx hb dX7_note_5 rfl (lv_at hl 0 rfl) ?_
    refine gf_X7_69 hC hW m_7 dX7_note_6 ?_
    refine lv_goto (tgt := 16) hx hb dX7_note_9 (by decide) ?_
    refine lv_istore (lv' := [(5, .int (σ 7 0 10)), (0, .ref (ad 7 0)), (1, .int a), (2, .int t), (3, .int r), (4, .int v)]) hx hb dX7_note_16 hl (by decide) rfl (fun ls hl => ?_)
    refine lv_iload hx hb dX7_note_18 (lv_at hl 0 rfl) ?_
    refine lv_iload_n hx hb dX7_note_20 rfl (lv_at hl 4 rfl) ?_
    refine lv_iand hx hb dX7_note_21 ?_
    refine lv_if_eq (tgt := 41) hx hb dX7_note_22 (by decide) (fun c_3 => ?_) (fun c_3 => ?_)
    · have hO : s_X7_note a t r v σ = σ := by rw [s_X7_note, if_pos c_1, if_pos c_3]
      exact w_vretV hC hW hS hO (Nat.le_of_ble_eq_true rfl) (Nat.le_of_ble_eq_true rfl) dX7_note_41
    · refine lv_aload_n hx hb dX7_note_25 rfl (lv_at hl 1 rfl) ?_
      refine gf_X7_26 hC hW m_7 rfl dX7_note_26 ?_
      refine lv_aload_n hx hb dX7_note_29 rfl (lv_at hl 1 rfl) ?_
      refine gf_X7_243 hC hW m_7 dX7_note_30 ?_
      refine lv_iload_n hx hb dX7_note_33 rfl (lv_at hl 2 rfl) ?_
      refine lv_iload_n hx hb dX7_note_34 rfl (lv_at hl 3 rfl) ?_
      refine lv_iload_n hx hb dX7_note_35 rfl (lv_at hl 4 rfl) ?_
      refine lv_iload hx hb dX7_note_36 (lv_at hl 5 rfl) ?_
      refine w_callV (As := [.int (σ 7 0 9), .int a, .int t, .int r, .int v]) (rest := []) (st2 := []) hC hW hS hl cv_X7_356 m_1 (by decide) rfl (c_X1_add l hl9 D ca base ad σ (σ 7 0 9) a t r v (by first | assumption | decide | omega)) rfl rfl rfl ⟨Nat.le_of_ble_eq_true rfl, Nat.le_of_ble_eq_true rfl⟩ (Nat.le_of_ble_eq_true rfl) dX7_note_38 ⟨Nat.le_of_ble_eq_true rfl, Nat.le_of_ble_eq_true rfl⟩ (fun H locs hW hS => ?_)
      have hO : s_X7_note a t r v σ = s_X1_add (σ 7 0 9) a t r v σ := by rw [s_X7_note, if_pos c_1, if_neg c_3]
      exact w_vretV hC hW hS hO (Nat.le_of_ble_eq_true rfl) (Nat.le_of_ble_eq_true rfl) dX7_note_41
theorem fr_X7_note {kk : Nat}  {a : Int32} {t : Int32} {r : Int32} {v : Int32} {σ : Sg} (h1 : kk ≠ 1) (h11 : kk ≠ 11) : (s_X7_note a t r v σ) kk = σ kk := by
  rw [s_X7_note]
  repeat' split
  all_goals (first | (simp only [us_kk, ne_eq, not_false_eq_true, h1, h11, fr_X1_add]; done) | with_reducible rfl | (simp only [us_kk, ne_eq, not_false_eq_true, h1, h11, fr_X1_add]; with_reducible rfl))

def f_X7_handOut (k : Nat) (r : Int32) (u : Int32) (a : Int32) (b : Int32) (σ : Sg) : Int32 × Sg :=
  (((σ 7 0 8) + (1 : Int32)) - (1 : Int32), us (us (us (us (us σ 6 k 1 r) 6 k 2 u) 6 k 5 a) 6 k 6 b) 7 0 8 ((σ 7 0 8) + (1 : Int32)))
set_option maxHeartbeats 4000000 in
set_option maxRecDepth 100000 in
theorem c_X7_handOut (l : Launch) (hl9 : l.stackTraces = false) (D : va_G) (ca : Nat → ClassId) (base : Nat) (ad : Adr) (σ : Sg) (k : Nat) (r : Int32) (u : Int32) (a : Int32) (b : Int32) (hk : k < 10) : Mt l yX7_handOut cX7_handOut 6 (some .int) { frames := 0, cells := 0, slots := 0, locals := 0 } D ca base ad ρm Lm [.ref (ad 7 0), .ref (ad 6 k), .int r, .int u, .int a, .int b] σ (some (.int (f_X7_handOut k r u a b σ).1)) (f_X7_handOut k r u a b σ).2 := by
  refine w_ofW (by decide) (Nat.le_of_ble_eq_true rfl) rfl ?_
  intro p e s m args below meth c hC hW hS ls hl hin
  have hx := hC.1
  have hb := hC.2.1
  refine lv_aload_n hx hb dX7_handOut_0 rfl (lv_at hl 1 rfl) ?_
  refine lv_iload_n hx hb dX7_handOut_1 rfl (lv_at hl 2 rfl) ?_
  refine pf_X7_258 hC hW (mm_6 hk) hS dX7_handOut_2 (fun H locs hW hS => ?_)
  refine lv_aload_n hx hb dX7_handOut_5 rfl (lv_at hl 1 rfl) ?_
  refine lv_iload_n hx hb dX7_handOut_6 rfl (lv_at hl 3 rfl) ?_
  refine pf_X7_261 hC hW (mm_6 hk) hS dX7_handOut_7 (fun H locs hW hS => ?_)
  refine lv_aload_n hx hb dX7_handOut_10 rfl (lv_at hl 1 rfl) ?_
  refine lv_iload hx hb dX7_handOut_11 (lv_at hl 4 rfl) ?_
  refine pf_X7_264 hC hW (mm_6 hk) hS dX7_handOut_13 (fun H locs hW hS => ?_)
  refine lv_aload_n hx hb dX7_handOut_16 rfl (lv_at hl 1 rfl) ?_
  refine lv_iload hx hb dX7_handOut_17 (lv_at hl 5 rfl) ?_
  refine pf_X7_233 hC hW (mm_6 hk) hS dX7_handOut_19 (fun H locs hW hS => ?_)
  refine lv_aload_n hx hb dX7_handOut_22 rfl (lv_at hl 0 rfl) ?_
  refine lv_dup hx hb dX7_handOut_23 rfl ?_
  refine gf_X7_246 hC hW m_7 dX7_handOut_24 ?_
  refine lv_eqi (y := σ 7 0 8) (by rw [us_k (by decide), us_k (by decide), us_k (by decide), us_k (by decide)]) ?_
  refine lv_iconst (v := 1) hx hb dX7_handOut_27 (by decide) ?_
  refine lv_iadd hx hb dX7_handOut_28 ?_
  refine pf_X7_246 hC hW m_7 hS dX7_handOut_29 (fun H locs hW hS => ?_)
  refine lv_aload_n hx hb dX7_handOut_32 rfl (lv_at hl 0 rfl) ?_
  refine gf_X7_246 hC hW m_7 dX7_handOut_33 ?_
  refine lv_eqi (y := (σ 7 0 8) + (1 : Int32)) (by rw [us_h]) ?_
  refine lv_iconst (v := 1) hx hb dX7_handOut_36 (by decide) ?_
  refine lv_isub hx hb dX7_handOut_37 ?_
  have hO : f_X7_handOut k r u a b σ = (((σ 7 0 8) + (1 : Int32)) - (1 : Int32), us (us (us (us (us σ 6 k 1 r) 6 k 2 u) 6 k 5 a) 6 k 6 b) 7 0 8 ((σ 7 0 8) + (1 : Int32))) := by rw [f_X7_handOut]
  exact w_iretS hC hW hS hO (Nat.le_of_ble_eq_true rfl) (Nat.le_of_ble_eq_true rfl) dX7_handOut_38
theorem fr_X7_handOut {kk : Nat}  {k : Nat} {r : Int32} {u : Int32} {a : Int32} {b : Int32} {σ : Sg} (h6 : kk ≠ 6) (h7 : kk ≠ 7) : (f_X7_handOut k r u a b σ).2 kk = σ kk := by
  rw [f_X7_handOut]
  repeat' split
  all_goals (first | (simp only [us_kk, ne_eq, not_false_eq_true, h6, h7]; done) | with_reducible rfl | (simp only [us_kk, ne_eq, not_false_eq_true, h6, h7]; with_reducible rfl))

def f_X7_isThereStill_L4 (k : Int32) : Nat → Nat → Int32 → Sg → Int32
  | 0, _, _, _ => 0
  | n4 + 1, k4, v2_4, σ => if 10 ≤ (nI k4) then 1
    else if v2_4 < 0 then 1
    else if (σ 7 0 8) ≤ v2_4 then 1
    else if (σ 6 v2_4.toNatClampNeg 8) = 0 then (if (σ 7 0 9) ≤ (σ 6 v2_4.toNatClampNeg 2) then f_X7_isThereStill_L4 k n4 (k4 + 1) (σ 6 v2_4.toNatClampNeg 7) σ
      else 0)
    else 0
def f_X7_isThereStill (k : Int32) (σ : Sg) : Int32 :=
  f_X7_isThereStill_L4 k 11 0 k σ
set_option maxHeartbeats 4000000 in
set_option maxRecDepth 100000 in
theorem c_X7_isThereStill (l : Launch) (hl9 : l.stackTraces = false) (D : va_G) (ca : Nat → ClassId) (base : Nat) (ad : Adr) (σ : Sg) (k : Int32) (hI : CInv σ) : Mt l yX7_isThereStill cX7_isThereStill 4 (some .boolean) { frames := 0, cells := 0, slots := 0, locals := 0 } D ca base ad ρm Lm [.ref (ad 7 0), .int k] σ (some (.int (f_X7_isThereStill k σ))) σ := by
  refine w_ofW (by decide) (Nat.le_of_ble_eq_true rfl) rfl ?_
  intro p e s m args below meth c hC hW hS ls hl hin
  have hx := hC.1
  have hb := hC.2.1
  refine lv_iload_n hx hb dX7_isThereStill_0 rfl (lv_at hl 1 rfl) ?_
  refine lv_istore_n (lv' := [(2, .int k), (0, .ref (ad 7 0)), (1, .int k)]) hx hb dX7_isThereStill_1 rfl hl (by decide) rfl (fun ls hl => ?_)
  refine lv_iconst (v := 0) hx hb dX7_isThereStill_2 (by decide) ?_
  refine lv_istore_n (lv' := [(3, .int 0), (2, .int k), (0, .ref (ad 7 0)), (1, .int k)]) hx hb dX7_isThereStill_3 rfl hl (by decide) rfl (fun ls hl => ?_)
  have h_4 : ∀ (n4 k4 : Nat) (v2_4 : Int32) (H : Heap) (locs : List Loc) (ls : Array Slot), 11 ≤ k4 + n4 → k4 ≤ 10 → Wd D ca (Ab base) ad ρm Lm σ H → va_S (Ab base) s.heap H locs → lv_has ls 4 [(3, .int (nI k4)), (2, .int v2_4), (0, .ref (ad 7 0))] → f_X7_isThereStill k σ = (f_X7_isThereStill_L4 k n4 k4 v2_4 σ) → W p l e ({ frames := 0, cells := 0, slots := 0, locals := 0 } : Room) s m args below meth c H locs 0 0 (MQ below (Rt D ca base ad ρm Lm σ (some (.int (f_X7_isThereStill k σ)))) args s 0 0 (Ab base)) (F0 m 4 ls []) := by
    intro n4
    induction n4 with
    | zero =>
      intro k4 v2_4 H locs ls hk1_4 hk2_4 hW hS hl hO
      exact absurd hk1_4 (by omega)
    | succ n4 ih_4 =>
      intro k4 v2_4 H locs ls hk1_4 hk2_4 hW hS hl hO
      refine lv_iload_n hx hb dX7_isThereStill_4 rfl (lv_at hl 0 rfl) ?_
      refine lv_aload_n hx hb dX7_isThereStill_5 rfl (lv_at hl 2 rfl) ?_
      refine gf_X7_46 hC hW m_7 rfl dX7_isThereStill_6 ?_
      refine w_alen hC hW m_24 5 (v := 10) rfl rfl rfl dX7_isThereStill_9 ?_
      refine lv_icmp_ge (tgt := 71) hx hb dX7_isThereStill_10 (by decide) (fun c_1 => ?_) (fun c_1 => ?_)
      · refine lv_iconst (v := 1) hx hb dX7_isThereStill_71 (by decide) ?_
        have hO : f_X7_isThereStill k σ = 1 := by rw [hO, f_X7_isThereStill_L4, if_pos c_1]
        exact w_zretP hC hW hS (by decide) hO (Nat.le_of_ble_eq_true rfl) (Nat.le_of_ble_eq_true rfl) dX7_isThereStill_72
      · have hi_c_1 : k4 < 10 := idx_lt c_1 (by decide) (by decide) (by omega)
        refine lv_iload_n hx hb dX7_isThereStill_13 rfl (lv_at hl 1 rfl) ?_
        refine lv_if_lt (tgt := 71) hx hb dX7_isThereStill_14 (by decide) (fun c_2 => ?_) (fun c_2 => ?_)
        · refine lv_iconst (v := 1) hx hb dX7_isThereStill_71 (by decide) ?_
          have hO : f_X7_isThereStill k σ = 1 := by rw [hO, f_X7_isThereStill_L4, if_neg c_1, if_pos c_2]
          exact w_zretP hC hW hS (by decide) hO (Nat.le_of_ble_eq_true rfl) (Nat.le_of_ble_eq_true rfl) dX7_isThereStill_72
        · refine lv_iload_n hx hb dX7_isThereStill_17 rfl (lv_at hl 1 rfl) ?_
          refine lv_aload_n hx hb dX7_isThereStill_18 rfl (lv_at hl 2 rfl) ?_
          refine gf_X7_246 hC hW m_7 dX7_isThereStill_19 ?_
          refine lv_icmp_ge (tgt := 71) hx hb dX7_isThereStill_22 (by decide) (fun c_3 => ?_) (fun c_3 => ?_)
          · refine lv_iconst (v := 1) hx hb dX7_isThereStill_71 (by decide) ?_
            have hO : f_X7_isThereStill k σ = 1 := by rw [hO, f_X7_isThereStill_L4, if_neg c_1, if_neg c_2, if_pos c_3]
            exact w_zretP hC hW hS (by decide) hO (Nat.le_of_ble_eq_true rfl) (Nat.le_of_ble_eq_true rfl) dX7_isThereStill_72
          · refine lv_aload_n hx hb dX7_isThereStill_25 rfl (lv_at hl 2 rfl) ?_
            refine gf_X7_46 hC hW m_7 rfl dX7_isThereStill_26 ?_
            refine lv_iload_n hx hb dX7_isThereStill_29 rfl (lv_at hl 1 rfl) ?_
            have h_4 : vp_in v2_4 10 := (kc_in hI.2.2.2 (by assumption) (by assumption))
            refine w_aald hC hW m_24 5 (n := 10) rfl rfl h_4 (by rfl) dX7_isThereStill_30 ?_
            refine gf_X7_270 hC hW (mm_6 (vp_lt h_4)) dX7_isThereStill_31 ?_
            refine lv_if_ne (tgt := 53) hx hb dX7_isThereStill_34 (by decide) (fun c_5 => ?_) (fun c_5 => ?_)
            · refine lv_iconst (v := 0) hx hb dX7_isThereStill_53 (by decide) ?_
              have hO : f_X7_isThereStill k σ = 0 := by rw [hO, f_X7_isThereStill_L4, if_neg c_1, if_neg c_2, if_neg c_3, if_neg c_5]
              exact w_zretP hC hW hS (by decide) hO (Nat.le_of_ble_eq_true rfl) (Nat.le_of_ble_eq_true rfl) dX7_isThereStill_54
            · refine lv_aload_n hx hb dX7_isThereStill_37 rfl (lv_at hl 2 rfl) ?_
              refine gf_X7_243 hC hW m_7 dX7_isThereStill_38 ?_
              refine lv_aload_n hx hb dX7_isThereStill_41 rfl (lv_at hl 2 rfl) ?_
              refine gf_X7_46 hC hW m_7 rfl dX7_isThereStill_42 ?_
              refine lv_iload_n hx hb dX7_isThereStill_45 rfl (lv_at hl 1 rfl) ?_
              have h_6 : vp_in v2_4 10 := (kc_in hI.2.2.2 (by assumption) (by assumption))
              refine w_aald hC hW m_24 5 (n := 10) rfl rfl h_6 (by rfl) dX7_isThereStill_46 ?_
              refine gf_X7_261 hC hW (mm_6 (vp_lt h_6)) dX7_isThereStill_47 ?_
              refine lv_icmp_le (tgt := 55) hx hb dX7_isThereStill_50 (by decide) (fun c_7 => ?_) (fun c_7 => ?_)
              · refine lv_aload_n hx hb dX7_isThereStill_55 rfl (lv_at hl 2 rfl) ?_
                refine gf_X7_46 hC hW m_7 rfl dX7_isThereStill_56 ?_
                refine lv_iload_n hx hb dX7_isThereStill_59 rfl (lv_at hl 1 rfl) ?_
                have h_8 : vp_in v2_4 10 := (kc_in hI.2.2.2 (by assumption) (by assumption))
                refine w_aald hC hW m_24 5 (n := 10) rfl rfl h_8 (by rfl) dX7_isThereStill_60 ?_
                refine gf_X7_251 hC hW (mm_6 (vp_lt h_8)) dX7_isThereStill_61 ?_
                refine lv_istore_n (lv' := [(2, .int (σ 6 v2_4.toNatClampNeg 7)), (3, .int (nI k4)), (0, .ref (ad 7 0))]) hx hb dX7_isThereStill_64 rfl hl (by decide) rfl (fun ls hl => ?_)
                refine lv_iinc (v := nI (k4 + 1)) (lv' := [(3, .int (nI (k4 + 1))), (2, .int (σ 6 v2_4.toNatClampNeg 7)), (0, .ref (ad 7 0))]) hx hb dX7_isThereStill_65 hl (k := 1) rfl (nI_1 _) (by decide) rfl (fun ls hl => ?_)
                refine lv_goto (tgt := 4) hx hb dX7_isThereStill_68 (by decide) ?_
                refine ih_4 (k4 + 1) (σ 6 v2_4.toNatClampNeg 7) _ _ _ (by omega) (by omega)  hW hS (lv_sub hl [0, 1, 2] rfl) ?_
                rw [hO, f_X7_isThereStill_L4, if_neg c_1, if_neg c_2, if_neg c_3, if_pos c_5, if_pos c_7]
              · refine lv_iconst (v := 0) hx hb dX7_isThereStill_53 (by decide) ?_
                have hO : f_X7_isThereStill k σ = 0 := by rw [hO, f_X7_isThereStill_L4, if_neg c_1, if_neg c_2, if_neg c_3, if_pos c_5, if_neg c_7]
                exact w_zretP hC hW hS (by decide) hO (Nat.le_of_ble_eq_true rfl) (Nat.le_of_ble_eq_true rfl) dX7_isThereStill_54
  refine h_4 11 0 k _ _ _ (by omega) (by omega)  hW hS (lv_sub hl [0, 1, 2] rfl) ?_
  rw [f_X7_isThereStill]

def f_X7_judgeToken (i : Nat) (k : Int32) (r : Int32) (σ : Sg) : Int32 × Sg :=
  if ((σ 6 k.toNatClampNeg 1) &&& r) = 0 then (5, σ)
  else if (f_X7_isThereStill k σ) = 0 then (5, σ)
  else (f_X7_judge 8 ((σ 6 k.toNatClampNeg 0).toNatClampNeg) r (us (us (us (s_X0_copyFrom 8 i σ) 0 8 0 (σ 6 k.toNatClampNeg 3)) 0 8 1 (σ 6 k.toNatClampNeg 4)) 0 8 4 0), us (us (us (s_X0_copyFrom 8 i σ) 0 8 0 (σ 6 k.toNatClampNeg 3)) 0 8 1 (σ 6 k.toNatClampNeg 4)) 0 8 4 0)
set_option maxHeartbeats 4000000 in
set_option maxRecDepth 100000 in
theorem c_X7_judgeToken (l : Launch) (hl9 : l.stackTraces = false) (D : va_G) (ca : Nat → ClassId) (base : Nat) (ad : Adr) (σ : Sg) (i : Nat) (k : Int32) (r : Int32) (hI : CInv σ) (hi : i < 12) (hT : e_X7_needToken k σ = none) (hU : e_X7_needThing (σ 6 k.toNatClampNeg 0) σ = none) : Mt l yX7_judgeToken cX7_judgeToken 6 (some .int) { frames := 8, cells := 2, slots := 12, locals := 142 } D ca base ad ρm Lm [.ref (ad 7 0), .ref (ad 0 i), .int k, .int r] σ (some (.int (f_X7_judgeToken i k r σ).1)) (f_X7_judgeToken i k r σ).2 := by
  refine w_ofW (by decide) (Nat.le_of_ble_eq_true rfl) rfl ?_
  intro p e s m args below meth c hC hW hS ls hl hin
  have hx := hC.1
  have hb := hC.2.1
  refine lv_aload_n hx hb dX7_judgeToken_0 rfl (lv_at hl 0 rfl) ?_
  refine lv_iload_n hx hb dX7_judgeToken_1 rfl (lv_at hl 2 rfl) ?_
  refine w_callVX (As := [.int k]) (rest := []) (st2 := .ref (ad 6 k.toNatClampNeg) :: []) hC hW hS hl cv_X7_229 m_7 (by decide) rfl (c_X7_needToken l hl9 D ca base ad σ k (by first | assumption | decide | omega)) rfl rfl rfl ⟨Nat.le_of_ble_eq_true rfl, Nat.le_of_ble_eq_true rfl⟩ (Nat.le_of_ble_eq_true rfl) dX7_judgeToken_2 ⟨Nat.le_of_ble_eq_true rfl, Nat.le_of_ble_eq_true rfl⟩ (fun E ce q9 H locs e_1 hW hS hce hcv hcl => ?_) (fun e_1 H locs hW hS => ?_)
  · exact absurd e_1 (by rw [hT]; exact fun q => nomatch q)
  have hv_2 : vp_in k 10 := nk_in hI e_1
  refine lv_astore (lv' := [(4, .ref (ad 6 k.toNatClampNeg)), (0, .ref (ad 7 0)), (1, .ref (ad 0 i)), (2, .int k), (3, .int r)]) hx hb dX7_judgeToken_5 hl (by decide) rfl (fun ls hl => ?_)
  refine lv_aload hx hb dX7_judgeToken_7 (lv_at hl 0 rfl) ?_
  refine gf_X7_258 hC hW (mm_6 (vp_lt hv_2)) dX7_judgeToken_9 ?_
  refine lv_iload_n hx hb dX7_judgeToken_12 rfl (lv_at hl 4 rfl) ?_
  refine lv_iand hx hb dX7_judgeToken_13 ?_
  refine lv_if_eq (tgt := 25) hx hb dX7_judgeToken_14 (by decide) (fun c_3 => ?_) (fun c_3 => ?_)
  · refine lv_iconst (v := 5) hx hb dX7_judgeToken_25 (by decide) ?_
    have hO : f_X7_judgeToken i k r σ = (5, σ) := by rw [f_X7_judgeToken, if_pos c_3]
    exact w_iretS hC hW hS hO (Nat.le_of_ble_eq_true rfl) (Nat.le_of_ble_eq_true rfl) dX7_judgeToken_26
  · refine lv_aload_n hx hb dX7_judgeToken_17 rfl (lv_at hl 1 rfl) ?_
    refine lv_iload_n hx hb dX7_judgeToken_18 rfl (lv_at hl 3 rfl) ?_
    refine w_callV (As := [.int k]) (rest := []) (st2 := .int (f_X7_isThereStill k σ) :: []) hC hW hS hl cv_X7_267 m_7 (by decide) rfl (c_X7_isThereStill l hl9 D ca base ad σ k (by first | assumption | decide | omega)) rfl rfl rfl ⟨Nat.le_of_ble_eq_true rfl, Nat.le_of_ble_eq_true rfl⟩ (Nat.le_of_ble_eq_true rfl) dX7_judgeToken_19 ⟨Nat.le_of_ble_eq_true rfl, Nat.le_of_ble_eq_true rfl⟩ (fun H locs hW hS => ?_)
    refine lv_if_ne (tgt := 27) hx hb dX7_judgeToken_22 (by decide) (fun c_4 => ?_) (fun c_4 => ?_)
    · refine lv_aload_n hx hb dX7_judgeToken_27 rfl (lv_at hl 1 rfl) ?_
      refine gf_X7_51 hC hW m_7 rfl dX7_judgeToken_28 ?_
      refine lv_iconst (v := 0) hx hb dX7_judgeToken_31 (by decide) ?_
      have h_5 : vp_in (0 : Int32) 4 := (vp_lit (by decide))
      refine w_aald hC hW m_25 4 (n := 4) rfl rfl h_5 (by rfl) dX7_judgeToken_32 ?_
      refine W.eq (g2 := F0 m 33 ls (.ref (ad 0 8) :: [])) rfl ?_
      refine lv_astore (lv' := [(5, .ref (ad 0 8)), (4, .ref (ad 6 k.toNatClampNeg)), (0, .ref (ad 7 0)), (1, .ref (ad 0 i)), (2, .int k), (3, .int r)]) hx hb dX7_judgeToken_33 hl (by decide) rfl (fun ls hl => ?_)
      refine lv_aload hx hb dX7_judgeToken_35 (lv_at hl 0 rfl) ?_
      refine lv_aload_n hx hb dX7_judgeToken_37 rfl (lv_at hl 3 rfl) ?_
      refine w_callV (As := [.ref (ad 0 i)]) (rest := []) (st2 := []) hC hW hS hl cv_X7_301 (mm_0 (by decide)) (by decide) rfl (c_X0_copyFrom l hl9 D ca base ad σ 8 i (by decide) hi) rfl rfl rfl ⟨Nat.le_of_ble_eq_true rfl, Nat.le_of_ble_eq_true rfl⟩ (Nat.le_of_ble_eq_true rfl) dX7_judgeToken_38 ⟨Nat.le_of_ble_eq_true rfl, Nat.le_of_ble_eq_true rfl⟩ (fun H locs hW hS => ?_)
      refine lv_aload hx hb dX7_judgeToken_41 (lv_at hl 0 rfl) ?_
      refine lv_aload hx hb dX7_judgeToken_43 (lv_at hl 1 rfl) ?_
      refine gf_X7_249 hC hW (mm_6 (vp_lt hv_2)) dX7_judgeToken_45 ?_
      refine lv_eqi (y := σ 6 k.toNatClampNeg 3) (by rw [fr_X0_copyFrom (by decide) (by decide)]) ?_
      refine pf_X7_192 hC hW (mm_0 (by decide)) hS dX7_judgeToken_48 (fun H locs hW hS => ?_)
      refine lv_aload hx hb dX7_judgeToken_51 (lv_at hl 0 rfl) ?_
      refine lv_aload hx hb dX7_judgeToken_53 (lv_at hl 1 rfl) ?_
      refine gf_X7_250 hC hW (mm_6 (vp_lt hv_2)) dX7_judgeToken_55 ?_
      refine lv_eqi (y := σ 6 k.toNatClampNeg 4) (by rw [us_k (by decide), fr_X0_copyFrom (by decide) (by decide)]) ?_
      refine pf_X7_195 hC hW (mm_0 (by decide)) hS dX7_judgeToken_58 (fun H locs hW hS => ?_)
      refine lv_aload hx hb dX7_judgeToken_61 (lv_at hl 0 rfl) ?_
      refine lv_iconst (v := 0) hx hb dX7_judgeToken_63 (by decide) ?_
      refine pf_X7_198 hC hW (mm_0 (by decide)) hS dX7_judgeToken_64 (fun H locs hW hS => ?_)
      refine lv_aload_n hx hb dX7_judgeToken_67 rfl (lv_at hl 2 rfl) ?_
      refine lv_aload hx hb dX7_judgeToken_68 (lv_at hl 0 rfl) ?_
      refine lv_aload_n hx hb dX7_judgeToken_70 rfl (lv_at hl 2 rfl) ?_
      refine lv_aload hx hb dX7_judgeToken_71 (lv_at hl 1 rfl) ?_
      refine gf_X7_240 hC hW (mm_6 (vp_lt hv_2)) dX7_judgeToken_73 ?_
      refine lv_eqi (y := σ 6 k.toNatClampNeg 0) (by rw [us_k (by decide), us_k (by decide), us_k (by decide), fr_X0_copyFrom (by decide) (by decide)]) ?_
      refine w_callVX (As := [.int (σ 6 k.toNatClampNeg 0)]) (rest := .ref (ad 0 8) :: .ref (ad 7 0) :: []) (st2 := .ref (ad 5 ((σ 6 k.toNatClampNeg 0).toNatClampNeg)) :: .ref (ad 0 8) :: .ref (ad 7 0) :: []) hC hW hS hl cv_X7_103 m_7 (by decide) rfl (c_X7_needThing l hl9 D ca base ad (us (us (us (s_X0_copyFrom 8 i σ) 0 8 0 (σ 6 k.toNatClampNeg 3)) 0 8 1 (σ 6 k.toNatClampNeg 4)) 0 8 4 0) (σ 6 k.toNatClampNeg 0) (ci_fr hI (by rw [us_kk (by decide), us_kk (by decide), us_kk (by decide), fr_X0_copyFrom (by decide) (by decide)]) (by rw [us_kk (by decide), us_kk (by decide), us_kk (by decide), fr_X0_copyFrom (by decide) (by decide)]))) rfl rfl rfl ⟨Nat.le_of_ble_eq_true rfl, Nat.le_of_ble_eq_true rfl⟩ (Nat.le_of_ble_eq_true rfl) dX7_judgeToken_76 ⟨Nat.le_of_ble_eq_true rfl, Nat.le_of_ble_eq_true rfl⟩ (fun E ce q9 H locs e_6 hW hS hce hcv hcl => ?_) (fun e_6 H locs hW hS => ?_)
      · exact absurd e_6 (by rw [nt_in_fr hU (by rw [us_kk (by decide), us_kk (by decide), us_kk (by decide), fr_X0_copyFrom (by decide) (by decide)])]; exact fun q => nomatch q)
      have hv_7 : vp_in (σ 6 k.toNatClampNeg 0) 12 := nt_in (ci_fr hI (by rw [us_kk (by decide), us_kk (by decide), us_kk (by decide), fr_X0_copyFrom (by decide) (by decide)]) (by rw [us_kk (by decide), us_kk (by decide), us_kk (by decide), fr_X0_copyFrom (by decide) (by decide)])) e_6
      refine lv_iload_n hx hb dX7_judgeToken_79 rfl (lv_at hl 5 rfl) ?_
      refine w_callV (As := [.ref (ad 0 8), .ref (ad 5 ((σ 6 k.toNatClampNeg 0).toNatClampNeg)), .int r]) (rest := []) (st2 := .int (f_X7_judge 8 ((σ 6 k.toNatClampNeg 0).toNatClampNeg) r (us (us (us (s_X0_copyFrom 8 i σ) 0 8 0 (σ 6 k.toNatClampNeg 3)) 0 8 1 (σ 6 k.toNatClampNeg 4)) 0 8 4 0)) :: []) hC hW hS hl cv_X7_217 m_7 (by decide) rfl (c_X7_judge l hl9 D ca base ad (us (us (us (s_X0_copyFrom 8 i σ) 0 8 0 (σ 6 k.toNatClampNeg 3)) 0 8 1 (σ 6 k.toNatClampNeg 4)) 0 8 4 0) 8 ((σ 6 k.toNatClampNeg 0).toNatClampNeg) r (by decide) (Nat.lt_trans (vp_lt hv_7) (by decide))) rfl rfl rfl ⟨Nat.le_of_ble_eq_true rfl, Nat.le_of_ble_eq_true rfl⟩ (Nat.le_of_ble_eq_true rfl) dX7_judgeToken_80 ⟨Nat.le_of_ble_eq_true rfl, Nat.le_of_ble_eq_true rfl⟩ (fun H locs hW hS => ?_)
      have hO : f_X7_judgeToken i k r σ = (f_X7_judge 8 ((σ 6 k.toNatClampNeg 0).toNatClampNeg) r (us (us (us (s_X0_copyFrom 8 i σ) 0 8 0 (σ 6 k.toNatClampNeg 3)) 0 8 1 (σ 6 k.toNatClampNeg 4)) 0 8 4 0), us (us (us (s_X0_copyFrom 8 i σ) 0 8 0 (σ 6 k.toNatClampNeg 3)) 0 8 1 (σ 6 k.toNatClampNeg 4)) 0 8 4 0) := by rw [f_X7_judgeToken, if_neg c_3, if_neg c_4]
      exact w_iretS hC hW hS hO (Nat.le_of_ble_eq_true rfl) (Nat.le_of_ble_eq_true rfl) dX7_judgeToken_83
    · refine lv_iconst (v := 5) hx hb dX7_judgeToken_25 (by decide) ?_
      have hO : f_X7_judgeToken i k r σ = (5, σ) := by rw [f_X7_judgeToken, if_neg c_3, if_pos c_4]
      exact w_iretS hC hW hS hO (Nat.le_of_ble_eq_true rfl) (Nat.le_of_ble_eq_true rfl) dX7_judgeToken_26
theorem fr_X7_judgeToken {kk : Nat}  {i : Nat} {k : Int32} {r : Int32} {σ : Sg} (h0 : kk ≠ 0) (h10 : kk ≠ 10) : (f_X7_judgeToken i k r σ).2 kk = σ kk := by
  rw [f_X7_judgeToken]
  repeat' split
  all_goals (first | (simp only [us_kk, ne_eq, not_false_eq_true, h0, h10, fr_X0_copyFrom]; done) | with_reducible rfl | (simp only [us_kk, ne_eq, not_false_eq_true, h0, h10, fr_X0_copyFrom]; with_reducible rfl))
