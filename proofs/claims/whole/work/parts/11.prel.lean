theorem us_k {σ : Sg} {k i j k' i' j' : Nat} {v : Int32} (h : k' ≠ k) : us σ k i j v k' i' j' = σ k' i' j' := if_neg fun q => h q.1
theorem us_j {σ : Sg} {k i j k' i' j' : Nat} {v : Int32} (h : j' ≠ j) : us σ k i j v k' i' j' = σ k' i' j' := if_neg fun q => h q.2.2
theorem us_i {σ : Sg} {k i j k' i' j' : Nat} {v : Int32} (h : i' ≠ i) : us σ k i j v k' i' j' = σ k' i' j' := if_neg fun q => h q.2.1
theorem us_kk {σ : Sg} {k i j kk : Nat} {v : Int32} (h : kk ≠ k) : us σ k i j v kk = σ kk := by
  funext i' j'
  exact us_k h
theorem us_h {σ : Sg} {k i j : Nat} {v : Int32} : us σ k i j v k i j = v := if_pos ⟨rfl, rfl, rfl⟩
def nd (er : Option String) (o : Option String × Int32 × Sg) : Option String × Int32 × Sg := match er with
  | some E => (some E, o.2)
  | none => o
theorem nd_none (o : Option String × Int32 × Sg) : nd none o = o := rfl
theorem nd_some (E : String) (o : Option String × Int32 × Sg) : (nd (some E) o).1 = some E := rfl
theorem nd_2 (er : Option String) (o : Option String × Int32 × Sg) : (nd er o).2 = o.2 := by cases er <;> rfl
theorem vp_lit {x : Int32} {n : Nat} (h : ¬ (x < 0 ∨ n ≤ x.toNatClampNeg)) : vp_in x n := h
theorem vp_lt {x : Int32} {n : Nat} (h : vp_in x n) : x.toNatClampNeg < n := Nat.not_le.mp fun q => h (Or.inr q)
theorem vp_lt8 {x : Int32} (h : vp_in x 4) : 8 + x.toNatClampNeg < 12 := by have := vp_lt h; omega
theorem lv_eqi {p : Program} {l : Launch} {e : Env} {R : Room} {s : State} {m : MethodId} {args : Array Value} {below : List Frame} {meth : Method} {c : Code} {H : Heap} {locs : List Loc} {cells slots : Nat} {Q : State → Prop} {pc : Nat} {ls : Array Slot} {rest : List Value} {x y : Int32} (h : x = y) (k : W p l e R s m args below meth c H locs cells slots Q (F0 m pc ls (.int y :: rest))) : W p l e R s m args below meth c H locs cells slots Q (F0 m pc ls (.int x :: rest)) := h ▸ k
theorem idx_lt {y : Int32} {k C : Nat} (h : ¬ y ≤ nI k) (hy : y = nI C) (hC : C < 2 ^ 31) (hk : k < 2 ^ 31) : k < C := by
  rcases Nat.lt_or_ge k C with q | q
  · exact q
  · exact absurd (by rw [hy]; exact nI_le q hk) h
theorem idx_lt2 {y : Int32} {k C : Nat} (h : ¬ y < nI k) (hy : y + 1 = nI C) (hC : C < 2 ^ 31 ∧ 0 < C) (hk : k < 2 ^ 31) : k < C := by
  rcases Nat.lt_or_ge k C with q | q
  · exact q
  · refine absurd ?_ h
    obtain ⟨c0, rfl⟩ : ∃ c0, C = c0 + 1 := ⟨C - 1, by omega⟩
    have e : y = nI c0 := by
      rw [nI_succ] at hy
      have := congrArg (· - 1) hy
      simpa using this
    rw [e]
    exact nI_lt (by omega) hk
theorem idx_lt3 {y : Int32} {k C : Nat} (h : nI k < y) (hy : y = nI C) (hC : C < 2 ^ 31) (hk : k < 2 ^ 31) : k < C := by
  rcases Nat.lt_or_ge k C with q | q
  · exact q
  · exact absurd h (by rw [hy]; exact nI_nlt q hk)
theorem vp_in_c {x y : Int32} {n : Nat} (hy : y = nI n) (hn : n < 2 ^ 31) (h1 : ¬ x < 0) (h2 : ¬ y ≤ x) : vp_in x n := by
  obtain ⟨j, hj, rfl⟩ := nI_of h1
  rcases Nat.lt_or_ge j n with q | q
  · exact vp_in_nI q hn
  · exact absurd (by rw [hy]; exact nI_le q hj) h2
theorem vp_in_d {x y : Int32} {n : Nat} (hy : y = nI n) (hn : n < 2 ^ 31) (h1 : ¬ x < 0) (h2 : x < y) : vp_in x n := vp_in_c hy hn h1 (Int32.not_le.mpr h2)
theorem cl_add {y : Int32} {a k : Nat} (hy : y = nI a) (h : a + k < 2 ^ 31) : (y + nI k).toNatClampNeg = a + k := by rw [hy, nI_add, nI_clamp h]
theorem fl0 {α : Type} (a b : α) : (if (0 : Int32) = 1 then a else b) = b := rfl
theorem fl1 {α : Type} (a b : α) : (if (1 : Int32) = 1 then a else b) = a := rfl
theorem nI_self {x : Int32} {n : Nat} (h : vp_in x n) : x = nI x.toNatClampNeg := by
  obtain ⟨j, hj, rfl⟩ := nI_of (fun q => h (Or.inl q))
  rw [nI_clamp hj]
theorem cl_addr {y : Int32} {a k : Nat} (hy : y = nI a) (h : k + a < 2 ^ 31) : (nI k + y).toNatClampNeg = k + a := by rw [hy, nI_add, nI_clamp h]
theorem vp_in_addr {y : Int32} {a k n : Nat} (hy : y = nI a) (h : k + a < n) (hn : n < 2 ^ 31) : vp_in (nI k + y) n := by rw [hy, nI_add]; exact vp_in_nI h hn
theorem vp_in_add {y : Int32} {a k n : Nat} (hy : y = nI a) (h : a + k < n) (hn : n < 2 ^ 31) : vp_in (y + nI k) n := by rw [hy, nI_add]; exact vp_in_nI h hn
theorem idx_lt4 {y : Int32} {k C b : Nat} (h : ¬ y ≤ nI k) (hy : y = nI b) (hb : b ≤ C) (hC : C < 2 ^ 31) (hk : k ≤ C) : k < C := by
  rcases Nat.lt_or_ge k b with q | q
  · omega
  · exact absurd (by rw [hy]; exact nI_le q (by omega)) h
theorem vp_sub3 {x : Int32} (h1 : ¬ x < 3) (h2 : ¬ 12 ≤ x - 3) : vp_in (x - 3) 12 := by
  obtain ⟨j, hj, rfl⟩ := nI_of (x := x) (fun q => h1 (Int32.lt_trans q (by decide)))
  have h3 : 3 ≤ j := by
    rcases Nat.lt_or_ge j 3 with q | q
    · exact absurd (nI_lt q (by decide)) h1
    · exact q
  have e : nI j - 3 = nI (j - 3) := pk_sub h3
  rw [e] at h2 ⊢
  rcases Nat.lt_or_ge (j - 3) 12 with q | q
  · exact vp_in_nI q (by decide)
  · exact absurd (nI_le q (by omega)) h2
def ndN (er o : Option String) : Option String := match er with
  | some E => some E
  | none => o
theorem ndN_none (o : Option String) : ndN none o = o := rfl
theorem ndN_some (E : String) (o : Option String) : ndN (some E) o = some E := rfl

section WN
variable {p : Program} {l : Launch} {e : Env} {R : Room} {s : State} {m : MethodId} {args : Array Value} {below : List Frame} {meth : Method} {c : Code} {H : Heap} {locs : List Loc} {cells slots : Nat}
variable {cc : ByteArray} {nL : Nat} {pc : Nat} {ls : Array Slot} {own : String} {ret : Option FieldType} {D : va_G} {ca : Nat → ClassId} {base : Nat} {ad : Adr} {ρ : Rh} {L : List (Nat × Nat)} {σ σ2 : Sg} {mc ms : Nat} {v : Int32}
theorem w_iretP {o : Int32} (hC : Cx p s m args meth c cc nL own (some .int) D ca base) (hW : Wd D ca (Ab base) ad ρ L σ2 H) (hS : va_S (Ab base) s.heap H locs) (hO : o = v) (hc : cells ≤ mc) (hs : slots ≤ ms) (hdg : decode cc pc = .ok (.ireturn, 1)) : W p l e R s m args below meth c H locs cells slots (MQ below (Rt D ca base ad ρ L σ2 (some (.int o))) args s mc ms (Ab base)) (F0 m pc ls [.int v]) := w_iret hC hW hS (by rw [hO]) hc hs hdg
theorem w_zretP {o : Int32} (hC : Cx p s m args meth c cc nL own (some .boolean) D ca base) (hW : Wd D ca (Ab base) ad ρ L σ2 H) (hS : va_S (Ab base) s.heap H locs) (hv : v &&& 1 = v) (hO : o = v) (hc : cells ≤ mc) (hs : slots ≤ ms) (hdg : decode cc pc = .ok (.ireturn, 1)) : W p l e R s m args below meth c H locs cells slots (MQ below (Rt D ca base ad ρ L σ2 (some (.int o))) args s mc ms (Ab base)) (F0 m pc ls [.int v]) := w_zret hC hW hS hv (by rw [hO]) hc hs hdg
theorem w_iretS {o : Int32 × Sg} (hC : Cx p s m args meth c cc nL own (some .int) D ca base) (hW : Wd D ca (Ab base) ad ρ L σ2 H) (hS : va_S (Ab base) s.heap H locs) (hO : o = (v, σ2)) (hc : cells ≤ mc) (hs : slots ≤ ms) (hdg : decode cc pc = .ok (.ireturn, 1)) : W p l e R s m args below meth c H locs cells slots (MQ below (Rt D ca base ad ρ L o.2 (some (.int o.1))) args s mc ms (Ab base)) (F0 m pc ls [.int v]) := by
  subst hO
  exact w_iret hC hW hS rfl hc hs hdg
theorem w_zretS {o : Int32 × Sg} (hC : Cx p s m args meth c cc nL own (some .boolean) D ca base) (hW : Wd D ca (Ab base) ad ρ L σ2 H) (hS : va_S (Ab base) s.heap H locs) (hv : v &&& 1 = v) (hO : o = (v, σ2)) (hc : cells ≤ mc) (hs : slots ≤ ms) (hdg : decode cc pc = .ok (.ireturn, 1)) : W p l e R s m args below meth c H locs cells slots (MQ below (Rt D ca base ad ρ L o.2 (some (.int o.1))) args s mc ms (Ab base)) (F0 m pc ls [.int v]) := by
  subst hO
  exact w_zret hC hW hS hv rfl hc hs hdg
theorem w_vretS {o : Int32 × Sg} (hC : Cx p s m args meth c cc nL own none D ca base) (hW : Wd D ca (Ab base) ad ρ L σ2 H) (hS : va_S (Ab base) s.heap H locs) (hO : o = (v, σ2)) (hc : cells ≤ mc) (hs : slots ≤ ms) (hdg : decode cc pc = .ok (.return_, 1)) : W p l e R s m args below meth c H locs cells slots (MQ below (Rt D ca base ad ρ L o.2 none) args s mc ms (Ab base)) (F0 m pc ls []) := by
  subst hO
  exact w_vret hC hW hS rfl hc hs hdg
theorem w_vretV {o : Sg} (hC : Cx p s m args meth c cc nL own none D ca base) (hW : Wd D ca (Ab base) ad ρ L σ2 H) (hS : va_S (Ab base) s.heap H locs) (hO : o = σ2) (hc : cells ≤ mc) (hs : slots ≤ ms) (hdg : decode cc pc = .ok (.return_, 1)) : W p l e R s m args below meth c H locs cells slots (MQ below (Rt D ca base ad ρ L o none) args s mc ms (Ab base)) (F0 m pc ls []) := by
  subst hO
  exact w_vret hC hW hS rfl hc hs hdg
theorem w_iretZ {o : Option String × Int32 × Sg} (hC : Cx p s m args meth c cc nL own (some .int) D ca base) (hW : Wd D ca (Ab base) ad ρ L σ2 H) (hS : va_S (Ab base) s.heap H locs) (hO : o = (none, v, σ2)) (hc : cells ≤ mc) (hs : slots ≤ ms) (hdg : decode cc pc = .ok (.ireturn, 1)) : W p l e R s m args below meth c H locs cells slots (vx_MQ below (fun a st oc t => o.1 = none ∧ Rt D ca base ad ρ L o.2.2 (some (.int o.2.1)) a st oc t) (fun E st t => (o.1 = some E ∧ Wd D ca (Ab base) ad ρ L σ t.heap) ∧ va_F (Ab base) st t) args s mc ms (Ab base)) (F0 m pc ls [.int v]) := by
  subst hO
  exact w_iretX hC hW hS rfl rfl hc hs hdg
theorem w_zretZ {o : Option String × Int32 × Sg} (hC : Cx p s m args meth c cc nL own (some .boolean) D ca base) (hW : Wd D ca (Ab base) ad ρ L σ2 H) (hS : va_S (Ab base) s.heap H locs) (hv : v &&& 1 = v) (hO : o = (none, v, σ2)) (hc : cells ≤ mc) (hs : slots ≤ ms) (hdg : decode cc pc = .ok (.ireturn, 1)) : W p l e R s m args below meth c H locs cells slots (vx_MQ below (fun a st oc t => o.1 = none ∧ Rt D ca base ad ρ L o.2.2 (some (.int o.2.1)) a st oc t) (fun E st t => (o.1 = some E ∧ Wd D ca (Ab base) ad ρ L σ t.heap) ∧ va_F (Ab base) st t) args s mc ms (Ab base)) (F0 m pc ls [.int v]) := by
  subst hO
  exact w_zretX hC hW hS hv rfl rfl hc hs hdg
theorem w_vretZ {o : Option String × Int32 × Sg} (hC : Cx p s m args meth c cc nL own none D ca base) (hW : Wd D ca (Ab base) ad ρ L σ2 H) (hS : va_S (Ab base) s.heap H locs) (hO : o = (none, v, σ2)) (hc : cells ≤ mc) (hs : slots ≤ ms) (hdg : decode cc pc = .ok (.return_, 1)) : W p l e R s m args below meth c H locs cells slots (vx_MQ below (fun a st oc t => o.1 = none ∧ Rt D ca base ad ρ L o.2.2 none a st oc t) (fun E st t => (o.1 = some E ∧ Wd D ca (Ab base) ad ρ L σ t.heap) ∧ va_F (Ab base) st t) args s mc ms (Ab base)) (F0 m pc ls []) := by
  subst hO
  exact w_vretX hC hW hS rfl rfl hc hs hdg
end WN

theorem mm_0 {i : Nat} (h : i < 12) : (0, i) ∈ Lm := by
  have h9 : ∀ i, i < 12 → (0, i) ∈ Lm := by decide
  exact h9 i h
theorem m_1 : (1, 0) ∈ Lm := by decide
theorem m_2 : (2, 0) ∈ Lm := by decide
theorem m_3 : (3, 0) ∈ Lm := by decide
theorem m_4 : (4, 0) ∈ Lm := by decide
theorem mm_5 {i : Nat} (h : i < 13) : (5, i) ∈ Lm := by
  have h9 : ∀ i, i < 13 → (5, i) ∈ Lm := by decide
  exact h9 i h
theorem mm_6 {i : Nat} (h : i < 10) : (6, i) ∈ Lm := by
  have h9 : ∀ i, i < 10 → (6, i) ∈ Lm := by decide
  exact h9 i h
theorem m_7 : (7, 0) ∈ Lm := by decide
theorem m_8 : (8, 0) ∈ Lm := by decide
theorem mm_10 {i : Nat} (h : i < 12) : (10, i) ∈ Lm := by
  have h9 : ∀ i, i < 12 → (10, i) ∈ Lm := by decide
  exact h9 i h
theorem m_11 : (11, 0) ∈ Lm := by decide
theorem m_12 : (12, 0) ∈ Lm := by decide
theorem m_13 : (13, 0) ∈ Lm := by decide
theorem m_14 : (14, 0) ∈ Lm := by decide
theorem m_15 : (15, 0) ∈ Lm := by decide
theorem m_16 : (16, 0) ∈ Lm := by decide
theorem m_17 : (17, 0) ∈ Lm := by decide
theorem m_18 : (18, 0) ∈ Lm := by decide
theorem m_19 : (19, 0) ∈ Lm := by decide
theorem mm_20 {i : Nat} (h : i < 13) : (20, i) ∈ Lm := by
  have h9 : ∀ i, i < 13 → (20, i) ∈ Lm := by decide
  exact h9 i h
theorem m_21 : (21, 0) ∈ Lm := by decide
theorem m_22 : (22, 0) ∈ Lm := by decide
theorem m_23 : (23, 0) ∈ Lm := by decide
theorem m_24 : (24, 0) ∈ Lm := by decide
theorem m_25 : (25, 0) ∈ Lm := by decide
theorem m_31 : (31, 0) ∈ Lm := by decide
theorem m_32 : (32, 0) ∈ Lm := by decide
theorem m_34 : (34, 0) ∈ Lm := by decide
theorem m_35 : (35, 0) ∈ Lm := by decide
theorem m_36 : (36, 0) ∈ Lm := by decide
theorem m_37 : (37, 0) ∈ Lm := by decide
theorem m_38 : (38, 0) ∈ Lm := by decide
theorem m_39 : (39, 0) ∈ Lm := by decide
theorem m_40 : (40, 0) ∈ Lm := by decide
theorem m_41 : (41, 0) ∈ Lm := by decide
theorem m_42 : (42, 0) ∈ Lm := by decide
theorem m_43 : (43, 0) ∈ Lm := by decide
theorem m_44 : (44, 0) ∈ Lm := by decide
theorem m_45 : (45, 0) ∈ Lm := by decide
theorem m_46 : (46, 0) ∈ Lm := by decide
theorem m_47 : (47, 0) ∈ Lm := by decide
theorem m_49 : (49, 0) ∈ Lm := by decide
theorem m_50 : (50, 0) ∈ Lm := by decide
theorem m_51 : (51, 0) ∈ Lm := by decide
theorem m_52 : (52, 0) ∈ Lm := by decide
theorem m_53 : (53, 0) ∈ Lm := by decide
theorem m_54 : (54, 0) ∈ Lm := by decide
theorem m_55 : (55, 0) ∈ Lm := by decide
theorem m_56 : (56, 0) ∈ Lm := by decide
theorem m_58 : (58, 0) ∈ Lm := by decide
theorem m_59 : (59, 0) ∈ Lm := by decide
theorem m_60 : (60, 0) ∈ Lm := by decide
theorem m_61 : (61, 0) ∈ Lm := by decide
theorem m_62 : (62, 0) ∈ Lm := by decide
theorem m_63 : (63, 0) ∈ Lm := by decide
theorem m_64 : (64, 0) ∈ Lm := by decide
theorem m_65 : (65, 0) ∈ Lm := by decide
theorem m_66 : (66, 0) ∈ Lm := by decide
theorem m_73 : (73, 0) ∈ Lm := by decide
theorem m_77 : (77, 0) ∈ Lm := by decide
theorem m_90 : (90, 0) ∈ Lm := by decide
