/-! THE CLAIM OUT OF ONE WALK OF THE LAW'S BODY. Your part is whole_start (and what it stands on); all else here is the same for every law, but numbers. -/
def R_law : String := "AuditgateReeveLaw"
def lw_P (b : Addr) (xs : List Int32) (args : Array Value) (s : State) : Prop := args = #[.ref b] ∧ s.IntsAt b xs ∧ xs.length ≤ 3584 ∧ (Jvm.Cond.and given_1 narrow_1).before args s = true
def lw_Q (_ : Array Value) (s : State) (o : Outcome) (t : State) : Prop := o = .returned (some (.int 1)) ∧ Framed s o t [] 601024 7293034
def lw_Z (below : List Frame) (a : Array Value) (s : State) : State → Prop := fun t => ∃ o, t.status = .running ∧ Ended t below o ∧ lw_Q a s o t
/-- the law's own end, with 1 on the stack, nothing written that was there before, its room as the claim has it -/
theorem lw_ret {p : Program} {l : Launch} {e : Env} {s : State} {m : MethodId} {below : List Frame} {meth : Method} {c : Code} {b : Nat} (hx : p.tables.exec = Jvm.exec) (hb : c.code = code) (hr : meth.sig.returnType = ret) (hlocks : meth.locks = false) {pc : Nat} {H : Heap} {ls : Array Slot} (hdg : decode code pc = .ok (.ireturn, 1)) : W p l e room_1 s m #[Value.ref b] below meth c H [] 601024 7293034 (lw_Z below #[Value.ref b] s) (F0 m pc ls [.int 1]) := by
  intro T hT X
  obtain ⟨fs, hret, hrun, hended, hW, hframe⟩ := X.leave (v := some (.int 1)) (hlocks := hlocks) (fun h => by rw [hr] at h; cases h)
  have hmeth' : T.vm.method? m = some meth := X.method'
  refine ⟨T.setFrames fs, ?_, .returned (some (.int 1)), hrun, hended, rfl, ⟨_, rfl⟩, hW, hframe⟩
  jvm_step X.here [X.here.top, hx, hb, hdg, hmeth', hr, ret, narrow_b1]
  (try refine ⟨rfl, ?_⟩); (try refine ⟨rfl, ?_⟩)
  first | (intro acts; rw [hret _ acts rfl rfl rfl]) | rw [hret _ _ rfl rfl rfl]
  exact Steps.refl _
/-- what holds at the law's entry: the machine, the code, the tables' words (any of lw_tbl by 'hts w (by decide +kernel)'), the script of L ints xs at the cell b, what the Statement gives of the start (any of its parts by flat_of_before) -/
def lw_At (p : Program) (s : State) (m : MethodId) (meth : Method) (c : Code) (b L : Nat) (xs : Nat → Int32) : Prop :=
  p.tables.exec = Jvm.exec ∧ c.code = code ∧ meth.sig.returnType = ret ∧ c.maxLocals = 7 ∧ s.vm.findClass R_law = some m.cls ∧ (∀ w ∈ lw_tbl, w.before #[Value.ref b] s = true) ∧ va_X b L xs s s.heap ∧ b < s.heap.size ∧ meth.locks = false ∧ (Jvm.Cond.and given_1 narrow_1).before #[Value.ref b] s = true
/-! from the entry to the loop -/
def AllI (L : List (Nat × Nat)) (σ : Sg) (ρ : Rh) : Prop := ∀ x ∈ L, σ x.1 x.2 = sI x.1 x.2 ∧ ρ x.1 x.2 = fun _ => true
theorem sz_off {σ : Sg} {ρ : Rh} {k i : Nat} {x : Nat × Nat} (h : x ≠ (k, i)) : sz σ k i x.1 x.2 = σ x.1 x.2 ∧ rz ρ k i x.1 x.2 = ρ x.1 x.2 := by
  have h9 : ¬ (x.1 = k ∧ x.2 = i) := fun q => h (by rw [← q.1, ← q.2])
  simp only [sz, rz, if_neg h9, and_self]
theorem sz_on {σ : Sg} {k i : Nat} : sz σ k i k i = (fun _ => 0) := by
  simp only [sz, and_self, if_true]
theorem rz_on {ρ : Rh} {k i : Nat} : rz ρ k i k i = rb k := by
  simp only [rz, and_self, if_true]
theorem AllI.push {L : List (Nat × Nat)} {σ : Sg} {ρ : Rh} (h : AllI L σ ρ) {k i : Nat} (hn : (k, i) ∉ L) : AllI L (sz σ k i) (rz ρ k i) := fun x hx => by
  obtain ⟨a, c⟩ := sz_off (σ := σ) (ρ := ρ) (x := x) (k := k) (i := i) (fun q => hn (q ▸ hx))
  rw [a, c]
  exact h x hx
theorem LA_idx : ∀ n : Nat, n < LA.length → LA.idxOf (LA.getD n (0, 0)) = n := by decide +kernel
theorem LA_had {base n : Nat} {x : Nat × Nat} (h : LA[n]? = some x) : base + LA.idxOf (x.1, x.2) = base + n := by
  obtain ⟨h1, h2⟩ := List.getElem?_eq_some_iff.mp h
  have h3 := LA_idx n h1
  rw [List.getD_eq_getElem?_getD, h] at h3
  exact congrArg (base + ·) h3
theorem Lm_nd : Lm.Nodup := by decide +kernel
/-- the world in the law's own order -/
theorem wd_ord {D : va_G} {ca : Nat → ClassId} {A : Nat → Prop} {ad : Adr} {ρ : Rh} {σ : Sg} {H : Heap} (hW : Wd D ca A ad ρ LA σ H) (hr : ∀ x ∈ LA, ρ x.1 x.2 = fun _ => true) : Wd D ca A ad ρm Lm σ H := by
  have key : ∀ (k : Nat) (q : Nat × va_E), (wL ca ad ρm Lm σ)[k]? = some q → ∃ (x : Nat × Nat) (n : Nat), Lm[k]? = some x ∧ LA[n]? = some x ∧ (wL ca ad ρ LA σ)[n]? = some q := by
    intro k q hq
    cases hx : Lm[k]? with
    | none => simp [wL, hx] at hq
    | some x =>
      have hm : x ∈ Lm := List.mem_of_getElem? hx
      have hm2 := LA_Lm.1 x hm
      obtain ⟨n, hn⟩ := List.getElem?_of_mem hm2
      obtain ⟨k', i'⟩ := x
      have h1 := wL_at (ca := ca) (ad := ad) (ρ := ρm) (σ := σ) hx
      have h2 := wL_at (ca := ca) (ad := ad) (ρ := ρ) (σ := σ) hn
      rw [hr _ hm2] at h2
      exact ⟨(k', i'), n, rfl, hn, h2.trans (h1.symm.trans hq)⟩
  refine ⟨fun k q hq => ?_, fun i j p q hp hq e => ?_, fun k q hq => ?_⟩
  · obtain ⟨x, n, -, -, h3⟩ := key k q hq
    exact hW.1 n q h3
  · obtain ⟨x, n, a1, a2, a3⟩ := key i p hp
    obtain ⟨y, m, b1, b2, b3⟩ := key j q hq
    have hnm := hW.2.1 n m p q a3 b3 e
    subst hnm
    have exy : x = y := Option.some.inj (a2.symm.trans b2)
    subst exy
    exact (List.getElem?_inj (List.getElem?_eq_some_iff.mp a1).1 Lm_nd).mp (a1.trans b1.symm)
  · obtain ⟨x, n, -, -, h3⟩ := key k q hq
    exact hW.2.2 n q h3
theorem arr_known {s : State} {args : Array Value} {ty : FieldType} (h : (Cond.arrayClass ty).before args s = true) (hRA : ∀ cA : ClassId, va_RA s cA ty = (s.vm.findClass ("[" ++ ty.toString) = some cA)) : ∃ cA : ClassId, ArrOfT s cA ty ∧ va_RA s cA ty := by
  obtain ⟨cA, kA, comp, h1, h2, h3⟩ := Cond.arrayClass_spec h
  exact ⟨cA, fun n z => ⟨(fun k h => by cases h), kA, h2, comp, h3⟩, by rw [hRA]; exact h1⟩
theorem arr_knownq {s : State} {args : Array Value} {C : String} (h : (Cond.arrayOver (.object C)).before args s = true) : ∃ cA : ClassId, ArrOfT s cA (.object C) ∧ va_RA s cA (.object C) := by
  obtain ⟨comp, cA, kA, h1, h2, h3, h4, h5⟩ := Cond.arrayOver_spec h
  exact ⟨cA, fun n z => ⟨(fun k h => by cases h), kA, h3, comp, h4⟩, kA, comp, h3, h4, h1, h5⟩
theorem gd_tbl {w : Cond} (h : w ∈ lw_gd) : w ∈ lw_tbl := (List.mem_filter.mp h).1
theorem bad_tbl : ∀ w ∈ lw_bad, w ∈ lw_tbl ∧ w.onTables = true := by decide +kernel
theorem str_tbl : ∀ q ∈ lw_str, Cond.stringRef RX7 q.1 q.2 ∈ lw_tbl := by decide +kernel
theorem w7_tbl : ∀ w ∈ W7, w ∈ lw_tbl := by decide +kernel
theorem st_tbl : Cond.laysStatic Bundle.tN "UNASSIGNED_STACK" Bundle.steD ∈ lw_tbl ∧ Cond.laysStatic Bundle.tN "SUPPRESSED_SENTINEL" Bundle.listD ∈ lw_tbl ∧ Cond.initialized Bundle.tN ∈ lw_tbl := by decide +kernel
theorem ws_known {s : State} {args : Array Value} (hts : ∀ w ∈ lw_gd, w.before args s = true) : ∀ k : Nat, ∃ x : ClassId × (Nat → Nat), ∀ q : vw_C, vwCl[k]? = some q → u_Kn s q.1 q.2.1 q.2.2 x.1 x.2 := by
  have one : ∀ {k N n : Nat} {C : String} {T : u_T} {ty : Nat → FieldType}, KF k C T N ty → Cond.instantiable C n ∈ lw_gd → ∃ x : ClassId × (Nat → Nat), ∀ q : vw_C, vwCl[k]? = some q → u_Kn s q.1 q.2.1 q.2.2 x.1 x.2 := by
    intro k N n C T ty hK hi
    obtain ⟨cC, iS, h⟩ := u_known hts hK.2.1 (hts _ hi)
    refine ⟨(cC, iS), fun q hq => ?_⟩
    have e : (C, T, N) = q := Option.some.inj (hK.1.symm.trans hq)
    subst e
    exact h
  intro k
  match k with
  | 0 => exact one kf0 q_176
  | 1 => exact one kf1 q_105
  | 2 => exact one kf2 q_72
  | 3 => exact one kf3 q_92
  | 4 => exact one kf4 q_256
  | 5 => exact one kf5 q_130
  | 6 => exact one kf6 q_222
  | 7 => exact one kf7 q_64
  | 8 => exact one kf8 q_917
  | k + 9 => exact ⟨(0, fun _ => 0), fun q hq => by simp at hq⟩
theorem kn_known {s : State} {args : Array Value} (hts : ∀ w ∈ lw_tbl, w.before args s = true) : ∃ (D : va_G) (ca : Nat → ClassId), Kn D ca s := by
  have htg : ∀ w ∈ lw_gd, w.before args s = true := fun w hw => hts w (gd_tbl hw)
  have hk := ws_known htg
  obtain ⟨c0, a0⟩ := arr_known (htg _ q_90) (fun _ => rfl)
  obtain ⟨c1, a1⟩ := arr_known (htg _ q_1067) (fun _ => rfl)
  obtain ⟨c2, a2⟩ := arr_known (htg _ q_1310) (fun _ => rfl)
  obtain ⟨c3, a3⟩ := arr_knownq (C := RX5) (hts _ (w7_tbl _ (by simp [W7])))
  obtain ⟨c4, a4⟩ := arr_knownq (C := RX0) (hts _ (w7_tbl _ (by simp [W7])))
  obtain ⟨c5, a5⟩ := arr_knownq (C := RX6) (hts _ (w7_tbl _ (by simp [W7])))
  refine ⟨(fun k => (Classical.choose (hk k)).1, fun k => (Classical.choose (hk k)).2), fun k => if k = 0 then c0 else if k = 1 then c1 else if k = 2 then c2 else if k = 3 then c3 else if k = 4 then c4 else c5, ⟨fun c q hq => Classical.choose_spec (hk c) q hq, fun k q hq => ?_⟩, fun w hw => va_Nw.of (bad_tbl w hw).2 (hts w (bad_tbl w hw).1), fun q hq => ?_⟩
  · match k, hq with
    | 0, hq => cases hq; exact a0
    | 1, hq => cases hq; exact a1
    | 2, hq => cases hq; exact a2
    | 3, hq => cases hq; exact a3
    | 4, hq => cases hq; exact a4
    | 5, hq => cases hq; exact a5
    | k + 6, hq => simp [wT] at hq
  · have h1 := hts _ (str_tbl q hq)
    obtain ⟨cC, iS, h⟩ := u_known htg kf7.2.1 (htg _ q_64)
    obtain ⟨-, -, -, a, -, -, -, -, -, he⟩ := Cond.stringRef_spec h.2.1 h1
    exact ⟨a, vk_R.of h1 he⟩
theorem w7_warm {s : State} (h : ∀ w ∈ W7, va_Nw w s) {U : State} (hW : s.WarmedH U.vm) : ∀ w ∈ W7, va_Nw w U := by
  simp only [W7, List.forall_mem_cons] at h ⊢
  obtain ⟨a1, a2, a3, a4, a5, a6, a7, a8, -⟩ := h
  exact ⟨va_Nw.warmM hW a1, va_Nw.warmM hW a2, va_Nw.warmM hW a3, va_Nw.warmM hW a4, va_Nw.warmM hW a5, va_AO.moved hW.alike a6, va_AO.moved hW.alike a7, va_AO.moved hW.alike a8, fun _ h => nomatch h⟩
theorem w7_same {u U : State} (hv : u.vm = U.vm) (h : ∀ w ∈ W7, va_Nw w u) : ∀ w ∈ W7, va_Nw w U := by
  have hA : u.vm.Alike U.vm := by rw [hv]; exact Vm.Alike.refl _
  simp only [W7, List.forall_mem_cons] at h ⊢
  obtain ⟨a1, a2, a3, a4, a5, a6, a7, a8, -⟩ := h
  exact ⟨va_Nw.same rfl hv a1, va_Nw.same rfl hv a2, va_Nw.same rfl hv a3, va_Nw.same rfl hv a4, va_Nw.same rfl hv a5, va_AO.moved hA a6, va_AO.moved hA a7, va_AO.moved hA a8, fun _ h => nomatch h⟩
theorem w7_at {s : State} {args : Array Value} (hts : ∀ w ∈ lw_tbl, w.before args s = true) : ∀ w ∈ W7, va_Nw w s := by
  have h : ∀ w ∈ W7, w.before args s = true := fun w hw => hts w (w7_tbl w hw)
  simp only [W7, List.forall_mem_cons] at h ⊢
  obtain ⟨a1, a2, a3, a4, a5, a6, a7, a8, -⟩ := h
  exact ⟨va_Nw.of rfl a1, va_Nw.of rfl a2, va_Nw.of rfl a3, va_Nw.of rfl a4, va_Nw.of rfl a5, va_AO.of a6, va_AO.of a7, va_AO.of a8, fun _ h => nomatch h⟩
theorem PreK.blind7 {D : va_G} {ca : Nat → ClassId} {base : Nat} {ad : Adr} {ρ : Rh} {L : List (Nat × Nat)} {σ : Sg} (av : List Value) : FrameBlind (va_Pc av (PreK D ca base ad ρ L σ W7)) := by
  intro a U g mk h
  obtain ⟨h1, h2, h3, h4⟩ := h
  exact ⟨h1, (Pre.blind av a U g mk ⟨h1, h2⟩).2, h3, w7_same (u := U) (U := U.calling g mk a) rfl h4⟩
theorem w_callI7 {p : Program} {l : Launch} {e : Env} {R : Room} {s : State} {m : MethodId} {args : Array Value} {below : List Frame} {meth : Method} {c : Code} {H : Heap} {locs : List Loc} {cells slots : Nat} {Q : State → Prop} {cc : ByteArray} {nL : Nat} {pc : Nat} {ls : Array Slot} {st rest : List Value} {own : String} {ret : Option FieldType} {D : va_G} {ca : Nat → ClassId} {base : Nat} {ad : Adr} {ρ : Rh} {L N : List (Nat × Nat)} {σ : Sg} {lv : List (Nat × Value)} {y : MethodName} {b : ByteArray} {maxL index k i : Nat} {rm : Room}
    (hC : Cx p s m args meth c cc nL own ret D ca base) (hW : Wz D ca base ad ρ L σ H) (hS : va_S (Ab base) s.heap H locs) (hl : lv_has ls nL lv) (cv : CIw y b maxL) (hlk : Cond.methodLink own index y ∈ lw_gd) (hM : Mk l y b maxL rm D ca base ad k i L N ρ σ W7) (hW0 : ∀ U : State, s.WarmedH U.vm → ∀ w ∈ W7, va_Nw w U) (hst : st = .ref (ad k i) :: rest) (hR : rm.frames + 1 ≤ R.frames ∧ 8 + (maxL + 11) + rm.locals ≤ R.locals) (hcat : (rest.map fun v => v.category).sum ≤ 8) (hdg : decode cc pc = .ok (.invokespecial index, 3)) (hf : cells + rm.cells ≤ R.cells ∧ slots + rm.slots ≤ R.slots)
    (kk : ∀ (ρ' : Rh) (σ' : Sg) (H1 : Heap) (locs1 : List Loc), Nw D ca base ad k i L N ρ σ ρ' σ' H1 → va_S (Ab base) s.heap H1 locs1 → W p l e R s m args below meth c H1 locs1 (cells + rm.cells) (slots + rm.slots) Q (F0 m (pc + 3) ls rest)) : W p l e R s m args below meth c H locs cells slots Q (F0 m pc ls st) := by
  obtain ⟨⟨h2, h4, h5⟩, ⟨h6, h7⟩, h8⟩ := cv
  have ht := hC.2.2.2.2.1
  have hG : GoodIn lw_gd (wsy y b maxL none) := gdIn fun w hw => by
    rcases List.mem_cons.mp hw with rfl | hw
    · exact h5
    · exact hw
  have hr := va_runI (e := e) (R := R) (below := below) (meth := meth) (locs := locs) (cells := cells) (slots := slots) (g := F0 m pc ls st) (As := []) (rest := rest) (w_fix hC) hM ⟨callB_of 0 ht hG rfl rfl rfl (ht _ h4) (ht _ hlk) ⟨h6.1, h6.2, h7⟩ hR, h8, ht _ h2⟩ ⟨PreK.blind7 _, fun U hU hWm => ⟨rfl, w_preK hC hW hS hW0 U hU hWm⟩⟩ rfl rfl hl.1 hst (lv_room hcat) hdg hf
  exact w_backK hr hS kk
set_option maxHeartbeats 8000000 in
set_option maxRecDepth 100000 in
theorem whole_start {p : Program} {e : Env} {s : State} {m : MethodId} {below : List Frame} {meth : Method} {c : Code} (l : Launch) (hflags : l.flags = flags0) {b L : Nat} {xs : Nat → Int32} (hL : L ≤ 3584) (C0 : lw_At p s m meth c b L xs) : W p l e room_1 s m #[Value.ref b] below meth c s.heap [] 0 0 (lw_Z below #[Value.ref b] s) (entryFrame m ([Value.ref b] : List Value).toArray 7) := by
  obtain ⟨hx, hb, hr, hml, hown, hts, hX, hbl, hlocks, hgv⟩ := id C0
  have hl9 : l.stackTraces = false := by
    unfold Launch.stackTraces
    rw [hflags]
    decide +kernel
  have hfl := flat_of_before _ hgv
  obtain ⟨D, ca, hKn⟩ := kn_known hts
  have hAn : ∀ a : Nat, a < s.heap.size → ¬ Ab s.heap.size a := fun a ha h => Nat.not_le.mpr ha h
  have hZ : Zs (Ab s.heap.size) s s.heap := ⟨vx_Zqof (hts _ st_tbl.1) (hts _ st_tbl.2.2) (hfl _ (by decide +kernel)) hAn, vx_Zqof (hts _ st_tbl.2.1) (hts _ st_tbl.2.2) (hfl _ (by decide +kernel)) hAn⟩
  have hN : Nx s := by
    intro q hq
    simp only [lw_np, List.mem_cons, List.not_mem_nil, or_false] at hq
    rcases hq with rfl | rfl | rfl | rfl | rfl | rfl | rfl | rfl | rfl | rfl | rfl | rfl <;> exact va_Nc.of (hfl _ (by decide +kernel))
  have hC : Cx p s m #[Value.ref b] meth c code 7 RL ret D ca s.heap.size := ⟨hx, hb, hml, hown, fun w hw => hts w (gd_tbl hw), hr, hlocks, hKn, hZ, Nat.le_refl _⟩
  have hw7 : ∀ w ∈ W7, va_Nw w s := w7_at hts
  obtain ⟨ad, had⟩ : ∃ ad : Adr, ∀ (n : Nat) (x : Nat × Nat), LA[n]? = some x → ad x.1 x.2 = s.heap.size + n := ⟨fun k i => s.heap.size + LA.idxOf (k, i), fun n x h => LA_had h⟩
  have hS : va_S (Ab s.heap.size) s.heap s.heap [] := va_S.rf
  have hW : Wz D ca s.heap.size ad (fun _ _ _ => true) [] (fun _ _ _ => 0) s.heap := ⟨⟨fun k q h => by simp [wL] at h, fun i j p q h => by simp [wL] at h, fun k q h => by simp [wL] at h⟩, by simp⟩
  generalize (fun _ _ _ => true : Rh) = ρ at hW
  generalize (fun _ _ _ => 0 : Sg) = σ at hW
  have hl := lv_entry ([.ref b]) (n := 7) (Nat.le_of_ble_eq_true rfl)
  rw [lg_entry_eq]
  generalize (lg_sl ([.ref b]) ++ List.replicate (7 - (lg_sl ([.ref b])).length) Slot.unset).toArray = ls at hl ⊢
  have hl : lv_has ls 7 [(0, .ref b)] := hl
  -- the class's object
  refine w_new hC hW hS (k := 7) (i := 0) (had 0 (7, 0) rfl) kf7 q_63 q_64 q_46 (fs := wO ad (rb 7) (fun _ => 0) 7 0) rfl hfs_X7 (by decide) (by decide) dL_law_0 (fun H _ hW hS => ?_)
  refine lv_dup hx hb dL_law_3 rfl ?_
  refine w_callI7 hC hW hS hl ci_X7 q_65 (c_X7_init rz_on sz_on had) (fun U hU => w7_warm hw7 hU) rfl ⟨by decide, by decide⟩ (by show 1 + 0 ≤ 8; decide) dL_law_4 ⟨by decide, by decide⟩ (fun ρ σ H locs hN7 hS => ?_)
  obtain ⟨hW, -, hA7⟩ := hN7
  have hA : AllI ([(7, 0)] ++ N7) σ ρ := hA7
  refine lv_astore_n (lv' := [(1, .ref (ad 7 0)), (0, .ref b)]) hx hb dL_law_7 rfl hl (by decide) rfl (fun ls hl => ?_)
  -- the model's object
  refine w_new hC hW hS (k := 8) (i := 0) ((had 79 (8, 0) rfl).trans (by simp [pr2_len, pr1_len, N7])) kf8 q_916 q_917 q_54 (fs := wO ad (rb 8) (fun _ => 0) 8 0) rfl hfs_X8 (by decide) (by decide) dL_law_8 (fun H hnot hW hS => ?_)
  have hA := hA.push hnot
  refine lv_dup hx hb dL_law_11 rfl ?_
  refine w_callI hC hW hS hl ci_X8 q_918 (c_X8_init (L := ([(7, 0)] ++ N7) ++ [(8, 0)]) rz_on sz_on (by simp) ((had 80 (31, 0) rfl).trans (by simp [pr2_len, pr1_len, N7])) ((had 81 (32, 0) rfl).trans (by simp [pr2_len, pr1_len, N7])) ((had 82 (34, 0) rfl).trans (by simp [pr2_len, pr1_len, N7])) ((had 83 (35, 0) rfl).trans (by simp [pr2_len, pr1_len, N7])) ((had 84 (36, 0) rfl).trans (by simp [pr2_len, pr1_len, N7])) ((had 85 (37, 0) rfl).trans (by simp [pr2_len, pr1_len, N7])) ((had 86 (38, 0) rfl).trans (by simp [pr2_len, pr1_len, N7])) ((had 87 (39, 0) rfl).trans (by simp [pr2_len, pr1_len, N7])) ((had 88 (40, 0) rfl).trans (by simp [pr2_len, pr1_len, N7])) ((had 89 (41, 0) rfl).trans (by simp [pr2_len, pr1_len, N7])) ((had 90 (42, 0) rfl).trans (by simp [pr2_len, pr1_len, N7])) ((had 91 (43, 0) rfl).trans (by simp [pr2_len, pr1_len, N7])) ((had 92 (44, 0) rfl).trans (by simp [pr2_len, pr1_len, N7])) ((had 93 (45, 0) rfl).trans (by simp [pr2_len, pr1_len, N7])) ((had 94 (46, 0) rfl).trans (by simp [pr2_len, pr1_len, N7])) ((had 95 (47, 0) rfl).trans (by simp [pr2_len, pr1_len, N7])) ((had 96 (49, 0) rfl).trans (by simp [pr2_len, pr1_len, N7])) ((had 97 (50, 0) rfl).trans (by simp [pr2_len, pr1_len, N7])) ((had 98 (51, 0) rfl).trans (by simp [pr2_len, pr1_len, N7])) ((had 99 (52, 0) rfl).trans (by simp [pr2_len, pr1_len, N7])) ((had 100 (53, 0) rfl).trans (by simp [pr2_len, pr1_len, N7])) ((had 101 (54, 0) rfl).trans (by simp [pr2_len, pr1_len, N7])) ((had 102 (55, 0) rfl).trans (by simp [pr2_len, pr1_len, N7])) ((had 103 (56, 0) rfl).trans (by simp [pr2_len, pr1_len, N7])) ((had 104 (58, 0) rfl).trans (by simp [pr2_len, pr1_len, N7])) ((had 105 (59, 0) rfl).trans (by simp [pr2_len, pr1_len, N7])) ((had 106 (60, 0) rfl).trans (by simp [pr2_len, pr1_len, N7])) ((had 107 (61, 0) rfl).trans (by simp [pr2_len, pr1_len, N7])) ((had 108 (62, 0) rfl).trans (by simp [pr2_len, pr1_len, N7])) ((had 109 (63, 0) rfl).trans (by simp [pr2_len, pr1_len, N7])) ((had 110 (64, 0) rfl).trans (by simp [pr2_len, pr1_len, N7])) ((had 111 (65, 0) rfl).trans (by simp [pr2_len, pr1_len, N7])) ((had 112 (66, 0) rfl).trans (by simp [pr2_len, pr1_len, N7])) ((had 113 (73, 0) rfl).trans (by simp [pr2_len, pr1_len, N7])) ((had 114 (77, 0) rfl).trans (by simp [pr2_len, pr1_len, N7]))) (fun w hw => nomatch hw) (fun U hU w hw => nomatch hw) rfl ⟨by decide, by decide⟩ (by show 1 + 0 ≤ 8; decide) dL_law_12 ⟨by decide, by decide⟩ (fun ρ2 σ2 H locs hN8 hS => ?_)
  obtain ⟨hW, hO8, hA8⟩ := hN8
  have hA : AllI ((([(7, 0)] ++ N7) ++ [(8, 0)]) ++ [(31, 0), (32, 0), (34, 0), (35, 0), (36, 0), (37, 0), (38, 0), (39, 0), (40, 0), (41, 0), (42, 0), (43, 0), (44, 0), (45, 0), (46, 0), (47, 0), (49, 0), (50, 0), (51, 0), (52, 0), (53, 0), (54, 0), (55, 0), (56, 0), (58, 0), (59, 0), (60, 0), (61, 0), (62, 0), (63, 0), (64, 0), (65, 0), (66, 0), (73, 0), (77, 0)]) σ2 ρ2 := by
    intro x hx
    by_cases e8 : x = (8, 0)
    · exact hA8 x (by rw [e8]; exact List.mem_cons_self)
    · rcases List.mem_append.mp hx with h | h
      · rcases List.mem_append.mp h with h | h
        · obtain ⟨u1, u2⟩ := hO8 x (List.mem_append_left _ h) e8
          obtain ⟨v1, v2⟩ := hA x h
          exact ⟨u1.trans v1, u2.trans v2⟩
        · exact absurd (List.mem_singleton.mp h) e8
      · exact hA8 x (List.mem_cons_of_mem _ h)
  refine lv_astore_n (lv' := [(2, .ref (ad 8 0)), (1, .ref (ad 7 0)), (0, .ref b)]) hx hb dL_law_15 rfl hl (by decide) rfl (fun ls hl => ?_)
  -- the long row
  refine lv_iconst (v := 1) hx hb dL_law_16 (by decide) ?_
  refine w_newa hC hW hS (k := 90) (i := 0) ((had 115 (90, 0) rfl).trans (by simp [pr2_len, pr1_len, N7])) (ty := .long) rfl q_1310 (t := 2) rfl (fun _ => rfl) rfl (fun cA => by rw [vp_cell_l]; rfl) (by decide) (N := 1) (by decide) (by decide) (by decide) (by decide) dL_law_17 (fun H hnot hW hS => ?_)
  have hA := hA.push hnot
  have eLA : ((([(7, 0)] ++ N7) ++ [(8, 0)]) ++ [(31, 0), (32, 0), (34, 0), (35, 0), (36, 0), (37, 0), (38, 0), (39, 0), (40, 0), (41, 0), (42, 0), (43, 0), (44, 0), (45, 0), (46, 0), (47, 0), (49, 0), (50, 0), (51, 0), (52, 0), (53, 0), (54, 0), (55, 0), (56, 0), (58, 0), (59, 0), (60, 0), (61, 0), (62, 0), (63, 0), (64, 0), (65, 0), (66, 0), (73, 0), (77, 0)]) ++ [(90, 0)] = LA := by decide
  have hW : Wz D ca s.heap.size ad (rz ρ2 90 0) LA (sz σ2 90 0) H := by
    rw [← eLA]
    exact hW
  have hAll : AllI LA (sz σ2 90 0) (rz ρ2 90 0) := by
    rw [← eLA]
    intro x hx
    rcases List.mem_append.mp hx with h | h
    · exact hA x h
    · rw [List.mem_singleton.mp h]
      exact ⟨sz_on.trans rfl, rz_on.trans rfl⟩
  generalize sz σ2 90 0 = σ3 at hW hAll
  generalize rz ρ2 90 0 = ρ3 at hW hAll
  refine lv_astore_n (lv' := [(3, .ref (ad 90 0)), (2, .ref (ad 8 0)), (1, .ref (ad 7 0)), (0, .ref b)]) hx hb dL_law_19 rfl hl (by decide) rfl (fun ls hl => ?_)
  refine lv_iconst (v := 0) hx hb dL_law_20 (by decide) ?_
  refine lv_istore (lv' := [(4, .int (nI 0)), (3, .ref (ad 90 0)), (2, .ref (ad 8 0)), (1, .ref (ad 7 0)), (0, .ref b)]) hx hb dL_law_21 hl (by decide) rfl (fun ls hl => ?_)
  have hRS : RS σ3 := rs_first fun x hx => (hAll x (LA_Lm.1 x hx)).1
  have hWm : Wd D ca (Ab s.heap.size) ad ρm Lm σ3 H := wd_ord hW.1 fun x hx => (hAll x hx).2
  refine law_loop hl9 RS (fun _ h => h.inv) (fun k iN σ hk h => law_all xs k iN σ hk h) hC hN hX hbl (hAn b hbl) hL (fun σ' H1 locs1 ls1 hS1 => ?_) 512 0 σ3 H _ _ _ ls (by omega) (Nat.zero_le _) (by decide) (by decide) hRS hWm hS hl
  refine va_forget (fun q hq => hS1.2.2 q hq) ?_
  refine lv_iconst (v := 1) hx hb dL_law_2695 (by decide) ?_
  exact lw_ret hx hb hr hlocks dL_law_2696
