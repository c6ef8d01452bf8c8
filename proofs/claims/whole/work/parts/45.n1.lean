/-! cells that come: the world grows by one cell at the heap's end -/
def refs : Nat → List Nat := fun k => match k with
  | 0 => [8] | 1 => [0] | 2 => [0, 1, 2, 3] | 3 => [0, 1] | 4 => [0, 1] | 5 => [9] | 7 => [0, 1, 2, 3, 4, 5, 12, 13, 14, 15]
  | 8 => [1, 2, 4, 5, 6, 7, 8, 9, 10, 11, 12, 13, 14, 15, 16, 17, 19, 20, 21, 22, 23, 24, 25, 26, 28, 29, 30, 31, 32, 33, 34, 35, 36, 43, 47]
  | 22 => [0, 1, 2, 3, 4, 5, 6, 7, 8, 9, 10, 11] | 23 => [0, 1, 2, 3, 4, 5, 6, 7] | 24 => [0, 1, 2, 3, 4, 5, 6, 7, 8, 9] | 25 => [0, 1, 2, 3] | _ => []
def rb (k : Nat) : Nat → Bool := fun j => !(refs k).contains j
def sz (σ : Sg) (k i : Nat) : Sg := fun k' i' => if k' = k ∧ i' = i then fun _ => 0 else σ k' i'
def rz (ρ : Rh) (k i : Nat) : Rh := fun k' i' => if k' = k ∧ i' = i then rb k else ρ k' i'
theorem arr_cg {cI : ClassId} {N : Nat} {f g : Nat → Value} (h : ∀ j, j < N → f j = g j) : arrV cI N f = arrV cI N g := by
  have e : (Array.ofFn (n := N) fun j => f j.val) = Array.ofFn (n := N) fun j => g j.val := by
    congr 1
    funext j
    exact h j.val j.isLt
  simp only [arrV, e]
theorem w_push {D : va_G} {ca : Nat → ClassId} {A : Nat → Prop} {ad : Adr} {ρ : Rh} {L : List (Nat × Nat)} {σ : Sg} {H H1 : Heap} {k i : Nat} (hW : Wd D ca A ad ρ L σ H) (hA : A H.size) (had : ad k i = H.size) (o1 : ∀ q, q < H.size → H1[q]? = H[q]?) (hat : va_at D vwCl (H.size, wEl ca ad (rb k) (fun _ => 0) k i) H1) : (k, i) ∉ L ∧ Wd D ca A ad (rz ρ k i) (L ++ [(k, i)]) (sz σ k i) H1 := by
  have hnot : (k, i) ∉ L := by
    intro hB
    obtain ⟨n, -, h2⟩ := hW.get hB
    have := (hW.1 n _ h2).lt
    rw [had] at this
    exact Nat.lt_irrefl _ this
  have e : wL ca ad (rz ρ k i) (L ++ [(k, i)]) (sz σ k i) = wL ca ad ρ L σ ++ [(H.size, wEl ca ad (rb k) (fun _ => 0) k i)] := by
    rw [wL, List.map_append]
    congr 1
    · apply List.map_congr_left
      intro x hx
      have hne : ¬ (x.1 = k ∧ x.2 = i) := fun q => hnot (by rw [← q.1, ← q.2]; exact hx)
      simp only [wE, rz, sz, if_neg hne]
    · simp [wE, rz, sz, had]
  refine ⟨hnot, ?_, ?_⟩
  · rw [e]
    exact (hW.1.kept (fun n x hx => o1 x.1 ((hW.1 n x hx).lt))).app (fun n x hx => by
      have hz : n < 1 := (List.getElem?_eq_some_iff.mp hx).1
      rw [show n = 0 by omega] at hx
      cases hx
      exact hat)
  · rw [e]
    exact hW.2.push hW.1 rfl hA
/-- the world and how many cells there are -/
def Wz (D : va_G) (ca : Nat → ClassId) (base : Nat) (ad : Adr) (ρ : Rh) (L : List (Nat × Nat)) (σ : Sg) (H : Heap) : Prop := Wd D ca (Ab base) ad ρ L σ H ∧ H.size = base + L.length
section WN
variable {p : Program} {l : Launch} {e : Env} {R : Room} {s : State} {m : MethodId} {args : Array Value} {below : List Frame} {meth : Method} {c : Code} {H : Heap} {locs : List Loc} {cells slots : Nat} {Q : State → Prop}
variable {cc : ByteArray} {nL : Nat} {pc : Nat} {ls : Array Slot} {rest : List Value} {own : String} {ret : Option FieldType} {D : va_G} {ca : Nat → ClassId} {base : Nat} {ad : Adr} {ρ : Rh} {L : List (Nat × Nat)} {σ : Sg}
theorem w_newa (hC : Cx p s m args meth c cc nL own ret D ca base) (hW : Wz D ca base ad ρ L σ H) (hS : va_S (Ab base) s.heap H locs) {k i : Nat} (had : ad k i = base + L.length) {atype : ArrayType} {ty : FieldType} (hty : newarray.typeOf atype = ty) (harr : Cond.arrayClass ty ∈ lw_gd) {t : Nat} (ht : (wT ca)[t]? = some (ca t, ty)) (hRA : ∀ cA : ClassId, va_RA s cA ty = (s.vm.findClass ("[" ++ ty.toString) = some cA)) {n : Int32} {N : Nat} {a0 : vp_A} (he : wEl ca ad (rb k) (fun _ => 0) k i = .inl (ca t, a0)) (ha : ∀ cA : ClassId, vp_cell cA a0 = arrV cA N (fun _ => defaultValue ty)) (hn : ¬ n < 0) (hN : n.toNatClampNeg = N) (hbytes : N * componentBytes ty ≤ 536870912) (hcells : cells + 1 ≤ R.cells) (hslots : slots + N ≤ R.slots) (hdg : decode cc pc = .ok (.newarray atype, 2))
    (kk : ∀ H1 : Heap, (k, i) ∉ L → Wz D ca base ad (rz ρ k i) (L ++ [(k, i)]) (sz σ k i) H1 → va_S (Ab base) s.heap H1 locs → W p l e R s m args below meth c H1 locs (cells + 1) (slots + N) Q (F0 m (pc + 2) ls (.ref (ad k i) :: rest))) : W p l e R s m args below meth c H locs cells slots Q (F0 m pc ls (.int n :: rest)) := by
  subst hty
  obtain ⟨hx, hb, -, ho, hts, -, -, hKn, -, hbs⟩ := hC
  obtain ⟨hW, hsz⟩ := hW
  refine va_newaK hx hb (hts _ harr) rfl hdg rfl hn hN hbytes hcells hslots (h := ad k i) (by rw [had, hsz]) fun H1 cA e1 z1 o1 hAr hNm => ?_
  have e9 : ad k i = H.size := by rw [had, hsz]
  have hcA : cA = ca t := by
    have h9 := (hKn.1.2 t _ ht).2
    rw [hRA] at h9
    exact Option.some.inj (hNm.symm.trans h9)
  subst hcA
  obtain ⟨hnot, hW1⟩ := w_push hW (show base ≤ H.size by omega) e9 (fun q hq => o1 q (by rw [e9]; exact hq)) (H1 := H1) (by
    rw [he]
    show H1[H.size]? = some (vp_cell _ _)
    rw [ha, ← e9]
    exact e1)
  exact kk H1 hnot ⟨hW1, by rw [z1, e9, hsz, List.length_append]; rfl⟩ ⟨Nat.le_trans hS.1 (by omega), fun x h1 h2 => (o1 x (by rw [e9]; exact Nat.lt_of_lt_of_le h1 hS.1)).trans (hS.2.1 x h1 h2), hS.2.2⟩
theorem w_new (hC : Cx p s m args meth c cc nL own ret D ca base) (hW : Wz D ca base ad ρ L σ H) (hS : va_S (Ab base) s.heap H locs) {k i : Nat} (had : ad k i = base + L.length) {index N : Nat} {C : String} {T : u_T} {ty : Nat → FieldType} (hK : KF k C T N ty) (hcl : Cond.classLink own index C ∈ lw_gd) (hinst : Cond.instantiable C N ∈ lw_gd) (hini : Cond.initialized C ∈ lw_gd) {fs : List Value} (he : wEl ca ad (rb k) (fun _ => 0) k i = .inr (k, fs)) (hfs : ∀ j, j < N → defaultValue (ty j) = vp_V fs j) (hcells : cells + 1 ≤ R.cells) (hslots : slots + N ≤ R.slots) (hdg : decode cc pc = .ok (.new index, 3))
    (kk : ∀ H1 : Heap, (k, i) ∉ L → Wz D ca base ad (rz ρ k i) (L ++ [(k, i)]) (sz σ k i) H1 → va_S (Ab base) s.heap H1 locs → W p l e R s m args below meth c H1 locs (cells + 1) (slots + N) Q (F0 m (pc + 3) ls (.ref (ad k i) :: rest))) : W p l e R s m args below meth c H locs cells slots Q (F0 m pc ls rest) := by
  obtain ⟨hx, hb, -, ho, hts, -, -, hKn, -, hbs⟩ := hC
  obtain ⟨hW, hsz⟩ := hW
  have e9 : ad k i = H.size := by rw [had, hsz]
  have hKc := hKn.1.1 k _ hK.1
  refine W.newcK hx hb ho (hts _ hcl) (hts _ hinst) (hts _ hini) rfl hdg hcells hslots hKc.2.1 (h := ad k i) e9.symm fun H1 kC hkC e1 z1 o1 => ?_
  obtain ⟨hnot, hW1⟩ := w_push hW (show base ≤ H.size by omega) e9 (fun q hq => o1 q (by rw [e9]; exact hq)) (H1 := H1) (by
    rw [he, ← e9]
    exact ⟨_, hK.1, (u_born ty hts hK.2.1 hKc hkC e1 hK.2.2.1).to hfs⟩)
  exact kk H1 hnot ⟨hW1, by rw [z1, e9, hsz, List.length_append]; rfl⟩ ⟨Nat.le_trans hS.1 (by omega), fun x h1 h2 => (o1 x (by rw [e9]; exact Nat.lt_of_lt_of_le h1 hS.1)).trans (hS.2.1 x h1 h2), hS.2.2⟩
theorem w_newq (hC : Cx p s m args meth c cc nL own ret D ca base) (hW : Wz D ca base ad ρ L σ H) (hS : va_S (Ab base) s.heap H locs) {k i : Nat} (had : ad k i = base + L.length) {index : Nat} {C : String} (hcl : Cond.classLink own index C ∈ lw_gd) (hover : va_AO C s) {t : Nat} (ht : (wT ca)[t]? = some (ca t, .object C)) {n : Int32} {N : Nat} (he : wEl ca ad (rb k) (fun _ => 0) k i = .inl (ca t, N, .inr (.inr (.inr (.inr (fun j => zrf ad (rb k) j (if k = 22 then 5 else if k = 24 then 6 else 0) (if k = 25 then 8 + j else j))))))) (hr : ∀ j, j < N → rb k j = false) (hn : ¬ n < 0) (hN : n.toNatClampNeg = N) (hbytes : N * 4 ≤ 536870912) (hcells : cells + 1 ≤ R.cells) (hslots : slots + N ≤ R.slots) (hdg : decode cc pc = .ok (.anewarray index, 3))
    (kk : ∀ H1 : Heap, (k, i) ∉ L → Wz D ca base ad (rz ρ k i) (L ++ [(k, i)]) (sz σ k i) H1 → va_S (Ab base) s.heap H1 locs → W p l e R s m args below meth c H1 locs (cells + 1) (slots + N) Q (F0 m (pc + 3) ls (.ref (ad k i) :: rest))) : W p l e R s m args below meth c H locs cells slots Q (F0 m pc ls (.int n :: rest)) := by
  subst hN
  obtain ⟨hx, hb, -, ho, hts, -, -, hKn, -, hbs⟩ := hC
  obtain ⟨hW, hsz⟩ := hW
  have e9 : ad k i = H.size := by rw [had, hsz]
  refine W.anew hx hb ho (hts _ hcl) (va_AO.use hover) rfl hdg rfl hn hbytes hcells hslots fun cA kA comp f1 f2 f3 f4 => ?_
  generalize hH1 : H.push ({ cls := cA, slots := Array.replicate n.toNatClampNeg .null, vm := .none } : Cell) = H1
  have z1 : H1.size = H.size + 1 := by rw [← hH1, Array.size_push]
  have e1 : H1[H.size]? = some (arrV cA n.toNatClampNeg (fun _ => .null)) := by rw [← hH1, Array.getElem?_push_size, ← arrV_new]
  have o1 : ∀ q : Nat, q < H.size → H1[q]? = H[q]? := fun q hq => by rw [← hH1, Array.getElem?_push, if_neg (Nat.ne_of_lt hq)]
  have hcA : cA = ca t := by
    obtain ⟨_, _, _, _, _, h9⟩ := (hKn.1.2 t _ ht).2
    exact Option.some.inj (f1.symm.trans h9)
  subst hcA
  obtain ⟨hnot, hW1⟩ := w_push hW (show base ≤ H.size by omega) e9 o1 (H1 := H1) (by
    rw [he]
    show H1[H.size]? = some (vp_cell _ _)
    rw [vp_cell_q, e1]
    congr 1
    refine arr_cg fun j hj => ?_
    show Value.null = va_rf (zrf ad (rb k) j _ _)
    rw [zrf, if_neg (by rw [hr j hj]; decide)]
    rfl)
  rw [← e9]
  exact kk H1 hnot ⟨hW1, by rw [z1, hsz, List.length_append]; rfl⟩ ⟨Nat.le_trans hS.1 (by omega), fun x h1 h2 => (o1 x (Nat.lt_of_lt_of_le h1 hS.1)).trans (hS.2.1 x h1 h2), hS.2.2⟩
/-- a final field of a reference -/
theorem w_putF (hC : Cx p s m args meth c cc nL own ret D ca base) (hW : Wz D ca base ad ρ L σ H) (hS : va_S (Ab base) s.heap H locs) {k i : Nat} (hB : (k, i) ∈ L) {N : Nat} {T : u_T} {ty : Nat → FieldType} {fs : List Value} (he : wEl ca ad (ρ k i) (σ k i) k i = .inr (k, fs)) (hK : KF k own T N ty) (j : Nat) (hj : j < N) {index : Nat} (hlink : Cond.fieldLink own index (T j).1 (T j).2.1 (T j).2.2.1 ∈ lw_gd) (hfin : (T j).2.2.2 = true) (hin : meth.name = "<init>") (hdecl : (T j).1 = own) {tj : FieldType} {v : Nat} (hd : parseFieldDescriptor (T j).2.2.1 = some tj) (hnw : narrow tj (.ref v) = .ref v) (hfit : fits tj (.ref v) = true) (hl : j < fs.length) (hset : wEl ca ad (fun q => if q = j then true else ρ k i q) (σ k i) k i = .inr (k, fs.set j (.ref v))) (hdg : decode cc pc = .ok (.putfield index, 3))
    (kk : ∀ (H1 : Heap) (locs1 : List Loc), Wz D ca base ad (ur ρ k i j) L σ H1 → va_S (Ab base) s.heap H1 locs1 → W p l e R s m args below meth c H1 locs1 cells slots Q (F0 m (pc + 3) ls rest)) : W p l e R s m args below meth c H locs cells slots Q (F0 m pc ls (.ref v :: .ref (ad k i) :: rest)) := by
  obtain ⟨hW, hsz⟩ := hW
  obtain ⟨n, hn, hn2⟩ := hW.get hB
  rw [he] at hn2
  obtain ⟨hx, hb, -, ho, hts, -, -, hKn, -⟩ := hC
  have hap := va_apart (own := own) hts hK.2.1 ty hK.2.2.1 hK.2.2.2 hKn.1 hK.1
  obtain ⟨r, h1, cell, q1, q2, q3, q4⟩ := hW.1 n _ hn2
  cases h1.symm.trans hK.1
  obtain ⟨hSl, hfc, kC, hkC, hkind⟩ := hKn.1.1 k _ hK.1
  obtain ⟨cf, kf, fi, f, hi, hsl⟩ := hSl j hj
  have hlay := hts _ (hK.2.1 _ (u_in_lay hj))
  unfold u_lay at hlay
  rw [if_pos hfin] at hlay
  have hst := (u_facts hfc hkC (u_lays hts hK.2.1 hj) hi).1
  have hcf : m.cls = cf := by
    obtain ⟨_, _, c', _, _, _, -, -, hf', -, -, -, hown2, -⟩ := Cond.laysFinal_spec hlay
    have e1 : c' = cf := by have := hi.symm.trans hf'; simp at this; exact this.1.symm
    rw [hdecl] at hown2
    rw [← e1]; exact Option.some.inj (ho.symm.trans hown2)
  have h6 := u_fits hfc hkC hkind (Or.inr hlay) hi hd hnw hfit
  refine W.putFinK hx hb ho (hts _ hlink) hi hst hcf hin (by rw [q2]; exact h6) q1 q3 (by rw [hsl]; exact k2_hasslot (q4 j hj)) rfl rfl hdg fun H' e1 e2 e3 => ?_
  rw [hsl] at e1 ⊢
  have hP1 := hW.1.set hW.2 hn2 (e := .inr (k, fs.set j (.ref v))) (H1 := H') ⟨_, hK.1, t_OB.to (V := updV (vp_V fs) j (.ref v)) ⟨_, e1, q2, q3, t_set q4 hap hj (.ref v)⟩ (fun j' _ => vp_updV_set hl (.ref v) j')⟩ e3
  have hD1 := hW.2.set hn2 (e := .inr (k, fs.set j (.ref v)))
  have e9 := wL_set (σ' := σ) (ρ' := ur ρ k i j) (e := .inr (k, fs.set j (.ref v))) hW.2 hn (by rw [ur_same]; exact hset) (fun _ _ _ => rfl) (fun k' i' h => ur_off ρ j h)
  rw [e9] at hP1 hD1
  exact kk H' _ ⟨⟨hP1, hD1⟩, by rw [e2, hsz]⟩ (hS.put e2 e3 (hW.2.2 n _ hn2))
/-- a field of an int -/
theorem w_putI (hC : Cx p s m args meth c cc nL own ret D ca base) (hW : Wz D ca base ad ρ L σ H) (hS : va_S (Ab base) s.heap H locs) {k i : Nat} (hB : (k, i) ∈ L) {N : Nat} {C : String} {T : u_T} {ty : Nat → FieldType} {fs : List Value} (he : wEl ca ad (ρ k i) (σ k i) k i = .inr (k, fs)) (hK : KF k C T N ty) (j : Nat) (hj : j < N) {index : Nat} (hlink : Cond.fieldLink own index (T j).1 (T j).2.1 (T j).2.2.1 ∈ lw_gd) (hfin : (T j).2.2.2 = false) {tj : FieldType} {x : Int32} (hd : parseFieldDescriptor (T j).2.2.1 = some tj) (hnw : narrow tj (.int x) = .int x) (hfit : fits tj (.int x) = true) (hl : j < fs.length) (hset : wEl ca ad (ρ k i) (upd (σ k i) j x) k i = .inr (k, fs.set j (.int x))) (hdg : decode cc pc = .ok (.putfield index, 3))
    (kk : ∀ (H1 : Heap) (locs1 : List Loc), Wz D ca base ad ρ L (us σ k i j x) H1 → va_S (Ab base) s.heap H1 locs1 → W p l e R s m args below meth c H1 locs1 cells slots Q (F0 m (pc + 3) ls rest)) : W p l e R s m args below meth c H locs cells slots Q (F0 m pc ls (.int x :: .ref (ad k i) :: rest)) := by
  obtain ⟨hW, hsz⟩ := hW
  obtain ⟨n, hn, hn2⟩ := hW.get hB
  rw [he] at hn2
  obtain ⟨hx, hb, -, ho, hts, -, -, hKn, -⟩ := hC
  have hap := va_apart (own := own) hts hK.2.1 ty hK.2.2.1 hK.2.2.2 hKn.1 hK.1
  obtain ⟨r, h1, cell, q1, q2, q3, q4⟩ := hW.1 n _ hn2
  cases h1.symm.trans hK.1
  obtain ⟨hSl, hfc, kC, hkC, hkind⟩ := hKn.1.1 k _ hK.1
  obtain ⟨cf, kf, fi, f, hi, hsl⟩ := hSl j hj
  have hlay := hts _ (hK.2.1 _ (u_in_lay hj))
  unfold u_lay at hlay
  rw [if_neg (by rw [hfin]; decide)] at hlay
  have hst := (u_facts hfc hkC (u_lays hts hK.2.1 hj) hi).1
  have h6 := u_store hfc hkC hkind hlay hi hd hnw hfit
  refine W.putK hx hb (f := f) ⟨ho, hts _ hlink, ⟨_, _, _, hi⟩, hst⟩ (by rw [q2]; exact h6) q1 q3 (by rw [hsl]; exact k2_hasslot (q4 j hj)) rfl rfl hdg fun H' e1 e2 e3 => ?_
  rw [hsl] at e1 ⊢
  have hP1 := hW.1.set hW.2 hn2 (e := .inr (k, fs.set j (.int x))) (H1 := H') ⟨_, hK.1, t_OB.to (V := updV (vp_V fs) j (.int x)) ⟨_, e1, q2, q3, t_set q4 hap hj (.int x)⟩ (fun j' _ => vp_updV_set hl (.int x) j')⟩ e3
  have hD1 := hW.2.set hn2 (e := .inr (k, fs.set j (.int x)))
  have e9 := wL_set (σ' := us σ k i j x) (ρ' := ρ) (e := .inr (k, fs.set j (.int x))) hW.2 hn (by rw [us_same]; exact hset) (fun k' i' h => us_off σ j x h) (fun _ _ _ => rfl)
  rw [e9] at hP1 hD1
  exact kk H' _ ⟨⟨hP1, hD1⟩, by rw [e2, hsz]⟩ (hS.put e2 e3 (hW.2.2 n _ hn2))
/-- an element of a row of ints -/
theorem w_iastZ (hC : Cx p s m args meth c cc nL own ret D ca base) (hW : Wz D ca base ad ρ L σ H) (hS : va_S (Ab base) s.heap H locs) {k i : Nat} (hB : (k, i) ∈ L) {n : Nat} (he : ∀ f : Nat → Int32, wEl ca ad (ρ k i) f k i = .inl (ca 0, n, .inl f)) {x v : Int32} (hin : vp_in x n) (hdg : decode cc pc = .ok (.iastore, 1))
    (kk : ∀ (H1 : Heap) (locs1 : List Loc), Wz D ca base ad ρ L (us σ k i x.toNatClampNeg v) H1 → va_S (Ab base) s.heap H1 locs1 → W p l e R s m args below meth c H1 locs1 cells slots Q (F0 m (pc + 1) ls rest)) : W p l e R s m args below meth c H locs cells slots Q (F0 m pc ls (.int v :: .int x :: .ref (ad k i) :: rest)) := by
  obtain ⟨hW, hsz⟩ := hW
  obtain ⟨n0, hn, hn2⟩ := hW.get hB
  rw [he] at hn2
  obtain ⟨hx, hb, -, ho, hts, -, -, hKn, -⟩ := hC
  refine W.iast hx hb (hW.1 n0 _ hn2) ((hKn.1.2 0 _ rfl).1 n (fun j => .int (σ k i j))) (fun q => by cases q) (by show ¬ (x < 0 ∨ (arrV _ _ _).slots.size ≤ _); rw [arrV_size]; exact hin) rfl rfl hdg fun H1 e z oq => ?_
  have hP1 := hW.1.set hW.2 hn2 (e := .inl (ca 0, n, .inl (upd (σ k i) x.toNatClampNeg v))) (by
    show H1[ad k i]? = some (vp_cell _ _)
    rw [e, vp_cell_i, vp_cell_i, arrV_store]
    congr 2
    funext q
    by_cases hq : q = x.toNatClampNeg
    · subst hq
      simp [updV, upd]
    · simp [updV, upd, hq]) oq
  have hD1 := hW.2.set hn2 (e := .inl (ca 0, n, .inl (upd (σ k i) x.toNatClampNeg v)))
  have e9 := wL_set (σ' := us σ k i x.toNatClampNeg v) (ρ' := ρ) hW.2 hn (by rw [us_same, he]) (fun k' i' h => us_off σ _ v h) (fun _ _ _ => rfl)
  rw [e9] at hP1 hD1
  exact kk H1 _ ⟨⟨hP1, hD1⟩, by rw [z, hsz]⟩ (hS.put z oq (hW.2.2 n0 _ hn2))
/-- an element of a row of references -/
theorem w_aastZ (hC : Cx p s m args meth c cc nL own ret D ca base) (hW : Wz D ca base ad ρ L σ H) (hS : va_S (Ab base) s.heap H locs) {kr ir : Nat} (hB : (kr, ir) ∈ L) {n t k' i N : Nat} {C : String} {T : u_T} {g : Nat → Nat} (he : ∀ r, wEl ca ad r (σ kr ir) kr ir = .inl (ca t, n, .inr (.inr (.inr (.inr (fun j => zrf ad r j k' (g j))))))) (ht : (wT ca)[t]? = some (ca t, .object C)) (hB2 : (k', i) ∈ L) (hk' : k' < 9) (hc : vwCl[k']? = some (C, T, N)) {x : Int32} (hin : vp_in x n) (hgi : g x.toNatClampNeg = i) (hdg : decode cc pc = .ok (.aastore, 1))
    (kk : ∀ (H1 : Heap) (locs1 : List Loc), Wz D ca base ad (ur ρ kr ir x.toNatClampNeg) L σ H1 → va_S (Ab base) s.heap H1 locs1 → W p l e R s m args below meth c H1 locs1 cells slots Q (F0 m (pc + 1) ls rest)) : W p l e R s m args below meth c H locs cells slots Q (F0 m pc ls (.ref (ad k' i) :: .int x :: .ref (ad kr ir) :: rest)) := by
  obtain ⟨hW, hsz⟩ := hW
  obtain ⟨n0, hn, hn2⟩ := hW.get hB
  obtain ⟨n1, -, hn3⟩ := hW.get hB2
  rw [he] at hn2
  rw [wEl, if_pos hk'] at hn3
  obtain ⟨hx, hb, -, ho, hts, -, -, hKn, -⟩ := hC
  have hlt : x.toNatClampNeg < n := Nat.not_le.mp fun q => hin (Or.inr q)
  have h0 : ¬ x < 0 := fun q => hin (Or.inl q)
  obtain ⟨r', hr', cellV, g1, g2, g3, -⟩ := hW.1 n1 _ hn3
  have hcls := (hKn.1.1 k' _ hc).2
  obtain ⟨kA, comp, k1, k2, k3, -⟩ := (hKn.1.2 t _ ht).2
  have hcomp : comp = D.1 k' := Option.some.inj (k3.symm.trans hcls.1)
  subst hcomp
  obtain ⟨kC, hkC, -⟩ := hcls.2
  refine W.aast hx hb (hW.1 n0 _ hn2) (fun q h => by cases h) (fun h => by cases h) k1 k2 rfl hkC ⟨h0, by show _ < (arrV _ _ _).slots.size; rw [arrV_size]; exact hlt⟩ g1 (fun q h => by rw [g3] at h; cases h) (by rw [g2]; exact hkC) (by rw [g2]; exact va_assign hcls) rfl rfl hdg fun H1 e z oq => ?_
  have hP1 := hW.1.set hW.2 hn2 (e := .inl (ca t, n, .inr (.inr (.inr (.inr (fun j => zrf ad (fun q => if q = x.toNatClampNeg then true else ρ kr ir q) j k' (g j))))))) (H1 := H1) (by
    show H1[ad kr ir]? = some (vp_cell _ _)
    rw [e, vp_cell_q, vp_cell_q, arrV_store]
    congr 2
    funext q
    by_cases hq : q = x.toNatClampNeg
    · subst hq
      simp [updV, va_rf, zrf, hgi]
    · simp [updV, zrf, hq]) oq
  have hD1 := hW.2.set hn2 (e := .inl (ca t, n, .inr (.inr (.inr (.inr (fun j => zrf ad (fun q => if q = x.toNatClampNeg then true else ρ kr ir q) j k' (g j)))))))
  have e9 := wL_set (σ' := σ) (ρ' := ur ρ kr ir x.toNatClampNeg) hW.2 hn (by rw [ur_same, he]) (fun _ _ _ => rfl) (fun k' i' h => ur_off ρ _ h)
  rw [e9] at hP1 hD1
  exact kk H1 _ ⟨⟨hP1, hD1⟩, by rw [z, hsz]⟩ (hS.put z oq (hW.2.2 n0 _ hn2))
end WN
/-- the values that the constructors leave -/
def sI : Sg := fun k _ j => match k with
  | 0 => if j = 7 then 7 else 0
  | 1 => if j = 4 then 17 else 0
  | 5 => if j = 6 then 7 else 0
  | 7 => if j = 10 ∨ j = 11 then 7 else 0
  | 8 => if j = 38 ∨ j = 39 then 7 else if j = 42 then 17 else 0
  | 17 => if j < 16 then -1 else 0
  | 20 => if j < 12 then -1 else 0
  | 47 => if j < 16 then -1 else 0
  | _ => 0
/-- behind a constructor of the object (k, i): the cells N came, the object and they are made, the others are as they were -/
def Nw (D : va_G) (ca : Nat → ClassId) (base : Nat) (ad : Adr) (k i : Nat) (L N : List (Nat × Nat)) (ρ : Rh) (σ : Sg) (ρ' : Rh) (σ' : Sg) (H : Heap) : Prop := Wz D ca base ad ρ' (L ++ N) σ' H ∧ (∀ x ∈ L, x ≠ (k, i) → σ' x.1 x.2 = σ x.1 x.2 ∧ ρ' x.1 x.2 = ρ x.1 x.2) ∧ ∀ x ∈ (k, i) :: N, σ' x.1 x.2 = sI x.1 x.2 ∧ ρ' x.1 x.2 = fun _ => true
def PreK (D : va_G) (ca : Nat → ClassId) (base : Nat) (ad : Adr) (ρ : Rh) (L : List (Nat × Nat)) (σ : Sg) (W0 : List Cond) (U : State) : Prop := Pre D ca base ad ρ L σ U ∧ U.heap.size = base + L.length ∧ ∀ w ∈ W0, va_Nw w U
def Rk (D : va_G) (ca : Nat → ClassId) (base : Nat) (ad : Adr) (k i : Nat) (L N : List (Nat × Nat)) (ρ : Rh) (σ : Sg) : Array Value → State → Outcome → State → Prop := fun _ st oc t => (oc = .returned none ∧ ∃ ρ' σ', Nw D ca base ad k i L N ρ σ ρ' σ' t.heap) ∧ va_F (Ab base) st t
def Mk (l : Launch) (y : MethodName) (b : ByteArray) (n : Nat) (rm : Room) (D : va_G) (ca : Nat → ClassId) (base : Nat) (ad : Adr) (k i : Nat) (L N : List (Nat × Nat)) (ρ : Rh) (σ : Sg) (W0 : List Cond) : Prop := Met l y (wsy y b n none) rm (va_Pc [.ref (ad k i)] (PreK D ca base ad ρ L σ W0)) (Rk D ca base ad k i L N ρ σ) rm.cells rm.slots (Ab base)
theorem PreK.blind {D : va_G} {ca : Nat → ClassId} {base : Nat} {ad : Adr} {ρ : Rh} {L : List (Nat × Nat)} {σ : Sg} {W0 : List Cond} (hW0 : ∀ w ∈ W0, w.onTables = true) (av : List Value) : FrameBlind (va_Pc av (PreK D ca base ad ρ L σ W0)) := by
  intro a U g mk h
  obtain ⟨h1, h2, h3, h4⟩ := h
  exact ⟨h1, (Pre.blind av a U g mk ⟨h1, h2⟩).2, h3, fun w hw => va_tabs (u := U) (U := U.calling g mk a) (hW0 w hw) rfl (h4 w hw)⟩
def CIw (y : MethodName) (b : ByteArray) (maxL : Nat) : Prop := (Cond.instanceMethod y ∈ lw_gd ∧ Cond.initialized y.cls ∈ lw_gd ∧ Cond.code y b maxL none ∈ lw_gd) ∧ ((y.cls ≠ "java/lang/invoke/MethodHandle" ∧ y.cls ≠ "java/lang/invoke/VarHandle") ∧ (parseMethodDescriptor y.desc).map (fun d => d.parameters.length) = some 0) ∧ y.name = "<init>"
section WK
variable {p : Program} {l : Launch} {e : Env} {R : Room} {s : State} {m : MethodId} {args : Array Value} {below : List Frame} {meth : Method} {c : Code} {H : Heap} {locs : List Loc} {cells slots : Nat} {Q : State → Prop}
variable {cc : ByteArray} {nL : Nat} {pc : Nat} {ls : Array Slot} {st rest : List Value} {own : String} {ret : Option FieldType} {D : va_G} {ca : Nat → ClassId} {base : Nat} {ad : Adr} {ρ : Rh} {L N : List (Nat × Nat)} {σ : Sg} {lv : List (Nat × Value)} {W0 : List Cond}
variable {y : MethodName} {b : ByteArray} {maxL index k i : Nat} {rm : Room}
theorem w_backK {a : Array Value} {mc ms : Nat} (hr : va_Run p l e R s m args below meth c H locs cells slots mc ms (F0 m pc ls st) rest (Rk D ca base ad k i L N ρ σ a) (Ab base)) (hS : va_S (Ab base) s.heap H locs)
    (kk : ∀ (ρ' : Rh) (σ' : Sg) (H1 : Heap) (locs1 : List Loc), Nw D ca base ad k i L N ρ σ ρ' σ' H1 → va_S (Ab base) s.heap H1 locs1 → W p l e R s m args below meth c H1 locs1 (cells + mc) (slots + ms) Q (F0 m (pc + 3) ls rest)) : W p l e R s m args below meth c H locs cells slots Q (F0 m pc ls st) := by
  intro T hT X
  obtain ⟨v, st₀, t, T', L2, h0, X', hL, e1, e2, ⟨⟨hv, ρ', σ', hw⟩, hF⟩, hst⟩ := hr T hT X
  cases hv
  obtain ⟨k1, k2, k3⟩ := vx_keep h0 e1 hS (fun q _ h => h) (fun q h => h) hL hF
  obtain ⟨t2, a1, b1⟩ := kk ρ' σ' T'.heap (locs ++ L2) (by rw [e1]; exact hw) k3 T' rfl X'
  exact ⟨t2, hst t2 a1, b1⟩
theorem w_preK (hC : Cx p s m args meth c cc nL own ret D ca base) (hW : Wz D ca base ad ρ L σ H) (hS : va_S (Ab base) s.heap H locs) (hW0 : ∀ U : State, s.WarmedH U.vm → ∀ w ∈ W0, va_Nw w U) : ∀ U : State, U.heap = H → s.WarmedH U.vm → PreK D ca base ad ρ L σ W0 U := fun U hU hWm => ⟨w_pre hC hW.1 hS U hU hWm, by rw [hU]; exact hW.2, hW0 U hWm⟩
theorem w_callI (hC : Cx p s m args meth c cc nL own ret D ca base) (hW : Wz D ca base ad ρ L σ H) (hS : va_S (Ab base) s.heap H locs) (hl : lv_has ls nL lv) (cv : CIw y b maxL) (hlk : Cond.methodLink own index y ∈ lw_gd) (hM : Mk l y b maxL rm D ca base ad k i L N ρ σ W0) (hT0 : ∀ w ∈ W0, w.onTables = true) (hW0 : ∀ U : State, s.WarmedH U.vm → ∀ w ∈ W0, va_Nw w U) (hst : st = .ref (ad k i) :: rest) (hR : rm.frames + 1 ≤ R.frames ∧ 8 + (maxL + 11) + rm.locals ≤ R.locals) (hcat : (rest.map fun v => v.category).sum ≤ 8) (hdg : decode cc pc = .ok (.invokespecial index, 3)) (hf : cells + rm.cells ≤ R.cells ∧ slots + rm.slots ≤ R.slots)
    (kk : ∀ (ρ' : Rh) (σ' : Sg) (H1 : Heap) (locs1 : List Loc), Nw D ca base ad k i L N ρ σ ρ' σ' H1 → va_S (Ab base) s.heap H1 locs1 → W p l e R s m args below meth c H1 locs1 (cells + rm.cells) (slots + rm.slots) Q (F0 m (pc + 3) ls rest)) : W p l e R s m args below meth c H locs cells slots Q (F0 m pc ls st) := by
  obtain ⟨⟨h2, h4, h5⟩, ⟨h6, h7⟩, h8⟩ := cv
  have ht := hC.2.2.2.2.1
  have hG : GoodIn lw_gd (wsy y b maxL none) := gdIn fun w hw => by
    rcases List.mem_cons.mp hw with rfl | hw
    · exact h5
    · exact hw
  have hr := va_runI (e := e) (R := R) (below := below) (meth := meth) (locs := locs) (cells := cells) (slots := slots) (g := F0 m pc ls st) (As := []) (rest := rest) (w_fix hC) hM ⟨callB_of 0 ht hG rfl rfl rfl (ht _ h4) (ht _ hlk) ⟨h6.1, h6.2, h7⟩ hR, h8, ht _ h2⟩ ⟨PreK.blind hT0 _, fun U hU hWm => ⟨rfl, w_preK hC hW hS hW0 U hU hWm⟩⟩ rfl rfl hl.1 hst (lv_room hcat) hdg hf
  exact w_backK hr hS kk
theorem w_callIN (hC : Cx p s m args meth c cc nL own ret D ca base) (hW : Wz D ca base ad ρ L σ H) (hS : va_S (Ab base) s.heap H locs) (hl : lv_has ls nL lv) (cv : CIw y b maxL) {host : String} (hlk : va_Nw (.methodLinkNest own index y host) s) (hM : Mk l y b maxL rm D ca base ad k i L N ρ σ []) (hst : st = .ref (ad k i) :: rest) (hR : rm.frames + 1 ≤ R.frames ∧ 8 + (maxL + 11) + rm.locals ≤ R.locals) (hcat : (rest.map fun v => v.category).sum ≤ 8) (hdg : decode cc pc = .ok (.invokespecial index, 3)) (hf : cells + rm.cells ≤ R.cells ∧ slots + rm.slots ≤ R.slots)
    (kk : ∀ (ρ' : Rh) (σ' : Sg) (H1 : Heap) (locs1 : List Loc), Nw D ca base ad k i L N ρ σ ρ' σ' H1 → va_S (Ab base) s.heap H1 locs1 → W p l e R s m args below meth c H1 locs1 (cells + rm.cells) (slots + rm.slots) Q (F0 m (pc + 3) ls rest)) : W p l e R s m args below meth c H locs cells slots Q (F0 m pc ls st) := by
  obtain ⟨⟨h2, h4, h5⟩, ⟨h6, h7⟩, h8⟩ := cv
  have ht := hC.2.2.2.2.1
  have hG : GoodIn lw_gd (wsy y b maxL none) := gdIn fun w hw => by
    rcases List.mem_cons.mp hw with rfl | hw
    · exact h5
    · exact hw
  have hr := va_runIN (e := e) (R := R) (below := below) (meth := meth) (locs := locs) (cells := cells) (slots := slots) (g := F0 m pc ls st) (As := []) (rest := rest) (w_fix hC) hM ⟨va_cnB 0 ht hG rfl rfl rfl hlk (ht _ h4) ⟨h6.1, h6.2, h7⟩ hR, h8, ht _ h2⟩ ⟨PreK.blind (fun _ h => by cases h) _, fun U hU hWm => ⟨rfl, w_preK hC hW hS (fun _ _ _ h => by cases h) U hU hWm⟩⟩ rfl rfl hl.1 hst (lv_room hcat) hdg hf
  exact w_backK hr hS kk
theorem w_ofK (hy : plainName y.cls = true) (hn : y.name = "<init>") (hav : 1 ≤ maxL)
    (body : ∀ p e s m args below meth c, Cx p s m args meth c b maxL y.cls none D ca base → Wz D ca base ad ρ L σ s.heap → va_S (Ab base) s.heap s.heap [] → (∀ w ∈ W0, va_Nw w s) → ∀ ls : Array Slot, lv_has ls maxL [(0, .ref (ad k i))] → meth.name = "<init>" →
      W p l e rm s m args below meth c s.heap [] 0 0 (MQ below (Rk D ca base ad k i L N ρ σ) args s rm.cells rm.slots (Ab base)) (F0 m 0 ls [])) : Mk l y b maxL rm D ca base ad k i L N ρ σ W0 := by
  refine Met.ofW (cc := b) (maxL := maxL) (ret := none) hy rfl ?_
  intro p e s m args below meth c s₁ B hml hv
  obtain ⟨rfl, ⟨hW, hKn, hZ, hbs⟩, hsz, hw0⟩ := hv
  have hts := atoms_spec (ws := wsy y b maxL none) B.pre
  rw [lg_entry_eq]
  exact body p e s m _ below meth c ⟨B.exec, B.bytes, hml, findClass_of_methodNamed B.named, fun w hw => hts w (List.mem_cons_of_mem _ hw), B.returns, B.notSynchronized, hKn, hZ, hbs⟩ ⟨hW, hsz⟩ va_S.rf hw0 _ (lv_entry [.ref (ad k i)] hav) ((name_of_methodNamed B.named B.method).1.trans hn)
theorem w_vretK {mc ms : Nat} {ρ' : Rh} {σ' : Sg} (hC : Cx p s m args meth c cc nL own none D ca base) (hW : Nw D ca base ad k i L N ρ σ ρ' σ' H) (hS : va_S (Ab base) s.heap H locs) (hc : cells ≤ mc) (hs : slots ≤ ms) (hdg : decode cc pc = .ok (.return_, 1)) : W p l e R s m args below meth c H locs cells slots (MQ below (Rk D ca base ad k i L N ρ σ) args s mc ms (Ab base)) (F0 m pc ls []) := by
  obtain ⟨hx, hb, -, -, -, hr, hlk, -⟩ := hC
  exact W.widen hc hs (W.vret hx hb hr (fun t ht _ => ⟨⟨rfl, ρ', σ', by rw [ht]; exact hW⟩, hS.F ht⟩) hS.2.2 hdg hlk)
theorem w_objI (hC : Cx p s m args meth c cc nL own ret D ca base) (hl : lv_has ls nL lv) {a : Nat} (hlk : Cond.methodLink own index Lib.objectInit ∈ lw_gd) (hdg : decode cc pc = .ok (.invokespecial index, 3)) (hR : 1 ≤ R.frames ∧ (rest.map fun v => v.category).sum + 12 ≤ R.locals)
    (kk : W p l e R s m args below meth c H locs cells slots Q (F0 m (pc + 3) ls rest)) : W p l e R s m args below meth c H locs cells slots Q (F0 m pc ls (.ref a :: rest)) := by
  obtain ⟨hx, hb, hml, ho, hts, -⟩ := hC
  refine W.objInit hx hb ho (hts _ hlk) (hts _ q_69) (hts _ q_70) rfl (by rw [hml]; exact hl.1) rfl hdg hR.1 ?_ ?_
  · show 2 * (F0 m pc ls (.ref a :: rest)).monitorRoom + _ + 12 ≤ _
    have h0 : (F0 m pc ls (.ref a :: rest)).monitorRoom = 0 := rfl
    omega
  · exact W.eq (g2 := F0 m (pc + 3) ls rest) rfl kk
end WK
