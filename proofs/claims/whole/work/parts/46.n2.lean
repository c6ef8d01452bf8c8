/-! a constructor's own walk: what it has done so far -/
def rq (t : List Nat) : Nat → Bool := fun j => !t.contains j
theorem rq_step {j : Nat} {t : List Nat} (h : j ∉ t) : (fun q => if q = j then true else rq (j :: t) q) = rq t := by
  funext q
  by_cases e : q = j
  · subst e
    simp [rq, h]
  · simp [rq, e]
theorem rq_nil : rq [] = fun _ => true := rfl
def Iv (k i : Nat) (L N : List (Nat × Nat)) (ρ : Rh) (σ : Sg) (ρc : Rh) (σc : Sg) (r : Nat → Bool) (f : Nat → Int32) (g : Sg) : Prop := (∀ x ∈ L, x ≠ (k, i) → σc x.1 x.2 = σ x.1 x.2 ∧ ρc x.1 x.2 = ρ x.1 x.2) ∧ ρc k i = r ∧ σc k i = f ∧ (∀ x ∈ N, σc x.1 x.2 = g x.1 x.2 ∧ ρc x.1 x.2 = fun _ => true) ∧ (k, i) ∈ L ∧ ∀ x ∈ N, x ∉ L
theorem Iv.nw {D : va_G} {ca : Nat → ClassId} {base : Nat} {ad : Adr} {k i : Nat} {L N : List (Nat × Nat)} {ρ : Rh} {σ : Sg} {ρc : Rh} {σc : Sg} {r : Nat → Bool} {f : Nat → Int32} {g : Sg} {H : Heap} (hI : Iv k i L N ρ σ ρc σc r f g) (hW : Wz D ca base ad ρc (L ++ N) σc H) (hr : r = fun _ => true) (hf : f = sI k i) (hg : ∀ x ∈ N, g x.1 x.2 = sI x.1 x.2) : Nw D ca base ad k i L N ρ σ ρc σc H := by
  obtain ⟨h1, h2, h3, h4, h5, h6⟩ := hI
  refine ⟨hW, h1, fun x hx => ?_⟩
  rcases List.mem_cons.mp hx with rfl | hx
  · exact ⟨by rw [h3, hf], by rw [h2, hr]⟩
  · exact ⟨by rw [(h4 x hx).1, hg x hx], (h4 x hx).2⟩
section WI
variable {p : Program} {l : Launch} {e : Env} {R : Room} {s : State} {m : MethodId} {args : Array Value} {below : List Frame} {meth : Method} {c : Code} {H : Heap} {locs : List Loc} {cells slots c2 s2 : Nat} {Q : State → Prop}
variable {cc : ByteArray} {nL : Nat} {pc : Nat} {ls : Array Slot} {rest : List Value} {own : String} {ret : Option FieldType} {D : va_G} {ca : Nat → ClassId} {base : Nat} {ad : Adr} {ρ ρc : Rh} {L N N2 : List (Nat × Nat)} {σ σc : Sg} {r r2 : Nat → Bool} {f f2 : Nat → Int32} {g : Sg} {k i : Nat}
theorem n_newa (hC : Cx p s m args meth c cc nL own ret D ca base) (hW : Wz D ca base ad ρc (L ++ N) σc H) (hI : Iv k i L N ρ σ ρc σc r f g) (hS : va_S (Ab base) s.heap H locs) {kr ir : Nat} (had : ad kr ir = base + (L.length + N.length)) {atype : ArrayType} {ty : FieldType} (hty : newarray.typeOf atype = ty) (harr : Cond.arrayClass ty ∈ lw_gd) {t : Nat} (ht : (wT ca)[t]? = some (ca t, ty)) (hRA : ∀ cA : ClassId, va_RA s cA ty = (s.vm.findClass ("[" ++ ty.toString) = some cA)) {n : Int32} {n2 : Nat} {a0 : vp_A} (he : wEl ca ad (rb kr) (fun _ => 0) kr ir = .inl (ca t, a0)) (ha : ∀ cA : ClassId, vp_cell cA a0 = arrV cA n2 (fun _ => defaultValue ty)) (hn : ¬ n < 0) (hN : n.toNatClampNeg = n2) (hbytes : n2 * componentBytes ty ≤ 536870912) (hg : g kr ir = fun _ => 0) (hb9 : refs kr = []) (hcells : cells + 1 ≤ R.cells) (hslots : slots + n2 ≤ R.slots) (hdg : decode cc pc = .ok (.newarray atype, 2)) (e1 : cells + 1 = c2) (e2 : slots + n2 = s2) (e3 : N ++ [(kr, ir)] = N2)
    (kk : ∀ (ρ' : Rh) (σ' : Sg) (H1 : Heap), Wz D ca base ad ρ' (L ++ N2) σ' H1 → Iv k i L N2 ρ σ ρ' σ' r f g → va_S (Ab base) s.heap H1 locs → W p l e R s m args below meth c H1 locs c2 s2 Q (F0 m (pc + 2) ls (.ref (ad kr ir) :: rest))) : W p l e R s m args below meth c H locs cells slots Q (F0 m pc ls (.int n :: rest)) := by
  subst e1; subst e2; subst e3
  refine w_newa hC hW hS (k := kr) (i := ir) (by rw [had, List.length_append]) hty harr ht hRA he ha hn hN hbytes hcells hslots hdg fun H1 hnot hW1 hS1 => ?_
  rw [List.append_assoc] at hW1
  obtain ⟨h1, h2, h3, h4, h5, h6⟩ := hI
  have hnL : (kr, ir) ∉ L := fun q => hnot (List.mem_append_left _ q)
  have hnN : (kr, ir) ∉ N := fun q => hnot (List.mem_append_right _ q)
  have off : ∀ x : Nat × Nat, x ≠ (kr, ir) → sz σc kr ir x.1 x.2 = σc x.1 x.2 ∧ rz ρc kr ir x.1 x.2 = ρc x.1 x.2 := fun x hx => by
    have : ¬ (x.1 = kr ∧ x.2 = ir) := fun q => hx (by rw [← q.1, ← q.2])
    simp only [sz, rz, if_neg this, and_self]
  refine kk _ _ H1 hW1 ⟨fun x hx hne => ?_, ?_, ?_, fun x hx => ?_, h5, fun x hx => ?_⟩ hS1
  · have o := off x (fun q => hnL (q ▸ hx))
    rw [o.1, o.2]
    exact h1 x hx hne
  · have o := off (k, i) (fun q => hnL (q ▸ h5))
    exact o.2.trans h2
  · have o := off (k, i) (fun q => hnL (q ▸ h5))
    exact o.1.trans h3
  · rcases List.mem_append.mp hx with hx | hx
    · have o := off x (fun q => hnN (q ▸ hx))
      rw [o.1, o.2]
      exact h4 x hx
    · rw [List.mem_singleton.mp hx]
      have e : rb kr = fun _ => true := by funext q; simp [rb, hb9]
      simp only [sz, rz, and_self, if_true, hg, e]
  · rcases List.mem_append.mp hx with hx | hx
    · exact h6 x hx
    · rw [List.mem_singleton.mp hx]
      exact hnL
theorem n_putF (hC : Cx p s m args meth c cc nL own ret D ca base) (hW : Wz D ca base ad ρc (L ++ N) σc H) (hI : Iv k i L N ρ σ ρc σc r f g) (hS : va_S (Ab base) s.heap H locs) {NF : Nat} {T : u_T} {ty : Nat → FieldType} {fs : List Value} (he : wEl ca ad r f k i = .inr (k, fs)) (hK : KF k own T NF ty) (j : Nat) (hj : j < NF) {index : Nat} (hlink : Cond.fieldLink own index (T j).1 (T j).2.1 (T j).2.2.1 ∈ lw_gd) (hfin : (T j).2.2.2 = true) (hin : meth.name = "<init>") (hdecl : (T j).1 = own) {tj : FieldType} {v : Nat} (hd : parseFieldDescriptor (T j).2.2.1 = some tj) (hnw : narrow tj (.ref v) = .ref v) (hfit : fits tj (.ref v) = true) (hl : j < fs.length) (hr2 : (fun q => if q = j then true else r q) = r2) (hset : wEl ca ad r2 f k i = .inr (k, fs.set j (.ref v))) (hdg : decode cc pc = .ok (.putfield index, 3))
    (kk : ∀ (ρ' : Rh) (H1 : Heap) (locs1 : List Loc), Wz D ca base ad ρ' (L ++ N) σc H1 → Iv k i L N ρ σ ρ' σc r2 f g → va_S (Ab base) s.heap H1 locs1 → W p l e R s m args below meth c H1 locs1 cells slots Q (F0 m (pc + 3) ls rest)) : W p l e R s m args below meth c H locs cells slots Q (F0 m pc ls (.ref v :: .ref (ad k i) :: rest)) := by
  subst hr2
  obtain ⟨h1, h2, h3, h4, h5, h6⟩ := hI
  refine w_putF hC hW hS (List.mem_append_left _ h5) (by rw [h2, h3]; exact he) hK j hj hlink hfin hin hdecl hd hnw hfit hl (by rw [h2, h3]; exact hset) hdg fun H1 locs1 hW1 hS1 => ?_
  refine kk _ H1 locs1 hW1 ⟨fun x hx hne => ?_, by rw [ur_same, h2], h3, fun x hx => ?_, h5, h6⟩ hS1
  · rw [ur_off ρc j (k' := x.1) (i' := x.2) hne]
    exact h1 x hx hne
  · rw [ur_off ρc j (k' := x.1) (i' := x.2) (fun q => h6 x hx (by rw [show x = (k, i) from q]; exact h5))]
    exact h4 x hx
theorem n_putI (hC : Cx p s m args meth c cc nL own ret D ca base) (hW : Wz D ca base ad ρc (L ++ N) σc H) (hI : Iv k i L N ρ σ ρc σc r f g) (hS : va_S (Ab base) s.heap H locs) {NF : Nat} {C : String} {T : u_T} {ty : Nat → FieldType} {fs : List Value} (he : wEl ca ad r f k i = .inr (k, fs)) (hK : KF k C T NF ty) (j : Nat) (hj : j < NF) {index : Nat} (hlink : Cond.fieldLink own index (T j).1 (T j).2.1 (T j).2.2.1 ∈ lw_gd) (hfin : (T j).2.2.2 = false) {tj : FieldType} {x : Int32} (hd : parseFieldDescriptor (T j).2.2.1 = some tj) (hnw : narrow tj (.int x) = .int x) (hfit : fits tj (.int x) = true) (hl : j < fs.length) (hf2 : upd f j x = f2) (hset : wEl ca ad r f2 k i = .inr (k, fs.set j (.int x))) (hdg : decode cc pc = .ok (.putfield index, 3))
    (kk : ∀ (σ' : Sg) (H1 : Heap) (locs1 : List Loc), Wz D ca base ad ρc (L ++ N) σ' H1 → Iv k i L N ρ σ ρc σ' r f2 g → va_S (Ab base) s.heap H1 locs1 → W p l e R s m args below meth c H1 locs1 cells slots Q (F0 m (pc + 3) ls rest)) : W p l e R s m args below meth c H locs cells slots Q (F0 m pc ls (.int x :: .ref (ad k i) :: rest)) := by
  subst hf2
  obtain ⟨h1, h2, h3, h4, h5, h6⟩ := hI
  refine w_putI hC hW hS (List.mem_append_left _ h5) (by rw [h2, h3]; exact he) hK j hj hlink hfin hd hnw hfit hl (by rw [h2, h3]; exact hset) hdg fun H1 locs1 hW1 hS1 => ?_
  refine kk _ H1 locs1 hW1 ⟨fun y hx hne => ?_, h2, by rw [us_same, h3], fun y hx => ?_, h5, h6⟩ hS1
  · rw [us_off σc j x (k' := y.1) (i' := y.2) hne]
    exact h1 y hx hne
  · rw [us_off σc j x (k' := y.1) (i' := y.2) (fun q => h6 y hx (by rw [show y = (k, i) from q]; exact h5))]
    exact h4 y hx
theorem n_iast (hC : Cx p s m args meth c cc nL own ret D ca base) (hW : Wz D ca base ad ρc (L ++ N) σc H) (hI : Iv k i L N ρ σ ρc σc r f g) (hS : va_S (Ab base) s.heap H locs) {kr ir : Nat} (hB : (kr, ir) ∈ N) {n : Nat} (he : ∀ f : Nat → Int32, wEl ca ad (fun _ => true) f kr ir = .inl (ca 0, n, .inl f)) {x v : Int32} (hin : vp_in x n) (hdg : decode cc pc = .ok (.iastore, 1))
    (kk : ∀ (σ' : Sg) (H1 : Heap) (locs1 : List Loc), Wz D ca base ad ρc (L ++ N) σ' H1 → Iv k i L N ρ σ ρc σ' r f (us g kr ir x.toNatClampNeg v) → va_S (Ab base) s.heap H1 locs1 → W p l e R s m args below meth c H1 locs1 cells slots Q (F0 m (pc + 1) ls rest)) : W p l e R s m args below meth c H locs cells slots Q (F0 m pc ls (.int v :: .int x :: .ref (ad kr ir) :: rest)) := by
  obtain ⟨h1, h2, h3, h4, h5, h6⟩ := hI
  refine w_iastZ hC hW hS (List.mem_append_right _ hB) (fun f => by rw [(h4 _ hB).2]; exact he f) hin hdg fun H1 locs1 hW1 hS1 => ?_
  refine kk _ H1 locs1 hW1 ⟨fun y hx hne => ?_, h2, ?_, fun y hx => ?_, h5, h6⟩ hS1
  · rw [us_off σc _ v (k' := y.1) (i' := y.2) (fun q => h6 _ hB (by rw [← show y = (kr, ir) from q]; exact hx))]
    exact h1 y hx hne
  · rw [us_off σc _ v (k' := k) (i' := i) (fun q => h6 _ hB (q ▸ h5)), h3]
  · by_cases q : y = (kr, ir)
    · subst q
      have := h4 _ hB
      exact ⟨by rw [us_same, us_same, this.1], this.2⟩
    · rw [us_off σc _ v (k' := y.1) (i' := y.2) q, us_off g _ v (k' := y.1) (i' := y.2) q]
      exact h4 y hx
end WI
