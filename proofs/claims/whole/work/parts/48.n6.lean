/-! a constructor that makes objects: what it has done so far, h: which references of the cells that came are set -/
def Jv (k i : Nat) (L N : List (Nat × Nat)) (ρ : Rh) (σ : Sg) (ρc : Rh) (σc : Sg) (r : Nat → Bool) (f : Nat → Int32) (h : Rh) : Prop := (∀ x ∈ L, x ≠ (k, i) → σc x.1 x.2 = σ x.1 x.2 ∧ ρc x.1 x.2 = ρ x.1 x.2) ∧ ρc k i = r ∧ σc k i = f ∧ (∀ x ∈ N, σc x.1 x.2 = sI x.1 x.2 ∧ ρc x.1 x.2 = h x.1 x.2) ∧ (k, i) ∈ L ∧ ∀ x ∈ N, x ∉ L
section WJ
variable {p : Program} {l : Launch} {e : Env} {R : Room} {s : State} {m : MethodId} {args : Array Value} {below : List Frame} {meth : Method} {c : Code} {H : Heap} {locs : List Loc} {cells slots c2 s2 : Nat} {Q : State → Prop}
variable {cc : ByteArray} {nL : Nat} {pc : Nat} {ls : Array Slot} {rest : List Value} {own : String} {ret : Option FieldType} {D : va_G} {ca : Nat → ClassId} {base : Nat} {ad : Adr} {ρ ρc : Rh} {L N N2 N9 : List (Nat × Nat)} {σ σc : Sg} {r r2 : Nat → Bool} {f f2 : Nat → Int32} {h : Rh} {k i : Nat} {lv : List (Nat × Value)}
theorem j_make (hC : Cx p s m args meth c cc nL own ret D ca base) (hW : Wz D ca base ad ρc (L ++ N) σc H) (hJ : Jv k i L N ρ σ ρc σc r f h) (hS : va_S (Ab base) s.heap H locs) (hl : lv_has ls nL lv) {k1 i1 : Nat} (had : ad k1 i1 = base + (L.length + N.length)) {index NF : Nat} {C : String} {T : u_T} {ty : Nat → FieldType} (hK : KF k1 C T NF ty) (hcl : Cond.classLink own index C ∈ lw_gd) (hinst : Cond.instantiable C NF ∈ lw_gd) (hini : Cond.initialized C ∈ lw_gd) {fs : List Value} (he : wEl ca ad (rb k1) (fun _ => 0) k1 i1 = .inr (k1, fs)) (hfs : ∀ j, j < NF → defaultValue (ty j) = vp_V fs j) {y : MethodName} {b : ByteArray} {maxL idx2 : Nat} {rm : Room} (cv : CIw y b maxL) (hlk : Cond.methodLink own idx2 y ∈ lw_gd ∨ ∃ host, va_Nw (.methodLinkNest own idx2 y host) s) (hM : ∀ (ρ2 : Rh) (σ2 : Sg), ρ2 k1 i1 = rb k1 → σ2 k1 i1 = (fun _ => 0) → Mk l y b maxL rm D ca base ad k1 i1 (L ++ (N ++ [(k1, i1)])) N9 ρ2 σ2 []) (hh : ∀ x ∈ (k1, i1) :: N9, h x.1 x.2 = fun _ => true) (hdis : ∀ x ∈ (k1, i1) :: N9, x ∉ L) (hR : rm.frames + 1 ≤ R.frames ∧ 8 + (maxL + 11) + rm.locals ≤ R.locals) (hcat : ((rest.map fun v => v.category).sum + 1) ≤ 8) (hf : cells + (1 + rm.cells) ≤ R.cells ∧ slots + (NF + rm.slots) ≤ R.slots) (d1 : decode cc pc = .ok (.new index, 3)) (d2 : decode cc (pc + 3) = .ok (.dup, 1)) (d3 : decode cc (pc + 3 + 1) = .ok (.invokespecial idx2, 3)) (e1 : cells + (1 + rm.cells) = c2) (e2 : slots + (NF + rm.slots) = s2) (e3 : N ++ (k1, i1) :: N9 = N2)
    (kk : ∀ (ρ' : Rh) (σ' : Sg) (H1 : Heap) (locs1 : List Loc), Wz D ca base ad ρ' (L ++ N2) σ' H1 → Jv k i L N2 ρ σ ρ' σ' r f h → va_S (Ab base) s.heap H1 locs1 → W p l e R s m args below meth c H1 locs1 c2 s2 Q (F0 m (pc + 7) ls (.ref (ad k1 i1) :: rest))) : W p l e R s m args below meth c H locs cells slots Q (F0 m pc ls rest) := by
  subst e1; subst e2; subst e3
  obtain ⟨h1, h2, h3, h4, h5, h6⟩ := hJ
  refine w_new hC hW hS (k := k1) (i := i1) (by rw [had, List.length_append]) hK hcl hinst hini he hfs (by omega) (by omega) d1 fun H1 hnot hW1 hS1 => ?_
  rw [List.append_assoc] at hW1
  refine lv_dup hC.1 hC.2.1 d2 rfl ?_
  have hcat2 : ((Value.ref (ad k1 i1) :: rest).map fun v => v.category).sum ≤ 8 := by
    rw [List.map_cons, List.sum_cons]
    show 1 + _ ≤ 8
    omega
  have hM2 := hM (rz ρc k1 i1) (sz σc k1 i1) (by simp [rz]) (by simp [sz])
  have off : ∀ x : Nat × Nat, x ≠ (k1, i1) → sz σc k1 i1 x.1 x.2 = σc x.1 x.2 ∧ rz ρc k1 i1 x.1 x.2 = ρc x.1 x.2 := fun x hx => by
    have : ¬ (x.1 = k1 ∧ x.2 = i1) := fun q => hx (by rw [← q.1, ← q.2])
    simp only [sz, rz, if_neg this, and_self]
  have fin : ∀ (ρ' : Rh) (σ' : Sg) (H2 : Heap) (locs2 : List Loc), Nw D ca base ad k1 i1 (L ++ (N ++ [(k1, i1)])) N9 (rz ρc k1 i1) (sz σc k1 i1) ρ' σ' H2 → va_S (Ab base) s.heap H2 locs2 → W p l e R s m args below meth c H2 locs2 (cells + 1 + rm.cells) (slots + NF + rm.slots) Q (F0 m (pc + 3 + 1 + 3) ls (.ref (ad k1 i1) :: rest)) := by
    intro ρ' σ' H2 locs2 hN hS2
    obtain ⟨g1, g2, g3⟩ := hN
    have eL : (L ++ (N ++ [(k1, i1)])) ++ N9 = L ++ (N ++ (k1, i1) :: N9) := by simp
    rw [eL] at g1
    have old : ∀ x : Nat × Nat, x ∈ L ++ N → σ' x.1 x.2 = σc x.1 x.2 ∧ ρ' x.1 x.2 = ρc x.1 x.2 := fun x hx => by
      have hne : x ≠ (k1, i1) := fun q => hnot (q ▸ hx)
      have o := off x hne
      have o2 := g2 x (by
        rcases List.mem_append.mp hx with q | q
        · exact List.mem_append_left _ q
        · exact List.mem_append_right _ (List.mem_append_left _ q)) hne
      exact ⟨o2.1.trans o.1, o2.2.trans o.2⟩
    have hJ2 : Jv k i L (N ++ (k1, i1) :: N9) ρ σ ρ' σ' r f h := by
      refine ⟨fun x hx hne => ?_, ?_, ?_, fun x hx => ?_, h5, fun x hx => ?_⟩
      · have o := old x (List.mem_append_left _ hx)
        have o2 := h1 x hx hne
        exact ⟨o.1.trans o2.1, o.2.trans o2.2⟩
      · exact (old (k, i) (List.mem_append_left _ h5)).2.trans h2
      · exact (old (k, i) (List.mem_append_left _ h5)).1.trans h3
      · rcases List.mem_append.mp hx with q | q
        · have o := old x (List.mem_append_right _ q)
          have o2 := h4 x q
          exact ⟨o.1.trans o2.1, o.2.trans o2.2⟩
        · have o := g3 x q
          exact ⟨o.1, o.2.trans (hh x q).symm⟩
      · rcases List.mem_append.mp hx with q | q
        · exact h6 x q
        · exact hdis x q
    have K := kk ρ' σ' H2 locs2 g1 hJ2 hS2
    rw [show cells + 1 + rm.cells = cells + (1 + rm.cells) by omega, show slots + NF + rm.slots = slots + (NF + rm.slots) by omega]
    exact K
  rcases hlk with hlk | ⟨host, hlk⟩
  · exact w_callI hC hW1 hS1 hl cv hlk hM2 (fun _ q => by cases q) (fun _ _ _ q => by cases q) rfl hR hcat2 d3 (by omega) fin
  · exact w_callIN hC hW1 hS1 hl cv hlk hM2 rfl hR hcat2 d3 (by omega) fin
theorem j_putF (hC : Cx p s m args meth c cc nL own ret D ca base) (hW : Wz D ca base ad ρc (L ++ N) σc H) (hJ : Jv k i L N ρ σ ρc σc r f h) (hS : va_S (Ab base) s.heap H locs) {NF : Nat} {T : u_T} {ty : Nat → FieldType} {fs : List Value} (he : wEl ca ad r f k i = .inr (k, fs)) (hK : KF k own T NF ty) (j : Nat) (hj : j < NF) {index : Nat} (hlink : Cond.fieldLink own index (T j).1 (T j).2.1 (T j).2.2.1 ∈ lw_gd) (hfin : (T j).2.2.2 = true) (hin : meth.name = "<init>") (hdecl : (T j).1 = own) {tj : FieldType} {v : Nat} (hd : parseFieldDescriptor (T j).2.2.1 = some tj) (hnw : narrow tj (.ref v) = .ref v) (hfit : fits tj (.ref v) = true) (hl : j < fs.length) (hr2 : (fun q => if q = j then true else r q) = r2) (hset : wEl ca ad r2 f k i = .inr (k, fs.set j (.ref v))) (hdg : decode cc pc = .ok (.putfield index, 3))
    (kk : ∀ (ρ' : Rh) (H1 : Heap) (locs1 : List Loc), Wz D ca base ad ρ' (L ++ N) σc H1 → Jv k i L N ρ σ ρ' σc r2 f h → va_S (Ab base) s.heap H1 locs1 → W p l e R s m args below meth c H1 locs1 cells slots Q (F0 m (pc + 3) ls rest)) : W p l e R s m args below meth c H locs cells slots Q (F0 m pc ls (.ref v :: .ref (ad k i) :: rest)) := by
  subst hr2
  obtain ⟨h1, h2, h3, h4, h5, h6⟩ := hJ
  refine w_putF hC hW hS (List.mem_append_left _ h5) (by rw [h2, h3]; exact he) hK j hj hlink hfin hin hdecl hd hnw hfit hl (by rw [h2, h3]; exact hset) hdg fun H1 locs1 hW1 hS1 => ?_
  refine kk _ H1 locs1 hW1 ⟨fun x hx hne => ?_, by rw [ur_same, h2], h3, fun x hx => ?_, h5, h6⟩ hS1
  · rw [ur_off ρc j (k' := x.1) (i' := x.2) hne]
    exact h1 x hx hne
  · rw [ur_off ρc j (k' := x.1) (i' := x.2) (fun q => h6 x hx (by rw [show x = (k, i) from q]; exact h5))]
    exact h4 x hx
theorem j_putI (hC : Cx p s m args meth c cc nL own ret D ca base) (hW : Wz D ca base ad ρc (L ++ N) σc H) (hJ : Jv k i L N ρ σ ρc σc r f h) (hS : va_S (Ab base) s.heap H locs) {NF : Nat} {C : String} {T : u_T} {ty : Nat → FieldType} {fs : List Value} (he : wEl ca ad r f k i = .inr (k, fs)) (hK : KF k C T NF ty) (j : Nat) (hj : j < NF) {index : Nat} (hlink : Cond.fieldLink own index (T j).1 (T j).2.1 (T j).2.2.1 ∈ lw_gd) (hfin : (T j).2.2.2 = false) {tj : FieldType} {x : Int32} (hd : parseFieldDescriptor (T j).2.2.1 = some tj) (hnw : narrow tj (.int x) = .int x) (hfit : fits tj (.int x) = true) (hl : j < fs.length) (hf2 : upd f j x = f2) (hset : wEl ca ad r f2 k i = .inr (k, fs.set j (.int x))) (hdg : decode cc pc = .ok (.putfield index, 3))
    (kk : ∀ (σ' : Sg) (H1 : Heap) (locs1 : List Loc), Wz D ca base ad ρc (L ++ N) σ' H1 → Jv k i L N ρ σ ρc σ' r f2 h → va_S (Ab base) s.heap H1 locs1 → W p l e R s m args below meth c H1 locs1 cells slots Q (F0 m (pc + 3) ls rest)) : W p l e R s m args below meth c H locs cells slots Q (F0 m pc ls (.int x :: .ref (ad k i) :: rest)) := by
  subst hf2
  obtain ⟨h1, h2, h3, h4, h5, h6⟩ := hJ
  refine w_putI hC hW hS (List.mem_append_left _ h5) (by rw [h2, h3]; exact he) hK j hj hlink hfin hd hnw hfit hl (by rw [h2, h3]; exact hset) hdg fun H1 locs1 hW1 hS1 => ?_
  refine kk _ H1 locs1 hW1 ⟨fun y hx hne => ?_, h2, by rw [us_same, h3], fun y hx => ?_, h5, h6⟩ hS1
  · rw [us_off σc j x (k' := y.1) (i' := y.2) hne]
    exact h1 y hx hne
  · rw [us_off σc j x (k' := y.1) (i' := y.2) (fun q => h6 y hx (by rw [show y = (k, i) from q]; exact h5))]
    exact h4 y hx
/-- a cell came: the walk's own facts behind it -/
theorem Jv.born {kr ir : Nat} (hJ : Jv k i L N ρ σ ρc σc r f h) (hnot : (kr, ir) ∉ L ++ N) (hs : sI kr ir = fun _ => 0) (hh : h kr ir = rb kr) : Jv k i L (N ++ [(kr, ir)]) ρ σ (rz ρc kr ir) (sz σc kr ir) r f h := by
  obtain ⟨h1, h2, h3, h4, h5, h6⟩ := hJ
  have hnL : (kr, ir) ∉ L := fun q => hnot (List.mem_append_left _ q)
  have hnN : (kr, ir) ∉ N := fun q => hnot (List.mem_append_right _ q)
  have off : ∀ x : Nat × Nat, x ≠ (kr, ir) → sz σc kr ir x.1 x.2 = σc x.1 x.2 ∧ rz ρc kr ir x.1 x.2 = ρc x.1 x.2 := fun x hx => by
    have : ¬ (x.1 = kr ∧ x.2 = ir) := fun q => hx (by rw [← q.1, ← q.2])
    simp only [sz, rz, if_neg this, and_self]
  refine ⟨fun x hx hne => ?_, ?_, ?_, fun x hx => ?_, h5, fun x hx => ?_⟩
  · have o := off x (fun q => hnL (q ▸ hx))
    rw [o.1, o.2]
    exact h1 x hx hne
  · have o := off (k, i) (fun q => hnL (q ▸ h5))
    exact o.2.trans h2
  · have o := off (k, i) (fun q => hnL (q ▸ h5))
    exact o.1.trans h3
  · rcases List.mem_append.mp hx with hx | hx
    · have o := off x (fun q => hnN (q ▸ hx))
      rw [o.1, o.2]
      exact h4 x hx
    · rw [List.mem_singleton.mp hx]
      simp only [sz, rz, and_self, if_true, hs, hh]
  · rcases List.mem_append.mp hx with hx | hx
    · exact h6 x hx
    · rw [List.mem_singleton.mp hx]
      exact hnL
/-- a reference was put into a row -/
theorem Jv.row {kr ir j : Nat} {h2 : Rh} (hJ : Jv k i L N ρ σ ρc σc r f h) (hB : (kr, ir) ∈ N) (hh : ur h kr ir j = h2) : Jv k i L N ρ σ (ur ρc kr ir j) σc r f h2 := by
  subst hh
  obtain ⟨h1, h2, h3, h4, h5, h6⟩ := hJ
  refine ⟨fun y hx hne => ?_, ?_, h3, fun y hx => ?_, h5, h6⟩
  · rw [ur_off ρc j (k' := y.1) (i' := y.2) (fun q => h6 _ hB (by rw [← show y = (kr, ir) from q]; exact hx))]
    exact h1 y hx hne
  · rw [ur_off ρc j (k' := k) (i' := i) (fun q => h6 _ hB (q ▸ h5)), h2]
  · by_cases q : y = (kr, ir)
    · subst q
      have := h4 _ hB
      exact ⟨this.1, by rw [ur_same, ur_same, this.2]⟩
    · rw [ur_off ρc j (k' := y.1) (i' := y.2) q, ur_off h j (k' := y.1) (i' := y.2) q]
      exact h4 y hx
theorem Jv.nw (hJ : Jv k i L N ρ σ ρc σc r f h) (hW : Wz D ca base ad ρc (L ++ N) σc H) (hr : r = fun _ => true) (hf : f = sI k i) (hh : ∀ x ∈ N, h x.1 x.2 = fun _ => true) : Nw D ca base ad k i L N ρ σ ρc σc H := by
  obtain ⟨h1, h2, h3, h4, h5, h6⟩ := hJ
  refine ⟨hW, h1, fun x hx => ?_⟩
  rcases List.mem_cons.mp hx with rfl | hx
  · exact ⟨by rw [h3, hf], by rw [h2, hr]⟩
  · exact ⟨(h4 x hx).1, by rw [(h4 x hx).2, hh x hx]⟩
end WJ
