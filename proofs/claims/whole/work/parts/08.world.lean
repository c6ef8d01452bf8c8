/-! The layout: a cell is named by its kind k and its number i. Kinds 0..8: the objects of the classes RX0..RX8; 10..21: int rows of the class; 22..25: rows of references; 30+j: the row in the model's field j; 90: the law's long row. What a cell holds is given by s (ints) and r (which references are set). -/
abbrev Sg : Type := Nat → Nat → Nat → Int32
abbrev Rh : Type := Nat → Nat → Nat → Bool
abbrev Adr : Type := Nat → Nat → Nat
def us (σ : Sg) (k i j : Nat) (v : Int32) : Sg := fun k' i' j' => if k' = k ∧ i' = i ∧ j' = j then v else σ k' i' j'
def ur (ρ : Rh) (k i j : Nat) : Rh := fun k' i' j' => if k' = k ∧ i' = i ∧ j' = j then true else ρ k' i' j'
abbrev zrf (ad : Adr) (r : Nat → Bool) (j k' i' : Nat) : Option Nat := if r j = true then some (ad k' i') else none
def wlen : Nat → Nat := fun k => ([0, 0, 0, 0, 0, 0, 0, 0, 0, 0, 3, 120, 6, 6, 6, 6, 16, 16, 192, 192, 12, 15, 0, 0, 0, 0, 0, 0, 0, 0, 0, 6, 6, 0, 12, 12, 12, 12, 12, 12, 12, 12, 60, 60, 60, 60, 16, 16, 0, 8, 8, 8, 8, 8, 8, 8, 8, 0, 10, 10, 10, 10, 10, 10, 10, 10, 10, 0, 0, 0, 0, 0, 0, 120, 0, 0, 0, 192] : List Nat).getD k 0
def wzz : Nat → Nat := fun k => ([0, 0, 0, 0, 0, 0, 0, 0, 0, 0, 0, 0, 0, 0, 0, 0, 0, 0, 0, 0, 0, 0, 0, 0, 0, 0, 0, 0, 0, 0, 0, 0, 0, 0, 0, 0, 0, 0, 0, 0, 0, 0, 0, 1, 0, 1, 0, 0, 0, 0, 0, 0, 0, 0, 0, 0, 0, 0, 0, 0, 0, 0, 0, 0, 0, 0, 1, 0, 0, 0, 0, 0, 0, 0, 0, 0, 0, 0] : List Nat).getD k 0
def wO (ad : Adr) (r : Nat → Bool) (s : Nat → Int32) (k i : Nat) : List Value := match k with
  | 0 => [.int (s 0), .int (s 1), .int (s 2), .int (s 3), .int (s 4), .int (s 5), .int (s 6), .int (s 7), va_rf (zrf ad r 8 10 i)]
  | 1 => [va_rf (zrf ad r 0 11 0), .int (s 1), .int (s 2), .int (s 3), .int (s 4)]
  | 2 => [va_rf (zrf ad r 0 12 0), va_rf (zrf ad r 1 13 0), va_rf (zrf ad r 2 14 0), va_rf (zrf ad r 3 15 0)]
  | 3 => [va_rf (zrf ad r 0 16 0), va_rf (zrf ad r 1 17 0)]
  | 4 => [va_rf (zrf ad r 0 18 0), va_rf (zrf ad r 1 19 0), .int (s 2)]
  | 5 => [.int (s 0), .int (s 1), .int (s 2), .int (s 3), .int (s 4), .int (s 5), .int (s 6), .int (s 7), .int (s 8), va_rf (zrf ad r 9 20 i)]
  | 6 => [.int (s 0), .int (s 1), .int (s 2), .int (s 3), .int (s 4), .int (s 5), .int (s 6), .int (s 7), .int (s 8)]
  | 7 => [va_rf (zrf ad r 0 2 0), va_rf (zrf ad r 1 3 0), va_rf (zrf ad r 2 1 0), va_rf (zrf ad r 3 22 0), va_rf (zrf ad r 4 23 0), va_rf (zrf ad r 5 24 0), .int (s 6), .int (s 7), .int (s 8), .int (s 9), .int (s 10), .int (s 11), va_rf (zrf ad r 12 25 0), va_rf (zrf ad r 13 5 12), va_rf (zrf ad r 14 21 0), va_rf (zrf ad r 15 4 0)]
  | 8 => [.int (s 0), va_rf (zrf ad r 1 31 0), va_rf (zrf ad r 2 32 0), .int (s 3), va_rf (zrf ad r 4 34 0), va_rf (zrf ad r 5 35 0), va_rf (zrf ad r 6 36 0), va_rf (zrf ad r 7 37 0), va_rf (zrf ad r 8 38 0), va_rf (zrf ad r 9 39 0), va_rf (zrf ad r 10 40 0), va_rf (zrf ad r 11 41 0), va_rf (zrf ad r 12 42 0), va_rf (zrf ad r 13 43 0), va_rf (zrf ad r 14 44 0), va_rf (zrf ad r 15 45 0), va_rf (zrf ad r 16 46 0), va_rf (zrf ad r 17 47 0), .int (s 18), va_rf (zrf ad r 19 49 0), va_rf (zrf ad r 20 50 0), va_rf (zrf ad r 21 51 0), va_rf (zrf ad r 22 52 0), va_rf (zrf ad r 23 53 0), va_rf (zrf ad r 24 54 0), va_rf (zrf ad r 25 55 0), va_rf (zrf ad r 26 56 0), .int (s 27), va_rf (zrf ad r 28 58 0), va_rf (zrf ad r 29 59 0), va_rf (zrf ad r 30 60 0), va_rf (zrf ad r 31 61 0), va_rf (zrf ad r 32 62 0), va_rf (zrf ad r 33 63 0), va_rf (zrf ad r 34 64 0), va_rf (zrf ad r 35 65 0), va_rf (zrf ad r 36 66 0), .int (s 37), .int (s 38), .int (s 39), .int (s 40), .int (s 41), .int (s 42), va_rf (zrf ad r 43 73 0), .int (s 44), .int (s 45), .int (s 46), va_rf (zrf ad r 47 77 0)]
  | _ => []
def wEl (ca : Nat → ClassId) (ad : Adr) (r : Nat → Bool) (s : Nat → Int32) (k i : Nat) : va_E :=
  if k < 9 then .inr (k, wO ad r s k i)
  else if k = 22 then .inl (ca 3, 12, .inr (.inr (.inr (.inr (fun j => zrf ad r j 5 j)))))
  else if k = 23 then .inl (ca 4, 8, .inr (.inr (.inr (.inr (fun j => zrf ad r j 0 j)))))
  else if k = 24 then .inl (ca 5, 10, .inr (.inr (.inr (.inr (fun j => zrf ad r j 6 j)))))
  else if k = 25 then .inl (ca 4, 4, .inr (.inr (.inr (.inr (fun j => zrf ad r j 0 (8 + j))))))
  else if k = 90 then .inl (ca 2, 1, .inr (.inl (fun j => (s j).toInt64)))
  else .inl (ca (wzz k), wlen k, .inl s)
def wE (ca : Nat → ClassId) (ad : Adr) (ρ : Rh) (σ : Sg) (x : Nat × Nat) : va_E := wEl ca ad (ρ x.1 x.2) (σ x.1 x.2) x.1 x.2
def wL (ca : Nat → ClassId) (ad : Adr) (ρ : Rh) (L : List (Nat × Nat)) (σ : Sg) : va_W := L.map fun x => (ad x.1 x.2, wE ca ad ρ σ x)
def wT (ca : Nat → ClassId) : List (ClassId × FieldType) := [(ca 0, .int), (ca 1, .boolean), (ca 2, .long), (ca 3, .object "AuditgateReeve$Thing"), (ca 4, .object "AuditgateReeve$Actor"), (ca 5, .object "AuditgateReeve$Token")]
def Wd (D : va_G) (ca : Nat → ClassId) (A : Nat → Prop) (ad : Adr) (ρ : Rh) (L : List (Nat × Nat)) (σ : Sg) (H : Heap) : Prop := va_P D vwCl (wL ca ad ρ L σ) H ∧ va_D A (wL ca ad ρ L σ)
def ρm : Rh := fun _ _ _ => true

def Lm : List (Nat × Nat) := [(0, 0), (0, 1), (0, 2), (0, 3), (0, 4), (0, 5), (0, 6), (0, 7), (0, 8), (0, 9), (0, 10), (0, 11), (1, 0), (2, 0), (3, 0), (4, 0), (5, 0), (5, 1), (5, 2), (5, 3), (5, 4), (5, 5), (5, 6), (5, 7), (5, 8), (5, 9), (5, 10), (5, 11), (5, 12), (6, 0), (6, 1), (6, 2), (6, 3), (6, 4), (6, 5), (6, 6), (6, 7), (6, 8), (6, 9), (7, 0), (8, 0), (10, 0), (10, 1), (10, 2), (10, 3), (10, 4), (10, 5), (10, 6), (10, 7), (10, 8), (10, 9), (10, 10), (10, 11), (11, 0), (12, 0), (13, 0), (14, 0), (15, 0), (16, 0), (17, 0), (18, 0), (19, 0), (20, 0), (20, 1), (20, 2), (20, 3), (20, 4), (20, 5), (20, 6), (20, 7), (20, 8), (20, 9), (20, 10), (20, 11), (20, 12), (21, 0), (22, 0), (23, 0), (24, 0), (25, 0), (31, 0), (32, 0), (34, 0), (35, 0), (36, 0), (37, 0), (38, 0), (39, 0), (40, 0), (41, 0), (42, 0), (43, 0), (44, 0), (45, 0), (46, 0), (47, 0), (49, 0), (50, 0), (51, 0), (52, 0), (53, 0), (54, 0), (55, 0), (56, 0), (58, 0), (59, 0), (60, 0), (61, 0), (62, 0), (63, 0), (64, 0), (65, 0), (66, 0), (73, 0), (77, 0), (90, 0)]
def lw_gd : List Cond := lw_tbl.filter goodWord
theorem us_same (σ : Sg) (k i j : Nat) (v : Int32) : us σ k i j v k i = upd (σ k i) j v := by
  funext j'
  simp [us, upd]
theorem us_off (σ : Sg) {k i k' i' : Nat} (j : Nat) (v : Int32) (h : (k', i') ≠ (k, i)) : us σ k i j v k' i' = σ k' i' := by
  funext j'
  have h9 : ¬ (k' = k ∧ i' = i ∧ j' = j) := fun q => h (by rw [q.1, q.2.1])
  simp only [us, if_neg h9]
theorem ur_same (ρ : Rh) (k i j : Nat) : ur ρ k i j k i = fun j' => if j' = j then true else ρ k i j' := by
  funext j'
  simp [ur]
theorem ur_off (ρ : Rh) {k i k' i' : Nat} (j : Nat) (h : (k', i') ≠ (k, i)) : ur ρ k i j k' i' = ρ k' i' := by
  funext j'
  have h9 : ¬ (k' = k ∧ i' = i ∧ j' = j) := fun q => h (by rw [q.1, q.2.1])
  simp only [ur, if_neg h9]
section WL
variable {D : va_G} {ca : Nat → ClassId} {A : Nat → Prop} {ad : Adr} {ρ ρ' : Rh} {L : List (Nat × Nat)} {σ σ' : Sg} {H : Heap}
theorem wL_at {n k i : Nat} (h : L[n]? = some (k, i)) : (wL ca ad ρ L σ)[n]? = some (ad k i, wEl ca ad (ρ k i) (σ k i) k i) := by
  simp [wL, wE, h]
theorem wL_set (hD : va_D A (wL ca ad ρ L σ)) {n k i : Nat} (h : L[n]? = some (k, i)) {e : va_E} (he : wEl ca ad (ρ' k i) (σ' k i) k i = e) (ho : ∀ k' i', (k', i') ≠ (k, i) → σ' k' i' = σ k' i') (hr : ∀ k' i', (k', i') ≠ (k, i) → ρ' k' i' = ρ k' i') : (wL ca ad ρ L σ).set n (ad k i, e) = wL ca ad ρ' L σ' := by
  have h0 : (wL ca ad ρ L σ)[n]? = some (ad k i, wEl ca ad (ρ k i) (σ k i) k i) := wL_at h
  apply List.ext_getElem?
  intro m
  by_cases hm : m = n
  · subst hm
    rw [List.getElem?_set_self ((List.getElem?_eq_some_iff.mp h0).1), wL_at h, he]
  · rw [List.getElem?_set_ne (Ne.symm hm)]
    cases hx : L[m]? with
    | none => simp [wL, hx]
    | some x =>
      obtain ⟨k', i'⟩ := x
      have hne : (k', i') ≠ (k, i) := by
        intro q
        rw [q] at hx
        exact hm (hD.1 m n _ _ (wL_at hx) h0 rfl)
      rw [wL_at hx, wL_at hx, ho k' i' hne, hr k' i' hne]
theorem Wd.get (hW : Wd D ca A ad ρ L σ H) {k i : Nat} (hB : (k, i) ∈ L) : ∃ n : Nat, L[n]? = some (k, i) ∧ (wL ca ad ρ L σ)[n]? = some (ad k i, wEl ca ad (ρ k i) (σ k i) k i) := by
  obtain ⟨n, hn⟩ := List.getElem?_of_mem hB
  exact ⟨n, hn, wL_at hn⟩
end WL
/-- the words that are carried apart: not steady ones that a throw needs -/
def lw_bad : List Cond := [.castable "java/lang/IndexOutOfBoundsException" "java/lang/IndexOutOfBoundsException", .castable "java/lang/IllegalStateException" "java/lang/IllegalStateException", .castable "java/lang/IllegalArgumentException" "java/lang/IllegalArgumentException", .castable "java/lang/UnsupportedOperationException" "java/lang/UnsupportedOperationException",
  .declares ⟨"java/lang/RuntimeException", "<init>", "()V"⟩, .declares ⟨"java/lang/RuntimeException", "<init>", "(Ljava/lang/String;)V"⟩, .declares ⟨"java/lang/Exception", "<init>", "()V"⟩, .declares ⟨"java/lang/Exception", "<init>", "(Ljava/lang/String;)V"⟩, .declares ⟨"java/lang/Throwable", "<init>", "()V"⟩, .declares ⟨"java/lang/Throwable", "<init>", "(Ljava/lang/String;)V"⟩]
def lw_str : List (Nat × String) := [(319, "there is no such one"), (86, "a group would be its own member"), (324, "an argument is out of its range"), (336, "there are as many as there can be"), (333, "the process may not do it"), (327, "a set goes beyond the one that bounds it"), (329, "that is not one right"), (274, "that is beyond the last moment")]
/-- what a state gives of classes, of texts and of Throwable's statics -/
def Kn (D : va_G) (ca : Nat → ClassId) (U : State) : Prop := va_K D vwCl (wT ca) U ∧ (∀ w ∈ lw_bad, va_Nw w U) ∧ ∀ q ∈ lw_str, ∃ a : Nat, vk_R RX7 q.1 q.2 a U
def Zs (A : Nat → Prop) (U : State) (H : Heap) : Prop := vx_Zq Bundle.tN "UNASSIGNED_STACK" Bundle.steD A U H ∧ vx_Zq Bundle.tN "SUPPRESSED_SENTINEL" Bundle.listD A U H
abbrev Ab (base : Nat) : Nat → Prop := fun q => base ≤ q
/-- a method's start: the world, and what is known -/
def Pre (D : va_G) (ca : Nat → ClassId) (base : Nat) (ad : Adr) (ρ : Rh) (L : List (Nat × Nat)) (σ : Sg) (U : State) : Prop := Wd D ca (Ab base) ad ρ L σ U.heap ∧ Kn D ca U ∧ Zs (Ab base) U U.heap ∧ base ≤ U.heap.size
theorem Kn.same {D : va_G} {ca : Nat → ClassId} {u U : State} (hv : U.vm = u.vm) (h : Kn D ca u) : Kn D ca U := by
  refine ⟨va_K.moved (by rw [hv]; exact Vm.Alike.refl _) h.1, fun w hw => ?_, fun q hq => ?_⟩
  · have h1 := h.2.1 w hw
    have ht : w.onTables = true := by
      have h9 : ∀ w ∈ lw_bad, w.onTables = true := by decide +kernel
      exact h9 w hw
    exact va_Nw.same ht hv.symm h1
  · obtain ⟨a, ha⟩ := h.2.2 q hq
    exact ⟨a, vk_R.same hv ha⟩
theorem Kn.warm {D : va_G} {ca : Nat → ClassId} {u U : State} (hW : u.WarmedH U.vm) (h : Kn D ca u) : Kn D ca U := by
  refine ⟨va_K.moved hW.alike h.1, ?_, fun q hq => ?_⟩
  · have h1 := h.2.1
    simp only [lw_bad, List.forall_mem_cons] at h1 ⊢
    obtain ⟨a1, a2, a3, a4, a5, a6, a7, a8, a9, a10, -⟩ := h1
    exact ⟨va_Nw.warmC hW a1, va_Nw.warmC hW a2, va_Nw.warmC hW a3, va_Nw.warmC hW a4, va_Nw.warmD hW a5, va_Nw.warmD hW a6, va_Nw.warmD hW a7, va_Nw.warmD hW a8, va_Nw.warmD hW a9, va_Nw.warmD hW a10, fun _ h => nomatch h⟩
  · obtain ⟨a, ha⟩ := h.2.2 q hq
    exact ⟨a, vk_R.warm hW ha⟩
theorem Zs.moved {A : Nat → Prop} {u U : State} {H : Heap} (hvm : u.vm.Alike U.vm) (h : Zs A u H) : Zs A U H := ⟨h.1.moved hvm, h.2.moved hvm⟩
theorem Zs.kept {A : Nat → Prop} {U : State} {H H1 : Heap} (h : Zs A U H) (hq : ∀ a : Nat, a < H.size → ¬ A a → H1[a]? = H[a]?) : Zs A U H1 := ⟨h.1.kept hq, h.2.kept hq⟩
theorem Pre.blind {D : va_G} {ca : Nat → ClassId} {base : Nat} {ad : Adr} {ρ : Rh} {L : List (Nat × Nat)} {σ : Sg} (av : List Value) : FrameBlind (va_Pc av (Pre D ca base ad ρ L σ)) := by
  intro a U g mk h
  obtain ⟨h1, h2, h3, h4, h5⟩ := h
  exact ⟨h1, h2, Kn.same (u := U) (U := U.calling g mk a) rfl h3, Zs.moved (u := U) (U := U.calling g mk a) (Vm.Alike.refl U.vm) h4, h5⟩
/-- what stays the same all through a body -/
def Cx (p : Program) (s : State) (m : MethodId) (args : Array Value) (meth : Method) (c : Code) (cc : ByteArray) (nL : Nat) (own : String) (ret : Option FieldType) (D : va_G) (ca : Nat → ClassId) (base : Nat) : Prop :=
  p.tables.exec = Jvm.exec ∧ c.code = cc ∧ c.maxLocals = nL ∧ s.vm.findClass own = some m.cls ∧ (∀ w ∈ lw_gd, w.before args s = true) ∧ meth.sig.returnType = ret ∧ meth.locks = false ∧ Kn D ca s ∧ Zs (Ab base) s s.heap ∧ base ≤ s.heap.size
/-- a class of the world, by its table -/
def KF (ci : Nat) (C : String) (T : u_T) (N : Nat) (ty : Nat → FieldType) : Prop := vwCl[ci]? = some (C, T, N) ∧ (∀ w ∈ u_ws C T N, w ∈ lw_gd) ∧ (∀ k, k < N → parseFieldDescriptor (T k).2.2.1 = some (ty k)) ∧ (∀ a, a < N → ∀ b, b < N → a ≠ b → (T a).2.1 ≠ (T b).2.1)
section WR
variable {p : Program} {l : Launch} {e : Env} {R : Room} {s : State} {m : MethodId} {args : Array Value} {below : List Frame} {meth : Method} {c : Code} {H : Heap} {locs : List Loc} {cells slots : Nat} {Q : State → Prop}
variable {cc : ByteArray} {nL : Nat} {pc : Nat} {ls : Array Slot} {rest : List Value} {own : String} {ret : Option FieldType} {D : va_G} {ca : Nat → ClassId} {base : Nat} {ad : Adr} {ρ : Rh} {L : List (Nat × Nat)} {σ : Sg}
theorem w_get (hC : Cx p s m args meth c cc nL own ret D ca base) (hW : Wd D ca (Ab base) ad ρ L σ H) {k i : Nat} (hB : (k, i) ∈ L) {ci N : Nat} {C : String} {T : u_T} {ty : Nat → FieldType} {fs : List Value} (he : wEl ca ad (ρ k i) (σ k i) k i = .inr (ci, fs)) (hK : KF ci C T N ty) (j : Nat) (hj : j < N) {index : Nat} (hlink : Cond.fieldLink own index (T j).1 (T j).2.1 (T j).2.2.1 ∈ lw_gd) {v : Value} (hv : fs[j]? = some v) (hdg : decode cc pc = .ok (.getfield index, 3))
    (kk : W p l e R s m args below meth c H locs cells slots Q (F0 m (pc + 3) ls (v :: rest))) : W p l e R s m args below meth c H locs cells slots Q (F0 m pc ls (.ref (ad k i) :: rest)) := by
  obtain ⟨n, hn, hn2⟩ := hW.get hB
  rw [he] at hn2
  obtain ⟨hx, hb, -, ho, hts, -, -, hKn, -⟩ := hC
  exact va_get hx hb hts hK.2.1 ho hKn.1 hW.1 n hn2 hK.1 j hj (hts _ hlink) (fun _ h => h) hv hdg kk
theorem w_put (hC : Cx p s m args meth c cc nL own ret D ca base) (hW : Wd D ca (Ab base) ad ρ L σ H) (hS : va_S (Ab base) s.heap H locs) {k i : Nat} (hB : (k, i) ∈ L) {ci N : Nat} {C : String} {T : u_T} {ty : Nat → FieldType} {fs : List Value} (he : wEl ca ad (ρ k i) (σ k i) k i = .inr (ci, fs)) (hK : KF ci C T N ty) (j : Nat) (hj : j < N) {index : Nat} (hlink : Cond.fieldLink own index (T j).1 (T j).2.1 (T j).2.2.1 ∈ lw_gd) (hfin : (T j).2.2.2 = false) {tj : FieldType} {x : Int32} (hd : parseFieldDescriptor (T j).2.2.1 = some tj) (hnw : narrow tj (.int x) = .int x) (hfit : fits tj (.int x) = true) (hl : j < fs.length) (hset : wEl ca ad (ρ k i) (upd (σ k i) j x) k i = .inr (ci, fs.set j (.int x))) (hdg : decode cc pc = .ok (.putfield index, 3))
    (kk : ∀ (H1 : Heap) (locs1 : List Loc), Wd D ca (Ab base) ad ρ L (us σ k i j x) H1 → va_S (Ab base) s.heap H1 locs1 → W p l e R s m args below meth c H1 locs1 cells slots Q (F0 m (pc + 3) ls rest)) : W p l e R s m args below meth c H locs cells slots Q (F0 m pc ls (.int x :: .ref (ad k i) :: rest)) := by
  obtain ⟨n, hn, hn2⟩ := hW.get hB
  rw [he] at hn2
  obtain ⟨hx, hb, -, ho, hts, -, -, hKn, -⟩ := hC
  refine va_put hx hb hts hK.2.1 ty hK.2.2.1 hK.2.2.2 ho hKn.1 hW.1 hW.2 hS n hn2 hK.1 j hj (hts _ hlink) (fun _ h => h) hfin hd hnw hfit hl hdg fun H1 locs1 hP hD hS1 => ?_
  have e9 := wL_set (σ' := us σ k i j x) (ρ' := ρ) (e := .inr (ci, fs.set j (.int x))) hW.2 hn (by rw [us_same]; exact hset) (fun k' i' h => us_off σ j x h) (fun _ _ _ => rfl)
  rw [e9] at hP hD
  exact kk H1 locs1 ⟨hP, hD⟩ hS1
/-- an element of a row of ints or booleans -/
theorem w_iald (hC : Cx p s m args meth c cc nL own ret D ca base) (hW : Wd D ca (Ab base) ad ρ L σ H) {k i : Nat} (hB : (k, i) ∈ L) {n : Nat} (he : wEl ca ad (ρ k i) (σ k i) k i = .inl (ca 0, n, .inl (σ k i))) {x : Int32} (hin : vp_in x n) (hdg : decode cc pc = .ok (.iaload, 1))
    (kk : W p l e R s m args below meth c H locs cells slots Q (F0 m (pc + 1) ls (.int (σ k i x.toNatClampNeg) :: rest))) : W p l e R s m args below meth c H locs cells slots Q (F0 m pc ls (.int x :: .ref (ad k i) :: rest)) := by
  obtain ⟨n0, hn, hn2⟩ := hW.get hB
  rw [he] at hn2
  obtain ⟨hx, hb, -, ho, hts, -, -, hKn, -⟩ := hC
  exact va_iald hx hb hKn.1 hW.1 n0 0 hn2 rfl hin hdg kk
theorem w_zald (hC : Cx p s m args meth c cc nL own ret D ca base) (hW : Wd D ca (Ab base) ad ρ L σ H) {k i : Nat} (hB : (k, i) ∈ L) {n : Nat} (he : wEl ca ad (ρ k i) (σ k i) k i = .inl (ca 1, n, .inl (σ k i))) {x : Int32} (hin : vp_in x n) (hdg : decode cc pc = .ok (.baload, 1))
    (kk : W p l e R s m args below meth c H locs cells slots Q (F0 m (pc + 1) ls (.int (σ k i x.toNatClampNeg) :: rest))) : W p l e R s m args below meth c H locs cells slots Q (F0 m pc ls (.int x :: .ref (ad k i) :: rest)) := by
  obtain ⟨n0, hn, hn2⟩ := hW.get hB
  rw [he] at hn2
  obtain ⟨hx, hb, -, ho, hts, -, -, hKn, -⟩ := hC
  exact va_zald hx hb hKn.1 hW.1 n0 1 hn2 rfl hin hdg kk
theorem w_iast (hC : Cx p s m args meth c cc nL own ret D ca base) (hW : Wd D ca (Ab base) ad ρ L σ H) (hS : va_S (Ab base) s.heap H locs) {k i : Nat} (hB : (k, i) ∈ L) {n : Nat} (he : ∀ f : Nat → Int32, wEl ca ad (ρ k i) f k i = .inl (ca 0, n, .inl f)) {x v : Int32} (hin : vp_in x n) (hdg : decode cc pc = .ok (.iastore, 1))
    (kk : ∀ (H1 : Heap) (locs1 : List Loc), Wd D ca (Ab base) ad ρ L (us σ k i x.toNatClampNeg v) H1 → va_S (Ab base) s.heap H1 locs1 → W p l e R s m args below meth c H1 locs1 cells slots Q (F0 m (pc + 1) ls rest)) : W p l e R s m args below meth c H locs cells slots Q (F0 m pc ls (.int v :: .int x :: .ref (ad k i) :: rest)) := by
  obtain ⟨n0, hn, hn2⟩ := hW.get hB
  rw [he] at hn2
  obtain ⟨hx, hb, -, ho, hts, -, -, hKn, -⟩ := hC
  refine va_iast hx hb hKn.1 hW.1 hW.2 hS n0 0 hn2 rfl hin hdg fun H1 locs1 hP hD hS1 => ?_
  have e9 := wL_set (σ' := us σ k i x.toNatClampNeg v) (ρ' := ρ) hW.2 hn (by rw [us_same, he]) (fun k' i' h => us_off σ _ v h) (fun _ _ _ => rfl)
  rw [e9] at hP hD
  exact kk H1 locs1 ⟨hP, hD⟩ hS1
theorem w_zast (hC : Cx p s m args meth c cc nL own ret D ca base) (hW : Wd D ca (Ab base) ad ρ L σ H) (hS : va_S (Ab base) s.heap H locs) {k i : Nat} (hB : (k, i) ∈ L) {n : Nat} (he : ∀ f : Nat → Int32, wEl ca ad (ρ k i) f k i = .inl (ca 1, n, .inl f)) {x v : Int32} (hv : vp_nar .boolean v = v) (hin : vp_in x n) (hdg : decode cc pc = .ok (.bastore, 1))
    (kk : ∀ (H1 : Heap) (locs1 : List Loc), Wd D ca (Ab base) ad ρ L (us σ k i x.toNatClampNeg v) H1 → va_S (Ab base) s.heap H1 locs1 → W p l e R s m args below meth c H1 locs1 cells slots Q (F0 m (pc + 1) ls rest)) : W p l e R s m args below meth c H locs cells slots Q (F0 m pc ls (.int v :: .int x :: .ref (ad k i) :: rest)) := by
  obtain ⟨n0, hn, hn2⟩ := hW.get hB
  rw [he] at hn2
  obtain ⟨hx, hb, -, ho, hts, -, -, hKn, -⟩ := hC
  refine va_zast hx hb hKn.1 hW.1 hW.2 hS n0 1 hn2 rfl hin hdg fun H1 locs1 hP hD hS1 => ?_
  rw [hv] at hP hD
  have e9 := wL_set (σ' := us σ k i x.toNatClampNeg v) (ρ' := ρ) hW.2 hn (by rw [us_same, he]) (fun k' i' h => us_off σ _ v h) (fun _ _ _ => rfl)
  rw [e9] at hP hD
  exact kk H1 locs1 ⟨hP, hD⟩ hS1
theorem w_lald (hC : Cx p s m args meth c cc nL own ret D ca base) (hW : Wd D ca (Ab base) ad ρ L σ H) (hB : (90, 0) ∈ L) {x : Int32} (hin : vp_in x 1) (hdg : decode cc pc = .ok (.laload, 1))
    (kk : W p l e R s m args below meth c H locs cells slots Q (F0 m (pc + 1) ls (.long (σ 90 0 x.toNatClampNeg).toInt64 :: rest))) : W p l e R s m args below meth c H locs cells slots Q (F0 m pc ls (.int x :: .ref (ad 90 0) :: rest)) := by
  obtain ⟨n0, hn, hn2⟩ := hW.get hB
  rw [show wEl ca ad (ρ 90 0) (σ 90 0) 90 0 = .inl (ca 2, 1, .inr (.inl (fun j => (σ 90 0 j).toInt64))) from rfl] at hn2
  obtain ⟨hx, hb, -, ho, hts, -, -, hKn, -⟩ := hC
  exact va_lald hx hb hKn.1 hW.1 n0 2 hn2 rfl hin hdg kk
theorem w_last (hC : Cx p s m args meth c cc nL own ret D ca base) (hW : Wd D ca (Ab base) ad ρ L σ H) (hS : va_S (Ab base) s.heap H locs) (hB : (90, 0) ∈ L) {x v : Int32} {z : Int64} (hz : z = v.toInt64) (hin : vp_in x 1) (hdg : decode cc pc = .ok (.lastore, 1))
    (kk : ∀ (H1 : Heap) (locs1 : List Loc), Wd D ca (Ab base) ad ρ L (us σ 90 0 x.toNatClampNeg v) H1 → va_S (Ab base) s.heap H1 locs1 → W p l e R s m args below meth c H1 locs1 cells slots Q (F0 m (pc + 1) ls rest)) : W p l e R s m args below meth c H locs cells slots Q (F0 m pc ls (.long z :: .int x :: .ref (ad 90 0) :: rest)) := by
  obtain ⟨n0, hn, hn2⟩ := hW.get hB
  rw [show wEl ca ad (ρ 90 0) (σ 90 0) 90 0 = .inl (ca 2, 1, .inr (.inl (fun j => (σ 90 0 j).toInt64))) from rfl] at hn2
  obtain ⟨hx, hb, -, ho, hts, -, -, hKn, -⟩ := hC
  refine va_last hx hb hKn.1 hW.1 hW.2 hS n0 2 hn2 rfl hin hdg fun H1 locs1 hP hD hS1 => ?_
  have e8 : (fun j => ((upd (σ 90 0) x.toNatClampNeg v) j).toInt64) = vp_updL (fun j => (σ 90 0 j).toInt64) x.toNatClampNeg z := by
    funext j
    simp only [upd, vp_updL]
    split
    · exact hz.symm
    · rfl
  have e9 := wL_set (σ' := us σ 90 0 x.toNatClampNeg v) (ρ' := ρ) (e := .inl (ca 2, 1, .inr (.inl (vp_updL (fun j => (σ 90 0 j).toInt64) x.toNatClampNeg z)))) hW.2 hn (by rw [us_same, ← e8]; rfl) (fun k' i' h => us_off σ _ v h) (fun _ _ _ => rfl)
  rw [e9] at hP hD
  exact kk H1 locs1 ⟨hP, hD⟩ hS1
/-- an element of a row of references -/
theorem w_aald (hC : Cx p s m args meth c cc nL own ret D ca base) (hW : Wd D ca (Ab base) ad ρ L σ H) {k i : Nat} (hB : (k, i) ∈ L) (t0 : Nat) {n a2 : Nat} {K : String} {cA : ClassId} {f : Nat → Option Nat} (ht : (wT ca)[t0]? = some (cA, .object K)) (he : wEl ca ad (ρ k i) (σ k i) k i = .inl (cA, n, .inr (.inr (.inr (.inr f))))) {x : Int32} (hin : vp_in x n) (hf : f x.toNatClampNeg = some a2) (hdg : decode cc pc = .ok (.aaload, 1))
    (kk : W p l e R s m args below meth c H locs cells slots Q (F0 m (pc + 1) ls (.ref a2 :: rest))) : W p l e R s m args below meth c H locs cells slots Q (F0 m pc ls (.int x :: .ref (ad k i) :: rest)) := by
  obtain ⟨n0, hn, hn2⟩ := hW.get hB
  rw [he] at hn2
  obtain ⟨hx, hb, -, ho, hts, -, -, hKn, -⟩ := hC
  refine va_aldq hx hb hKn.1 hW.1 n0 t0 hn2 ht hin hdg ?_
  rw [hf]
  exact kk
theorem w_alen (hC : Cx p s m args meth c cc nL own ret D ca base) (hW : Wd D ca (Ab base) ad ρ L σ H) {k i : Nat} (hB : (k, i) ∈ L) (t0 : Nat) {cA : ClassId} {ty : FieldType} {x : vp_A} (ht : (wT ca)[t0]? = some (cA, ty)) (he : wEl ca ad (ρ k i) (σ k i) k i = .inl (cA, x)) {v : Int32} (hv : Int32.ofNat x.1 = v) (hdg : decode cc pc = .ok (.arraylength, 1))
    (kk : W p l e R s m args below meth c H locs cells slots Q (F0 m (pc + 1) ls (.int v :: rest))) : W p l e R s m args below meth c H locs cells slots Q (F0 m pc ls (.ref (ad k i) :: rest)) := by
  obtain ⟨n0, hn, hn2⟩ := hW.get hB
  rw [he] at hn2
  obtain ⟨hx, hb, -, ho, hts, -, -, hKn, -⟩ := hC
  exact va_alen hx hb hKn.1 hW.1 n0 t0 hn2 ht hv hdg kk
end WR
