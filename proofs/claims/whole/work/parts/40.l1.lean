abbrev wsw (y : MethodName) (b : ByteArray) (n : Nat) (ret : Option FieldType) (hh : List (Nat × Nat × Nat × Nat)) : List Cond := .codeWith y b n ret hh :: lw_gd
def lw_np : List (String × String) := [("java/lang/IndexOutOfBoundsException", "java/lang/IllegalArgumentException"), ("java/lang/IndexOutOfBoundsException", "java/lang/IllegalStateException"), ("java/lang/IndexOutOfBoundsException", "java/lang/UnsupportedOperationException"), ("java/lang/IllegalArgumentException", "java/lang/IndexOutOfBoundsException"), ("java/lang/IllegalArgumentException", "java/lang/IllegalStateException"), ("java/lang/IllegalArgumentException", "java/lang/UnsupportedOperationException"), ("java/lang/IllegalStateException", "java/lang/IndexOutOfBoundsException"), ("java/lang/IllegalStateException", "java/lang/IllegalArgumentException"), ("java/lang/IllegalStateException", "java/lang/UnsupportedOperationException"), ("java/lang/UnsupportedOperationException", "java/lang/IndexOutOfBoundsException"), ("java/lang/UnsupportedOperationException", "java/lang/IllegalArgumentException"), ("java/lang/UnsupportedOperationException", "java/lang/IllegalStateException")]
def Nx (U : State) : Prop := ∀ q ∈ lw_np, va_Nc q.1 q.2 U
def PreL (D : va_G) (ca : Nat → ClassId) (base : Nat) (ad : Adr) (ρ : Rh) (L : List (Nat × Nat)) (σ : Sg) (U : State) : Prop := Pre D ca base ad ρ L σ U ∧ Nx U
theorem Nx.moved {u U : State} (hvm : u.vm.Alike U.vm) (h : Nx u) : Nx U := fun q hq => (h q hq).moved hvm
theorem PreL.blind {D : va_G} {ca : Nat → ClassId} {base : Nat} {ad : Adr} {ρ : Rh} {L : List (Nat × Nat)} {σ : Sg} (av : List Value) : FrameBlind (va_Pc av (PreL D ca base ad ρ L σ)) := by
  intro a U g mk h
  have h1 := Pre.blind (D := D) (ca := ca) (base := base) (ad := ad) (ρ := ρ) (L := L) (σ := σ) av a U g mk ⟨h.1, h.2.1⟩
  exact ⟨h1.1, h1.2, Nx.moved (u := U) (U := U.calling g mk a) (Vm.Alike.refl U.vm) h.2.2⟩
/-- the law's own methods: with a table; they throw nothing -/
def Ml (l : Launch) (y : MethodName) (b : ByteArray) (n : Nat) (ret : Option FieldType) (hh : List (Nat × Nat × Nat × Nat)) (rm : Room) (D : va_G) (ca : Nat → ClassId) (base : Nat) (ad : Adr) (ρ : Rh) (L : List (Nat × Nat)) (av : List Value) (σ : Sg) (ov : Option Value) (σ' : Sg) : Prop := Met l y (wsw y b n ret hh) rm (va_Pc av (PreL D ca base ad ρ L σ)) (Rt D ca base ad ρ L σ' ov) rm.cells rm.slots (Ab base)
theorem w_ofL {l : Launch} {y : MethodName} {b : ByteArray} {maxL : Nat} {rty : Option FieldType} {hh : List (Nat × Nat × Nat × Nat)} {rm : Room} {D : va_G} {ca : Nat → ClassId} {base : Nat} {ad : Adr} {ρ : Rh} {L : List (Nat × Nat)} {σ σ' : Sg} {ov : Option Value} {av : List Value} (hy : plainName y.cls = true) (hav : (lg_sl av).length ≤ maxL) {lv : List (Nat × Value)} (hlv : lv_args 0 av = lv)
    (body : ∀ p e s m args below meth c, Cx p s m args meth c b maxL y.cls rty D ca base → Nx s → c.exceptionTable.toList = tableOf hh → Wd D ca (Ab base) ad ρ L σ s.heap → va_S (Ab base) s.heap s.heap [] → ∀ ls : Array Slot, lv_has ls maxL lv →
      W p l e rm s m args below meth c s.heap [] 0 0 (MQ below (Rt D ca base ad ρ L σ' ov) args s rm.cells rm.slots (Ab base)) (F0 m 0 ls [])) : Ml l y b maxL rty hh rm D ca base ad ρ L av σ ov σ' := by
  refine va_MetW (cc := b) (maxL := maxL) (ret := rty) hy rfl ?_
  intro p e s m args below meth c s₁ B hml hv
  obtain ⟨rfl, ⟨hW, hKn, hZ, hbs⟩, hN⟩ := hv
  have hts := atoms_spec (ws := wsw y b maxL rty hh) B.pre
  rw [lg_entry_eq]
  exact body p e s m _ below meth c ⟨B.exec, B.bytes, hml, findClass_of_methodNamed B.named, fun w hw => hts w (List.mem_cons_of_mem _ hw), B.returns, B.notSynchronized, hKn, hZ, hbs⟩ hN (vx_table (x := y) B (hts _ List.mem_cons_self)) hW va_S.rf _ (hlv ▸ lv_entry av hav)
theorem nd_cases {er : Option String} {o : Option String × Int32 × Sg} {E : String} (h : (nd er o).1 = some E) : er = some E ∨ o.1 = some E := by
  cases er with
  | none => exact Or.inr h
  | some F => exact Or.inl h
theorem ndN_cases {er o : Option String} {E : String} (h : ndN er o = some E) : er = some E ∨ o = some E := by
  cases er with
  | none => exact Or.inr h
  | some F => exact Or.inl h
theorem er_X7_needPlace {x : Int32} {n : Int32} {E : String} (h : (e_X7_needPlace x n) = some E) : E = "java/lang/IndexOutOfBoundsException" := by
  rw [e_X7_needPlace] at h
  by_cases q9 : x < 0
  · rw [if_pos q9] at h
    have h2 : some "java/lang/IndexOutOfBoundsException" = some E := h
    cases h2; exact rfl
  · rw [if_neg q9] at h
    by_cases q9 : x < n
    · rw [if_pos q9] at h
      have h2 : (none : Option String) = some E := h
      cases h2
    · rw [if_neg q9] at h
      have h2 : some "java/lang/IndexOutOfBoundsException" = some E := h
      cases h2; exact rfl
theorem er_X7_needRange {x : Int32} {lo : Int32} {hi : Int32} {E : String} (h : (e_X7_needRange x lo hi) = some E) : E = "java/lang/IllegalArgumentException" := by
  rw [e_X7_needRange] at h
  by_cases q9 : x < lo
  · rw [if_pos q9] at h
    have h2 : some "java/lang/IllegalArgumentException" = some E := h
    cases h2; exact rfl
  · rw [if_neg q9] at h
    by_cases q9 : x ≤ hi
    · rw [if_pos q9] at h
      have h2 : (none : Option String) = some E := h
      cases h2
    · rw [if_neg q9] at h
      have h2 : some "java/lang/IllegalArgumentException" = some E := h
      cases h2; exact rfl
theorem er_X7_needSubset {x : Int32} {y : Int32} {E : String} (h : (e_X7_needSubset x y) = some E) : E = "java/lang/IllegalArgumentException" := by
  rw [e_X7_needSubset] at h
  by_cases q9 : (x &&& (y ^^^ (-1 : Int32))) = 0
  · rw [if_pos q9] at h
    have h2 : (none : Option String) = some E := h
    cases h2
  · rw [if_neg q9] at h
    have h2 : some "java/lang/IllegalArgumentException" = some E := h
    cases h2; exact rfl
theorem er_X7_needRight {r : Int32} {E : String} (h : (e_X7_needRight r) = some E) : E = "java/lang/IllegalArgumentException" := by
  rw [e_X7_needRight] at h
  by_cases q9 : r = 1
  · rw [if_pos q9] at h
    have h2 : (none : Option String) = some E := h
    cases h2
  · rw [if_neg q9] at h
    by_cases q9 : r = 2
    · rw [if_pos q9] at h
      have h2 : (none : Option String) = some E := h
      cases h2
    · rw [if_neg q9] at h
      by_cases q9 : r = 4
      · rw [if_pos q9] at h
        have h2 : (none : Option String) = some E := h
        cases h2
      · rw [if_neg q9] at h
        have h2 : some "java/lang/IllegalArgumentException" = some E := h
        cases h2; exact rfl
theorem er_X7_needPower {b : Int32} {E : String} (h : (e_X7_needPower b) = some E) : E = "java/lang/UnsupportedOperationException" := by
  rw [e_X7_needPower] at h
  by_cases q9 : b = 0
  · rw [if_pos q9] at h
    have h2 : some "java/lang/UnsupportedOperationException" = some E := h
    cases h2; exact rfl
  · rw [if_neg q9] at h
    have h2 : (none : Option String) = some E := h
    cases h2
theorem er_X7_needRoom {x : Int32} {y : Int32} {E : String} (h : (e_X7_needRoom x y) = some E) : E = "java/lang/IllegalStateException" := by
  rw [e_X7_needRoom] at h
  by_cases q9 : x < y
  · rw [if_pos q9] at h
    have h2 : (none : Option String) = some E := h
    cases h2
  · rw [if_neg q9] at h
    have h2 : some "java/lang/IllegalStateException" = some E := h
    cases h2; exact rfl
theorem er_X7_needThing {x : Int32} {σ : Sg} {E : String} (h : (e_X7_needThing x σ) = some E) : E = "java/lang/IndexOutOfBoundsException" := by
  rw [e_X7_needThing] at h
  rcases ndN_cases h with h | h
  · exact (er_X7_needPlace h)
  · have h2 : (none : Option String) = some E := h
    cases h2
theorem er_X7_needActor {x : Int32} {σ : Sg} {E : String} (h : (e_X7_needActor x σ) = some E) : E = "java/lang/IndexOutOfBoundsException" := by
  rw [e_X7_needActor] at h
  rcases ndN_cases h with h | h
  · exact (er_X7_needPlace h)
  · have h2 : (none : Option String) = some E := h
    cases h2
theorem er_X7_needToken {x : Int32} {σ : Sg} {E : String} (h : (e_X7_needToken x σ) = some E) : E = "java/lang/IndexOutOfBoundsException" := by
  rw [e_X7_needToken] at h
  rcases ndN_cases h with h | h
  · exact (er_X7_needPlace h)
  · have h2 : (none : Option String) = some E := h
    cases h2
theorem er_X7_member {g : Int32} {b : Int32} {x : Int32} {is : Int32} {σ : Sg} {E : String} (h : (m_X7_member g b x is σ).1 = some E) : E = "java/lang/IndexOutOfBoundsException" ∨ E = "java/lang/IllegalStateException" := by
  rw [m_X7_member] at h
  rcases nd_cases h with h | h
  · exact Or.inl (er_X7_needPlace h)
  · by_cases q9 : b = 0
    · rw [if_pos q9] at h
      rcases nd_cases h with h | h
      · exact Or.inl (er_X7_needPlace h)
      · by_cases q9 : is = 0
        · rw [if_pos q9] at h
          have h2 : (none : Option String) = some E := h
          cases h2
        · rw [if_neg q9] at h
          by_cases q9 : b = 0
          · rw [if_pos q9] at h
            have h2 : (none : Option String) = some E := h
            cases h2
          · rw [if_neg q9] at h
            by_cases q9 : (f_X2_isWithin g x σ) = 0
            · rw [if_pos q9] at h
              have h2 : (none : Option String) = some E := h
              cases h2
            · rw [if_neg q9] at h
              have h2 : some "java/lang/IllegalStateException" = some E := h
              cases h2; exact Or.inr (rfl)
    · rw [if_neg q9] at h
      rcases nd_cases h with h | h
      · exact Or.inl (er_X7_needPlace h)
      · by_cases q9 : is = 0
        · rw [if_pos q9] at h
          have h2 : (none : Option String) = some E := h
          cases h2
        · rw [if_neg q9] at h
          by_cases q9 : b = 0
          · rw [if_pos q9] at h
            have h2 : (none : Option String) = some E := h
            cases h2
          · rw [if_neg q9] at h
            by_cases q9 : (f_X2_isWithin g x σ) = 0
            · rw [if_pos q9] at h
              have h2 : (none : Option String) = some E := h
              cases h2
            · rw [if_neg q9] at h
              have h2 : some "java/lang/IllegalStateException" = some E := h
              cases h2; exact Or.inr (rfl)
theorem er_X7_groups {u : Int32} {σ : Sg} {E : String} (h : (m_X7_groups u σ).1 = some E) : E = "java/lang/IndexOutOfBoundsException" := by
  rw [m_X7_groups] at h
  rcases nd_cases h with h | h
  · exact (er_X7_needPlace h)
  · have h2 : (none : Option String) = some E := h
    cases h2
theorem er_X7_thing {t : Int32} {u : Int32} {g : Int32} {v : Int32} {σ : Sg} {E : String} (h : (m_X7_thing t u g v σ).1 = some E) : E = "java/lang/IndexOutOfBoundsException" ∨ E = "java/lang/IllegalArgumentException" ∨ E = "java/lang/IllegalStateException" := by
  rw [m_X7_thing] at h
  rcases nd_cases h with h | h
  · exact Or.inl (er_X7_needPlace h)
  · rcases nd_cases h with h | h
    · exact Or.inl (er_X7_needPlace h)
    · by_cases q9 : t = (-1)
      · rw [if_pos q9] at h
        rcases nd_cases h with h | h
        · exact Or.inr (Or.inl (er_X7_needRange h))
        · rcases nd_cases h with h | h
          · exact Or.inr (Or.inr ((er_X7_needRoom h)))
          · have h2 : (none : Option String) = some E := h
            cases h2
      · rw [if_neg q9] at h
        rcases nd_cases h with h | h
        · exact Or.inl (er_X7_needThing h)
        · rcases nd_cases h with h | h
          · exact Or.inr (Or.inl (er_X7_needRange h))
          · rcases nd_cases h with h | h
            · exact Or.inr (Or.inr ((er_X7_needRoom h)))
            · have h2 : (none : Option String) = some E := h
              cases h2
theorem er_X7_type {t : Int32} {v : Int32} {σ : Sg} {E : String} (h : (m_X7_type t v σ).1 = some E) : E = "java/lang/IndexOutOfBoundsException" ∨ E = "java/lang/IllegalArgumentException" := by
  rw [m_X7_type] at h
  rcases nd_cases h with h | h
  · exact Or.inl (er_X7_needThing h)
  · rcases nd_cases h with h | h
    · exact Or.inr ((er_X7_needRange h))
    · have h2 : (none : Option String) = some E := h
      cases h2
theorem er_X7_mode {k : Int32} {t : Int32} {v : Int32} {σ : Sg} {E : String} (h : (m_X7_mode k t v σ).1 = some E) : E = "java/lang/IndexOutOfBoundsException" ∨ E = "java/lang/IllegalArgumentException" ∨ E = "java/lang/UnsupportedOperationException" := by
  rw [m_X7_mode] at h
  rcases nd_cases h with h | h
  · exact Or.inl (er_X7_needActor h)
  · rcases nd_cases h with h | h
    · exact Or.inl (er_X7_needThing h)
    · rcases nd_cases h with h | h
      · exact Or.inr (Or.inl (er_X7_needRange h))
      · rcases nd_cases h with h | h
        · exact Or.inr (Or.inr ((er_X7_needPower h)))
        · have h2 : (none : Option String) = some E := h
          cases h2
theorem er_X7_mask {k : Int32} {t : Int32} {v : Int32} {σ : Sg} {E : String} (h : (m_X7_mask k t v σ).1 = some E) : E = "java/lang/IndexOutOfBoundsException" ∨ E = "java/lang/IllegalArgumentException" ∨ E = "java/lang/UnsupportedOperationException" := by
  rw [m_X7_mask] at h
  rcases nd_cases h with h | h
  · exact Or.inl (er_X7_needActor h)
  · rcases nd_cases h with h | h
    · exact Or.inl (er_X7_needThing h)
    · rcases nd_cases h with h | h
      · exact Or.inr (Or.inl (er_X7_needRange h))
      · rcases nd_cases h with h | h
        · exact Or.inr (Or.inr ((er_X7_needPower h)))
        · have h2 : (none : Option String) = some E := h
          cases h2
theorem er_X7_entry {k : Int32} {t : Int32} {b : Int32} {u : Int32} {v : Int32} {d : Int32} {σ : Sg} {E : String} (h : (m_X7_entry k t b u v d σ).1 = some E) : E = "java/lang/IndexOutOfBoundsException" ∨ E = "java/lang/IllegalArgumentException" ∨ E = "java/lang/UnsupportedOperationException" ∨ E = "java/lang/IllegalStateException" := by
  rw [m_X7_entry] at h
  rcases nd_cases h with h | h
  · exact Or.inl (er_X7_needActor h)
  · rcases nd_cases h with h | h
    · exact Or.inl (er_X7_needThing h)
    · by_cases q9 : b = 0
      · rw [if_pos q9] at h
        rcases nd_cases h with h | h
        · exact Or.inl (er_X7_needPlace h)
        · rcases nd_cases h with h | h
          · exact Or.inr (Or.inl (er_X7_needRange h))
          · rcases nd_cases h with h | h
            · exact Or.inr (Or.inr (Or.inl (er_X7_needPower h)))
            · by_cases q9 : b = 0
              · rw [if_pos q9] at h
                by_cases q9 : v = (-1)
                · rw [if_pos q9] at h
                  have h2 : (none : Option String) = some E := h
                  cases h2
                · rw [if_neg q9] at h
                  by_cases q9 : (f_X5_rightsOf t.toNatClampNeg u σ) = (-1)
                  · rw [if_pos q9] at h
                    rcases nd_cases h with h | h
                    · exact Or.inr (Or.inr (Or.inr ((er_X7_needRoom h))))
                    · have h2 : (none : Option String) = some E := h
                      cases h2
                  · rw [if_neg q9] at h
                    have h2 : (none : Option String) = some E := h
                    cases h2
              · rw [if_neg q9] at h
                by_cases q9 : v = (-1)
                · rw [if_pos q9] at h
                  have h2 : (none : Option String) = some E := h
                  cases h2
                · rw [if_neg q9] at h
                  by_cases q9 : (f_X5_rightsOf t.toNatClampNeg ((6 : Int32) + u) σ) = (-1)
                  · rw [if_pos q9] at h
                    rcases nd_cases h with h | h
                    · exact Or.inr (Or.inr (Or.inr ((er_X7_needRoom h))))
                    · have h2 : (none : Option String) = some E := h
                      cases h2
                  · rw [if_neg q9] at h
                    have h2 : (none : Option String) = some E := h
                    cases h2
      · rw [if_neg q9] at h
        rcases nd_cases h with h | h
        · exact Or.inl (er_X7_needPlace h)
        · rcases nd_cases h with h | h
          · exact Or.inr (Or.inl (er_X7_needRange h))
          · rcases nd_cases h with h | h
            · exact Or.inr (Or.inr (Or.inl (er_X7_needPower h)))
            · by_cases q9 : b = 0
              · rw [if_pos q9] at h
                by_cases q9 : v = (-1)
                · rw [if_pos q9] at h
                  have h2 : (none : Option String) = some E := h
                  cases h2
                · rw [if_neg q9] at h
                  by_cases q9 : (f_X5_rightsOf t.toNatClampNeg u σ) = (-1)
                  · rw [if_pos q9] at h
                    rcases nd_cases h with h | h
                    · exact Or.inr (Or.inr (Or.inr ((er_X7_needRoom h))))
                    · have h2 : (none : Option String) = some E := h
                      cases h2
                  · rw [if_neg q9] at h
                    have h2 : (none : Option String) = some E := h
                    cases h2
              · rw [if_neg q9] at h
                by_cases q9 : v = (-1)
                · rw [if_pos q9] at h
                  have h2 : (none : Option String) = some E := h
                  cases h2
                · rw [if_neg q9] at h
                  by_cases q9 : (f_X5_rightsOf t.toNatClampNeg ((6 : Int32) + u) σ) = (-1)
                  · rw [if_pos q9] at h
                    rcases nd_cases h with h | h
                    · exact Or.inr (Or.inr (Or.inr ((er_X7_needRoom h))))
                    · have h2 : (none : Option String) = some E := h
                      cases h2
                  · rw [if_neg q9] at h
                    have h2 : (none : Option String) = some E := h
                    cases h2
theorem er_X7_give {k : Int32} {t : Int32} {v : Int32} {σ : Sg} {E : String} (h : (m_X7_give k t v σ).1 = some E) : E = "java/lang/IndexOutOfBoundsException" ∨ E = "java/lang/UnsupportedOperationException" := by
  rw [m_X7_give] at h
  rcases nd_cases h with h | h
  · exact Or.inl (er_X7_needActor h)
  · rcases nd_cases h with h | h
    · exact Or.inl (er_X7_needThing h)
    · rcases nd_cases h with h | h
      · exact Or.inl (er_X7_needPlace h)
      · by_cases q9 : v = (σ 5 t.toNatClampNeg 0)
        · rw [if_pos q9] at h
          rcases nd_cases h with h | h
          · exact Or.inr ((er_X7_needPower h))
          · have h2 : (none : Option String) = some E := h
            cases h2
        · rw [if_neg q9] at h
          rcases nd_cases h with h | h
          · exact Or.inr ((er_X7_needPower h))
          · have h2 : (none : Option String) = some E := h
            cases h2
theorem er_X7_label {k : Int32} {t : Int32} {v : Int32} {w : Int32} {σ : Sg} {E : String} (h : (m_X7_label k t v w σ).1 = some E) : E = "java/lang/IndexOutOfBoundsException" ∨ E = "java/lang/IllegalArgumentException" ∨ E = "java/lang/UnsupportedOperationException" := by
  rw [m_X7_label] at h
  rcases nd_cases h with h | h
  · exact Or.inl (er_X7_needActor h)
  · rcases nd_cases h with h | h
    · exact Or.inl (er_X7_needThing h)
    · rcases nd_cases h with h | h
      · exact Or.inr (Or.inl (er_X7_needRange h))
      · rcases nd_cases h with h | h
        · exact Or.inr (Or.inl (er_X7_needRange h))
        · by_cases q9 : (f_X0_isFine k.toNatClampNeg 4 σ) = 0
          · rw [if_pos q9] at h
            rcases nd_cases h with h | h
            · exact Or.inr (Or.inr ((er_X7_needPower h)))
            · have h2 : (none : Option String) = some E := h
              cases h2
          · rw [if_neg q9] at h
            by_cases q9 : (f_X7_dominates (σ 0 k.toNatClampNeg 2) (σ 0 k.toNatClampNeg 3) v w) = 0
            · rw [if_pos q9] at h
              rcases nd_cases h with h | h
              · exact Or.inr (Or.inr ((er_X7_needPower h)))
              · have h2 : (none : Option String) = some E := h
                cases h2
            · rw [if_neg q9] at h
              rcases nd_cases h with h | h
              · exact Or.inr (Or.inr ((er_X7_needPower h)))
              · have h2 : (none : Option String) = some E := h
                cases h2
theorem er_X7_rule {d : Int32} {t : Int32} {v : Int32} {σ : Sg} {E : String} (h : (m_X7_rule d t v σ).1 = some E) : E = "java/lang/IndexOutOfBoundsException" ∨ E = "java/lang/IllegalArgumentException" := by
  rw [m_X7_rule] at h
  rcases nd_cases h with h | h
  · exact Or.inl (er_X7_needPlace h)
  · rcases nd_cases h with h | h
    · exact Or.inr ((er_X7_needRange h))
    · rcases nd_cases h with h | h
      · exact Or.inr ((er_X7_needRange h))
      · have h2 : (none : Option String) = some E := h
        cases h2
theorem er_X7_move {d : Int32} {t : Int32} {v : Int32} {σ : Sg} {E : String} (h : (m_X7_move d t v σ).1 = some E) : E = "java/lang/IndexOutOfBoundsException" ∨ E = "java/lang/IllegalArgumentException" := by
  rw [m_X7_move] at h
  rcases nd_cases h with h | h
  · exact Or.inl (er_X7_needPlace h)
  · by_cases q9 : v = (-1)
    · rw [if_pos q9] at h
      rcases nd_cases h with h | h
      · exact Or.inr ((er_X7_needRange h))
      · have h2 : (none : Option String) = some E := h
        cases h2
    · rw [if_neg q9] at h
      rcases nd_cases h with h | h
      · exact Or.inl (er_X7_needPlace h)
      · rcases nd_cases h with h | h
        · exact Or.inr ((er_X7_needRange h))
        · have h2 : (none : Option String) = some E := h
          cases h2
theorem er_X7_process {u : Int32} {d : Int32} {v : Int32} {w : Int32} {f : Int32} {b : Int32} {σ : Sg} {E : String} (h : (m_X7_process u d v w f b σ).1 = some E) : E = "java/lang/IndexOutOfBoundsException" ∨ E = "java/lang/IllegalArgumentException" ∨ E = "java/lang/IllegalStateException" := by
  rw [m_X7_process] at h
  rcases nd_cases h with h | h
  · exact Or.inl (er_X7_needPlace h)
  · rcases nd_cases h with h | h
    · exact Or.inl (er_X7_needPlace h)
    · rcases nd_cases h with h | h
      · exact Or.inr (Or.inl (er_X7_needRange h))
      · rcases nd_cases h with h | h
        · exact Or.inr (Or.inl (er_X7_needRange h))
        · rcases nd_cases h with h | h
          · exact Or.inr (Or.inl (er_X7_needRange h))
          · rcases nd_cases h with h | h
            · exact Or.inr (Or.inl (er_X7_needRange h))
            · rcases nd_cases h with h | h
              · exact Or.inr (Or.inl (er_X7_needSubset h))
              · rcases nd_cases h with h | h
                · exact Or.inr (Or.inr ((er_X7_needRoom h)))
                · have h2 : (none : Option String) = some E := h
                  cases h2
theorem er_X7_filter {k : Int32} {v : Int32} {σ : Sg} {E : String} (h : (m_X7_filter k v σ).1 = some E) : E = "java/lang/IndexOutOfBoundsException" ∨ E = "java/lang/IllegalArgumentException" ∨ E = "java/lang/IllegalStateException" := by
  rw [m_X7_filter] at h
  rcases nd_cases h with h | h
  · exact Or.inl (er_X7_needActor h)
  · rcases nd_cases h with h | h
    · exact Or.inr (Or.inl (er_X7_needRange h))
    · rcases nd_cases h with h | h
      · exact Or.inr (Or.inr ((er_X7_needRoom h)))
      · have h2 : (none : Option String) = some E := h
        cases h2
theorem er_X7_bound {k : Int32} {v : Int32} {σ : Sg} {E : String} (h : (m_X7_bound k v σ).1 = some E) : E = "java/lang/IndexOutOfBoundsException" ∨ E = "java/lang/IllegalArgumentException" := by
  rw [m_X7_bound] at h
  rcases nd_cases h with h | h
  · exact Or.inl (er_X7_needActor h)
  · rcases nd_cases h with h | h
    · exact Or.inr ((er_X7_needRange h))
    · have h2 : (none : Option String) = some E := h
      cases h2
theorem er_X7_about {k : Int32} {v : Int32} {σ : Sg} {E : String} (h : (m_X7_about k v σ).1 = some E) : E = "java/lang/IndexOutOfBoundsException" ∨ E = "java/lang/IllegalArgumentException" := by
  rw [m_X7_about] at h
  rcases nd_cases h with h | h
  · exact Or.inl (er_X7_needActor h)
  · rcases nd_cases h with h | h
    · exact Or.inr ((er_X7_needRange h))
    · by_cases q9 : v = 0
      · rw [if_pos q9] at h
        have h2 : (none : Option String) = some E := h
        cases h2
      · rw [if_neg q9] at h
        by_cases q9 : v = 1
        · rw [if_pos q9] at h
          have h2 : (none : Option String) = some E := h
          cases h2
        · rw [if_neg q9] at h
          by_cases q9 : v = 2
          · rw [if_pos q9] at h
            have h2 : (none : Option String) = some E := h
            cases h2
          · rw [if_neg q9] at h
            by_cases q9 : v = 3
            · rw [if_pos q9] at h
              have h2 : (none : Option String) = some E := h
              cases h2
            · rw [if_neg q9] at h
              by_cases q9 : v = 4
              · rw [if_pos q9] at h
                have h2 : (none : Option String) = some E := h
                cases h2
              · rw [if_neg q9] at h
                by_cases q9 : v = 5
                · rw [if_pos q9] at h
                  have h2 : (none : Option String) = some E := h
                  cases h2
                · rw [if_neg q9] at h
                  have h2 : (none : Option String) = some E := h
                  cases h2
theorem er_X7_act {k : Int32} {t : Int32} {r : Int32} {σ : Sg} {E : String} (h : (m_X7_act k t r σ).1 = some E) : E = "java/lang/IndexOutOfBoundsException" ∨ E = "java/lang/IllegalArgumentException" := by
  rw [m_X7_act] at h
  rcases nd_cases h with h | h
  · exact Or.inl (er_X7_needActor h)
  · rcases nd_cases h with h | h
    · exact Or.inl (er_X7_needThing h)
    · rcases nd_cases h with h | h
      · exact Or.inr ((er_X7_needRight h))
      · by_cases q9 : (f_X7_judge k.toNatClampNeg t.toNatClampNeg r σ) = 0
        · rw [if_pos q9] at h
          by_cases q9 : r = 4
          · rw [if_pos q9] at h
            have h2 : (none : Option String) = some E := h
            cases h2
          · rw [if_neg q9] at h
            have h2 : (none : Option String) = some E := h
            cases h2
        · rw [if_neg q9] at h
          have h2 : (none : Option String) = some E := h
          cases h2
theorem er_X7_actBy {k : Int32} {t : Int32} {r : Int32} {σ : Sg} {E : String} (h : (m_X7_actBy k t r σ).1 = some E) : E = "java/lang/IndexOutOfBoundsException" ∨ E = "java/lang/IllegalArgumentException" ∨ E = "java/lang/UnsupportedOperationException" := by
  rw [m_X7_actBy] at h
  rcases nd_cases h with h | h
  · exact Or.inl (er_X7_needActor h)
  · rcases nd_cases h with h | h
    · exact Or.inl (er_X7_needToken h)
    · rcases nd_cases h with h | h
      · exact Or.inr (Or.inl (er_X7_needRight h))
      · by_cases q9 : (σ 6 t.toNatClampNeg 6) = k
        · rw [if_pos q9] at h
          rcases nd_cases h with h | h
          · exact Or.inr (Or.inr ((er_X7_needPower h)))
          · have h2 : (none : Option String) = some E := h
            cases h2
        · rw [if_neg q9] at h
          rcases nd_cases h with h | h
          · exact Or.inr (Or.inr ((er_X7_needPower h)))
          · have h2 : (none : Option String) = some E := h
            cases h2
theorem er_X7_token {k : Int32} {t : Int32} {v : Int32} {u : Int32} {σ : Sg} {E : String} (h : (m_X7_token k t v u σ).1 = some E) : E = "java/lang/IndexOutOfBoundsException" ∨ E = "java/lang/IllegalArgumentException" ∨ E = "java/lang/IllegalStateException" := by
  rw [m_X7_token] at h
  rcases nd_cases h with h | h
  · exact Or.inl (er_X7_needActor h)
  · rcases nd_cases h with h | h
    · exact Or.inl (er_X7_needThing h)
    · rcases nd_cases h with h | h
      · exact Or.inr (Or.inl (er_X7_needRange h))
      · rcases nd_cases h with h | h
        · exact Or.inr (Or.inl (er_X7_needRange h))
        · rcases nd_cases h with h | h
          · exact Or.inr (Or.inr ((er_X7_needRoom h)))
          · have h2 : (none : Option String) = some E := h
            cases h2
theorem er_X7_narrow {k : Int32} {t : Int32} {v : Int32} {u : Int32} {w : Int32} {σ : Sg} {E : String} (h : (m_X7_narrow k t v u w σ).1 = some E) : E = "java/lang/IndexOutOfBoundsException" ∨ E = "java/lang/IllegalArgumentException" ∨ E = "java/lang/UnsupportedOperationException" ∨ E = "java/lang/IllegalStateException" := by
  rw [m_X7_narrow] at h
  rcases nd_cases h with h | h
  · exact Or.inl (er_X7_needActor h)
  · rcases nd_cases h with h | h
    · exact Or.inl (er_X7_needToken h)
    · rcases nd_cases h with h | h
      · exact Or.inl (er_X7_needActor h)
      · rcases nd_cases h with h | h
        · exact Or.inr (Or.inl (er_X7_needRange h))
        · rcases nd_cases h with h | h
          · exact Or.inr (Or.inl (er_X7_needSubset h))
          · rcases nd_cases h with h | h
            · exact Or.inr (Or.inl (er_X7_needRange h))
            · by_cases q9 : (σ 6 t.toNatClampNeg 6) = k
              · rw [if_pos q9] at h
                rcases nd_cases h with h | h
                · exact Or.inr (Or.inr (Or.inl (er_X7_needPower h)))
                · rcases nd_cases h with h | h
                  · exact Or.inr (Or.inr (Or.inr ((er_X7_needRoom h))))
                  · have h2 : (none : Option String) = some E := h
                    cases h2
              · rw [if_neg q9] at h
                rcases nd_cases h with h | h
                · exact Or.inr (Or.inr (Or.inl (er_X7_needPower h)))
                · rcases nd_cases h with h | h
                  · exact Or.inr (Or.inr (Or.inr ((er_X7_needRoom h))))
                  · have h2 : (none : Option String) = some E := h
                    cases h2
theorem er_X7_takeBack {k : Int32} {t : Int32} {σ : Sg} {E : String} (h : (m_X7_takeBack k t σ).1 = some E) : E = "java/lang/IndexOutOfBoundsException" ∨ E = "java/lang/UnsupportedOperationException" := by
  rw [m_X7_takeBack] at h
  rcases nd_cases h with h | h
  · exact Or.inl (er_X7_needActor h)
  · rcases nd_cases h with h | h
    · exact Or.inl (er_X7_needToken h)
    · by_cases q9 : (σ 6 t.toNatClampNeg 5) = k
      · rw [if_pos q9] at h
        rcases nd_cases h with h | h
        · exact Or.inr ((er_X7_needPower h))
        · have h2 : (none : Option String) = some E := h
          cases h2
      · rw [if_neg q9] at h
        rcases nd_cases h with h | h
        · exact Or.inr ((er_X7_needPower h))
        · have h2 : (none : Option String) = some E := h
          cases h2
theorem er_X7_pass {v : Int32} {σ : Sg} {E : String} (h : (m_X7_pass v σ).1 = some E) : E = "java/lang/IllegalArgumentException" ∨ E = "java/lang/IllegalStateException" := by
  rw [m_X7_pass] at h
  rcases nd_cases h with h | h
  · exact Or.inl (er_X7_needRange h)
  · by_cases q9 : ((σ 7 0 9) + v) ≤ 10000
    · rw [if_pos q9] at h
      have h2 : (none : Option String) = some E := h
      cases h2
    · rw [if_neg q9] at h
      have h2 : some "java/lang/IllegalStateException" = some E := h
      cases h2; exact Or.inr (rfl)
theorem er_X7_watch {v : Int32} {w : Int32} {σ : Sg} {E : String} (h : (m_X7_watch v w σ).1 = some E) : E = "java/lang/IllegalArgumentException" := by
  rw [m_X7_watch] at h
  rcases nd_cases h with h | h
  · exact (er_X7_needRange h)
  · rcases nd_cases h with h | h
    · exact (er_X7_needRange h)
    · have h2 : (none : Option String) = some E := h
      cases h2
theorem er_X7_logged {x : Int32} {v : Int32} {σ : Sg} {E : String} (h : (m_X7_logged x v σ).1 = some E) : E = "java/lang/IndexOutOfBoundsException" ∨ E = "java/lang/IllegalArgumentException" := by
  rw [m_X7_logged] at h
  rcases nd_cases h with h | h
  · exact Or.inl (er_X7_needPlace h)
  · rcases nd_cases h with h | h
    · exact Or.inr ((er_X7_needRange h))
    · have h2 : (none : Option String) = some E := h
      cases h2
theorem er_X7_forge {x : Int32} {v : Int32} {σ : Sg} {E : String} (h : (m_X7_forge x v σ).1 = some E) : E = "java/lang/IndexOutOfBoundsException" ∨ E = "java/lang/IllegalArgumentException" := by
  rw [m_X7_forge] at h
  rcases nd_cases h with h | h
  · exact Or.inl (er_X7_needPlace h)
  · rcases nd_cases h with h | h
    · exact Or.inr ((er_X7_needRange h))
    · have h2 : (none : Option String) = some E := h
      cases h2
theorem er_X7_verdict {k : Int32} {t : Int32} {r : Int32} {σ : Sg} {E : String} (h : (m_X7_verdict k t r σ).1 = some E) : E = "java/lang/IndexOutOfBoundsException" ∨ E = "java/lang/IllegalArgumentException" := by
  rw [m_X7_verdict] at h
  rcases nd_cases h with h | h
  · exact Or.inl (er_X7_needActor h)
  · rcases nd_cases h with h | h
    · exact Or.inl (er_X7_needThing h)
    · rcases nd_cases h with h | h
      · exact Or.inr ((er_X7_needRight h))
      · have h2 : (none : Option String) = some E := h
        cases h2
theorem er_X7_verdictAnew {k : Int32} {t : Int32} {r : Int32} {σ : Sg} {E : String} (h : (m_X7_verdictAnew k t r σ).1 = some E) : E = "java/lang/IndexOutOfBoundsException" ∨ E = "java/lang/IllegalArgumentException" := by
  rw [m_X7_verdictAnew] at h
  rcases nd_cases h with h | h
  · exact Or.inl (er_X7_needActor h)
  · rcases nd_cases h with h | h
    · exact Or.inl (er_X7_needThing h)
    · rcases nd_cases h with h | h
      · exact Or.inr ((er_X7_needRight h))
      · have h2 : (none : Option String) = some E := h
        cases h2
theorem er_X7_reach {k : Int32} {t : Int32} {r : Int32} {σ : Sg} {E : String} (h : (m_X7_reach k t r σ).1 = some E) : E = "java/lang/IndexOutOfBoundsException" ∨ E = "java/lang/IllegalArgumentException" := by
  rw [m_X7_reach] at h
  rcases nd_cases h with h | h
  · exact Or.inl (er_X7_needActor h)
  · rcases nd_cases h with h | h
    · exact Or.inl (er_X7_needThing h)
    · rcases nd_cases h with h | h
      · exact Or.inr ((er_X7_needRight h))
      · have h2 : (none : Option String) = some E := h
        cases h2
theorem er_X7_reachAnew {k : Int32} {t : Int32} {r : Int32} {σ : Sg} {E : String} (h : (m_X7_reachAnew k t r σ).1 = some E) : E = "java/lang/IndexOutOfBoundsException" ∨ E = "java/lang/IllegalArgumentException" := by
  rw [m_X7_reachAnew] at h
  rcases nd_cases h with h | h
  · exact Or.inl (er_X7_needActor h)
  · rcases nd_cases h with h | h
    · exact Or.inl (er_X7_needThing h)
    · rcases nd_cases h with h | h
      · exact Or.inr ((er_X7_needRight h))
      · have h2 : (none : Option String) = some E := h
        cases h2
theorem er_X7_least {u : Int32} {t : Int32} {r : Int32} {σ : Sg} {E : String} (h : (m_X7_least u t r σ).1 = some E) : E = "java/lang/IndexOutOfBoundsException" ∨ E = "java/lang/IllegalArgumentException" := by
  rw [m_X7_least] at h
  rcases nd_cases h with h | h
  · exact Or.inl (er_X7_needPlace h)
  · rcases nd_cases h with h | h
    · exact Or.inl (er_X7_needThing h)
    · rcases nd_cases h with h | h
      · exact Or.inr ((er_X7_needRight h))
      · have h2 : (none : Option String) = some E := h
        cases h2
theorem er_X7_leastAnew {u : Int32} {t : Int32} {r : Int32} {σ : Sg} {E : String} (h : (m_X7_leastAnew u t r σ).1 = some E) : E = "java/lang/IndexOutOfBoundsException" ∨ E = "java/lang/IllegalArgumentException" := by
  rw [m_X7_leastAnew] at h
  rcases nd_cases h with h | h
  · exact Or.inl (er_X7_needPlace h)
  · rcases nd_cases h with h | h
    · exact Or.inl (er_X7_needThing h)
    · rcases nd_cases h with h | h
      · exact Or.inr ((er_X7_needRight h))
      · have h2 : (none : Option String) = some E := h
        cases h2
