/-! the calls that change one place on each side -/
theorem us_row (σ : Sg) (k i j : Nat) (v : Int32) (k' i' : Nat) : us σ k i j v k' i' = fun j' => if k' = k ∧ i' = i ∧ j' = j then v else σ k' i' j' := rfl
theorem Rth.set {T t : Nat} {f e : Nat → Int32} {ow gr mo ty le ca ma ml : Int32} {wh ig ha dn : Nat → Int32} (h : Rth T t f e ow gr mo ty le ca ma ml wh ig ha dn) {f' : Nat → Int32} {ow' mo' ty' le' ca' ma' : Int32} (h0 : ow' = f' 0) (h2 : mo' = f' 2) (h3 : ty' = f' 3) (h4 : le' = f' 4) (h5 : ca' = f' 5) (h1 : f' 1 = f 1) (h6 : t < T ∧ ma' = f' 6 ∧ nb 8 (f' 6)) (h7 : f' 7 = f 7) (h8 : f' 8 = f 8) (n0 : nb 6 (f' 0)) (n2 : nb 1024 (f' 2)) (n3 : nb 4 (f' 3)) : Rth T t f' e ow' gr mo' ty' le' ca' ma' ml wh ig ha dn := by
  obtain ⟨⟨a0, a1, a2, a3, a4, a5⟩, am, ⟨b0, b1, b2, b3, b6⟩, en, fr⟩ := h
  refine ⟨⟨h0, by rw [h1]; exact a1, h2, h3, h4, h5⟩, fun _ => h6.2.1, ⟨n0, by rw [h1]; exact b1, n2, n3, h6.2.2⟩, by rw [h7, h8]; exact en, fun q => absurd h6.1 (by omega)⟩
section RM
variable {T P K N : Nat} {σ : Sg}
theorem RR.may (h : RR T P K N σ) {p t : Nat} (hp : p < P) (ht : t < T) : f_X8_mayChange (nI p) (nI t) σ = f_X7_mayChange p t σ := by
  have hB := h.b
  obtain ⟨⟨a0, -, -, -, a4, -⟩, -⟩ := h.2.2.2.2.2.1 p (by omega)
  obtain ⟨⟨b0, -⟩, -⟩ := h.2.2.2.1 t (by omega)
  have e := fine2 (σ 0 p 4)
  rw [f_X8_mayChange, f_X7_mayChange, nI_clamp (show p < 2 ^ 31 by omega), nI_clamp (show t < 2 ^ 31 by omega), a0, a4, b0, f_X0_isFine]
  by_cases h1 : σ 0 p 0 = σ 5 t 0
  · rw [if_pos h1, if_pos h1]
  · rw [if_neg h1, if_neg h1]
    by_cases h2 : σ 0 p 4 &&& 2 = 0
    · rw [if_pos (e.mp h2), if_pos h2]
      rfl
    · rw [if_neg (fun q => h2 (e.mpr q)), if_neg h2]
      rfl
theorem may01 (p t : Nat) (σ : Sg) : f_X7_mayChange p t σ = 0 ∨ f_X7_mayChange p t σ = 1 := by
  rw [f_X7_mayChange]
  split
  · exact Or.inr rfl
  · split
    · exact Or.inl rfl
    · exact Or.inr rfl
theorem c_pow (b : Int32) (hb : b = 0 ∨ b = 1) : (b = 1 ∧ e_X7_needPower b = none) ∨ (b = 0 ∧ e_X7_needPower b = some "java/lang/UnsupportedOperationException") := by
  rcases hb with rfl | rfl
  · exact Or.inr ⟨rfl, rfl⟩
  · exact Or.inl ⟨rfl, rfl⟩
theorem RR.why (h : RR T P K N σ) {p t : Nat} (hp : p < P) (ht : t < T) (e1 : f_X8_isProcess (nI p) σ = 1) (e2 : f_X8_isThing (nI t) σ = 1) (b : Int32) : f_X8_whyNot (nI p) (nI t) b σ = if b = 0 then 2 else if f_X7_mayChange p t σ = 0 then 3 else 0 := by
  rw [f_X8_whyNot, e1, e2, h.may hp ht]
  rfl
end RM
theorem st_type {σ : Sg} (h : RS σ) (t v : Int32) : OKc (f_L_type t v σ) (f_X8_type t v) := by
  obtain ⟨T, P, K, N, hR⟩ := id h
  have hB := hR.b
  rcases hR.thi t with ⟨t, ht, rfl, e1, w1⟩ | ⟨e1, w1⟩
  rotate_left
  · exact OKc.er (c := 1) (x := 0) h (by decide) (by simp [f_L_type, m_X7_type, f_X8_type, nd, e1, w1]) (by simp [f_L_type, m_X7_type, f_X8_type, nd, e1, w1])
  rcases c_upto v (n := 3) (by decide) (hi := 3) rfl with ⟨hv, e2, w2⟩ | ⟨e2, w2⟩
  rotate_left
  · exact OKc.er (c := 2) (x := 0) h (by decide) (by simp [f_L_type, m_X7_type, f_X8_type, nd, e1, w1, e2, w2]) (by simp [f_L_type, m_X7_type, f_X8_type, nd, e1, w1, e2, w2])
  have ct : (nI t).toNatClampNeg = t := nI_clamp (by omega)
  have hq := hR.2.2.2.1 t (by omega)
  refine OKc.ok (τ := us σ 5 t 3 v) (x := σ 5 t 3) (τ' := us (us (us (us σ 5 t 3 v) 90 0 0 (σ 5 t 3)) 8 0 0 0) 37 0 t v) ?_ ?_ rfl ?_
  · simp [f_L_type, m_X7_type, f_X8_type, nd, e1, w1, e2, w2, ct]
  · have hw : f_X8_isThing (nI t) (us (us σ 5 t 3 v) 90 0 0 (σ 5 t 3)) = 1 := w1
    simp [f_X8_type, hw, w2, ct, us, hq.1.2.2.2.1]
  · refine ⟨T, P, K, N, hR.1, hR.2.1, hR.2.2.1, fun t' ht' => ?_, hR.2.2.2.2⟩
    have q := hR.2.2.2.1 t' ht'
    by_cases e : t' = t
    · subst e
      exact q.set (by simpa [us] using q.1.1) (by simpa [us] using q.1.2.2.1) (by simp [us]) (by simpa [us] using q.1.2.2.2.2.1) (by simpa [us] using q.1.2.2.2.2.2) (by simp [us]) ⟨ht, by simpa [us] using q.2.1 ht, by simpa [us] using q.2.2.1.2.2.2.2⟩ (by simp [us]) (by simp [us]) (by simpa [us] using q.2.2.1.1) (by simpa [us] using q.2.2.1.2.2.1) (by simpa [us] using hv)
    · simpa [us_row, e] using q
theorem st_mode {σ : Sg} (h : RS σ) (k t v : Int32) : OKc (f_L_mode k t v σ) (f_X8_mode k t v) := by
  obtain ⟨T, P, K, N, hR⟩ := id h
  have hB := hR.b
  rcases hR.act k with ⟨p, hp, rfl, e1, w1⟩ | ⟨e1, w1⟩
  rotate_left
  · exact OKc.er (c := 1) (x := 0) h (by decide) (by simp [f_L_mode, m_X7_mode, f_X8_mode, nd, e1]) (by simp [f_X8_mode, f_X8_whyNot, f_X8_rf, w1])
  rcases hR.thi t with ⟨t, ht, rfl, e2, w2⟩ | ⟨e2, w2⟩
  rotate_left
  · exact OKc.er (c := 1) (x := 0) h (by decide) (by simp [f_L_mode, m_X7_mode, f_X8_mode, nd, e1, e2]) (by simp [f_X8_mode, f_X8_whyNot, f_X8_rf, w1, w2])
  have cp : (nI p).toNatClampNeg = p := nI_clamp (by omega)
  have ct : (nI t).toNatClampNeg = t := nI_clamp (by omega)
  have hy := hR.why hp ht w1 w2
  rcases c_upto v (n := 1023) (by decide) (hi := 1023) rfl with ⟨hv, e3, w3⟩ | ⟨e3, w3⟩
  rotate_left
  · exact OKc.er (c := 2) (x := 0) h (by decide) (by simp [f_L_mode, m_X7_mode, f_X8_mode, nd, e1, e2, e3]) (by simp [f_X8_mode, hy, w3, f_X8_rf])
  rcases c_pow _ (may01 p t σ) with ⟨w4, e4⟩ | ⟨w4, e4⟩
  rotate_left
  · exact OKc.er (c := 3) (x := 0) h (by decide) (by simp [f_L_mode, m_X7_mode, f_X8_mode, nd, e1, e2, e3, e4, cp, ct]) (by simp [f_X8_mode, hy, w3, w4, f_X8_rf])
  have hq := hR.2.2.2.1 t (by omega)
  refine OKc.ok (τ := us σ 5 t 2 v) (x := σ 5 t 2) (τ' := us (us (us (us σ 5 t 2 v) 90 0 0 (σ 5 t 2)) 8 0 0 0) 36 0 t v) ?_ ?_ rfl ?_
  · simp [f_L_mode, m_X7_mode, f_X8_mode, nd, e1, e2, e3, e4, cp, ct]
  · have hw : f_X8_whyNot (nI p) (nI t) (f_X8_within v 0 1023) (us (us σ 5 t 2 v) 90 0 0 (σ 5 t 2)) = 0 := by
      refine (hy (f_X8_within v 0 1023)).trans ?_
      rw [w3, w4]
      rfl
    rw [f_X8_mode, hw]
    simp [f_X8_rf, ct, us, hq.1.2.2.1]
  · refine ⟨T, P, K, N, hR.1, hR.2.1, hR.2.2.1, fun t' ht' => ?_, hR.2.2.2.2⟩
    have q := hR.2.2.2.1 t' ht'
    by_cases e : t' = t
    · subst e
      exact q.set (by simpa [us] using q.1.1) (by simp [us]) (by simpa [us] using q.1.2.2.2.1) (by simpa [us] using q.1.2.2.2.2.1) (by simpa [us] using q.1.2.2.2.2.2) (by simp [us]) ⟨ht, by simpa [us] using q.2.1 ht, by simpa [us] using q.2.2.1.2.2.2.2⟩ (by simp [us]) (by simp [us]) (by simpa [us] using q.2.2.1.1) (by simpa [us] using hv) (by simpa [us] using q.2.2.1.2.2.2.1)
    · simpa [us_row, e] using q
theorem st_mask {σ : Sg} (h : RS σ) (k t v : Int32) : OKc (f_L_mask k t v σ) (f_X8_mask k t v) := by
  obtain ⟨T, P, K, N, hR⟩ := id h
  have hB := hR.b
  rcases hR.act k with ⟨p, hp, rfl, e1, w1⟩ | ⟨e1, w1⟩
  rotate_left
  · exact OKc.er (c := 1) (x := 0) h (by decide) (by simp [f_L_mask, m_X7_mask, f_X8_mask, nd, e1]) (by simp [f_X8_mask, f_X8_whyNot, f_X8_rf, w1])
  rcases hR.thi t with ⟨t, ht, rfl, e2, w2⟩ | ⟨e2, w2⟩
  rotate_left
  · exact OKc.er (c := 1) (x := 0) h (by decide) (by simp [f_L_mask, m_X7_mask, f_X8_mask, nd, e1, e2]) (by simp [f_X8_mask, f_X8_whyNot, f_X8_rf, w1, w2])
  have cp : (nI p).toNatClampNeg = p := nI_clamp (by omega)
  have ct : (nI t).toNatClampNeg = t := nI_clamp (by omega)
  have hy := hR.why hp ht w1 w2
  rcases c_upto v (n := 7) (by decide) (hi := 7) rfl with ⟨hv, e3, w3⟩ | ⟨e3, w3⟩
  rotate_left
  · exact OKc.er (c := 2) (x := 0) h (by decide) (by simp [f_L_mask, m_X7_mask, f_X8_mask, nd, e1, e2, e3]) (by simp [f_X8_mask, hy, w3, f_X8_rf])
  rcases c_pow _ (may01 p t σ) with ⟨w4, e4⟩ | ⟨w4, e4⟩
  rotate_left
  · exact OKc.er (c := 3) (x := 0) h (by decide) (by simp [f_L_mask, m_X7_mask, f_X8_mask, nd, e1, e2, e3, e4, cp, ct]) (by simp [f_X8_mask, hy, w3, w4, f_X8_rf])
  have hq := hR.2.2.2.1 t (by omega)
  refine OKc.ok (τ := us σ 5 t 6 v) (x := σ 5 t 6) (τ' := us (us (us (us σ 5 t 6 v) 90 0 0 (σ 5 t 6)) 8 0 0 0) 40 0 t v) ?_ ?_ rfl ?_
  · simp [f_L_mask, m_X7_mask, f_X8_mask, nd, e1, e2, e3, e4, cp, ct]
  · have hw : f_X8_whyNot (nI p) (nI t) (f_X8_within v 0 7) (us (us σ 5 t 6 v) 90 0 0 (σ 5 t 6)) = 0 := by
      refine (hy (f_X8_within v 0 7)).trans ?_
      rw [w3, w4]
      rfl
    rw [f_X8_mask, hw]
    simp [f_X8_rf, ct, us, hq.2.1 ht]
  · refine ⟨T, P, K, N, hR.1, hR.2.1, hR.2.2.1, fun t' ht' => ?_, hR.2.2.2.2⟩
    have q := hR.2.2.2.1 t' ht'
    by_cases e : t' = t
    · subst e
      exact q.set (by simpa [us] using q.1.1) (by simpa [us] using q.1.2.2.1) (by simpa [us] using q.1.2.2.2.1) (by simpa [us] using q.1.2.2.2.2.1) (by simpa [us] using q.1.2.2.2.2.2) (by simp [us]) ⟨ht, by simp [us], by simpa [us] using hv⟩ (by simp [us]) (by simp [us]) (by simpa [us] using q.2.2.1.1) (by simpa [us] using q.2.2.1.2.2.1) (by simpa [us] using q.2.2.1.2.2.2.1)
    · simpa [us_row, e] using q
theorem st_give {σ : Sg} (h : RS σ) (k t v : Int32) : OKc (f_L_give k t v σ) (f_X8_give k t v) := by
  obtain ⟨T, P, K, N, hR⟩ := id h
  have hB := hR.b
  rcases hR.act k with ⟨p, hp, rfl, e1, w1⟩ | ⟨e1, w1⟩
  rotate_left
  · exact OKc.er (c := 1) (x := 0) h (by decide) (by simp [f_L_give, m_X7_give, nd, e1]) (by simp [f_X8_give, w1])
  rcases hR.thi t with ⟨t, ht, rfl, e2, w2⟩ | ⟨e2, w2⟩
  rotate_left
  · exact OKc.er (c := 1) (x := 0) h (by decide) (by simp [f_L_give, m_X7_give, nd, e1, e2]) (by simp [f_X8_give, w1, w2])
  rcases c_six v with ⟨o, ho, rfl, e3, w3⟩ | ⟨e3, w3⟩
  rotate_left
  · exact OKc.er (c := 1) (x := 0) h (by decide) (by simp [f_L_give, m_X7_give, nd, e1, e2, e3]) (by simp [f_X8_give, w1, w2, w3])
  have cp : (nI p).toNatClampNeg = p := nI_clamp (by omega)
  have ct : (nI t).toNatClampNeg = t := nI_clamp (by omega)
  have hq := hR.2.2.2.1 t (by omega)
  obtain ⟨⟨a0, -, -, -, a4, -⟩, -⟩ := hR.2.2.2.2.2.1 p (by omega)
  have b0 := hq.1.1
  have ef := fine2 (σ 0 p 4)
  have hv : nb 6 (nI o) := ⟨o, ho, rfl⟩
  have good : (f_X8_hasBit (σ 0 p 4) 1 = 0 → σ 0 p 0 = σ 5 t 0 ∧ nI o = σ 5 t 0) → f_L_give (nI p) (nI t) (nI o) σ = (0, us (us σ 5 t 0 (nI o)) 90 0 0 (σ 5 t 0)) → OKc (f_L_give (nI p) (nI t) (nI o) σ) (f_X8_give (nI p) (nI t) (nI o)) := by
    intro hg hL
    refine OKc.ok (τ := us σ 5 t 0 (nI o)) (x := σ 5 t 0) (τ' := us (us (us (us σ 5 t 0 (nI o)) 90 0 0 (σ 5 t 0)) 8 0 0 0) 34 0 t (nI o)) hL ?_ rfl ?_
    · have k1 : f_X8_isProcess (nI p) (us (us σ 5 t 0 (nI o)) 90 0 0 (σ 5 t 0)) = 1 := w1
      have k2 : f_X8_isThing (nI t) (us (us σ 5 t 0 (nI o)) 90 0 0 (σ 5 t 0)) = 1 := w2
      have k3 : (us (us σ 5 t 0 (nI o)) 90 0 0 (σ 5 t 0)) 53 0 p = σ 0 p 4 := a4
      have k4 : (us (us σ 5 t 0 (nI o)) 90 0 0 (σ 5 t 0)) 49 0 p = σ 0 p 0 := a0
      have k5 : (us (us σ 5 t 0 (nI o)) 90 0 0 (σ 5 t 0)) 34 0 t = σ 5 t 0 := b0
      rw [f_X8_give, k1, k2, w3, cp, ct, k3, k4, k5]
      by_cases hz : f_X8_hasBit (σ 0 p 4) 1 = 0
      · obtain ⟨g1, g2⟩ := hg hz
        simp only [hz, g1, g2, if_true, show ¬ (1 : Int32) = 0 by decide, if_false]
      · simp only [hz, show ¬ (1 : Int32) = 0 by decide, if_false]
    · refine ⟨T, P, K, N, hR.1, hR.2.1, hR.2.2.1, fun t' ht' => ?_, hR.2.2.2.2⟩
      have q := hR.2.2.2.1 t' ht'
      by_cases e : t' = t
      · subst e
        exact q.set (by simp [us]) (by simpa [us] using q.1.2.2.1) (by simpa [us] using q.1.2.2.2.1) (by simpa [us] using q.1.2.2.2.2.1) (by simpa [us] using q.1.2.2.2.2.2) (by simp [us]) ⟨ht, by simpa [us] using q.2.1 ht, by simpa [us] using q.2.2.1.2.2.2.2⟩ (by simp [us]) (by simp [us]) (by simpa [us] using hv) (by simpa [us] using q.2.2.1.2.2.1) (by simpa [us] using q.2.2.1.2.2.2.1)
      · simpa [us_row, e] using q
  have bad : f_X8_hasBit (σ 0 p 4) 1 = 0 → ¬ (σ 0 p 0 = σ 5 t 0 ∧ nI o = σ 5 t 0) → f_L_give (nI p) (nI t) (nI o) σ = (2, σ) → OKc (f_L_give (nI p) (nI t) (nI o) σ) (f_X8_give (nI p) (nI t) (nI o)) := by
    intro hz hg hL
    refine OKc.er (c := 2) (x := 0) h (by decide) hL ?_
    rw [f_X8_give, w1, w2, w3, cp, ct, a4, a0, b0, hz]
    by_cases g1 : σ 0 p 0 = σ 5 t 0
    · have g2 : ¬ nI o = σ 5 t 0 := fun q => hg ⟨g1, q⟩
      simp [g1, g2]
    · simp [g1]
  have hf : f_X0_isFine p 2 σ = if f_X8_hasBit (σ 0 p 4) 1 = 0 then 0 else 1 := by
    rw [f_X0_isFine]
    by_cases hz : σ 0 p 4 &&& 2 = 0
    · rw [if_pos hz, if_pos (ef.mp hz)]
    · rw [if_neg hz, if_neg (fun q => hz (ef.mpr q))]
  have hm : f_X7_mayChange p t σ = if σ 0 p 0 = σ 5 t 0 then 1 else if f_X8_hasBit (σ 0 p 4) 1 = 0 then 0 else 1 := by
    rw [f_X7_mayChange, hf]
    by_cases hz : f_X8_hasBit (σ 0 p 4) 1 = 0
    · simp [hz]
    · simp [hz]
  by_cases hz : f_X8_hasBit (σ 0 p 4) 1 = 0
  · rw [if_pos hz] at hf
    simp only [hz, if_true] at hm
    by_cases g1 : σ 0 p 0 = σ 5 t 0
    · rw [if_pos g1] at hm
      by_cases g2 : nI o = σ 5 t 0
      · exact good (fun _ => ⟨g1, g2⟩) (by simp only [f_L_give, m_X7_give, nd, e1, e2, e3, cp, ct, if_pos g2, hm]; rfl)
      · exact bad hz (fun q => g2 q.2) (by simp only [f_L_give, m_X7_give, nd, e1, e2, e3, cp, ct, if_neg g2, hf]; rfl)
    · rw [if_neg g1] at hm
      refine bad hz (fun q => g1 q.1) ?_
      by_cases g2 : nI o = σ 5 t 0
      · simp only [f_L_give, m_X7_give, nd, e1, e2, e3, cp, ct, if_pos g2, hm]; rfl
      · simp only [f_L_give, m_X7_give, nd, e1, e2, e3, cp, ct, if_neg g2, hf]; rfl
  · rw [if_neg hz] at hf
    refine good (fun q => absurd q hz) ?_
    have hm1 : f_X7_mayChange p t σ = 1 := by
      rw [hm]
      by_cases g1 : σ 0 p 0 = σ 5 t 0
      · rw [if_pos g1]
      · rw [if_neg g1, if_neg hz]
    by_cases g2 : nI o = σ 5 t 0
    · simp only [f_L_give, m_X7_give, nd, e1, e2, e3, cp, ct, if_pos g2, hm1]; rfl
    · simp only [f_L_give, m_X7_give, nd, e1, e2, e3, cp, ct, if_neg g2, hf]; rfl
