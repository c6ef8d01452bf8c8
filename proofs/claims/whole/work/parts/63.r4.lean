/-! labels, rules, processes -/
theorem hb4 (x : Int32) : (x &&& 4 = 0) ↔ f_X8_hasBit x 2 = 0 := fineB x (b := 2) (by decide)
theorem st_label {σ : Sg} (h : RS σ) (k t v w : Int32) : OKc (f_L_label k t v w σ) (f_X8_label k t v w) := by
  obtain ⟨T, P, K, N, hR⟩ := id h
  have hB := hR.b
  rcases hR.act k with ⟨p, hp, rfl, e1, w1⟩ | ⟨e1, w1⟩
  rotate_left
  · exact OKc.er (c := 1) (x := 0) h (by decide) (by simp [f_L_label, m_X7_label, nd, e1]) (by simp [f_X8_label, w1])
  rcases hR.thi t with ⟨t, ht, rfl, e2, w2⟩ | ⟨e2, w2⟩
  rotate_left
  · exact OKc.er (c := 1) (x := 0) h (by decide) (by simp [f_L_label, m_X7_label, nd, e1, e2]) (by simp [f_X8_label, w1, w2])
  rcases c_upto v (n := 3) (by decide) (hi := 3) rfl with ⟨hv, e3, w3⟩ | ⟨e3, w3⟩
  rotate_left
  · exact OKc.er (c := 2) (x := 0) h (by decide) (by simp [f_L_label, m_X7_label, nd, e1, e2, e3]) (by simp [f_X8_label, w1, w2, w3])
  rcases c_upto w (n := 7) (by decide) (hi := 7) rfl with ⟨hw, e4, w4⟩ | ⟨e4, w4⟩
  rotate_left
  · exact OKc.er (c := 2) (x := 0) h (by decide) (by simp [f_L_label, m_X7_label, nd, e1, e2, e3, e4]) (by simp [f_X8_label, w1, w2, w3, w4])
  have cp : (nI p).toNatClampNeg = p := nI_clamp (by omega)
  have ct : (nI t).toNatClampNeg = t := nI_clamp (by omega)
  have hq := hR.2.2.2.1 t (by omega)
  obtain ⟨⟨-, -, a2, a3, a4, -⟩, -⟩ := hR.2.2.2.2.2.1 p (by omega)
  have pw0 : e_X7_needPower 0 = some "java/lang/UnsupportedOperationException" := rfl
  have pw1 : e_X7_needPower 1 = none := rfl
  by_cases c1 : f_X8_hasBit (σ 0 p 4) 2 = 0
  · have f0 : f_X0_isFine p 4 σ = 0 := by rw [f_X0_isFine, if_pos ((hb4 _).mpr c1)]
    exact OKc.er (c := 3) (x := 0) h (by decide) (by simp [f_L_label, m_X7_label, nd, e1, e2, e3, e4, cp, ct, f0, pw0]) (by simp [f_X8_label, w1, w2, w3, w4, cp, ct, a4, c1])
  have f1 : f_X0_isFine p 4 σ = 1 := by rw [f_X0_isFine, if_neg (fun q => c1 ((hb4 _).mp q))]
  by_cases c2 : σ 0 p 2 < v
  · have d0 : f_X7_dominates (σ 0 p 2) (σ 0 p 3) v w = 0 := by rw [f_X7_dominates, if_pos c2]
    exact OKc.er (c := 3) (x := 0) h (by decide) (by simp [f_L_label, m_X7_label, nd, e1, e2, e3, e4, cp, ct, f1, d0, pw0]) (by simp only [f_X8_label, w1, w2, w3, w4, cp, ct, a4, c1, a2, if_pos c2]; simp)
  by_cases c3 : w &&& (σ 0 p 3 ^^^ (-1 : Int32)) = 0
  rotate_left
  · skip
    have d0 : f_X7_dominates (σ 0 p 2) (σ 0 p 3) v w = 0 := by rw [f_X7_dominates, if_neg c2, if_neg c3]
    exact OKc.er (c := 3) (x := 0) h (by decide) (by simp [f_L_label, m_X7_label, nd, e1, e2, e3, e4, cp, ct, f1, d0, pw0]) (by simp only [f_X8_label, w1, w2, w3, w4, cp, ct, a4, c1, a2, a3, if_neg c2, if_neg c3]; simp)
  have d1 : f_X7_dominates (σ 0 p 2) (σ 0 p 3) v w = 1 := by rw [f_X7_dominates, if_neg c2, if_pos c3]
  obtain ⟨s1, hs1⟩ : ∃ s1, s1 = us (us (us σ 5 t 4 v) 5 t 5 w) 90 0 0 (((10 : Int32) * (σ 5 t 4)) + (σ 5 t 5)) := ⟨_, rfl⟩
  refine OKc.ok (τ := us (us σ 5 t 4 v) 5 t 5 w) (x := ((10 : Int32) * (σ 5 t 4)) + (σ 5 t 5)) (τ' := us (us (us s1 8 0 0 0) 38 0 t v) 39 0 t w) ?_ ?_ rfl ?_
  · simp [f_L_label, m_X7_label, nd, e1, e2, e3, e4, cp, ct, f1, d1, pw1]
  · rw [← hs1]
    have k1 : f_X8_isProcess (nI p) s1 = 1 := by rw [hs1]; exact w1
    have k2 : f_X8_isThing (nI t) s1 = 1 := by rw [hs1]; exact w2
    have k3 : s1 53 0 p = σ 0 p 4 := by rw [hs1]; exact a4
    have k4 : s1 51 0 p = σ 0 p 2 := by rw [hs1]; exact a2
    have k5 : s1 52 0 p = σ 0 p 3 := by rw [hs1]; exact a3
    have k6 : s1 38 0 t = σ 5 t 4 := by rw [hs1]; exact hq.1.2.2.2.2.1
    have k7 : s1 39 0 t = σ 5 t 5 := by rw [hs1]; exact hq.1.2.2.2.2.2
    simp only [f_X8_label, k1, k2, w3, w4, cp, ct, k3, k4, k5, k6, k7, c1, if_neg c2, if_pos c3, show ¬ (1 : Int32) = 0 by decide, if_false]
  · subst hs1
    refine ⟨T, P, K, N, hR.1, hR.2.1, hR.2.2.1, fun t' ht' => ?_, hR.2.2.2.2⟩
    have q := hR.2.2.2.1 t' ht'
    by_cases e : t' = t
    · subst e
      exact q.set (by simpa [us] using q.1.1) (by simpa [us] using q.1.2.2.1) (by simpa [us] using q.1.2.2.2.1) (by simp [us]) (by simp [us]) (by simp [us]) ⟨ht, by simpa [us] using q.2.1 ht, by simpa [us] using q.2.2.1.2.2.2.2⟩ (by simp [us]) (by simp [us]) (by simpa [us] using q.2.2.1.1) (by simpa [us] using q.2.2.1.2.2.1) (by simpa [us] using q.2.2.1.2.2.2.1)
    · simpa [us_row, e] using q
theorem ix1 : ∀ d : Nat, d < 4 → ∀ t : Nat, t < 4 → f_X3_isCell (nI d) (nI t) = 1 ∧ ((nI d * (4 : Int32)) + nI t).toNatClampNeg = 4 * d + t ∧ (((4 : Int32) * nI d) + nI t).toNatClampNeg = 4 * d + t := by decide +kernel
theorem st_rule {σ : Sg} (h : RS σ) (d t v : Int32) : OKc (f_L_rule d t v σ) (f_X8_rule d t v) := by
  obtain ⟨T, P, K, N, hR⟩ := id h
  rcases c_four d with ⟨d, hd, rfl, e1, w1⟩ | ⟨e1, w1⟩
  rotate_left
  · exact OKc.er (c := 1) (x := 0) h (by decide) (by simp [f_L_rule, m_X7_rule, nd, e1]) (by simp [f_X8_rule, w1])
  rcases c_upto t (n := 3) (by decide) (hi := 3) rfl with ⟨⟨t, ht, rfl⟩, e2, w2⟩ | ⟨e2, w2⟩
  rotate_left
  · exact OKc.er (c := 2) (x := 0) h (by decide) (by simp [f_L_rule, m_X7_rule, nd, e1, e2]) (by simp [f_X8_rule, w1, w2])
  rcases c_upto v (n := 7) (by decide) (hi := 7) rfl with ⟨hv, e3, w3⟩ | ⟨e3, w3⟩
  rotate_left
  · exact OKc.er (c := 2) (x := 0) h (by decide) (by simp [f_L_rule, m_X7_rule, nd, e1, e2, e3]) (by simp [f_X8_rule, w1, w2, w3])
  obtain ⟨i1, i2, i3⟩ := ix1 d hd t (by omega)
  have hr := hR.2.2.2.2.1 (4 * d + t) (by omega)
  refine OKc.ok (τ := us σ 16 0 (4 * d + t) v) (x := σ 16 0 (4 * d + t)) (τ' := us (us (us (us σ 16 0 (4 * d + t) v) 90 0 0 (σ 16 0 (4 * d + t))) 8 0 0 0) 46 0 (4 * d + t) v) ?_ ?_ rfl ?_
  · simp [f_L_rule, m_X7_rule, nd, e1, e2, e3, f_X3_rightsOf, s_X3_setRights, i1, i2]
  · simp [f_X8_rule, w1, w2, w3, i3, us, hr.1]
  · refine ⟨T, P, K, N, hR.1, hR.2.1, hR.2.2.1, hR.2.2.2.1, fun i hi => ?_, hR.2.2.2.2.2⟩
    have q := hR.2.2.2.2.1 i hi
    by_cases e : i = 4 * d + t
    · subst e
      exact ⟨by simp [us], by simpa [us] using q.2.1, by simpa [us] using q.2.2⟩
    · simpa [us_row, e] using q
theorem c_mv (v : Int32) : v = -1 ∨ (v ≠ -1 ∧ nb 4 v ∧ e_X7_needPlace v 4 = none ∧ f_X8_within v (-1) 3 = 1) ∨ (v ≠ -1 ∧ e_X7_needPlace v 4 = some "java/lang/IndexOutOfBoundsException" ∧ f_X8_within v (-1) 3 = 0) := by
  by_cases h : v = -1
  · exact Or.inl h
  right
  rcases c_four v with ⟨j, hj, rfl, e1, w1⟩ | ⟨e1, w1⟩
  · exact Or.inl ⟨h, ⟨j, hj, rfl⟩, e1, (by decide +kernel : ∀ j : Nat, j < 4 → f_X8_within (nI j) (-1) 3 = 1) j hj⟩
  · refine Or.inr ⟨h, e1, ?_⟩
    rw [f_X8_within] at w1 ⊢
    by_cases h0 : v < -1
    · rw [if_pos h0]
    · rw [if_neg h0]
      by_cases h1 : v < 0
      · exfalso
        have a := ltI.mp h1
        have b := mt ltI.mpr h0
        simp at a b
        apply h
        apply Int32.toInt_inj.mp
        simp
        omega
      · rw [if_neg h1] at w1
        by_cases h2 : 3 < v
        · rw [if_pos h2]
        · rw [if_neg h2] at w1
          exact absurd w1 (by decide)
theorem st_move {σ : Sg} (h : RS σ) (d t v : Int32) : OKc (f_L_move d t v σ) (f_X8_move d t v) := by
  obtain ⟨T, P, K, N, hR⟩ := id h
  rcases c_four d with ⟨d, hd, rfl, e1, w1⟩ | ⟨e1, w1⟩
  rotate_left
  · exact OKc.er (c := 1) (x := 0) h (by decide) (by simp [f_L_move, m_X7_move, nd, e1]) (by simp [f_X8_move, w1])
  have fin : f_X8_within v (-1) 3 = 1 → (v = -1 ∨ nb 4 v) → (∀ o : Option String × Int32 × Sg, (if v = -1 then o else nd (e_X7_needPlace v 4) o) = o) → OKc (f_L_move (nI d) t v σ) (f_X8_move (nI d) t v) := by
    intro wv hv ho
    rcases c_upto t (n := 3) (by decide) (hi := 3) rfl with ⟨⟨t, ht, rfl⟩, e2, w2⟩ | ⟨e2, w2⟩
    rotate_left
    · skip
      refine OKc.er (c := 2) (x := 0) h (by decide) ?_ (by simp [f_X8_move, w1, wv, w2])
      have hm : m_X7_move (nI d) t v σ = nd (e_X7_needPlace (nI d) 4) (nd (e_X7_needRange t 0 3) ((none, f_X3_moveOf (nI d) t σ, s_X3_setMove (nI d) t v σ))) := by
        rw [m_X7_move, ho]
      simp [f_L_move, hm, nd, e1, e2]
    have hm : m_X7_move (nI d) (nI t) v σ = nd (e_X7_needPlace (nI d) 4) (nd (e_X7_needRange (nI t) 0 3) ((none, f_X3_moveOf (nI d) (nI t) σ, s_X3_setMove (nI d) (nI t) v σ))) := by
      rw [m_X7_move, ho]
    obtain ⟨i1, i2, i3⟩ := ix1 d hd t (by omega)
    have hr := hR.2.2.2.2.1 (4 * d + t) (by omega)
    refine OKc.ok (τ := us σ 17 0 (4 * d + t) v) (x := σ 17 0 (4 * d + t)) (τ' := us (us (us (us σ 17 0 (4 * d + t) v) 90 0 0 (σ 17 0 (4 * d + t))) 8 0 0 0) 47 0 (4 * d + t) v) ?_ ?_ rfl ?_
    · simp [f_L_move, hm, nd, e1, e2, f_X3_moveOf, s_X3_setMove, i1, i2]
    · simp [f_X8_move, w1, w2, wv, i3, us, hr.2.1]
    · refine ⟨T, P, K, N, hR.1, hR.2.1, hR.2.2.1, hR.2.2.2.1, fun i hi => ?_, hR.2.2.2.2.2⟩
      have q := hR.2.2.2.2.1 i hi
      by_cases e : i = 4 * d + t
      · subst e
        exact ⟨by simpa [us] using q.1, by simp [us], by simpa [us] using hv⟩
      · simpa [us_row, e] using q
  rcases c_mv v with rfl | ⟨hv, nv, e3, w3⟩ | ⟨hv, e3, w3⟩
  · exact fin (by decide) (Or.inl rfl) (fun o => if_pos rfl)
  · exact fin w3 (Or.inr nv) (fun o => by rw [if_neg hv, e3]; rfl)
  · exact OKc.er (c := 1) (x := 0) h (by decide) (by simp [f_L_move, m_X7_move, nd, e1, hv, e3]) (by simp [f_X8_move, w1, w3])
theorem nI_u (x : Int32) : x = nI x.toBitVec.toNat := Int32.toBitVec_inj.mp (by
  show x.toBitVec = BitVec.ofNat 32 x.toBitVec.toNat
  simp)
theorem nb_and {n : Nat} (hn : n ≤ 2 ^ 31) {x : Int32} (h : nb n x) (y : Int32) : nb n (x &&& y) := by
  obtain ⟨a, h1, rfl⟩ := h
  refine ⟨(nI a &&& y).toBitVec.toNat, ?_, nI_u _⟩
  rw [Int32.toBitVec_and, BitVec.toNat_and, pk_tn (by omega)]
  exact Nat.lt_of_le_of_lt Nat.and_le_left h1
theorem lpf_congr {f g : Nat → Int32} : ∀ c : Nat, (∀ j : Nat, j < c → f j = g j) → lpf f c = lpf g c
  | 0, _ => rfl
  | c + 1, h => by
    show lpf f c &&& f c = lpf g c &&& g c
    rw [lpf_congr c (fun j hj => h j (by omega)), h c (by omega)]
set_option maxHeartbeats 1000000 in
theorem st_process {σ : Sg} (h : RS σ) (u d v w f b : Int32) : OKc (f_L_process u d v w f b σ) (f_X8_process u d v w f b) := by
  obtain ⟨T, P, K, N, hR⟩ := id h
  have hB := hR.b
  obtain ⟨-, -, s7, s18, -⟩ := hR.s7
  rcases c_six u with ⟨u, hu, rfl, e1, w1⟩ | ⟨e1, w1⟩
  rotate_left
  · exact OKc.er (c := 1) (x := 0) h (by decide) (by simp [f_L_process, m_X7_process, nd, e1]) (by simp [f_X8_process, w1])
  rcases c_four d with ⟨d, hd, rfl, e2, w2⟩ | ⟨e2, w2⟩
  rotate_left
  · exact OKc.er (c := 1) (x := 0) h (by decide) (by simp [f_L_process, m_X7_process, nd, e1, e2]) (by simp [f_X8_process, w1, w2])
  rcases c_upto v (n := 3) (by decide) (hi := 3) rfl with ⟨hv, e3, w3⟩ | ⟨e3, w3⟩
  rotate_left
  · exact OKc.er (c := 2) (x := 0) h (by decide) (by simp [f_L_process, m_X7_process, nd, e1, e2, e3]) (by simp [f_X8_process, w1, w2, w3])
  rcases c_upto w (n := 7) (by decide) (hi := 7) rfl with ⟨hw, e4, w4⟩ | ⟨e4, w4⟩
  rotate_left
  · exact OKc.er (c := 2) (x := 0) h (by decide) (by simp [f_L_process, m_X7_process, nd, e1, e2, e3, e4]) (by simp [f_X8_process, w1, w2, w3, w4])
  rcases c_upto f (n := 7) (by decide) (hi := 7) rfl with ⟨hf, e5, w5⟩ | ⟨e5, w5⟩
  rotate_left
  · exact OKc.er (c := 2) (x := 0) h (by decide) (by simp [f_L_process, m_X7_process, nd, e1, e2, e3, e4, e5]) (by simp [f_X8_process, w1, w2, w3, w4, w5])
  rcases c_upto b (n := 7) (by decide) (hi := 7) rfl with ⟨hb, e6, w6⟩ | ⟨e6, w6⟩
  rotate_left
  · exact OKc.er (c := 2) (x := 0) h (by decide) (by simp [f_L_process, m_X7_process, nd, e1, e2, e3, e4, e5, e6]) (by simp [f_X8_process, w1, w2, w3, w4, w5, w6])
  by_cases w7 : f &&& (b ^^^ (-1 : Int32)) = 0
  rotate_left
  · skip
    have e7 : e_X7_needSubset f b = some "java/lang/IllegalArgumentException" := by rw [e_X7_needSubset, if_neg w7]
    exact OKc.er (c := 2) (x := 0) h (by decide) (by simp [f_L_process, m_X7_process, nd, e1, e2, e3, e4, e5, e6, e7]) (by simp only [f_X8_process, w1, w2, w3, w4, w5, w6, if_neg w7]; simp)
  have e7 : e_X7_needSubset f b = none := by rw [e_X7_needSubset, if_pos w7]
  rcases c_room (n := P) (M := 8) hB.2.1 (by decide) with ⟨hP, e8, w8⟩ | ⟨hP, e8, w8⟩
  rotate_left
  · exact OKc.er (c := 3) (x := 0) h (by decide) (by
      have e8' : e_X7_needRoom (σ 7 0 7) 8 = some "java/lang/IllegalStateException" := by rw [s7]; exact e8
      simp [f_L_process, m_X7_process, nd, e1, e2, e3, e4, e5, e6, e7, e8']) (by
      have w8' : σ 8 0 18 = 8 := by rw [s18]; exact w8
      simp only [f_X8_process, w1, w2, w3, w4, w5, w6, if_pos w7, w8']; simp)
  have e8' : e_X7_needRoom (σ 7 0 7) 8 = none := by rw [s7]; exact e8
  have w8' : ¬ σ 8 0 18 = 8 := by rw [s18]; exact w8
  have cP : (nI P).toNatClampNeg = P := nI_clamp (by omega)
  have aP : nI P + 1 - 1 = nI P := by rw [nI_1, nI_pred]
  obtain ⟨τ, hτ⟩ : ∃ τ, τ = us (us (us (us (us (us (us σ 0 P 0 (nI u)) 0 P 1 (nI d)) 0 P 2 v) 0 P 3 w) 0 P 4 f) 0 P 5 b) 7 0 7 (nI P + 1) := ⟨_, rfl⟩
  refine OKc.ok (τ := τ) (x := nI P) (τ' := us (us (us (us (us (us (us (us (us (us τ 90 0 0 (nI P)) 8 0 0 0) 8 0 18 (nI P + 1)) 49 0 P (nI u)) 50 0 P (nI d)) 51 0 P v) 52 0 P w) 53 0 P f) 54 0 P b) 56 0 P 7) ?_ ?_ rfl ?_
  · simp only [f_L_process, m_X7_process, nd, e1, e2, e3, e4, e5, e6, e7, e8']
    rw [s7, cP, aP, ← hτ]
    rfl
  · have k1 : (us τ 90 0 0 (nI P)) 8 0 18 = nI P := by rw [hτ]; exact s18
    have k2 : ¬ nI P = 8 := by rw [← s18]; exact w8'
    simp only [f_X8_process, w1, w2, w3, w4, w5, w6, if_pos w7, k1, if_neg k2, cP, show ¬ (1 : Int32) = 0 by decide, if_false]
  · subst hτ
    obtain ⟨b1, b2, b3, b4⟩ := hR.1
    obtain ⟨z1, z2, z3, z4, z5, z6, z7, z8, z9, z10⟩ := hR.2.1
    refine ⟨T, P + 1, K, N, ⟨b1, by omega, b3, b4⟩, ⟨z1, z2, nI_1 P, nI_1 P, z5, z6, z7, z8, z9, z10⟩, hR.2.2.1, hR.2.2.2.1, hR.2.2.2.2.1, fun p hp => ?_, hR.2.2.2.2.2.2⟩
    have q := hR.2.2.2.2.2.1 p hp
    by_cases e : p = P
    · subst e
      obtain ⟨⟨-, -, -, -, -, -, q6⟩, -, -, ⟨c, c1, c2, c3⟩, qf⟩ := q
      have q0 := qf (Nat.le_refl _)
      have c0 : c = 0 := by
        have := c2.symm.trans q0
        exact (nI_eq (b := 0) (by omega) (by decide)).mp this
      subst c0
      have c7 : σ 0 p 7 = 7 := c3
      refine ⟨⟨by simp [us], by simp [us], by simp [us], by simp [us], by simp [us], by simp [us], by simpa [us] using q6⟩, fun _ => by simpa [us] using c7.symm, ⟨⟨u, hu, by simp [us]⟩, ⟨d, hd, by simp [us]⟩, by simpa [us] using hf, by simpa [us] using hb⟩, ⟨0, by omega, by simpa [us] using c2, by
        show _ = (7 : Int32)
        simpa [us] using c7⟩, fun q2 => absurd q2 (by omega)⟩
    · obtain ⟨q1, q2, q3, q4, q5⟩ := q
      have q' : Ra (P + 1) p (σ 0 p) (σ 10 p) (σ 49 0 p) (σ 50 0 p) (σ 51 0 p) (σ 52 0 p) (σ 53 0 p) (σ 54 0 p) (σ 55 0 p) (σ 56 0 p) := ⟨q1, fun q9 => q2 (by omega), q3, q4, fun q9 => q5 (by omega)⟩
      simpa [us_row, e] using q'
theorem st_bound {σ : Sg} (h : RS σ) (k v : Int32) : OKc (f_L_bound k v σ) (f_X8_bound k v) := by
  obtain ⟨T, P, K, N, hR⟩ := id h
  have hB := hR.b
  rcases hR.act k with ⟨p, hp, rfl, e1, w1⟩ | ⟨e1, w1⟩
  rotate_left
  · exact OKc.er (c := 1) (x := 0) h (by decide) (by simp [f_L_bound, m_X7_bound, nd, e1]) (by simp [f_X8_bound, w1])
  rcases c_upto v (n := 7) (by decide) (hi := 7) rfl with ⟨hv, e2, w2⟩ | ⟨e2, w2⟩
  rotate_left
  · exact OKc.er (c := 2) (x := 0) h (by decide) (by simp [f_L_bound, m_X7_bound, nd, e1, e2]) (by simp [f_X8_bound, w1, w2])
  have cp : (nI p).toNatClampNeg = p := nI_clamp (by omega)
  obtain ⟨⟨-, -, -, -, a4, a5, -⟩, -⟩ := hR.2.2.2.2.2.1 p (by omega)
  obtain ⟨τ, hτ⟩ : ∃ τ, τ = us (us σ 0 p 5 (σ 0 p 5 &&& (v ^^^ (-1 : Int32)))) 0 p 4 (σ 0 p 4 &&& (v ^^^ (-1 : Int32))) := ⟨_, rfl⟩
  refine OKc.ok (τ := τ) (x := σ 0 p 5 &&& (v ^^^ (-1 : Int32))) (τ' := us (us (us (us τ 90 0 0 (σ 0 p 5 &&& (v ^^^ (-1 : Int32)))) 8 0 0 0) 54 0 p (σ 0 p 5 &&& (v ^^^ (-1 : Int32)))) 53 0 p (σ 0 p 4 &&& (v ^^^ (-1 : Int32)))) ?_ ?_ rfl ?_
  · simp only [f_L_bound, m_X7_bound, nd, e1, e2, cp]
    rw [← hτ]
    rfl
  · have k1 : f_X8_isProcess (nI p) (us τ 90 0 0 (σ 0 p 5 &&& (v ^^^ (-1 : Int32)))) = 1 := by rw [hτ]; exact w1
    have k2 : (us τ 90 0 0 (σ 0 p 5 &&& (v ^^^ (-1 : Int32)))) 54 0 p = σ 0 p 5 := by rw [hτ]; exact a5
    have k3 : (us τ 90 0 0 (σ 0 p 5 &&& (v ^^^ (-1 : Int32)))) 53 0 p = σ 0 p 4 := by rw [hτ]; exact a4
    simp only [f_X8_bound, k1, w2, cp, k2, k3, show ¬ (1 : Int32) = 0 by decide, if_false]
  · subst hτ
    refine ⟨T, P, K, N, hR.1, hR.2.1, hR.2.2.1, hR.2.2.2.1, hR.2.2.2.2.1, fun p' hp' => ?_, hR.2.2.2.2.2.2⟩
    have q := hR.2.2.2.2.2.1 p' hp'
    by_cases e : p' = p
    · subst e
      obtain ⟨⟨q0, q1, q2, q3, q4, q5, q6⟩, qa, ⟨n0, n1, n4, n5⟩, ⟨c, c1, c2, c3⟩, qf⟩ := q
      exact ⟨⟨by simpa [us] using q0, by simpa [us] using q1, by simpa [us] using q2, by simpa [us] using q3, by simp [us], by simp [us], by simpa [us] using q6⟩, fun z => by simpa [us] using qa z, ⟨by simpa [us] using n0, by simpa [us] using n1, by simpa [us] using nb_and (by decide) n4 _, by simpa [us] using nb_and (by decide) n5 _⟩, ⟨c, c1, by simpa [us] using c2, by simpa [us_row] using c3⟩, fun z => absurd z (by omega)⟩
    · simpa [us_row, e] using q
theorem st_filter {σ : Sg} (h : RS σ) (k v : Int32) : OKc (f_L_filter k v σ) (f_X8_filter k v) := by
  obtain ⟨T, P, K, N, hR⟩ := id h
  have hB := hR.b
  rcases hR.act k with ⟨p, hp, rfl, e1, w1⟩ | ⟨e1, w1⟩
  rotate_left
  · exact OKc.er (c := 1) (x := 0) h (by decide) (by simp [f_L_filter, m_X7_filter, nd, e1]) (by simp [f_X8_filter, w1])
  rcases c_upto v (n := 7) (by decide) (hi := 7) rfl with ⟨hv, e2, w2⟩ | ⟨e2, w2⟩
  rotate_left
  · exact OKc.er (c := 2) (x := 0) h (by decide) (by simp [f_L_filter, m_X7_filter, nd, e1, e2]) (by simp [f_X8_filter, w1, w2])
  have cp : (nI p).toNatClampNeg = p := nI_clamp (by omega)
  obtain ⟨⟨-, -, -, -, -, -, a6⟩, aa, -, ⟨c, c1, c2, c3⟩, -⟩ := hR.2.2.2.2.2.1 p (by omega)
  have a7 := aa hp
  rcases c_room (n := c) (M := 3) c1 (by decide) with ⟨hc, e3, w3⟩ | ⟨hc, e3, w3⟩
  rotate_left
  · exact OKc.er (c := 3) (x := 0) h (by decide) (by
      have e3' : e_X7_needRoom (σ 0 p 6) 3 = some "java/lang/IllegalStateException" := by rw [c2]; exact e3
      simp [f_L_filter, m_X7_filter, nd, e1, e2, cp, e3']) (by
      have w3' : σ 55 0 p = 3 := by rw [a6, c2]; exact w3
      simp [f_X8_filter, w1, w2, cp, w3'])
  have e3' : e_X7_needRoom (σ 0 p 6) 3 = none := by rw [c2]; exact e3
  have w3' : ¬ nI c = 3 := w3
  obtain ⟨τ, hτ⟩ : ∃ τ, τ = us (us (us σ 10 p c v) 0 p 6 (nI c + 1)) 0 p 7 (σ 0 p 7 &&& v) := ⟨_, rfl⟩
  have hadd : s_X0_addFilter p v σ = τ := by
    rw [s_X0_addFilter, c2, if_neg (nI_pos (by omega)), if_neg (show ¬ (3 : Int32) ≤ nI c from nI_ge (b := 3) hc (by decide)), nI_clamp (by omega), hτ]
  have ht7 : τ 0 p 7 = σ 0 p 7 &&& v := by rw [hτ]; exact us_h
  refine OKc.ok (τ := τ) (x := σ 0 p 7 &&& v) (τ' := us (us (us (us τ 90 0 0 (σ 0 p 7 &&& v)) 8 0 0 0) 55 0 p (nI c + 1)) 56 0 p (σ 0 p 7 &&& v)) ?_ ?_ rfl ?_
  · simp only [f_L_filter, m_X7_filter, nd, e1, e2, cp, e3', hadd, ht7, if_true]
  · have k1 : f_X8_isProcess (nI p) (us τ 90 0 0 (σ 0 p 7 &&& v)) = 1 := by rw [hτ]; exact w1
    have k2 : (us τ 90 0 0 (σ 0 p 7 &&& v)) 55 0 p = nI c := by rw [hτ]; exact a6.trans c2
    have k3 : (us τ 90 0 0 (σ 0 p 7 &&& v)) 56 0 p = σ 0 p 7 := by rw [hτ]; exact a7
    simp only [f_X8_filter, k1, w2, cp, k2, k3, if_neg w3', show ¬ (1 : Int32) = 0 by decide, if_false]
  · subst hτ
    refine ⟨T, P, K, N, hR.1, hR.2.1, hR.2.2.1, hR.2.2.2.1, hR.2.2.2.2.1, fun p' hp' => ?_, hR.2.2.2.2.2.2⟩
    have q := hR.2.2.2.2.2.1 p' hp'
    by_cases e : p' = p
    · subst e
      obtain ⟨⟨q0, q1, q2, q3, q4, q5, q6⟩, qa, ⟨n0, n1, n4, n5⟩, -, qf⟩ := q
      refine ⟨⟨by simpa [us] using q0, by simpa [us] using q1, by simpa [us] using q2, by simpa [us] using q3, by simpa [us] using q4, by simpa [us] using q5, by simp [us]⟩, fun z => by simp [us], ⟨by simpa [us] using n0, by simpa [us] using n1, by simpa [us] using n4, by simpa [us] using n5⟩, ⟨c + 1, by omega, by simpa [us] using nI_1 c, ?_⟩, fun z => absurd z (by omega)⟩
      have e9 : lpf (fun j => if j = c then v else σ 10 p' j) (c + 1) = σ 0 p' 7 &&& v := by
        show lpf _ c &&& (if c = c then v else _) = _
        rw [if_pos rfl, c3, lpf_congr c (g := σ 10 p') (fun j hj => if_neg (by omega))]
      simpa [us_row] using e9.symm
    · simpa [us_row, e] using q
theorem st_about {σ : Sg} (h : RS σ) (k v : Int32) : OKc (f_L_about k v σ) (f_X8_about k v) := by
  obtain ⟨T, P, K, N, hR⟩ := id h
  have hB := hR.b
  rcases hR.act k with ⟨p, hp, rfl, e1, w1⟩ | ⟨e1, w1⟩
  rotate_left
  · exact OKc.er (c := 1) (x := 0) h (by decide) (by simp [f_L_about, m_X7_about, nd, e1]) (by simp [f_X8_about, w1])
  rcases c_upto v (n := 6) (by decide) (hi := 6) rfl with ⟨⟨j, hj, rfl⟩, e2, w2⟩ | ⟨e2, w2⟩
  rotate_left
  · exact OKc.er (c := 2) (x := 0) h (by decide) (by simp [f_L_about, m_X7_about, nd, e1, e2]) (by simp [f_X8_about, w1, w2])
  have cp : (nI p).toNatClampNeg = p := nI_clamp (by omega)
  obtain ⟨⟨a0, a1, a2, a3, a4, a5, a6⟩, aa, -, -, -⟩ := hR.2.2.2.2.2.1 p (by omega)
  have a7 := aa hp
  have go : ∀ x : Int32, f_L_about (nI p) (nI j) σ = (0, us σ 90 0 0 x) → f_X8_about (nI p) (nI j) (us σ 90 0 0 x) = (x, us (us σ 90 0 0 x) 8 0 0 0) → OKc (f_L_about (nI p) (nI j) σ) (f_X8_about (nI p) (nI j)) := fun x h1 h2 => OKc.ok h1 h2 rfl ((h.out x).ref 0)
  have k1 : ∀ x : Int32, f_X8_isProcess (nI p) (us σ 90 0 0 x) = 1 := fun _ => w1
  have j9 : j = 0 ∨ j = 1 ∨ j = 2 ∨ j = 3 ∨ j = 4 ∨ j = 5 ∨ j = 6 := by omega
  rcases j9 with rfl | rfl | rfl | rfl | rfl | rfl | rfl
  · refine go (σ 0 p 0) (by simp only [f_L_about, m_X7_about, nd, e1, e2, cp]; rfl) ?_
    have k2 : (us σ 90 0 0 (σ 0 p 0)) 49 0 p = σ 0 p 0 := a0
    simp only [f_X8_about, k1, w2, cp]
    exact Prod.ext k2 rfl
  · refine go (σ 0 p 1) (by simp only [f_L_about, m_X7_about, nd, e1, e2, cp]; rfl) ?_
    have k2 : (us σ 90 0 0 (σ 0 p 1)) 50 0 p = σ 0 p 1 := a1
    simp only [f_X8_about, k1, w2, cp]
    exact Prod.ext k2 rfl
  · refine go (σ 0 p 2) (by simp only [f_L_about, m_X7_about, nd, e1, e2, cp]; rfl) ?_
    have k2 : (us σ 90 0 0 (σ 0 p 2)) 51 0 p = σ 0 p 2 := a2
    simp only [f_X8_about, k1, w2, cp]
    exact Prod.ext k2 rfl
  · refine go (σ 0 p 3) (by simp only [f_L_about, m_X7_about, nd, e1, e2, cp]; rfl) ?_
    have k2 : (us σ 90 0 0 (σ 0 p 3)) 52 0 p = σ 0 p 3 := a3
    simp only [f_X8_about, k1, w2, cp]
    exact Prod.ext k2 rfl
  · refine go (σ 0 p 4) (by simp only [f_L_about, m_X7_about, nd, e1, e2, cp]; rfl) ?_
    have k2 : (us σ 90 0 0 (σ 0 p 4)) 53 0 p = σ 0 p 4 := a4
    simp only [f_X8_about, k1, w2, cp]
    exact Prod.ext k2 rfl
  · refine go (σ 0 p 5) (by simp only [f_L_about, m_X7_about, nd, e1, e2, cp]; rfl) ?_
    have k2 : (us σ 90 0 0 (σ 0 p 5)) 54 0 p = σ 0 p 5 := a5
    simp only [f_X8_about, k1, w2, cp]
    exact Prod.ext k2 rfl
  · refine go (σ 0 p 7) (by simp only [f_L_about, m_X7_about, nd, e1, e2, cp]; rfl) ?_
    have k2 : (us σ 90 0 0 (σ 0 p 7)) 56 0 p = σ 0 p 7 := a7
    simp only [f_X8_about, k1, w2, cp]
    exact Prod.ext k2 rfl
theorem st_pass {σ : Sg} (h : RS σ) (v : Int32) : OKc (f_L_pass v σ) (f_X8_pass v) := by
  obtain ⟨T, P, K, N, hR⟩ := id h
  have hB := hR.b
  obtain ⟨-, -, -, -, -, -, s9, s37, -⟩ := hR.s7
  rcases c_range v 1 1000 with ⟨⟨h1, h2⟩, e1, w1⟩ | ⟨e1, w1⟩
  rotate_left
  · exact OKc.er (c := 1) (x := 0) h (by decide) (by simp [f_L_pass, m_X7_pass, nd, e1]) (by simp [f_X8_pass, w1])
  obtain ⟨j, hj, rfl⟩ := nI_of (x := v) (fun q => by
    have a := leI.mp h1
    have b := ltI.mp q
    simp at a b
    omega)
  have hj2 : j ≤ 1000 := by
    have a := leI.mp h2
    rw [nI_toInt (by omega)] at a
    simp at a
    omega
  by_cases h3 : N + j ≤ 10000
  · have c1 : nI (N + j) ≤ 10000 := nI_le (b := 10000) h3 (by decide)
    refine OKc.ok (τ := us σ 7 0 9 (nI (N + j))) (x := nI (N + j)) (τ' := us (us (us (us σ 7 0 9 (nI (N + j))) 90 0 0 (nI (N + j))) 8 0 0 0) 8 0 37 (nI (N + j))) ?_ ?_ rfl ?_
    · simp only [f_L_pass, m_X7_pass, nd, e1, s9, nI_add, if_pos c1, if_true]
    · have k1 : (us (us σ 7 0 9 (nI (N + j))) 90 0 0 (nI (N + j))) 8 0 37 = nI N := s37
      simp only [f_X8_pass, w1, k1, nI_add, if_pos c1, show ¬ (1 : Int32) = 0 by decide, if_false]
    · obtain ⟨b1, b2, b3, b4⟩ := hR.1
      obtain ⟨z1, z2, z3, z4, z5, z6, z7, z8, z9, z10⟩ := hR.2.1
      exact ⟨T, P, K, N + j, ⟨b1, b2, b3, h3⟩, ⟨z1, z2, z3, z4, z5, z6, rfl, rfl, z9, z10⟩, hR.2.2⟩
  · have c1 : ¬ nI N + nI j ≤ 10000 := by rw [nI_add]; exact nI_ge (a := 10000) (by omega) (by omega)
    exact OKc.er (c := 2) (x := 0) h (by decide) (by simp [f_L_pass, m_X7_pass, nd, e1, s9, c1]) (by simp [f_X8_pass, w1, s37, c1])
theorem st_watch {σ : Sg} (h : RS σ) (v w : Int32) : f_X8_thrown (s_X8_watch v w (f_L_watch v w σ).2) = (f_L_watch v w σ).1 ∧ RS (s_X8_watch v w (f_L_watch v w σ).2) := by
  obtain ⟨T, P, K, N, hR⟩ := id h
  rcases c_upto v (n := 7) (by decide) (hi := 7) rfl with ⟨hv, e1, w1⟩ | ⟨e1, w1⟩
  rotate_left
  · skip
    have hL : f_L_watch v w σ = (1, σ) := by simp [f_L_watch, m_X7_watch, nd, e1]
    rw [hL]
    simp only [s_X8_watch, w1, if_true]
    exact ⟨rfl, h.ref 1⟩
  rcases c_upto w (n := 7) (by decide) (hi := 7) rfl with ⟨hw, e2, w2⟩ | ⟨e2, w2⟩
  rotate_left
  · skip
    have hL : f_L_watch v w σ = (1, σ) := by simp [f_L_watch, m_X7_watch, nd, e1, e2]
    rw [hL]
    simp only [s_X8_watch, w1, w2, if_true, show ¬ (1 : Int32) = 0 by decide, if_false]
    exact ⟨rfl, h.ref 1⟩
  have hL : f_L_watch v w σ = (0, us (us σ 7 0 10 v) 7 0 11 w) := by simp [f_L_watch, m_X7_watch, nd, e1, e2]
  rw [hL]
  simp only [s_X8_watch, w1, w2, if_true, show ¬ (1 : Int32) = 0 by decide, if_false]
  obtain ⟨z1, z2, z3, z4, z5, z6, z7, z8, z9, z10⟩ := hR.2.1
  exact ⟨rfl, T, P, K, N, hR.1, ⟨z1, z2, z3, z4, z5, z6, z7, z8, rfl, rfl⟩, hR.2.2⟩
