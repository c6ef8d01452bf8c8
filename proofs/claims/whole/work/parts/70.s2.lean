/-! tokens -/
section TK
variable {T P K N : Nat} {σ : Sg}
theorem RR.tk (h : RR T P K N σ) {k : Nat} (hk : k < K) : (σ 58 0 k = σ 6 k 0 ∧ σ 59 0 k = σ 6 k 1 ∧ σ 60 0 k = σ 6 k 2 ∧ σ 61 0 k = σ 6 k 5 ∧ σ 62 0 k = σ 6 k 6 ∧ σ 63 0 k = σ 6 k 3 ∧ σ 64 0 k = σ 6 k 4 ∧ σ 65 0 k = σ 6 k 7) ∧ ((σ 6 k 8 = 0 ∧ σ 66 0 k = 1) ∨ (σ 6 k 8 = 1 ∧ σ 66 0 k = 0)) ∧ nb T (σ 6 k 0) ∧ nb 10001 (σ 6 k 2) ∧ nb 6 (σ 6 k 3) ∧ nb 4 (σ 6 k 4) := by
  have hB := h.b
  obtain ⟨q1, -, q3, q4, -⟩ := h.2.2.2.2.2.2.1 k (by omega)
  obtain ⟨a, b, c, d⟩ := q1 hk
  exact ⟨a, b, c, d, by rw [← a.2.2.2.2.2.1]; exact q3, by rw [← a.2.2.2.2.2.2.1]; exact q4⟩
theorem RR.chain (h : RR T P K N σ) {k : Nat} (hk : k < K) : σ 6 k 7 = -1 ∨ ∃ j : Nat, j < k ∧ σ 6 k 7 = nI j ∧ σ 6 k 2 ≤ σ 6 j 2 := h.2.2.2.2.2.2.2.1 k hk
theorem is21 (kk : Int32) (n : Nat) (v w : Int32) : f_X8_isStill_L21 kk (n + 1) v w σ = if w = (-1) then v else if v = 0 then f_X8_isStill_L21 kk n 0 (σ 65 0 w.toNatClampNeg) σ else if (σ 66 0 w.toNatClampNeg) = 0 then f_X8_isStill_L21 kk n 0 (σ 65 0 w.toNatClampNeg) σ else f_X8_isStill_L21 kk n 1 (σ 65 0 w.toNatClampNeg) σ := rfl
theorem nI_m1 {k : Nat} (hk : k < 100) : ¬ nI k = -1 := fun q => by
  have := congrArg Int32.toInt q
  rw [nI_toInt (by omega)] at this
  simp at this <;> omega
theorem RR.is0 (h : RR T P K N σ) (kk : Int32) : ∀ (n k : Nat), k < K → k + 2 ≤ n → f_X8_isStill_L21 kk n 0 (nI k) σ = 0
  | 0, k, hk, hn => by omega
  | n + 1, k, hk, hn => by
    have hB := h.b
    rw [is21, if_neg (nI_m1 (by omega)), if_pos rfl, nI_clamp (by omega)]
    obtain ⟨⟨-, -, -, -, -, -, -, q⟩, -⟩ := h.tk hk
    rw [q]
    rcases h.chain hk with c | ⟨j, j1, j2, -⟩
    · rw [c]
      obtain ⟨m, rfl⟩ : ∃ m, n = m + 1 := ⟨n - 1, by omega⟩
      rw [is21, if_pos rfl]
    · rw [j2]
      exact h.is0 kk n j (by omega) (by omega)
theorem th4 (kk : Int32) (n c : Nat) (v : Int32) : f_X7_isThereStill_L4 kk (n + 1) c v σ = if 10 ≤ (nI c) then 1 else if v < 0 then 1 else if (σ 7 0 8) ≤ v then 1 else if (σ 6 v.toNatClampNeg 8) = 0 then (if (σ 7 0 9) ≤ (σ 6 v.toNatClampNeg 2) then f_X7_isThereStill_L4 kk n (c + 1) (σ 6 v.toNatClampNeg 7) σ else 0) else 0 := rfl
theorem RR.still (h : RR T P K N σ) (k1 k2 : Int32) : ∀ (n c n2 k : Nat), k < K → n + c = 11 → k + c ≤ 9 → k + 2 ≤ n2 → f_X7_isThereStill_L4 k1 n c (nI k) σ = if σ 7 0 9 ≤ σ 6 k 2 then f_X8_isStill_L21 k2 n2 1 (nI k) σ else 0
  | 0, c, n2, k, hk, hn, hc, h2 => by omega
  | n + 1, c, 0, k, hk, hn, hc, h2 => by omega
  | n + 1, c, n2 + 1, k, hk, hn, hc, h2 => by
    have hB := h.b
    obtain ⟨-, -, -, -, s8, -⟩ := h.s7
    obtain ⟨⟨-, -, -, -, -, -, -, q65⟩, q8, -⟩ := h.tk hk
    rw [th4, if_neg (show ¬ (10 : Int32) ≤ nI c from nI_ge (b := 10) (by omega) (by decide)), if_neg (nI_pos (by omega)), s8, if_neg (nI_ge hk (by omega)), nI_clamp (show k < 2 ^ 31 by omega), is21, if_neg (nI_m1 (by omega)), if_neg (show ¬ (1 : Int32) = 0 by decide), nI_clamp (show k < 2 ^ 31 by omega), q65]
    rcases q8 with ⟨a, b⟩ | ⟨a, b⟩
    · rw [if_pos a, b, if_neg (show ¬ (1 : Int32) = 0 by decide)]
      by_cases hu : σ 7 0 9 ≤ σ 6 k 2
      · rw [if_pos hu, if_pos hu]
        rcases h.chain hk with e | ⟨j, j1, j2, j3⟩
        · rw [e]
          obtain ⟨m, rfl⟩ : ∃ m, n = m + 1 := ⟨n - 1, by omega⟩
          obtain ⟨m2, rfl⟩ : ∃ m, n2 = m + 1 := ⟨n2 - 1, by omega⟩
          rw [th4, is21, if_pos (show (-1 : Int32) = -1 from rfl), if_pos (show (-1 : Int32) < 0 by decide), ite_self]
        · rw [j2, h.still k1 k2 n (c + 1) n2 j (by omega) (by omega) (by omega) (by omega), if_pos (Int32.le_trans hu j3)]
      · rw [if_neg hu, if_neg hu]
    · rw [if_neg (by rw [a]; decide), b, if_pos (show (0 : Int32) = 0 from rfl)]
      by_cases hu : σ 7 0 9 ≤ σ 6 k 2
      · rw [if_pos hu]
        rcases h.chain hk with e | ⟨j, j1, j2, j3⟩
        · rw [e]
          obtain ⟨m2, rfl⟩ : ∃ m, n2 = m + 1 := ⟨n2 - 1, by omega⟩
          rw [is21, if_pos rfl]
        · rw [j2, h.is0 k2 n2 j (by omega) (by omega)]
      · rw [if_neg hu]
theorem RR.there (h : RR T P K N σ) {k : Nat} (hk : k < K) : f_X8_isStill (nI k) σ = f_X7_isThereStill (nI k) σ := by
  have hB := h.b
  obtain ⟨-, -, -, -, -, -, s9, s37, -⟩ := h.s7
  obtain ⟨⟨-, -, q60, -⟩, -⟩ := h.tk hk
  rw [f_X7_isThereStill, h.still (nI k) (nI k) 11 0 12 k hk rfl (by omega) (by omega), f_X8_isStill, nI_clamp (by omega), q60, s9, s37]
  by_cases hu : nI N ≤ σ 6 k 2
  · rw [if_neg (Int32.not_lt.mpr hu), if_pos hu]
  · rw [if_pos (Int32.not_le.mp hu), if_neg hu, h.is0 (nI k) 12 k hk (by omega)]
end TK
theorem isL_congr {kk : Int32} {c m : Sg} (e65 : m 65 0 = c 65 0) (e66 : m 66 0 = c 66 0) : ∀ (n : Nat) (v w : Int32), f_X8_isStill_L21 kk n v w m = f_X8_isStill_L21 kk n v w c
  | 0, _, _ => rfl
  | n + 1, v, w => by
    simp only [f_X8_isStill_L21, e65, e66, isL_congr e65 e66 n]
theorem is_congr {k : Int32} {c m : Sg} (e60 : m 60 0 = c 60 0) (e65 : m 65 0 = c 65 0) (e66 : m 66 0 = c 66 0) (e37 : m 8 0 37 = c 8 0 37) : f_X8_isStill k m = f_X8_isStill k c := by
  unfold f_X8_isStill
  rw [e60, e37, isL_congr e65 e66, isL_congr e65 e66]
theorem still01 (k : Int32) (σ : Sg) : ∀ (n c : Nat) (v : Int32), f_X7_isThereStill_L4 k n c v σ = 0 ∨ f_X7_isThereStill_L4 k n c v σ = 1
  | 0, _, _ => Or.inl rfl
  | n + 1, c, v => by
    rw [th4]
    (repeat' split) <;> first | exact Or.inl rfl | exact Or.inr rfl | exact still01 k σ n (c + 1) _
theorem st_takeBack {σ : Sg} (h : RS σ) (k t : Int32) : OKc (f_L_takeBack k t σ) (f_X8_takeBack k t) ∧ ((f_L_takeBack k t σ).1 = 0 → (f_X8_takeBack k t (f_L_takeBack k t σ).2).1 = 0 ∨ (f_X8_takeBack k t (f_L_takeBack k t σ).2).1 = 1) := by
  obtain ⟨T, P, K, N, hR⟩ := id h
  have hB := hR.b
  have pw0 : e_X7_needPower 0 = some "java/lang/UnsupportedOperationException" := rfl
  have pw1 : e_X7_needPower 1 = none := rfl
  rcases hR.act k with ⟨p, hp, rfl, e1, w1⟩ | ⟨e1, w1⟩
  rotate_left
  · have hL : f_L_takeBack k t σ = (1, σ) := by simp [f_L_takeBack, m_X7_takeBack, nd, e1]
    exact ⟨OKc.er (c := 1) (x := 0) h (by decide) hL (by simp [f_X8_takeBack, w1]), fun q => by rw [hL] at q; exact absurd (show (1 : Int32) = 0 from q) (by decide)⟩
  rcases hR.tok t with ⟨q, hq, rfl, e2, w2⟩ | ⟨e2, w2⟩
  rotate_left
  · have hL : f_L_takeBack (nI p) t σ = (1, σ) := by simp [f_L_takeBack, m_X7_takeBack, nd, e1, e2]
    exact ⟨OKc.er (c := 1) (x := 0) h (by decide) hL (by simp [f_X8_takeBack, w1, w2]), fun q => by rw [hL] at q; exact absurd (show (1 : Int32) = 0 from q) (by decide)⟩
  have cq : (nI q).toNatClampNeg = q := nI_clamp (by omega)
  obtain ⟨⟨t0, t1, t2, t5, t6, t3, t4, t7⟩, -⟩ := hR.tk hq
  by_cases c3 : σ 6 q 5 = nI p
  rotate_left
  · have hL : f_L_takeBack (nI p) (nI q) σ = (2, σ) := by simp [f_L_takeBack, m_X7_takeBack, nd, e1, e2, cq, c3, pw0]
    refine ⟨OKc.er (c := 2) (x := 0) h (by decide) hL ?_, fun q => by rw [hL] at q; exact absurd (show (2 : Int32) = 0 from q) (by decide)⟩
    have c4 : ¬ σ 61 0 q = nI p := by rw [t5]; exact c3
    simp only [f_X8_takeBack, w1, w2, cq, if_neg c4, show ¬ (1 : Int32) = 0 by decide, if_false]
  obtain ⟨x, hx⟩ : ∃ x, x = f_X7_isThereStill (nI q) σ := ⟨_, rfl⟩
  have x01 : x = 0 ∨ x = 1 := by rw [hx]; exact still01 _ _ _ _ _
  have hm : m_X7_takeBack (nI p) (nI q) σ = (none, x, us σ 6 q 8 1) := by
    simp only [m_X7_takeBack, e1, e2, nd, cq, if_pos c3, pw1, hx]
  have hL : f_L_takeBack (nI p) (nI q) σ = (0, us (us σ 6 q 8 1) 90 0 0 x) := by
    rw [f_L_takeBack, hm, if_pos rfl]
    rcases x01 with e | e
    · rw [e, if_pos rfl]
    · rw [e, if_neg (show ¬ (1 : Int32) = 0 by decide)]
  have hX : f_X8_takeBack (nI p) (nI q) (us (us σ 6 q 8 1) 90 0 0 x) = (x, us (us (us (us σ 6 q 8 1) 90 0 0 x) 8 0 0 0) 66 0 q 0) := by
    have k1 : f_X8_isProcess (nI p) (us (us σ 6 q 8 1) 90 0 0 x) = 1 := w1
    have k2 : f_X8_isToken (nI q) (us (us σ 6 q 8 1) 90 0 0 x) = 1 := w2
    have k3 : (us (us σ 6 q 8 1) 90 0 0 x) 61 0 q = nI p := t5.trans c3
    have k4 : f_X8_isStill (nI q) (us (us (us σ 6 q 8 1) 90 0 0 x) 8 0 0 0) = x := by
      exact (is_congr (c := σ) rfl rfl rfl rfl).trans ((hR.there hq).trans hx.symm)
    simp only [f_X8_takeBack, k1, k2, cq, if_pos k3, k4, show ¬ (1 : Int32) = 0 by decide, if_false]
  refine ⟨OKc.ok (τ := us σ 6 q 8 1) (x := x) (τ' := us (us (us (us σ 6 q 8 1) 90 0 0 x) 8 0 0 0) 66 0 q 0) hL hX rfl ⟨T, P, K, N, hR.1, hR.2.1, hR.2.2.1, hR.2.2.2.1, hR.2.2.2.2.1, hR.2.2.2.2.2.1, fun k' hk' => ?_, fun k' hk' => ?_, hR.2.2.2.2.2.2.2.2⟩, fun _ => by rw [hL]; show (f_X8_takeBack (nI p) (nI q) (us (us σ 6 q 8 1) 90 0 0 x)).1 = 0 ∨ (f_X8_takeBack (nI p) (nI q) (us (us σ 6 q 8 1) 90 0 0 x)).1 = 1; rw [hX]; exact x01⟩
  · have z := hR.2.2.2.2.2.2.1 k' hk'
    by_cases e : k' = q
    · subst e
      obtain ⟨z1, z2, z3, z4, z5⟩ := z
      obtain ⟨⟨y0, y1, y2, y5, y6, y3, y4, y7⟩, -, yT, yU⟩ := z1 hq
      refine ⟨fun _ => ⟨⟨by simpa [us] using y0, by simpa [us] using y1, by simpa [us] using y2, by simpa [us] using y5, by simpa [us] using y6, by simpa [us] using y3, by simpa [us] using y4, by simpa [us] using y7⟩, Or.inr ⟨by simp [us], by simp [us]⟩, by simpa [us] using yT, by simpa [us] using yU⟩, fun q9 => absurd q9 (by omega), z3, z4, z5⟩
    · simpa [us_row, e] using z
  · have z := hR.2.2.2.2.2.2.2.1 k' hk'
    simpa [us] using z
theorem c_now {x now : Int32} {n : Nat} (hn : now = nI n) (hle : n ≤ 10000) (h1 : now ≤ x) (h2 : x ≤ 10000) : nb 10001 x := by
  obtain ⟨j, j1, rfl⟩ := nI_of (x := x) (fun q => by
    rw [hn] at h1
    have a := leI.mp h1
    have b := ltI.mp q
    rw [nI_toInt (by omega)] at a
    simp at b <;> omega)
  refine ⟨j, ?_, rfl⟩
  have a := leI.mp h2
  rw [nI_toInt (by omega)] at a
  simp at a <;> omega
/-- a token more, on both sides -/
theorem RR.more {T P K N : Nat} {σ : Sg} (h : RR T P K N σ) (hK : K < 10) {t v u a b us9 dm fr x : Int32} (ht : nb T t) (hu : nb 10001 u) (h3 : nb 6 us9) (h4 : nb 4 dm) (hf : fr = -1 ∨ ∃ j : Nat, j < K ∧ fr = nI j ∧ u ≤ σ 6 j 2) : RR T P (K + 1) N (us (us (us (us (us (us (us (us (us (us (us (us (us (us (us (us (us (us (us (us (us σ 6 K 0 t) 6 K 3 us9) 6 K 4 dm) 6 K 7 fr) 6 K 1 v) 6 K 2 u) 6 K 5 a) 6 K 6 b) 7 0 8 (nI K + 1)) 90 0 0 x) 8 0 0 0) 8 0 27 (nI K + 1)) 61 0 K a) 62 0 K b) 58 0 K t) 59 0 K v) 60 0 K u) 65 0 K fr) 66 0 K 1) 63 0 K us9) 64 0 K dm) := by
  have hB := h.b
  obtain ⟨b1, b2, b3, b4⟩ := h.1
  obtain ⟨z1, z2, z3, z4, z5, z6, z7, z8, z9, z10⟩ := h.2.1
  refine ⟨⟨b1, b2, by omega, b4⟩, ⟨z1, z2, z3, z4, nI_1 K, nI_1 K, z7, z8, z9, z10⟩, h.2.2.1, h.2.2.2.1, h.2.2.2.2.1, h.2.2.2.2.2.1, fun k hk => ?_, fun k hk => ?_, h.2.2.2.2.2.2.2.2⟩
  · have z := h.2.2.2.2.2.2.1 k hk
    by_cases e : k = K
    · subst e
      obtain ⟨-, y2, -⟩ := z
      have y8 := y2 (Nat.le_refl _)
      refine ⟨fun _ => ⟨⟨by simp [us], by simp [us], by simp [us], by simp [us], by simp [us], by simp [us], by simp [us], by simp [us]⟩, Or.inl ⟨by simpa [us] using y8, by simp [us]⟩, by simpa [us] using ht, by simpa [us] using hu⟩, fun q9 => absurd q9 (by omega), by simpa [us] using h3, by simpa [us] using h4, by simpa [us] using ht.mono (by omega)⟩
    · obtain ⟨y1, y2, y3⟩ := z
      have z' : Rtk T (K + 1) k (σ 6 k) (σ 58 0 k) (σ 59 0 k) (σ 60 0 k) (σ 61 0 k) (σ 62 0 k) (σ 63 0 k) (σ 64 0 k) (σ 65 0 k) (σ 66 0 k) := ⟨fun q => y1 (by omega), fun q => y2 (by omega), y3⟩
      simpa [us_row, e] using z'
  · by_cases e : k = K
    · subst e
      rcases hf with e2 | ⟨j, j1, j2, j3⟩
      · exact Or.inl (by simpa [us] using e2)
      · refine Or.inr ⟨j, j1, by simpa [us] using j2, ?_⟩
        have : ¬ j = k := by omega
        simpa [us, this] using j3
    · rcases h.2.2.2.2.2.2.2.1 k (by omega) with e2 | ⟨j, j1, j2, j3⟩
      · exact Or.inl (by simpa [us, e] using e2)
      · refine Or.inr ⟨j, j1, by simpa [us, e] using j2, ?_⟩
        have : ¬ j = K := by omega
        simpa [us, e, this] using j3
theorem st_token {σ : Sg} (h : RS σ) (k t v u : Int32) : OKc (f_L_token k t v u σ) (f_X8_token k t v u) := by
  obtain ⟨T, P, K, N, hR⟩ := id h
  have hB := hR.b
  obtain ⟨-, -, -, -, s8, s27, s9, s37, -⟩ := hR.s7
  rcases hR.act k with ⟨p, hp, rfl, e1, w1⟩ | ⟨e1, w1⟩
  rotate_left
  · exact OKc.er (c := 1) (x := 0) h (by decide) (by simp [f_L_token, m_X7_token, nd, e1]) (by simp [f_X8_token, w1])
  rcases hR.thi t with ⟨q, hq, rfl, e2, w2⟩ | ⟨e2, w2⟩
  rotate_left
  · exact OKc.er (c := 1) (x := 0) h (by decide) (by simp [f_L_token, m_X7_token, nd, e1, e2]) (by simp [f_X8_token, w1, w2])
  rcases c_range v 1 7 with ⟨-, e3, w3⟩ | ⟨e3, w3⟩
  rotate_left
  · exact OKc.er (c := 2) (x := 0) h (by decide) (by simp [f_L_token, m_X7_token, nd, e1, e2, e3]) (by simp [f_X8_token, w1, w2, w3])
  rcases c_range u (nI N) 10000 with ⟨⟨u1, u2⟩, e4, w4⟩ | ⟨e4, w4⟩
  rotate_left
  · exact OKc.er (c := 2) (x := 0) h (by decide) (by simp [f_L_token, m_X7_token, nd, e1, e2, e3, s9, e4]) (by simp [f_X8_token, w1, w2, w3, s37, w4])
  have hu := c_now rfl hB.2.2.2 u1 u2
  rcases c_room (n := K) (M := 10) hB.2.2.1 (by decide) with ⟨hK, e5, w5⟩ | ⟨hK, e5, w5⟩
  rotate_left
  · have e5' : e_X7_needRoom (nI K) 10 = some "java/lang/IllegalStateException" := e5
    have w5' : nI K = 10 := w5
    exact OKc.er (c := 3) (x := 0) h (by decide) (by simp [f_L_token, m_X7_token, nd, e1, e2, e3, s9, e4, s8, e5']) (by simp [f_X8_token, w1, w2, w3, s37, w4, s27, w5'])
  have e5' : e_X7_needRoom (nI K) 10 = none := e5
  have w5' : ¬ nI K = 10 := w5
  have cp : (nI p).toNatClampNeg = p := nI_clamp (by omega)
  have cK : (nI K).toNatClampNeg = K := nI_clamp (by omega)
  obtain ⟨⟨a0, a1, -⟩, -, ⟨n0, n1, -⟩, -⟩ := hR.2.2.2.2.2.1 p (by omega)
  have aK : nI K + 1 - 1 = nI K := by rw [nI_1, nI_pred]
  obtain ⟨τ, hτ⟩ : ∃ τ, τ = us (us (us (us (us (us (us (us (us σ 6 K 0 (nI q)) 6 K 3 (σ 0 p 0)) 6 K 4 (σ 0 p 1)) 6 K 7 (-1)) 6 K 1 v) 6 K 2 u) 6 K 5 (nI p)) 6 K 6 (nI p)) 7 0 8 (nI K + 1) := ⟨_, rfl⟩
  have hh : f_X7_handOut K v u (nI p) (nI p) (us (us (us (us σ 6 K 0 (nI q)) 6 K 3 (σ 0 p 0)) 6 K 4 (σ 0 p 1)) 6 K 7 (-1)) = (nI K, τ) := by
    have k8 : (us (us (us (us σ 6 K 0 (nI q)) 6 K 3 (σ 0 p 0)) 6 K 4 (σ 0 p 1)) 6 K 7 (-1)) 7 0 8 = nI K := s8
    rw [f_X7_handOut, k8, aK, hτ]
  refine OKc.ok (τ := τ) (x := nI K) (τ' := us (us (us (us (us (us (us (us (us (us (us (us τ 90 0 0 (nI K)) 8 0 0 0) 8 0 27 (nI K + 1)) 61 0 K (nI p)) 62 0 K (nI p)) 58 0 K (nI q)) 59 0 K v) 60 0 K u) 65 0 K (-1)) 66 0 K 1) 63 0 K (σ 0 p 0)) 64 0 K (σ 0 p 1)) ?_ ?_ rfl ?_
  · simp only [f_L_token, m_X7_token, nd, e1, e2, e3, s9, e4, s8, e5', cp, cK, hh, if_true]
  · have k1 : f_X8_isProcess (nI p) (us τ 90 0 0 (nI K)) = 1 := by rw [hτ]; exact w1
    have k2 : f_X8_isThing (nI q) (us τ 90 0 0 (nI K)) = 1 := by rw [hτ]; exact w2
    have k3 : (us τ 90 0 0 (nI K)) 8 0 37 = nI N := by rw [hτ]; exact s37
    have k4 : (us τ 90 0 0 (nI K)) 8 0 27 = nI K := by rw [hτ]; exact s27
    have k5 : (us (us τ 90 0 0 (nI K)) 8 0 0 0) 8 0 27 = nI K := by rw [hτ]; exact s27
    have k6 : (us τ 90 0 0 (nI K)) 49 0 p = σ 0 p 0 := by rw [hτ]; exact a0
    have k7 : (us τ 90 0 0 (nI K)) 50 0 p = σ 0 p 1 := by rw [hτ]; exact a1
    simp only [f_X8_token, k1, k2, w3, k3, w4, k4, if_neg w5', f_X8_makeToken, k5, cK, cp, k6, k7, show ¬ (1 : Int32) = 0 by decide, if_false]
  · subst hτ
    exact ⟨T, P, K + 1, N, hR.more hK ⟨q, hq, rfl⟩ hu n0 n1 (Or.inl rfl)⟩
theorem st_narrow {σ : Sg} (h : RS σ) (k t v u w : Int32) : OKc (f_L_narrow k t v u w σ) (f_X8_narrow k t v u w) := by
  obtain ⟨T, P, K, N, hR⟩ := id h
  have hB := hR.b
  have pw0 : e_X7_needPower 0 = some "java/lang/UnsupportedOperationException" := rfl
  have pw1 : e_X7_needPower 1 = none := rfl
  obtain ⟨-, -, -, -, s8, s27, s9, s37, -⟩ := hR.s7
  rcases hR.act k with ⟨p, hp, rfl, e1, w1⟩ | ⟨e1, w1⟩
  rotate_left
  · exact OKc.er (c := 1) (x := 0) h (by decide) (by simp [f_L_narrow, m_X7_narrow, nd, e1]) (by simp [f_X8_narrow, w1])
  rcases hR.tok t with ⟨q, hq, rfl, e2, w2⟩ | ⟨e2, w2⟩
  rotate_left
  · exact OKc.er (c := 1) (x := 0) h (by decide) (by simp [f_L_narrow, m_X7_narrow, nd, e1, e2]) (by simp [f_X8_narrow, w1, w2])
  rcases hR.act w with ⟨o, ho, rfl, e3, w3⟩ | ⟨e3, w3⟩
  rotate_left
  · exact OKc.er (c := 1) (x := 0) h (by decide) (by simp [f_L_narrow, m_X7_narrow, nd, e1, e2, e3]) (by simp [f_X8_narrow, w1, w2, w3])
  rcases c_range v 1 7 with ⟨-, e4, w4⟩ | ⟨e4, w4⟩
  rotate_left
  · exact OKc.er (c := 2) (x := 0) h (by decide) (by simp [f_L_narrow, m_X7_narrow, nd, e1, e2, e3, e4]) (by simp [f_X8_narrow, w1, w2, w3, w4])
  have cq : (nI q).toNatClampNeg = q := nI_clamp (by omega)
  obtain ⟨⟨t0, t1, t2, t5, t6, t3, t4, t7⟩, -, nT, ⟨un, un1, un2⟩, n3, n4⟩ := hR.tk hq
  by_cases c5 : v &&& (σ 6 q 1 ^^^ (-1 : Int32)) = 0
  rotate_left
  · have e5 : e_X7_needSubset v (σ 6 q 1) = some "java/lang/IllegalArgumentException" := by rw [e_X7_needSubset, if_neg c5]
    refine OKc.er (c := 2) (x := 0) h (by decide) (by simp [f_L_narrow, m_X7_narrow, nd, e1, e2, e3, e4, cq, e5]) ?_
    simp only [f_X8_narrow, w1, w2, w3, w4, cq, t1, if_neg c5]
    simp
  have e5 : e_X7_needSubset v (σ 6 q 1) = none := by rw [e_X7_needSubset, if_pos c5]
  rcases c_range u (nI N) (σ 6 q 2) with ⟨⟨u1, u2⟩, e6, -⟩ | ⟨e6, w6⟩
  rotate_left
  · refine OKc.er (c := 2) (x := 0) h (by decide) (by simp [f_L_narrow, m_X7_narrow, nd, e1, e2, e3, e4, cq, e5, s9, e6]) ?_
    simp only [f_X8_narrow, w1, w2, w3, w4, cq, t1, t2, if_pos c5, s37]
    rcases c_range u (nI N) 10000 with ⟨⟨u1, u2⟩, -, w7⟩ | ⟨-, w7⟩
    · rw [w7]
      have : σ 6 q 2 < u := by
        rw [f_X8_within, if_neg (Int32.not_lt.mpr u1)] at w6
        by_cases c : σ 6 q 2 < u
        · exact c
        · rw [if_neg c] at w6
          exact absurd w6 (by decide)
      rw [if_pos this]
      rfl
    · rw [w7]
      rfl
  have u3 : u ≤ 10000 := Int32.le_trans u2 (by rw [un2]; exact nI_le (b := 10000) (by omega) (by decide))
  have hu := c_now rfl hB.2.2.2 u1 u3
  have w6 : f_X8_within u (nI N) 10000 = 1 := by
    rw [f_X8_within, if_neg (Int32.not_lt.mpr u1), if_neg (Int32.not_lt.mpr u3)]
  have c6 : ¬ σ 6 q 2 < u := Int32.not_lt.mpr u2
  by_cases c7 : σ 6 q 6 = nI p
  rotate_left
  · refine OKc.er (c := 3) (x := 0) h (by decide) (by simp [f_L_narrow, m_X7_narrow, nd, e1, e2, e3, e4, cq, e5, s9, e6, c7, pw0]) ?_
    simp only [f_X8_narrow, w1, w2, w3, w4, cq, t1, t2, t6, if_pos c5, s37, w6, if_neg c6, if_neg c7, show ¬ (1 : Int32) = 0 by decide, if_false]
  rcases c_room (n := K) (M := 10) hB.2.2.1 (by decide) with ⟨hK, e8, w8⟩ | ⟨hK, e8, w8⟩
  rotate_left
  · have e8' : e_X7_needRoom (nI K) 10 = some "java/lang/IllegalStateException" := e8
    have w8' : nI K = 10 := w8
    refine OKc.er (c := 4) (x := 0) h (by decide) (by simp [f_L_narrow, m_X7_narrow, nd, e1, e2, e3, e4, cq, e5, s9, e6, c7, pw1, s8, e8']) ?_
    simp only [f_X8_narrow, w1, w2, w3, w4, cq, t1, t2, t6, if_pos c5, s37, w6, if_neg c6, if_pos c7, s27, if_pos w8', show ¬ (1 : Int32) = 0 by decide, if_false]
  have e8' : e_X7_needRoom (nI K) 10 = none := e8
  have w8' : ¬ nI K = 10 := w8
  have cK : (nI K).toNatClampNeg = K := nI_clamp (by omega)
  have aK : nI K + 1 - 1 = nI K := by rw [nI_1, nI_pred]
  obtain ⟨τ, hτ⟩ : ∃ τ, τ = us (us (us (us (us (us (us (us (us σ 6 K 0 (σ 6 q 0)) 6 K 3 (σ 6 q 3)) 6 K 4 (σ 6 q 4)) 6 K 7 (nI q)) 6 K 1 v) 6 K 2 u) 6 K 5 (nI p)) 6 K 6 (nI o)) 7 0 8 (nI K + 1) := ⟨_, rfl⟩
  have hh : f_X7_handOut K v u (nI p) (nI o) (us (us (us (us σ 6 K 0 (σ 6 q 0)) 6 K 3 (σ 6 q 3)) 6 K 4 (σ 6 q 4)) 6 K 7 (nI q)) = (nI K, τ) := by
    have k8 : (us (us (us (us σ 6 K 0 (σ 6 q 0)) 6 K 3 (σ 6 q 3)) 6 K 4 (σ 6 q 4)) 6 K 7 (nI q)) 7 0 8 = nI K := s8
    rw [f_X7_handOut, k8, aK, hτ]
  refine OKc.ok (τ := τ) (x := nI K) (τ' := us (us (us (us (us (us (us (us (us (us (us (us τ 90 0 0 (nI K)) 8 0 0 0) 8 0 27 (nI K + 1)) 61 0 K (nI p)) 62 0 K (nI o)) 58 0 K (σ 6 q 0)) 59 0 K v) 60 0 K u) 65 0 K (nI q)) 66 0 K 1) 63 0 K (σ 6 q 3)) 64 0 K (σ 6 q 4)) ?_ ?_ rfl ?_
  · simp only [f_L_narrow, m_X7_narrow, nd, e1, e2, e3, e4, cq, e5, s9, e6, if_pos c7, pw1, s8, e8', cK, hh, if_true]
  · have k1 : f_X8_isProcess (nI p) (us τ 90 0 0 (nI K)) = 1 := by rw [hτ]; exact w1
    have k2 : f_X8_isToken (nI q) (us τ 90 0 0 (nI K)) = 1 := by rw [hτ]; exact w2
    have k9 : f_X8_isProcess (nI o) (us τ 90 0 0 (nI K)) = 1 := by rw [hτ]; exact w3
    have k3 : (us τ 90 0 0 (nI K)) 8 0 37 = nI N := by rw [hτ]; exact s37
    have k4 : (us τ 90 0 0 (nI K)) 8 0 27 = nI K := by rw [hτ]; exact s27
    have k5 : (us (us τ 90 0 0 (nI K)) 8 0 0 0) 8 0 27 = nI K := by rw [hτ]; exact s27
    have x58 : (us τ 90 0 0 (nI K)) 58 0 q = σ 6 q 0 := by rw [hτ]; exact t0
    have x59 : (us τ 90 0 0 (nI K)) 59 0 q = σ 6 q 1 := by rw [hτ]; exact t1
    have x60 : (us τ 90 0 0 (nI K)) 60 0 q = σ 6 q 2 := by rw [hτ]; exact t2
    have x62 : (us τ 90 0 0 (nI K)) 62 0 q = nI p := by rw [hτ]; exact t6.trans c7
    have x63 : (us τ 90 0 0 (nI K)) 63 0 q = σ 6 q 3 := by rw [hτ]; exact t3
    have x64 : (us τ 90 0 0 (nI K)) 64 0 q = σ 6 q 4 := by rw [hτ]; exact t4
    simp only [f_X8_narrow, k1, k2, k9, w4, k3, w6, cq, x59, if_pos c5, x60, if_neg c6, x62, if_true, k4, if_neg w8', f_X8_makeToken, k5, cK, x58, x63, x64, show ¬ (1 : Int32) = 0 by decide, if_false]
  · subst hτ
    exact ⟨T, P, K + 1, N, hR.more hK nT hu n3 n4 (Or.inr ⟨q, hq, rfl, u2⟩)⟩
