/-! the class's queue -/
theorem sw_lt {P : Nat → Bool} {a n : Nat} (h : P a = false) (ha : a < n) : sw P n + 1 ≤ n := by
  have := sw_one (P := P) (Q := fun i => if i = a then true else P i) h (by simp) (n := n) (fun i hi => by simp [hi]) ha
  rw [← this]
  exact sw_le _ _
theorem sw_true : ∀ n : Nat, sw (fun _ => true) n = n
  | 0 => rfl
  | n + 1 => by
    show sw (fun _ => true) n + 1 = n + 1
    rw [sw_true n]
/-- the rest of an actor that stands for p -/
def Tw (σ B : Sg) (p i : Nat) : Prop := (∀ j : Nat, j = 2 ∨ j = 3 ∨ j = 5 ∨ j = 6 ∨ j = 7 → B 0 i j = σ 0 p j) ∧ ∀ j : Nat, j < 3 → B 10 i j = σ 10 p j
/-- the queue -/
def Qu (σ : Sg) (T p s0 c : Nat) (fd rn : Nat → Nat) (B : Sg) : Prop := (1 ≤ c ∧ c ≤ 192 ∧ B 4 0 2 = nI c) ∧ (∀ j : Nat, j < c → fd j < 192 ∧ B 18 0 j = nI (fd j) ∧ B 19 0 (fd j) = nI (rn j) ∧ rn j ≤ 3 ∧ Rc σ T p (rn j) s0 (fd j)) ∧ (∀ j : Nat, j < c → ∀ l : Nat, l < c → fd j = fd l → j = l) ∧ (∀ s : Nat, s < 192 → B 19 0 s = -1 ∨ ∃ j : Nat, j < c ∧ fd j = s) ∧ (∀ j l : Nat, j ≤ l → l < c → rn j ≤ rn l) ∧ fd 0 = s0 ∧ rn 0 = 0
section QU
variable {T P K N : Nat} {σ B : Sg} {p q b s0 c i s : Nat} {fd rn : Nat → Nat}
theorem Qu.same {C : Sg} (h : Qu σ T p s0 c fd rn B) (e4 : C 4 = B 4) (e18 : C 18 = B 18) (e19 : C 19 = B 19) : Qu σ T p s0 c fd rn C := by
  unfold Qu
  rw [e4, e18, e19]
  exact h
theorem enc_s (hT : Ta σ B p i s) (hs : s < 192) : (((((B 0 i 0) * (4 : Int32)) + (B 0 i 1)) * (8 : Int32)) + (B 0 i 4)) = nI s := by
  obtain ⟨t0, t1, t4, -⟩ := hT
  rw [t0, t1, t4, show nI (s / 32) * (4 : Int32) = nI (s / 32 * 4) from pk_mul _ 4, nI_add, show nI (s / 32 * 4 + s / 8 % 4) * (8 : Int32) = nI ((s / 32 * 4 + s / 8 % 4) * 8) from pk_mul _ 8, nI_add]
  congr 1
  omega
theorem add_q (hQ : Qu σ T p s0 c fd rn B) (hT : Ta σ B p i s) (hs : s < 192) {a : Nat} (ha : a ≤ 3) (hle : ∀ j : Nat, j < c → rn j ≤ a) (hr : Rc σ T p a s0 s) : ∃ (c' : Nat) (fd' rn' : Nat → Nat), Qu σ T p s0 c' fd' rn' (s_X4_add i (nI a) B) ∧ c ≤ c' ∧ (∀ j : Nat, j < c → fd' j = fd j ∧ rn' j = rn j) ∧ (∃ j : Nat, j < c' ∧ fd' j = s ∧ rn' j ≤ a) ∧ (∀ j : Nat, j < c' → rn' j ≤ a) ∧ ∀ kk : Nat, kk ≠ 4 → kk ≠ 18 → kk ≠ 19 → s_X4_add i (nI a) B kk = B kk := by
  obtain ⟨⟨q0, q1, q2⟩, q3, q4, q5, q6, q7, q8⟩ := id hQ
  have e : s_X4_add i (nI a) B = if B 19 0 s = -1 then (if 192 ≤ (B 4 0 2) then B else us (us (us B 19 0 s (nI a)) 18 0 c (nI s)) 4 0 2 (nI c + (1 : Int32))) else B := by
    rw [s_X4_add, enc_s hT hs, if_neg (nI_pos (by omega)), if_neg (show ¬ (192 : Int32) ≤ nI s from nI_ge (b := 192) hs (by decide)), nI_clamp (show s < 2 ^ 31 by omega), q2, nI_clamp (show c < 2 ^ 31 by omega)]
  rw [e]
  by_cases h19 : B 19 0 s = -1
  · have hnew : ∀ j : Nat, j < c → ¬ fd j = s := fun j hj z => by
      obtain ⟨-, -, x, -⟩ := q3 j hj
      rw [z, h19] at x
      exact absurd x.symm (nI_m1 (by have := (q3 j hj).2.2.2.1; omega))
    have hc : c < 192 := by
      have h1 := sw_inj15 (F := fun _ => true) (sj := fd) (M := 192) (n := c) (fun k hk => (q3 k hk).1) q4
      rw [sw_true] at h1
      have h2 := sw_lt (P := fun s => anyb (fun k => (fd k == s) && true) c) (a := s) (n := 192) (anyb_0 fun k hk => by simp [hnew k hk]) hs
      rw [← h1] at h2
      omega
    rw [if_pos h19, q2, if_neg (show ¬ (192 : Int32) ≤ nI c from nI_ge (b := 192) hc (by decide))]
    refine ⟨c + 1, fun j => if j = c then s else fd j, fun j => if j = c then a else rn j, ⟨⟨by omega, by omega, by rw [us_h, nI_1]⟩, fun j hj => ?_, fun j hj l hl z => ?_, fun y hy => ?_, fun j l hjl hl => ?_, ?_, ?_⟩, by omega, fun j hj => ⟨by simp only [if_neg (show ¬ (j = c) by omega)], by simp only [if_neg (show ¬ (j = c) by omega)]⟩, ⟨c, by omega, by simp, by simp⟩, fun j hj => ?_, fun kk h4 h18 h19' => by rw [us_kk h4, us_kk h18, us_kk h19']⟩
    · rw [us_k (show 18 ≠ 4 by decide), us_k (show 19 ≠ 4 by decide), us_k (show 19 ≠ 18 by decide)]
      by_cases ej : j = c
      · subst ej
        simp only [if_pos]
        exact ⟨hs, us_h, us_h, ha, hr⟩
      · simp only [if_neg ej]
        obtain ⟨x1, x2, x3, x4, x5⟩ := q3 j (by omega)
        exact ⟨x1, by rw [us_j ej, us_k (by decide)]; exact x2, by rw [us_j (hnew j (by omega))]; exact x3, x4, x5⟩
    · by_cases ej : j = c <;> by_cases el : l = c <;> simp only [ej, el, if_true, if_false] at z ⊢
      · exact absurd z.symm (hnew l (by omega))
      · exact absurd z (hnew j (by omega))
      · exact q4 j (by omega) l (by omega) z
    · rw [us_k (show 19 ≠ 4 by decide), us_k (show 19 ≠ 18 by decide)]
      by_cases ey : y = s
      · exact Or.inr ⟨c, by omega, by simp [ey]⟩
      · rw [us_j ey]
        rcases q5 y hy with z | ⟨j, j1, j2⟩
        · exact Or.inl z
        · exact Or.inr ⟨j, by omega, by simp only [if_neg (show ¬ (j = c) by omega)]; exact j2⟩
    · by_cases el : l = c
      · simp only [if_pos el]
        by_cases ej : j = c
        · simp only [if_pos ej]; exact Nat.le_refl _
        · simp only [if_neg ej]; exact hle j (by omega)
      · simp only [if_neg el, if_neg (show ¬ (j = c) by omega)]
        exact q6 j l hjl (by omega)
    · simp only [if_neg (show ¬ (0 = c) by omega)]; exact q7
    · simp only [if_neg (show ¬ (0 = c) by omega)]; exact q8
    · by_cases ej : j = c
      · simp only [if_pos ej]; exact Nat.le_refl _
      · simp only [if_neg ej]; exact hle j (by omega)
  · rw [if_neg h19]
    refine ⟨c, fd, rn, hQ, Nat.le_refl _, fun _ _ => ⟨rfl, rfl⟩, ?_, hle, fun _ _ _ _ => rfl⟩
    rcases q5 s hs with z | ⟨j, j1, j2⟩
    · exact absurd z h19
    · exact ⟨j, j1, j2, hle j j1⟩
theorem res_q (hQ : Qu σ T p s0 c fd rn B) {k : Nat} (hk : k < c) (hW : Tw σ B p i) : (f_X4_restore i (nI k) B).1 = nI (rn k) ∧ Ta σ (f_X4_restore i (nI k) B).2 p i (fd k) ∧ (∀ i' : Nat, i' ≠ i → (f_X4_restore i (nI k) B).2 0 i' = B 0 i') ∧ ∀ kk : Nat, kk ≠ 0 → (f_X4_restore i (nI k) B).2 kk = B kk := by
  obtain ⟨⟨q0, q1, q2⟩, q3, -⟩ := hQ
  obtain ⟨x1, x2, x3, x4, -⟩ := q3 k hk
  obtain ⟨-, d2, d3⟩ := dec_s x1
  have d1 : nI (fd k) / (8 : Int32) / (4 : Int32) = nI (fd k / 32) := by
    rw [show nI (fd k) / (8 : Int32) = nI (fd k / 8) from pk_div (d := 8) (by omega) (by decide) (by decide), show nI (fd k / 8) / (4 : Int32) = nI (fd k / 8 / 4) from pk_div (d := 4) (by omega) (by decide) (by decide)]
    congr 1
    omega
  have e : f_X4_restore i (nI k) B = (nI (rn k), us (us (us B 0 i 4 (nI (fd k % 8))) 0 i 1 (nI (fd k / 8 % 4))) 0 i 0 (nI (fd k / 32))) := by
    rw [f_X4_restore, if_neg (nI_pos (by omega)), if_pos (show nI k < (192 : Int32) from nI_lt (b := 192) (by omega) (by decide)), nI_clamp (show k < 2 ^ 31 by omega), x2, if_neg (nI_pos (by omega)), if_pos (show nI (fd k) < (192 : Int32) from nI_lt (b := 192) x1 (by decide)), nI_clamp (show fd k < 2 ^ 31 by omega), x3, d2, d1, d3]
  rw [e]
  obtain ⟨w1, w2⟩ := hW
  refine ⟨rfl, ⟨by simp [us], by simp [us], by simp [us], fun j hj => ?_, fun j hj => w2 j hj⟩, fun i' hi => ?_, fun kk hk => by
    show us (us (us B 0 i 4 (nI (fd k % 8))) 0 i 1 (nI (fd k / 8 % 4))) 0 i 0 (nI (fd k / 32)) kk = B kk
    rw [us_kk hk, us_kk hk, us_kk hk]⟩
  · show us (us (us B 0 i 4 (nI (fd k % 8))) 0 i 1 (nI (fd k / 8 % 4))) 0 i 0 (nI (fd k / 32)) 0 i j = σ 0 p j
    rw [us_j (by omega), us_j (by omega), us_j (by omega)]
    exact w1 j hj
  · funext j
    show us (us (us B 0 i 4 (nI (fd k % 8))) 0 i 1 (nI (fd k / 8 % 4))) 0 i 0 (nI (fd k / 32)) 0 i' j = B 0 i' j
    rw [us_i hi, us_i hi, us_i hi]
theorem res_Bs (hB : Bs σ B) (h8 : 8 ≤ i) {x : Int32} (e1 : ∀ i' : Nat, i' ≠ i → (f_X4_restore i x B).2 0 i' = B 0 i') (e2 : ∀ kk : Nat, kk ≠ 0 → (f_X4_restore i x B).2 kk = B kk) : Bs σ (f_X4_restore i x B).2 :=
  ⟨fun kk h0 h4 h10 h18 h19 => (e2 kk h0).trans (hB.1 kk h0 h4 h10 h18 h19), fun i' hi => ⟨(e1 i' (by omega)).trans (hB.2 i' hi).1, by rw [e2 10 (by decide)]; exact (hB.2 i' hi).2⟩⟩
/-- what can be run from one state, added -/
theorem l20_all (h : RR T P K N σ) (hp : p < P) {k : Nat} : ∀ (n t c : Nat) (fd rn : Nat → Nat) (B : Sg), n + t = 13 → t ≤ T → Qu σ T p s0 c fd rn B → k < c → rn k < 3 → (∀ j : Nat, j < c → rn j ≤ rn k + 1) → Tw σ B p 9 → Bs σ B → (∀ t' : Nat, t' < t → okv σ p (fd k) t' 2 → ∃ j : Nat, j < c ∧ fd j = nxt σ p (fd k) t' ∧ rn j ≤ rn k + 1) → ∃ (c' : Nat) (fd' rn' : Nat → Nat), Qu σ T p s0 c' fd' rn' (s_X7_addRunsFrom_L20 (nI k) (nI (rn k + 1)) n t B) ∧ c ≤ c' ∧ (∀ j : Nat, j < c → fd' j = fd j ∧ rn' j = rn j) ∧ (∀ j : Nat, j < c' → rn' j ≤ rn k + 1) ∧ (∀ t' : Nat, t' < T → okv σ p (fd k) t' 2 → ∃ j : Nat, j < c' ∧ fd' j = nxt σ p (fd k) t' ∧ rn' j ≤ rn k + 1) ∧ Bs σ (s_X7_addRunsFrom_L20 (nI k) (nI (rn k + 1)) n t B) ∧ (∀ i' : Nat, i' ≠ 9 → s_X7_addRunsFrom_L20 (nI k) (nI (rn k + 1)) n t B 0 i' = B 0 i') ∧ s_X7_addRunsFrom_L20 (nI k) (nI (rn k + 1)) n t B 10 = B 10
  | 0, t, c, fd, rn, B, hn, ht, _, _, _, _, _, _, _ => by
    have := h.b
    omega
  | n + 1, t, c, fd, rn, B, hn, ht, hQ, hk, hr3, hle, hW, hBs, hdone => by
    have hb9 := h.b
    have e1 : s_X7_addRunsFrom_L20 (nI k) (nI (rn k + 1)) (n + 1) t B = if (B 7 0 6) ≤ (nI t) then B else if (f_X7_judge 9 t 4 ((f_X4_restore 9 (nI k) B).2)) = 0 then s_X7_addRunsFrom_L20 (nI k) (nI (rn k + 1)) n (t + 1) (s_X4_add 9 (nI (rn k + 1)) (s_X7_carryOutRun 9 t ((f_X4_restore 9 (nI k) B).2))) else s_X7_addRunsFrom_L20 (nI k) (nI (rn k + 1)) n (t + 1) ((f_X4_restore 9 (nI k) B).2) := rfl
    have h7 : B 7 0 6 = nI T := by rw [hBs.1 7 (by decide) (by decide) (by decide) (by decide) (by decide)]; exact h.s7.1
    rw [e1, h7]
    by_cases et : t = T
    · rw [if_pos (nI_le (by omega) (by omega))]
      rw [et] at hdone
      exact ⟨c, fd, rn, hQ, Nat.le_refl _, fun _ _ => ⟨rfl, rfl⟩, hle, hdone, hBs, fun _ _ => rfl, rfl⟩
    · rw [if_neg (nI_ge (by omega) (by omega))]
      obtain ⟨r1, r2, r3, r4⟩ := res_q hQ hk hW
      have hfk := (hQ.2.1 k hk).1
      have hrk := (hQ.2.1 k hk).2.2.2.2
      have hB1 := res_Bs hBs (by decide) r3 r4
      generalize hR1 : (f_X4_restore 9 (nI k) B).2 = R1 at r2 r3 r4 hB1
      have hj : (f_X7_judge 9 t 4 R1 = 0) ↔ okv σ p (fd k) t 2 := h.jud hp hB1 r2 hfk (by omega) (b := 2) (by decide)
      have hQ1 : Qu σ T p s0 c fd rn R1 := hQ.same (r4 4 (by decide)) (r4 18 (by decide)) (r4 19 (by decide))
      by_cases cj : f_X7_judge 9 t 4 R1 = 0
      · rw [if_pos cj]
        obtain ⟨T2, c5, c6⟩ := h.car hp hB1 r2 hfk (t := t) (by omega)
        have B2 := hB1.run (i := 9) (t := t) (by decide)
        have hQ2 : Qu σ T p s0 c fd rn (s_X7_carryOutRun 9 t R1) := hQ1.same (c6 4 (by decide)) (c6 18 (by decide)) (c6 19 (by decide))
        have hnx := (h.nx9 (p := p) (s := fd k) (t := t) (by omega) (by omega) hfk).2.2.2
        obtain ⟨c', fd', rn', a1, a2, a3, ⟨j0, a4, a5, a6⟩, a7, a8⟩ := add_q hQ2 T2 hnx (a := rn k + 1) (by omega) hle (Rc_snoc (rn k) s0 (fd k) t hrk (by omega) (hj.mp cj))
        generalize hA : s_X4_add 9 (nI (rn k + 1)) (s_X7_carryOutRun 9 t R1) = A at a1 a8
        have ek := a3 k hk
        have BA : Bs σ A := ⟨fun kk h0 h4 h10 h18 h19 => (a8 kk h4 h18 h19).trans (B2.1 kk h0 h4 h10 h18 h19), fun i' hi => by rw [a8 0 (by decide) (by decide) (by decide), a8 10 (by decide) (by decide) (by decide)]; exact B2.2 i' hi⟩
        have WA : Tw σ A p 9 := by
          unfold Tw
          rw [a8 0 (by decide) (by decide) (by decide), a8 10 (by decide) (by decide) (by decide)]
          exact ⟨T2.2.2.2.1, T2.2.2.2.2⟩
        have ih := l20_all h hp (k := k) n (t + 1) c' fd' rn' A (by omega) (by omega) a1 (by omega) (by rw [ek.2]; exact hr3) (fun j hj9 => by rw [ek.2]; exact a7 j hj9) WA BA (fun t' ht' ho => by
          rw [ek.1] at ho ⊢
          rw [ek.2]
          by_cases e9 : t' = t
          · subst e9
            exact ⟨j0, a4, a5, a6⟩
          · obtain ⟨j, j1, j2, j3⟩ := hdone t' (by omega) ho
            exact ⟨j, by omega, by rw [(a3 j j1).1]; exact j2, by rw [(a3 j j1).2]; exact j3⟩)
        rw [ek.1, ek.2] at ih
        obtain ⟨c2, fd2, rn2, b1, b2, b3, b4, b5, b6, b7, b8⟩ := ih
        refine ⟨c2, fd2, rn2, b1, by omega, fun j hj9 => ⟨(b3 j (by omega)).1.trans (a3 j hj9).1, (b3 j (by omega)).2.trans (a3 j hj9).2⟩, b4, b5, b6, fun i' hi => ?_, ?_⟩
        · rw [b7 i' hi, a8 0 (by decide) (by decide) (by decide), c5 i' hi, r3 i' hi]
        · rw [b8, a8 10 (by decide) (by decide) (by decide), c6 10 (by decide), r4 10 (by decide)]
      · rw [if_neg cj]
        obtain ⟨c2, fd2, rn2, b1, b2, b3, b4, b5, b6, b7, b8⟩ := l20_all h hp (k := k) n (t + 1) c fd rn R1 (by omega) (by omega) hQ1 hk hr3 hle ⟨r2.2.2.2.1, r2.2.2.2.2⟩ hB1 (fun t' ht' ho => by
          by_cases e9 : t' = t
          · subst e9
            exact absurd (hj.mpr ho) cj
          · exact hdone t' (by omega) ho)
        exact ⟨c2, fd2, rn2, b1, b2, b3, b4, b5, b6, fun i' hi => (b7 i' hi).trans (r3 i' hi), b8.trans (r4 10 (by decide))⟩
/-- what lies behind place k is done -/
def Dn9 (σ : Sg) (T p q b c : Nat) (fd rn : Nat → Nat) (k : Nat) : Prop := (∀ j : Nat, j < k → j < c → ¬ okv σ p (fd j) q b ∧ (rn j < 3 → ∀ t : Nat, t < T → okv σ p (fd j) t 2 → ∃ l : Nat, l < c ∧ fd l = nxt σ p (fd j) t ∧ rn l ≤ rn j + 1)) ∧ (k < c → ∀ j : Nat, j < c → rn j ≤ rn k + 1)
theorem q_found (hQ : Qu σ T p s0 c fd rn B) {k m : Nat} (hD : Dn9 σ T p q b c fd rn k) (hm : m ≤ 3) (hk : k < c → m ≤ rn k) : ∀ (n x : Nat), n ≤ m → Rc σ T p n s0 x → ∃ j : Nat, j < c ∧ fd j = x ∧ rn j ≤ n
  | 0, x, _, hx => by
    have e : s0 = x := hx
    exact ⟨0, hQ.1.1, by rw [hQ.2.2.2.2.2.1, e], by rw [hQ.2.2.2.2.2.2]; exact Nat.le_refl _⟩
  | n + 1, x, hn, hx => by
    obtain ⟨y, t, t1, y1, t2, rfl⟩ := Rc_last n s0 x hx
    obtain ⟨j, j1, j2, j3⟩ := q_found hQ hD hm hk n y (by omega) y1
    have hjk : j < k := by
      rcases Nat.lt_or_ge j k with z | z
      · exact z
      · have h1 := hk (by omega)
        have h2 := hQ.2.2.2.2.1 k j z j1
        omega
    obtain ⟨l, l1, l2, l3⟩ := (hD.1 j hjk j1).2 (by omega) t t1 (by rw [j2]; exact t2)
    exact ⟨l, l1, by rw [l2, j2], by omega⟩
theorem l34_all (h : RR T P K N σ) (hp : p < P) (hq : q < T) (hb : b < 3) (i0 : Nat) : ∀ (n k c : Nat) (fd rn : Nat → Nat) (B : Sg), n + k = 193 → k ≤ 192 → Qu σ T p s0 c fd rn B → Tw σ B p 8 → Bs σ B → Dn9 σ T p q b c fd rn k → Vs (fun n => Gs σ T p q b n s0) 0 (f_X7_fewestRuns_L34 i0 q (nI (2 ^ b)) n k B).1 ∧ Bs σ (f_X7_fewestRuns_L34 i0 q (nI (2 ^ b)) n k B).2
  | 0, k, c, fd, rn, B, hn, hk, _, _, _, _ => by omega
  | n + 1, k, c, fd, rn, B, hn, hk, hQ, hW, hBs, hD => by
    have hb9 := h.b
    have e1 : f_X7_fewestRuns_L34 i0 q (nI (2 ^ b)) (n + 1) k B = if 192 ≤ (nI k) then ((-1 : Int32), B) else if (B 4 0 2) ≤ (nI k) then ((-1 : Int32), B) else if (f_X7_judge 8 q (nI (2 ^ b)) ((f_X4_restore 8 (nI k) B).2)) = 0 then ((f_X4_restore 8 (nI k) B).1, (f_X4_restore 8 (nI k) B).2) else if 3 ≤ ((f_X4_restore 8 (nI k) B).1) then f_X7_fewestRuns_L34 i0 q (nI (2 ^ b)) n (k + 1) ((f_X4_restore 8 (nI k) B).2) else f_X7_fewestRuns_L34 i0 q (nI (2 ^ b)) n (k + 1) (s_X7_addRunsFrom (nI k) (((f_X4_restore 8 (nI k) B).1) + (1 : Int32)) ((f_X4_restore 8 (nI k) B).2)) := rfl
    obtain ⟨⟨q0, q1, q2⟩, q3, q4, q5, q6, q7, q8⟩ := id hQ
    -- all that was found is done: nothing good
    have none : c ≤ k → Vs (fun n => Gs σ T p q b n s0) 0 (-1 : Int32) := fun hc => Or.inl ⟨rfl, fun m hm z => by
      obtain ⟨x, x1, x2⟩ := (Gs_iff m s0).mp z
      obtain ⟨j, j1, j2, -⟩ := q_found hQ hD (m := 3) (Nat.le_refl _) (fun w => by omega) m x (by omega) x1
      exact (hD.1 j (by omega) j1).1 (by rw [j2]; exact x2)⟩
    rw [e1]
    by_cases e192 : k = 192
    · rw [if_pos (by rw [e192]; decide)]
      exact ⟨none (by omega), hBs⟩
    · rw [if_neg (show ¬ (192 : Int32) ≤ nI k from nI_ge (b := 192) (by omega) (by decide)), q2]
      by_cases hck : c ≤ k
      · rw [if_pos (nI_le hck (by omega))]
        exact ⟨none hck, hBs⟩
      · have hkc : k < c := by omega
        rw [if_neg (nI_ge hkc (by omega))]
        obtain ⟨r1, r2, r3, r4⟩ := res_q hQ hkc hW
        obtain ⟨hfk, -, -, hr3, hrk⟩ := q3 k hkc
        have hB1 := res_Bs hBs (by decide) r3 r4
        rw [r1]
        generalize hR1 : (f_X4_restore 8 (nI k) B).2 = R1 at r2 r3 r4 hB1
        have hj : (f_X7_judge 8 q (nI (2 ^ b)) R1 = 0) ↔ okv σ p (fd k) q b := h.jud hp hB1 r2 hfk hq hb
        have hQ1 : Qu σ T p s0 c fd rn R1 := hQ.same (r4 4 (by decide)) (r4 18 (by decide)) (r4 19 (by decide))
        by_cases cj : f_X7_judge 8 q (nI (2 ^ b)) R1 = 0
        · rw [if_pos cj]
          refine ⟨Or.inr ⟨rn k, by omega, by rw [Nat.zero_add], (Gs_iff (rn k) s0).mpr ⟨fd k, hrk, hj.mp cj⟩, fun m hm z => ?_⟩, hB1⟩
          obtain ⟨x, x1, x2⟩ := (Gs_iff m s0).mp z
          obtain ⟨j, j1, j2, j3⟩ := q_found hQ hD (m := rn k) hr3 (fun _ => Nat.le_refl _) m x (by omega) x1
          have hjk : j < k := by
            rcases Nat.lt_or_ge j k with w | w
            · exact w
            · have := q6 k j w j1
              omega
          exact (hD.1 j hjk j1).1 (by rw [j2]; exact x2)
        · rw [if_neg cj]
          have hgo : ¬ okv σ p (fd k) q b := fun z => cj (hj.mpr z)
          by_cases c3 : rn k = 3
          · rw [if_pos (show (3 : Int32) ≤ nI (rn k) by rw [c3]; decide)]
            refine l34_all h hp hq hb i0 n (k + 1) c fd rn R1 (by omega) (by omega) hQ1 ⟨r2.2.2.2.1, r2.2.2.2.2⟩ hB1 ⟨fun j hj9 hjc => ?_, fun hk1 j hjc => ?_⟩
            · by_cases ej : j = k
              · subst ej
                exact ⟨hgo, fun w => by omega⟩
              · exact hD.1 j (by omega) hjc
            · have h1 := (q3 j hjc).2.2.2.1
              have h2 := q6 k (k + 1) (by omega) hk1
              omega
          · rw [if_neg (show ¬ (3 : Int32) ≤ nI (rn k) from nI_ge (b := 3) (by omega) (by decide)), nI_1]
            obtain ⟨d1, d2, d3, d4⟩ := copy_all (σ := R1) (i := 9) (o := 8) (by decide)
            have T9 := r2.copy (i' := 9) (by decide)
            have B9 := hB1.copy (i := 9) (o := 8) (by decide) (by decide)
            have Q9 : Qu σ T p s0 c fd rn (s_X0_copyFrom 9 8 R1) := hQ1.same (d4 4 (by decide) (by decide)) (d4 18 (by decide) (by decide)) (d4 19 (by decide) (by decide))
            obtain ⟨c', fd', rn', a1, a2, a3, a4, a5, a6, a7, a8⟩ := l20_all h hp (k := k) 13 0 c fd rn _ rfl (Nat.zero_le _) Q9 hkc (by omega) (hD.2 hkc) ⟨T9.2.2.2.1, T9.2.2.2.2⟩ B9 (fun t' ht' => absurd ht' (Nat.not_lt_zero _))
            have eA : s_X7_addRunsFrom (nI k) (nI (rn k + 1)) R1 = s_X7_addRunsFrom_L20 (nI k) (nI (rn k + 1)) 13 0 (s_X0_copyFrom 9 8 R1) := rfl
            rw [eA]
            generalize hA : s_X7_addRunsFrom_L20 (nI k) (nI (rn k + 1)) 13 0 (s_X0_copyFrom 9 8 R1) = A at a1 a6 a7 a8
            have ek := a3 k hkc
            refine l34_all h hp hq hb i0 n (k + 1) c' fd' rn' A (by omega) (by omega) a1 ?_ a6 ⟨fun j hj9 hjc => ?_, fun hk1 j hjc => ?_⟩
            · unfold Tw
              rw [a7 8 (by decide), a8, d3 0 8 (Or.inl rfl) (by decide), d3 10 8 (Or.inr rfl) (by decide)]
              exact ⟨r2.2.2.2.1, r2.2.2.2.2⟩
            · by_cases ej : j = k
              · subst ej
                rw [ek.1, ek.2]
                exact ⟨hgo, fun _ t t1 t2 => a5 t t1 t2⟩
              · have ej2 := a3 j (by omega)
                rw [ej2.1, ej2.2]
                obtain ⟨y1, y2⟩ := hD.1 j (by omega) (by omega)
                refine ⟨y1, fun w t t1 t2 => ?_⟩
                obtain ⟨l, l1, l2, l3⟩ := y2 w t t1 t2
                exact ⟨l, by omega, by rw [(a3 l l1).1]; exact l2, by rw [(a3 l l1).2]; exact l3⟩
            · have h1 := a4 j hjc
              have h2 := a1.2.2.2.2.1 k (k + 1) (by omega) hk1
              rw [ek.2] at h2
              omega
theorem clr7 : ∀ (n k : Nat) (B : Sg), n + k = 193 → k ≤ 192 → (∀ y : Nat, s_X4_clear_L7 n k B 19 0 y = if k ≤ y ∧ y < 192 then -1 else B 19 0 y) ∧ ∀ j : Nat, j ≠ 19 → s_X4_clear_L7 n k B j = B j
  | 0, k, B, hn, hk => by omega
  | n + 1, k, B, hn, hk => by
    have e1 : s_X4_clear_L7 (n + 1) k B = if 192 ≤ (nI k) then B else s_X4_clear_L7 n (k + 1) (us B 19 0 k (-1)) := rfl
    rw [e1]
    by_cases e : k = 192
    · rw [if_pos (by rw [e]; decide)]
      exact ⟨fun y => by rw [if_neg (by omega)], fun _ _ => rfl⟩
    · rw [if_neg (show ¬ (192 : Int32) ≤ nI k from nI_ge (b := 192) (by omega) (by decide))]
      obtain ⟨a1, a2⟩ := clr7 n (k + 1) (us B 19 0 k (-1)) (by omega) (by omega)
      refine ⟨fun y => ?_, fun j hj => by rw [a2 j hj, us_kk hj]⟩
      rw [a1 y]
      by_cases ey : y = k
      · subst ey
        rw [if_neg (by omega), if_pos (by omega), us_h]
      · rw [us_j ey]
        by_cases c : k ≤ y ∧ y < 192
        · rw [if_pos c, if_pos (by omega)]
        · rw [if_neg c, if_neg (by omega)]
theorem RR.at0 (h : RR T P K N σ) (hp : p < P) : ∃ s0 : Nat, s0 < 192 ∧ Ta σ σ p p s0 ∧ σ 49 0 p = nI (s0 / 32) ∧ σ 50 0 p = nI (s0 / 8 % 4) ∧ σ 53 0 p = nI (s0 % 8) := by
  have hb9 := h.b
  obtain ⟨⟨a0, a1, -, -, a4, -⟩, -, ⟨⟨u, u1, u2⟩, ⟨d, d1, d2⟩, ⟨f, f1, f2⟩, -⟩, -⟩ := h.2.2.2.2.2.1 p (by omega)
  have e1 : (32 * u + 8 * d + f) / 32 = u := by omega
  have e2 : (32 * u + 8 * d + f) / 8 % 4 = d := by omega
  have e3 : (32 * u + 8 * d + f) % 8 = f := by omega
  refine ⟨32 * u + 8 * d + f, by omega, ⟨by rw [e1]; exact u2, by rw [e2]; exact d2, by rw [e3]; exact f2, fun _ _ => rfl, fun _ _ => rfl⟩, by rw [e1, a0]; exact u2, by rw [e2, a1]; exact d2, by rw [e3, a4]; exact f2⟩
/-- the class's answer -/
theorem RR.queue (h : RR T P K N σ) (hp : p < P) (hq : q < T) (hb : b < 3) (hs0 : s0 < 192) (hT0 : Ta σ σ p p s0) : Vs (fun n => Gs σ T p q b n s0) 0 (f_X7_fewestRuns p q (nI (2 ^ b)) σ).1 ∧ Bs σ (f_X7_fewestRuns p q (nI (2 ^ b)) σ).2 := by
  have hb9 := h.b
  have B0 : Bs σ σ := ⟨fun _ _ _ _ _ _ => rfl, fun _ _ => ⟨rfl, rfl⟩⟩
  have T8 := hT0.copy (i' := 8) (by omega)
  have B8 := B0.copy (i := 8) (o := p) (by omega) (by decide)
  obtain ⟨C, hC⟩ : ∃ C, C = s_X4_clear (s_X0_copyFrom 8 p σ) := ⟨_, rfl⟩
  obtain ⟨k1, k2⟩ := clr7 193 0 (us (s_X0_copyFrom 8 p σ) 4 0 2 0) rfl (Nat.zero_le _)
  have eC : C = s_X4_clear_L7 193 0 (us (s_X0_copyFrom 8 p σ) 4 0 2 0) := hC
  rw [← eC] at k1 k2
  have Ck : ∀ kk : Nat, kk ≠ 4 → kk ≠ 19 → C kk = s_X0_copyFrom 8 p σ kk := fun kk h4 h19 => by rw [k2 kk h19, us_kk h4]
  have TC : Ta σ C p 8 s0 := by
    unfold Ta
    rw [Ck 0 (by decide) (by decide), Ck 10 (by decide) (by decide)]
    exact T8
  have BC : Bs σ C := ⟨fun kk h0 h4 h10 h18 h19 => (Ck kk h4 h19).trans (B8.1 kk h0 h4 h10 h18 h19), fun i' hi => by rw [Ck 0 (by decide) (by decide), Ck 10 (by decide) (by decide)]; exact B8.2 i' hi⟩
  have C4 : C 4 0 2 = 0 := by rw [k2 4 (by decide)]; exact us_h
  have C19 : ∀ y : Nat, y < 192 → C 19 0 y = -1 := fun y hy => by rw [k1 y, if_pos ⟨Nat.zero_le _, hy⟩]
  have eA : s_X4_add 8 0 C = us (us (us C 19 0 s0 0) 18 0 0 (nI s0)) 4 0 2 1 := by
    rw [s_X4_add, enc_s TC hs0, if_neg (nI_pos (by omega)), if_neg (show ¬ (192 : Int32) ≤ nI s0 from nI_ge (b := 192) hs0 (by decide)), nI_clamp (show s0 < 2 ^ 31 by omega), C19 s0 hs0, if_pos rfl, C4, if_neg (by decide)]
    rfl
  have eF : f_X7_fewestRuns p q (nI (2 ^ b)) σ = f_X7_fewestRuns_L34 p q (nI (2 ^ b)) 193 0 (s_X4_add 8 0 C) := by rw [hC]; rfl
  rw [eF, eA]
  have Ak : ∀ kk : Nat, kk ≠ 4 → kk ≠ 18 → kk ≠ 19 → us (us (us C 19 0 s0 0) 18 0 0 (nI s0)) 4 0 2 1 kk = C kk := fun kk h4 h18 h19 => by rw [us_kk h4, us_kk h18, us_kk h19]
  refine l34_all (s0 := s0) h hp hq hb p 193 0 1 (fun _ => s0) (fun _ => 0) _ rfl (Nat.zero_le _) ⟨⟨Nat.le_refl _, by decide, rfl⟩, fun j hj => ⟨hs0, by rw [show j = 0 by omega]; rfl, by rw [us_k (by decide), us_k (by decide), us_h]; rfl, Nat.zero_le _, rfl⟩, fun j hj l hl _ => by omega, fun y hy => ?_, fun _ _ _ _ => Nat.le_refl _, rfl, rfl⟩ ?_ ⟨fun kk h0 h4 h10 h18 h19 => (Ak kk h4 h18 h19).trans (BC.1 kk h0 h4 h10 h18 h19), fun i' hi => by rw [Ak 0 (by decide) (by decide) (by decide), Ak 10 (by decide) (by decide) (by decide)]; exact BC.2 i' hi⟩ ⟨fun j hj => absurd hj (Nat.not_lt_zero _), fun _ j _ => Nat.zero_le _⟩
  · by_cases ey : y = s0
    · exact Or.inr ⟨0, by decide, ey.symm⟩
    · left
      rw [us_k (by decide), us_k (by decide), us_j ey]
      exact C19 y hy
  · unfold Tw
    rw [Ak 0 (by decide) (by decide) (by decide), Ak 10 (by decide) (by decide) (by decide)]
    exact ⟨TC.2.2.2.1, TC.2.2.2.2⟩
end QU
theorem r8_L144 (k t r : Int32) (x : Nat) : ∀ (n j : Nat) (m : Sg), (f_X8_reach_L144 k t r x n j m) 8 0 0 = m 8 0 0
  | 0, j, m => rfl
  | n + 1, j, m => by
    have e1 : f_X8_reach_L144 k t r x (n + 1) j m = if 192 ≤ (nI j) then m else if (m 77 0 j) = (nI x) then f_X8_reach_L144 k t r x n (j + 1) (s_X8_runAll k (nI j) (nI x) m) else f_X8_reach_L144 k t r x n (j + 1) m := rfl
    rw [e1]
    by_cases c : 192 ≤ nI j
    · rw [if_pos c]
    · rw [if_neg c]
      by_cases d : m 77 0 j = nI x
      · rw [if_pos d, r8_L144 k t r x n (j + 1), fs_X8_runAll (by decide) (by decide) (by decide)]
      · rw [if_neg d, r8_L144 k t r x n (j + 1)]
theorem r8_L76 (k t r : Int32) : ∀ (n x : Nat) (m : Sg), (f_X8_reach_L76 k t r n x m).2 8 0 0 = m 8 0 0
  | 0, x, m => rfl
  | n + 1, x, m => by
    have e1 : f_X8_reach_L76 k t r (n + 1) x m = if 3 < (nI x) then ((-1 : Int32), m) else if (f_X8_reach_L85 k t r x 193 0 m) = 1 then (nI x, m) else (f_X8_reach_L76 k t r n (x + 1) (f_X8_reach_L144 k t r x 193 0 m)) := rfl
    rw [e1]
    by_cases c : 3 < nI x
    · rw [if_pos c]
    · rw [if_neg c]
      by_cases d : f_X8_reach_L85 k t r x 193 0 m = 1
      · rw [if_pos d]
      · rw [if_neg d, r8_L76 k t r n (x + 1), r8_L144]
theorem r8_0 (k t r : Int32) (τ : Sg) : (f_X8_reach_K19 k t r τ).2 8 0 0 = τ 8 0 0 := by
  rw [f_X8_reach_K19, r8_L76, us_k (by decide)]
/-- both answers of one search -/
theorem RR.both {T P K N : Nat} {σ : Sg} (hR : RR T P K N σ) {p q b s0 : Nat} (hp : p < P) (hs0 : s0 < 192) (g1 : σ 49 0 p = nI (s0 / 32)) (g2 : σ 50 0 p = nI (s0 / 8 % 4)) (g3 : σ 53 0 p = nI (s0 % 8)) (w : f_X8_whyNoVerdict (nI p) (nI q) (nI (2 ^ b)) σ = 0) {τ : Sg} {x : Int32} (v1 : Vs (fun n => Gs σ T p q b n s0) 0 x) (v2 : Bs σ τ) : ∃ Y : Sg, f_X8_reach (nI p) (nI q) (nI (2 ^ b)) (us τ 90 0 0 x) = (x, Y) ∧ Y 8 0 0 = 0 ∧ RR T P K N Y := by
  have τk : ∀ kk : Nat, 30 < kk → τ kk = σ kk := fun kk hk => v2.1 kk (by omega) (by omega) (by omega) (by omega) (by omega)
  have τ8 : τ 8 = σ 8 := v2.1 8 (by decide) (by decide) (by decide) (by decide) (by decide)
  have hRτ := Bs.rr hR v2
  have k1 : f_X8_whyNoVerdict (nI p) (nI q) (nI (2 ^ b)) (us τ 90 0 0 x) = 0 := by
    rw [← w, f_X8_whyNoVerdict, f_X8_whyNoVerdict, f_X8_isProcess, f_X8_isProcess, f_X8_isThing, f_X8_isThing, us_kk (show 8 ≠ 90 by decide), τ8]
  have hM : Ms σ (us (us τ 90 0 0 x) 8 0 0 0) := ⟨fun kk h1 h2 h3 => by rw [us_kk (by omega), us_kk h3, τk kk h1], by rw [us_j (by decide), us_k (by decide), τ8]⟩
  have v3 := hR.layers (q := q) (b := b) hp hM hs0 g1 g2 g3
  have ev := v1.uniq v3
  obtain ⟨Y, hY⟩ : ∃ Y, Y = (f_X8_reach_K19 (nI p) (nI q) (nI (2 ^ b)) (f_X8_reach_L19 (nI p) (nI q) (nI (2 ^ b)) 193 0 (us (us τ 90 0 0 x) 8 0 0 0))).2 := ⟨_, rfl⟩
  have hX : f_X8_reach (nI p) (nI q) (nI (2 ^ b)) (us τ 90 0 0 x) = (x, Y) := by
    rw [f_X8_reach, k1, if_pos (show f_X8_rf 0 = 0 from rfl)]
    exact Prod.ext ev.symm hY.symm
  have Yk : ∀ kk : Nat, kk ≠ 8 → kk ≠ 77 → Y kk = us (us τ 90 0 0 x) 8 0 0 0 kk := fun kk h8 h77 => by
    rw [hY, fr_f_X8_reach_K19 _ _ _ _ h8 h77, fr_f_X8_reach_L19 _ _ _ h8 h77]
  have Y8 : ∀ j : Nat, j ≠ 44 → j ≠ 45 → j ≠ 46 → Y 8 0 j = us (us τ 90 0 0 x) 8 0 0 0 8 0 j := fun j h44 h45 h46 => by
    have z := (l19_all (nI p) (nI q) (nI (2 ^ b)) 193 0 (us (us τ 90 0 0 x) 8 0 0 0) rfl (Nat.zero_le _)).2 8 (by decide)
    by_cases hj : j = 0
    · subst hj
      rw [hY]
      exact (r8_0 _ _ _ _).trans (by rw [z])
    · rw [hY, fs_f_X8_reach_K19 _ _ _ _ hj h44 h45 h46, z]
  refine ⟨Y, hX, by rw [Y8 0 (by decide) (by decide) (by decide)]; exact us_h, ?_⟩
  refine hRτ.sc (fun kk i hs => ?_) (fun j hj => ?_)
  · simp [scr] at hs
    rw [Yk kk (by omega) (by omega), us_kk (by omega), us_kk (by omega)]
  · simp at hj
    rw [Y8 j (by omega) (by omega) (by omega), us_j (by omega), us_k (by decide)]
theorem st_reach {σ : Sg} (h : RS σ) (k t r : Int32) : OKc (f_L_reach k t r σ) (f_X8_reach k t r) := by
  obtain ⟨T, P, K, N, hR⟩ := id h
  rcases hR.why2 k t r with ⟨p, q, b, hp, hq, hb, rfl, rfl, rfl, e1, e2, e3, w⟩ | ⟨e1, w⟩ | ⟨e1, e2, w⟩ | ⟨e1, e2, e3, w⟩
  rotate_left
  · exact OKc.er (c := 1) (x := 0) h (by decide) (by simp [f_L_reach, m_X7_reach, nd, e1]) (by simp [f_X8_reach, w, f_X8_rf])
  · exact OKc.er (c := 1) (x := 0) h (by decide) (by simp [f_L_reach, m_X7_reach, nd, e1, e2]) (by simp [f_X8_reach, w, f_X8_rf])
  · exact OKc.er (c := 2) (x := 0) h (by decide) (by simp [f_L_reach, m_X7_reach, nd, e1, e2, e3]) (by simp [f_X8_reach, w, f_X8_rf])
  have hB := hR.b
  obtain ⟨s0, hs0, hT0, g1, g2, g3⟩ := hR.at0 hp
  obtain ⟨v1, v2⟩ := hR.queue hp hq hb hs0 hT0
  obtain ⟨τ, hτ⟩ : ∃ τ, τ = (f_X7_fewestRuns p q (nI (2 ^ b)) σ).2 := ⟨_, rfl⟩
  obtain ⟨x, hx⟩ : ∃ x, x = (f_X7_fewestRuns p q (nI (2 ^ b)) σ).1 := ⟨_, rfl⟩
  rw [← hτ] at v2
  rw [← hx] at v1
  obtain ⟨Y, hX, y0, yR⟩ := hR.both hp hs0 g1 g2 g3 w v1 v2
  refine OKc.ok (τ := τ) (x := x) (τ' := Y) ?_ hX y0 ⟨T, P, K, N, yR⟩
  simp [f_L_reach, m_X7_reach, nd, e1, e2, e3, nI_clamp (show p < 2 ^ 31 by omega), nI_clamp (show q < 2 ^ 31 by omega), ← hτ, ← hx]
theorem st_reachAnew {σ : Sg} (h : RS σ) (k t r : Int32) : OKc (f_L_reachAnew k t r σ) (f_X8_reachAnew k t r) := by
  obtain ⟨T, P, K, N, hR⟩ := id h
  rcases hR.why2 k t r with ⟨p, q, b, hp, hq, hb, rfl, rfl, rfl, e1, e2, e3, w⟩ | ⟨e1, w⟩ | ⟨e1, e2, w⟩ | ⟨e1, e2, e3, w⟩
  rotate_left
  · exact OKc.er (c := 1) (x := 0) h (by decide) (by simp [f_L_reachAnew, m_X7_reachAnew, nd, e1]) (by simp [f_X8_reachAnew, f_X8_reach, w, f_X8_rf])
  · exact OKc.er (c := 1) (x := 0) h (by decide) (by simp [f_L_reachAnew, m_X7_reachAnew, nd, e1, e2]) (by simp [f_X8_reachAnew, f_X8_reach, w, f_X8_rf])
  · exact OKc.er (c := 2) (x := 0) h (by decide) (by simp [f_L_reachAnew, m_X7_reachAnew, nd, e1, e2, e3]) (by simp [f_X8_reachAnew, f_X8_reach, w, f_X8_rf])
  have hB := hR.b
  obtain ⟨hR2, h15⟩ := hR.fresh15
  obtain ⟨s0, hs0, hT0, g1, g2, g3⟩ := hR2.at0 hp
  have w2 : f_X8_whyNoVerdict (nI p) (nI q) (nI (2 ^ b)) (s_X2_findAnew σ) = 0 := by
    rw [← w, f_X8_whyNoVerdict, f_X8_whyNoVerdict, f_X8_isProcess, f_X8_isProcess, f_X8_isThing, f_X8_isThing, fr_X2_findAnew (show 8 ≠ 15 by decide)]
  have B0 : Bs (s_X2_findAnew σ) (s_X2_findAnew σ) := ⟨fun _ _ _ _ _ _ => rfl, fun _ _ => ⟨rfl, rfl⟩⟩
  obtain ⟨v1, v2, -⟩ := df_all hR2 h15 hp hq hb hs0 _ (B0.copy (i := 8) (o := p) (by omega) (by decide)) (hT0.copy (i' := 8) (by omega))
  obtain ⟨τ, hτ⟩ : ∃ τ, τ = (f_X7_fewestOfRows_0 q (nI (2 ^ b)) (s_X0_copyFrom 8 p (s_X2_findAnew σ))).2 := ⟨_, rfl⟩
  obtain ⟨x, hx⟩ : ∃ x, x = (f_X7_fewestOfRows_0 q (nI (2 ^ b)) (s_X0_copyFrom 8 p (s_X2_findAnew σ))).1 := ⟨_, rfl⟩
  rw [← hτ] at v2
  rw [← hx] at v1
  obtain ⟨Y, hX, y0, yR⟩ := hR2.both hp hs0 g1 g2 g3 w2 v1 v2
  refine OKc.ok (τ := τ) (x := x) (τ' := Y) ?_ ?_ y0 ⟨T, P, K, N, yR⟩
  · simp [f_L_reachAnew, m_X7_reachAnew, nd, e1, e2, e3, nI_clamp (show p < 2 ^ 31 by omega), nI_clamp (show q < 2 ^ 31 by omega), ← hτ, ← hx]
  · rw [f_X8_reachAnew, hX]
