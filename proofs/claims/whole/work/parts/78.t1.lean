/-! how far one could come: what the three ways of finding it have in common -/
def okv (σ : Sg) (p s t b : Nat) : Prop := f_X8_verdictOf (nI (s / 32)) (nI (s / 8 % 4)) (nI p) (nI (s % 8)) (nI t) (nI (2 ^ b)) σ = 0
def nuN (σ : Sg) (s t : Nat) : Nat := (nuU (bt (σ 36 0 t) 9) (σ 34 0 t) (nI (s / 32))).toNatClampNeg
def ndN9 (σ : Sg) (s t : Nat) : Nat := (nuD (f_X3_moveOf (nI (s / 8 % 4)) (σ 5 t 3) σ) (nI (s / 8 % 4))).toNatClampNeg
def nfN (σ : Sg) (p s t : Nat) : Nat := (nuF (bt (σ 36 0 t) 9) (σ 34 0 t) (σ 54 0 p) (nI (s % 8))).toNatClampNeg
def nxt (σ : Sg) (p s t : Nat) : Nat := 32 * nuN σ s t + 8 * ndN9 σ s t + nfN σ p s t
theorem nb_cl {n : Nat} {x : Int32} (h : nb n x) (hn : n < 2 ^ 31) : x.toNatClampNeg < n ∧ x = nI x.toNatClampNeg := by
  obtain ⟨a, h1, rfl⟩ := h
  rw [nI_clamp (by omega)]
  exact ⟨h1, rfl⟩
theorem RR.nx9 {T P K N : Nat} {σ : Sg} (h : RR T P K N σ) {p s t : Nat} (hp : p < 8) (ht : t < 12) (hs : s < 192) : nuU (bt (σ 36 0 t) 9) (σ 34 0 t) (nI (s / 32)) = nI (nxt σ p s t / 32) ∧ nuD (f_X3_moveOf (nI (s / 8 % 4)) (σ 5 t 3) σ) (nI (s / 8 % 4)) = nI (nxt σ p s t / 8 % 4) ∧ nuF (bt (σ 36 0 t) 9) (σ 34 0 t) (σ 54 0 p) (nI (s % 8)) = nI (nxt σ p s t % 8) ∧ nxt σ p s t < 192 := by
  obtain ⟨⟨t0, -⟩, -, ⟨n0, -⟩, -⟩ := h.2.2.2.1 t ht
  obtain ⟨⟨-, -, -, -, -, a5, -⟩, -, ⟨-, -, -, b5⟩, -⟩ := h.2.2.2.2.2.1 p hp
  have d4 : nb 4 (nI (s / 8 % 4)) := ⟨s / 8 % 4, by omega, rfl⟩
  obtain ⟨u1, u2⟩ := nb_cl (nuU_nb (m9 := bt (σ 36 0 t) 9) (ow := σ 34 0 t) (u := nI (s / 32)) (by rw [t0]; exact n0) ⟨s / 32, by omega, rfl⟩) (by decide)
  obtain ⟨v1, v2⟩ := nb_cl (h.mv d4 ht).2 (by decide)
  obtain ⟨w1, w2⟩ := nb_cl (nuF_nb (m9 := bt (σ 36 0 t) 9) (ow := σ 34 0 t) (bo := σ 54 0 p) (f := nI (s % 8)) (by rw [a5]; exact b5) ⟨s % 8, by omega, rfl⟩) (by decide)
  have hu : nuN σ s t < 6 := u1
  have hd : ndN9 σ s t < 4 := v1
  have hf : nfN σ p s t < 8 := w1
  have e1 : nxt σ p s t / 32 = nuN σ s t := by unfold nxt; omega
  have e2 : nxt σ p s t / 8 % 4 = ndN9 σ s t := by unfold nxt; omega
  have e3 : nxt σ p s t % 8 = nfN σ p s t := by unfold nxt; omega
  refine ⟨by rw [e1]; exact u2, by rw [e2]; exact v2, by rw [e3]; exact w2, ?_⟩
  unfold nxt
  omega
def Gs (σ : Sg) (T p q b : Nat) : Nat → Nat → Prop
  | 0, s => okv σ p s q b
  | n + 1, s => ∃ t : Nat, t < T ∧ okv σ p s t 2 ∧ Gs σ T p q b n (nxt σ p s t)
def Rc (σ : Sg) (T p : Nat) : Nat → Nat → Nat → Prop
  | 0, s, x => s = x
  | n + 1, s, x => ∃ t : Nat, t < T ∧ okv σ p s t 2 ∧ Rc σ T p n (nxt σ p s t) x
section RC
variable {σ : Sg} {T p q b : Nat}
theorem Gs_iff : ∀ (n s : Nat), Gs σ T p q b n s ↔ ∃ x : Nat, Rc σ T p n s x ∧ okv σ p x q b
  | 0, s => ⟨fun h => ⟨s, rfl, h⟩, fun ⟨x, h1, h2⟩ => by
      have e : s = x := h1
      subst e
      exact h2⟩
  | n + 1, s => by
    constructor
    · rintro ⟨t, t1, t2, t3⟩
      obtain ⟨x, x1, x2⟩ := (Gs_iff n _).mp t3
      exact ⟨x, ⟨t, t1, t2, x1⟩, x2⟩
    · rintro ⟨x, ⟨t, t1, t2, x1⟩, x2⟩
      exact ⟨t, t1, t2, (Gs_iff n _).mpr ⟨x, x1, x2⟩⟩
theorem Rc_snoc : ∀ (n s x t : Nat), Rc σ T p n s x → t < T → okv σ p x t 2 → Rc σ T p (n + 1) s (nxt σ p x t)
  | 0, s, x, t, h, ht, ho => by
    have e : s = x := h
    subst e
    exact ⟨t, ht, ho, rfl⟩
  | n + 1, s, x, t, ⟨t', h1, h2, h3⟩, ht, ho => ⟨t', h1, h2, Rc_snoc n _ x t h3 ht ho⟩
theorem Rc_last : ∀ (n s y : Nat), Rc σ T p (n + 1) s y → ∃ x t : Nat, t < T ∧ Rc σ T p n s x ∧ okv σ p x t 2 ∧ y = nxt σ p x t
  | 0, s, y, ⟨t, h1, h2, h3⟩ => ⟨s, t, h1, rfl, h2, Eq.symm h3⟩
  | n + 1, s, y, ⟨t, h1, h2, h3⟩ => by
    obtain ⟨x, t', a, b, c, d⟩ := Rc_last n _ y h3
    exact ⟨x, t', a, ⟨t, h1, h2, b⟩, c, d⟩
/-- the least of what is good, counted from l, or -1 -/
def Vs (G : Nat → Prop) (l : Nat) (x : Int32) : Prop := (x = -1 ∧ ∀ n : Nat, l + n ≤ 3 → ¬ G n) ∨ ∃ n : Nat, l + n ≤ 3 ∧ x = nI (l + n) ∧ G n ∧ ∀ m : Nat, m < n → ¬ G m
theorem Vs.uniq {G : Nat → Prop} {l : Nat} {x y : Int32} (h1 : Vs G l x) (h2 : Vs G l y) : x = y := by
  rcases h1 with ⟨a1, a2⟩ | ⟨n, a1, a2, a3, a4⟩ <;> rcases h2 with ⟨b1, b2⟩ | ⟨m, b1, b2, b3, b4⟩
  · rw [a1, b1]
  · exact absurd b3 (a2 m b1)
  · exact absurd a3 (b2 n a1)
  · rcases Nat.lt_trichotomy n m with c | c | c
    · exact absurd a3 (b4 n c)
    · rw [a2, b2, c]
    · exact absurd b3 (a4 m c)
theorem Vs.congr {G H : Nat → Prop} {l : Nat} {x : Int32} (h : Vs G l x) (e : ∀ n : Nat, G n ↔ H n) : Vs H l x := by
  rcases h with ⟨a1, a2⟩ | ⟨n, a1, a2, a3, a4⟩
  · exact Or.inl ⟨a1, fun n hn z => a2 n hn ((e n).mpr z)⟩
  · exact Or.inr ⟨n, a1, a2, (e n).mp a3, fun m hm z => a4 m hm ((e m).mpr z)⟩
/-- the lesser of two -/
theorem Vs.min {G H : Nat → Prop} {l : Nat} {x y : Int32} (h1 : Vs G l x) (h2 : Vs H l y) : Vs (fun n => G n ∨ H n) l (if y = -1 then x else if x = -1 then y else if x ≤ y then x else y) := by
  rcases h2 with ⟨b1, b2⟩ | ⟨m, b1, b2, b3, b4⟩
  · rw [if_pos b1]
    rcases h1 with ⟨a1, a2⟩ | ⟨n, a1, a2, a3, a4⟩
    · exact Or.inl ⟨a1, fun n hn z => z.elim (a2 n hn) (b2 n hn)⟩
    · exact Or.inr ⟨n, a1, a2, Or.inl a3, fun k hk z => z.elim (a4 k hk) (b2 k (by omega))⟩
  · rw [if_neg (by rw [b2]; exact nI_m1 (by omega))]
    rcases h1 with ⟨a1, a2⟩ | ⟨n, a1, a2, a3, a4⟩
    · rw [if_pos a1]
      exact Or.inr ⟨m, b1, b2, Or.inr b3, fun k hk z => z.elim (a2 k (by omega)) (b4 k hk)⟩
    · rw [if_neg (by rw [a2]; exact nI_m1 (by omega))]
      have cmp : (x ≤ y) ↔ n ≤ m := by
        rw [a2, b2, nI_leI (by omega) (by omega)]
        omega
      by_cases c : x ≤ y
      · rw [if_pos c]
        have := cmp.mp c
        exact Or.inr ⟨n, a1, a2, Or.inl a3, fun k hk z => z.elim (a4 k hk) (b4 k (by omega))⟩
      · rw [if_neg c]
        have : ¬ n ≤ m := fun z => c (cmp.mpr z)
        exact Or.inr ⟨m, b1, b2, Or.inr b3, fun k hk z => z.elim (a4 k (by omega)) (b4 k hk)⟩
end RC
/-- an actor of the class that is at s -/
def Ta (σ B : Sg) (p i s : Nat) : Prop := B 0 i 0 = nI (s / 32) ∧ B 0 i 1 = nI (s / 8 % 4) ∧ B 0 i 4 = nI (s % 8) ∧ (∀ j : Nat, j = 2 ∨ j = 3 ∨ j = 5 ∨ j = 6 ∨ j = 7 → B 0 i j = σ 0 p j) ∧ ∀ j : Nat, j < 3 → B 10 i j = σ 10 p j
/-- a state in which only rows for trying changed -/
def Bs (σ B : Sg) : Prop := (∀ kk : Nat, kk ≠ 0 → kk ≠ 4 → kk ≠ 10 → kk ≠ 18 → kk ≠ 19 → B kk = σ kk) ∧ ∀ i : Nat, i < 8 → B 0 i = σ 0 i ∧ B 10 i = σ 10 i
section BS
variable {T P K N : Nat} {σ B : Sg} {p i s t b : Nat}
theorem Bs.rr (h : RR T P K N σ) (hB : Bs σ B) : RR T P K N B := by
  refine h.sc (fun kk i hs => ?_) (fun j _ => by rw [hB.1 8 (by decide) (by decide) (by decide) (by decide) (by decide)])
  by_cases q0 : kk = 0
  · subst q0
    simp [scr] at hs
    exact (hB.2 i (by omega)).1
  · by_cases q10 : kk = 10
    · subst q10
      simp [scr] at hs
      exact (hB.2 i (by omega)).2
    · simp [scr] at hs
      rw [hB.1 kk q0 (by omega) q10 (by omega) (by omega)]
theorem RR.jud (h : RR T P K N σ) (hp : p < P) (hB : Bs σ B) (hT : Ta σ B p i s) (hs : s < 192) (ht : t < T) (hb : b < 3) : (f_X7_judge i t (nI (2 ^ b)) B = 0) ↔ okv σ p s t b := by
  have hb9 := h.b
  have hR := Bs.rr h hB
  obtain ⟨t0, t1, t4, tj, -⟩ := hT
  obtain ⟨⟨-, -, a2, a3, -⟩, a7, -⟩ := h.2.2.2.2.2.1 p (by omega)
  have k := fun kk h0 h4 h10 h18 h19 => hB.1 kk h0 h4 h10 h18 h19
  have hTr : Tr B i p := by
    refine ⟨by rw [t0]; exact ⟨s / 32, by omega, rfl⟩, by rw [t1]; exact ⟨s / 8 % 4, by omega, rfl⟩, ?_, ?_, ?_⟩
    · rw [tj 2 (by simp), k 51 (by decide) (by decide) (by decide) (by decide) (by decide), a2]
    · rw [tj 3 (by simp), k 52 (by decide) (by decide) (by decide) (by decide) (by decide), a3]
    · rw [tj 7 (by simp), k 56 (by decide) (by decide) (by decide) (by decide) (by decide), a7 hp]
  rw [← hR.judge hTr (by omega) ht hb, t0, t1, t4, okv, verdict_congr (c := σ) (m := B) (Mv.of fun kk _ h2 _ _ _ _ _ _ => by rw [k kk (by omega) (by omega) (by omega) (by omega) (by omega)])]
theorem RR.judA (h : RR T P K N σ) (h15 : ∀ x : Nat, x < 6 → σ 15 0 x = σ 14 0 x) (hp : p < P) (hB : Bs σ B) (hT : Ta σ B p i s) (hs : s < 192) (ht : t < T) (hb : b < 3) : (f_X7_judgeAnew i t (nI (2 ^ b)) B = 0) ↔ okv σ p s t b := by
  have hb9 := h.b
  have hR := Bs.rr h hB
  obtain ⟨t0, -, -, tj, t10⟩ := id hT
  have k := fun kk h0 h4 h10 h18 h19 => hB.1 kk h0 h4 h10 h18 h19
  obtain ⟨-, -, -, ⟨c, c1, c2, c3⟩, -⟩ := h.2.2.2.2.2.1 p (by omega)
  rw [hR.jAnew (i := i) (by rw [k 15 (by decide) (by decide) (by decide) (by decide) (by decide), k 14 (by decide) (by decide) (by decide) (by decide) (by decide)]; exact h15) (by rw [t0]; exact ⟨s / 32, by omega, rfl⟩) ⟨c, c1, by rw [tj 6 (by simp)]; exact c2, by rw [tj 7 (by simp), c3]; exact (lpf_congr c fun j hj => t10 j (by omega)).symm⟩ ht hb]
  exact h.jud hp hB hT hs ht hb
theorem RR.car (h : RR T P K N σ) (hp : p < P) (hB : Bs σ B) (hT : Ta σ B p i s) (hs : s < 192) (ht : t < T) : Ta σ (s_X7_carryOutRun i t B) p i (nxt σ p s t) ∧ (∀ i' : Nat, i' ≠ i → s_X7_carryOutRun i t B 0 i' = B 0 i') ∧ ∀ kk : Nat, kk ≠ 0 → s_X7_carryOutRun i t B kk = B kk := by
  have hb9 := h.b
  obtain ⟨c1, c2, c3, c4, c5, c6⟩ := co_all (c := B) (i := i) (t := t)
  obtain ⟨t0, t1, t4, tj, t10⟩ := hT
  obtain ⟨n1, n2, n3, -⟩ := h.nx9 (p := p) (s := s) (t := t) (by omega) (by omega) hs
  obtain ⟨⟨o0, -, o2, -⟩, -⟩ := h.2.2.2.1 t (by omega)
  obtain ⟨⟨-, -, -, -, -, a5, -⟩, -⟩ := h.2.2.2.2.2.1 p (by omega)
  have k5 := hB.1 5 (by decide) (by decide) (by decide) (by decide) (by decide)
  have k17 := hB.1 17 (by decide) (by decide) (by decide) (by decide) (by decide)
  refine ⟨⟨?_, ?_, ?_, fun j hj => ?_, fun j hj => by rw [c6 10 (by decide)]; exact t10 j hj⟩, c5, c6⟩
  · rw [c1, k5, t0, ← o2, ← o0]; exact n1
  · rw [c2, k5, t1, mv_congr (c := σ) (by rw [k17])]; exact n2
  · rw [c3, k5, t4, tj 5 (by simp), ← o2, ← o0, ← a5]; exact n3
  · rw [c4 j (by omega) (by omega) (by omega)]
    exact tj j hj
theorem Ta.copy (hT : Ta σ B p i s) {i' : Nat} (hi : i ≠ i') : Ta σ (s_X0_copyFrom i' i B) p i' s := by
  obtain ⟨t0, t1, t4, tj, t10⟩ := hT
  obtain ⟨d1, d2, -, -⟩ := copy_all (σ := B) hi
  exact ⟨by rw [d1 0 (by decide)]; exact t0, by rw [d1 1 (by decide)]; exact t1, by rw [d1 4 (by decide)]; exact t4, fun j hj => by rw [d1 j (by omega)]; exact tj j hj, fun j hj => by rw [d2 j hj]; exact t10 j hj⟩
theorem Bs.copy (hB : Bs σ B) {i o : Nat} (hi : o ≠ i) (h8 : 8 ≤ i) : Bs σ (s_X0_copyFrom i o B) := by
  obtain ⟨-, -, d3, d4⟩ := copy_all (σ := B) hi
  exact ⟨fun kk h0 h4 h10 h18 h19 => (d4 kk h0 h10).trans (hB.1 kk h0 h4 h10 h18 h19), fun i' hi' => ⟨(d3 0 i' (Or.inl rfl) (by omega)).trans (hB.2 i' hi').1, (d3 10 i' (Or.inr rfl) (by omega)).trans (hB.2 i' hi').2⟩⟩
theorem Bs.run (hB : Bs σ B) {i t : Nat} (h8 : 8 ≤ i) : Bs σ (s_X7_carryOutRun i t B) := by
  obtain ⟨-, -, -, -, c5, c6⟩ := co_all (c := B) (i := i) (t := t)
  exact ⟨fun kk h0 h4 h10 h18 h19 => (c6 kk h0).trans (hB.1 kk h0 h4 h10 h18 h19), fun i' hi' => ⟨(c5 i' (by omega)).trans (hB.2 i' hi').1, by rw [c6 10 (by decide)]; exact (hB.2 i' hi').2⟩⟩
/-- rows of actors below are as they were -/
def Lo (i : Nat) (B C : Sg) : Prop := ∀ i' : Nat, i' ≤ i → C 0 i' = B 0 i' ∧ C 10 i' = B 10 i'
theorem Ta.low {C : Sg} (hT : Ta σ B p i s) (h : Lo i B C) : Ta σ C p i s := by
  obtain ⟨e0, e10⟩ := h i (Nat.le_refl _)
  unfold Ta
  rw [e0, e10]
  exact hT
end BS
/-! all rows of runs, tried -/
section DF
variable {T P K N : Nat} {σ : Sg} {p q b : Nat}
/-- what a search of a level promises -/
def Dp (σ : Sg) (p i s : Nat) (G : Nat → Prop) (l : Nat) (f : Sg → Int32 × Sg) : Prop := ∀ B : Sg, Bs σ B → Ta σ B p i s → Vs G l (f B).1 ∧ Bs σ (f B).2 ∧ Lo i B (f B).2
theorem df_loop (h : RR T P K N σ) {i l s : Nat} {L : Nat → Nat → Int32 → Sg → Int32 × Sg} {Bh : Nat → Sg → Int32 × Sg} (h0 : ∀ (k : Nat) (v : Int32) (B : Sg), L 0 k v B = (v, B)) (hL : ∀ (n k : Nat) (v : Int32) (B : Sg), L (n + 1) k v B = if (B 7 0 6) ≤ (nI k) then (v, B) else if (Bh k B).1 = (-1) then L n (k + 1) v (Bh k B).2 else if v = (-1) then L n (k + 1) (Bh k B).1 (Bh k B).2 else if v ≤ (Bh k B).1 then L n (k + 1) v (Bh k B).2 else L n (k + 1) (Bh k B).1 (Bh k B).2) (hB : ∀ t : Nat, t < T → Dp σ p i s (fun n => okv σ p s t 2 ∧ Gs σ T p q b n (nxt σ p s t)) (l + 1) (Bh t)) : ∀ (n k : Nat) (v : Int32) (B : Sg), n + k = 13 → k ≤ T → Bs σ B → Ta σ B p i s → Vs (fun n => ∃ t : Nat, t < k ∧ okv σ p s t 2 ∧ Gs σ T p q b n (nxt σ p s t)) (l + 1) v → Vs (fun n => ∃ t : Nat, t < T ∧ okv σ p s t 2 ∧ Gs σ T p q b n (nxt σ p s t)) (l + 1) (L n k v B).1 ∧ Bs σ (L n k v B).2 ∧ Lo i B (L n k v B).2
  | 0, k, v, B, hn, hk, _, _, _ => by
    have := h.b
    omega
  | n + 1, k, v, B, hn, hk, hBs, hT, hV => by
    have hb9 := h.b
    rw [hL]
    have h7 : B 7 0 6 = nI T := by rw [hBs.1 7 (by decide) (by decide) (by decide) (by decide) (by decide)]; exact h.s7.1
    rw [h7]
    by_cases e : k = T
    · rw [if_pos (nI_le (by omega) (by omega))]
      rw [e] at hV
      exact ⟨hV, hBs, fun _ _ => ⟨rfl, rfl⟩⟩
    · rw [if_neg (nI_ge (by omega) (by omega))]
      obtain ⟨a1, a2, a3⟩ := hB k (by omega) B hBs hT
      have hm := hV.min a1
      have hm2 := hm.congr (H := fun n => ∃ t : Nat, t < k + 1 ∧ okv σ p s t 2 ∧ Gs σ T p q b n (nxt σ p s t)) (fun n => by
        constructor
        · rintro (⟨t, t1, t2⟩ | t2)
          · exact ⟨t, by omega, t2⟩
          · exact ⟨k, by omega, t2⟩
        · rintro ⟨t, t1, t2⟩
          by_cases et : t = k
          · subst et; exact Or.inr t2
          · exact Or.inl ⟨t, by omega, t2⟩)
      have go : ∀ w : Int32, w = (if (Bh k B).1 = -1 then v else if v = -1 then (Bh k B).1 else if v ≤ (Bh k B).1 then v else (Bh k B).1) → Vs (fun n => ∃ t : Nat, t < T ∧ okv σ p s t 2 ∧ Gs σ T p q b n (nxt σ p s t)) (l + 1) (L n (k + 1) w (Bh k B).2).1 ∧ Bs σ (L n (k + 1) w (Bh k B).2).2 ∧ Lo i B (L n (k + 1) w (Bh k B).2).2 := fun w hw => by
        obtain ⟨x1, x2, x3⟩ := df_loop h h0 hL hB n (k + 1) w (Bh k B).2 (by omega) (by omega) a2 (hT.low a3) (by rw [hw]; exact hm2)
        exact ⟨x1, x2, fun i' hi => ⟨(x3 i' hi).1.trans (a3 i' hi).1, (x3 i' hi).2.trans (a3 i' hi).2⟩⟩
      by_cases c1 : (Bh k B).1 = -1
      · rw [if_pos c1]
        exact go v (by rw [if_pos c1])
      · rw [if_neg c1]
        by_cases c2 : v = -1
        · rw [if_pos c2]
          exact go _ (by rw [if_neg c1, if_pos c2])
        · rw [if_neg c2]
          by_cases c3 : v ≤ (Bh k B).1
          · rw [if_pos c3]
            exact go v (by rw [if_neg c1, if_neg c2, if_pos c3])
          · rw [if_neg c3]
            exact go _ (by rw [if_neg c1, if_neg c2, if_neg c3])
theorem df_rows (h : RR T P K N σ) (h15 : ∀ x : Nat, x < 6 → σ 15 0 x = σ 14 0 x) (hp : p < P) (hq : q < T) (hb : b < 3) {i l s : Nat} (hs : s < 192) (hl : l ≤ 3) {L : Nat → Nat → Int32 → Sg → Int32 × Sg} {Bh : Nat → Sg → Int32 × Sg} (h0 : ∀ (k : Nat) (v : Int32) (B : Sg), L 0 k v B = (v, B)) (hL : ∀ (n k : Nat) (v : Int32) (B : Sg), L (n + 1) k v B = if (B 7 0 6) ≤ (nI k) then (v, B) else if (Bh k B).1 = (-1) then L n (k + 1) v (Bh k B).2 else if v = (-1) then L n (k + 1) (Bh k B).1 (Bh k B).2 else if v ≤ (Bh k B).1 then L n (k + 1) v (Bh k B).2 else L n (k + 1) (Bh k B).1 (Bh k B).2) (hB : ∀ t : Nat, t < T → Dp σ p i s (fun n => okv σ p s t 2 ∧ Gs σ T p q b n (nxt σ p s t)) (l + 1) (Bh t)) : Dp σ p i s (fun n => Gs σ T p q b n s) l (fun B => if f_X7_judgeAnew i q (nI (2 ^ b)) B = 0 then (nI l, B) else ((L 13 0 (-1) B).1, (L 13 0 (-1) B).2)) := by
  intro B hBs hT
  have hj := h.judA h15 hp hBs hT hs hq hb
  by_cases c : f_X7_judgeAnew i q (nI (2 ^ b)) B = 0
  · simp only [if_pos c]
    exact ⟨Or.inr ⟨0, by omega, rfl, hj.mp c, fun m hm => by omega⟩, hBs, fun _ _ => ⟨rfl, rfl⟩⟩
  · simp only [if_neg c]
    obtain ⟨x1, x2, x3⟩ := df_loop h h0 hL hB 13 0 (-1) B rfl (Nat.zero_le _) hBs hT (Or.inl ⟨rfl, fun n _ ⟨t, t1, _⟩ => by omega⟩)
    refine ⟨?_, x2, x3⟩
    rcases x1 with ⟨a1, a2⟩ | ⟨n, a1, a2, a3, a4⟩
    · refine Or.inl ⟨a1, fun n hn z => ?_⟩
      cases n with
      | zero => exact c (hj.mpr z)
      | succ n => exact a2 n (by omega) z
    · refine Or.inr ⟨n + 1, by omega, by rw [a2]; congr 1; omega, a3, fun m hm z => ?_⟩
      cases m with
      | zero => exact c (hj.mpr z)
      | succ m => exact a4 m (by omega) z
theorem df_behind (h : RR T P K N σ) (h15 : ∀ x : Nat, x < 6 → σ 15 0 x = σ 14 0 x) (hp : p < P) {i l s t : Nat} (hi : 8 ≤ i) (hs : s < 192) (ht : t < T) {F : Sg → Int32 × Sg} (hF : ∀ s' : Nat, s' < 192 → Dp σ p (i + 1) s' (fun n => Gs σ T p q b n s') (l + 1) F) : Dp σ p i s (fun n => okv σ p s t 2 ∧ Gs σ T p q b n (nxt σ p s t)) (l + 1) (fun B => if f_X7_judgeAnew i t 4 B = 0 then ((F (s_X7_carryOutRun (i + 1) t (s_X0_copyFrom (i + 1) i B))).1, (F (s_X7_carryOutRun (i + 1) t (s_X0_copyFrom (i + 1) i B))).2) else ((-1), B)) := by
  intro B hBs hT
  have hb9 := h.b
  have hj : (f_X7_judgeAnew i t 4 B = 0) ↔ okv σ p s t 2 := h.judA h15 hp hBs hT hs ht (b := 2) (by decide)
  by_cases c : f_X7_judgeAnew i t 4 B = 0
  · simp only [if_pos c]
    have T1 := hT.copy (i' := i + 1) (by omega)
    have B1 := hBs.copy (i := i + 1) (o := i) (by omega) (by omega)
    obtain ⟨T2, c5, c6⟩ := h.car hp B1 T1 hs ht
    have B2 := B1.run (i := i + 1) (t := t) (by omega)
    obtain ⟨-, -, -, hn⟩ := h.nx9 (p := p) (s := s) (t := t) (by omega) (by omega) hs
    obtain ⟨x1, x2, x3⟩ := hF _ hn _ B2 T2
    obtain ⟨-, -, d3, -⟩ := copy_all (σ := B) (i := i + 1) (o := i) (by omega)
    refine ⟨x1.congr fun n => ⟨fun z => ⟨hj.mp c, z⟩, fun z => z.2⟩, x2, fun i' hi' => ⟨?_, ?_⟩⟩
    · rw [(x3 i' (by omega)).1, c5 i' (by omega), d3 0 i' (Or.inl rfl) (by omega)]
    · rw [(x3 i' (by omega)).2, c6 10 (by decide), d3 10 i' (Or.inr rfl) (by omega)]
  · simp only [if_neg c]
    exact ⟨Or.inl ⟨rfl, fun n _ z => c (hj.mpr z.1)⟩, hBs, fun _ _ => ⟨rfl, rfl⟩⟩
theorem df_all (h : RR T P K N σ) (h15 : ∀ x : Nat, x < 6 → σ 15 0 x = σ 14 0 x) (hp : p < P) (hq : q < T) (hb : b < 3) {s : Nat} (hs : s < 192) : Dp σ p 8 s (fun n => Gs σ T p q b n s) 0 (f_X7_fewestOfRows_0 q (nI (2 ^ b))) := by
  have d3 : ∀ s : Nat, s < 192 → Dp σ p 11 s (fun n => Gs σ T p q b n s) 3 (f_X7_fewestOfRows_3 q (nI (2 ^ b))) := fun s hs => df_rows h h15 hp hq hb hs (by decide) (fun _ _ _ => rfl) (fun _ _ _ _ => rfl) (Bh := fun k => f_X7_fewestBehind_3 k q (nI (2 ^ b))) (fun t ht B hBs hT => ⟨Or.inl ⟨rfl, fun n hn => by omega⟩, hBs, fun _ _ => ⟨rfl, rfl⟩⟩)
  have d2 : ∀ s : Nat, s < 192 → Dp σ p 10 s (fun n => Gs σ T p q b n s) 2 (f_X7_fewestOfRows_2 q (nI (2 ^ b))) := fun s hs => df_rows h h15 hp hq hb hs (by decide) (fun _ _ _ => rfl) (fun _ _ _ _ => rfl) (Bh := fun k => f_X7_fewestBehind_2 k q (nI (2 ^ b))) (fun t ht => df_behind h h15 hp (by decide) hs ht d3)
  have d1 : ∀ s : Nat, s < 192 → Dp σ p 9 s (fun n => Gs σ T p q b n s) 1 (f_X7_fewestOfRows_1 q (nI (2 ^ b))) := fun s hs => df_rows h h15 hp hq hb hs (by decide) (fun _ _ _ => rfl) (fun _ _ _ _ => rfl) (Bh := fun k => f_X7_fewestBehind_1 k q (nI (2 ^ b))) (fun t ht => df_behind h h15 hp (by decide) hs ht d2)
  exact df_rows h h15 hp hq hb hs (by decide) (fun _ _ _ => rfl) (fun _ _ _ _ => rfl) (Bh := fun k => f_X7_fewestBehind_0 k q (nI (2 ^ b))) (fun t ht => df_behind h h15 hp (by decide) hs ht d1)
end DF
