/-! the verdict found anew -/
theorem anyb_split {P : Nat → Bool} : ∀ (a n : Nat), anyb P (a + n) = (anyb P a || anyb (fun i => P (a + i)) n)
  | a, 0 => by simp [anyb]
  | a, n + 1 => by
    show (anyb P (a + n) || P (a + n)) = (anyb P a || (anyb (fun i => P (a + i)) n || P (a + n)))
    rw [anyb_split a n, Bool.or_assoc]
theorem anyb_0 {P : Nat → Bool} : ∀ {n : Nat}, (∀ i : Nat, i < n → P i = false) → anyb P n = false
  | 0, _ => rfl
  | n + 1, h => by
    show (anyb P n || P n) = false
    rw [anyb_0 (fun i hi => h i (by omega)), h n (by omega)]
    rfl
def allow (o gr : Nat) (m k : Int32) (e : Nat → Int32) (ne : Bool) (u : Nat) (G : Int32) (b : Nat) : Bool :=
  if u = o then bt m (6 + b) else if e u = -1 then (if (bt G gr || anyb (wQ e G) 6) = true then (anyb (wP e G k b) 6 || (bt G gr && (bt m (3 + b) && (ne || bt k b)))) else bt m b) else (bt (e u) b && bt k b)
theorem ways_allow {o gr : Nat} {m k : Int32} {e : Nat → Int32} {ne : Bool} {u : Nat} {G : Int32} {b : Nat} : (0 < ways o gr m k e ne u G b) ↔ allow o gr m k e ne u G b = true := by
  have tn : ∀ c : Bool, 0 < c.toNat ↔ c = true := fun c => by cases c <;> simp
  unfold ways allow
  split
  · exact tn _
  · split
    · split
      · rw [Bool.or_eq_true, ← sw_pos, ← tn (bt G gr && _)]
        omega
      · exact tn _
    · exact tn _
section AL
variable {σ : Sg} {i u : Nat} {G : Int32} {b : Nat}
def eA (e : Nat → Int32) (G : Int32) (s : Nat) : Bool := decide (6 ≤ s) && (pe e s && bt G (s - 6))
def eB (e : Nat → Int32) (G k : Int32) (b s : Nat) : Bool := eA e G s && (bt (e s) b && bt k b)
theorem al16 (uu g r : Int32) (n k : Nat) (v4 v5 v6 v7 : Int32) : f_X5_allowsAnew_L16 i uu g r (n + 1) k v4 v5 v6 v7 σ = if 12 ≤ (nI k) then (v4, v5, v6, v7) else if (σ 20 i k) = (-1) then f_X5_allowsAnew_L16 i uu g r n (k + 1) v4 v5 v6 v7 σ else if (nI k) = uu then (if (nI k) < 6 then f_X5_allowsAnew_L16 i uu g r n (k + 1) v4 (σ 5 i 6) (σ 20 i k) v7 σ else if ((g >>> (((nI k) - (6 : Int32)) &&& 31)) &&& (1 : Int32)) = 0 then f_X5_allowsAnew_L16 i uu g r n (k + 1) v4 (σ 5 i 6) (σ 20 i k) v7 σ else f_X5_allowsAnew_L16 i uu g r n (k + 1) (v4 ||| ((σ 20 i k) &&& (σ 5 i 6))) (σ 5 i 6) (σ 20 i k) 1 σ) else if (nI k) < 6 then f_X5_allowsAnew_L16 i uu g r n (k + 1) v4 (σ 5 i 6) v6 v7 σ else if ((g >>> (((nI k) - (6 : Int32)) &&& 31)) &&& (1 : Int32)) = 0 then f_X5_allowsAnew_L16 i uu g r n (k + 1) v4 (σ 5 i 6) v6 v7 σ else f_X5_allowsAnew_L16 i uu g r n (k + 1) (v4 ||| ((σ 20 i k) &&& (σ 5 i 6))) (σ 5 i 6) v6 1 σ := rfl
def Al (σ : Sg) (i u : Nat) (G : Int32) (b k : Nat) (x : Int32 × Int32 × Int32 × Int32) : Prop := bt x.1 b = anyb (eB (σ 20 i) G (σ 5 i 6) b) k ∧ x.2.1 = (if anyb (pe (σ 20 i)) k = true then σ 5 i 6 else 7) ∧ x.2.2.1 = (if u < k then σ 20 i u else -1) ∧ x.2.2.2 = bI (anyb (eA (σ 20 i) G) k)
theorem al_all (hu : u < 6) : ∀ (n k : Nat) (v4 v5 v6 v7 : Int32), n + k = 13 → k ≤ 12 → Al σ i u G b k (v4, v5, v6, v7) → Al σ i u G b 12 (f_X5_allowsAnew_L16 i (nI u) G (nI (2 ^ b)) n k v4 v5 v6 v7 σ)
  | 0, k, v4, v5, v6, v7, hn, hk, _ => by omega
  | n + 1, k, v4, v5, v6, v7, hn, hk, hA => by
    rw [al16]
    by_cases hk12 : k = 12
    · rw [if_pos (by rw [hk12]; decide)]
      rw [hk12] at hA
      exact hA
    · have hk2 : k < 12 := by omega
      obtain ⟨a1, a2, a3, a4⟩ := hA
      have sB : anyb (eB (σ 20 i) G (σ 5 i 6) b) (k + 1) = (anyb (eB (σ 20 i) G (σ 5 i 6) b) k || eB (σ 20 i) G (σ 5 i 6) b k) := rfl
      have sA : anyb (eA (σ 20 i) G) (k + 1) = (anyb (eA (σ 20 i) G) k || eA (σ 20 i) G k) := rfl
      have sP : anyb (pe (σ 20 i)) (k + 1) = (anyb (pe (σ 20 i)) k || pe (σ 20 i) k) := rfl
      rw [if_neg (show ¬ (12 : Int32) ≤ nI k from nI_ge (b := 12) hk2 (by decide))]
      by_cases h0 : σ 20 i k = -1
      · have p0 : pe (σ 20 i) k = false := by simp [pe, h0]
        have A0 : eA (σ 20 i) G k = false := by simp [eA, p0]
        have B0 : eB (σ 20 i) G (σ 5 i 6) b k = false := by simp [eB, A0]
        rw [if_pos h0]
        refine al_all hu n (k + 1) v4 v5 v6 v7 (by omega) (by omega) ⟨?_, ?_, ?_, ?_⟩
        · rw [sB, B0, Bool.or_false]; exact a1
        · rw [sP, p0, Bool.or_false]; exact a2
        · show v6 = _
          rw [show v6 = _ from a3]
          by_cases e : u = k
          · subst e
            rw [if_neg (by omega), if_pos (by omega), h0]
          · by_cases q : u < k
            · rw [if_pos q, if_pos (by omega)]
            · rw [if_neg q, if_neg (by omega)]
        · rw [sA, A0, Bool.or_false]; exact a4
      · have p1 : pe (σ 20 i) k = true := by simp [pe, h0]
        rw [if_neg h0]
        have c2 : σ 5 i 6 = (if anyb (pe (σ 20 i)) (k + 1) = true then σ 5 i 6 else 7) := by rw [sP, p1, Bool.or_true, if_pos rfl]
        have cE : nI k = nI u ↔ k = u := nI_eq (by omega) (by omega)
        have cL : nI k < 6 ↔ k < 6 := nI_ltI (b := 6) (by omega) (by decide)
        have v6E : (if k = u then σ 20 i k else v6) = (if u < k + 1 then σ 20 i u else -1) := by
          by_cases e : k = u
          · rw [if_pos e, if_pos (by omega), e]
          · rw [if_neg e, show v6 = _ from a3]
            by_cases q : u < k
            · rw [if_pos q, if_pos (by omega)]
            · rw [if_neg q, if_neg (by omega)]
        by_cases h6 : k < 6
        · have A0 : eA (σ 20 i) G k = false := by simp [eA, show ¬ 6 ≤ k by omega]
          have B0 : eB (σ 20 i) G (σ 5 i 6) b k = false := by simp [eB, A0]
          have go : ∀ w6 : Int32, w6 = (if k = u then σ 20 i k else v6) → Al σ i u G b 12 (f_X5_allowsAnew_L16 i (nI u) G (nI (2 ^ b)) n (k + 1) v4 (σ 5 i 6) w6 v7 σ) := fun w6 hw => al_all hu n (k + 1) v4 (σ 5 i 6) w6 v7 (by omega) (by omega) ⟨by rw [sB, B0, Bool.or_false]; exact a1, c2, hw.trans v6E, by rw [sA, A0, Bool.or_false]; exact a4⟩
          by_cases e : k = u
          · rw [if_pos (cE.mpr e), if_pos (cL.mpr h6)]
            exact go _ (by rw [if_pos e])
          · rw [if_neg (fun q => e (cE.mp q)), if_pos (cL.mpr h6)]
            exact go _ (by rw [if_neg e])
        · have hk6 : nI k - (6 : Int32) = nI (k - 6) := pk_sub (b := 6) (by omega)
          have e : ¬ k = u := by omega
          rw [if_neg (fun q => e (cE.mp q)), if_neg (fun q => h6 (cL.mp q)), hk6, hb_bt G (k - 6) (by omega)]
          rw [if_neg e] at v6E
          cases e9 : bt G (k - 6)
          · have A0 : eA (σ 20 i) G k = false := by simp [eA, e9]
            have B0 : eB (σ 20 i) G (σ 5 i 6) b k = false := by simp [eB, A0]
            rw [z0F]
            exact al_all hu n (k + 1) v4 (σ 5 i 6) v6 v7 (by omega) (by omega) ⟨by rw [sB, B0, Bool.or_false]; exact a1, c2, v6E, by rw [sA, A0, Bool.or_false]; exact a4⟩
          · have A1 : eA (σ 20 i) G k = true := by simp [eA, p1, e9]; omega
            have B1 : eB (σ 20 i) G (σ 5 i 6) b k = (bt (σ 20 i k) b && bt (σ 5 i 6) b) := by simp [eB, A1]
            rw [z1T]
            refine al_all hu n (k + 1) _ (σ 5 i 6) v6 1 (by omega) (by omega) ⟨?_, c2, v6E, ?_⟩
            · rw [sB, B1, ← b_and]
              show bt (v4 ||| _) b = _
              rw [b_or, show bt v4 b = _ from a1]
            · rw [sA, A1, Bool.or_true]
              rfl
theorem eA_6 (e : Nat → Int32) (G : Int32) : anyb (eA e G) 12 = anyb (wQ e G) 6 := by
  rw [show 12 = 6 + 6 from rfl, anyb_split 6 6, anyb_0 (n := 6) (fun i hi => by simp [eA, show ¬ 6 ≤ i by omega]), Bool.false_or]
  exact anyb_congr fun i _ => by simp [eA, wQ]
theorem eB_6 (e : Nat → Int32) (G k : Int32) (b : Nat) : anyb (eB e G k b) 12 = anyb (wP e G k b) 6 := by
  rw [show 12 = 6 + 6 from rfl, anyb_split 6 6, anyb_0 (n := 6) (fun i hi => by simp [eB, eA, show ¬ 6 ≤ i by omega]), Bool.false_or]
  exact anyb_congr fun i _ => by simp [eB, eA, wP, wQ]
theorem allows_eq {o gr : Nat} (ho : o < 6) (hg : gr < 6) (hu : u < 6) (hb : b < 3) (h0 : σ 5 i 0 = nI o) (h1 : σ 5 i 1 = nI gr) : f_X5_allowsAnew i (nI u) G (nI (2 ^ b)) σ = bI (allow o gr (σ 5 i 2) (σ 5 i 6) (σ 20 i) (!anyb (pe (σ 20 i)) 12) u G b) := by
  have s6 : bt ((σ 5 i 2) >>> ((6 : Int32) &&& 31)) b = bt (σ 5 i 2) (6 + b) := sh_bt _ (n := 6) (by omega)
  have s3 : bt ((σ 5 i 2) >>> ((3 : Int32) &&& 31)) b = bt (σ 5 i 2) (3 + b) := sh_bt _ (n := 3) (by omega)
  have s0 : bt ((σ 5 i 2) >>> ((0 : Int32) &&& 31)) b = bt (σ 5 i 2) b := by
    have := sh_bt (σ 5 i 2) (n := 0) (b := b) (by omega)
    rw [Nat.zero_add] at this
    exact this
  obtain ⟨a1, a2, a3, a4⟩ := al_all (σ := σ) (i := i) (G := G) (b := b) hu 13 0 0 7 (-1) 0 rfl (by omega) ⟨by rw [b_0]; rfl, rfl, rfl, rfl⟩
  rw [if_pos (by omega)] at a3
  rw [eA_6] at a4
  rw [eB_6] at a1
  have m5 : bt (if anyb (pe (σ 20 i)) 12 = true then σ 5 i 6 else 7) b = (!anyb (pe (σ 20 i)) 12 || bt (σ 5 i 6) b) := by
    cases anyb (pe (σ 20 i)) 12
    · rw [if_neg (by decide), b7 b hb]; rfl
    · rw [if_pos rfl]; rfl
  rw [f_X5_allowsAnew, a2, a3, a4, f_X5_allowsAnew_K16, h0, h1, hb_bt G gr (by omega), allow]
  generalize hx : (f_X5_allowsAnew_L16 i (nI u) G (nI (2 ^ b)) 13 0 0 7 (-1) 0 σ).1 = x at a1
  simp only [iteb _ (show b < 32 by omega), b_and, b_or, s6, s3, s0, m5, a1]
  by_cases e1 : u = o
  · have e1' : nI u = nI o := by rw [e1]
    simp only [if_pos e1, if_pos e1', ite_self]
  · have e1' : ¬ nI u = nI o := fun q => e1 ((nI_eq (by omega) (by omega)).mp q)
    simp only [if_neg e1, if_neg e1']
    by_cases e2 : σ 20 i u = -1
    · simp only [if_pos e2]
      cases e3 : bt G gr
      · rw [z0F]
        cases e4 : anyb (wQ (σ 20 i) G) 6
        · rw [if_pos (show bI false = 0 from rfl)]
          simp
        · rw [if_neg (show ¬ bI true = 0 by decide)]
          simp
      · rw [z1T]
        simp
    · simp only [if_neg e2, ite_self]
end AL
section JA
variable {T P K N : Nat} {σ : Sg}
theorem En.none {m : Sg} {t n : Nat} {sj : Nat → Nat} {e : Nat → Int32} {hd : Int32} (h : En m t n sj e hd) : decide (n = 0) = !anyb (pe e) 12 := by
  by_cases hn : n = 0
  · subst hn
    rw [anyb_0 (fun i hi => by rw [h.pz hi]; rfl)]
    rfl
  · rw [decide_eq_false hn]
    have : anyb (pe e) 12 = true := anyb_iff.mpr ⟨sj 0, (h.1 0 (by omega)).1, by rw [h.pz (h.1 0 (by omega)).1]; exact anyb_iff.mpr ⟨0, by omega, by simp⟩⟩
    rw [this]
    rfl
theorem lpA5 (i : Nat) (n k : Nat) (v : Int32) : f_X0_letPassAnew_L5 i (n + 1) k v σ = if 3 ≤ (nI k) then v else if (σ 0 i 6) ≤ (nI k) then v else f_X0_letPassAnew_L5 i n (k + 1) (v &&& (σ 10 i k)) σ := rfl
theorem lp5_all {i c : Nat} (hc : c ≤ 3) (h6 : σ 0 i 6 = nI c) : ∀ (n k : Nat), n + k = 4 → k ≤ c → f_X0_letPassAnew_L5 i n k (lpf (σ 10 i) k) σ = lpf (σ 10 i) c
  | 0, k, hn, hk => by omega
  | n + 1, k, hn, hk => by
    rw [lpA5]
    by_cases e : k = c
    · rw [e]
      by_cases q : c = 3
      · rw [if_pos (by rw [q]; decide)]
      · rw [if_neg (show ¬ (3 : Int32) ≤ nI c from nI_ge (b := 3) (by omega) (by decide)), h6, if_pos (nI_le (Nat.le_refl _) (by omega))]
    · rw [if_neg (show ¬ (3 : Int32) ≤ nI k from nI_ge (b := 3) (by omega) (by decide)), h6, if_neg (nI_ge (by omega) (by omega))]
      exact lp5_all hc h6 n (k + 1) (by omega) (by omega)
theorem letPass_eq {i : Nat} (h : ∃ c : Nat, c ≤ 3 ∧ σ 0 i 6 = nI c ∧ σ 0 i 7 = lpf (σ 10 i) c) : f_X0_letPassAnew i σ = σ 0 i 7 := by
  obtain ⟨c, c1, c2, c3⟩ := h
  rw [c3]
  exact lp5_all c1 c2 4 0 rfl (by omega)
theorem RR.jAnew (h : RR T P K N σ) (h15 : ∀ x : Nat, x < 6 → σ 15 0 x = σ 14 0 x) {i t b : Nat} (hu : nb 6 (σ 0 i 0)) (hf : ∃ c : Nat, c ≤ 3 ∧ σ 0 i 6 = nI c ∧ σ 0 i 7 = lpf (σ 10 i) c) (ht : t < T) (hb : b < 3) : f_X7_judgeAnew i t (nI (2 ^ b)) σ = f_X7_judge i t (nI (2 ^ b)) σ := by
  have hB := h.b
  obtain ⟨u, u1, u2⟩ := hu
  have hg : f_X2_groupsOf (nI u) σ = σ 14 0 u := by
    rw [f_X2_groupsOf, if_neg (nI_pos (by omega)), if_pos (show nI u < 6 from nI_lt (b := 6) u1 (by decide)), nI_clamp (by omega)]
  have hg2 : f_X2_groupsFoundAnew (nI u) σ = σ 14 0 u := by
    rw [f_X2_groupsFoundAnew, if_neg (nI_pos (by omega)), if_pos (show nI u < 6 from nI_lt (b := 6) u1 (by decide)), nI_clamp (by omega), h15 u u1]
  obtain ⟨w, w1, w2, w3, o, gr, n, o1, g1, o2, g2, n2, n3, w4⟩ := h.wy (b := b) ht u1 hb
  obtain ⟨n', sj, n1', n2', n3', he⟩ := h.en (t := t) (by omega)
  have nn : n' = n := (nI_eq (by omega) (by omega)).mp (n3'.symm.trans n2)
  subst nn
  have ea := allows_eq (σ := σ) (i := t) (u := u) (G := σ 14 0 u) (b := b) o1 g1 u1 hb o2 g2
  rw [← he.none] at ea
  have eq0 : (f_X5_allowsAnew t (nI u) (σ 14 0 u) (nI (2 ^ b)) σ = 0) ↔ (f_X5_countWays t (nI u) (σ 14 0 u) (nI (2 ^ b)) σ = 0) := by
    rw [ea, w2, bI_0]
    constructor
    · intro q
      have : w = 0 := Nat.eq_zero_of_not_pos fun z => by
        rw [w4] at z
        rw [ways_allow.mp z] at q
        exact absurd q (by decide)
      rw [this]; rfl
    · intro q
      have : w = 0 := by
        refine Classical.byContradiction fun z => ?_
        exact nI_ne0 (by omega) (by omega) q
      cases z : allow o gr (σ 5 t 2) (σ 5 t 6) (σ 20 t) (decide (n' = 0)) u (σ 14 0 u) b
      · rfl
      · have := ways_allow.mpr z
        omega
  rw [f_X7_judgeAnew, f_X7_judge, u2, hg, hg2, letPass_eq hf]
  by_cases c1 : f_X5_countWays t (nI u) (σ 14 0 u) (nI (2 ^ b)) σ = 0
  · rw [if_pos c1, if_pos (eq0.mpr c1)]
  · rw [if_neg c1, if_neg (fun q => c1 (eq0.mp q))]
end JA
theorem RR.fresh15 {T P K N : Nat} {σ : Sg} (h : RR T P K N σ) : RR T P K N (s_X2_findAnew σ) ∧ ∀ x : Nat, x < 6 → s_X2_findAnew σ 15 0 x = s_X2_findAnew σ 14 0 x := by
  have fk : ∀ kk : Nat, kk ≠ 15 → s_X2_findAnew σ kk = σ kk := fun kk hk => fr_X2_findAnew hk
  refine ⟨h.sc (fun kk i hs => ?_) (fun j _ => by rw [fk 8 (by decide)]), fun x hx => ?_⟩
  · simp [scr] at hs
    rw [fk kk (by omega)]
  · rw [fk 14 (by decide)]
    exact h.anew hx
theorem st_verdictAnew {σ : Sg} (h : RS σ) (k t r : Int32) : OKc (f_L_verdictAnew k t r σ) (f_X8_verdictAnew k t r) := by
  obtain ⟨T, P, K, N, hR⟩ := id h
  rcases hR.why2 k t r with ⟨p, q, b, hp, hq, hb, rfl, rfl, rfl, e1, e2, e3, w⟩ | ⟨e1, w⟩ | ⟨e1, e2, w⟩ | ⟨e1, e2, e3, w⟩
  rotate_left
  · exact OKc.er (c := 1) (x := 0) h (by decide) (by simp [f_L_verdictAnew, m_X7_verdictAnew, nd, e1]) (by simp [f_X8_verdictAnew, f_X8_verdict, w, f_X8_rf])
  · exact OKc.er (c := 1) (x := 0) h (by decide) (by simp [f_L_verdictAnew, m_X7_verdictAnew, nd, e1, e2]) (by simp [f_X8_verdictAnew, f_X8_verdict, w, f_X8_rf])
  · exact OKc.er (c := 2) (x := 0) h (by decide) (by simp [f_L_verdictAnew, m_X7_verdictAnew, nd, e1, e2, e3]) (by simp [f_X8_verdictAnew, f_X8_verdict, w, f_X8_rf])
  have hB := hR.b
  obtain ⟨hR2, h15⟩ := hR.fresh15
  obtain ⟨τ, hτ⟩ : ∃ τ, τ = s_X2_findAnew σ := ⟨_, rfl⟩
  rw [← hτ] at hR2 h15
  have w2 : f_X8_whyNoVerdict (nI p) (nI q) (nI (2 ^ b)) τ = 0 := by
    rw [← w, f_X8_whyNoVerdict, f_X8_whyNoVerdict, f_X8_isProcess, f_X8_isProcess, f_X8_isThing, f_X8_isThing, hτ, fr_X2_findAnew (show 8 ≠ 15 by decide)]
  obtain ⟨-, -, ⟨n0, -⟩, nf, -⟩ := hR2.2.2.2.2.2.1 p (by omega)
  have ej := hR2.jAnew h15 (i := p) n0 nf hq hb
  refine OKc.ok (τ := τ) (x := f_X7_judge p q (nI (2 ^ b)) τ) (τ' := us (us τ 90 0 0 (f_X7_judge p q (nI (2 ^ b)) τ)) 8 0 0 0) ?_ ?_ rfl ⟨T, P, K, N, hR2⟩
  · simp [f_L_verdictAnew, m_X7_verdictAnew, nd, e1, e2, e3, nI_clamp (show p < 2 ^ 31 by omega), nI_clamp (show q < 2 ^ 31 by omega), ← hτ, ej]
  · have hq9 : RR T P K N (us (us τ 90 0 0 (f_X7_judge p q (nI (2 ^ b)) τ)) 8 0 0 0) := hR2
    have k1 : f_X8_whyNoVerdict (nI p) (nI q) (nI (2 ^ b)) (us τ 90 0 0 (f_X7_judge p q (nI (2 ^ b)) τ)) = 0 := w2
    have e9 : f_X7_judge p q (nI (2 ^ b)) (us (us τ 90 0 0 (f_X7_judge p q (nI (2 ^ b)) τ)) 8 0 0 0) = f_X7_judge p q (nI (2 ^ b)) τ := judge_congr rfl rfl rfl rfl rfl
    rw [f_X8_verdictAnew, f_X8_verdict, k1, if_pos (show f_X8_rf 0 = 0 from rfl), hq9.now hp hq hb, e9]
