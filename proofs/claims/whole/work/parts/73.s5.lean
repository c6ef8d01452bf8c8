/-! entries: by subjects on one side, in rows of five on the other -/
theorem Ren.cg {cnt hd : Int32} {e : Nat → Int32} {ml : Int32} {wh ig ha dn wh' ig' ha' dn' : Nat → Int32} (h : Ren cnt hd e ml wh ig ha dn) (hk : ∀ k : Nat, k < 5 → wh' k = wh k ∧ ig' k = ig k ∧ ha' k = ha k ∧ dn' k = dn k) : Ren cnt hd e ml wh' ig' ha' dn' := by
  obtain ⟨n, n1, n2, n3, sj, s1, s2⟩ := h
  refine ⟨n, n1, n2, n3, sj, fun k hk9 => ?_, s2⟩
  obtain ⟨a, b, c, d⟩ := hk k (by omega)
  rw [a, b, c, d]
  exact s1 k hk9
theorem Rth.cg {T t : Nat} {f e : Nat → Int32} {ow gr mo ty le ca ma ml : Int32} {wh ig ha dn wh' ig' ha' dn' : Nat → Int32} (h : Rth T t f e ow gr mo ty le ca ma ml wh ig ha dn) (hk : ∀ k : Nat, k < 5 → wh' k = wh k ∧ ig' k = ig k ∧ ha' k = ha k ∧ dn' k = dn k) : Rth T t f e ow gr mo ty le ca ma ml wh' ig' ha' dn' := by
  obtain ⟨a, b, c, d, g⟩ := h
  exact ⟨a, b, c, d.cg hk, g⟩
theorem clr_bt (v : Int32) {s : Nat} (hs : s < 32) {b : Nat} (hb : b < 32) : bt (v &&& (((1 : Int32) <<< (nI s &&& 31)) ^^^ (-1 : Int32))) b = (bt v b && !decide (b = s)) := by
  rw [b_and, b_xor, bt_bit s hs hb, b_m1 b hb]
  simp
section PE
variable {σ : Sg} {i s : Nat} {r d : Int32}
/-- by how much the count changes -/
def dc (r e : Int32) : Int32 := if r = -1 then (if e = -1 then 0 else -1) else (if e = -1 then 1 else 0)
theorem pe_spec (hs : s < 12) : (∀ j : Nat, s_X5_putEntry i (nI s) r d σ 20 i j = if j = s then r else σ 20 i j) ∧ s_X5_putEntry i (nI s) r d σ 5 i 7 = σ 5 i 7 + dc r (σ 20 i s) ∧ (∀ b : Nat, b < 32 → bt (s_X5_putEntry i (nI s) r d σ 5 i 8) b = if b = s then decide (d ≠ 0 ∧ r ≠ -1) else bt (σ 5 i 8) b) ∧ (∀ j : Nat, j ≠ 7 → j ≠ 8 → s_X5_putEntry i (nI s) r d σ 5 i j = σ 5 i j) ∧ (∀ i' : Nat, i' ≠ i → s_X5_putEntry i (nI s) r d σ 5 i' = σ 5 i' ∧ s_X5_putEntry i (nI s) r d σ 20 i' = σ 20 i') ∧ ∀ kk : Nat, kk ≠ 5 → kk ≠ 20 → s_X5_putEntry i (nI s) r d σ kk = σ kk := by
  have g0 : ¬ nI s < 0 := nI_pos (by omega)
  have g1 : nI s < 12 := nI_lt (b := 12) hs (by decide)
  have g2 : (nI s).toNatClampNeg = s := nI_clamp (by omega)
  obtain ⟨X, hX⟩ : ∃ X, X = us (us (us σ 5 i 7 (σ 5 i 7 + dc r (σ 20 i s))) 20 i s r) 5 i 8 ((σ 5 i 8) &&& (((1 : Int32) <<< (nI s &&& 31)) ^^^ (-1 : Int32))) := ⟨_, rfl⟩
  have key : s_X5_putEntry i (nI s) r d σ = if d = 0 ∨ r = -1 then X else us X 5 i 8 (((σ 5 i 8) &&& (((1 : Int32) <<< (nI s &&& 31)) ^^^ (-1 : Int32))) ||| ((1 : Int32) <<< (nI s &&& 31))) := by
    rw [s_X5_putEntry, if_neg g0, if_pos g1, g2, hX, dc]
    by_cases h1 : r = -1 <;> by_cases h2 : σ 20 i s = -1 <;> by_cases h3 : d = 0 <;> simp only [h1, h2, h3, if_true, if_false, or_true, true_or, or_false, false_or]
  have X8 : ∀ b : Nat, b < 32 → bt (X 5 i 8) b = (bt (σ 5 i 8) b && !decide (b = s)) := fun b hb => by
    rw [hX, us_h]
    exact clr_bt _ (by omega) hb
  have X20 : ∀ j : Nat, X 20 i j = if j = s then r else σ 20 i j := fun j => by
    rw [hX, us_k (by decide)]
    by_cases e : j = s
    · rw [if_pos e, e, us_h]
    · rw [if_neg e, us_j e, us_k (by decide)]
  have X7 : X 5 i 7 = σ 5 i 7 + dc r (σ 20 i s) := by
    rw [hX, us_j (by decide), us_k (by decide), us_h]
  have Xo : ∀ j : Nat, j ≠ 7 → j ≠ 8 → X 5 i j = σ 5 i j := fun j h7 h8 => by
    rw [hX, us_j h8, us_k (by decide), us_j h7]
  have Xi : ∀ i' : Nat, i' ≠ i → X 5 i' = σ 5 i' ∧ X 20 i' = σ 20 i' := fun i' hi => by
    constructor
    · funext j
      rw [hX, us_i hi, us_k (by decide), us_i hi]
    · funext j
      rw [hX, us_k (by decide), us_i hi, us_k (by decide)]
  have Xk : ∀ kk : Nat, kk ≠ 5 → kk ≠ 20 → X kk = σ kk := fun kk h5 h20 => by
    rw [hX, us_kk h5, us_kk h20, us_kk h5]
  rw [key]
  by_cases hd : d = 0 ∨ r = -1
  · rw [if_pos hd]
    refine ⟨X20, X7, fun b hb => ?_, Xo, Xi, Xk⟩
    rw [X8 b hb]
    have : decide (d ≠ 0 ∧ r ≠ -1) = false := decide_eq_false fun q => hd.elim q.1 q.2
    by_cases e : b = s
    · rw [if_pos e, this]; simp [e]
    · rw [if_neg e]; simp [e]
  · rw [if_neg hd]
    refine ⟨fun j => by rw [us_k (by decide)]; exact X20 j, by rw [us_j (by decide)]; exact X7, fun b hb => ?_, fun j h7 h8 => by rw [us_j h8]; exact Xo j h7 h8, fun i' hi => ⟨?_, ?_⟩, fun kk h5 h20 => by rw [us_kk h5]; exact Xk kk h5 h20⟩
    · have : decide (d ≠ 0 ∧ r ≠ -1) = true := decide_eq_true ⟨fun q => hd (Or.inl q), fun q => hd (Or.inr q)⟩
      rw [us_h, bt_set _ s (by omega) hb, clr_bt _ (by omega) hb]
      by_cases e : b = s
      · rw [if_pos e, this]; simp [e]
      · rw [if_neg e]; simp [e]
    · funext j
      rw [us_i hi, (Xi i' hi).1]
    · rw [us_kk (by decide)]
      exact (Xi i' hi).2
end PE
theorem En.cg {c m : Sg} {t n : Nat} {sj : Nat → Nat} {e : Nat → Int32} {hd : Int32} (h : En c t n sj e hd) (e42 : m 42 0 = c 42 0) (e43 : m 43 0 = c 43 0) (e44 : m 44 0 = c 44 0) (e45 : m 45 0 = c 45 0) : En m t n sj e hd := by
  unfold En
  rw [e42, e43, e44, e45]
  exact h
/-- the row of five, closed over one place -/
theorem sh188 {k9 t b u r d : Int32} {t0 n : Nat} (ht : t = nI t0) (ht0 : t0 < 12) (hn : n ≤ 5) : ∀ (f k : Nat) (σ : Sg), σ 41 0 t0 = nI n → n ≤ f + k → k < n → (∀ kk : Nat, kk = 42 ∨ kk = 43 ∨ kk = 44 ∨ kk = 45 → ∀ i : Nat, f_X8_entry_L188 k9 t b u r d f k σ kk 0 i = if 5 * t0 + k ≤ i ∧ i + 1 < 5 * t0 + n then σ kk 0 (i + 1) else σ kk 0 i) ∧ ∀ kk : Nat, kk ≠ 42 → kk ≠ 43 → kk ≠ 44 → kk ≠ 45 → f_X8_entry_L188 k9 t b u r d f k σ kk = σ kk
  | 0, k, σ, h41, hf, hk => by omega
  | f + 1, k, σ, h41, hf, hk => by
    have e1 : f_X8_entry_L188 k9 t b u r d (f + 1) k σ = if (σ 41 0 t.toNatClampNeg) ≤ ((nI k) + (1 : Int32)) then σ else f_X8_entry_L188 k9 t b u r d f (k + 1) (us (us (us (us σ 43 0 ((((((5 : Int32) * t) + (nI k)) + (1 : Int32)) - (1 : Int32)).toNatClampNeg) (σ 43 0 (((((5 : Int32) * t) + (nI k)) + (1 : Int32)).toNatClampNeg))) 42 0 ((((((5 : Int32) * t) + (nI k)) + (1 : Int32)) - (1 : Int32)).toNatClampNeg) (σ 42 0 (((((5 : Int32) * t) + (nI k)) + (1 : Int32)).toNatClampNeg))) 44 0 ((((((5 : Int32) * t) + (nI k)) + (1 : Int32)) - (1 : Int32)).toNatClampNeg) (σ 44 0 (((((5 : Int32) * t) + (nI k)) + (1 : Int32)).toNatClampNeg))) 45 0 ((((((5 : Int32) * t) + (nI k)) + (1 : Int32)) - (1 : Int32)).toNatClampNeg) (σ 45 0 (((((5 : Int32) * t) + (nI k)) + (1 : Int32)).toNatClampNeg))) := rfl
    have i0 : (((5 : Int32) * t) + (nI k)) = nI (5 * t0 + k) := by
      rw [ht, show (5 : Int32) * nI t0 = nI (5 * t0) from pk_mul 5 t0, nI_add]
    have i1 : ((((5 : Int32) * t) + (nI k)) + (1 : Int32)).toNatClampNeg = 5 * t0 + k + 1 := by
      rw [i0, nI_1, nI_clamp (by omega)]
    have i2 : (((((5 : Int32) * t) + (nI k)) + (1 : Int32)) - (1 : Int32)).toNatClampNeg = 5 * t0 + k := by
      rw [i0, nI_1, nI_pred, nI_clamp (by omega)]
    rw [e1, ht, nI_clamp (by omega), h41, nI_1, ← ht, i1, i2]
    by_cases hkn : n ≤ k + 1
    · rw [if_pos (nI_le hkn (by omega))]
      exact ⟨fun kk _ i => by rw [if_neg (by omega)], fun _ _ _ _ _ => rfl⟩
    · rw [if_neg (nI_ge (show k + 1 < n by omega) (by omega))]
      obtain ⟨ih1, ih2⟩ := sh188 (k9 := k9) (b := b) (u := u) (r := r) (d := d) ht ht0 hn f (k + 1) (us (us (us (us σ 43 0 (5 * t0 + k) (σ 43 0 (5 * t0 + k + 1))) 42 0 (5 * t0 + k) (σ 42 0 (5 * t0 + k + 1))) 44 0 (5 * t0 + k) (σ 44 0 (5 * t0 + k + 1))) 45 0 (5 * t0 + k) (σ 45 0 (5 * t0 + k + 1))) h41 (by omega) (by omega)
      refine ⟨fun kk hkk i => ?_, fun kk h1 h2 h3 h4 => by rw [ih2 kk h1 h2 h3 h4, us_kk h4, us_kk h3, us_kk h1, us_kk h2]⟩
      have rowv : ∀ j : Nat, us (us (us (us σ 43 0 (5 * t0 + k) (σ 43 0 (5 * t0 + k + 1))) 42 0 (5 * t0 + k) (σ 42 0 (5 * t0 + k + 1))) 44 0 (5 * t0 + k) (σ 44 0 (5 * t0 + k + 1))) 45 0 (5 * t0 + k) (σ 45 0 (5 * t0 + k + 1)) kk 0 j = if j = 5 * t0 + k then σ kk 0 (5 * t0 + k + 1) else σ kk 0 j := fun j => by
        by_cases e : j = 5 * t0 + k
        · rw [if_pos e, e]
          rcases hkk with rfl | rfl | rfl | rfl <;> simp [us]
        · rw [if_neg e]
          rcases hkk with rfl | rfl | rfl | rfl <;> simp [us, e]
      rw [ih1 kk hkk i, rowv i, rowv (i + 1)]
      by_cases c : 5 * t0 + (k + 1) ≤ i ∧ i + 1 < 5 * t0 + n
      · rw [if_pos c, if_neg (by omega), if_pos (by omega)]
      · rw [if_neg c]
        by_cases e : i = 5 * t0 + k
        · rw [if_pos e, if_pos (by omega), e]
        · rw [if_neg e, if_neg (by omega)]
theorem b01 {b : Int32} (h : b = 0 ∨ b = 1) : b &&& 1 = b := by rcases h with rfl | rfl <;> decide
set_option maxHeartbeats 2000000 in
theorem st_entry {σ : Sg} (h : RS σ) (k t b u v d : Int32) (hb : b = 0 ∨ b = 1) (hd : d = 0 ∨ d = 1) : OKc (f_L_entry k t b u v d σ) (f_X8_entry k t b u v d) := by
  obtain ⟨T, P, K, N, hR⟩ := id h
  have hB := hR.b
  have hbb : ∀ {α : Type} (A B C : α), (if b = 0 then (if b = 0 then A else B) else (if b = 0 then B else C)) = if b = 0 then A else C := fun A B C => by
    by_cases q : b = 0 <;> simp [q]
  rcases hR.act k with ⟨p, hp, rfl, e1, w1⟩ | ⟨e1, w1⟩
  rotate_left
  · exact OKc.er (c := 1) (x := 0) h (by decide) (by simp [f_L_entry, m_X7_entry, nd, e1]) (by simp [f_X8_entry, w1])
  rcases hR.thi t with ⟨t, ht, rfl, e2, w2⟩ | ⟨e2, w2⟩
  rotate_left
  · exact OKc.er (c := 1) (x := 0) h (by decide) (by simp [f_L_entry, m_X7_entry, nd, e1, e2]) (by simp [f_X8_entry, w1, w2])
  rcases c_six u with ⟨u, hu, rfl, e3, w3⟩ | ⟨e3, w3⟩
  rotate_left
  · exact OKc.er (c := 1) (x := 0) h (by decide) (by simp [f_L_entry, m_X7_entry, nd, e1, e2, e3]) (by simp [f_X8_entry, w1, w2, w3])
  have cp : (nI p).toNatClampNeg = p := nI_clamp (by omega)
  have ct : (nI t).toNatClampNeg = t := nI_clamp (by omega)
  rcases c_range v (-1) 7 with ⟨⟨v1, v2⟩, e4, w4⟩ | ⟨e4, w4⟩
  rotate_left
  · exact OKc.er (c := 2) (x := 0) h (by decide) (by simp [f_L_entry, m_X7_entry, nd, e1, e2, e3, e4]) (by simp [f_X8_entry, w1, w2, w3, w4])
  have hv : v = -1 ∨ nb 8 v := by
    by_cases q : v = -1
    · exact Or.inl q
    · right
      have a1 := leI.mp v1
      have a2 := leI.mp v2
      have a3 : v.toInt ≠ -1 := fun z => q (Int32.toInt_inj.mp (by rw [z]; rfl))
      obtain ⟨j, j1, rfl⟩ := nI_of (x := v) (fun z => by
        have := ltI.mp z
        simp at a1 this <;> omega)
      refine ⟨j, ?_, rfl⟩
      rw [nI_toInt (by omega)] at a2
      simp at a2 <;> omega
  rcases c_pow _ (may01 p t σ) with ⟨w5, e5⟩ | ⟨w5, e5⟩
  rotate_left
  · exact OKc.er (c := 3) (x := 0) h (by decide) (by simp [f_L_entry, m_X7_entry, nd, e1, e2, e3, e4, cp, ct, e5]) (by simp [f_X8_entry, w1, w2, w3, w4, hR.may hp ht, w5])
  -- the subject
  obtain ⟨s, hs, hs2, sb, su⟩ : ∃ s : Nat, s < 12 ∧ (if b = 0 then nI u else (6 : Int32) + nI u) = nI s ∧ b = nI (s / 6) ∧ u = s % 6 := by
    rcases hb with rfl | rfl
    · exact ⟨u, by omega, if_pos rfl, by rw [Nat.div_eq_of_lt hu]; rfl, (Nat.mod_eq_of_lt hu).symm⟩
    · exact ⟨6 + u, by omega, by rw [if_neg (by decide)]; exact nI_add 6 u, by rw [show (6 + u) / 6 = 1 by omega]; rfl, by omega⟩
  obtain ⟨n, sj, n1, n2, n3, he⟩ := hR.en (t := t) (by omega)
  obtain ⟨Z, hZ⟩ : ∃ Z, Z = s_X5_putEntry t (nI s) v d σ := ⟨_, rfl⟩
  obtain ⟨p20, p7, p8, po, pi, pk⟩ := pe_spec (σ := σ) (i := t) (r := v) (d := d) hs
  rw [← hZ] at p20 p7 p8 po pi pk
  have hro : f_X5_rightsOf t (nI s) σ = σ 20 t s := rightsOf_eq hs
  -- the class's call
  have hm : m_X7_entry (nI p) (nI t) b (nI u) v d σ = if v = -1 then (none, σ 20 t s, Z) else if σ 20 t s = -1 then nd (e_X7_needRoom (nI n) 5) ((none, σ 20 t s, Z)) else (none, σ 20 t s, Z) := by
    simp only [m_X7_entry, nd, e1, e2, e3, e4, e5, cp, ct]
    by_cases q : b = 0
    · rw [if_pos q] at hs2
      simp only [if_pos q, hs2, hro, ← hZ, n3]
    · rw [if_neg q] at hs2
      simp only [if_neg q, hs2, hro, ← hZ, n3]
  -- the model on what is there then
  have q0 := hR.2.2.2.1 t (by omega)
  obtain ⟨⟨a0, a1, a2, a3, a4, a5⟩, am, ⟨b0, b1, b2, b3, b6⟩, -, fr⟩ := q0
  have hz := hR.2.2.2.2.2.2.2.2.2
  have sub6 : nI (s % 6) = nI u := by rw [su]
  -- what is left of the relation, for any rows of the entries
  have build : ∀ (τ' : Sg), (∀ kk : Nat, kk ≠ 5 → kk ≠ 20 → kk ≠ 8 → kk ≠ 90 → kk ≠ 41 → kk ≠ 42 → kk ≠ 43 → kk ≠ 44 → kk ≠ 45 → τ' kk = σ kk) → (∀ j : Nat, j ≠ 0 → τ' 8 0 j = σ 8 0 j) → τ' 5 = Z 5 → τ' 20 = Z 20 → (∀ t' : Nat, t' ≠ t → τ' 41 0 t' = σ 41 0 t') → (∀ t' : Nat, t' ≠ t → ∀ k : Nat, k < 5 → τ' 42 0 (5 * t' + k) = σ 42 0 (5 * t' + k) ∧ τ' 43 0 (5 * t' + k) = σ 43 0 (5 * t' + k) ∧ τ' 44 0 (5 * t' + k) = σ 44 0 (5 * t' + k) ∧ τ' 45 0 (5 * t' + k) = σ 45 0 (5 * t' + k)) → BZr (τ' 43 0) (τ' 45 0) → Ren (Z 5 t 7) (Z 5 t 8) (Z 20 t) (τ' 41 0 t) (fun k => τ' 42 0 (5 * t + k)) (fun k => τ' 43 0 (5 * t + k)) (fun k => τ' 44 0 (5 * t + k)) (fun k => τ' 45 0 (5 * t + k)) → RR T P K N τ' := by
    intro τ' y1 y8 y5 y20 y41 ye yz yr
    refine hR.ct (fun kk i hk => ?_) (fun j hj => ?_) (fun t' ht' => ?_) yz
    · simp [scr] at hk
      rw [y1 kk (by omega) (by omega) (by omega) (by omega) (by omega) (by omega) (by omega) (by omega) (by omega)]
    · simp at hj
      exact y8 j (by omega)
    · have e34 := y1 34 (by decide) (by decide) (by decide) (by decide) (by decide) (by decide) (by decide) (by decide) (by decide)
      have e35 := y1 35 (by decide) (by decide) (by decide) (by decide) (by decide) (by decide) (by decide) (by decide) (by decide)
      have e36 := y1 36 (by decide) (by decide) (by decide) (by decide) (by decide) (by decide) (by decide) (by decide) (by decide)
      have e37 := y1 37 (by decide) (by decide) (by decide) (by decide) (by decide) (by decide) (by decide) (by decide) (by decide)
      have e38 := y1 38 (by decide) (by decide) (by decide) (by decide) (by decide) (by decide) (by decide) (by decide) (by decide)
      have e39 := y1 39 (by decide) (by decide) (by decide) (by decide) (by decide) (by decide) (by decide) (by decide) (by decide)
      have e40 := y1 40 (by decide) (by decide) (by decide) (by decide) (by decide) (by decide) (by decide) (by decide) (by decide)
      rw [y5, y20, e34, e35, e36, e37, e38, e39, e40]
      by_cases e : t' = t
      · subst e
        refine ⟨⟨by rw [po 0 (by decide) (by decide)]; exact a0, by rw [po 1 (by decide) (by decide)]; exact a1, by rw [po 2 (by decide) (by decide)]; exact a2, by rw [po 3 (by decide) (by decide)]; exact a3, by rw [po 4 (by decide) (by decide)]; exact a4, by rw [po 5 (by decide) (by decide)]; exact a5⟩, fun z => by rw [po 6 (by decide) (by decide)]; exact am z, ⟨by rw [po 0 (by decide) (by decide)]; exact b0, by rw [po 1 (by decide) (by decide)]; exact b1, by rw [po 2 (by decide) (by decide)]; exact b2, by rw [po 3 (by decide) (by decide)]; exact b3, by rw [po 6 (by decide) (by decide)]; exact b6⟩, yr, fun z => absurd z (by omega)⟩
      · rw [(pi t' e).1, (pi t' e).2, y41 t' e]
        exact (hR.2.2.2.1 t' ht').cg (fun k hk => ye t' e k hk)
  obtain ⟨s1, hs1⟩ : ∃ s1, s1 = us Z 90 0 0 (σ 20 t s) := ⟨_, rfl⟩
  have sk : ∀ kk : Nat, kk ≠ 5 → kk ≠ 20 → kk ≠ 90 → s1 kk = σ kk := fun kk h1 h2 h3 => by rw [hs1, us_kk h3, pk kk h1 h2]
  have k1 : f_X8_isProcess (nI p) s1 = 1 := by rw [f_X8_isProcess, sk 8 (by decide) (by decide) (by decide)]; exact w1
  have k2 : f_X8_isThing (nI t) s1 = 1 := by rw [f_X8_isThing, sk 8 (by decide) (by decide) (by decide)]; exact w2
  have k3 : f_X8_mayChange (nI p) (nI t) s1 = 1 := by
    have := hR.may hp ht
    rw [w5] at this
    rw [← this, f_X8_mayChange, f_X8_mayChange, sk 49 (by decide) (by decide) (by decide), sk 34 (by decide) (by decide) (by decide), sk 53 (by decide) (by decide) (by decide)]
  have he1 : En s1 t n sj (σ 20 t) (σ 5 t 8) := he.cg (by rw [sk 42 (by decide) (by decide) (by decide)]) (by rw [sk 43 (by decide) (by decide) (by decide)]) (by rw [sk 44 (by decide) (by decide) (by decide)]) (by rw [sk 45 (by decide) (by decide) (by decide)])
  have s41 : s1 41 0 t = nI n := by rw [sk 41 (by decide) (by decide) (by decide)]; exact n2
  have hX : f_X8_entry (nI p) (nI t) b (nI u) v d s1 = if (f_X8_entryOf (nI t) b (nI u) s1) = (-1) then (if v = (-1) then ((-1), us s1 8 0 0 0) else if nI n = 5 then (0, us s1 8 0 0 4) else ((-1), us (us (us (us (us (us s1 8 0 0 0) 41 0 t (nI n + (1 : Int32))) 43 0 (5 * t + n) b) 42 0 (5 * t + n) (nI u)) 44 0 (5 * t + n) v) 45 0 (5 * t + n) d)) else if v = (-1) then f_X8_entry_K188 (nI p) (nI t) b (nI u) v d (s1 44 0 ((((5 : Int32) * (nI t)) + (f_X8_entryOf (nI t) b (nI u) s1)).toNatClampNeg)) (f_X8_entry_L188 (nI p) (nI t) b (nI u) v d 6 (f_X8_entryOf (nI t) b (nI u) s1).toNatClampNeg (us s1 8 0 0 0)) else (s1 44 0 ((((5 : Int32) * (nI t)) + (f_X8_entryOf (nI t) b (nI u) s1)).toNatClampNeg), us (us (us (us (us (us s1 8 0 0 0) 41 0 t (nI n + (0 : Int32))) 43 0 ((((5 : Int32) * (nI t)) + (f_X8_entryOf (nI t) b (nI u) s1)).toNatClampNeg) b) 42 0 ((((5 : Int32) * (nI t)) + (f_X8_entryOf (nI t) b (nI u) s1)).toNatClampNeg) (nI u)) 44 0 ((((5 : Int32) * (nI t)) + (f_X8_entryOf (nI t) b (nI u) s1)).toNatClampNeg) v) 45 0 ((((5 : Int32) * (nI t)) + (f_X8_entryOf (nI t) b (nI u) s1)).toNatClampNeg) d) := by
    by_cases z5 : n < 5
    · simp only [f_X8_entry, k1, k2, k3, w3, w4, ct, s41, i5k (show t < 12 by omega) z5, show ¬ (1 : Int32) = 0 by decide, if_false]
    · have n5 : n = 5 := by omega
      have z6 : nI n = 5 := by rw [n5]; rfl
      simp only [f_X8_entry, k1, k2, k3, w3, w4, ct, s41, if_pos z6, show ¬ (1 : Int32) = 0 by decide, if_false]
  have heo := entryOf_all he1 (by omega) n1 s41 hs
  rw [← sb, sub6] at heo
  have oth : ∀ (τ' : Sg) (i0 : Nat), i0 < 5 → (∀ kk : Nat, kk = 42 ∨ kk = 43 ∨ kk = 44 ∨ kk = 45 → ∀ i : Nat, i ≠ 5 * t + i0 → τ' kk 0 i = σ kk 0 i) → ∀ t' : Nat, t' ≠ t → ∀ k : Nat, k < 5 → τ' 42 0 (5 * t' + k) = σ 42 0 (5 * t' + k) ∧ τ' 43 0 (5 * t' + k) = σ 43 0 (5 * t' + k) ∧ τ' 44 0 (5 * t' + k) = σ 44 0 (5 * t' + k) ∧ τ' 45 0 (5 * t' + k) = σ 45 0 (5 * t' + k) := fun τ' i0 hi0 hh t' ht' k hk => ⟨hh 42 (by simp) _ (by omega), hh 43 (by simp) _ (by omega), hh 44 (by simp) _ (by omega), hh 45 (by simp) _ (by omega)⟩
  obtain ⟨g1, g2, g3, g4⟩ := he
  have dn9 : ∀ c : Bool, (if c = true then (1 : Int32) else 0) = 1 ∨ (if c = true then (1 : Int32) else 0) = 0 := fun c => by cases c <;> simp
  rcases heo with ⟨f1, f2, f3⟩ | ⟨l, l1, l2, f1, f2⟩
  · -- no such entry
    rw [f1, if_pos rfl] at hX
    rw [f2] at hm hs1
    by_cases hv1 : v = -1
    · rw [if_pos hv1] at hX hm
      refine OKc.ok (τ := Z) (x := -1) (τ' := us s1 8 0 0 0) (by rw [f_L_entry, hm, if_pos rfl]) (by rw [← hs1]; exact hX) us_h ⟨T, P, K, N, build _ (fun kk h1 h2 h3 h4 _ _ _ _ _ => by rw [us_kk h3, sk kk h1 h2 h4]) (fun j hj => by rw [us_j hj, sk 8 (by decide) (by decide) (by decide)]) (by rw [us_kk (by decide), hs1, us_kk (by decide)]) (by rw [us_kk (by decide), hs1, us_kk (by decide)]) (fun t' _ => by rw [us_kk (by decide), sk 41 (by decide) (by decide) (by decide)]) (oth _ 0 (by decide) (fun kk hkk i _ => by
          have : kk ≠ 8 ∧ kk ≠ 5 ∧ kk ≠ 20 ∧ kk ≠ 90 := by omega
          rw [us_kk this.1, sk kk this.2.1 this.2.2.1 this.2.2.2])) (by rw [us_kk (by decide), us_kk (by decide), sk 43 (by decide) (by decide) (by decide), sk 45 (by decide) (by decide) (by decide)]; exact hz) ?_⟩
      rw [us_kk (show 41 ≠ 8 by decide), us_kk (show 42 ≠ 8 by decide), us_kk (show 43 ≠ 8 by decide), us_kk (show 44 ≠ 8 by decide), us_kk (show 45 ≠ 8 by decide), sk 42 (by decide) (by decide) (by decide), sk 43 (by decide) (by decide) (by decide), sk 44 (by decide) (by decide) (by decide), sk 45 (by decide) (by decide) (by decide)]
      have e20 : Z 20 t = σ 20 t := by
        funext j
        rw [p20 j]
        by_cases e : j = s
        · rw [if_pos e, e, f2, hv1]
        · rw [if_neg e]
      have eb : ∀ c : Nat, c < 32 → bt (Z 5 t 8) c = bt (σ 5 t 8) c := fun c hc => by
        rw [p8 c hc]
        by_cases e : c = s
        · rw [if_pos e, e, decide_eq_false (fun q => q.2 hv1)]
          cases q : bt (σ 5 t 8) s
          · rfl
          · obtain ⟨k, k9, k10⟩ := g4 s (by omega) q
            exact absurd k10 (f3 k k9)
        · rw [if_neg e]
      refine ⟨n, n1, s41, ?_, sj, fun k hk => ?_, g2, fun c hc => by rw [e20]; exact g3 c hc, fun c hc q => g4 c hc (by rw [← eb c hc]; exact q)⟩
      · rw [p7, n3, f2, hv1]
        exact Int32.add_zero _
      · obtain ⟨h1, h2, h3, h4, h5, h6⟩ := g1 k hk
        rw [e20, eb _ (by omega)]
        exact ⟨h1, h2, h3, h4, h5, h6⟩
    · rw [if_neg hv1] at hX hm
      rw [if_pos rfl] at hm
      rcases c_room (n := n) (M := 5) n1 (by decide) with ⟨hn5, e6, w6⟩ | ⟨hn5, e6, w6⟩
      rotate_left
      · refine OKc.er (c := 4) (x := 0) h (by decide) ?_ ?_
        · have e6' : e_X7_needRoom (nI n) 5 = some "java/lang/IllegalStateException" := e6
          rw [e6'] at hm
          rw [f_L_entry, hm]
          simp [nd]
        · have w6' : nI n = 5 := w6
          have heo2 := entryOf_all (m := σ) ⟨g1, g2, g3, g4⟩ (show t < 12 by omega) n1 n2 hs
          rw [← sb, sub6] at heo2
          have f1' : f_X8_entryOf (nI t) b (nI u) σ = -1 := by
            rcases heo2 with ⟨x1, -⟩ | ⟨l, l1, l2, -⟩
            · exact x1
            · exact absurd l2 (f3 l l1)
          have km : f_X8_mayChange (nI p) (nI t) σ = 1 := by rw [hR.may hp ht, w5]
          simp only [f_X8_entry, w1, w2, km, w3, w4, ct, f1', if_neg hv1, n2, if_pos w6', show ¬ (1 : Int32) = 0 by decide, if_false, if_true]
      · have e6' : e_X7_needRoom (nI n) 5 = none := e6
        have w6' : ¬ nI n = 5 := w6
        rw [e6', nd_none] at hm
        rw [if_neg w6'] at hX
        have nv : nb 8 v := hv.resolve_left hv1
        refine OKc.ok (τ := Z) (x := -1) (τ' := us (us (us (us (us (us s1 8 0 0 0) 41 0 t (nI n + (1 : Int32))) 43 0 (5 * t + n) b) 42 0 (5 * t + n) (nI u)) 44 0 (5 * t + n) v) 45 0 (5 * t + n) d) (by rw [f_L_entry, hm, if_pos rfl]) (by rw [← hs1]; exact hX) rfl ⟨T, P, K, N, build _ (fun kk h1 h2 h3 h4 h5 h6 h7 h8 h9 => by rw [us_kk h9, us_kk h8, us_kk h6, us_kk h7, us_kk h5, us_kk h3, sk kk h1 h2 h4]) (fun j hj => by rw [us_k (by decide), us_k (by decide), us_k (by decide), us_k (by decide), us_k (by decide), us_j hj, sk 8 (by decide) (by decide) (by decide)]) (by rw [us_kk (by decide), us_kk (by decide), us_kk (by decide), us_kk (by decide), us_kk (by decide), us_kk (by decide), hs1, us_kk (by decide)]) (by rw [us_kk (by decide), us_kk (by decide), us_kk (by decide), us_kk (by decide), us_kk (by decide), us_kk (by decide), hs1, us_kk (by decide)]) (fun t' ht' => by rw [us_k (by decide), us_k (by decide), us_k (by decide), us_k (by decide), us_j ht', us_k (by decide), sk 41 (by decide) (by decide) (by decide)]) (oth _ n hn5 (fun kk hkk i hi => ?_)) ?_ ?_⟩
        · rcases hkk with rfl | rfl | rfl | rfl <;> simp [us, hi, sk]
        · intro i
          have z := hz i
          have y43 : (us (us (us (us (us (us s1 8 0 0 0) 41 0 t (nI n + (1 : Int32))) 43 0 (5 * t + n) b) 42 0 (5 * t + n) (nI u)) 44 0 (5 * t + n) v) 45 0 (5 * t + n) d) 43 0 i = if i = 5 * t + n then b else σ 43 0 i := by simp [us, sk]
          have y45 : (us (us (us (us (us (us s1 8 0 0 0) 41 0 t (nI n + (1 : Int32))) 43 0 (5 * t + n) b) 42 0 (5 * t + n) (nI u)) 44 0 (5 * t + n) v) 45 0 (5 * t + n) d) 45 0 i = if i = 5 * t + n then d else σ 45 0 i := by simp [us, sk]
          rw [y43, y45]
          by_cases e : i = 5 * t + n
          · rw [if_pos e, if_pos e]
            exact ⟨b01 hb, b01 hd⟩
          · rw [if_neg e, if_neg e]
            exact z
        · refine ⟨n + 1, by omega, by rw [us_k (by decide), us_k (by decide), us_k (by decide), us_k (by decide), us_h, nI_1], by rw [p7, n3, f2, dc, if_neg hv1, if_pos rfl, nI_1], fun k => if k = n then s else sj k, fun k hk => ?_, fun k hk l hl q => ?_, fun c hc => ?_, fun c hc q => ?_⟩
          · by_cases e : k = n
            · subst e
              simp only [if_pos]
              refine ⟨hs, by simp [us, ← sb], by simp [us, sub6], by simp [us, p20], by rw [p20, if_pos rfl]; obtain ⟨r, r1, r2⟩ := nv; exact ⟨r, r1, r2⟩, ?_⟩
              rw [p8 s (by omega), if_pos rfl]
              simp only [us_h]
              rcases hd with rfl | rfl
              · simp
              · simp [hv1]
            · obtain ⟨h1, h2, h3, h4, h5, h6⟩ := g1 k (by omega)
              have ne : ¬ sj k = s := f3 k (by omega)
              have ni : ¬ k = n := e
              simp only [if_neg e]
              rw [p20, if_neg ne, p8 _ (by omega), if_neg ne]
              refine ⟨h1, ?_, ?_, ?_, h5, ?_⟩
              · simp [us, sk, ni]; exact h2
              · simp [us, sk, ni]; exact h3
              · simp [us, sk, ni]; exact h4
              · simp [us, sk, ni]; exact h6
          · by_cases ek : k = n <;> by_cases el : l = n <;> simp only [ek, el, if_true, if_false] at q ⊢
            · exact absurd q.symm (f3 l (by omega))
            · exact absurd q (f3 k (by omega))
            · exact g2 k (by omega) l (by omega) q
          · rw [p20]
            by_cases e : c = s
            · right
              exact ⟨n, by omega, by simp [e]⟩
            · rw [if_neg e]
              rcases g3 c hc with q | ⟨k, k9, k10⟩
              · exact Or.inl q
              · exact Or.inr ⟨k, by omega, by simp only [if_neg (show ¬ (k = n) by omega)]; exact k10⟩
          · rw [p8 c hc] at q
            by_cases e : c = s
            · exact ⟨n, by omega, by simp [e]⟩
            · rw [if_neg e] at q
              obtain ⟨k, k9, k10⟩ := g4 c hc q
              exact ⟨k, by omega, by simp only [if_neg (show ¬ (k = n) by omega)]; exact k10⟩
  · -- it is there
    rw [f1, if_neg (nI_m1 (by omega)), i5k (show t < 12 by omega) (show l < 5 by omega), nI_clamp (show l < 2 ^ 31 by omega)] at hX
    rw [if_neg f2] at hm
    obtain ⟨gl1, gl2, gl3, gl4, gl5, gl6⟩ := g1 l l1
    rw [l2] at gl2 gl3 gl4 gl5 gl6
    have s44 : s1 44 0 (5 * t + l) = σ 20 t s := by rw [sk 44 (by decide) (by decide) (by decide)]; exact gl4
    rw [s44] at hX
    have hmm : m_X7_entry (nI p) (nI t) b (nI u) v d σ = (none, σ 20 t s, Z) := by rw [hm]; split <;> rfl
    have hL : f_L_entry (nI p) (nI t) b (nI u) v d σ = (0, us Z 90 0 0 (σ 20 t s)) := by rw [f_L_entry, hmm, if_pos rfl]
    by_cases hv1 : v = -1
    · rw [if_pos hv1] at hX
      obtain ⟨W, hW⟩ : ∃ W, W = f_X8_entry_L188 (nI p) (nI t) b (nI u) v d 6 l (us s1 8 0 0 0) := ⟨_, rfl⟩
      obtain ⟨r1, r2⟩ := sh188 (k9 := nI p) (b := b) (u := nI u) (r := v) (d := d) (t := nI t) rfl (show t < 12 by omega) n1 6 l (us s1 8 0 0 0) (by rw [us_k (by decide)]; exact s41) (by omega) l1
      rw [← hW] at r1 r2
      have W41 : W 41 0 t = nI n := by rw [r2 41 (by decide) (by decide) (by decide) (by decide), us_k (by decide)]; exact s41
      have rw9 : ∀ kk : Nat, kk = 42 ∨ kk = 43 ∨ kk = 44 ∨ kk = 45 → ∀ i : Nat, W kk 0 i = if 5 * t + l ≤ i ∧ i + 1 < 5 * t + n then σ kk 0 (i + 1) else σ kk 0 i := fun kk hkk i => by
        have : kk ≠ 8 ∧ kk ≠ 5 ∧ kk ≠ 20 ∧ kk ≠ 90 := by omega
        rw [r1 kk hkk i, us_kk this.1, sk kk this.2.1 this.2.2.1 this.2.2.2]
      have hX2 : f_X8_entry (nI p) (nI t) b (nI u) v d s1 = (σ 20 t s, us W 41 0 t (nI n - 1)) := by
        rw [hX, ← hW, f_X8_entry_K188, ct, W41]
      have nI9 : nI n - 1 = nI (n - 1) := pk_sub (b := 1) (by omega)
      refine OKc.ok (τ := Z) (x := σ 20 t s) (τ' := us W 41 0 t (nI n - 1)) hL (by rw [← hs1]; exact hX2) (by rw [us_k (by decide), r2 8 (by decide) (by decide) (by decide) (by decide)]; exact us_h) ⟨T, P, K, N, build _ (fun kk h1 h2 h3 h4 h5 h6 h7 h8 h9 => by rw [us_kk h5, r2 kk h6 h7 h8 h9, us_kk h3, sk kk h1 h2 h4]) (fun j hj => by rw [us_k (by decide), r2 8 (by decide) (by decide) (by decide) (by decide), us_j hj, sk 8 (by decide) (by decide) (by decide)]) (by rw [us_kk (by decide), r2 5 (by decide) (by decide) (by decide) (by decide), us_kk (by decide), hs1, us_kk (by decide)]) (by rw [us_kk (by decide), r2 20 (by decide) (by decide) (by decide) (by decide), us_kk (by decide), hs1, us_kk (by decide)]) (fun t' ht' => by rw [us_j ht', r2 41 (by decide) (by decide) (by decide) (by decide), us_k (by decide), sk 41 (by decide) (by decide) (by decide)]) (fun t' ht' k hk => ⟨?_, ?_, ?_, ?_⟩) ?_ ?_⟩
      · rw [us_k (by decide), rw9 42 (by simp), if_neg (by omega)]
      · rw [us_k (by decide), rw9 43 (by simp), if_neg (by omega)]
      · rw [us_k (by decide), rw9 44 (by simp), if_neg (by omega)]
      · rw [us_k (by decide), rw9 45 (by simp), if_neg (by omega)]
      · intro i
        rw [us_k (by decide), us_k (by decide), rw9 43 (by simp), rw9 45 (by simp)]
        by_cases e : 5 * t + l ≤ i ∧ i + 1 < 5 * t + n
        · rw [if_pos e, if_pos e]; exact hz (i + 1)
        · rw [if_neg e, if_neg e]; exact hz i
      · refine ⟨n - 1, by omega, by rw [us_h, nI9], by rw [p7, n3, dc, if_pos hv1, if_neg f2]; exact (by obtain ⟨m, rfl⟩ : ∃ m, n = m + 1 := ⟨n - 1, by omega⟩; exact pk_m1 m), fun k => if k < l then sj k else sj (k + 1), fun k hk => ?_, fun k hk k' hk' q => ?_, fun c hc => ?_, fun c hc q => ?_⟩
        · have rowk : ∀ kk : Nat, kk = 42 ∨ kk = 43 ∨ kk = 44 ∨ kk = 45 → us W 41 0 t (nI n - 1) kk 0 (5 * t + k) = if k < l then σ kk 0 (5 * t + k) else σ kk 0 (5 * t + (k + 1)) := fun kk hkk => by
            have : kk ≠ 41 := by omega
            rw [us_k this, rw9 kk hkk]
            by_cases e : k < l
            · rw [if_neg (by omega), if_pos e]
            · rw [if_pos (by omega), if_neg e]
              rfl
          simp only [rowk 42 (by simp), rowk 43 (by simp), rowk 44 (by simp), rowk 45 (by simp)]
          by_cases e : k < l
          · simp only [if_pos e]
            obtain ⟨h1, h2, h3, h4, h5, h6⟩ := g1 k (by omega)
            have ne : ¬ sj k = s := fun q => by have := g2 k (by omega) l l1 (q.trans l2.symm); omega
            rw [p20, if_neg ne, p8 _ (by omega), if_neg ne]
            exact ⟨h1, h2, h3, h4, h5, h6⟩
          · simp only [if_neg e]
            obtain ⟨h1, h2, h3, h4, h5, h6⟩ := g1 (k + 1) (by omega)
            have ne : ¬ sj (k + 1) = s := fun q => by have := g2 (k + 1) (by omega) l l1 (q.trans l2.symm); omega
            rw [p20, if_neg ne, p8 _ (by omega), if_neg ne]
            exact ⟨h1, h2, h3, h4, h5, h6⟩
        · by_cases ek : k < l <;> by_cases el : k' < l <;> simp only [ek, el, if_true, if_false] at q
          · exact g2 k (by omega) k' (by omega) q
          · have := g2 k (by omega) (k' + 1) (by omega) q; omega
          · have := g2 (k + 1) (by omega) k' (by omega) q; omega
          · have := g2 (k + 1) (by omega) (k' + 1) (by omega) q; omega
        · rw [p20]
          by_cases e : c = s
          · left; rw [if_pos e]; exact hv1
          · rw [if_neg e]
            rcases g3 c hc with q | ⟨k, k9, k10⟩
            · exact Or.inl q
            · right
              have : k ≠ l := fun q => e (by rw [← k10, q, l2])
              by_cases e2 : k < l
              · exact ⟨k, by omega, by simp only [if_pos e2]; exact k10⟩
              · exact ⟨k - 1, by omega, by simp only [if_neg (show ¬ (k - 1 < l) by omega), show k - 1 + 1 = k by omega]; exact k10⟩
        · rw [p8 c hc] at q
          by_cases e : c = s
          · rw [if_pos e] at q
            simp [hv1] at q
          · rw [if_neg e] at q
            obtain ⟨k, k9, k10⟩ := g4 c hc q
            have : k ≠ l := fun q => e (by rw [← k10, q, l2])
            by_cases e2 : k < l
            · exact ⟨k, by omega, by simp only [if_pos e2]; exact k10⟩
            · exact ⟨k - 1, by omega, by simp only [if_neg (show ¬ (k - 1 < l) by omega), show k - 1 + 1 = k by omega]; exact k10⟩
    · rw [if_neg hv1] at hX
      have nv : nb 8 v := hv.resolve_left hv1
      refine OKc.ok (τ := Z) (x := σ 20 t s) (τ' := us (us (us (us (us (us s1 8 0 0 0) 41 0 t (nI n + (0 : Int32))) 43 0 (5 * t + l) b) 42 0 (5 * t + l) (nI u)) 44 0 (5 * t + l) v) 45 0 (5 * t + l) d) hL (by rw [← hs1]; exact hX) rfl ⟨T, P, K, N, build _ (fun kk h1 h2 h3 h4 h5 h6 h7 h8 h9 => by rw [us_kk h9, us_kk h8, us_kk h6, us_kk h7, us_kk h5, us_kk h3, sk kk h1 h2 h4]) (fun j hj => by rw [us_k (by decide), us_k (by decide), us_k (by decide), us_k (by decide), us_k (by decide), us_j hj, sk 8 (by decide) (by decide) (by decide)]) (by rw [us_kk (by decide), us_kk (by decide), us_kk (by decide), us_kk (by decide), us_kk (by decide), us_kk (by decide), hs1, us_kk (by decide)]) (by rw [us_kk (by decide), us_kk (by decide), us_kk (by decide), us_kk (by decide), us_kk (by decide), us_kk (by decide), hs1, us_kk (by decide)]) (fun t' ht' => by rw [us_k (by decide), us_k (by decide), us_k (by decide), us_k (by decide), us_j ht', us_k (by decide), sk 41 (by decide) (by decide) (by decide)]) (oth _ l (by omega) (fun kk hkk i hi => ?_)) ?_ ?_⟩
      · rcases hkk with rfl | rfl | rfl | rfl <;> simp [us, hi, sk]
      · intro i
        have z := hz i
        have y43 : (us (us (us (us (us (us s1 8 0 0 0) 41 0 t (nI n + (0 : Int32))) 43 0 (5 * t + l) b) 42 0 (5 * t + l) (nI u)) 44 0 (5 * t + l) v) 45 0 (5 * t + l) d) 43 0 i = if i = 5 * t + l then b else σ 43 0 i := by simp [us, sk]
        have y45 : (us (us (us (us (us (us s1 8 0 0 0) 41 0 t (nI n + (0 : Int32))) 43 0 (5 * t + l) b) 42 0 (5 * t + l) (nI u)) 44 0 (5 * t + l) v) 45 0 (5 * t + l) d) 45 0 i = if i = 5 * t + l then d else σ 45 0 i := by simp [us, sk]
        rw [y43, y45]
        by_cases e : i = 5 * t + l
        · rw [if_pos e, if_pos e]
          exact ⟨b01 hb, b01 hd⟩
        · rw [if_neg e, if_neg e]
          exact z
      · refine ⟨n, n1, by rw [us_k (by decide), us_k (by decide), us_k (by decide), us_k (by decide), us_h]; exact Int32.add_zero _, by rw [p7, n3, dc, if_neg hv1, if_neg f2]; exact Int32.add_zero _, sj, fun k hk => ?_, g2, fun c hc => ?_, fun c hc q => ?_⟩
        · by_cases e : k = l
          · subst e
            rw [l2]
            refine ⟨hs, by simp [us, ← sb], by simp [us, sub6], by simp [us, p20], by rw [p20, if_pos rfl]; obtain ⟨r, r1, r2⟩ := nv; exact ⟨r, r1, r2⟩, ?_⟩
            rw [p8 s (by omega), if_pos rfl]
            simp only [us_h]
            rcases hd with rfl | rfl
            · simp
            · simp [hv1]
          · obtain ⟨h1, h2, h3, h4, h5, h6⟩ := g1 k (by omega)
            have ne : ¬ sj k = s := fun q => e (g2 k hk l l1 (q.trans l2.symm))
            have ni : ¬ k = l := e
            rw [p20, if_neg ne, p8 _ (by omega), if_neg ne]
            refine ⟨h1, ?_, ?_, ?_, h5, ?_⟩
            · simp [us, sk, ni]; exact h2
            · simp [us, sk, ni]; exact h3
            · simp [us, sk, ni]; exact h4
            · simp [us, sk, ni]; exact h6
        · rw [p20]
          by_cases e : c = s
          · exact Or.inr ⟨l, l1, by rw [l2, e]⟩
          · rw [if_neg e]
            exact g3 c hc
        · rw [p8 c hc] at q
          by_cases e : c = s
          · exact ⟨l, l1, by rw [l2, e]⟩
          · rw [if_neg e] at q
            exact g4 c hc q
