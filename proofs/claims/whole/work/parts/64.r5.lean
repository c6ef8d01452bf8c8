/-! groups: every way of finding them gives the least closed set -/
theorem z0F {α : Type} (a b : α) : (if (if false = true then (1 : Int32) else 0) = 0 then a else b) = a := rfl
theorem z1T {α : Type} (a b : α) : (if (if true = true then (1 : Int32) else 0) = 0 then a else b) = b := rfl
theorem and_ne {x v : Int32} (hv : S6 v) : ¬ (x &&& v = 0) ↔ ∃ h : Nat, h < 6 ∧ bt x h = true ∧ bt v h = true := by
  constructor
  · intro h
    refine Classical.byContradiction fun hn => h (b_ext fun b hb => ?_)
    rw [b_and, b_0]
    rcases Nat.lt_or_ge b 6 with q | q
    · cases e1 : bt x b
      · rfl
      · cases e2 : bt v b
        · rfl
        · exact absurd ⟨b, q, e1, e2⟩ hn
    · rw [hv b hb q, Bool.and_false]
  · rintro ⟨b, hb, h1, h2⟩ h
    have := congrArg (fun z => bt z b) h
    simp only [b_and, h1, h2, b_0] at this
    exact absurd this (by decide)
/-- bits are kept, and how many are wanting -/
theorem cz_mono {v w : Int32} (h : ∀ b : Nat, b < 6 → bt v b = true → bt w b = true) : cz w ≤ cz v := by
  have g : ∀ b : Nat, b < 6 → (!bt w b).toNat ≤ (!bt v b).toNat := fun b hb => by
    have := h b hb
    cases e1 : bt v b <;> cases e2 : bt w b <;> simp_all
  have := g 0 (by decide); have := g 1 (by decide); have := g 2 (by decide); have := g 3 (by decide); have := g 4 (by decide); have := g 5 (by decide)
  unfold cz
  omega
theorem cz_lt {v w : Int32} (h : ∀ b : Nat, b < 6 → bt v b = true → bt w b = true) (hv : S6 v) (hw : S6 w) (hne : w ≠ v) : cz w < cz v := by
  have g : ∀ b : Nat, b < 6 → (!bt w b).toNat ≤ (!bt v b).toNat := fun b hb => by
    have := h b hb
    cases e1 : bt v b <;> cases e2 : bt w b <;> simp_all
  have e : ∀ b : Nat, b < 6 → (!bt w b).toNat = (!bt v b).toNat → bt w b = bt v b := fun b hb q => by
    cases e1 : bt v b <;> cases e2 : bt w b <;> simp_all
  refine Nat.lt_of_not_le fun hle => hne (b_ext fun b hb => ?_)
  have g0 := g 0 (by decide); have g1 := g 1 (by decide); have g2 := g 2 (by decide); have g3 := g 3 (by decide); have g4 := g 4 (by decide); have g5 := g 5 (by decide)
  unfold cz at hle
  rcases Nat.lt_or_ge b 6 with q | q
  · have h9 : b = 0 ∨ b = 1 ∨ b = 2 ∨ b = 3 ∨ b = 4 ∨ b = 5 := by omega
    rcases h9 with rfl | rfl | rfl | rfl | rfl | rfl
    · exact e 0 (by decide) (by omega)
    · exact e 1 (by decide) (by omega)
    · exact e 2 (by decide) (by omega)
    · exact e 3 (by decide) (by omega)
    · exact e 4 (by decide) (by omega)
    · exact e 5 (by decide) (by omega)
  · rw [hv b hb q, hw b hb q]
theorem cz_0 {v : Int32} (h : cz v = 0) {g : Nat} (hg : g < 6) : bt v g = true := by
  have e : ∀ b : Nat, (!bt v b).toNat = 0 → bt v b = true := fun b q => by
    cases e1 : bt v b <;> simp_all
  unfold cz at h
  have h9 : g = 0 ∨ g = 1 ∨ g = 2 ∨ g = 3 ∨ g = 4 ∨ g = 5 := by omega
  rcases h9 with rfl | rfl | rfl | rfl | rfl | rfl <;> exact e _ (by omega)
theorem Up.sub {i : Nat → Int32} {S : Nat → Prop} {h : Nat} (hh : h < 6) (hs : S h) : Up i S h := fun _ h1 _ => h1 h hh hs
theorem Up.step {i : Nat → Int32} {S : Nat → Prop} {g h : Nat} (hg : g < 6) (hh : h < 6) (hb : bt (i g) h = true) (hu : Up i S h) : Up i S g := fun T h1 h2 => h2 g hg h hh hb (hu T h1 h2)
theorem Up.congr {i i' : Nat → Int32} {S S' : Nat → Prop} (hi : ∀ g : Nat, g < 6 → i g = i' g) (hs : ∀ g : Nat, g < 6 → (S g ↔ S' g)) (g : Nat) : Up i S g ↔ Up i' S' g := by
  constructor
  · exact fun h T h1 h2 => h T (fun a ha q => h1 a ha ((hs a ha).mp q)) (fun a ha b hb q => h2 a ha b hb (by rw [← hi a ha]; exact q))
  · exact fun h T h1 h2 => h T (fun a ha q => h1 a ha ((hs a ha).mpr q)) (fun a ha b hb q => h2 a ha b hb (by rw [hi a ha]; exact q))
def Dn (i : Nat → Int32) (g h : Nat) : Prop := ∀ T : Nat → Prop, T g → (∀ a : Nat, a < 6 → T a → ∀ b : Nat, b < 6 → bt (i a) b = true → T b) → T h
theorem Dn.rf {i : Nat → Int32} (g : Nat) : Dn i g g := fun _ h _ => h
theorem Dn.step {i : Nat → Int32} {g a b : Nat} (ha : a < 6) (hb : b < 6) (hd : Dn i g a) (h : bt (i a) b = true) : Dn i g b := fun T h1 h2 => h2 a ha (hd T h1 h2) b hb h
theorem Up_Dn {i : Nat → Int32} {S : Nat → Prop} {g : Nat} (hg : g < 6) : Up i S g ↔ ∃ h : Nat, h < 6 ∧ S h ∧ Dn i g h := by
  constructor
  · intro hu
    have := hu (fun a => a < 6 ∧ ∃ h : Nat, h < 6 ∧ S h ∧ Dn i a h) (fun h hh hs => ⟨hh, h, hh, hs, Dn.rf h⟩) (fun a ha b hb hab ⟨_, h, hh, hs, hd⟩ => ⟨ha, h, hh, hs, fun T h1 h2 => hd T (h2 a ha h1 b hb hab) h2⟩)
    exact this.2
  · rintro ⟨h, hh, hs, hd⟩ T h1 h2
    exact hd (fun a => T a → T g) (fun q => q) (fun a ha hT b hb hab q => hT (h2 a ha b hb hab q)) (h1 h hh hs)
/-- what a search upwards keeps -/
def Iu (i : Nat → Int32) (S : Nat → Prop) (v : Int32) : Prop := S6 v ∧ (∀ h : Nat, h < 6 → S h → bt v h = true) ∧ ∀ b : Nat, b < 6 → bt v b = true → Up i S b
def Cu (i : Nat → Int32) (v : Int32) : Prop := ∀ g : Nat, g < 6 → ¬ (i g &&& v = 0) → bt v g = true
theorem Iu.st {i : Nat → Int32} {S : Nat → Prop} {v : Int32} (h : Iu i S v) (hc : Cu i v) : St v (Up i S) := fun b hb => by
  obtain ⟨h1, h2, h3⟩ := h
  constructor
  · intro q
    rcases Nat.lt_or_ge b 6 with q2 | q2
    · exact ⟨q2, h3 b q2 q⟩
    · rw [h1 b hb q2] at q
      exact absurd q (by decide)
  · rintro ⟨q1, q2⟩
    exact q2 (fun a => bt v a = true) h2 (fun a ha c hc9 hac q => hc a ha ((and_ne h1).mpr ⟨c, hc9, hac, q⟩))
theorem S6.set {v : Int32} (h : S6 v) {g : Nat} (hg : g < 6) : S6 (v ||| ((1 : Int32) <<< (nI g &&& 31))) := fun b hb h6 => by
  rw [bt_set v g (by omega) hb, h b hb h6, decide_eq_false (by omega)]
  rfl
theorem Iu.set {i : Nat → Int32} {S : Nat → Prop} {v : Int32} (h : Iu i S v) {g : Nat} (hg : g < 6) (hn : ¬ (i g &&& v = 0)) : Iu i S (v ||| ((1 : Int32) <<< (nI g &&& 31))) := by
  obtain ⟨h1, h2, h3⟩ := h
  refine ⟨h1.set hg, fun a ha q => by rw [bt_set v g (by omega) (by omega), h2 a ha q]; rfl, fun b hb q => ?_⟩
  rw [bt_set v g (by omega) (by omega)] at q
  by_cases e : b = g
  · subst e
    obtain ⟨c, c1, c2, c3⟩ := (and_ne h1).mp hn
    exact Up.step hb c1 c2 (h3 c c1 c3)
  · rw [decide_eq_false e, Bool.or_false] at q
    exact h3 b hb q
theorem set_id {v : Int32} {g : Nat} (hg : g < 6) (h : bt v g = true) : v ||| ((1 : Int32) <<< (nI g &&& 31)) = v := b_ext fun b hb => by
  rw [bt_set v g (by omega) hb]
  by_cases e : b = g
  · subst e; simp [h]
  · simp [e]
theorem nI6 {k : Nat} (hk : k < 6) : ¬ 6 ≤ nI k := nI_ge (b := 6) hk (by decide)
theorem nI6' {k : Nat} (hk : k = 6) : 6 ≤ nI k := by subst hk; decide
section UP
variable {σ : Sg} {S : Nat → Prop} {u : Int32}
theorem up42 (n k : Nat) (v : Int32) (σ : Sg) : f_X2_groupsUpFrom_L42 u (n + 1) k v σ = if 6 ≤ nI k then v else if ((σ 13 0 k) &&& v) = 0 then f_X2_groupsUpFrom_L42 u n (k + 1) v σ else f_X2_groupsUpFrom_L42 u n (k + 1) (v ||| ((1 : Int32) <<< ((nI k) &&& 31))) σ := rfl
/-- one round: kept, never fewer; if nothing new came it is closed -/
theorem up42_all : ∀ (n k : Nat) (v : Int32), n + k = 7 → k ≤ 6 → Iu (σ 13 0) S v → Iu (σ 13 0) S (f_X2_groupsUpFrom_L42 u n k v σ) ∧ (∀ b : Nat, b < 6 → bt v b = true → bt (f_X2_groupsUpFrom_L42 u n k v σ) b = true) ∧ (f_X2_groupsUpFrom_L42 u n k v σ = v → ∀ g : Nat, k ≤ g → g < 6 → ¬ (σ 13 0 g &&& v = 0) → bt v g = true)
  | 0, k, v, h, h6, _ => by omega
  | n + 1, k, v, h, h6, hI => by
    rw [up42]
    by_cases hk : k = 6
    · rw [if_pos (nI6' hk)]
      exact ⟨hI, fun _ _ q => q, fun _ g g1 g2 => by omega⟩
    · rw [if_neg (nI6 (by omega))]
      by_cases h0 : σ 13 0 k &&& v = 0
      · rw [if_pos h0]
        obtain ⟨a1, a2, a3⟩ := up42_all n (k + 1) v (by omega) (by omega) hI
        refine ⟨a1, a2, fun e g g1 g2 hn => ?_⟩
        by_cases eg : g = k
        · subst eg; exact absurd h0 hn
        · exact a3 e g (by omega) g2 hn
      · rw [if_neg h0]
        obtain ⟨a1, a2, a3⟩ := up42_all n (k + 1) _ (by omega) (by omega) (hI.set (show k < 6 by omega) h0)
        have mono : ∀ b : Nat, b < 6 → bt v b = true → bt (v ||| ((1 : Int32) <<< ((nI k) &&& 31))) b = true := fun b hb q => by
          rw [bt_set v k (by omega) (by omega), q]; rfl
        refine ⟨a1, fun b hb q => a2 b hb (mono b hb q), fun e g g1 g2 hn => ?_⟩
        have hkv : bt v k = true := by
          have := a2 k (by omega) (by rw [bt_set v k (by omega) (by omega)]; simp)
          rw [e] at this
          exact this
        have es := set_id (v := v) (g := k) (by omega) hkv
        rw [es] at e a3
        by_cases eg : g = k
        · subst eg; exact hkv
        · exact a3 e g (by omega) g2 hn
theorem up42_fix : ∀ (n k : Nat) (v : Int32), n + k = 7 → k ≤ 6 → Cu (σ 13 0) v → f_X2_groupsUpFrom_L42 u n k v σ = v
  | 0, k, v, h, h6, _ => rfl
  | n + 1, k, v, h, h6, hC => by
    rw [up42]
    by_cases hk : k = 6
    · rw [if_pos (nI6' hk)]
    · rw [if_neg (nI6 (by omega))]
      by_cases h0 : σ 13 0 k &&& v = 0
      · rw [if_pos h0]
        exact up42_fix n (k + 1) v (by omega) (by omega) hC
      · rw [if_neg h0, set_id (by omega) (hC k (by omega) h0)]
        exact up42_fix n (k + 1) v (by omega) (by omega) hC
theorem up33 (n k : Nat) (v : Int32) (σ : Sg) : f_X2_groupsUpFrom_L33 u (n + 1) k v σ = if 6 ≤ nI k then v else f_X2_groupsUpFrom_L33 u n (k + 1) (f_X2_groupsUpFrom_L42 u 7 0 v σ) σ := rfl
theorem up33_all : ∀ (n k : Nat) (v : Int32), n + k = 7 → k ≤ 6 → Iu (σ 13 0) S v → (Cu (σ 13 0) v ∨ cz v + k ≤ 6) → Iu (σ 13 0) S (f_X2_groupsUpFrom_L33 u n k v σ) ∧ Cu (σ 13 0) (f_X2_groupsUpFrom_L33 u n k v σ)
  | 0, k, v, h, h6, _, _ => by omega
  | n + 1, k, v, h, h6, hI, hc => by
    rw [up33]
    by_cases hk : k = 6
    · rw [if_pos (nI6' hk)]
      refine ⟨hI, ?_⟩
      rcases hc with hc | hc
      · exact hc
      · exact fun g hg _ => cz_0 (by omega) hg
    · rw [if_neg (nI6 (by omega))]
      obtain ⟨a1, a2, a3⟩ := up42_all (u := u) 7 0 v rfl (by omega) hI
      refine up33_all n (k + 1) _ (by omega) (by omega) a1 ?_
      rcases hc with hc | hc
      · left
        rw [up42_fix 7 0 v rfl (by omega) hc]
        exact hc
      · by_cases e : f_X2_groupsUpFrom_L42 u 7 0 v σ = v
        · left
          rw [e]
          exact fun g hg hn => a3 e g (Nat.zero_le _) hg hn
        · right
          have := cz_lt a2 hI.1 a1.1 e
          omega
theorem up4 (n k : Nat) (v : Int32) (σ : Sg) : f_X2_groupsUpFrom_L4 u (n + 1) k v σ = if 6 ≤ nI k then v else f_X2_groupsUpFrom_L4 u n (k + 1) (v ||| ((((σ 12 0 k) >>> (u &&& 31)) &&& (1 : Int32)) <<< ((nI k) &&& 31))) σ := rfl
theorem up4_all {x : Nat} (hx : x < 6) : ∀ (n k : Nat) (v : Int32), n + k = 7 → k ≤ 6 → ∀ b : Nat, b < 32 → bt (f_X2_groupsUpFrom_L4 (nI x) n k v σ) b = (bt v b || (decide (k ≤ b ∧ b < 6) && bt (σ 12 0 b) x))
  | 0, k, v, h, h6, _, _ => by omega
  | n + 1, k, v, h, h6, b, hb => by
    rw [up4]
    by_cases hk : k = 6
    · rw [if_pos (nI6' hk), decide_eq_false (by omega)]
      simp
    · rw [if_neg (nI6 (by omega)), up4_all hx n (k + 1) _ (by omega) (by omega) b hb, b_or, hb_bt _ x (by omega)]
      have e1 : bt ((if bt (σ 12 0 k) x = true then (1 : Int32) else 0) <<< (nI k &&& 31)) b = (decide (b = k) && bt (σ 12 0 k) x) := by
        cases bt (σ 12 0 k) x
        · rw [if_neg (by decide), b_shl k (by omega) 0 hb, b_0]; simp
        · rw [if_pos rfl, bt_bit k (by omega) hb]; simp
      rw [e1]
      by_cases e : b = k
      · subst e
        simp [show b < 6 by omega, show ¬ b + 1 ≤ b by omega]
      · have e2 : decide (k + 1 ≤ b ∧ b < 6) = decide (k ≤ b ∧ b < 6) := decide_eq_decide.mpr ⟨fun q => ⟨by omega, q.2⟩, fun q => ⟨by omega, q.2⟩⟩
        rw [e2]
        simp [e]
end UP
/-- the groups that the class keeps -/
theorem upFrom_st {σ : Sg} (hu : ∀ g : Nat, g < 6 → S6 (σ 13 0 g)) {x : Nat} (hx : x < 6) : St (f_X2_groupsUpFrom (nI x) σ) (Up (σ 13 0) fun h => bt (σ 12 0 h) x = true) := by
  have h0 := up4_all (σ := σ) hx 7 0 0 rfl (by omega)
  have hI : Iu (σ 13 0) (fun h => bt (σ 12 0 h) x = true) (f_X2_groupsUpFrom_L4 (nI x) 7 0 0 σ) := by
    refine ⟨fun b hb h6 => ?_, fun h hh q => ?_, fun b hb q => ?_⟩
    · rw [h0 b hb, b_0, decide_eq_false (by omega)]; rfl
    · rw [h0 h (by omega), q]; simp [hh]
    · rw [h0 b (by omega), b_0] at q
      exact Up.sub hb (by simpa [hb] using q)
  have h1 := up33_all (u := nI x) 7 0 _ rfl (by omega) hI (Or.inr (cz_le _))
  exact h1.1.st h1.2
section DN
variable {σ : Sg} {u : Int32}
def Id9 (i : Nat → Int32) (g : Nat) (v : Int32) : Prop := S6 v ∧ bt v g = true ∧ ∀ b : Nat, b < 6 → bt v b = true → Dn i g b
def Cd (i : Nat → Int32) (v : Int32) : Prop := ∀ a : Nat, a < 6 → bt v a = true → ∀ b : Nat, b < 6 → bt (i a) b = true → bt v b = true
theorem Id9.st {i : Nat → Int32} {g : Nat} {v : Int32} (h : Id9 i g v) (hc : Cd i v) (hg : g < 6) : ∀ b : Nat, b < 6 → (bt v b = true ↔ Dn i g b) := fun b hb => ⟨h.2.2 b hb, fun q => (q (fun a => a < 6 ∧ bt v a = true) ⟨hg, h.2.1⟩ (fun a ha hT c hc9 hac => ⟨hc9, hc a ha hT.2 c hc9 hac⟩)).2⟩
theorem dn15 (n k : Nat) (v : Int32) (σ : Sg) : f_X2_groupsDownFrom_L15 u (n + 1) k v σ = if 6 ≤ nI k then v else if ((v >>> ((nI k) &&& 31)) &&& (1 : Int32)) = 0 then f_X2_groupsDownFrom_L15 u n (k + 1) v σ else f_X2_groupsDownFrom_L15 u n (k + 1) (v ||| (σ 13 0 k)) σ := rfl
theorem dn15_all (hu : ∀ g : Nat, g < 6 → S6 (σ 13 0 g)) {g : Nat} : ∀ (n k : Nat) (v : Int32), n + k = 7 → k ≤ 6 → Id9 (σ 13 0) g v → Id9 (σ 13 0) g (f_X2_groupsDownFrom_L15 u n k v σ) ∧ (∀ b : Nat, b < 6 → bt v b = true → bt (f_X2_groupsDownFrom_L15 u n k v σ) b = true) ∧ (f_X2_groupsDownFrom_L15 u n k v σ = v → ∀ a : Nat, k ≤ a → a < 6 → bt v a = true → ∀ b : Nat, b < 6 → bt (σ 13 0 a) b = true → bt v b = true)
  | 0, k, v, h, h6, _ => by omega
  | n + 1, k, v, h, h6, hI => by
    rw [dn15]
    by_cases hk : k = 6
    · rw [if_pos (nI6' hk)]
      exact ⟨hI, fun _ _ q => q, fun _ g g1 g2 => by omega⟩
    · rw [if_neg (nI6 (by omega)), hb_bt v k (by omega)]
      cases e9 : bt v k
      · rw [z0F]
        obtain ⟨a1, a2, a3⟩ := dn15_all hu n (k + 1) v (by omega) (by omega) hI
        refine ⟨a1, a2, fun e a g1 g2 hn => ?_⟩
        by_cases eg : a = k
        · subst eg; rw [e9] at hn; exact absurd hn (by decide)
        · exact a3 e a (by omega) g2 hn
      · rw [z1T]
        have hI2 : Id9 (σ 13 0) g (v ||| σ 13 0 k) := by
          obtain ⟨i1, i2, i3⟩ := hI
          refine ⟨fun b hb q => by rw [b_or, i1 b hb q, hu k (by omega) b hb q]; rfl, by rw [b_or, i2]; rfl, fun b hb q => ?_⟩
          rw [b_or] at q
          cases e2 : bt v b
          · rw [e2, Bool.false_or] at q
            exact Dn.step (show k < 6 by omega) hb (i3 k (by omega) e9) q
          · exact i3 b hb e2
        obtain ⟨a1, a2, a3⟩ := dn15_all hu n (k + 1) _ (by omega) (by omega) hI2
        refine ⟨a1, fun b hb q => a2 b hb (by rw [b_or, q]; rfl), fun e a g1 g2 hn b hb q => ?_⟩
        have es : v ||| σ 13 0 k = v := b_ext fun c hc => by
          rcases Nat.lt_or_ge c 6 with q6 | q6
          · cases e3 : bt (v ||| σ 13 0 k) c
            · rw [b_or] at e3
              cases e4 : bt v c
              · rfl
              · rw [e4] at e3; simp at e3
            · have := a2 c q6 e3
              rw [e] at this
              rw [this]
          · rw [hI2.1 c hc q6, hI.1 c hc q6]
        by_cases eg : a = k
        · subst eg
          rw [← es, b_or, q, Bool.or_true]
        · rw [es] at e a3
          exact a3 e a (by omega) g2 hn b hb q
theorem dn15_fix (hu : ∀ g : Nat, g < 6 → S6 (σ 13 0 g)) : ∀ (n k : Nat) (v : Int32), n + k = 7 → k ≤ 6 → S6 v → Cd (σ 13 0) v → f_X2_groupsDownFrom_L15 u n k v σ = v
  | 0, k, v, h, h6, _, _ => rfl
  | n + 1, k, v, h, h6, hS, hC => by
    rw [dn15]
    by_cases hk : k = 6
    · rw [if_pos (nI6' hk)]
    · rw [if_neg (nI6 (by omega)), hb_bt v k (by omega)]
      cases e9 : bt v k
      · rw [z0F]
        exact dn15_fix hu n (k + 1) v (by omega) (by omega) hS hC
      · rw [z1T]
        have es : v ||| σ 13 0 k = v := b_ext fun c hc => by
          rw [b_or]
          rcases Nat.lt_or_ge c 6 with q6 | q6
          · cases e3 : bt (σ 13 0 k) c
            · simp
            · rw [hC k (by omega) e9 c q6 e3]; rfl
          · rw [hS c hc q6, hu k (by omega) c hc q6]; rfl
        rw [es]
        exact dn15_fix hu n (k + 1) v (by omega) (by omega) hS hC
theorem dn6 (n k : Nat) (v : Int32) (σ : Sg) : f_X2_groupsDownFrom_L6 u (n + 1) k v σ = if 6 ≤ nI k then v else f_X2_groupsDownFrom_L6 u n (k + 1) (f_X2_groupsDownFrom_L15 u 7 0 v σ) σ := rfl
theorem dn6_all (hu : ∀ g : Nat, g < 6 → S6 (σ 13 0 g)) {g : Nat} : ∀ (n k : Nat) (v : Int32), n + k = 7 → k ≤ 6 → Id9 (σ 13 0) g v → (Cd (σ 13 0) v ∨ cz v + k ≤ 6) → Id9 (σ 13 0) g (f_X2_groupsDownFrom_L6 u n k v σ) ∧ Cd (σ 13 0) (f_X2_groupsDownFrom_L6 u n k v σ)
  | 0, k, v, h, h6, _, _ => by omega
  | n + 1, k, v, h, h6, hI, hc => by
    rw [dn6]
    by_cases hk : k = 6
    · rw [if_pos (nI6' hk)]
      refine ⟨hI, ?_⟩
      rcases hc with hc | hc
      · exact hc
      · exact fun _ _ _ b hb _ => cz_0 (by omega) hb
    · rw [if_neg (nI6 (by omega))]
      obtain ⟨a1, a2, a3⟩ := dn15_all (u := u) hu 7 0 v rfl (by omega) hI
      refine dn6_all hu n (k + 1) _ (by omega) (by omega) a1 ?_
      rcases hc with hc | hc
      · left
        rw [dn15_fix hu 7 0 v rfl (by omega) hI.1 hc]
        exact hc
      · by_cases e : f_X2_groupsDownFrom_L15 u 7 0 v σ = v
        · left
          rw [e]
          exact fun a ha hn b hb q => a3 e a (Nat.zero_le _) ha hn b hb q
        · right
          have := cz_lt a2 hI.1 a1.1 e
          omega
end DN
theorem S6.bit {g : Nat} (hg : g < 6) : S6 ((1 : Int32) <<< (nI g &&& 31)) := fun b hb h6 => by
  rw [bt_bit g (by omega) hb, decide_eq_false (by omega)]
theorem dnFrom_st {σ : Sg} (hu : ∀ g : Nat, g < 6 → S6 (σ 13 0 g)) {g : Nat} (hg : g < 6) : S6 (f_X2_groupsDownFrom (nI g) σ) ∧ ∀ b : Nat, b < 6 → (bt (f_X2_groupsDownFrom (nI g) σ) b = true ↔ Dn (σ 13 0) g b) := by
  have hI : Id9 (σ 13 0) g ((1 : Int32) <<< (nI g &&& 31)) := by
    refine ⟨S6.bit hg, by rw [bt_bit g (by omega) (by omega)]; simp, fun b hb q => ?_⟩
    rw [bt_bit g (by omega) (by omega)] at q
    have : b = g := by simpa using q
    subst this
    exact Dn.rf b
  have h1 := dn6_all (u := nI g) hu 7 0 _ rfl (by omega) hI (Or.inr (cz_le _))
  exact ⟨h1.1.1, h1.1.st h1.2 hg⟩
section MD
variable {σ : Sg} {S : Nat → Prop} {u : Int32}
theorem ab13 (n k : Nat) (v m : Int32) (σ : Sg) : f_X8_above_L13 u (n + 1) k v m σ = if 6 ≤ nI k then (v, m) else if (f_X8_hasBit v (nI k)) = 0 then (if ((σ 32 0 k) &&& v) = 0 then f_X8_above_L13 u n (k + 1) v m σ else f_X8_above_L13 u n (k + 1) (v ||| ((1 : Int32) <<< ((nI k) &&& 31))) 1 σ) else f_X8_above_L13 u n (k + 1) v m σ := rfl
theorem ab13_all : ∀ (n k : Nat) (v m : Int32), n + k = 7 → k ≤ 6 → Iu (σ 32 0) S v → Iu (σ 32 0) S (f_X8_above_L13 u n k v m σ).1 ∧ (∀ b : Nat, b < 6 → bt v b = true → bt (f_X8_above_L13 u n k v m σ).1 b = true) ∧ ((f_X8_above_L13 u n k v m σ).2 = 0 → m = 0 ∧ (f_X8_above_L13 u n k v m σ).1 = v ∧ ∀ g : Nat, k ≤ g → g < 6 → ¬ (σ 32 0 g &&& v = 0) → bt v g = true) ∧ (¬ (f_X8_above_L13 u n k v m σ).2 = 0 → ¬ m = 0 ∨ cz (f_X8_above_L13 u n k v m σ).1 < cz v)
  | 0, k, v, m, h, h6, _ => by omega
  | n + 1, k, v, m, h, h6, hI => by
    rw [ab13]
    by_cases hk : k = 6
    · rw [if_pos (nI6' hk)]
      exact ⟨hI, fun _ _ q => q, fun q => ⟨q, rfl, fun g g1 g2 => by omega⟩, fun q => Or.inl q⟩
    · rw [if_neg (nI6 (by omega)), hasBit_bt v (show k < 32 by omega)]
      cases e9 : bt v k
      · rw [z0F]
        by_cases h0 : σ 32 0 k &&& v = 0
        · rw [if_pos h0]
          obtain ⟨a1, a2, a3, a4⟩ := ab13_all n (k + 1) v m (by omega) (by omega) hI
          refine ⟨a1, a2, fun e => ?_, a4⟩
          obtain ⟨p1, p2, p3⟩ := a3 e
          refine ⟨p1, p2, fun g g1 g2 hn => ?_⟩
          by_cases eg : g = k
          · subst eg; exact absurd h0 hn
          · exact p3 g (by omega) g2 hn
        · rw [if_neg h0]
          obtain ⟨a1, a2, a3, a4⟩ := ab13_all n (k + 1) _ 1 (by omega) (by omega) (hI.set (show k < 6 by omega) h0)
          have mono : ∀ b : Nat, b < 6 → bt v b = true → bt (v ||| ((1 : Int32) <<< ((nI k) &&& 31))) b = true := fun b hb q => by
            rw [bt_set v k (by omega) (by omega), q]; rfl
          refine ⟨a1, fun b hb q => a2 b hb (mono b hb q), fun e => absurd (a3 e).1 (by decide), fun _ => Or.inr ?_⟩
          exact Nat.lt_of_le_of_lt (cz_mono a2) (cz_set1 (by omega) e9)
      · rw [z1T]
        obtain ⟨a1, a2, a3, a4⟩ := ab13_all n (k + 1) v m (by omega) (by omega) hI
        refine ⟨a1, a2, fun e => ?_, a4⟩
        obtain ⟨p1, p2, p3⟩ := a3 e
        refine ⟨p1, p2, fun g g1 g2 hn => ?_⟩
        by_cases eg : g = k
        · subst eg; exact e9
        · exact p3 g (by omega) g2 hn
theorem ab4_all : ∀ (n : Nat) (v m : Int32), Iu (σ 32 0) S v → ((m = 0 ∧ Cu (σ 32 0) v) ∨ (¬ m = 0 ∧ cz v + 1 < n)) → Iu (σ 32 0) S (f_X8_above_L4 u n v m σ) ∧ Cu (σ 32 0) (f_X8_above_L4 u n v m σ)
  | 0, v, m, hI, h => by
    rcases h with ⟨-, h⟩ | ⟨-, h⟩
    · exact ⟨hI, h⟩
    · omega
  | n + 1, v, m, hI, h => by
    show Iu _ _ (if m = 0 then v else f_X8_above_L4 u n (f_X8_above_L13 u 7 0 v 0 σ).1 (f_X8_above_L13 u 7 0 v 0 σ).2 σ) ∧ Cu _ (if m = 0 then v else f_X8_above_L4 u n (f_X8_above_L13 u 7 0 v 0 σ).1 (f_X8_above_L13 u 7 0 v 0 σ).2 σ)
    rcases h with ⟨h1, h⟩ | ⟨h1, h⟩
    · rw [if_pos h1]
      exact ⟨hI, h⟩
    · rw [if_neg h1]
      obtain ⟨a1, a2, a3, a4⟩ := ab13_all (u := u) 7 0 v 0 rfl (by omega) hI
      refine ab4_all n _ _ a1 ?_
      by_cases e : (f_X8_above_L13 u 7 0 v 0 σ).2 = 0
      · obtain ⟨-, p2, p3⟩ := a3 e
        left
        refine ⟨e, ?_⟩
        rw [p2]
        exact fun g hg hn => p3 g (Nat.zero_le _) hg hn
      · right
        rcases a4 e with q | q
        · exact absurd rfl q
        · exact ⟨e, by omega⟩
end MD
theorem above_st {σ : Sg} {v : Int32} (hv : S6 v) : St (f_X8_above v σ) (Up (σ 32 0) fun h => bt v h = true) := by
  have hI : Iu (σ 32 0) (fun h => bt v h = true) v := ⟨hv, fun _ _ q => q, fun b hb q => Up.sub hb q⟩
  have := cz_le v
  have h1 := ab4_all (u := v) 8 v 1 hI (Or.inr ⟨by decide, by omega⟩)
  exact h1.1.st h1.2
theorem go4_all {σ : Sg} {x : Nat} (hx : x < 6) : ∀ (n k : Nat) (v : Int32), n + k = 7 → k ≤ 6 → ∀ b : Nat, b < 32 → bt (f_X8_groupsOf_L4 (nI x) n k v σ) b = (bt v b || (decide (k ≤ b ∧ b < 6) && bt (σ 31 0 b) x))
  | 0, k, v, h, h6, _, _ => by omega
  | n + 1, k, v, h, h6, b, hb => by
    show bt (if 6 ≤ nI k then v else if (f_X8_hasBit (σ 31 0 k) (nI x)) = 0 then f_X8_groupsOf_L4 (nI x) n (k + 1) (v ||| (0 : Int32)) σ else f_X8_groupsOf_L4 (nI x) n (k + 1) (v ||| ((1 : Int32) <<< ((nI k) &&& 31))) σ) b = _
    by_cases hk : k = 6
    · rw [if_pos (nI6' hk), decide_eq_false (by omega)]
      simp
    · rw [if_neg (nI6 (by omega)), hasBit_bt _ (show x < 32 by omega)]
      have e2 : ¬ b = k → decide (k + 1 ≤ b ∧ b < 6) = decide (k ≤ b ∧ b < 6) := fun e => decide_eq_decide.mpr ⟨fun q => ⟨by omega, q.2⟩, fun q => ⟨by omega, q.2⟩⟩
      cases e9 : bt (σ 31 0 k) x
      · rw [z0F, go4_all hx n (k + 1) _ (by omega) (by omega) b hb, b_or, b_0]
        by_cases e : b = k
        · subst e
          simp [e9]
        · rw [e2 e]
          simp
      · rw [z1T, go4_all hx n (k + 1) _ (by omega) (by omega) b hb, bt_set _ k (by omega) hb]
        by_cases e : b = k
        · subst e
          simp [e9, show b < 6 by omega]
        · rw [e2 e]
          simp [e]
theorem groupsOf_st {σ : Sg} {x : Nat} (hx : x < 6) : St (f_X8_groupsOf (nI x) σ) (Up (σ 32 0) fun h => bt (σ 31 0 h) x = true) := by
  have h0 := go4_all (σ := σ) hx 7 0 0 rfl (by omega)
  have hS : S6 (f_X8_groupsOf_L4 (nI x) 7 0 0 σ) := fun b hb h6 => by
    rw [h0 b hb, b_0, decide_eq_false (by omega)]; rfl
  have h1 := above_st (σ := σ) hS
  intro b hb
  rw [f_X8_groupsOf]
  refine (h1 b hb).trans (and_congr_right fun _ => ?_)
  exact Up.congr (fun _ _ => rfl) (fun g hg => by rw [h0 g (by omega), b_0]; simp [hg]) b
section RG
variable {T P K N : Nat} {σ : Sg}
/-- both sides find the same groups -/
theorem RR.groups (h : RR T P K N σ) {x : Nat} (hx : x < 6) : f_X8_groupsOf (nI x) σ = σ 14 0 x := by
  obtain ⟨hm, hk⟩ := h.2.2.1
  have h1 := groupsOf_st (σ := σ) hx
  refine St.eq h1 fun b hb => (hk x hx b hb).trans (and_congr_right fun _ => ?_)
  exact Up.congr (fun g hg => (hm g hg).2.1.symm) (fun g hg => by rw [(hm g hg).1]) b
theorem RR.within (h : RR T P K N σ) {g x : Nat} (hg : g < 6) (hx : x < 6) : (f_X2_isWithin (nI g) (nI x) σ = 0) ↔ f_X8_hasBit (f_X8_above ((1 : Int32) <<< (nI g &&& 31)) σ) (nI x) = 0 := by
  obtain ⟨hm, -⟩ := h.2.2.1
  obtain ⟨-, d2⟩ := dnFrom_st (σ := σ) (fun a ha => (hm a ha).2.2.2) hx
  have a1 := above_st (σ := σ) (S6.bit hg)
  have key : bt (f_X2_groupsDownFrom (nI x) σ) g = true ↔ bt (f_X8_above ((1 : Int32) <<< (nI g &&& 31)) σ) x = true := by
    rw [d2 g hg, a1 x (by omega)]
    have e : Up (σ 32 0) (fun h => bt ((1 : Int32) <<< (nI g &&& 31)) h = true) x ↔ Up (σ 13 0) (fun h => h = g) x := Up.congr (fun a ha => (hm a ha).2.1) (fun a ha => by rw [bt_bit g (by omega) (by omega)]; simp) x
    rw [e, Up_Dn hx]
    constructor
    · exact fun q => ⟨hx, g, hg, rfl, q⟩
    · rintro ⟨-, c, -, rfl, q⟩
      exact q
  rw [f_X2_isWithin, hb_bt _ g (by omega), hasBit_bt _ (show x < 32 by omega)]
  cases e1 : bt (f_X2_groupsDownFrom (nI x) σ) g <;> cases e2 : bt (f_X8_above ((1 : Int32) <<< (nI g &&& 31)) σ) x <;> simp_all
end RG
/-! the class's search anew -/
section FA
variable {σ : Sg}
theorem fa2 : ∀ (n k : Nat) (σ : Sg), n + k = 7 → k ≤ 6 → ∀ x : Nat, s_X2_findAnew_L2 n k σ 15 0 x = if k ≤ x ∧ x < 6 then 0 else σ 15 0 x
  | 0, k, σ, h, h6, _ => by omega
  | n + 1, k, σ, h, h6, x => by
    show (if 6 ≤ nI k then σ else s_X2_findAnew_L2 n (k + 1) (us σ 15 0 k 0)) 15 0 x = _
    by_cases hk : k = 6
    · rw [if_pos (nI6' hk), if_neg (by omega)]
    · rw [if_neg (nI6 (by omega)), fa2 n (k + 1) _ (by omega) (by omega)]
      by_cases e : x = k
      · subst e
        rw [if_neg (by omega), if_pos (by omega)]
        exact us_h
      · have e2 : us σ 15 0 k 0 15 0 x = σ 15 0 x := us_j e
        rw [e2]
        by_cases q : k ≤ x ∧ x < 6
        · rw [if_pos q, if_pos (by omega)]
        · rw [if_neg q, if_neg (by omega)]
theorem fa46 {g c : Nat} (hg : g < 6) (hc : c < 6) {w : Int32} : ∀ (n k : Nat) (σ : Sg), n + k = 7 → k ≤ 6 → ∀ x : Nat, x < 6 → ∀ b : Nat, b < 32 → bt (s_X2_findAnew_L46 g c n k w σ 15 0 x) b = (bt (σ 15 0 x) b || (decide (k ≤ x) && (decide (b = g) && (bt w c && bt (σ 12 0 c) x))))
  | 0, k, σ, h, h6, _, _, _, _ => by omega
  | n + 1, k, σ, h, h6, x, hx, b, hb => by
    show bt ((if 6 ≤ nI k then σ else if ((w >>> ((nI c) &&& 31)) &&& (1 : Int32)) = 0 then s_X2_findAnew_L46 g c n (k + 1) w σ else if (((σ 12 0 c) >>> ((nI k) &&& 31)) &&& (1 : Int32)) = 0 then s_X2_findAnew_L46 g c n (k + 1) w σ else s_X2_findAnew_L46 g c n (k + 1) w (us σ 15 0 k ((σ 15 0 k) ||| ((1 : Int32) <<< ((nI g) &&& 31))))) 15 0 x) b = _
    by_cases hk : k = 6
    · rw [if_pos (nI6' hk), decide_eq_false (by omega)]
      simp
    · rw [if_neg (nI6 (by omega)), hb_bt w c (by omega), hb_bt _ k (by omega)]
      have e2 : ¬ x = k → decide (k + 1 ≤ x) = decide (k ≤ x) := fun e => decide_eq_decide.mpr ⟨fun q => by omega, fun q => by omega⟩
      cases e9 : bt w c
      · rw [z0F, fa46 hg hc n (k + 1) σ (by omega) (by omega) x hx b hb, e9]
        simp
      · rw [z1T]
        cases e8 : bt (σ 12 0 c) k
        · rw [z0F, fa46 hg hc n (k + 1) σ (by omega) (by omega) x hx b hb, e9]
          by_cases e : x = k
          · subst e
            simp [e8]
          · rw [e2 e]
        · rw [z1T, fa46 hg hc n (k + 1) _ (by omega) (by omega) x hx b hb, e9]
          have e12 : us σ 15 0 k ((σ 15 0 k) ||| ((1 : Int32) <<< ((nI g) &&& 31))) 12 0 c = σ 12 0 c := rfl
          rw [e12]
          by_cases e : x = k
          · subst e
            rw [us_h, bt_set _ g (by omega) hb]
            simp [e8, show ¬ x + 1 ≤ x by omega]
          · rw [e2 e, us_j e]
theorem fa46k {g c : Nat} {w : Int32} {n k : Nat} {σ : Sg} {kk : Nat} (h : kk ≠ 15) : s_X2_findAnew_L46 g c n k w σ kk = σ kk := fr_s_X2_findAnew_L46 g c h n k w σ
theorem fa37 {g : Nat} (hg : g < 6) {w : Int32} : ∀ (n k : Nat) (σ : Sg), n + k = 7 → k ≤ 6 → ∀ x : Nat, x < 6 → ∀ b : Nat, b < 32 → (bt (s_X2_findAnew_L37 g n k w σ 15 0 x) b = true ↔ bt (σ 15 0 x) b = true ∨ (b = g ∧ ∃ c : Nat, k ≤ c ∧ c < 6 ∧ bt w c = true ∧ bt (σ 12 0 c) x = true))
  | 0, k, σ, h, h6, _, _, _, _ => by omega
  | n + 1, k, σ, h, h6, x, hx, b, hb => by
    show bt ((if 6 ≤ nI k then σ else s_X2_findAnew_L37 g n (k + 1) w (s_X2_findAnew_L46 g k 7 0 w σ)) 15 0 x) b = true ↔ _
    by_cases hk : k = 6
    · rw [if_pos (nI6' hk)]
      exact ⟨fun q => Or.inl q, fun q => q.elim id fun ⟨_, c, c1, c2, _⟩ => by omega⟩
    · rw [if_neg (nI6 (by omega)), fa37 hg n (k + 1) _ (by omega) (by omega) x hx b hb, fa46 hg (by omega) 7 0 σ rfl (by omega) x hx b hb, fa46k (by decide)]
      simp only [Nat.zero_le, decide_true, Bool.true_and, Bool.or_eq_true, Bool.and_eq_true, decide_eq_true_eq]
      constructor
      · rintro ((q | ⟨q1, q2, q3⟩) | ⟨q1, c, c1, c2, c3⟩)
        · exact Or.inl q
        · exact Or.inr ⟨q1, k, Nat.le_refl _, by omega, q2, q3⟩
        · exact Or.inr ⟨q1, c, by omega, c2, c3⟩
      · rintro (q | ⟨q1, c, c1, c2, c3, c4⟩)
        · exact Or.inl (Or.inl q)
        · by_cases e : c = k
          · subst e
            exact Or.inl (Or.inr ⟨q1, c3, c4⟩)
          · exact Or.inr ⟨q1, c, by omega, c2, c3, c4⟩
theorem fa37k {g : Nat} {w : Int32} {n k : Nat} {σ : Sg} {kk : Nat} (h : kk ≠ 15) : s_X2_findAnew_L37 g n k w σ kk = σ kk := fr_s_X2_findAnew_L37 g h n k w σ
theorem fa23 : ∀ (n k : Nat) (σ : Sg), n + k = 7 → k ≤ 6 → (∀ g : Nat, g < 6 → S6 (σ 13 0 g)) → ∀ x : Nat, x < 6 → ∀ b : Nat, b < 32 → (bt (s_X2_findAnew_L23 n k σ 15 0 x) b = true ↔ bt (σ 15 0 x) b = true ∨ (k ≤ b ∧ b < 6 ∧ ∃ c : Nat, c < 6 ∧ Dn (σ 13 0) b c ∧ bt (σ 12 0 c) x = true))
  | 0, k, σ, h, h6, _, _, _, _, _ => by omega
  | n + 1, k, σ, h, h6, hu, x, hx, b, hb => by
    show bt ((if 6 ≤ nI k then σ else s_X2_findAnew_L23 n (k + 1) (s_X2_findAnew_L37 k 7 0 (f_X2_groupsDownFrom (nI k) σ) σ)) 15 0 x) b = true ↔ _
    by_cases hk : k = 6
    · rw [if_pos (nI6' hk)]
      exact ⟨fun q => Or.inl q, fun q => q.elim id fun ⟨c1, c2, _⟩ => by omega⟩
    · have d := dnFrom_st hu (show k < 6 by omega)
      rw [if_neg (nI6 (by omega)), fa23 n (k + 1) _ (by omega) (by omega) (by rw [fa37k (by decide)]; exact hu) x hx b hb, fa37 (by omega) 7 0 σ rfl (by omega) x hx b hb, fa37k (show 13 ≠ 15 by decide), fa37k (show 12 ≠ 15 by decide)]
      constructor
      · rintro ((q | ⟨q1, c, c1, c2, c3, c4⟩) | ⟨q1, q2, c, c1, c2, c3⟩)
        · exact Or.inl q
        · subst q1
          exact Or.inr ⟨Nat.le_refl _, by omega, c, c2, (d.2 c c2).mp c3, c4⟩
        · exact Or.inr ⟨by omega, q2, c, c1, c2, c3⟩
      · rintro (q | ⟨q1, q2, c, c1, c2, c3⟩)
        · exact Or.inl (Or.inl q)
        · by_cases e : b = k
          · subst e
            exact Or.inl (Or.inr ⟨rfl, c, Nat.zero_le _, c1, (d.2 c c1).mpr c2, c3⟩)
          · exact Or.inr ⟨by omega, q2, c, c1, c2, c3⟩
end FA
theorem RR.anew {T P K N : Nat} {σ : Sg} (h : RR T P K N σ) {x : Nat} (hx : x < 6) : s_X2_findAnew σ 15 0 x = σ 14 0 x := by
  obtain ⟨hm, hk⟩ := h.2.2.1
  have k12 : s_X2_findAnew_L2 7 0 σ 12 = σ 12 := fr_s_X2_findAnew_L2 (by decide) 7 0 σ
  have k13 : s_X2_findAnew_L2 7 0 σ 13 = σ 13 := fr_s_X2_findAnew_L2 (by decide) 7 0 σ
  refine St.eq (P := Up (σ 13 0) fun h => bt (σ 12 0 h) x = true) (fun b hb => ?_) (hk x hx)
  rw [s_X2_findAnew, fa23 7 0 _ rfl (by omega) (by rw [k13]; exact fun g hg => (hm g hg).2.2.2) x hx b hb, fa2 7 0 σ rfl (by omega) x, if_pos ⟨Nat.zero_le _, hx⟩, b_0, k13, k12]
  constructor
  · rintro (q | ⟨-, q2, c, c1, c2, c3⟩)
    · exact absurd q (by decide)
    · exact ⟨q2, (Up_Dn q2).mpr ⟨c, c1, c3, c2⟩⟩
  · rintro ⟨q2, q⟩
    obtain ⟨c, c1, c2, c3⟩ := (Up_Dn q2).mp q
    exact Or.inr ⟨Nat.zero_le _, q2, c, c1, c3, c2⟩
