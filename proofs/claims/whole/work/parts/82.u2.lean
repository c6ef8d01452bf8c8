/-! the first state -/
theorem rs_first {σ : Sg} (h : ∀ x ∈ Lm, σ x.1 x.2 = sI x.1 x.2) : RS σ := by
  have g : ∀ k i : Nat, (k, i) ∈ Lm → σ k i = sI k i := fun k i m => h (k, i) m
  have e1 := g 1 0 (by decide)
  have e7 := g 7 0 (by decide)
  have e8 := g 8 0 (by decide)
  have e11 := g 11 0 (by decide)
  have e12 := g 12 0 (by decide)
  have e13 := g 13 0 (by decide)
  have e14 := g 14 0 (by decide)
  have e31 := g 31 0 (by decide)
  have e32 := g 32 0 (by decide)
  have e34 := g 34 0 (by decide)
  have e35 := g 35 0 (by decide)
  have e36 := g 36 0 (by decide)
  have e37 := g 37 0 (by decide)
  have e38 := g 38 0 (by decide)
  have e39 := g 39 0 (by decide)
  have e40 := g 40 0 (by decide)
  have e41 := g 41 0 (by decide)
  have e42 := g 42 0 (by decide)
  have e43 := g 43 0 (by decide)
  have e44 := g 44 0 (by decide)
  have e45 := g 45 0 (by decide)
  have e16 := g 16 0 (by decide)
  have e17 := g 17 0 (by decide)
  have e46 := g 46 0 (by decide)
  have e47 := g 47 0 (by decide)
  have e49 := g 49 0 (by decide)
  have e50 := g 50 0 (by decide)
  have e51 := g 51 0 (by decide)
  have e52 := g 52 0 (by decide)
  have e53 := g 53 0 (by decide)
  have e54 := g 54 0 (by decide)
  have e55 := g 55 0 (by decide)
  have e56 := g 56 0 (by decide)
  have e58 := g 58 0 (by decide)
  have e59 := g 59 0 (by decide)
  have e60 := g 60 0 (by decide)
  have e61 := g 61 0 (by decide)
  have e62 := g 62 0 (by decide)
  have e63 := g 63 0 (by decide)
  have e64 := g 64 0 (by decide)
  have e65 := g 65 0 (by decide)
  have e66 := g 66 0 (by decide)
  have e73 := g 73 0 (by decide)
  have e5 : ∀ t : Nat, t < 12 → σ 5 t = sI 5 t := fun t ht => g 5 t ((show ∀ t : Nat, t < 12 → (5, t) ∈ Lm by decide) t ht)
  have e20 : ∀ t : Nat, t < 12 → σ 20 t = sI 20 t := fun t ht => g 20 t ((show ∀ t : Nat, t < 12 → (20, t) ∈ Lm by decide) t ht)
  have e0 : ∀ t : Nat, t < 8 → σ 0 t = sI 0 t := fun t ht => g 0 t ((show ∀ t : Nat, t < 8 → (0, t) ∈ Lm by decide) t ht)
  have e10 : ∀ t : Nat, t < 8 → σ 10 t = sI 10 t := fun t ht => g 10 t ((show ∀ t : Nat, t < 8 → (10, t) ∈ Lm by decide) t ht)
  have e6 : ∀ t : Nat, t < 10 → σ 6 t = sI 6 t := fun t ht => g 6 t ((show ∀ t : Nat, t < 10 → (6, t) ∈ Lm by decide) t ht)
  have b0 : ∀ b : Nat, bt (0 : Int32) b = false := fun b => by
    show (0 : BitVec 32).getLsbD b = false
    simp
  have z0 : ∀ n : Nat, 0 < n → nb n (0 : Int32) := fun n hn => ⟨0, hn, rfl⟩
  refine ⟨0, 0, 0, 0, ⟨by decide, by decide, by decide, by decide⟩, ?_, ?_, fun t ht => ?_, ?_, fun p hp => ?_, fun k hk => ?_, fun k hk => absurd hk (Nat.not_lt_zero _), ?_, ?_⟩
  · rw [e7, e8]
    exact ⟨rfl, rfl, rfl, rfl, rfl, rfl, rfl, rfl, rfl, rfl⟩
  · rw [e12, e13, e14, e31, e32]
    refine ⟨fun g hg => ⟨rfl, rfl, fun b _ _ => b0 b, fun b _ _ => b0 b⟩, fun x hx b hb => ⟨fun z => ?_, fun ⟨_, z⟩ => ?_⟩⟩
    · have z9 : bt (0 : Int32) b = true := z
      rw [b0] at z9
      exact absurd z9 (by decide)
    · exact (z (fun _ => False) (fun h _ w => by
        have w9 : bt (0 : Int32) x = true := w
        rw [b0] at w9
        exact absurd w9 (by decide)) (fun _ _ _ _ _ w => w)).elim
  · rw [e5 t ht, e20 t ht, e34, e35, e36, e37, e38, e39, e40, e41, e42, e43, e44, e45]
    refine ⟨⟨rfl, rfl, rfl, rfl, rfl, rfl⟩, fun h => absurd h (Nat.not_lt_zero _), ⟨z0 6 (by decide), z0 6 (by decide), z0 1024 (by decide), z0 4 (by decide), ⟨7, by decide, rfl⟩⟩, ⟨0, by decide, rfl, rfl, fun _ => 0, fun k hk => absurd hk (Nat.not_lt_zero _), fun k hk => absurd hk (Nat.not_lt_zero _), fun s hs => Or.inl ?_, fun s hs z => ?_⟩, fun _ => ⟨rfl, rfl⟩⟩
    · show (if s < 12 then (-1 : Int32) else 0) = -1
      rw [if_pos hs]
    · have z9 : bt (0 : Int32) s = true := z
      rw [b0] at z9
      exact absurd z9 (by decide)
  · rw [e16, e17, e46, e47]
    refine fun i hi => ⟨rfl, rfl, Or.inl ?_⟩
    show (if i < 16 then (-1 : Int32) else 0) = -1
    rw [if_pos hi]
  · rw [e0 p hp, e10 p hp, e49, e50, e51, e52, e53, e54, e55, e56]
    exact ⟨⟨rfl, rfl, rfl, rfl, rfl, rfl, rfl⟩, fun h => absurd h (Nat.not_lt_zero _), ⟨z0 6 (by decide), z0 4 (by decide), z0 8 (by decide), z0 8 (by decide)⟩, ⟨0, by decide, rfl, rfl⟩, fun _ => rfl⟩
  · rw [e6 k hk, e58, e59, e60, e61, e62, e63, e64, e65, e66]
    exact ⟨fun h => absurd h (Nat.not_lt_zero _), fun _ => rfl, z0 6 (by decide), z0 4 (by decide), z0 12 (by decide)⟩
  · rw [e1, e11, e8, e73]
    exact ⟨0, 0, by decide, by decide, rfl, rfl, rfl, rfl, rfl, fun q hq => absurd hq (Nat.not_lt_zero _)⟩
  · rw [e43, e45]
    exact fun i => ⟨show (0 : Int32) &&& 1 = 0 by decide, show (0 : Int32) &&& 1 = 0 by decide⟩
