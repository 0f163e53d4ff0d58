section START0
theorem a00 {s : Nat} (hs : s < 3) : a0 0 s = 1 := by
  rcases (by omega : s = 0 ∨ s = 1 ∨ s = 2) with e | e | e <;> subst e <;> rfl
theorem inv0 : Inv 0 c0 a0 := by
  refine ⟨?_, ?_, ?_, ?_, ?_, ?_⟩
  · intro i hi
    refine ⟨?_, ?_, ?_, ?_, ?_, ?_, ?_, ?_⟩
    · show (0 : Nat) < 3; decide
    all_goals exact Nat.zero_le _
  · intro s hs
    have e := a00 hs
    refine ⟨⟨by rw [e]; rfl, rfl, rfl, rfl, rfl, rfl⟩, fun j hj => absurd hj (Nat.not_lt_zero _), ?_, ?_, ?_, ?_, fun _ => ⟨rfl, rfl, rfl, rfl, rfl, rfl, rfl⟩, ?_⟩
    all_goals (intro q; rw [e] at q; omega)
  · refine ⟨0, fun _ => 3, fun _ => 3, fun e => e = 0, fun _ _ => (0, 0, 0, 0, 0), fun _ => 0, fun _ => 0, 0, fun _ => (0, 0, 0, 0, 0), 0, fun _ _ => 0, ?_⟩
    have r1 : ∀ s, s < 3 → sc a0 0 s = 1 := fun s hs => a00 hs
    have no2 : ∀ {P : Prop} s, s < 3 → sc a0 0 s = 2 → P := fun s hs q => by rw [r1 s hs] at q; omega
    have K : ∀ l, jK (sc a0) (fun e => e = 0) (fun _ _ => ((0, 0, 0, 0, 0) : XE)) (fun _ => 0) 0 (fun _ => ((0, 0, 0, 0, 0) : XE)) l 0 := fun l => ⟨Nat.le_refl _, fun i hi => absurd hi (Nat.not_lt_zero _), fun e _ _ => ⟨Nat.le_refl _, fun i hi => absurd hi (Nat.not_lt_zero _)⟩⟩
    refine ⟨?_, ?_, ?_, ?_, ?_, ?_, ?_, ?_, ?_, ?_, ?_, ?_, ?_⟩
    · intro s hs; rw [r1 s hs]; exact ⟨by decide, Nat.le_refl 0, Nat.zero_le 24, Nat.le_refl 0⟩
    · intro s hs q; exact no2 s hs q
    · intro s hs q; rw [r1 s hs] at q; omega
    · intro s hs; exact ⟨rfl, Nat.le_refl 0, Nat.le_refl 0, fun j hj => absurd hj (Nat.not_lt_zero _)⟩
    · exact ⟨rfl, fun e he => ⟨by rw [he]; exact Nat.le_refl 0, Nat.le_refl 0, fun j hj => absurd hj (Nat.not_lt_zero _), fun i j _ hj => absurd hj (Nat.not_lt_zero _)⟩⟩
    · exact ⟨fun q => absurd q (by decide), 0, 1, by decide, ⟨by decide, Or.inr ⟨rfl, rfl⟩⟩, ⟨by decide, Or.inr ⟨rfl, rfl⟩⟩⟩
    · exact ⟨Nat.le_refl 0, rfl, fun e _ _ => ⟨Nat.le_refl 0, fun j hj => absurd hj (Nat.not_lt_zero _)⟩, fun e _ _ => Nat.le_refl 0⟩
    · exact ⟨0, 1, by decide, ⟨by decide, Nat.zero_le _, Nat.zero_le _⟩, ⟨by decide, Nat.zero_le _, Nat.zero_le _⟩⟩
    · intro s hs; exact K s
    · intro s hs q; exact no2 s hs q
    · intro s hs q; exact no2 s hs q
    · intro s hs q; exact no2 s hs q
    · intro s hs q; exact no2 s hs q
  · intro s hs; exact TR_zero rfl rfl rfl
  · intro s hs j hj; exact absurd hj (Nat.not_lt_zero _)
  · intro s hs
    have e := a00 hs
    exact ⟨Nat.le_refl 0, Nat.zero_le _, Nat.zero_le _, Nat.zero_le _, Nat.zero_le _, by show (0 : Nat) < 3; decide, fun q => by rw [e] at q; omega, fun _ => ⟨rfl, rfl, rfl, rfl⟩⟩
end START0
