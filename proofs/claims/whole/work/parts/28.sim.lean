section SIM
def sA (c : CS) (a : RS) (s : Nat) : Prop := c 3 s 0 = a 0 s ∧ c 1 s 0 = a 1 s ∧ c 2 s 0 = a 2 s ∧ c 5 s 0 = a 3 s ∧ c 6 s 0 = a 4 s ∧ c 0 s 0 = s
def sB (c : CS) (a : RS) (s : Nat) : Prop := ∀ j, j < a 4 s → c 20 s j = a 5 (24 * s + j) ∧ c 21 s j = a 6 (24 * s + j) ∧ c 22 s j = a 7 (24 * s + j) ∧ c 23 s j = a 8 (24 * s + j) ∧ c 24 s j = a 9 (24 * s + j)
def sC (c : CS) (a : RS) (s : Nat) : Prop := 3 ≤ a 0 s → c 16 s 0 = (if a 10 s = 0 then 0 else 1) ∧ c 17 s 0 = a 11 s ∧ c 18 s 0 = a 12 s
def sD (c : CS) (a : RS) (s : Nat) : Prop := a 0 s = 2 → c 4 s 0 = a 14 s ∧ c 11 s 0 = a 15 s ∧ c 9 s 0 = a 16 s ∧ c 10 s 0 = a 17 s ∧ c 13 s 0 = a 20 s ∧ c 12 s 0 = a 21 s ∧ c 15 s 0 = a 24 s ∧ c 14 s 0 = a 25 s
def sU (c : CS) (a : RS) (s : Nat) : Prop := a 0 s = 2 → ∀ j, j < a 20 s → c 30 s j = a 18 (64 * s + j) ∧ c 31 s j = a 19 (64 * s + j)
def sW (c : CS) (a : RS) (s : Nat) : Prop := a 0 s = 2 → ∀ j, j < a 24 s → c 32 s j = a 22 (64 * s + j) ∧ c 33 s j = a 23 (64 * s + j) + (if a 22 (64 * s + j) = 6 then 1 else 0)
def sE (c : CS) (a : RS) (s : Nat) : Prop := a 0 s ≠ 2 → c 9 s 0 = 0 ∧ c 10 s 0 = 0 ∧ c 11 s 0 = 0 ∧ c 12 s 0 = 0 ∧ c 13 s 0 = 0 ∧ c 14 s 0 = 0 ∧ c 15 s 0 = 0
def sF (c : CS) (a : RS) (s : Nat) : Prop := a 0 s = 4 → ∀ b, b < 5 → c 34 s b = a 13 (5 * s + b) ∧ c 34 s b ≤ 3
def Sone (c : CS) (a : RS) (s : Nat) : Prop := sA c a s ∧ sB c a s ∧ sC c a s ∧ sD c a s ∧ sU c a s ∧ sW c a s ∧ sE c a s ∧ sF c a s
def Sim (c : CS) (a : RS) : Prop := ∀ s, s < 3 → Sone c a s
theorem su3a {c : CS} {k i j v k' i' j' : Nat} : su3 c k i j v k' i' j' = if k' = k then (if i' = i then (if j' = j then v else c k' i' j') else c k' i' j') else c k' i' j' := rfl
theorem su2a' {a : RS} {k j v k' j' : Nat} : su2 a k j v k' j' = if k' = k then (if j' = j then v else a k' j') else a k' j' := rfl
theorem p_sendD {c : CS} {a : RS} {f kd vl vr : Nat} (h : Sim c a) (hf : f < 3) (hr : a 0 f = 2) (hb : a 24 f < 51) (hb3 : ∀ s, s < 3 → a 24 s ≤ 64) (hv : vl = vr + (if kd = 6 then 1 else 0)) : Sim (w_X2_send_d c f kd vl) (w_X7_sendDown a f kd vr) := by
  have hd := (h f hf).2.2.2.1 hr
  have e15 : c 15 f 0 = a 24 f := hd.2.2.2.2.2.2.1
  have ew : w_X2_send_d c f kd vl = su3 (su3 (su3 c 32 f (a 24 f) kd) 33 f (a 24 f) vl) 15 f 0 (a 24 f + 1) := by
    unfold w_X2_send_d; rw [e15, if_neg (by rw [ofN_le (by decide) (by omega)]; omega)]
  rw [ew]
  unfold w_X7_sendDown
  intro s hs
  obtain ⟨g1, g2, g3, g4, g5, g6, g7, g8⟩ := h s hs
  have := hb3 s hs
  refine ⟨g1, g2, g3, ?_, g5, ?_, ?_, g8⟩
  · intro h2; have := g4 h2; grind [= su3a, = su2a']
  · intro h2 j hj; have := g6 h2 j; grind [= su3a, = su2a']
  · intro h2; have := g7 h2; grind [= su3a, = su2a']
end SIM
