section SIM3
variable {c : CS} {a : RS}
theorem append_eq {f mk kd pa va vb n : Nat} (hn : c 6 f 0 = n) (hl : n < 24) : w_X0_append c f mk kd pa va vb = su3 (su3 (su3 (su3 (su3 (su3 c 20 f n mk) 21 f n kd) 22 f n pa) 23 f n va) 24 f n vb) 6 f 0 (n + 1) := by
  unfold w_X0_append
  have : Int32.ofNat (r_X0_isFull c f) = 0 := by
    unfold r_X0_isFull; rw [hn, if_pos ((ofN_lt (by omega) (by decide)).mpr hl)]; rfl
  rw [if_pos this, hn]
theorem p_append {f mk kd pa va vb : Nat} (h : Sim c a) (hf : f < 3) (hl : a 4 f < 24) (hl3 : ∀ s, s < 3 → a 4 s ≤ 24) :
    Sim (w_X0_append c f mk kd pa va vb) (su2 (su2 (su2 (su2 (su2 (su2 a 5 (24 * f + a 4 f) mk) 6 (24 * f + a 4 f) kd) 7 (24 * f + a 4 f) pa) 8 (24 * f + a 4 f) va) 9 (24 * f + a 4 f) vb) 4 f (a 4 f + 1)) := by
  rw [append_eq (h f hf).1.2.2.2.2.1 hl]
  intro s hs
  obtain ⟨g1, g2, g3, g4, g5, g6, g7, g8⟩ := h s hs
  have := hl3 s hs
  refine ⟨?_, ?_, g3, g4, g5, g6, g7, g8⟩
  · unfold sA at *; grind [= su3a, = su2a']
  · intro j hj
    by_cases e : s = f
    · subst e
      have hj' : j < a 4 s + 1 := by simpa [su2] using hj
      have := g2 j
      simp only [su3, su2]
      by_cases e2 : j = a 4 s
      · subst e2; simp
      · have := this (by omega)
        have ne : ¬ 24 * s + j = 24 * s + a 4 s := by omega
        simp [e2, this]
    · have hj' : j < a 4 s := by simpa [su2, e] using hj
      have := g2 j hj'
      have ne : ¬ 24 * s + j = 24 * f + a 4 f := by omega
      simp [su3, su2, e, ne, this]
theorem p_prop {f o k : Nat} (h : Sim c a) (hf : f < 3) (ho : o < 3) (hk : k < a 4 o) (hl : a 4 f < 24) (hl3 : ∀ s, s < 3 → a 4 s ≤ 24) :
    Sim (w_X0_appendFrom c f o (k + 1)) (su2 (w_X7_copyEntry a (24 * o + k) (24 * f + a 4 f)) 4 f (a 4 f + 1)) := by
  have e6 : c 6 o 0 = a 4 o := (h o ho).1.2.2.2.2.1
  have := hl3 o ho
  have ew : w_X0_appendFrom c f o (k + 1) = w_X0_append c f (a 5 (24 * o + k)) (a 6 (24 * o + k)) (a 7 (24 * o + k)) (a 8 (24 * o + k)) (a 9 (24 * o + k)) := by
    unfold w_X0_appendFrom
    rw [if_neg (by rw [ofN_lt (by omega) (by decide)]; omega), if_neg (by rw [e6, ofN_lt (by omega) (by omega)]; omega)]
    have hb := (h o ho).2.1 k hk
    rw [show k + 1 - 1 = k by omega, hb.1, hb.2.1, hb.2.2.1, hb.2.2.2.1, hb.2.2.2.2]
  rw [ew]
  exact p_append h hf hl hl3
theorem copyEntry_su {y : RS} {f k s t m : Nat} : su2 (w_X7_copyEntry (su2 y 4 f k) s t) 4 f m = su2 (w_X7_copyEntry y s t) 4 f m := by
  funext k' j'
  unfold w_X7_copyEntry
  by_cases e4 : k' = 4
  · subst e4; by_cases ef : j' = f
    · subst ef; simp [su2]
    · simp [su2, ef]
  · simp only [su2]; simp [e4]
theorem p_len0 {f : Nat} (h : Sim c a) : Sim (su3 c 6 f 0 0) (su2 a 4 f 0) := by
  intro s hs
  obtain ⟨g1, g2, g3, g4, g5, g6, g7, g8⟩ := h s hs
  refine ⟨?_, ?_, g3, g4, g5, g6, g7, g8⟩
  · unfold sA at *; grind [= su3a, = su2a']
  · intro j hj
    by_cases e : s = f
    · subst e; simp [su2] at hj
    · have hj' : j < a 4 s := by simpa [su2, e] using hj
      exact g2 j hj'
theorem p_copy {f o n : Nat} (h : Sim c a) (hf : f < 3) (ho : o < 3) (hfo : f ≠ o) (hn : n ≤ a 4 o) (hl3 : ∀ s, s < 3 → a 4 s ≤ 24) :
    Sim (w_X0_becomeFirst c f o n) (w_X7_copy a o f n) := by
  have key : ∀ (d k : Nat) (x : CS) (y : RS), k + d = n → Sim x (su2 y 4 f k) → (∀ s, s ≠ f → y 4 s = a 4 s) → Sim (lpw_X0_becomeFirst_7 c f o n d (k + 1) x) (su2 (lpw_X7_copy_3 a o f n d k y) 4 f n) := by
    intro d
    induction d with
    | zero => intro k x y hk hS _; have : k = n := by omega
              subst this; exact hS
    | succ d ih =>
      intro k x y hk hS hy
      have ey : ∀ s, s ≠ f → su2 y 4 f k 4 s = a 4 s := by intro s hs; rw [show su2 y 4 f k 4 s = y 4 s by simp [su2, hs]]; exact hy s hs
      have e6 : x 6 o 0 = a 4 o := (hS o ho).1.2.2.2.2.1.trans (ey o (Ne.symm hfo))
      have h24 := hl3 o ho
      simp only [lpw_X0_becomeFirst_7, lpw_X7_copy_3]
      rw [if_neg (by rw [e6, ofN_lt (by omega) (by omega)]; omega)]
      have el : su2 y 4 f k 4 f = k := by simp [su2]
      have st := p_prop (f := f) (o := o) (k := k) hS hf ho (by rw [ey o (Ne.symm hfo)]; omega) (by rw [el]; omega) (by
        intro s hs; by_cases e : s = f
        · subst e; rw [el]; omega
        · rw [ey s e]; exact hl3 s hs)
      rw [el, copyEntry_su] at st
      exact ih (k + 1) _ _ (by omega) st (by intro s hs; rw [show w_X7_copyEntry y (24 * o + k) (24 * f + k) 4 s = y 4 s from rfl]; exact hy s hs)
  unfold w_X0_becomeFirst w_X7_copy
  exact key n 0 _ _ (by omega) (p_len0 h) (fun _ _ => rfl)
-- the tree's keys of one server alone
def TK (k : Nat) : Prop := k = 7 ∨ k = 8 ∨ k = 26 ∨ k = 27 ∨ k = 28 ∨ k = 29
theorem su3_ne {x : CS} {k i j v k' i' : Nat} (h : k' ≠ k ∨ i' ≠ i) : su3 x k i j v k' i' = x k' i' := by
  funext t; unfold su3
  rcases h with h | h
  · rw [if_neg h]
  · rw [if_neg h]; split <;> rfl
theorem fr_add {x : CS} {i pa va ow k' i' : Nat} (h : TK k' → i' ≠ i) : w_X5_add x i pa va ow k' i' = x k' i' := by
  unfold TK at h
  unfold w_X5_add; split
  · rfl
  · rw [su3_ne (by omega), su3_ne (by omega), su3_ne (by omega), su3_ne (by omega), su3_ne (by omega)]
theorem fr_remove {x : CS} {i at_ k' i' : Nat} (h : TK k' → i' ≠ i) : w_X5_remove x i at_ k' i' = x k' i' := by
  unfold TK at h
  unfold w_X5_remove
  rw [su3_ne (by omega), su3_ne (by omega), su3_ne (by omega), su3_ne (by omega), su3_ne (by omega)]
theorem fr_ccreate {x : CS} {i pa va ow k' i' : Nat} (h : TK k' → i' ≠ i) : w_X5_create x i pa va ow k' i' = x k' i' := by
  unfold w_X5_create
  repeat' split
  all_goals first | rfl | exact fr_add h
theorem fr_set {x : CS} {i pa va ve k' i' : Nat} (h : TK k' → i' ≠ i) : w_X5_set x i pa va ve k' i' = x k' i' := by
  unfold w_X5_set
  unfold TK at h
  repeat' split
  all_goals first | rfl | rw [su3_ne (by omega), su3_ne (by omega)]
theorem fr_delete {x : CS} {i pa ve k' i' : Nat} (h : TK k' → i' ≠ i) : w_X5_delete x i pa ve k' i' = x k' i' := by
  unfold w_X5_delete
  repeat' split
  all_goals first | rfl | exact fr_remove h
theorem fr_open {x : CS} {i v k' i' : Nat} (h : TK k' → i' ≠ i) : w_X5_open x i v k' i' = x k' i' := by
  unfold w_X5_open
  unfold TK at h
  repeat' split
  all_goals first | rfl | rw [su3_ne (by omega)]
theorem fr_close_lp {y : CS} {i v k' i' : Nat} (h : TK k' → i' ≠ i) : ∀ (d k : Nat) (x : CS), lpw_X5_close_18 y i v d k x k' i' = x k' i' := by
  intro d
  induction d with
  | zero => intro k x; rfl
  | succ d ih =>
    intro k x
    simp only [lpw_X5_close_18]
    split
    · rw [ih, fr_remove h]
    · exact ih _ _
theorem fr_close {x : CS} {i v k' i' : Nat} (h : TK k' → i' ≠ i) : w_X5_close x i v k' i' = x k' i' := by
  have h2 := h
  unfold TK at h2
  unfold w_X5_close
  repeat' split
  all_goals first | rfl | (rw [su3_ne (by omega), fr_close_lp h])
theorem fr_change {x : CS} {i kd pa va vb k' i' : Nat} (h : TK k' → i' ≠ i) : w_X5_change x i kd pa va vb k' i' = x k' i' := by
  unfold w_X5_change
  repeat' split
  all_goals first | exact fr_ccreate h | exact fr_set h | exact fr_delete h | exact fr_open h | exact fr_close h
theorem fr_apply_lp {y : CS} {i k k' i' : Nat} (h : (TK k' ∨ k' = 5 ∨ k' = 25) → i' ≠ i) : ∀ (d t : Nat) (x : CS), lpw_X3_applyUpTo_17 y i k d t x k' i' = x k' i' := by
  intro d
  induction d with
  | zero => intro t x; rfl
  | succ d ih =>
    intro t x
    simp only [lpw_X3_applyUpTo_17]
    rw [ih, su3_ne (by rcases Nat.decEq k' 5 with e | e; exact Or.inl e; exact Or.inr (h (Or.inr (Or.inl e)))), su3_ne (by rcases Nat.decEq k' 25 with e | e; exact Or.inl e; exact Or.inr (h (Or.inr (Or.inr e)))), fr_change (fun e => h (Or.inl e))]
theorem fr_apply {i k k' i' : Nat} (h : (TK k' ∨ k' = 5 ∨ k' = 25) → i' ≠ i) : w_X3_applyUpTo c i k k' i' = c k' i' := fr_apply_lp h _ _ _
theorem apply5_lp {y : CS} {i k : Nat} : ∀ (d t : Nat) (x : CS), lpw_X3_applyUpTo_17 y i k d t x 5 i 0 = if d = 0 then x 5 i 0 else t + d := by
  intro d
  induction d with
  | zero => intro t x; rfl
  | succ d ih =>
    intro t x
    simp only [lpw_X3_applyUpTo_17]
    rw [ih, su3_same]
    split <;> simp <;> omega
theorem apply5 {i k : Nat} (hk : k ≤ c 6 i 0) (h24 : c 6 i 0 ≤ 24) : w_X3_applyUpTo c i k 5 i 0 = max k (c 5 i 0) := by
  unfold w_X3_applyUpTo
  have e : (if Int32.ofNat (c 6 i 0) < Int32.ofNat k then c 6 i 0 else k) = k := by
    rw [if_neg]; rw [ofN_lt (by omega) (by omega)]; omega
  rw [e, apply5_lp]
  split <;> omega
theorem p_apply {f k : Nat} (h : Sim c a) (hf : f < 3) (hk : k ≤ a 4 f) (hl : a 4 f ≤ 24) : Sim (w_X3_applyUpTo c f k) (su2 a 3 f (max k (a 3 f))) := by
  intro s hs
  have g0 := h s hs
  have e6 : c 6 f 0 = a 4 f := (h f hf).1.2.2.2.2.1
  have e5 : c 5 f 0 = a 3 f := (h f hf).1.2.2.2.1
  have fr : ∀ k', k' ≠ 5 → k' ≠ 25 → ¬ TK k' → ∀ i', w_X3_applyUpTo c f k k' i' = c k' i' := fun k' h1 h2 h3 i' => fr_apply (fun e => by rcases e with e | e | e; exact absurd e h3; exact absurd e h1; exact absurd e h2)
  have nt : ∀ k', k' = 0 ∨ k' = 1 ∨ k' = 2 ∨ k' = 3 ∨ k' = 4 ∨ k' = 6 ∨ (9 ≤ k' ∧ k' ≤ 24) ∨ 30 ≤ k' → ∀ i', w_X3_applyUpTo c f k k' i' = c k' i' := fun k' hk' i' => fr k' (by omega) (by omega) (by unfold TK; omega) i'
  have f5 : w_X3_applyUpTo c f k 5 s 0 = su2 a 3 f (max k (a 3 f)) 3 s := by
    by_cases e : s = f
    · subst e; rw [apply5 (by omega) (by omega), e5]; simp [su2]
    · rw [congrFun (fr_apply (k' := 5) (i' := s) (fun _ => e)) 0]
      rw [show su2 a 3 f (max k (a 3 f)) 3 s = a 3 s by simp [su2, e]]
      exact g0.1.2.2.2.1
  obtain ⟨g1, g2, g3, g4, g5, g6, g7, g8⟩ := g0
  unfold Sone sA sB sC sD sU sW sE sF at *
  rw [f5]
  simp only [nt 0 (by decide), nt 1 (by decide), nt 2 (by decide), nt 3 (by decide), nt 4 (by decide), nt 6 (by decide), nt 9 (by decide), nt 10 (by decide), nt 11 (by decide), nt 12 (by decide), nt 13 (by decide), nt 14 (by decide), nt 15 (by decide), nt 16 (by decide), nt 17 (by decide), nt 18 (by decide), nt 20 (by decide), nt 21 (by decide), nt 22 (by decide), nt 23 (by decide), nt 24 (by decide), nt 30 (by decide), nt 31 (by decide), nt 32 (by decide), nt 33 (by decide), nt 34 (by decide)]
  exact ⟨⟨g1.1, g1.2.1, g1.2.2.1, trivial, g1.2.2.2.2⟩, g2, g3, g4, g5, g6, g7, g8⟩
end SIM3
