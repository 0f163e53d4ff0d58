section PR
variable {X : Type} (mk : X → Nat) (a : Nat → Nat → Nat) (q : Nat → Nat → Nat → Nat) (lg : Nat → Nat → X)
variable (top : Nat) (own vt : Nat → Nat) (sett : Nat → Prop) (H : Nat → Nat → X) (HL I : Nat → Nat) (cl : Nat) (cm : Nat → X) (ce : Nat) (n : Nat → Nat → Nat)
def jB : Prop := ∀ s, s < 3 → a 0 s ≤ 4 ∧ a 2 s ≤ a 1 s ∧ a 4 s ≤ 24 ∧ a 3 s ≤ a 4 s
def jF : Prop := ∀ s, s < 3 → a 0 s = 2 → a 14 s < 3 ∧ a 14 s ≠ s ∧ 3 ≤ a 0 (a 14 s)
def jL : Prop := ∀ s, s < 3 → 3 ≤ a 0 s →
  (a 10 s ≠ 0 → a 10 s = a 1 s ∧ vt s = s) ∧
  (a 11 s ≠ 0 → a 10 s ≠ 0 ∧ a 2 s = a 1 s ∧ own (a 2 s) = s ∧ a 4 s = HL (a 2 s) ∧ a 12 s + I (a 2 s) ≤ HL (a 2 s) ∧ ∀ j, j < HL (a 2 s) → mk (H (a 2 s) j) ≤ 1000 * a 2 s + a 12 s) ∧
  (a 0 s = 4 → a 11 s ≠ 0) ∧
  (a 10 s ≠ 0 → own top = s → a 1 s = top → a 11 s ≠ 0) ∧ (a 11 s = 0 → a 12 s = 0)
def jG : Prop := ∀ s, s < 3 → sett (a 2 s) ∧ a 4 s ≤ HL (a 2 s) ∧ I (a 2 s) ≤ a 4 s ∧ ∀ j, j < a 4 s → lg s j = H (a 2 s) j
def jH : Prop := sett top ∧ ∀ e, sett e → e ≤ top ∧ I e ≤ HL e ∧ (∀ j, j < HL e → 1 ≤ mk (H e j) ∧ mk (H e j) < 1000 * (e + 1)) ∧ ∀ i j, i < j → j < HL e → mk (H e i) < mk (H e j)
def jW (s : Nat) : Prop := s < 3 ∧ (top < a 1 s ∨ a 1 s = top ∧ vt s = own top)
def jV : Prop := (own top < 3 → top ≤ a 1 (own top)) ∧ ∃ x y, x ≠ y ∧ jW a top own vt x ∧ jW a top own vt y
def jC : Prop := ce ≤ top ∧ sett ce ∧ (∀ e, sett e → ce ≤ e → cl ≤ HL e ∧ ∀ j, j < cl → H e j = cm j) ∧ (∀ e, sett e → ce < e → cl ≤ I e)
def jg (s : Nat) : Prop := s < 3 ∧ ce ≤ a 2 s ∧ cl ≤ a 4 s
def jQ : Prop := ∃ x y, x ≠ y ∧ jg a cl ce x ∧ jg a cl ce y
def jK (l k : Nat) : Prop := k ≤ cl ∧ (∀ i, i < k → H (a 2 l) i = cm i) ∧ ∀ e, sett e → a 2 l < e → k ≤ I e ∧ ∀ i, i < k → H e i = cm i
def jA : Prop := ∀ s, s < 3 → jK a sett H I cl cm s (a 3 s)
def jM1 : Prop := ∀ f, f < 3 → a 0 f = 2 → a 21 f ≤ a 20 f ∧ a 25 f ≤ a 24 f ∧ 1 ≤ a 20 f ∧ (a 21 f = 0 → a 24 f = 0) ∧ (1 ≤ a 21 f → 1 ≤ a 24 f) ∧
  (1 ≤ a 24 f → a 10 (a 14 f) ≠ 0 ∧ q 22 f 0 = 4 ∧ q 23 f 0 = a 1 (a 14 f)) ∧
  (a 25 f = 0 → a 20 f = 1) ∧ (1 ≤ a 25 f → 2 ≤ a 20 f ∧ a 1 f = a 1 (a 14 f)) ∧ (2 ≤ a 20 f → q 19 f 1 = 1 → vt f = a 14 f) ∧
  (a 16 f = 0 → a 24 f ≤ 1) ∧ (a 25 f ≤ 1 → a 20 f ≤ 2) ∧ (a 15 f ≠ 0 → a 16 f = 0 ∧ 2 ≤ a 21 f) ∧ a 17 f ≤ 1 ∧
  q 18 f 0 = 1 ∧ (2 ≤ a 20 f → q 18 f 1 = 2)
def jM2 : Prop := ∀ f, f < 3 → a 0 f = 2 → a 16 f ≠ 0 → 2 ≤ a 21 f ∧ a 11 (a 14 f) ≠ 0 ∧ 2 ≤ a 24 f ∧ q 22 f 1 = 5 ∧ I (a 2 (a 14 f)) ≤ q 23 f 1 ∧ q 23 f 1 ≤ a 4 (a 14 f) ∧
  n f 2 = q 23 f 1 ∧ n f (a 24 f) = a 4 (a 14 f) ∧ a 24 f + q 23 f 1 ≤ 2 + a 4 (a 14 f) + a 3 (a 14 f) + a 17 f ∧
  (a 25 f ≤ 1 → a 2 f = a 2 (a 14 f) → a 4 f ≤ q 23 f 1)
def jM3 : Prop := ∀ f, f < 3 → a 0 f = 2 → 2 ≤ a 25 f → a 2 f = a 2 (a 14 f) ∧ 3 ≤ a 20 f ∧ a 4 f = n f (a 25 f) ∧ a 20 f ≤ 3 + a 4 f ∧ ∀ j, 2 ≤ j → j < a 20 f → q 18 f j = 3 ∧ q 19 f j ≤ a 4 f
def jM4 : Prop := ∀ f, f < 3 → a 0 f = 2 → ∀ j, 2 ≤ j → j < a 24 f → n f j ≤ n f (j + 1) ∧ ((q 22 f j = 6 ∧ q 23 f j = n f j ∧ n f (j + 1) = n f j + 1) ∨
  (q 22 f j = 7 ∧ q 23 f j ≤ n f j ∧ n f (j + 1) = n f j ∧ jK a sett H I cl cm (a 14 f) (q 23 f j)))
def JG : Prop := jB a ∧ jF a ∧ jL mk a top own vt H HL I ∧ jG a lg sett H HL I ∧ jH mk top sett H HL I ∧ jV a top own vt ∧ jC top sett H HL I cl cm ce ∧ jQ a cl ce ∧ jA a sett H I cl cm ∧ jM1 a q vt ∧ jM2 a q I n ∧ jM3 a q n ∧ jM4 a q sett H I cl cm n
end PR
def u2 (a : Nat → Nat → Nat) (k s v : Nat) : Nat → Nat → Nat := fun k' s' => if k' = k ∧ s' = s then v else a k' s'
def u3 (q : Nat → Nat → Nat → Nat) (k s j v : Nat) : Nat → Nat → Nat → Nat := fun k' s' j' => if k' = k ∧ s' = s ∧ j' = j then v else q k' s' j'
theorem u2a (a : Nat → Nat → Nat) (k s v k' s' : Nat) : u2 a k s v k' s' = if k' = k ∧ s' = s then v else a k' s' := rfl
theorem u3a (q : Nat → Nat → Nat → Nat) (k s j v k' s' j' : Nat) : u3 q k s j v k' s' j' = if k' = k ∧ s' = s ∧ j' = j then v else q k' s' j' := rfl
section PR
variable {X : Type} {mk : X → Nat} {a : Nat → Nat → Nat} {q : Nat → Nat → Nat → Nat} {lg : Nat → Nat → X}
variable {top : Nat} {own vt : Nat → Nat} {sett : Nat → Prop} {H : Nat → Nat → X} {HL I : Nat → Nat} {cl : Nat} {cm : Nat → X} {ce : Nat} {n : Nat → Nat → Nat}
theorem pt_role (h : JG mk a q lg top own vt sett H HL I cl cm ce n) (s v : Nat) (hv : v ≤ 1) (hs : ∀ f, f < 3 → a 0 f = 2 → a 14 f ≠ s) : JG mk (u2 a 0 s v) q lg top own vt sett H HL I cl cm ce n := by
  obtain ⟨hB, hF, hL, hG, hH, hV, hC, hQ, hA, h1, h2, h3, h4⟩ := h
  refine ⟨?_, ?_, ?_, hG, hH, hV, hC, hQ, hA, ?_, ?_, ?_, ?_⟩
  · intro x hx; have := hB x hx; grind [= u2a]
  · intro x hx hr; have := hF x hx; have := hs x hx; grind [= u2a]
  · intro x hx hr
    have e : x ≠ s := by grind [= u2a]
    have e0 : u2 a 0 s v 0 x = a 0 x := by grind [= u2a]
    rw [e0] at hr
    have := hL x hx hr
    rw [e0]; exact this
  · intro x hx hr; have := h1 x hx; exact this (by grind [= u2a])
  · intro x hx hr; have := h2 x hx; exact this (by grind [= u2a])
  · intro x hx hr; have := h3 x hx; exact this (by grind [= u2a])
  · intro x hx hr; have := h4 x hx; exact this (by grind [= u2a])
theorem pt_app0 (h : JG mk a q lg top own vt sett H HL I cl cm ce n) (s : Nat) (hr : a 0 s ≤ 1) : JG mk (u2 a 3 s 0) q lg top own vt sett H HL I cl cm ce n := by
  obtain ⟨hB, hF, hL, hG, hH, hV, hC, hQ, hA, h1, h2, h3, h4⟩ := h
  refine ⟨?_, hF, hL, hG, hH, hV, hC, hQ, ?_, h1, ?_, h3, h4⟩
  · intro x hx; have := hB x hx; grind [= u2a]
  · intro x hx; by_cases e : x = s
    · have e0 : u2 a 3 s 0 3 x = 0 := by grind [= u2a]
      rw [e0]
      exact ⟨Nat.zero_le _, fun i hi => absurd hi (Nat.not_lt_zero _), fun e _ _ => ⟨Nat.zero_le _, fun i hi => absurd hi (Nat.not_lt_zero _)⟩⟩
    · have e0 : u2 a 3 s 0 3 x = a 3 x := by grind [= u2a]
      rw [e0]; exact hA x hx
  · intro x hx hr ht
    have := h2 x hx hr ht
    have hf := hF x hx hr
    have e0 : u2 a 3 s 0 3 (a 14 x) = a 3 (a 14 x) := by grind [= u2a]
    show 2 ≤ a 21 x ∧ a 11 (a 14 x) ≠ 0 ∧ 2 ≤ a 24 x ∧ q 22 x 1 = 5 ∧ I (a 2 (a 14 x)) ≤ q 23 x 1 ∧ q 23 x 1 ≤ a 4 (a 14 x) ∧ n x 2 = q 23 x 1 ∧ n x (a 24 x) = a 4 (a 14 x) ∧ a 24 x + q 23 x 1 ≤ 2 + a 4 (a 14 x) + u2 a 3 s 0 3 (a 14 x) + a 17 x ∧ (a 25 x ≤ 1 → a 2 x = a 2 (a 14 x) → a 4 x ≤ q 23 x 1)
    rw [e0]; exact this
theorem pt_link (h : JG mk a q lg top own vt sett H HL I cl cm ce n) (k s v : Nat) (hk : k = 15 ∨ k = 16 ∨ k = 17 ∨ k = 20 ∨ k = 21 ∨ k = 24 ∨ k = 25) (hr : a 0 s ≠ 2) : JG mk (u2 a k s v) q lg top own vt sett H HL I cl cm ce n := by
  obtain ⟨hB, hF, hL, hG, hH, hV, hC, hQ, hA, h1, h2, h3, h4⟩ := h
  have e : ∀ x, a 0 x = 2 → ∀ k', u2 a k s v k' x = a k' x := by intro x hx k'; grind [= u2a]
  have e' : ∀ k' x, k' < 15 → u2 a k s v k' x = a k' x := by intro x hx k'; grind [= u2a]
  refine ⟨?_, ?_, ?_, ?_, hH, ?_, hC, ?_, ?_, ?_, ?_, ?_, ?_⟩
  · simpa [jB, e'] using hB
  · simpa [jF, e'] using hF
  · simpa [jL, e'] using hL
  · simpa [jG, e'] using hG
  · simpa [jV, jW, e'] using hV
  · simpa [jQ, jg, e'] using hQ
  · simpa [jA, jK, e'] using hA
  · intro x hx hr; rw [e' 0 x (by omega)] at hr; have := h1 x hx hr; simp only [e x hr, e' _ (a 14 x) (by omega : 10 < 15), e' _ (a 14 x) (by omega : 1 < 15)]; exact this
  · intro x hx hr; rw [e' 0 x (by omega)] at hr; have := h2 x hx hr; simp only [e x hr, e' _ (a 14 x) (by omega : 2 < 15), e' _ (a 14 x) (by omega : 4 < 15), e' _ (a 14 x) (by omega : 3 < 15), e' _ (a 14 x) (by omega : 11 < 15)]; exact this
  · intro x hx hr; rw [e' 0 x (by omega)] at hr; have := h3 x hx hr; simp only [e x hr, e' _ (a 14 x) (by omega : 2 < 15)]; exact this
  · intro x hx hr; rw [e' 0 x (by omega)] at hr; have := h4 x hx hr; simp only [e x hr, jK, e' _ (a 14 x) (by omega : 2 < 15)]; exact this
theorem pt_lead (h : JG mk a q lg top own vt sett H HL I cl cm ce n) (s : Nat) (hs : s < 3) (hr : a 0 s ≤ 1) : JG mk (u2 (u2 (u2 (u2 a 0 s 3) 10 s 0) 11 s 0) 12 s 0) q lg top own vt sett H HL I cl cm ce n := by
  obtain ⟨hB, hF, hL, hG, hH, hV, hC, hQ, hA, h1, h2, h3, h4⟩ := h
  have hr2 : ∀ x, (u2 (u2 (u2 (u2 a 0 s 3) 10 s 0) 11 s 0) 12 s 0) 0 x = 2 → a 0 x = 2 := by grind [= u2a]
  have hk : ∀ x, x < 3 → a 0 x = 2 → ∀ k, u2 (u2 (u2 (u2 a 0 s 3) 10 s 0) 11 s 0) 12 s 0 k (a 14 x) = a k (a 14 x) := by
    intro x hx hr k; have := hF x hx hr; grind [= u2a]
  refine ⟨?_, ?_, ?_, hG, hH, hV, hC, hQ, hA, ?_, ?_, ?_, ?_⟩
  · intro x hx; have := hB x hx; grind [= u2a]
  · intro x hx hr; have := hF x hx; grind [= u2a]
  · intro x hx hr; by_cases e : x = s
    · subst e; refine ⟨?_, ?_, ?_, ?_, ?_⟩ <;> grind [= u2a]
    · have e0 : ∀ k, u2 (u2 (u2 (u2 a 0 s 3) 10 s 0) 11 s 0) 12 s 0 k x = a k x := by grind [= u2a]
      simp only [e0] at *
      exact hL x hx hr
  · intro x hx hr; have := h1 x hx (hr2 x hr); have e := hk x hx (hr2 x hr); have e1 := e 10; have e2 := e 1
    change _ at this
    refine ⟨this.1, this.2.1, this.2.2.1, this.2.2.2.1, this.2.2.2.2.1, ?_, this.2.2.2.2.2.2.1, this.2.2.2.2.2.2.2⟩
    intro hd; have := this.2.2.2.2.2.1 hd; exact ⟨by rw [show u2 (u2 (u2 (u2 a 0 s 3) 10 s 0) 11 s 0) 12 s 0 14 x = a 14 x from rfl, e1]; exact this.1, this.2⟩
  · intro x hx hr ht; have := h2 x hx (hr2 x hr) ht; have e := hk x hx (hr2 x hr) 11
    refine ⟨this.1, ?_, this.2.2⟩
    rw [show u2 (u2 (u2 (u2 a 0 s 3) 10 s 0) 11 s 0) 12 s 0 14 x = a 14 x from rfl, e]; exact this.2.1
  · intro x hx hr; exact h3 x hx (hr2 x hr)
  · intro x hx hr; exact h4 x hx (hr2 x hr)
end PR
section PR
variable {X : Type} {mk : X → Nat} {a b : Nat → Nat → Nat} {q r : Nat → Nat → Nat → Nat} {lg : Nat → Nat → X}
variable {top : Nat} {own vt : Nat → Nat} {sett : Nat → Prop} {H : Nat → Nat → X} {HL I : Nat → Nat} {cl : Nat} {cm : Nat → X} {ce : Nat} {n : Nat → Nat → Nat}
-- follow: role, leader and link of s, which was looking
theorem pt_follow (h : JG mk a q lg top own vt sett H HL I cl cm ce n) (s l : Nat) (hs : s < 3) (hl : l < 3) (hr : a 0 s ≤ 1) (hrl : 3 ≤ a 0 l)
    (k0 : b 0 s = 2 ∧ b 14 s = l ∧ b 15 s = 0 ∧ b 16 s = 0 ∧ b 17 s = 0 ∧ b 20 s = 1 ∧ b 21 s = 0 ∧ b 24 s = 0 ∧ b 25 s = 0) (k1 : ∀ x, x ≠ s → ∀ k, b k x = a k x) (k2 : ∀ x k, k ≠ 0 → k < 14 → b k x = a k x) (k3 : ∀ k x j, x ≠ s → r k x j = q k x j) (k4 : r 18 s 0 = 1) : JG mk b r lg top own vt sett H HL I cl cm ce n := by
  obtain ⟨hB, hF, hL, hG, hH, hV, hC, hQ, hA, h1, h2, h3, h4⟩ := h
  have sl : s ≠ l := by intro h; subst h; omega
  refine ⟨?_, ?_, ?_, ?_, hH, ?_, hC, ?_, ?_, ?_, ?_, ?_, ?_⟩
  · intro x hx; have := hB x hx; by_cases e : x = s <;> grind
  · intro x hx hr; have := hF x hx; by_cases e : x = s <;> grind
  · intro x hx hr
    have e : x ≠ s := by intro h; subst h; omega
    have := hL x hx; simp only [k1 x e] at *; exact this hr
  · simpa [jG, k2] using hG
  · simpa [jV, jW, k2] using hV
  · simpa [jQ, jg, k2] using hQ
  · simpa [jA, jK, k2] using hA
  · intro x hx hr; by_cases e : x = s
    · subst e; simp [k0, k4]
    · simp only [k1 x e] at *; have := h1 x hx hr; have := hF x hx hr
      have e2 : a 14 x ≠ s := by intro h; rw [h] at this; omega
      simp only [k1 _ e2, k3 _ _ _ e]; assumption
  · intro x hx hr ht; by_cases e : x = s
    · subst e; omega
    · simp only [k1 x e] at *; have := h2 x hx hr ht; have := hF x hx hr
      have e2 : a 14 x ≠ s := by intro h; rw [h] at this; omega
      simp only [k1 _ e2, k3 _ _ _ e]; assumption
  · intro x hx hr ht; by_cases e : x = s
    · subst e; omega
    · simp only [k1 x e] at *; have := h3 x hx hr ht; have := hF x hx hr
      have e2 : a 14 x ≠ s := by intro h; rw [h] at this; omega
      simp only [k1 _ e2, k3 _ _ _ e]; assumption
  · intro x hx hr; by_cases e : x = s
    · subst e; intro j _ _; omega
    · simp only [k1 x e] at *; have := h4 x hx hr; have := hF x hx hr
      have e2 : a 14 x ≠ s := by intro h; rw [h] at this; omega
      simp only [jK, k1 _ e2, k3 _ _ _ e] at *; assumption
-- the choice of an epoch
theorem pt_choose (h : JG mk a q lg top own vt sett H HL I cl cm ce n) (l p : Nat) (hl : l < 3) (hrl : 3 ≤ a 0 l) (hc : a 10 l = 0) (hp : a 1 l < p)
    (k0 : b 1 l = p ∧ b 10 l = p) (k1 : ∀ x, x ≠ l → ∀ k, b k x = a k x) (k2 : ∀ x k, k ≠ 1 → k ≠ 10 → b k x = a k x) : JG mk b q lg top own (fun x => if x = l then l else vt x) sett H HL I cl cm ce n := by
  obtain ⟨hB, hF, hL, hG, hH, hV, hC, hQ, hA, h1, h2, h3, h4⟩ := h
  refine ⟨?_, ?_, ?_, ?_, hH, ?_, hC, ?_, ?_, ?_, ?_, ?_, ?_⟩
  · intro x hx; have := hB x hx; by_cases e : x = l <;> grind
  · simpa [jF, k2] using hF
  · intro x hx hr; have hx' := hL x hx; by_cases e : x = l
    · subst e; simp only [k2 x 0 (by omega) (by omega), k2 x 2 (by omega) (by omega), k2 x 4 (by omega) (by omega), k2 x 11 (by omega) (by omega), k2 x 12 (by omega) (by omega), k0] at *
      have hx' := hx' hr
      refine ⟨fun _ => by simp, fun h => ?_, hx'.2.2.1, fun _ ho ht => ?_, hx'.2.2.2.2⟩
      · exact absurd hc (hx'.2.1 h).1
      · have := hV.1 (by omega); rw [ho] at this; omega
    · simp only [k1 x e, if_neg e] at *; exact hx' hr
  · simpa [jG, k2] using hG
  · refine ⟨fun ho => ?_, ?_⟩
    · have := hV.1 ho; by_cases e : own top = l
      · rw [e] at this ⊢; omega
      · rw [k1 _ e]; exact this
    · obtain ⟨-, x, y, hxy, wx, wy⟩ := hV
      have key : ∀ z, jW a top own vt z → jW b top own (fun x => if x = l then l else vt x) z := by
        intro z hz; by_cases e : z = l
        · subst e; refine ⟨hz.1, ?_⟩; rcases hz.2 with h | h <;> (left; omega)
        · refine ⟨hz.1, ?_⟩; rw [k1 _ e]; simp only [if_neg e]; exact hz.2
      exact ⟨x, y, hxy, key x wx, key y wy⟩
  · simpa [jQ, jg, k2] using hQ
  · simpa [jA, jK, k2] using hA
  · intro x hx hr
    simp only [k2 _ 0 (by omega) (by omega)] at hr
    have h1' := h1 x hx hr; have hf := hF x hx hr
    have e : x ≠ l := by intro h; subst h; omega
    simp only [k1 x e, if_neg e] at *
    by_cases e2 : a 14 x = l
    · rw [e2] at h1' ⊢
      have : a 24 x = 0 := by
        rcases Nat.eq_zero_or_pos (a 24 x) with h | h
        · exact h
        · exact absurd hc (h1'.2.2.2.2.2.1 h).1
      grind
    · simp only [k1 _ e2]; assumption
  · simpa [jM2, k2] using h2
  · simpa [jM3, k2] using h3
  · simpa [jM4, jK, k2] using h4
-- NEWEPOCH is sent
theorem pt_join (h : JG mk a q lg top own vt sett H HL I cl cm ce n) (f : Nat) (hf : f < 3) (hr : a 0 f = 2) (hu : a 21 f = 0) (hc : a 10 (a 14 f) ≠ 0)
    (k0 : b 21 f = 1 ∧ b 24 f = 1) (k1 : ∀ x, x ≠ f → ∀ k, b k x = a k x) (k2 : ∀ x k, k ≠ 21 → k ≠ 24 → b k x = a k x) (k3 : ∀ k x j, x ≠ f → r k x j = q k x j) (k4 : r 22 f 0 = 4 ∧ r 23 f 0 = a 10 (a 14 f)) (k5 : ∀ k x j, k < 22 → r k x j = q k x j) : JG mk b r lg top own vt sett H HL I cl cm ce n := by
  obtain ⟨hB, hF, hL, hG, hH, hV, hC, hQ, hA, h1, h2, h3, h4⟩ := h
  have g1 := h1 f hf hr
  have g2 := hF f hf hr
  have g3 := (hL _ g2.1 g2.2.2).1 hc
  have z24 : a 24 f = 0 := g1.2.2.2.1 hu
  refine ⟨?_, ?_, ?_, ?_, hH, ?_, hC, ?_, ?_, ?_, ?_, ?_, ?_⟩
  · simpa [jB, k2] using hB
  · simpa [jF, k2] using hF
  · simpa [jL, k2] using hL
  · simpa [jG, k2] using hG
  · simpa [jV, jW, k2] using hV
  · simpa [jQ, jg, k2] using hQ
  · simpa [jA, jK, k2] using hA
  · intro x hx hr; by_cases e : x = f
    · subst e; simp only [k2 _ 0 (by omega) (by omega), k2 _ 1 (by omega) (by omega), k2 _ 10 (by omega) (by omega), k2 _ 14 (by omega) (by omega), k2 _ 15 (by omega) (by omega), k2 _ 16 (by omega) (by omega), k2 _ 17 (by omega) (by omega), k2 _ 20 (by omega) (by omega), k2 _ 25 (by omega) (by omega), k5 _ _ _ (by omega : 18 < 22), k5 _ _ _ (by omega : 19 < 22), k0, k4] at *
      grind
    · have := h1 x hx; simp only [k1 x e, k3 _ x _ e, k2 _ 1 (by omega) (by omega), k2 _ 10 (by omega) (by omega)] at *; exact this hr
  · intro x hx hr ht; by_cases e : x = f
    · subst e; have := h2 x hx; simp only [k2 _ 0 (by omega) (by omega), k2 _ 16 (by omega) (by omega)] at *; have := this hr ht; omega
    · have := h2 x hx; simp only [k1 x e, k3 _ x _ e, k2 _ 2 (by omega) (by omega), k2 _ 3 (by omega) (by omega), k2 _ 4 (by omega) (by omega), k2 _ 11 (by omega) (by omega)] at *; exact this hr ht
  · intro x hx hr ht; by_cases e : x = f
    · subst e; simp only [k2 _ 25 (by omega) (by omega)] at *; omega
    · have := h3 x hx; simp only [k1 x e, k3 _ x _ e, k2 _ 2 (by omega) (by omega)] at *; exact this hr ht
  · intro x hx hr; by_cases e : x = f
    · subst e; intro j _ _; omega
    · have := h4 x hx; simp only [jK, k1 x e, k3 _ x _ e, k2 _ 2 (by omega) (by omega)] at *; exact this hr
end PR
section PR
variable {X : Type} {mk : X → Nat} {a b : Nat → Nat → Nat} {q r : Nat → Nat → Nat → Nat} {lg lh : Nat → Nat → X}
variable {top : Nat} {own vt : Nat → Nat} {sett : Nat → Prop} {H : Nat → Nat → X} {HL I : Nat → Nat} {cl : Nat} {cm : Nat → X} {ce : Nat} {n : Nat → Nat → Nat}
-- a message of the up row is read (not JOIN); f's heard flag may rise; the other keys stay
theorem pt_read (h : JG mk a q lg top own vt sett H HL I cl cm ce n) (f : Nat) (hf : f < 3) (hr : a 0 f = 2) (hu : 1 ≤ a 21 f) (hu2 : a 21 f < a 20 f)
    (k0 : b 21 f = a 21 f + 1) (k0' : a 17 f ≤ b 17 f ∧ b 17 f ≤ 1) (k1 : ∀ x, x ≠ f → ∀ k, b k x = a k x) (k2 : ∀ x k, k ≠ 21 → k ≠ 17 → b k x = a k x) : JG mk b q lg top own vt sett H HL I cl cm ce n := by
  obtain ⟨hB, hF, hL, hG, hH, hV, hC, hQ, hA, h1, h2, h3, h4⟩ := h
  have g1 := h1 f hf hr
  refine ⟨?_, ?_, ?_, ?_, hH, ?_, hC, ?_, ?_, ?_, ?_, ?_, ?_⟩
  · simpa [jB, k2] using hB
  · simpa [jF, k2] using hF
  · simpa [jL, k2] using hL
  · simpa [jG, k2] using hG
  · simpa [jV, jW, k2] using hV
  · simpa [jQ, jg, k2] using hQ
  · simpa [jA, jK, k2] using hA
  · intro x hx hr; by_cases e : x = f
    · subst e; simp only [k2 _ _ (by omega : 0 ≠ 21) (by omega), k2 _ _ (by omega : 1 ≠ 21) (by omega), k2 _ _ (by omega : 10 ≠ 21) (by omega), k2 _ _ (by omega : 14 ≠ 21) (by omega), k2 _ _ (by omega : 15 ≠ 21) (by omega), k2 _ _ (by omega : 16 ≠ 21) (by omega), k2 _ _ (by omega : 20 ≠ 21) (by omega), k2 _ _ (by omega : 24 ≠ 21) (by omega), k2 _ _ (by omega : 25 ≠ 21) (by omega), k0] at *
      grind
    · have := h1 x hx; simp only [k1 x e, k2 _ _ (by omega : 1 ≠ 21) (by omega), k2 _ _ (by omega : 10 ≠ 21) (by omega)] at *; exact this hr
  · intro x hx hr ht; by_cases e : x = f
    · subst e; have := h2 x hx; simp only [k2 _ _ (by omega : 0 ≠ 21) (by omega), k2 _ _ (by omega : 2 ≠ 21) (by omega), k2 _ _ (by omega : 3 ≠ 21) (by omega), k2 _ _ (by omega : 4 ≠ 21) (by omega), k2 _ _ (by omega : 11 ≠ 21) (by omega), k2 _ _ (by omega : 14 ≠ 21) (by omega), k2 _ _ (by omega : 16 ≠ 21) (by omega), k2 _ _ (by omega : 24 ≠ 21) (by omega), k2 _ _ (by omega : 25 ≠ 21) (by omega), k0] at *
      have := this hr ht; grind
    · have := h2 x hx; simp only [k1 x e, k2 _ _ (by omega : 2 ≠ 21) (by omega), k2 _ _ (by omega : 3 ≠ 21) (by omega), k2 _ _ (by omega : 4 ≠ 21) (by omega), k2 _ _ (by omega : 11 ≠ 21) (by omega)] at *; exact this hr ht
  · simpa [jM3, k2] using h3
  · simpa [jM4, jK, k2] using h4
-- f waits
theorem pt_wait (h : JG mk a q lg top own vt sett H HL I cl cm ce n) (f : Nat) (hf : f < 3) (hr : a 0 f = 2) (hu : 2 ≤ a 21 f) (ht : a 16 f = 0)
    (k1 : ∀ x, x ≠ f → ∀ k, b k x = a k x) (k2 : ∀ x k, k ≠ 15 → b k x = a k x) : JG mk b q lg top own vt sett H HL I cl cm ce n := by
  obtain ⟨hB, hF, hL, hG, hH, hV, hC, hQ, hA, h1, h2, h3, h4⟩ := h
  have g1 := h1 f hf hr
  refine ⟨?_, ?_, ?_, ?_, hH, ?_, hC, ?_, ?_, ?_, ?_, ?_, ?_⟩
  · simpa [jB, k2] using hB
  · simpa [jF, k2] using hF
  · simpa [jL, k2] using hL
  · simpa [jG, k2] using hG
  · simpa [jV, jW, k2] using hV
  · simpa [jQ, jg, k2] using hQ
  · simpa [jA, jK, k2] using hA
  · intro x hx hr; by_cases e : x = f
    · subst e; simp only [k2 _ _ (by omega : 0 ≠ 15), k2 _ _ (by omega : 1 ≠ 15), k2 _ _ (by omega : 10 ≠ 15), k2 _ _ (by omega : 14 ≠ 15), k2 _ _ (by omega : 16 ≠ 15), k2 _ _ (by omega : 17 ≠ 15), k2 _ _ (by omega : 20 ≠ 15), k2 _ _ (by omega : 21 ≠ 15), k2 _ _ (by omega : 24 ≠ 15), k2 _ _ (by omega : 25 ≠ 15)] at *
      grind
    · have := h1 x hx; simp only [k1 x e, k2 _ _ (by omega : 1 ≠ 15), k2 _ _ (by omega : 10 ≠ 15)] at *; exact this hr
  · simpa [jM2, k2] using h2
  · simpa [jM3, k2] using h3
  · simpa [jM4, jK, k2] using h4
-- NEWLEADER is sent
set_option maxHeartbeats 1000000 in
theorem pt_tie (h : JG mk a q lg top own vt sett H HL I cl cm ce n) (f : Nat) (hf : f < 3) (hr : a 0 f = 2) (hu : 2 ≤ a 21 f) (ht : a 16 f = 0) (hs : a 11 (a 14 f) ≠ 0)
    (k0 : b 15 f = 0 ∧ b 16 f = 1 ∧ b 24 f = a 24 f + 1) (k1 : ∀ x, x ≠ f → ∀ k, b k x = a k x) (k2 : ∀ x k, k ≠ 15 → k ≠ 16 → k ≠ 24 → b k x = a k x) (k3 : ∀ k x j, x ≠ f → r k x j = q k x j) (k4 : r 22 f (a 24 f) = 5 ∧ r 23 f (a 24 f) = a 4 (a 14 f)) (k5 : ∀ k x j, k < 22 ∨ j < a 24 f → r k x j = q k x j) :
    JG mk b r lg top own vt sett H HL I cl cm ce (fun x j => if x = f ∧ j = 2 then a 4 (a 14 f) else n x j) := by
  obtain ⟨hB, hF, hL, hG, hH, hV, hC, hQ, hA, h1, h2, h3, h4⟩ := h
  have g1 := h1 f hf hr
  have g2 := hF f hf hr
  have g3 := hL _ g2.1 g2.2.2
  have g4 := hG _ g2.1
  have g5 := hG _ hf
  have z24 : a 24 f = 1 := by omega
  rw [z24] at k0 k4 k5
  refine ⟨?_, ?_, ?_, ?_, hH, ?_, hC, ?_, ?_, ?_, ?_, ?_, ?_⟩
  · simpa [jB, k2] using hB
  · simpa [jF, k2] using hF
  · simpa [jL, k2] using hL
  · simpa [jG, k2] using hG
  · simpa [jV, jW, k2] using hV
  · simpa [jQ, jg, k2] using hQ
  · simpa [jA, jK, k2] using hA
  · intro x hx hr; by_cases e : x = f
    · subst e; simp only [k2 _ 0 (by omega) (by omega) (by omega), k2 _ 1 (by omega) (by omega) (by omega), k2 _ 10 (by omega) (by omega) (by omega), k2 _ 14 (by omega) (by omega) (by omega), k2 _ 17 (by omega) (by omega) (by omega), k2 _ 20 (by omega) (by omega) (by omega), k2 _ 21 (by omega) (by omega) (by omega), k2 _ 25 (by omega) (by omega) (by omega), k5 _ _ _ (Or.inl (by omega : 18 < 22)), k5 _ _ _ (Or.inl (by omega : 19 < 22)), k5 _ _ 0 (Or.inr (by omega)), k0, k4] at *
      grind
    · have := h1 x hx; simp only [k1 x e, k3 _ x _ e, k2 _ 1 (by omega) (by omega) (by omega), k2 _ 10 (by omega) (by omega) (by omega)] at *; exact this hr
  · intro x hx hr ht; by_cases e : x = f
    · subst e; have := h2 x hx; simp only [k2 _ 0 (by omega) (by omega) (by omega), k2 _ 2 (by omega) (by omega) (by omega), k2 _ 3 (by omega) (by omega) (by omega), k2 _ 4 (by omega) (by omega) (by omega), k2 _ 11 (by omega) (by omega) (by omega), k2 _ 14 (by omega) (by omega) (by omega), k2 _ 17 (by omega) (by omega) (by omega), k2 _ 21 (by omega) (by omega) (by omega), k2 _ 25 (by omega) (by omega) (by omega), k0, k4] at *
      have g3' := g3.2.1 hs
      refine ⟨hu, hs, by omega, trivial, by omega, by omega, by simp, by simp, by omega, fun _ h => ?_⟩
      have := g5.2.1; rw [h] at this; omega
    · have := h2 x hx; simp only [k1 x e, k3 _ x _ e, e, false_and, if_false, k2 _ 2 (by omega) (by omega) (by omega), k2 _ 3 (by omega) (by omega) (by omega), k2 _ 4 (by omega) (by omega) (by omega), k2 _ 11 (by omega) (by omega) (by omega)] at *; exact this hr ht
  · intro x hx hr ht; by_cases e : x = f
    · subst e; simp only [k2 _ 25 (by omega) (by omega) (by omega)] at *; omega
    · have := h3 x hx; simp only [k1 x e, k3 _ x _ e, e, false_and, if_false, k2 _ 2 (by omega) (by omega) (by omega)] at *; exact this hr ht
  · intro x hx hr; by_cases e : x = f
    · subst e; intro j _ _; omega
    · have := h4 x hx; simp only [jK, k1 x e, k3 _ x _ e, e, false_and, if_false, k2 _ 2 (by omega) (by omega) (by omega)] at *; exact this hr
-- a leader becomes established
theorem pt_est (h : JG mk a q lg top own vt sett H HL I cl cm ce n) (l : Nat) (hr : a 0 l = 3) (hs : a 11 l ≠ 0)
    (k0 : b 0 l = 4) (k1 : ∀ x, x ≠ l → ∀ k, b k x = a k x) (k2 : ∀ x k, k ≠ 0 → b k x = a k x) : JG mk b q lg top own vt sett H HL I cl cm ce n := by
  obtain ⟨hB, hF, hL, hG, hH, hV, hC, hQ, hA, h1, h2, h3, h4⟩ := h
  have e2 : ∀ x, b 0 x = 2 → a 0 x = 2 := by grind
  refine ⟨?_, ?_, ?_, ?_, hH, ?_, hC, ?_, ?_, ?_, ?_, ?_, ?_⟩
  · intro x hx; have := hB x hx; by_cases e : x = l <;> grind
  · intro x hx hr; have := hF x hx (e2 x hr); by_cases e : a 14 x = l <;> grind
  · intro x hx hr; by_cases e : x = l
    · subst e; have := hL x hx (by omega); simp only [k2 _ _ (by omega : 1 ≠ 0), k2 _ _ (by omega : 2 ≠ 0), k2 _ _ (by omega : 4 ≠ 0), k2 _ _ (by omega : 10 ≠ 0), k2 _ _ (by omega : 11 ≠ 0), k2 _ _ (by omega : 12 ≠ 0)]; exact ⟨this.1, this.2.1, fun _ => hs, this.2.2.2⟩
    · have := hL x hx; simp only [k1 x e] at *; exact this hr
  · simpa [jG, k2] using hG
  · simpa [jV, jW, k2] using hV
  · simpa [jQ, jg, k2] using hQ
  · simpa [jA, jK, k2] using hA
  · intro x hx hr; have := h1 x hx (e2 x hr); simpa [k2] using this
  · intro x hx hr ht; have := h2 x hx (e2 x hr); simpa [k2, ht] using this (by simpa [k2] using ht)
  · intro x hx hr ht; have := h3 x hx (e2 x hr); simpa [k2] using this (by simpa [k2] using ht)
  · intro x hx hr; have := h4 x hx (e2 x hr); simpa [jK, k2] using this
end PR
section PR
variable {X : Type} {mk : X → Nat} {a b : Nat → Nat → Nat} {q r : Nat → Nat → Nat → Nat} {lg lh : Nat → Nat → X}
variable {top : Nat} {own vt : Nat → Nat} {sett : Nat → Prop} {H : Nat → Nat → X} {HL I : Nat → Nat} {cl : Nat} {cm : Nat → X} {ce : Nat} {n : Nat → Nat → Nat}
-- two of three
theorem pig {P : Nat → Prop} {x y l f : Nat} (hx : x < 3) (hy : y < 3) (hxy : x ≠ y) (hl : l < 3) (hf : f < 3) (hlf : l ≠ f) (px : P x) (py : P y) : P l ∨ P f := by
  have : x = l ∨ x = f ∨ y = l ∨ y = f := by omega
  rcases this with h | h | h | h <;> subst h <;> simp [*]
def lastm (mk : X → Nat) (a : Nat → Nat → Nat) (lg : Nat → Nat → X) (s : Nat) : Nat := if a 4 s = 0 then 0 else mk (lg s (a 4 s - 1))
def takes (mk : X → Nat) (a : Nat → Nat → Nat) (lg : Nat → Nat → X) (l f : Nat) : Prop := a 2 l < a 2 f ∨ a 2 f = a 2 l ∧ lastm mk a lg l < lastm mk a lg f
theorem lastm_le {s t e : Nat} (hs : a 2 s = e) (ht : a 2 t = e) (hse : sett e) (gs : a 4 s ≤ HL (a 2 s) ∧ I (a 2 s) ≤ a 4 s ∧ ∀ j, j < a 4 s → lg s j = H (a 2 s) j) (gt : a 4 t ≤ HL (a 2 t) ∧ I (a 2 t) ≤ a 4 t ∧ ∀ j, j < a 4 t → lg t j = H (a 2 t) j)
    (hH : jH mk top sett H HL I) (h : lastm mk a lg s ≤ lastm mk a lg t) : a 4 s ≤ a 4 t := by
  rcases Nat.lt_or_ge (a 4 t) (a 4 s) with hlt | hge
  · exfalso
    have h0 := hH.2 e hse
    subst hs
    rw [ht] at gt
    unfold lastm at h
    have e1 := gs.2.2 (a 4 s - 1) (by omega)
    have p1 := (h0.2.2.1 (a 4 s - 1) (by omega)).1
    rw [if_neg (by omega)] at h
    split at h
    · rw [e1] at h; omega
    · have e2 := gt.2.2 (a 4 t - 1) (by omega)
      have p2 := h0.2.2.2 (a 4 t - 1) (a 4 s - 1) (by omega) (by omega)
      rw [e1, e2] at h; omega
  · exact hge
theorem pt_settle (h : JG mk a q lg top own vt sett H HL I cl cm ce n) (l f m : Nat) (hf : f < 3) (hr : a 0 f = 2) (hfl : a 14 f = l) (hd : 1 ≤ a 25 f) (hv : vt f = l) (hc : a 10 l ≠ 0) (hs : a 11 l = 0)
    (hch : (m = a 4 l ∧ (∀ j, j < m → lh l j = lg l j) ∧ ¬ takes mk a lg l f) ∨ (m = a 4 f ∧ (∀ j, j < m → lh l j = lg f j) ∧ takes mk a lg l f))
    (k0 : b 11 l = 1 ∧ b 2 l = a 1 l ∧ b 4 l = m) (k1 : ∀ x, x ≠ l → ∀ k, b k x = a k x) (k2 : ∀ x k, k ≠ 11 → k ≠ 2 → k ≠ 4 → b k x = a k x) (k3 : ∀ x, x ≠ l → lh x = lg x) :
    JG mk b q lh (a 1 l) (fun e => if e = a 1 l then l else own e) vt (fun e => sett e ∨ e = a 1 l) (fun e => if e = a 1 l then lh l else H e) (fun e => if e = a 1 l then m else HL e) (fun e => if e = a 1 l then m else I e) cl cm ce n ∧ a 3 l ≤ m ∧ ∀ j, j < a 3 l → lh l j = lg l j := by
  obtain ⟨hB, hF, hL, hG, hH, hV, hC, hQ, hA, h1, h2, h3, h4⟩ := h
  subst hfl
  generalize hl0 : a 14 f = l at *
  have g1 := h1 f hf hr
  have g2 := hF f hf hr
  rw [hl0] at g1 g2
  have g3 := hL _ g2.1 g2.2.2
  have pf : a 1 f = a 1 l := (g1.2.2.2.2.2.2.2.1 hd).2
  have vl := (g3.1 hc).2
  -- the epoch is new
  have new : top < a 1 l := by
    rcases Nat.lt_or_ge top (a 1 l) with h | h
    · exact h
    · exfalso
      obtain ⟨-, x, y, hxy, wx, wy⟩ := hV
      have := pig (P := jW a top own vt) wx.1 wy.1 hxy g2.1 hf g2.2.1 wx wy
      have ho : a 1 l = top ∧ l = own top := by
        rcases this with w | w
        · rcases w.2 with w | w <;> omega
        · rcases w.2 with w | w <;> omega
      exact g3.2.2.2.1 hc ho.2.symm ho.1 hs
  have old : ∀ e, sett e → e ≠ a 1 l := fun e he => by have := (hH.2 e he).1; omega
  have olds : ∀ x, x < 3 → a 2 x ≠ a 1 l := fun x hx => old _ (hG x hx).1
  have gl := hG l g2.1
  have gf := hG f hf
  -- where the list comes from
  obtain ⟨s, hs3, hms, hcs, hsrc⟩ : ∃ s, s < 3 ∧ m = a 4 s ∧ (∀ j, j < m → lh l j = lg s j) ∧ (cl ≤ a 4 s ∧ ∀ j, j < cl → lg s j = cm j) := by
    have good : ∀ s, s < 3 → ce ≤ a 2 s → cl ≤ a 4 s → (cl ≤ a 4 s ∧ ∀ j, j < cl → lg s j = cm j) := fun s hs h1 h2 => ⟨h2, fun j hj => by
      rw [(hG s hs).2.2.2 j (by omega)]; exact (hC.2.2.1 _ (hG s hs).1 h1).2 j hj⟩
    have later : ∀ s t, s < 3 → t < 3 → jg a cl ce t → (a 2 t < a 2 s ∨ a 2 t = a 2 s ∧ lastm mk a lg t ≤ lastm mk a lg s) → cl ≤ a 4 s ∧ ∀ j, j < cl → lg s j = cm j := by
      intro s t hs ht gt hle
      rcases hle with h | h
      · exact good s hs (by have := gt.2.1; omega) (by have := hC.2.2.2 _ (hG s hs).1 (by have := gt.2.1; omega); have := (hG s hs).2.2.1; omega)
      · have := lastm_le (e := a 2 s) h.1 rfl (hG s hs).1 (hG t ht).2 (hG s hs).2 hH h.2
        exact good s hs (by have := gt.2.1; omega) (by have := gt.2.2; omega)
    obtain ⟨x, y, hxy, wx, wy⟩ := hQ
    have w := pig (P := jg a cl ce) wx.1 wy.1 hxy g2.1 hf g2.2.1 wx wy
    rcases hch with ⟨c1, c2, c3⟩ | ⟨c1, c2, c3⟩
    · refine ⟨l, g2.1, c1, c2, ?_⟩
      rcases w with w | w
      · exact good l g2.1 w.2.1 w.2.2
      · refine later l f g2.1 hf w ?_
        unfold takes at c3; omega
    · refine ⟨f, hf, c1, c2, ?_⟩
      rcases w with w | w
      · refine later f l hf g2.1 w ?_
        unfold takes at c3; omega
      · exact good f hf w.2.1 w.2.2
  have gs := hG s hs3
  have hs0 := hH.2 _ gs.1
  have hcont : ∀ j, j < m → lh l j = H (a 2 s) j := fun j hj => by rw [hcs j hj]; exact gs.2.2.2 j (by omega)
  have hcm : ∀ j, j < cl → lh l j = cm j := fun j hj => by rw [hcs j (by omega)]; exact hsrc.2 j hj
  have al := hA l g2.1
  have fin : a 3 l ≤ m ∧ ∀ j, j < a 3 l → lh l j = lg l j := by
    have := al.1; have hb := hB l g2.1
    refine ⟨by omega, fun j hj => ?_⟩
    rw [hcm j (by omega), gl.2.2.2 j (by omega), al.2.1 j hj]
  have tied : ∀ x, x < 3 → a 0 x = 2 → a 14 x = l → a 16 x = 0 := by
    intro x hx hr he; rcases Nat.eq_zero_or_pos (a 16 x) with h | h
    · exact h
    · have := (h2 x hx hr (by omega)).2.1; rw [he] at this; omega
  have rl : ∀ x, a 0 x = 2 → x ≠ l := fun x hr h => by subst h; omega
  refine ⟨⟨?_, ?_, ?_, ?_, ?_, ?_, ?_, ?_, ?_, ?_, ?_, ?_, ?_⟩, fin⟩
  · intro x hx; have := hB x hx; by_cases e : x = l
    · subst e; have := hB s hs3; simp only [k0, k2 _ 0 (by omega) (by omega) (by omega), k2 _ 1 (by omega) (by omega) (by omega), k2 _ 3 (by omega) (by omega) (by omega)]; omega
    · simp only [k1 x e]; exact this
  · simpa [jF, k2] using hF
  · intro x hx hr; by_cases e : x = l
    · subst e; simp only [k0, k2 _ 0 (by omega) (by omega) (by omega), k2 _ 1 (by omega) (by omega) (by omega), k2 _ 10 (by omega) (by omega) (by omega), k2 _ 12 (by omega) (by omega) (by omega), if_true]
      refine ⟨g3.1, fun _ => ⟨hc, trivial, trivial, trivial, by have := g3.2.2.2.2 hs; omega, fun j hj => ?_⟩, by omega, by omega, by omega⟩
      rw [hcont j hj]; have := (hs0.2.2.1 j (by omega)).2; omega
    · have := hL x hx; simp only [k1 x e] at *
      have := this hr
      refine ⟨this.1, fun h => ?_, this.2.2.1, fun h1 h2 => ?_, this.2.2.2.2⟩
      · simp only [olds x hx, if_false]; exact this.2.1 h
      · simp at h2; omega
  · intro x hx; by_cases e : x = l
    · subst e; simp only [k0, if_true]; exact ⟨Or.inr trivial, Nat.le_refl _, Nat.le_refl _, fun j hj => trivial⟩
    · simp only [k1 x e, k3 x e, olds x hx, if_false]; have := hG x hx; exact ⟨Or.inl this.1, this.2⟩
  · refine ⟨Or.inr rfl, fun e he => ?_⟩
    by_cases h : e = a 1 l
    · subst h; simp only [if_true]
      refine ⟨Nat.le_refl _, Nat.le_refl _, fun j hj => ?_, fun i j hij hj => ?_⟩
      · rw [hcont j hj]; have := hs0.2.2.1 j (by omega); omega
      · rw [hcont j hj, hcont i (by omega)]; exact hs0.2.2.2 i j hij (by omega)
    · have he : sett e := by rcases he with he | he; exact he; exact absurd he h
      simp only [h, if_false]; have := hH.2 e he; exact ⟨by omega, this.2⟩
  · refine ⟨fun _ => ?_, l, f, g2.2.1, ⟨g2.1, Or.inr ?_⟩, ⟨hf, Or.inr ?_⟩⟩
    · simp [k2]
    · simp [k2, vl]
    · simp [k2, hv, pf]
  · refine ⟨by have := hC.1; omega, Or.inl hC.2.1, fun e he hce => ?_, fun e he hce => ?_⟩
    · by_cases h : e = a 1 l
      · subst h; simp only [if_true]; exact ⟨by omega, hcm⟩
      · have he : sett e := by rcases he with he | he; exact he; exact absurd he h
        simp only [h, if_false]; exact hC.2.2.1 e he hce
    · by_cases h : e = a 1 l
      · subst h; simp only [if_true]; omega
      · have he : sett e := by rcases he with he | he; exact he; exact absurd he h
        simp only [h, if_false]; exact hC.2.2.2 e he hce
  · obtain ⟨x, y, hxy, wx, wy⟩ := hQ
    have key : ∀ z, jg a cl ce z → jg b cl ce z := by
      intro z hz; by_cases e : z = l
      · subst e; exact ⟨hz.1, by rw [k0.2.1]; have := hC.1; omega, by rw [k0.2.2]; omega⟩
      · unfold jg; rw [k1 _ e, k1 _ e]; exact hz
    exact ⟨x, y, hxy, key x wx, key y wy⟩
  · intro x hx
    have hax := hA x hx
    have : a 3 x ≤ cl := hax.1
    rw [k2 _ 3 (by omega) (by omega) (by omega)]
    refine ⟨this, fun i hi => ?_, fun e he hlt => ?_⟩
    · by_cases e : x = l
      · subst e; simp only [k0, if_true]; exact hcm i (by omega)
      · simp only [k1 x e, olds x hx, if_false]; exact hax.2.1 i hi
    · by_cases h : e = a 1 l
      · subst h; simp only [if_true]; exact ⟨by omega, fun i hi => hcm i (by omega)⟩
      · have he0 : sett e := by rcases he with he | he; exact he; exact absurd he h
        simp only [h, if_false]
        by_cases e' : x = l
        · subst e'; have := (hH.2 e he0).1; omega
        · rw [k1 _ e'] at hlt; exact hax.2.2 e he0 hlt
  · intro x hx hr; rw [k2 _ 0 (by omega) (by omega) (by omega)] at hr; have := h1 x hx hr; simpa [k2] using this
  · intro x hx hr ht; rw [k2 _ 0 (by omega) (by omega) (by omega)] at hr; rw [k2 _ 16 (by omega) (by omega) (by omega)] at ht
    have := h2 x hx hr ht
    have e : a 14 x ≠ l := fun h => ht (tied x hx hr h)
    have ex := rl x hr
    have hf' := hF x hx hr
    simp only [k1 x ex, k1 _ e, olds _ hf'.1, if_false]; exact this
  · intro x hx hr ht; rw [k2 _ 0 (by omega) (by omega) (by omega)] at hr; rw [k2 _ 25 (by omega) (by omega) (by omega)] at ht
    have := h3 x hx hr ht
    have g1' := h1 x hx hr
    have e : a 14 x ≠ l := fun h => by have := tied x hx hr h; omega
    have ex := rl x hr
    simp only [k1 x ex, k1 _ e]; exact this
  · intro x hx hr j hj1 hj2; rw [k2 _ 0 (by omega) (by omega) (by omega)] at hr; rw [k2 _ 24 (by omega) (by omega) (by omega)] at hj2
    have := h4 x hx hr j hj1 hj2
    have g1' := h1 x hx hr
    have e : a 14 x ≠ l := fun h => by have := tied x hx hr h; omega
    have ex := rl x hr
    have hf' := hF x hx hr
    refine ⟨this.1, this.2.imp id fun ⟨c1, c2, c3, c4⟩ => ⟨c1, c2, c3, ?_⟩⟩
    simp only [k1 x ex]
    refine ⟨c4.1, fun i hi => ?_, fun e' he hlt => ?_⟩
    · simp only [k1 _ e, olds _ hf'.1, if_false]; exact c4.2.1 i hi
    · by_cases h : e' = a 1 l
      · subst h; simp only [if_true]; have := c4.1; exact ⟨by omega, fun i hi => hcm i (by omega)⟩
      · have he : sett e' := by rcases he with he | he; exact he; exact absurd he h
        simp only [h, if_false]; rw [k1 _ e] at hlt; exact c4.2.2 e' he hlt
end PR
section PR
variable {X : Type} {mk : X → Nat} {a b : Nat → Nat → Nat} {q r : Nat → Nat → Nat → Nat} {lg lh : Nat → Nat → X}
variable {top : Nat} {own vt : Nat → Nat} {sett : Nat → Prop} {H : Nat → Nat → X} {HL I : Nat → Nat} {cl : Nat} {cm : Nat → X} {ce : Nat} {n : Nat → Nat → Nat}
-- who reads an ACK leads the newest epoch
theorem ack_top (h : JG mk a q lg top own vt sett H HL I cl cm ce n) (f : Nat) (hf : f < 3) (hr : a 0 f = 2) (hd : 2 ≤ a 25 f) : a 11 (a 14 f) ≠ 0 ∧ a 2 (a 14 f) = top ∧ a 2 f = top ∧ a 4 f ≤ a 4 (a 14 f) ∧ a 4 (a 14 f) = HL top := by
  obtain ⟨hB, hF, hL, hG, hH, hV, hC, hQ, hA, h1, h2, h3, h4⟩ := h
  have g1 := h1 f hf hr
  have g2 := hF f hf hr
  have ht : a 16 f ≠ 0 := by omega
  have m2 := h2 f hf hr ht
  have m3 := h3 f hf hr hd
  have g3 := (hL _ g2.1 g2.2.2).2.1 m2.2.1
  have gl := hG _ g2.1
  have gf := hG f hf
  have e1 := (hH.2 _ gl.1).1
  have pf := (g1.2.2.2.2.2.2.2.1 (by omega)).2
  have : a 2 (a 14 f) = top := by
    rcases Nat.lt_or_ge (a 2 (a 14 f)) top with h | h
    · exfalso
      obtain ⟨-, x, y, hxy, wx, wy⟩ := hV
      have := pig (P := jW a top own vt) wx.1 wy.1 hxy g2.1 hf g2.2.1 wx wy
      rcases this with w | w
      · have := w.2; omega
      · have := w.2; omega
    · omega
  have h5 := gf.2.1
  rw [m3.1, ← g3.2.2.2.1] at h5
  refine ⟨m2.2.1, this, m3.1.trans this, h5, ?_⟩
  rw [g3.2.2.2.1, this]
theorem pt_commit (h : JG mk a q lg top own vt sett H HL I cl cm ce n) (f l k : Nat) (hf : f < 3) (hr : a 0 f = 2) (hl : a 14 f = l) (hd : 2 ≤ a 25 f) (hk : k ≤ a 4 f) (hk2 : a 3 l ≤ k)
    (k0 : b 3 l = k) (k1 : ∀ x, x ≠ l → ∀ k, b k x = a k x) (k2 : ∀ x k, k ≠ 3 → b k x = a k x) :
    ∃ cl' cm' ce', JG mk b q lg top own vt sett H HL I cl' cm' ce' n ∧ jK b sett H I cl' cm' l k := by
  have ht := ack_top h f hf hr hd
  subst hl
  obtain ⟨hB, hF, hL, hG, hH, hV, hC, hQ, hA, h1, h2, h3, h4⟩ := h
  have g2 := hF f hf hr
  have hct := hC.2.2.1 top hH.1 hC.1
  refine ⟨max cl k, fun j => if j < cl then cm j else H top j, if k ≤ cl then ce else top, ?_⟩
  have cmt : ∀ j, j < max cl k → H top j = (fun j => if j < cl then cm j else H top j) j := by
    intro j hj; show _ = if j < cl then cm j else H top j; split
    · rename_i h; exact hct.2 j h
    · rfl
  have jk : ∀ l k', jK a sett H I cl cm l k' → jK b sett H I (max cl k) (fun j => if j < cl then cm j else H top j) l k' := by
    intro l k' ⟨c1, c2, c3⟩
    refine ⟨by omega, fun i hi => ?_, fun e he hlt => ?_⟩
    · rw [k2 _ 2 (by omega)]; show _ = if i < cl then cm i else _; rw [if_pos (by omega)]; exact c2 i hi
    · rw [k2 _ 2 (by omega)] at hlt; have := c3 e he hlt
      refine ⟨this.1, fun i hi => ?_⟩; show _ = if i < cl then cm i else _; rw [if_pos (by omega)]; exact this.2 i hi
  have jkl : jK b sett H I (max cl k) (fun j => if j < cl then cm j else H top j) (a 14 f) k := by
    refine ⟨by omega, fun i hi => ?_, fun e he hlt => ?_⟩
    · rw [k2 _ 2 (by omega), ht.2.1]; exact cmt i (by omega)
    · rw [k2 _ 2 (by omega), ht.2.1] at hlt; have := (hH.2 e he).1; omega
  refine ⟨⟨?_, ?_, ?_, ?_, hH, ?_, ?_, ?_, ?_, ?_, ?_, ?_, ?_⟩, jkl⟩
  · intro x hx; have := hB x hx; by_cases e : x = a 14 f
    · subst e; simp only [k0, k2 _ 0 (by omega), k2 _ 1 (by omega), k2 _ 2 (by omega), k2 _ 4 (by omega)]; omega
    · simp only [k1 x e]; exact this
  · simpa [jF, k2] using hF
  · simpa [jL, k2] using hL
  · simpa [jG, k2] using hG
  · simpa [jV, jW, k2] using hV
  · by_cases hkc : k ≤ cl
    · rw [if_pos hkc, Nat.max_eq_left hkc]
      refine ⟨hC.1, hC.2.1, fun e he hce => ?_, hC.2.2.2⟩
      have := hC.2.2.1 e he hce
      exact ⟨this.1, fun j hj => by show _ = if j < cl then cm j else H top j; rw [if_pos hj]; exact this.2 j hj⟩
    · rw [if_neg hkc]
      refine ⟨Nat.le_refl _, hH.1, fun e he hce => ?_, fun e he hce => ?_⟩
      · have : e = top := by have := (hH.2 e he).1; omega
        subst this; exact ⟨by omega, cmt⟩
      · have := (hH.2 e he).1; omega
  · by_cases hkc : k ≤ cl
    · rw [if_pos hkc, Nat.max_eq_left hkc]; simpa [jQ, jg, k2] using hQ
    · rw [if_neg hkc, Nat.max_eq_right (by omega)]
      exact ⟨a 14 f, f, g2.2.1, ⟨g2.1, by rw [k2 _ 2 (by omega)]; omega, by rw [k2 _ 4 (by omega)]; omega⟩, ⟨hf, by rw [k2 _ 2 (by omega)]; omega, by rw [k2 _ 4 (by omega)]; omega⟩⟩
  · intro x hx; by_cases e : x = a 14 f
    · subst e; rw [k0]; exact jkl
    · rw [k1 x e]; exact jk x _ (hA x hx)
  · simpa [jM1, k2] using h1
  · intro x hx hr ht'
    rw [k2 _ 0 (by omega)] at hr; rw [k2 _ 16 (by omega)] at ht'
    have m := h2 x hx hr ht'
    have : a 3 (a 14 x) ≤ b 3 (a 14 x) := by
      by_cases e : a 14 x = a 14 f
      · rw [e, k0]; exact hk2
      · rw [k1 _ e]; exact Nat.le_refl _
    simp only [k2 _ 2 (by omega : 2 ≠ 3), k2 _ 4 (by omega : 4 ≠ 3), k2 _ 11 (by omega : 11 ≠ 3), k2 _ 14 (by omega : 14 ≠ 3), k2 _ 17 (by omega : 17 ≠ 3), k2 _ 21 (by omega : 21 ≠ 3), k2 _ 24 (by omega : 24 ≠ 3), k2 _ 25 (by omega : 25 ≠ 3)]
    exact ⟨m.1, m.2.1, m.2.2.1, m.2.2.2.1, m.2.2.2.2.1, m.2.2.2.2.2.1, m.2.2.2.2.2.2.1, m.2.2.2.2.2.2.2.1, by omega, m.2.2.2.2.2.2.2.2.2⟩
  · simpa [jM3, k2] using h3
  · intro x hx hr j j1 j2
    rw [k2 _ 0 (by omega)] at hr; rw [k2 _ 24 (by omega)] at j2
    have m := h4 x hx hr j j1 j2
    rw [k2 _ 14 (by omega)]
    exact ⟨m.1, m.2.imp id fun ⟨c1, c2, c3, c4⟩ => ⟨c1, c2, c3, jk _ _ c4⟩⟩
-- COMMIT is sent to g
theorem pt_send7 (h : JG mk a q lg top own vt sett H HL I cl cm ce n) {n' : Nat → Nat → Nat} (g k : Nat) (hg : g < 3) (hr : a 0 g = 2) (ht : a 16 g ≠ 0) (hk : jK a sett H I cl cm (a 14 g) k) (hk2 : k ≤ a 4 (a 14 g)) (hc : a 24 g + q 23 g 1 + 1 ≤ 2 + a 4 (a 14 g) + a 3 (a 14 g) + a 17 g)
    (k0 : b 24 g = a 24 g + 1) (k1 : ∀ x, x ≠ g → ∀ k, b k x = a k x) (k2 : ∀ x k, k ≠ 24 → b k x = a k x) (k3 : ∀ k x j, x ≠ g → r k x j = q k x j) (k4 : r 22 g (a 24 g) = 7 ∧ r 23 g (a 24 g) = k) (k5 : ∀ k x j, k < 22 ∨ j < a 24 g → r k x j = q k x j) (kn : n' g (a 24 g + 1) = n g (a 24 g)) (kn2 : ∀ x j, x ≠ g ∨ j ≤ a 24 g → n' x j = n x j) :
    JG mk b r lg top own vt sett H HL I cl cm ce n' := by
  obtain ⟨hB, hF, hL, hG, hH, hV, hC, hQ, hA, h1, h2, h3, h4⟩ := h
  have g1 := h1 g hg hr
  have m2 := h2 g hg hr ht
  refine ⟨?_, ?_, ?_, ?_, hH, ?_, hC, ?_, ?_, ?_, ?_, ?_, ?_⟩
  · simpa [jB, k2] using hB
  · simpa [jF, k2] using hF
  · simpa [jL, k2] using hL
  · simpa [jG, k2] using hG
  · simpa [jV, jW, k2] using hV
  · simpa [jQ, jg, k2] using hQ
  · simpa [jA, jK, k2] using hA
  · intro x hx hr; by_cases e : x = g
    · subst e; simp only [k2 _ 0 (by omega), k2 _ 1 (by omega), k2 _ 10 (by omega), k2 _ 14 (by omega), k2 _ 15 (by omega), k2 _ 16 (by omega), k2 _ 17 (by omega), k2 _ 20 (by omega), k2 _ 21 (by omega), k2 _ 25 (by omega), k5 _ _ _ (Or.inl (by omega : 18 < 22)), k5 _ _ _ (Or.inl (by omega : 19 < 22)), k5 _ _ 0 (Or.inr (by omega)), k0] at *
      grind
    · have := h1 x hx; simp only [k1 x e, k3 _ x _ e, k2 _ 1 (by omega), k2 _ 10 (by omega)] at *; exact this hr
  · intro x hx hr ht; by_cases e : x = g
    · subst e; simp only [k2 _ 2 (by omega : 2 ≠ 24), k2 _ 3 (by omega : 3 ≠ 24), k2 _ 4 (by omega : 4 ≠ 24), k2 _ 11 (by omega : 11 ≠ 24), k2 _ 14 (by omega : 14 ≠ 24), k2 _ 17 (by omega : 17 ≠ 24), k2 _ 21 (by omega : 21 ≠ 24), k2 _ 25 (by omega : 25 ≠ 24), k5 _ _ 1 (Or.inr (by omega)), k0]
      refine ⟨m2.1, m2.2.1, by omega, m2.2.2.2.1, m2.2.2.2.2.1, m2.2.2.2.2.2.1, ?_, ?_, by omega, m2.2.2.2.2.2.2.2.2.2⟩
      · rw [kn2 _ _ (Or.inr (by omega))]; exact m2.2.2.2.2.2.2.1
      · rw [kn]; exact m2.2.2.2.2.2.2.2.1
    · have := h2 x hx; simp only [k1 x e, k3 _ x _ e, kn2 x _ (Or.inl e), k2 _ 2 (by omega), k2 _ 3 (by omega), k2 _ 4 (by omega), k2 _ 11 (by omega)] at *; exact this hr ht
  · intro x hx hr ht; by_cases e : x = g
    · subst e; have := h3 x hx; simp only [k2 _ 0 (by omega : 0 ≠ 24), k2 _ 2 (by omega : 2 ≠ 24), k2 _ 4 (by omega : 4 ≠ 24), k2 _ 14 (by omega : 14 ≠ 24), k2 _ 20 (by omega : 20 ≠ 24), k2 _ 25 (by omega : 25 ≠ 24), k5 _ _ _ (Or.inl (by omega : 18 < 22)), k5 _ _ _ (Or.inl (by omega : 19 < 22))] at *
      rw [kn2 _ _ (Or.inr (by omega))]; exact this hr ht
    · have := h3 x hx; simp only [k1 x e, k3 _ x _ e, kn2 x _ (Or.inl e), k2 _ 2 (by omega)] at *; exact this hr ht
  · intro x hx hr j j1 j2; by_cases e : x = g
    · subst e; rw [k0] at j2; rw [k2 _ 14 (by omega)]
      have jk : ∀ k', jK a sett H I cl cm (a 14 x) k' → jK b sett H I cl cm (a 14 x) k' := by intro k' h; simpa [jK, k2] using h
      rcases Nat.lt_or_ge j (a 24 x) with hj | hj
      · have m := h4 x hx (by assumption) j j1 hj
        simp only [k5 _ _ j (Or.inr hj)]
        rw [kn2 _ _ (Or.inr (by omega)), kn2 _ _ (Or.inr (by omega))]
        exact ⟨m.1, m.2.imp id fun ⟨c1, c2, c3, c4⟩ => ⟨c1, c2, c3, jk _ c4⟩⟩
      · have : j = a 24 x := by omega
        subst this
        rw [kn, kn2 _ _ (Or.inr (Nat.le_refl _)), k4.1, k4.2, m2.2.2.2.2.2.2.2.1]
        exact ⟨Nat.le_refl _, Or.inr ⟨rfl, hk2, rfl, jk _ hk⟩⟩
    · have := h4 x hx; simp only [jK, k1 x e, k3 _ x _ e, kn2 x _ (Or.inl e), k2 _ 2 (by omega)] at *; exact this hr j j1 j2
end PR
section PR
variable {X : Type} {mk : X → Nat} {a b : Nat → Nat → Nat} {q r : Nat → Nat → Nat → Nat} {lg lh : Nat → Nat → X}
variable {top : Nat} {own vt : Nat → Nat} {sett : Nat → Prop} {H : Nat → Nat → X} {HL I : Nat → Nat} {cl : Nat} {cm : Nat → X} {ce : Nat} {n : Nat → Nat → Nat}
-- NEWEPOCH is read and accepted
theorem pt_newepoch (h : JG mk a q lg top own vt sett H HL I cl cm ce n) (f : Nat) (hf : f < 3) (hr : a 0 f = 2) (hd : a 25 f = 0) (hd2 : 1 ≤ a 24 f) (hv : a 1 f ≤ a 1 (a 14 f))
    (k0 : b 25 f = 1 ∧ b 1 f = a 1 (a 14 f) ∧ b 20 f = a 20 f + 1) (k1 : ∀ x, x ≠ f → ∀ k, b k x = a k x) (k2 : ∀ x k, k ≠ 25 → k ≠ 1 → k ≠ 20 → b k x = a k x) (k3 : ∀ k x j, x ≠ f → r k x j = q k x j) (k4 : r 18 f (a 20 f) = 2 ∧ (r 19 f (a 20 f) = 1 → a 1 f < a 1 (a 14 f))) (k5 : ∀ k x j, (k ≠ 18 ∧ k ≠ 19) ∨ j < a 20 f → r k x j = q k x j) :
    JG mk b r lg top own (fun x => if x = f ∧ a 1 f < a 1 (a 14 f) then a 14 f else vt x) sett H HL I cl cm ce n := by
  obtain ⟨hB, hF, hL, hG, hH, hV, hC, hQ, hA, h1, h2, h3, h4⟩ := h
  have g1 := h1 f hf hr
  have g2 := hF f hf hr
  have rl : ∀ x, 3 ≤ a 0 x → x ≠ f := fun x h e => by subst e; omega
  have fl : ∀ x, x < 3 → a 0 x = 2 → a 14 x ≠ f := fun x hx h e => by have := (hF x hx h).2.2; rw [e] at this; omega
  have z20 : a 20 f = 1 := g1.2.2.2.2.2.2.1 hd
  rw [z20] at k0 k4 k5
  refine ⟨?_, ?_, ?_, ?_, hH, ?_, hC, ?_, ?_, ?_, ?_, ?_, ?_⟩
  · intro x hx; have := hB x hx; by_cases e : x = f
    · subst e; simp only [k0, k2 _ 0 (by omega) (by omega) (by omega), k2 _ 2 (by omega) (by omega) (by omega), k2 _ 3 (by omega) (by omega) (by omega), k2 _ 4 (by omega) (by omega) (by omega)]; omega
    · simp only [k1 x e]; exact this
  · simpa [jF, k2] using hF
  · intro x hx hr; rw [k2 _ 0 (by omega) (by omega) (by omega)] at hr; have e := rl x hr; have := hL x hx hr; simp only [k1 x e, e, false_and, if_false]; exact this
  · simpa [jG, k2] using hG
  · refine ⟨fun ho => ?_, ?_⟩
    · have := hV.1 ho; by_cases e : own top = f
      · rw [e] at this ⊢; omega
      · rw [k1 _ e]; exact this
    · obtain ⟨-, x, y, hxy, wx, wy⟩ := hV
      have key : ∀ z, jW a top own vt z → jW b top own (fun x => if x = f ∧ a 1 f < a 1 (a 14 f) then a 14 f else vt x) z := by
        intro z hz; by_cases e : z = f
        · subst e; refine ⟨hz.1, ?_⟩
          rw [k0.2.1]
          by_cases h : a 1 z < a 1 (a 14 z)
          · left; have := hz.2; omega
          · have := hz.2; simp only [h, and_false, if_false]; omega
        · refine ⟨hz.1, ?_⟩; rw [k1 _ e]; simp only [e, false_and, if_false]; exact hz.2
      exact ⟨x, y, hxy, key x wx, key y wy⟩
  · simpa [jQ, jg, k2] using hQ
  · simpa [jA, jK, k2] using hA
  · intro x hx hr; rw [k2 _ 0 (by omega) (by omega) (by omega)] at hr; have hfl := fl x hx hr
    by_cases e : x = f
    · subst e
      have c1 : r 22 x 0 = q 22 x 0 := k5 _ _ _ (Or.inl (by omega))
      have c2 : r 23 x 0 = q 23 x 0 := k5 _ _ _ (Or.inl (by omega))
      have c3 : r 18 x 0 = q 18 x 0 := k5 _ _ _ (Or.inr (by omega))
      simp only [k2 _ 10 (by omega) (by omega) (by omega), k2 _ 14 (by omega) (by omega) (by omega), k2 _ 15 (by omega) (by omega) (by omega), k2 _ 16 (by omega) (by omega) (by omega), k2 _ 17 (by omega) (by omega) (by omega), k2 _ 21 (by omega) (by omega) (by omega), k2 _ 24 (by omega) (by omega) (by omega), k0, k1 _ hfl]
      grind
    · have := h1 x hx hr; simp only [k1 x e, k3 _ x _ e, k1 _ hfl, e, false_and, if_false]; exact this
  · intro x hx hr ht; rw [k2 _ 0 (by omega) (by omega) (by omega)] at hr; rw [k2 _ 16 (by omega) (by omega) (by omega)] at ht; have hfl := fl x hx hr
    have := h2 x hx hr ht
    by_cases e : x = f
    · subst e; omega
    · simp only [k1 x e, k3 _ x _ e, k1 _ hfl]; exact this
  · intro x hx hr ht; rw [k2 _ 0 (by omega) (by omega) (by omega)] at hr; have hfl := fl x hx hr
    by_cases e : x = f
    · subst e; omega
    · have := h3 x hx hr; simp only [k1 x e, k3 _ x _ e, k1 _ hfl] at *; exact this ht
  · intro x hx hr j j1 j2; rw [k2 _ 0 (by omega) (by omega) (by omega)] at hr; rw [k2 _ 24 (by omega) (by omega) (by omega)] at j2; have hfl := fl x hx hr
    have := h4 x hx hr j j1 j2
    rw [k5 _ _ _ (Or.inl (by omega)), k5 _ _ _ (Or.inl (by omega)), k2 _ 14 (by omega) (by omega) (by omega)]
    simpa [jK, k2] using this
-- NEWLEADER is read
theorem pt_newleader (h : JG mk a q lg top own vt sett H HL I cl cm ce n) (f : Nat) (hf : f < 3) (hr : a 0 f = 2) (hd : a 25 f = 1) (hd2 : 2 ≤ a 24 f)
    (k0 : b 25 f = 2 ∧ b 2 f = a 1 f ∧ b 4 f = q 23 f 1 ∧ b 20 f = a 20 f + 1) (k1 : ∀ x, x ≠ f → ∀ k, b k x = a k x) (k2 : ∀ x k, k ≠ 25 → k ≠ 2 → k ≠ 4 → k ≠ 20 → b k x = a k x) (k3 : ∀ k x j, x ≠ f → r k x j = q k x j) (k4 : r 18 f (a 20 f) = 3 ∧ r 19 f (a 20 f) = q 23 f 1) (k5 : ∀ k x j, (k ≠ 18 ∧ k ≠ 19) ∨ j < a 20 f → r k x j = q k x j)
    (k6 : ∀ x, x ≠ f → lh x = lg x) (k7 : ∀ j, j < q 23 f 1 → lh f j = lg (a 14 f) j) :
    JG mk b r lh top own vt sett H HL I cl cm ce n ∧ q 22 f 1 = 5 ∧ q 23 f 1 ≤ a 4 (a 14 f) ∧ a 3 f ≤ q 23 f 1 ∧ ∀ j, j < a 3 f → lh f j = lg f j := by
  obtain ⟨hB, hF, hL, hG, hH, hV, hC, hQ, hA, h1, h2, h3, h4⟩ := h
  have g1 := h1 f hf hr
  have g2 := hF f hf hr
  have ht : a 16 f ≠ 0 := by omega
  have m2 := h2 f hf hr ht
  have g3 := (hL _ g2.1 g2.2.2).2.1 m2.2.1
  have gl := hG _ g2.1
  have gf := hG f hf
  have pf := (g1.2.2.2.2.2.2.2.1 (by omega)).2
  have rl : ∀ x, 3 ≤ a 0 x → x ≠ f := fun x h e => by subst e; omega
  have fl : ∀ x, x < 3 → a 0 x = 2 → a 14 x ≠ f := fun x hx h e => by have := (hF x hx h).2.2; rw [e] at this; omega
  have z20 : a 20 f = 2 := by omega
  rw [z20] at k0 k4 k5
  have bf := hB f hf
  have bl := hB _ g2.1
  have af := hA f hf
  have ef : a 2 f = a 2 (a 14 f) ∧ a 4 f ≤ q 23 f 1 ∨ a 2 f < a 2 (a 14 f) := by omega
  have app : a 3 f ≤ q 23 f 1 ∧ ∀ j, j < a 3 f → H (a 2 (a 14 f)) j = cm j := by
    rcases ef with ⟨e, h⟩ | h
    · refine ⟨by omega, fun j hj => ?_⟩; rw [← e]; exact af.2.1 j hj
    · have := af.2.2 _ gl.1 h; exact ⟨by omega, this.2⟩
  have fin : a 3 f ≤ q 23 f 1 ∧ ∀ j, j < a 3 f → lh f j = lg f j := by
    refine ⟨app.1, fun j hj => ?_⟩
    rw [k7 j (by omega), gl.2.2.2 j (by omega), gf.2.2.2 j (by omega), app.2 j hj, af.2.1 j hj]
  refine ⟨⟨?_, ?_, ?_, ?_, hH, ?_, hC, ?_, ?_, ?_, ?_, ?_, ?_⟩, m2.2.2.2.1, m2.2.2.2.2.2.1, fin⟩
  · intro x hx; have := hB x hx; by_cases e : x = f
    · subst e; simp only [k0, k2 _ 0 (by omega) (by omega) (by omega) (by omega), k2 _ 1 (by omega) (by omega) (by omega) (by omega), k2 _ 3 (by omega) (by omega) (by omega) (by omega)]; omega
    · simp only [k1 x e]; exact this
  · simpa [jF, k2] using hF
  · intro x hx hr; rw [k2 _ 0 (by omega) (by omega) (by omega) (by omega)] at hr; have e := rl x hr; have := hL x hx hr; simp only [k1 x e]; exact this
  · intro x hx; by_cases e : x = f
    · subst e; rw [k0.2.1, k0.2.2.1, pf, ← g3.2.1]; refine ⟨gl.1, by omega, by omega, fun j hj => ?_⟩
      rw [k7 j hj]; exact gl.2.2.2 j (by omega)
    · simp only [k1 x e, k6 x e]; exact hG x hx
  · simpa [jV, jW, k2] using hV
  · obtain ⟨x, y, hxy, wx, wy⟩ := hQ
    have key : ∀ z, jg a cl ce z → jg b cl ce z := by
      intro z hz; by_cases e : z = f
      · subst e; have h1 := hz.2.1; have h2 := hz.2.2
        refine ⟨hz.1, by rw [k0.2.1]; omega, ?_⟩
        rw [k0.2.2.1]
        rcases ef with ⟨e, h⟩ | h
        · omega
        · have := hC.2.2.2 _ gl.1 (by omega); omega
      · unfold jg; rw [k1 _ e, k1 _ e]; exact hz
    exact ⟨x, y, hxy, key x wx, key y wy⟩
  · intro x hx; rw [k2 _ 3 (by omega) (by omega) (by omega) (by omega)]; by_cases e : x = f
    · subst e; refine ⟨af.1, fun i hi => ?_, fun e he hlt => ?_⟩
      · rw [k0.2.1, pf, ← g3.2.1]; exact app.2 i hi
      · rw [k0.2.1] at hlt; exact af.2.2 e he (by omega)
    · have := hA x hx; unfold jK; rw [k1 x e]; exact this
  · intro x hx hr; rw [k2 _ 0 (by omega) (by omega) (by omega) (by omega)] at hr; have hfl := fl x hx hr
    by_cases e : x = f
    · subst e
      have c1 : r 22 x 0 = q 22 x 0 := k5 _ _ _ (Or.inl (by omega))
      have c2 : r 23 x 0 = q 23 x 0 := k5 _ _ _ (Or.inl (by omega))
      have c3 : r 18 x 0 = q 18 x 0 := k5 _ _ _ (Or.inr (by omega))
      have c4 : r 18 x 1 = q 18 x 1 := k5 _ _ _ (Or.inr (by omega))
      have c5 : r 19 x 1 = q 19 x 1 := k5 _ _ _ (Or.inr (by omega))
      simp only [k2 _ 1 (by omega) (by omega) (by omega) (by omega), k2 _ 10 (by omega) (by omega) (by omega) (by omega), k2 _ 14 (by omega) (by omega) (by omega) (by omega), k2 _ 15 (by omega) (by omega) (by omega) (by omega), k2 _ 16 (by omega) (by omega) (by omega) (by omega), k2 _ 17 (by omega) (by omega) (by omega) (by omega), k2 _ 21 (by omega) (by omega) (by omega) (by omega), k2 _ 24 (by omega) (by omega) (by omega) (by omega), k0]
      grind
    · have := h1 x hx hr; simp only [k1 x e, k3 _ x _ e, k1 _ hfl]; exact this
  · intro x hx hr ht; rw [k2 _ 0 (by omega) (by omega) (by omega) (by omega)] at hr; rw [k2 _ 16 (by omega) (by omega) (by omega) (by omega)] at ht; have hfl := fl x hx hr
    have := h2 x hx hr ht
    by_cases e : x = f
    · subst e
      have c1 : r 22 x 1 = q 22 x 1 := k5 _ _ _ (Or.inl (by omega))
      have c2 : r 23 x 1 = q 23 x 1 := k5 _ _ _ (Or.inl (by omega))
      rw [k2 _ 14 (by omega) (by omega) (by omega) (by omega)]
      simp only [k1 _ hfl, k2 _ 17 (by omega) (by omega) (by omega) (by omega), k2 _ 21 (by omega) (by omega) (by omega) (by omega), k2 _ 24 (by omega) (by omega) (by omega) (by omega), c1, c2, k0]
      exact ⟨this.1, this.2.1, this.2.2.1, this.2.2.2.1, this.2.2.2.2.1, this.2.2.2.2.2.1, this.2.2.2.2.2.2.1, this.2.2.2.2.2.2.2.1, this.2.2.2.2.2.2.2.2.1, by omega⟩
    · simp only [k1 x e, k3 _ x _ e, k1 _ hfl]; exact this
  · intro x hx hr ht; rw [k2 _ 0 (by omega) (by omega) (by omega) (by omega)] at hr; have hfl := fl x hx hr
    by_cases e : x = f
    · subst e
      rw [k2 _ 14 (by omega) (by omega) (by omega) (by omega)]
      simp only [k1 _ hfl, k0]
      refine ⟨by omega, by omega, by omega, by omega, fun j j1 j2 => ?_⟩
      have : j = 2 := by omega
      subst this; rw [k4.1, k4.2]; exact ⟨rfl, Nat.le_refl _⟩
    · have := h3 x hx hr; simp only [k1 x e, k3 _ x _ e, k1 _ hfl] at *; exact this ht
  · intro x hx hr j j1 j2; rw [k2 _ 0 (by omega) (by omega) (by omega) (by omega)] at hr; rw [k2 _ 24 (by omega) (by omega) (by omega) (by omega)] at j2; have hfl := fl x hx hr
    have := h4 x hx hr j j1 j2
    rw [k5 _ _ _ (Or.inl (by omega)), k5 _ _ _ (Or.inl (by omega)), k2 _ 14 (by omega) (by omega) (by omega) (by omega)]
    unfold jK; simp only [k1 _ hfl]; exact this
-- the length simulated grows
theorem n_le (h : jM4 a q sett H I cl cm n) {f : Nat} (hf : f < 3) (hr : a 0 f = 2) : ∀ d i, 2 ≤ i → i + d ≤ a 24 f → n f i ≤ n f (i + d) := by
  intro d; induction d with
  | zero => intro i _ _; exact Nat.le_refl _
  | succ d ih => intro i h1 h2; have := ih i h1 (by omega); have := (h f hf hr (i + d) (by omega) (by omega)).1; rw [show i + (d + 1) = i + d + 1 from rfl]; omega
-- PROPOSE is read
theorem pt_prop (h : JG mk a q lg top own vt sett H HL I cl cm ce n) (f : Nat) (hf : f < 3) (hr : a 0 f = 2) (hd : 2 ≤ a 25 f) (hd2 : a 25 f < a 24 f) (hk : q 22 f (a 25 f) = 6)
    (k0 : b 25 f = a 25 f + 1 ∧ b 4 f = a 4 f + 1 ∧ b 20 f = a 20 f + 1) (k1 : ∀ x, x ≠ f → ∀ k, b k x = a k x) (k2 : ∀ x k, k ≠ 25 → k ≠ 4 → k ≠ 20 → b k x = a k x) (k3 : ∀ k x j, x ≠ f → r k x j = q k x j) (k4 : r 18 f (a 20 f) = 3 ∧ r 19 f (a 20 f) = a 4 f + 1) (k5 : ∀ k x j, (k ≠ 18 ∧ k ≠ 19) ∨ j < a 20 f → r k x j = q k x j)
    (k6 : ∀ x, x ≠ f → lh x = lg x) (k7 : lh f (a 4 f) = lg (a 14 f) (q 23 f (a 25 f))) (k8 : ∀ j, j < a 4 f → lh f j = lg f j) :
    JG mk b r lh top own vt sett H HL I cl cm ce n ∧ q 23 f (a 25 f) = a 4 f ∧ a 4 f < a 4 (a 14 f) := by
  obtain ⟨hB, hF, hL, hG, hH, hV, hC, hQ, hA, h1, h2, h3, h4⟩ := h
  have g1 := h1 f hf hr
  have g2 := hF f hf hr
  have ht : a 16 f ≠ 0 := by omega
  have m2 := h2 f hf hr ht
  have m3 := h3 f hf hr hd
  have m4 := h4 f hf hr _ hd hd2
  have nle := n_le h4 hf hr (a 24 f - (a 25 f + 1)) (a 25 f + 1) (by omega) (by omega)
  rw [show a 25 f + 1 + (a 24 f - (a 25 f + 1)) = a 24 f by omega] at nle
  have m4' : q 23 f (a 25 f) = n f (a 25 f) ∧ n f (a 25 f + 1) = n f (a 25 f) + 1 := by
    rcases m4.2 with h | h
    · exact h.2
    · omega
  have gl := hG _ g2.1
  have gf := hG f hf
  have bf := hB f hf
  have bl := hB _ g2.1
  have rl : ∀ x, 3 ≤ a 0 x → x ≠ f := fun x h e => by subst e; omega
  have fl : ∀ x, x < 3 → a 0 x = 2 → a 14 x ≠ f := fun x hx h e => by have := (hF x hx h).2.2; rw [e] at this; omega
  have hv : q 23 f (a 25 f) = a 4 f := by omega
  have hlt : a 4 f < a 4 (a 14 f) := by omega
  refine ⟨⟨?_, ?_, ?_, ?_, hH, ?_, hC, ?_, ?_, ?_, ?_, ?_, ?_⟩, hv, hlt⟩
  · intro x hx; have := hB x hx; by_cases e : x = f
    · subst e; simp only [k0, k2 _ 0 (by omega) (by omega) (by omega), k2 _ 1 (by omega) (by omega) (by omega), k2 _ 2 (by omega) (by omega) (by omega), k2 _ 3 (by omega) (by omega) (by omega)]; omega
    · simp only [k1 x e]; exact this
  · simpa [jF, k2] using hF
  · intro x hx hr; rw [k2 _ 0 (by omega) (by omega) (by omega)] at hr; have e := rl x hr; have := hL x hx hr; simp only [k1 x e]; exact this
  · intro x hx; by_cases e : x = f
    · subst e; rw [k0.2.1, k2 _ 2 (by omega) (by omega) (by omega)]; refine ⟨gf.1, by rw [m3.1]; omega, by omega, fun j hj => ?_⟩
      rcases Nat.lt_or_ge j (a 4 x) with h | h
      · rw [k8 j h]; exact gf.2.2.2 j h
      · have : j = a 4 x := by omega
        subst this; rw [k7, hv, gl.2.2.2 _ hlt, m3.1]
    · simp only [k1 x e, k6 x e]; exact hG x hx
  · simpa [jV, jW, k2] using hV
  · obtain ⟨x, y, hxy, wx, wy⟩ := hQ
    have key : ∀ z, jg a cl ce z → jg b cl ce z := by
      intro z hz; by_cases e : z = f
      · subst e; have h2 := hz.2.2; refine ⟨hz.1, by rw [k2 _ 2 (by omega) (by omega) (by omega)]; exact hz.2.1, by rw [k0.2.1]; omega⟩
      · unfold jg; rw [k1 _ e, k1 _ e]; exact hz
    exact ⟨x, y, hxy, key x wx, key y wy⟩
  · simpa [jA, jK, k2] using hA
  · intro x hx hr; rw [k2 _ 0 (by omega) (by omega) (by omega)] at hr; have hfl := fl x hx hr
    by_cases e : x = f
    · subst e
      have c1 : r 22 x 0 = q 22 x 0 := k5 _ _ _ (Or.inl (by omega))
      have c2 : r 23 x 0 = q 23 x 0 := k5 _ _ _ (Or.inl (by omega))
      have c3 : r 18 x 0 = q 18 x 0 := k5 _ _ _ (Or.inr (by omega))
      have c4 : r 18 x 1 = q 18 x 1 := k5 _ _ _ (Or.inr (by omega))
      have c5 : r 19 x 1 = q 19 x 1 := k5 _ _ _ (Or.inr (by omega))
      simp only [k2 _ 1 (by omega) (by omega) (by omega), k2 _ 10 (by omega) (by omega) (by omega), k2 _ 14 (by omega) (by omega) (by omega), k2 _ 15 (by omega) (by omega) (by omega), k2 _ 16 (by omega) (by omega) (by omega), k2 _ 17 (by omega) (by omega) (by omega), k2 _ 21 (by omega) (by omega) (by omega), k2 _ 24 (by omega) (by omega) (by omega), k0]
      grind
    · have := h1 x hx hr; simp only [k1 x e, k3 _ x _ e, k1 _ hfl]; exact this
  · intro x hx hr ht; rw [k2 _ 0 (by omega) (by omega) (by omega)] at hr; rw [k2 _ 16 (by omega) (by omega) (by omega)] at ht; have hfl := fl x hx hr
    have := h2 x hx hr ht
    by_cases e : x = f
    · subst e
      have c1 : r 22 x 1 = q 22 x 1 := k5 _ _ _ (Or.inl (by omega))
      have c2 : r 23 x 1 = q 23 x 1 := k5 _ _ _ (Or.inl (by omega))
      rw [k2 _ 14 (by omega) (by omega) (by omega)]
      simp only [k1 _ hfl, k2 _ 17 (by omega) (by omega) (by omega), k2 _ 21 (by omega) (by omega) (by omega), k2 _ 24 (by omega) (by omega) (by omega), c1, c2, k0]
      exact ⟨this.1, this.2.1, this.2.2.1, this.2.2.2.1, this.2.2.2.2.1, this.2.2.2.2.2.1, this.2.2.2.2.2.2.1, this.2.2.2.2.2.2.2.1, this.2.2.2.2.2.2.2.2.1, by omega⟩
    · simp only [k1 x e, k3 _ x _ e, k1 _ hfl]; exact this
  · intro x hx hr ht; rw [k2 _ 0 (by omega) (by omega) (by omega)] at hr; have hfl := fl x hx hr
    by_cases e : x = f
    · subst e
      rw [k2 _ 14 (by omega) (by omega) (by omega), k2 _ 2 (by omega) (by omega) (by omega)]
      simp only [k1 _ hfl, k0]
      refine ⟨m3.1, by omega, by omega, by omega, fun j j1 j2 => ?_⟩
      rcases Nat.lt_or_ge j (a 20 x) with h | h
      · rw [k5 _ _ _ (Or.inr h), k5 _ _ _ (Or.inr h)]; have := m3.2.2.2.2 j j1 h; omega
      · have : j = a 20 x := by omega
        subst this; rw [k4.1, k4.2]; exact ⟨rfl, Nat.le_refl _⟩
    · have := h3 x hx hr; simp only [k1 x e, k3 _ x _ e, k1 _ hfl] at *; exact this ht
  · intro x hx hr j j1 j2; rw [k2 _ 0 (by omega) (by omega) (by omega)] at hr; rw [k2 _ 24 (by omega) (by omega) (by omega)] at j2; have hfl := fl x hx hr
    have := h4 x hx hr j j1 j2
    rw [k5 _ _ _ (Or.inl (by omega)), k5 _ _ _ (Or.inl (by omega)), k2 _ 14 (by omega) (by omega) (by omega)]
    unfold jK; simp only [k1 _ hfl]; exact this
-- COMMIT is read
theorem pt_com (h : JG mk a q lg top own vt sett H HL I cl cm ce n) (f : Nat) (hf : f < 3) (hr : a 0 f = 2) (hd : 2 ≤ a 25 f) (hd2 : a 25 f < a 24 f) (hk : q 22 f (a 25 f) ≠ 6)
    (k0 : b 25 f = a 25 f + 1 ∧ b 3 f = max (q 23 f (a 25 f)) (a 3 f)) (k1 : ∀ x, x ≠ f → ∀ k, b k x = a k x) (k2 : ∀ x k, k ≠ 25 → k ≠ 3 → b k x = a k x) :
    JG mk b q lg top own vt sett H HL I cl cm ce n ∧ q 22 f (a 25 f) = 7 ∧ q 23 f (a 25 f) ≤ a 4 f := by
  obtain ⟨hB, hF, hL, hG, hH, hV, hC, hQ, hA, h1, h2, h3, h4⟩ := h
  have g1 := h1 f hf hr
  have g2 := hF f hf hr
  have m3 := h3 f hf hr hd
  have m4 := h4 f hf hr _ hd hd2
  have m4' : q 22 f (a 25 f) = 7 ∧ q 23 f (a 25 f) ≤ n f (a 25 f) ∧ n f (a 25 f + 1) = n f (a 25 f) ∧ jK a sett H I cl cm (a 14 f) (q 23 f (a 25 f)) := by
    rcases m4.2 with h | h
    · exact absurd h.1 hk
    · exact h
  have bf := hB f hf
  have af := hA f hf
  have rl : ∀ x, 3 ≤ a 0 x → x ≠ f := fun x h e => by subst e; omega
  have fl : ∀ x, x < 3 → a 0 x = 2 → a 14 x ≠ f := fun x hx h e => by have := (hF x hx h).2.2; rw [e] at this; omega
  refine ⟨⟨?_, ?_, ?_, ?_, hH, ?_, hC, ?_, ?_, ?_, ?_, ?_, ?_⟩, m4'.1, by omega⟩
  · intro x hx; have := hB x hx; by_cases e : x = f
    · subst e; simp only [k0, k2 _ 0 (by omega) (by omega), k2 _ 1 (by omega) (by omega), k2 _ 2 (by omega) (by omega), k2 _ 4 (by omega) (by omega)]; omega
    · simp only [k1 x e]; exact this
  · simpa [jF, k2] using hF
  · simpa [jL, k2] using hL
  · simpa [jG, k2] using hG
  · simpa [jV, jW, k2] using hV
  · simpa [jQ, jg, k2] using hQ
  · intro x hx; by_cases e : x = f
    · subst e; rw [k0.2]
      rcases Nat.le_total (q 23 x (a 25 x)) (a 3 x) with h | h
      · rw [Nat.max_eq_right h]; simpa [jK, k2] using af
      · rw [Nat.max_eq_left h]
        have := m4'.2.2.2
        unfold jK at *; rw [k2 _ 2 (by omega) (by omega), m3.1]; exact this
    · have := hA x hx; simp only [jK, k1 x e] at *; exact this
  · intro x hx hr; rw [k2 _ 0 (by omega) (by omega)] at hr; have hfl := fl x hx hr
    by_cases e : x = f
    · subst e
      simp only [k2 _ 1 (by omega : 1 ≠ 25) (by omega), k2 _ 10 (by omega : 10 ≠ 25) (by omega), k2 _ 14 (by omega : 14 ≠ 25) (by omega), k2 _ 15 (by omega : 15 ≠ 25) (by omega), k2 _ 16 (by omega : 16 ≠ 25) (by omega), k2 _ 17 (by omega : 17 ≠ 25) (by omega), k2 _ 20 (by omega : 20 ≠ 25) (by omega), k2 _ 21 (by omega : 21 ≠ 25) (by omega), k2 _ 24 (by omega : 24 ≠ 25) (by omega), k0]
      grind
    · have := h1 x hx hr; simp only [k1 x e, k1 _ hfl]; exact this
  · intro x hx hr ht; rw [k2 _ 0 (by omega) (by omega)] at hr; rw [k2 _ 16 (by omega) (by omega)] at ht; have hfl := fl x hx hr
    have := h2 x hx hr ht
    by_cases e : x = f
    · subst e
      rw [k2 _ 14 (by omega) (by omega)]
      simp only [k1 _ hfl, k2 _ 17 (by omega : 17 ≠ 25) (by omega), k2 _ 21 (by omega : 21 ≠ 25) (by omega), k2 _ 24 (by omega : 24 ≠ 25) (by omega), k0]
      exact ⟨this.1, this.2.1, this.2.2.1, this.2.2.2.1, this.2.2.2.2.1, this.2.2.2.2.2.1, this.2.2.2.2.2.2.1, this.2.2.2.2.2.2.2.1, this.2.2.2.2.2.2.2.2.1, by omega⟩
    · simp only [k1 x e, k1 _ hfl]; exact this
  · intro x hx hr ht; rw [k2 _ 0 (by omega) (by omega)] at hr; have hfl := fl x hx hr
    by_cases e : x = f
    · subst e
      rw [k2 _ 14 (by omega) (by omega), k2 _ 2 (by omega) (by omega), k2 _ 4 (by omega) (by omega), k2 _ 20 (by omega) (by omega)]
      simp only [k1 _ hfl, k0]
      rw [m4'.2.2.1]
      exact m3
    · have := h3 x hx hr; simp only [k1 x e, k1 _ hfl] at *; exact this ht
  · intro x hx hr j j1 j2; rw [k2 _ 0 (by omega) (by omega)] at hr; rw [k2 _ 24 (by omega) (by omega)] at j2; have hfl := fl x hx hr
    have := h4 x hx hr j j1 j2
    rw [k2 _ 14 (by omega) (by omega)]
    unfold jK; simp only [k1 _ hfl]; exact this
-- an entry is made and proposed on the tied links
theorem pt_make (h : JG mk a q lg top own vt sett H HL I cl cm ce n) {n' : Nat → Nat → Nat} (l : Nat) (hl : l < 3) (hr : a 0 l = 4) (hlen : a 4 l < 24) (T : Nat → Prop) (hT : ∀ g, T g ↔ g < 3 ∧ a 0 g = 2 ∧ a 14 g = l ∧ a 16 g ≠ 0)
    (k0 : b 4 l = a 4 l + 1 ∧ b 12 l = a 12 l + 1) (k1 : ∀ x k, ¬ T x → x ≠ l → b k x = a k x) (k1' : ∀ x, T x → b 24 x = a 24 x + 1) (k2 : ∀ x k, k ≠ 4 → k ≠ 12 → k ≠ 24 → b k x = a k x) (k2' : ∀ x, x ≠ l → b 4 x = a 4 x ∧ b 12 x = a 12 x) (k3 : ∀ k x j, ¬ T x → r k x j = q k x j) (k4 : ∀ x, T x → r 22 x (a 24 x) = 6 ∧ r 23 x (a 24 x) = a 4 l) (k5 : ∀ k x j, k < 22 ∨ j < a 24 x → r k x j = q k x j)
    (k6 : ∀ x, x ≠ l → lh x = lg x) (k7 : mk (lh l (a 4 l)) = 1000 * a 2 l + a 12 l + 1) (k8 : ∀ j, j < a 4 l → lh l j = lg l j)
    (kn : ∀ x, T x → n' x (a 24 x + 1) = a 4 l + 1) (kn2 : ∀ x j, ¬ T x ∨ j ≤ a 24 x → n' x j = n x j) :
    JG mk b r lh top own vt sett (fun e j => if e = a 2 l ∧ j = a 4 l then lh l j else H e j) (fun e => if e = a 2 l then a 4 l + 1 else HL e) I cl cm ce n' := by
  obtain ⟨hB, hF, hL, hG, hH, hV, hC, hQ, hA, h1, h2, h3, h4⟩ := h
  have g3 := hL l hl (by omega)
  have st := g3.2.2.1 hr
  have g4 := g3.2.1 st
  have gl := hG l hl
  have bl := hB l hl
  have hle := hH.2 _ gl.1
  have Tr : ∀ x, T x → a 0 x = 2 := fun x h => ((hT x).1 h).2.1
  have nl : ∀ x, T x → x ≠ l := fun x h e => by have := Tr x h; subst e; omega
  have Hold : ∀ e j, j < HL e → (if e = a 2 l ∧ j = a 4 l then lh l j else H e j) = H e j := by
    intro e j hj; rw [if_neg]; intro ⟨h1, h2⟩; subst h1; omega
  have Hol : ∀ j, j ≠ a 4 l → ∀ e, (if e = a 2 l ∧ j = a 4 l then lh l j else H e j) = H e j := by
    intro j hj e; rw [if_neg]; intro ⟨h1, h2⟩; exact hj h2
  have HLle : ∀ e, HL e ≤ if e = a 2 l then a 4 l + 1 else HL e := by
    intro e; split
    · rename_i h; subst h; omega
    · exact Nat.le_refl _
  have jk : ∀ x k', x < 3 → k' ≤ a 4 x → jK a sett H I cl cm x k' → jK b sett (fun e j => if e = a 2 l ∧ j = a 4 l then lh l j else H e j) I cl cm x k' := by
    intro x k' hx hk ⟨c1, c2, c3⟩
    have gx := hG x hx
    refine ⟨c1, fun i hi => ?_, fun e he hlt => ?_⟩
    · rw [k2 _ 2 (by omega) (by omega) (by omega)]; show (if _ then _ else _) = _; rw [Hold _ _ (by omega)]; exact c2 i hi
    · rw [k2 _ 2 (by omega) (by omega) (by omega)] at hlt; have := c3 e he hlt; have h0 := hH.2 e he
      refine ⟨this.1, fun i hi => ?_⟩; show (if _ then _ else _) = _; rw [Hold _ _ (by omega)]; exact this.2 i hi
  refine ⟨?_, ?_, ?_, ?_, ?_, ?_, ?_, ?_, ?_, ?_, ?_, ?_, ?_⟩
  · intro x hx; have := hB x hx; simp only [k2 _ 0 (by omega) (by omega) (by omega), k2 _ 1 (by omega) (by omega) (by omega), k2 _ 2 (by omega) (by omega) (by omega), k2 _ 3 (by omega) (by omega) (by omega)]
    by_cases e : x = l
    · subst e; rw [k0.1]; omega
    · rw [(k2' x e).1]; exact this
  · simpa [jF, k2] using hF
  · intro x hx hr; simp only [k2 _ 0 (by omega) (by omega) (by omega), k2 _ 1 (by omega) (by omega) (by omega), k2 _ 2 (by omega) (by omega) (by omega), k2 _ 10 (by omega) (by omega) (by omega), k2 _ 11 (by omega) (by omega) (by omega)] at *
    by_cases e : x = l
    · subst e; rw [k0.1, k0.2]
      refine ⟨g3.1, fun _ => ⟨g4.1, g4.2.1, g4.2.2.1, by simp, by simp; omega, fun j hj => ?_⟩, g3.2.2.1, g3.2.2.2.1, by omega⟩
      simp only [if_true] at hj
      by_cases hj' : j = a 4 x
      · subst hj'; simp only [and_self, if_true]; omega
      · simp only [hj', and_false, if_false]; have := g4.2.2.2.2.2 j (by omega); omega
    · have := hL x hx hr; rw [(k2' x e).1, (k2' x e).2]
      refine ⟨this.1, fun h => ?_, this.2.2⟩
      have := this.2.1 h
      have ne : a 2 x ≠ a 2 l := fun h => by have h1 := this.2.2.1; have h2 := g4.2.2.1; rw [h] at h1; omega
      simp only [ne, if_false, false_and]; exact this
  · intro x hx; have gx := hG x hx; rw [k2 _ 2 (by omega) (by omega) (by omega)]
    by_cases e : x = l
    · subst e; rw [k0.1]; refine ⟨gx.1, by simp, by omega, fun j hj => ?_⟩
      by_cases hj' : j = a 4 x
      · subst hj'; simp
      · simp only [hj', and_false, if_false]; rw [k8 j (by omega)]; exact gx.2.2.2 j (by omega)
    · rw [(k2' x e).1, k6 x e]; refine ⟨gx.1, Nat.le_trans gx.2.1 (HLle _), gx.2.2.1, fun j hj => ?_⟩
      show _ = if _ then _ else _; rw [Hold _ _ (by omega)]; exact gx.2.2.2 j hj
  · refine ⟨hH.1, fun e he => ?_⟩
    have h0 := hH.2 e he
    by_cases ee : e = a 2 l
    · subst ee; simp only [if_true, true_and]
      refine ⟨h0.1, by omega, fun j hj => ?_, fun i j hij hj => ?_⟩
      · by_cases hj' : j = a 4 l
        · subst hj'; simp only [if_true]; have := g4.2.2.2.2.1; omega
        · simp only [hj', if_false]; exact h0.2.2.1 j (by omega)
      · have hi' : i ≠ a 4 l := by omega
        simp only [hi', if_false]
        by_cases hj' : j = a 4 l
        · subst hj'; simp only [if_true]; have := g4.2.2.2.2.2 i (by omega); omega
        · simp only [hj', if_false]; exact h0.2.2.2 i j hij (by omega)
    · simp only [ee, if_false, false_and]; exact h0
  · simpa [jV, jW, k2] using hV
  · refine ⟨hC.1, hC.2.1, fun e he hce => ?_, hC.2.2.2⟩
    have := hC.2.2.1 e he hce
    refine ⟨Nat.le_trans this.1 (HLle _), fun j hj => ?_⟩
    show (if _ then _ else _) = _; rw [Hold _ _ (by omega)]; exact this.2 j hj
  · obtain ⟨x, y, hxy, wx, wy⟩ := hQ
    have key : ∀ z, jg a cl ce z → jg b cl ce z := by
      intro z hz; refine ⟨hz.1, by rw [k2 _ 2 (by omega) (by omega) (by omega)]; exact hz.2.1, ?_⟩
      have := hz.2.2
      by_cases e : z = l
      · subst e; rw [k0.1]; omega
      · rw [(k2' z e).1]; exact this
    exact ⟨x, y, hxy, key x wx, key y wy⟩
  · intro x hx; rw [k2 _ 3 (by omega) (by omega) (by omega)]; exact jk x _ hx (hB x hx).2.2.2 (hA x hx)
  · intro x hx hr; rw [k2 _ 0 (by omega) (by omega) (by omega)] at hr
    have g := h1 x hx hr
    have nx : x ≠ l := fun e => by subst e; omega
    simp only [k2 _ 1 (by omega) (by omega) (by omega), k2 _ 10 (by omega) (by omega) (by omega), k2 _ 14 (by omega) (by omega) (by omega), k2 _ 15 (by omega) (by omega) (by omega), k2 _ 16 (by omega) (by omega) (by omega), k2 _ 17 (by omega) (by omega) (by omega), k2 _ 20 (by omega) (by omega) (by omega), k2 _ 21 (by omega) (by omega) (by omega), k2 _ 25 (by omega) (by omega) (by omega), k5 _ _ _ (Or.inl (by omega : 18 < 22)), k5 _ _ _ (Or.inl (by omega : 19 < 22))]
    by_cases t : T x
    · have t' := (hT x).1 t
      have m := h2 x hx hr t'.2.2.2
      rw [k1' x t, k5 22 x 0 (Or.inr (by omega)), k5 23 x 0 (Or.inr (by omega))]
      grind
    · rw [k1 x _ t nx, k3 _ _ _ t, k3 _ _ _ t]; exact g
  · intro x hx hr ht; rw [k2 _ 0 (by omega) (by omega) (by omega)] at hr; rw [k2 _ 16 (by omega) (by omega) (by omega)] at ht
    have m := h2 x hx hr ht
    have nx : x ≠ l := fun e => by subst e; omega
    simp only [k2 _ 2 (by omega) (by omega) (by omega), k2 _ 3 (by omega) (by omega) (by omega), k2 _ 11 (by omega) (by omega) (by omega), k2 _ 14 (by omega) (by omega) (by omega), k2 _ 17 (by omega) (by omega) (by omega), k2 _ 21 (by omega) (by omega) (by omega), k2 _ 25 (by omega) (by omega) (by omega), (k2' x nx).1]
    by_cases t : T x
    · have t' := (hT x).1 t
      rw [k1' x t, k5 22 x 1 (Or.inr (by omega)), k5 23 x 1 (Or.inr (by omega)), kn x t, kn2 x 2 (Or.inr (by omega)), t'.2.2.1, k0.1]
      rw [t'.2.2.1] at m
      exact ⟨m.1, m.2.1, by omega, m.2.2.2.1, m.2.2.2.2.1, by omega, m.2.2.2.2.2.2.1, rfl, by omega, m.2.2.2.2.2.2.2.2.2⟩
    · have e : a 14 x ≠ l := fun e => t ((hT x).2 ⟨hx, hr, e, ht⟩)
      rw [k1 x _ t nx, k3 _ _ _ t, k3 _ _ _ t, (k2' _ e).1, kn2 x _ (Or.inl t), kn2 x _ (Or.inl t)]; exact m
  · intro x hx hr ht; rw [k2 _ 0 (by omega) (by omega) (by omega)] at hr; rw [k2 _ 25 (by omega) (by omega) (by omega)] at ht
    have m := h3 x hx hr ht
    have g := h1 x hx hr
    have nx : x ≠ l := fun e => by subst e; omega
    simp only [k2 _ 2 (by omega) (by omega) (by omega), k2 _ 14 (by omega) (by omega) (by omega), k2 _ 20 (by omega) (by omega) (by omega), k2 _ 25 (by omega) (by omega) (by omega), (k2' x nx).1, k5 _ _ _ (Or.inl (by omega : 18 < 22)), k5 _ _ _ (Or.inl (by omega : 19 < 22))]
    rw [kn2 x _ (Or.inr (by omega))]; exact m
  · intro x hx hr j j1 j2; rw [k2 _ 0 (by omega) (by omega) (by omega)] at hr
    have nx : x ≠ l := fun e => by subst e; omega
    have hf := hF x hx hr
    rw [k2 _ 14 (by omega) (by omega) (by omega)]
    have go : j < a 24 x → n' x j ≤ n' x (j + 1) ∧ (r 22 x j = 6 ∧ r 23 x j = n' x j ∧ n' x (j + 1) = n' x j + 1 ∨ r 22 x j = 7 ∧ r 23 x j ≤ n' x j ∧ n' x (j + 1) = n' x j ∧ jK b sett (fun e j => if e = a 2 l ∧ j = a 4 l then lh l j else H e j) I cl cm (a 14 x) (r 23 x j)) := by
      intro hj
      have m := h4 x hx hr j j1 hj
      have g := h1 x hx hr
      have m2 := h2 x hx hr (by omega)
      have nle := n_le h4 hx hr (a 24 x - j) j j1 (by omega)
      rw [show j + (a 24 x - j) = a 24 x by omega] at nle
      rw [kn2 x _ (Or.inr (by omega)), kn2 x _ (Or.inr (by omega)), k5 _ _ _ (Or.inr hj), k5 _ _ _ (Or.inr hj)]
      exact ⟨m.1, m.2.imp id fun ⟨c1, c2, c3, c4⟩ => ⟨c1, c2, c3, jk _ _ hf.1 (by omega) c4⟩⟩
    by_cases t : T x
    · have t' := (hT x).1 t
      have m := h2 x hx hr t'.2.2.2
      rw [k1' x t] at j2
      rcases Nat.lt_or_ge j (a 24 x) with hj | hj
      · exact go hj
      · have : j = a 24 x := by omega
        subst this
        rw [kn x t, kn2 x _ (Or.inr (Nat.le_refl _)), (k4 x t).1, (k4 x t).2, m.2.2.2.2.2.2.2.1, t'.2.2.1]
        exact ⟨by omega, Or.inl ⟨rfl, rfl, rfl⟩⟩
    · rw [k1 x _ t nx] at j2; exact go j2
end PR
