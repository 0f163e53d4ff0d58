section INV
def sck (k : Nat) : Bool := decide (k < 5) || decide (k = 10) || decide (k = 11) || decide (k = 12) || decide (k = 14) || decide (k = 15) || decide (k = 16) || decide (k = 17) || decide (k = 20) || decide (k = 21) || decide (k = 24) || decide (k = 25)
def sc (a : RS) : Nat → Nat → Nat := fun k s => if sck k = true then a k s else 0
def qf (a : RS) : Nat → Nat → Nat → Nat := fun k s j => if (k = 18 ∨ k = 19 ∨ k = 22 ∨ k = 23) ∧ j < 64 then a k (64 * s + j) else 0
abbrev XE : Type := Nat × ND
def lgf (a : RS) : Nat → Nat → XE := fun s j => if 24 ≤ j then (0, 0, 0, 0, 0) else (a 5 (24 * s + j), a 6 (24 * s + j), a 7 (24 * s + j), a 8 (24 * s + j), a 9 (24 * s + j))
def JR (a : RS) : Prop := ∃ top own vt sett H HL I cl cm ce n, JG (Prod.fst : XE → Nat) (sc a) (qf a) (lgf a) top own vt sett H HL I cl cm ce n
def BD (a : RS) (T : Nat) : Prop := ∀ s, s < 3 → a 1 s ≤ T ∧ a 11 s ≤ 1 ∧ a 15 s ≤ 1 ∧ a 16 s ≤ 1 ∧ a 17 s ≤ 1 ∧ a 14 s < 3 ∧ (a 0 s = 2 → a 19 (64 * s) ≤ T ∧ (2 ≤ a 20 s → a 19 (64 * s + 1) ≤ 1)) ∧ (a 0 s ≠ 2 → a 20 s = 0 ∧ a 21 s = 0 ∧ a 24 s = 0 ∧ a 25 s = 0)
def EVs (a : RS) : Prop := ∀ s, s < 3 → ∀ j, j < a 4 s → ok4 (a 6 (24 * s + j)) (a 7 (24 * s + j)) (a 9 (24 * s + j))
def Inv (T : Nat) (c : CS) (a : RS) : Prop := CB c ∧ Sim c a ∧ JR a ∧ (∀ s, s < 3 → TR c s) ∧ EVs a ∧ BD a T
theorem sc_su {a : RS} {k i v : Nat} (h : sck k = true) : sc (su2 a k i v) = u2 (sc a) k i v := by
  funext k' s'
  show (if sck k' = true then (if k' = k then (if s' = i then v else a k' s') else a k' s') else 0) = if k' = k ∧ s' = i then v else (if sck k' = true then a k' s' else 0)
  by_cases e : k' = k
  · subst e; rw [if_pos h, if_pos rfl]
    by_cases e2 : s' = i
    · rw [if_pos e2, if_pos ⟨rfl, e2⟩]
    · rw [if_neg e2, if_neg (fun q => e2 q.2), if_pos h]
  · rw [if_neg e, if_neg (fun q : k' = k ∧ s' = i => e q.1)]
theorem sc_no {a : RS} {k i v : Nat} (h : sck k = false) : sc (su2 a k i v) = sc a := by
  funext k' s'
  unfold sc su2
  by_cases e : k' = k
  · subst e; rw [h]; rfl
  · rw [if_neg e]
theorem qf_no {a : RS} {k i v : Nat} (h : k ≠ 18 ∧ k ≠ 19 ∧ k ≠ 22 ∧ k ≠ 23) : qf (su2 a k i v) = qf a := by
  funext k' s' j'
  unfold qf
  by_cases e : (k' = 18 ∨ k' = 19 ∨ k' = 22 ∨ k' = 23) ∧ j' < 64
  · rw [if_pos e, if_pos e, su2_ne (by omega)]
  · rw [if_neg e, if_neg e]
theorem lgf_no {a : RS} {k i v : Nat} (h : k < 5 ∨ 9 < k) : lgf (su2 a k i v) = lgf a := by
  funext s' j'
  unfold lgf
  rw [su2_ne (by omega), su2_ne (by omega), su2_ne (by omega), su2_ne (by omega), su2_ne (by omega)]
-- a scalar key: the form of JG
theorem jg_su {a : RS} {k i v : Nat} {top own vt sett H HL I cl cm ce n} (h : sck k = true) (hj : JG (Prod.fst : XE → Nat) (u2 (sc a) k i v) (qf a) (lgf a) top own vt sett H HL I cl cm ce n) : JG (Prod.fst : XE → Nat) (sc (su2 a k i v)) (qf (su2 a k i v)) (lgf (su2 a k i v)) top own vt sett H HL I cl cm ce n := by
  have hk : k ≠ 18 ∧ k ≠ 19 ∧ k ≠ 22 ∧ k ≠ 23 ∧ (k < 5 ∨ 9 < k) := by
    unfold sck at h; simp at h; omega
  rw [sc_su h, qf_no ⟨hk.1, hk.2.1, hk.2.2.1, hk.2.2.2.1⟩, lgf_no hk.2.2.2.2]
  exact hj
theorem j_role {a : RS} {s v : Nat} (h : JR a) (hv : v ≤ 1) (hs : ∀ f, f < 3 → a 0 f = 2 → a 14 f ≠ s) : JR (su2 a 0 s v) := by
  obtain ⟨top, own, vt, sett, H, HL, I, cl, cm, ce, n, h⟩ := h
  exact ⟨top, own, vt, sett, H, HL, I, cl, cm, ce, n, jg_su rfl (pt_role h s v hv hs)⟩
theorem j_app0 {a : RS} {s : Nat} (h : JR a) (hr : a 0 s ≤ 1) : JR (su2 a 3 s 0) := by
  obtain ⟨top, own, vt, sett, H, HL, I, cl, cm, ce, n, h⟩ := h
  exact ⟨top, own, vt, sett, H, HL, I, cl, cm, ce, n, jg_su rfl (pt_app0 h s hr)⟩
theorem j_link {a : RS} {k s v : Nat} (h : JR a) (hk : k = 15 ∨ k = 16 ∨ k = 17 ∨ k = 20 ∨ k = 21 ∨ k = 24 ∨ k = 25) (hr : a 0 s ≠ 2) : JR (su2 a k s v) := by
  obtain ⟨top, own, vt, sett, H, HL, I, cl, cm, ce, n, h⟩ := h
  refine ⟨top, own, vt, sett, H, HL, I, cl, cm, ce, n, jg_su ?_ (pt_link h k s v hk hr)⟩
  rcases hk with e | e | e | e | e | e | e <;> subst e <;> rfl
theorem j_cut {a : RS} {f : Nat} (h : JR a) (hs : ∀ g, g < 3 → a 0 g = 2 → a 14 g ≠ f) : JR (w_X7_cut a f) := by
  unfold w_X7_cut
  have h0 := j_role (v := 1) h (Nat.le_refl _) hs
  have e : su2 a 0 f 1 0 f = 1 := su2_same
  have n2 : su2 a 0 f 1 0 f ≠ 2 := by rw [e]; decide
  exact j_link (j_link (j_link (j_link (j_link (j_link (j_link h0 (by omega) n2) (by omega) n2) (by omega) n2) (by omega) n2) (by omega) n2) (by omega) n2) (by omega) n2
theorem j_lead {a : RS} {v : Nat} (h : JR a) (hv : v < 3) (hr : a 0 v ≤ 1) : JR (su2 (su2 (su2 (su2 a 0 v 3) 10 v 0) 11 v 0) 12 v 0) := by
  obtain ⟨top, own, vt, sett, H, HL, I, cl, cm, ce, n, h⟩ := h
  refine ⟨top, own, vt, sett, H, HL, I, cl, cm, ce, n, jg_su rfl ?_⟩
  rw [sc_su rfl, sc_su rfl, sc_su rfl, qf_no (by decide), qf_no (by decide), qf_no (by decide), lgf_no (by decide), lgf_no (by decide), lgf_no (by decide)]
  exact pt_lead h v hv hr
-- what JR says plainly
theorem j_B {a : RS} (h : JR a) {s : Nat} (hs : s < 3) : a 0 s ≤ 4 ∧ a 2 s ≤ a 1 s ∧ a 4 s ≤ 24 ∧ a 3 s ≤ a 4 s := by
  obtain ⟨top, own, vt, sett, H, HL, I, cl, cm, ce, n, h⟩ := h
  exact h.1 s hs
theorem j_F {a : RS} (h : JR a) {s : Nat} (hs : s < 3) (hr : a 0 s = 2) : a 14 s < 3 ∧ a 14 s ≠ s ∧ 3 ≤ a 0 (a 14 s) := by
  obtain ⟨top, own, vt, sett, H, HL, I, cl, cm, ce, n, h⟩ := h
  exact h.2.1 s hs hr
theorem j_rows {a : RS} (h : JR a) {s : Nat} (hs : s < 3) (hr : a 0 s = 2) : a 21 s ≤ a 20 s ∧ a 20 s ≤ 27 ∧ a 25 s ≤ a 24 s ∧ a 24 s ≤ 51 := by
  obtain ⟨top, own, vt, sett, H, HL, I, cl, cm, ce, n, hB, hF, hL, hG, hH, hV, hC, hQ, hA, h1, h2, h3, h4⟩ := h
  have g1 := h1 s hs hr
  have gf := hF s hs hr
  have b1 := hB s hs
  have b2 := hB _ gf.1
  have x1 : a 21 s ≤ a 20 s := g1.1
  have x2 : a 25 s ≤ a 24 s := g1.2.1
  have x17 : a 17 s ≤ 1 := g1.2.2.2.2.2.2.2.2.2.2.2.2.1
  have x20 : a 25 s ≤ 1 → a 20 s ≤ 2 := g1.2.2.2.2.2.2.2.2.2.2.1
  have x24 : a 16 s = 0 → a 24 s ≤ 1 := g1.2.2.2.2.2.2.2.2.2.1
  have y4 : a 4 s ≤ 24 := b1.2.2.1
  have z4 : a 4 (a 14 s) ≤ 24 := b2.2.2.1
  have z3 : a 3 (a 14 s) ≤ a 4 (a 14 s) := b2.2.2.2
  refine ⟨x1, ?_, x2, ?_⟩
  · by_cases e : 2 ≤ a 25 s
    · have : a 20 s ≤ 3 + a 4 s := (h3 s hs hr e).2.2.2.1
      omega
    · have := x20 (by omega); omega
  · by_cases e : a 16 s = 0
    · have := x24 e; omega
    · have m := h2 s hs hr e
      have m1 : a 24 s + qf a 23 s 1 ≤ 2 + a 4 (a 14 s) + a 3 (a 14 s) + a 17 s := m.2.2.2.2.2.2.2.2.1
      omega
theorem i_RQ {T : Nat} {c : CS} {a : RS} (h : Inv T c a) : RQ a := by
  obtain ⟨-, -, hJ, -, -, hD⟩ := h
  intro s hs
  have b := j_B hJ hs
  have d := hD s hs
  by_cases e : a 0 s = 2
  · have r := j_rows hJ hs e
    exact ⟨b.2.2.2, b.2.2.1, d.2.2.2.2.2.1, by omega, by omega, by omega, by omega⟩
  · have z := d.2.2.2.2.2.2.2 e
    exact ⟨b.2.2.2, b.2.2.1, d.2.2.2.2.2.1, by omega, by omega, by omega, by omega⟩
theorem i_EVa {T : Nat} {c : CS} {a : RS} (h : Inv T c a) {s : Nat} (hs : s < 3) : EVa a s := by
  obtain ⟨-, -, hJ, -, hE, -⟩ := h
  intro j hj
  have b := j_B hJ hs
  obtain ⟨k1, k2, k3, k4, k5⟩ := hE s hs j (by omega)
  refine ⟨fun e => ?_, fun e => ?_⟩
  · have := (ofN_eq (by omega) (by decide)).mp e
    have := k4 this; omega
  · have := (ofN_lt (by decide) (by omega)).mp e
    have := k5 (by omega); omega
theorem i_ec {T : Nat} {c : CS} {a : RS} (h : Inv T c a) {s : Nat} (hs : s < 3) : ∀ j, j < a 4 s → ec c s j = er a s j := by
  intro j hj
  have := (h.2.1 s hs).2.1 j hj
  unfold ec er
  rw [this.2.1, this.2.2.1, this.2.2.2.1, this.2.2.2.2]
theorem i_work {T : Nat} {c : CS} {a : RS} (h : Inv T c a) {s : Nat} (hs : s < 3) : TB c s (w_X7_work a s) (a 3 s) ∧ ∀ j, j < a 3 s → c 25 s j = w_X7_work a s 31 j := by
  have b := j_B h.2.2.1 hs
  exact work_corr (h.2.2.2.1 s hs) (h.2.1 s hs).1.2.2.2.1 (fun j hj => i_ec h hs j (by omega))
end INV
