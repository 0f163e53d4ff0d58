section UPB
variable {T : Nat} {c : CS} {a : RS}
def LK (k : Nat) : Prop := k = 6 ∨ k = 20 ∨ k = 21 ∨ k = 22 ∨ k = 23 ∨ k = 24
theorem fr_append {x : CS} {f mk kd pa va vb k i : Nat} (h : LK k → i ≠ f) : w_X0_append x f mk kd pa va vb k i = x k i := by
  unfold LK at h
  unfold w_X0_append; split
  · rw [su3_ne (by omega), su3_ne (by omega), su3_ne (by omega), su3_ne (by omega), su3_ne (by omega), su3_ne (by omega)]
  · rfl
theorem fr_appendFrom {x : CS} {f o n k i : Nat} (h : LK k → i ≠ f) : w_X0_appendFrom x f o n k i = x k i := by
  unfold w_X0_appendFrom
  repeat' split
  all_goals first | rfl | exact fr_append h
theorem fr_become {x : CS} {f o n k i : Nat} (h : LK k → i ≠ f) : w_X0_becomeFirst x f o n k i = x k i := by
  have key : ∀ (d t : Nat) (y : CS), lpw_X0_becomeFirst_7 x f o n d t y k i = y k i := by
    intro d
    induction d with
    | zero => intro t y; rfl
    | succ d ih =>
      intro t y
      simp only [lpw_X0_becomeFirst_7]
      split
      · rfl
      · rw [ih, fr_appendFrom h]
  unfold w_X0_becomeFirst
  rw [key]
  unfold LK at h
  rw [su3_ne (by omega)]
theorem choose_c (h : Inv T c a) {g f : Nat} (hg : g < 3) (hf : f < 3) (hT : T < 1000000) :
    (tks a g f → w_X6_chooseList c g f = su3 (su3 (w_X0_becomeFirst c g f (c 6 f 0)) 2 g 0 ((w_X0_becomeFirst c g f (c 6 f 0)) 1 g 0)) 17 g 0 1) ∧ (¬ tks a g f → w_X6_chooseList c g f = su3 (su3 c 2 g 0 (c 1 g 0)) 17 g 0 1) := by
  have bg := j_B h.2.2.1 hg
  have bf := j_B h.2.2.1 hf
  have tg := (h.2.2.2.2.2 g hg).1
  have tf := (h.2.2.2.2.2 f hf).1
  have eg : c 2 g 0 = a 2 g := (h.2.1 g hg).1.2.2.1
  have ef : c 2 f 0 = a 2 f := (h.2.1 f hf).1.2.2.1
  have mg := lastm_c h hg
  have mf := lastm_c h hf
  have lg := lastm_lt h hg hT
  have lf := lastm_lt h hf hT
  rw [← mg] at lg
  rw [← mf] at lf
  have d1 : ¬ Int32.ofNat 1 = 0 := by decide
  have d0 : Int32.ofNat 0 = 0 := rfl
  unfold tks
  rw [← mg, ← mf]
  unfold w_X6_chooseList
  rw [eg, ef]
  have iE : Int32.ofNat (a 2 f) = Int32.ofNat (a 2 g) ↔ a 2 f = a 2 g := ofN_eq (by omega) (by omega)
  have iL : Int32.ofNat (a 2 g) < Int32.ofNat (a 2 f) ↔ a 2 g < a 2 f := ofN_lt (by omega) (by omega)
  have iM : Int32.ofNat (r_X0_lastMark c f) ≤ Int32.ofNat (r_X0_lastMark c g) ↔ r_X0_lastMark c f ≤ r_X0_lastMark c g := ofN_le lf lg
  by_cases hE : a 2 f = a 2 g
  · by_cases hM : r_X0_lastMark c f ≤ r_X0_lastMark c g
    · have nL : ¬ Int32.ofNat (a 2 g) < Int32.ofNat (a 2 f) := fun q => by have := iL.mp q; omega
      simp only [if_pos (iE.mpr hE), if_pos (iM.mpr hM), if_neg nL, if_neg d1, if_pos d0]
      exact ⟨fun q => by omega, fun _ => trivial⟩
    · have nL : ¬ Int32.ofNat (a 2 g) < Int32.ofNat (a 2 f) := fun q => by have := iL.mp q; omega
      simp only [if_pos (iE.mpr hE), if_neg (fun q => hM (iM.mp q)), if_neg nL, if_neg d1]
      exact ⟨fun _ => trivial, fun q => by omega⟩
  · by_cases hL : a 2 g < a 2 f
    · simp only [if_neg (fun q => hE (iE.mp q)), if_pos (iL.mpr hL)]
      refine ⟨fun _ => ?_, fun q => by omega⟩
      split <;> rfl
    · simp only [if_neg (fun q => hE (iE.mp q)), if_neg (fun q => hL (iL.mp q)), if_pos d0]
      refine ⟨fun q => by omega, fun _ => ?_⟩
      split <;> rfl
theorem inv_settle (h : Inv T c a) {f g : Nat} (hf : f < 3) (hr : a 0 f = 2) (hg : a 14 f = g) (hd : 1 ≤ a 25 f) (hfr : a 19 (64 * f + 1) = 1) (hc : a 10 g ≠ 0) (hs : a 11 g = 0) (hT : T < 1000000) :
    (tks a g f → Inv T (w_X6_chooseList c g f) (su2 (su2 (w_X7_copy a f g (a 4 f)) 2 g (a 10 g)) 11 g 1)) ∧ (¬ tks a g f → Inv T (w_X6_chooseList c g f) (su2 (su2 a 2 g (a 10 g)) 11 g 1)) := by
  have hJ := h.2.2.1
  have hF := j_F hJ hf hr
  rw [hg] at hF
  have js := j_settle hJ hf hr hg hd hfr hc hs
  have cc := choose_c h hF.1 hf hT
  have cb := cb_X6_chooseList (g := g) (f := f) h.1
  have bf := j_B hJ hf
  have bg := j_B hJ hF.1
  have e10 : a 10 g = a 1 g := by
    obtain ⟨top, own, vt, sett, H, HL, I, cl, cm, ce, n, hh⟩ := hJ
    exact ((hh.2.2.1 g hF.1 hF.2.2).1 hc).1
  have hI := h
  obtain ⟨h1, h2, h3, h4, h5, h6⟩ := h
  have hl3 : ∀ s, s < 3 → a 4 s ≤ 24 := fun s hs => (j_B hJ hs).2.2.1
  have e6 : c 6 f 0 = a 4 f := (h2 f hf).1.2.2.2.2.1
  have e1 : c 1 g 0 = a 10 g := (h2 g hF.1).1.2.1.trans e10.symm
  refine ⟨fun ht => ?_, fun ht => ?_⟩
  · rw [cc.1 ht] at cb ⊢
    have ft : w_X0_becomeFirst c g f (c 6 f 0) 1 g 0 = a 10 g := by rw [fr_become (by unfold LK; omega)]; exact e1
    rw [ft] at cb ⊢
    rw [e6] at cb ⊢
    obtain ⟨j1, j2, j3⟩ := js.2 ht
    have sm := p_settled (n := 1) (g := g) (p_epoch (f := g) (n := a 10 g) (p_copy h2 hF.1 hf hF.2.1 (Nat.le_refl _) hl3))
    refine ⟨cb, sm, j1, fun s hs' => ?_, fun s hs' j hj => ?_, ?_⟩
    · by_cases e : s = g
      · subst e
        have f5 : w_X0_becomeFirst c s f (a 4 f) 5 s = c 5 s := fr_become (by unfold LK; omega)
        have sB2 := (p_copy h2 hF.1 hf hF.2.1 (Nat.le_refl _) hl3 s hF.1).2.1
        have e5 : c 5 s 0 = a 3 s := (h2 s hF.1).1.2.2.2.1
        refine TR_congr (c := c) ?_ (fun k hk => ?_) (fun j hj => ?_) (fun j hj => ?_) (h4 s hs')
        · rw [su3_ne (Or.inl (by decide)), su3_ne (Or.inl (by decide)), f5]
        · unfold TK at hk
          rw [su3_ne (by omega), su3_ne (by omega), fr_become (by unfold LK; omega)]
        · rw [su3_ne (Or.inl (by decide)), su3_ne (Or.inl (by decide)), fr_become (by unfold LK; omega)]
        · rw [e5] at hj
          have hl4 : w_X7_copy a f s (a 4 f) 4 s = a 4 f := by unfold w_X7_copy; rw [su2_same]
          have nb := sB2 j (by rw [hl4]; omega)
          have ob := (h2 s hF.1).2.1 j (by omega)
          have lj := j3 j hj
          rw [lgf_at (by omega), lgf_at (by omega)] at lj
          have l6 := congrArg (fun z : XE => z.2.1) lj
          have l7 := congrArg (fun z : XE => z.2.2.1) lj
          have l8 := congrArg (fun z : XE => z.2.2.2.1) lj
          have l9 := congrArg (fun z : XE => z.2.2.2.2) lj
          simp only at l6 l7 l8 l9
          unfold ec
          rw [su3_ne (Or.inl (by decide)), su3_ne (Or.inl (by decide)), su3_ne (Or.inl (by decide)), su3_ne (Or.inl (by decide)), su3_ne (Or.inl (by decide)), su3_ne (Or.inl (by decide)), su3_ne (Or.inl (by decide)), su3_ne (Or.inl (by decide))]
          rw [nb.2.1, nb.2.2.1, nb.2.2.2.1, nb.2.2.2.2, ob.2.1, ob.2.2.1, ob.2.2.2.1, ob.2.2.2.2, l6, l7, l8, l9]
      · refine tr_frame (h4 s hs') (fun k hk => ?_)
        rw [su3_ne (Or.inr e), su3_ne (Or.inr e), fr_become (fun _ => e)]
    · have ca : ∀ q, 5 ≤ q ∧ q ≤ 9 → _ := fun q hq => copy_at (a := a) (f := f) (t := g) (n := a 4 f) hq (Ne.symm hF.2.1) hf hF.1 bf.2.2.1
      show ok4 (w_X7_copy a f g (a 4 f) 6 (24 * s + j)) (w_X7_copy a f g (a 4 f) 7 (24 * s + j)) (w_X7_copy a f g (a 4 f) 9 (24 * s + j))
      have hj' : j < w_X7_copy a f g (a 4 f) 4 s := hj
      by_cases e : s = g
      · subst e
        have hl4 : w_X7_copy a f s (a 4 f) 4 s = a 4 f := by unfold w_X7_copy; rw [su2_same]
        rw [hl4] at hj'
        rw [(ca 6 (by decide)).1 j hj', (ca 7 (by decide)).1 j hj', (ca 9 (by decide)).1 j hj']
        exact h5 f hf j hj'
      · have hl4 : w_X7_copy a f g (a 4 f) 4 s = a 4 s := by
          unfold w_X7_copy
          rw [show su2 (lpw_X7_copy_3 a f g (a 4 f) (a 4 f) 0 a) 4 g (a 4 f) 4 s = lpw_X7_copy_3 a f g (a 4 f) (a 4 f) 0 a 4 s by simp [su2, e]]
          rw [fr_copy_lp (by decide)]
        rw [hl4] at hj'
        have h24 := hl3 s hs'
        rw [(ca 6 (by decide)).2 s j (by omega) (fun q => absurd q e), (ca 7 (by decide)).2 s j (by omega) (fun q => absurd q e), (ca 9 (by decide)).2 s j (by omega) (fun q => absurd q e)]
        exact h5 s hs' j hj'
    · have fr : ∀ q, q < 4 ∨ 9 < q → q ≠ 2 → q ≠ 11 → su2 (su2 (w_X7_copy a f g (a 4 f)) 2 g (a 10 g)) 11 g 1 q = a q := fun q hq q2 q11 => by rw [su2_ne q11, su2_ne q2, fr_copy hq]
      refine bd_of h6 (fun s hs => ?_) (fun s hs => ?_) (fun s hs => ?_) (fun s hs => ?_) (fun s hs => ?_) (fr 14 (by decide) (by decide) (by decide)) (fun s hs => by rw [fr 0 (by decide) (by decide) (by decide)]) (fun s hs q => ?_) (fun s hs q => ?_)
      · rw [fr 1 (by decide) (by decide) (by decide)]; exact (h6 s hs).1
      · have := (h6 s hs).2.1
        rw [show su2 (su2 (w_X7_copy a f g (a 4 f)) 2 g (a 10 g)) 11 g 1 11 s = if s = g then 1 else w_X7_copy a f g (a 4 f) 11 s from rfl, fr_copy (by decide)]
        split <;> omega
      · rw [fr 15 (by decide) (by decide) (by decide)]; exact (h6 s hs).2.2.1
      · rw [fr 16 (by decide) (by decide) (by decide)]; exact (h6 s hs).2.2.2.1
      · rw [fr 17 (by decide) (by decide) (by decide)]; exact (h6 s hs).2.2.2.2.1
      · rw [fr 19 (by decide) (by decide) (by decide), fr 20 (by decide) (by decide) (by decide)]; exact (h6 s hs).2.2.2.2.2.2.1 q
      · rw [fr 20 (by decide) (by decide) (by decide), fr 21 (by decide) (by decide) (by decide), fr 24 (by decide) (by decide) (by decide), fr 25 (by decide) (by decide) (by decide)]
        exact ⟨rfl, rfl, rfl, rfl⟩
  · rw [cc.2 ht] at cb ⊢
    rw [e1] at cb ⊢
    have sm := p_settled (n := 1) (g := g) (p_epoch (f := g) (n := a 10 g) h2)
    refine ⟨cb, sm, js.1 ht, fun s hs' => ?_, h5, ?_⟩
    · refine tr_frame (h4 s hs') (fun k hk => ?_)
      unfold TK at hk
      rw [su3_ne (by omega), su3_ne (by omega)]
    · refine bd_of h6 (fun s hs => (h6 s hs).1) (fun s hs => ?_) (fun s hs => (h6 s hs).2.2.1) (fun s hs => (h6 s hs).2.2.2.1) (fun s hs => (h6 s hs).2.2.2.2.1) rfl (fun s hs => Iff.rfl) (fun s hs q => (h6 s hs).2.2.2.2.2.2.1 q) (fun s hs q => ⟨rfl, rfl, rfl, rfl⟩)
      have := (h6 s hs).2.1
      show (if s = g then 1 else a 11 s) ≤ 1
      split <;> omega
end UPB
