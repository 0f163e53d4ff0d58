section MKJ
variable {T : Nat} {c : CS} {a : RS}
theorem sendDown_comm4 {f kd vl i n : Nat} : su2 (w_X7_sendDown a f kd vl) 4 i n = w_X7_sendDown (su2 a 4 i n) f kd vl := by
  unfold w_X7_sendDown
  rw [su2_ne (k' := 24) (k := 4) (by decide)]
  rw [su2_comm (k := 24) (k' := 4) (by decide), su2_comm (k := 23) (k' := 4) (by decide), su2_comm (k := 22) (k' := 4) (by decide)]
theorem snd_comm4 {g kd vr i n : Nat} : ∀ (d t : Nat) (x : RS), su2 (snd g kd vr d t x) 4 i n = snd g kd vr d t (su2 x 4 i n) := by
  intro d
  induction d with
  | zero => intro t x; rfl
  | succ d ih =>
    intro t x
    simp only [snd]
    have e1 : r_X7_follows (su2 x 4 i n) t g = r_X7_follows x t g := rfl
    have e2 : su2 x 4 i n 16 t = x 16 t := rfl
    rw [e1, e2]
    split
    · exact ih _ _
    · split
      · exact ih _ _
      · rw [ih, sendDown_comm4]
def mkB (a : RS) (g kd pa va vb : Nat) : RS := su2 (su2 (su2 (su2 (su2 (su2 (su2 a 12 g (a 12 g + 1)) 5 (24 * g + a 4 g) (1000 * a 2 g + (a 12 g + 1))) 6 (24 * g + a 4 g) kd) 7 (24 * g + a 4 g) pa) 8 (24 * g + a 4 g) va) 9 (24 * g + a 4 g) vb) 4 g (a 4 g + 1)
theorem make_eq {g kd pa va vb : Nat} : w_X7_make a g kd pa va vb = snd g 6 (a 4 g) 3 0 (mkB a g kd pa va vb) := by
  unfold w_X7_make mkB
  rw [snd84, fr_snd (by decide), snd_comm4]
  rfl
theorem mkB_k {g kd pa va vb k : Nat} (h : k ≠ 12 ∧ k ≠ 4 ∧ (k < 5 ∨ 9 < k)) : mkB a g kd pa va vb k = a k := by
  unfold mkB
  rw [su2_ne (by omega), su2_ne (by omega), su2_ne (by omega), su2_ne (by omega), su2_ne (by omega), su2_ne (by omega), su2_ne (by omega)]
theorem mkB_4 {g kd pa va vb s : Nat} : mkB a g kd pa va vb 4 s = if s = g then a 4 g + 1 else a 4 s := rfl
theorem mkB_12 {g kd pa va vb s : Nat} : mkB a g kd pa va vb 12 s = if s = g then a 12 g + 1 else a 12 s := rfl
theorem mkB_l {g kd pa va vb s j : Nat} (hs : s < 3) (hg : g < 3) (h4 : a 4 g < 24) (hj : j < 24) : lgf (mkB a g kd pa va vb) s j = if s = g ∧ j = a 4 g then (1000 * a 2 g + (a 12 g + 1), kd, pa, va, vb) else lgf a s j := by
  rw [lgf_at hj, lgf_at hj]
  have e5 : mkB a g kd pa va vb 5 (24 * s + j) = if 24 * s + j = 24 * g + a 4 g then 1000 * a 2 g + (a 12 g + 1) else a 5 (24 * s + j) := rfl
  have e6 : mkB a g kd pa va vb 6 (24 * s + j) = if 24 * s + j = 24 * g + a 4 g then kd else a 6 (24 * s + j) := rfl
  have e7 : mkB a g kd pa va vb 7 (24 * s + j) = if 24 * s + j = 24 * g + a 4 g then pa else a 7 (24 * s + j) := rfl
  have e8 : mkB a g kd pa va vb 8 (24 * s + j) = if 24 * s + j = 24 * g + a 4 g then va else a 8 (24 * s + j) := rfl
  have e9 : mkB a g kd pa va vb 9 (24 * s + j) = if 24 * s + j = 24 * g + a 4 g then vb else a 9 (24 * s + j) := rfl
  rw [e5, e6, e7, e8, e9]
  by_cases e : s = g ∧ j = a 4 g
  · have e2 : 24 * s + j = 24 * g + a 4 g := by omega
    rw [if_pos e, if_pos e2, if_pos e2, if_pos e2, if_pos e2, if_pos e2]
  · have e2 : ¬ 24 * s + j = 24 * g + a 4 g := by omega
    rw [if_neg e, if_neg e2, if_neg e2, if_neg e2, if_neg e2, if_neg e2]
theorem lgf_snd {g kd vr d t : Nat} {x : RS} : lgf (snd g kd vr d t x) = lgf x := by
  funext s j; unfold lgf
  rw [fr_snd (by decide), fr_snd (by decide), fr_snd (by decide), fr_snd (by decide), fr_snd (by decide)]
theorem qf_eq {x y : RS} {k s j : Nat} (h : k = 18 ∨ k = 19 ∨ k = 22 ∨ k = 23 → j < 64 → x k (64 * s + j) = y k (64 * s + j)) : qf x k s j = qf y k s j := by
  unfold qf
  by_cases e : (k = 18 ∨ k = 19 ∨ k = 22 ∨ k = 23) ∧ j < 64
  · rw [if_pos e, if_pos e]; exact h e.1 e.2
  · rw [if_neg e, if_neg e]
theorem sck_no {k : Nat} (h : sck k = true) : k < 5 ∨ 9 < k := by unfold sck at h; simp at h; omega
theorem sck_nq {k : Nat} (h : sck k = true) : k ≠ 22 ∧ k ≠ 23 := by unfold sck at h; simp at h; omega
theorem inv_make (h : Inv T c a) {g kd pa va vb : Nat} (hg : g < 3) (hr : a 0 g = 4) (hl : a 4 g < 24) (hok : ok4 kd pa vb) : Inv T (w_X6_makeEntry c g kd pa va vb) (w_X7_make a g kd pa va vb) := by
  have hI := h
  have hJ := h.2.2.1
  have bg := j_B hJ hg
  have hl3 : ∀ s, s < 3 → a 4 s ≤ 24 := fun s hs => (j_B hJ hs).2.2.1
  have a24 : ∀ q, q < 3 → a 24 q ≤ 51 := fun q hq => i_24 hI hq
  obtain ⟨h1, h2, h3, h4, h5, h6⟩ := h
  have sg := h2 g hg
  have e18 : c 18 g 0 = a 12 g := (sg.2.2.1 (by omega)).2.2
  have e2 : c 2 g 0 = a 2 g := sg.1.2.2.1
  have sa : Sim (w_X0_append (su3 c 18 g 0 (a 12 g + 1)) g (1000 * a 2 g + (a 12 g + 1)) kd pa va vb) (mkB a g kd pa va vb) :=
    p_append (f := g) (mk := 1000 * a 2 g + (a 12 g + 1)) (kd := kd) (pa := pa) (va := va) (vb := vb) (p_made (g := g) (n := a 12 g + 1) h2) hg hl hl3
  have c6 : w_X0_append (su3 c 18 g 0 (a 12 g + 1)) g (1000 * a 2 g + (a 12 g + 1)) kd pa va vb 6 g 0 = a 4 g + 1 := (sa g hg).1.2.2.2.2.1.trans (by rw [mkB_4, if_pos rfl])
  have k0 : mkB a g kd pa va vb 0 = a 0 := mkB_k (by decide)
  have k14 : mkB a g kd pa va vb 14 = a 14 := mkB_k (by decide)
  have k16 : mkB a g kd pa va vb 16 = a 16 := mkB_k (by decide)
  have k24 : mkB a g kd pa va vb 24 = a 24 := mkB_k (by decide)
  have k22 : mkB a g kd pa va vb 22 = a 22 := mkB_k (by decide)
  have k23 : mkB a g kd pa va vb 23 = a 23 := mkB_k (by decide)
  have ps := p_snd (c1 := w_X0_append (su3 c 18 g 0 (a 12 g + 1)) g (1000 * a 2 g + (a 12 g + 1)) kd pa va vb) (kd := 6) (vl := a 4 g + 1) (vr := a 4 g) hg rfl 3 0 _ _ rfl sa (fun q hq => by
      rw [k16, k0, k14, k24]
      exact ⟨(h6 q hq).2.2.2.1, (j_B hJ hq).1, (h6 q hq).2.2.2.2.2.1, by have := a24 q hq; omega⟩) (fun q _ hq r2 r14 r16 => by
      rw [k0] at r2; rw [k14] at r14; rw [k16] at r16; rw [k24]
      have := j_slack hJ hq r2 r16
      rw [r14] at this
      have := (h6 q hq).2.2.2.2.1
      omega)
  rw [k0, k14, k16, k24] at ps
  obtain ⟨s1, s2, s3⟩ := ps
  have ew : w_X6_makeEntry c g kd pa va vb = w_X6_sendOnTiedLinks (w_X0_append (su3 c 18 g 0 (a 12 g + 1)) g (1000 * a 2 g + (a 12 g + 1)) kd pa va vb) g 6 (a 4 g + 1) := by
    unfold w_X6_makeEntry; rw [e18, e2, c6]
  have cb := cb_X6_makeEntry (g := g) (kd := kd) (pa := pa) (va := va) (vb := vb) h1
  rw [ew] at cb ⊢
  rw [make_eq]
  have fr : ∀ k, k ≠ 12 → k ≠ 4 → k < 5 ∨ 9 < k → k ≠ 22 ∧ k ≠ 23 ∧ k ≠ 24 → snd g 6 (a 4 g) 3 0 (mkB a g kd pa va vb) k = a k := fun k q1 q2 q3 q4 => by rw [fr_snd q4, mkB_k ⟨q1, q2, q3⟩]
  have f4 : ∀ s, snd g 6 (a 4 g) 3 0 (mkB a g kd pa va vb) 4 s = if s = g then a 4 g + 1 else a 4 s := fun s => by rw [fr_snd (by decide), mkB_4]
  have f12 : ∀ s, snd g 6 (a 4 g) 3 0 (mkB a g kd pa va vb) 12 s = if s = g then a 12 g + 1 else a 12 s := fun s => by rw [fr_snd (by decide), mkB_12]
  have t2 : ∀ q, 3 ≤ q ∨ ¬ (a 0 q = 2 ∧ a 14 q = g ∧ a 16 q ≠ 0) → snd g 6 (a 4 g) 3 0 (mkB a g kd pa va vb) 24 q = a 24 q ∧ ∀ p j, j < 64 → p = 22 ∨ p = 23 → snd g 6 (a 4 g) 3 0 (mkB a g kd pa va vb) p (64 * q + j) = a p (64 * q + j) := fun q hq => by
    obtain ⟨x1, x2⟩ := s2 q (Or.inr hq)
    refine ⟨x1, fun p j hj hp => ?_⟩
    rw [x2 p j hj hp]
    rcases hp with e | e <;> subst e
    · rw [k22]
    · rw [k23]
  have t3 : ∀ q, q < 3 → a 0 q = 2 → a 14 q = g → a 16 q ≠ 0 → snd g 6 (a 4 g) 3 0 (mkB a g kd pa va vb) 24 q = a 24 q + 1 ∧ snd g 6 (a 4 g) 3 0 (mkB a g kd pa va vb) 22 (64 * q + a 24 q) = 6 ∧ snd g 6 (a 4 g) 3 0 (mkB a g kd pa va vb) 23 (64 * q + a 24 q) = a 4 g ∧ ∀ p j, j < a 24 q → p = 22 ∨ p = 23 → snd g 6 (a 4 g) 3 0 (mkB a g kd pa va vb) p (64 * q + j) = a p (64 * q + j) := fun q q1 q2 q3 q4 => by
    obtain ⟨x1, x2, x3, x4⟩ := s3 q (Nat.zero_le _) q1 q2 q3 q4
    refine ⟨x1, x2, x3, fun p j hj hp => ?_⟩
    rw [x4 p j hj hp]
    rcases hp with e | e <;> subst e
    · rw [k22]
    · rw [k23]
  generalize hW : snd g 6 (a 4 g) 3 0 (mkB a g kd pa va vb) = W at *
  have lW : ∀ s j, s < 3 → j < 24 → lgf W s j = if s = g ∧ j = a 4 g then (1000 * a 2 g + (a 12 g + 1), kd, pa, va, vb) else lgf a s j := fun s j hs hj => by
    rw [← hW, lgf_snd]; exact mkB_l hs hg hl hj
  refine ⟨cb, s1, ?_, fun s hs => ?_, ?_, ?_⟩
  · obtain ⟨top, own, vt, sett, H, HL, I, cl, cm, ce, n, hh⟩ := h3
    have scW : ∀ k x, k ≠ 4 → k ≠ 12 → k ≠ 24 → sc W k x = sc a k x := fun k x q1 q2 q3 => by
      unfold sc
      by_cases e : sck k = true
      · rw [if_pos e, if_pos e, fr k q2 q1 (sck_no e) ⟨(sck_nq e).1, (sck_nq e).2, q3⟩]
      · rw [if_neg e, if_neg e]
    have nT : ∀ x, ¬ (x < 3 ∧ a 0 x = 2 ∧ a 14 x = g ∧ a 16 x ≠ 0) → 3 ≤ x ∨ ¬ (a 0 x = 2 ∧ a 14 x = g ∧ a 16 x ≠ 0) := fun x q => by
      rcases Nat.lt_or_ge x 3 with e | e
      · exact Or.inr (fun z => q ⟨e, z⟩)
      · exact Or.inl e
    have pm := pt_make (b := sc W) (r := qf W) (lh := lgf W) (n' := fun x j => if (x < 3 ∧ a 0 x = 2 ∧ a 14 x = g ∧ a 16 x ≠ 0) ∧ j = a 24 x + 1 then a 4 g + 1 else n x j) hh g hg hr hl (fun x => x < 3 ∧ a 0 x = 2 ∧ a 14 x = g ∧ a 16 x ≠ 0) (fun x => Iff.rfl)
      ⟨by rw [sc_at rfl, f4, if_pos rfl]; rfl, by rw [sc_at rfl, f12, if_pos rfl]; rfl⟩
      (fun x k q1 q2 => by
        by_cases e4 : k = 4
        · subst e4; rw [sc_at rfl, sc_at rfl, f4, if_neg q2]
        · by_cases e12 : k = 12
          · subst e12; rw [sc_at rfl, sc_at rfl, f12, if_neg q2]
          · by_cases e24 : k = 24
            · subst e24; rw [sc_at rfl, sc_at rfl, (t2 x (nT x q1)).1]
            · exact scW k x e4 e12 e24)
      (fun x q => by rw [sc_at rfl, sc_at rfl]; exact (t3 x q.1 q.2.1 q.2.2.1 q.2.2.2).1)
      (fun x k q1 q2 q3 => scW k x q1 q2 q3)
      (fun x q => by rw [sc_at rfl, sc_at rfl, sc_at rfl, sc_at rfl, f4, f12, if_neg q, if_neg q]; exact ⟨rfl, rfl⟩)
      (fun k x j q => qf_eq (fun hk hj => by
        rcases hk with e | e | e | e
        · subst e; rw [fr 18 (by decide) (by decide) (by decide) (by decide)]
        · subst e; rw [fr 19 (by decide) (by decide) (by decide) (by decide)]
        · exact (t2 x (nT x q)).2 k j hj (Or.inl e)
        · exact (t2 x (nT x q)).2 k j hj (Or.inr e)))
      (fun x q => by
        have z := t3 x q.1 q.2.1 q.2.2.1 q.2.2.2
        have zb := a24 x q.1
        rw [sc_at rfl, sc_at rfl, qf_at (by omega) (by omega), qf_at (by omega) (by omega)]
        exact ⟨z.2.1, z.2.2.1⟩)
      (fun k x j q => qf_eq (fun hk hj => by
        rcases hk with e | e | e | e
        · subst e; rw [fr 18 (by decide) (by decide) (by decide) (by decide)]
        · subst e; rw [fr 19 (by decide) (by decide) (by decide) (by decide)]
        · by_cases t : x < 3 ∧ a 0 x = 2 ∧ a 14 x = g ∧ a 16 x ≠ 0
          · exact (t3 x t.1 t.2.1 t.2.2.1 t.2.2.2).2.2.2 k j (by rcases q with q | q; omega; exact q) (Or.inl e)
          · exact (t2 x (nT x t)).2 k j hj (Or.inl e)
        · by_cases t : x < 3 ∧ a 0 x = 2 ∧ a 14 x = g ∧ a 16 x ≠ 0
          · exact (t3 x t.1 t.2.1 t.2.2.1 t.2.2.2).2.2.2 k j (by rcases q with q | q; omega; exact q) (Or.inr e)
          · exact (t2 x (nT x t)).2 k j hj (Or.inr e)))
      (fun x q => by
        rw [← hW, lgf_snd]
        funext j
        by_cases j24 : j < 24
        · rw [lgf_at j24, lgf_at j24]
          have e2 : ¬ 24 * x + j = 24 * g + a 4 g := by omega
          have e5 : ∀ k, k ≠ 12 → k ≠ 4 → mkB a g kd pa va vb k (24 * x + j) = a k (24 * x + j) := fun k q1 q2 => by
            unfold mkB
            rw [su2_ne q2]
            simp only [su2, if_neg e2, if_neg q1, ite_self]
          rw [e5 5 (by decide) (by decide), e5 6 (by decide) (by decide), e5 7 (by decide) (by decide), e5 8 (by decide) (by decide), e5 9 (by decide) (by decide)]
        · unfold lgf; rw [if_pos (by omega), if_pos (by omega)])
      (by
        show (lgf W g (a 4 g)).1 = 1000 * a 2 g + a 12 g + 1
        rw [lW g (a 4 g) hg hl, if_pos ⟨rfl, rfl⟩]; rfl)
      (fun j hj => by
        have hj' : j < a 4 g := hj
        rw [lW g j hg (by omega), if_neg (by omega)])
      (fun x q => by
        show (if (x < 3 ∧ a 0 x = 2 ∧ a 14 x = g ∧ a 16 x ≠ 0) ∧ a 24 x + 1 = a 24 x + 1 then a 4 g + 1 else n x (a 24 x + 1)) = a 4 g + 1
        rw [if_pos ⟨q, rfl⟩])
      (fun x j q => by
        have q' : ¬ (x < 3 ∧ a 0 x = 2 ∧ a 14 x = g ∧ a 16 x ≠ 0) ∨ j ≤ a 24 x := q
        show (if (x < 3 ∧ a 0 x = 2 ∧ a 14 x = g ∧ a 16 x ≠ 0) ∧ j = a 24 x + 1 then a 4 g + 1 else n x j) = n x j
        rw [if_neg (fun z => by rcases q' with q' | q'; exact q' z.1; have := z.2; omega)])
    exact ⟨_, _, _, _, _, _, _, _, _, _, _, pm⟩
  · by_cases e : s = g
    · subst e
      refine tr_log (h4 s hs) h2 s1 hs ?_ (fun k hk => ?_) ?_ bg.2.2.2 ?_ bg.2.2.1 (fun j hj => ?_)
      · exact (fr_tied (by decide)).trans (by rw [fr_append (by unfold LK; omega), su3_ne (Or.inl (by decide))])
      · unfold TK at hk
        exact (fr_tied (by omega)).trans (by rw [fr_append (by unfold LK; omega), su3_ne (by omega)])
      · exact (fr_tied (by decide)).trans (by rw [fr_append (by unfold LK; omega), su3_ne (Or.inl (by decide))])
      · rw [f4, if_pos rfl]; omega
      · rw [lW s j hs (by omega), if_neg (by omega)]
    · refine tr_frame (h4 s hs) (fun q hq => ?_)
      unfold TK at hq
      rw [fr_tied (by omega), fr_append (fun _ => e), su3_ne (by omega)]
  · intro s hs j hj
    rw [f4] at hj
    have b24 := hl3 s hs
    have j24 : j < 24 := by
      by_cases e : s = g
      · rw [if_pos e] at hj; omega
      · rw [if_neg e] at hj; omega
    have lj := lW s j hs j24
    rw [lgf_at j24] at lj
    by_cases e : s = g ∧ j = a 4 g
    · rw [if_pos e] at lj
      have l6 := congrArg (fun z : XE => z.2.1) lj
      have l7 := congrArg (fun z : XE => z.2.2.1) lj
      have l9 := congrArg (fun z : XE => z.2.2.2.2) lj
      simp only at l6 l7 l9
      rw [l6, l7, l9]; exact hok
    · rw [if_neg e, lgf_at j24] at lj
      have l6 := congrArg (fun z : XE => z.2.1) lj
      have l7 := congrArg (fun z : XE => z.2.2.1) lj
      have l9 := congrArg (fun z : XE => z.2.2.2.2) lj
      simp only at l6 l7 l9
      rw [l6, l7, l9]
      refine h5 s hs j ?_
      by_cases eg : s = g
      · rw [if_pos eg] at hj; rw [eg]; omega
      · rw [if_neg eg] at hj; exact hj
  · refine bd_of h6 (fun s hs => ?_) (fun s hs => ?_) (fun s hs => ?_) (fun s hs => ?_) (fun s hs => ?_) (fr 14 (by decide) (by decide) (by decide) (by decide)) (fun s hs => by rw [fr 0 (by decide) (by decide) (by decide) (by decide)]) (fun s hs q => ?_) (fun s hs q => ?_)
    · rw [fr 1 (by decide) (by decide) (by decide) (by decide)]; exact (h6 s hs).1
    · rw [fr 11 (by decide) (by decide) (by decide) (by decide)]; exact (h6 s hs).2.1
    · rw [fr 15 (by decide) (by decide) (by decide) (by decide)]; exact (h6 s hs).2.2.1
    · rw [fr 16 (by decide) (by decide) (by decide) (by decide)]; exact (h6 s hs).2.2.2.1
    · rw [fr 17 (by decide) (by decide) (by decide) (by decide)]; exact (h6 s hs).2.2.2.2.1
    · rw [fr 19 (by decide) (by decide) (by decide) (by decide), fr 20 (by decide) (by decide) (by decide) (by decide)]; exact (h6 s hs).2.2.2.2.2.2.1 q
    · rw [fr 20 (by decide) (by decide) (by decide) (by decide), fr 21 (by decide) (by decide) (by decide) (by decide), fr 25 (by decide) (by decide) (by decide) (by decide), (t2 s (Or.inr (fun z => q z.1))).1]
      exact ⟨rfl, rfl, rfl, rfl⟩
end MKJ
