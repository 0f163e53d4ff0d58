section TICK
variable {T : Nat} {c : CS} {a : RS}
theorem jr_scratch {a' : RS} (h : JR a) (hk : ∀ k, k < 26 → a' k = a k) : JR a' := by
  have s : sc a' = sc a := by
    funext k x; unfold sc
    by_cases e : sck k = true
    · rw [if_pos e, if_pos e, hk k (by unfold sck at e; simp at e; omega)]
    · rw [if_neg e, if_neg e]
  have q : qf a' = qf a := by
    funext k x j
    exact qf_eq (fun hk' hj => by rw [hk k (by omega)])
  have l : lgf a' = lgf a := by
    funext x j; unfold lgf
    rw [hk 5 (by decide), hk 6 (by decide), hk 7 (by decide), hk 8 (by decide), hk 9 (by decide)]
  obtain ⟨top, own, vt, sett, H, HL, I, cl, cm, ce, n, h⟩ := h
  exact ⟨top, own, vt, sett, H, HL, I, cl, cm, ce, n, by rw [s, q, l]; exact h⟩
theorem inv_scratch {a' : RS} (h : Inv T c a) (hk : ∀ k, k < 26 → a' k = a k) : Inv T c a' := by
  obtain ⟨h1, h2, h3, h4, h5, h6⟩ := h
  refine ⟨h1, p_scratch h2 hk, jr_scratch h3 hk, h4, ?_, ?_⟩
  · intro s hs; rw [hk 4 (by decide), hk 6 (by decide), hk 7 (by decide), hk 9 (by decide)]; exact h5 s hs
  · exact bd_25 h6 (fun q hq => hk q (by omega)) (fun s hs _ => by rw [hk 25 (by decide)])
theorem inv_work (h : Inv T c a) {v : Nat} : Inv T c (w_X7_work a v) := inv_scratch h (fun k hk => fr_work hk)
theorem inv_age (h : Inv T c a) {g b n : Nat} (hg : g < 3) (hb : b < 5) (hn : n ≤ 3) : Inv T (su3 c 34 g b n) (su2 a 13 (5 * g + b) n) := by
  obtain ⟨h1, h2, h3, h4, h5, h6⟩ := h
  refine ⟨cb_su h1 (bnd_no (by decide)), p_age h2 hg hb hn, j_13 h3, fun s hs => ?_, h5, h6⟩
  refine tr_frame (h4 s hs) (fun q hq => ?_)
  unfold TK at hq
  rw [su3_ne (by omega)]
theorem inv_grow {c1 : CS} {a1 : RS} {g : Nat} (hg : g < 3) : ∀ (d k : Nat) (x : CS) (y : RS), k + d = 5 → 1 ≤ k → Inv T x y → y 0 g = 4 → (∀ b, 1 ≤ b → b ≤ 4 → (Int32.ofNat (r_X5_isOpen x g b) = 0 ↔ y 30 b = 0) ∧ y 30 b ≤ 1) →
    Inv T (lpw_X6_growAges_10 c1 g d k x) (lpw_X7_tick_26 a1 g d k y) ∧ (lpw_X7_tick_26 a1 g d k y) 0 g = 4 := by
  intro d
  induction d with
  | zero => intro k x y _ _ h hr _; exact ⟨h, hr⟩
  | succ d ih =>
    intro k x y hk h1 h hr ho
    have sF := (h.2.1 g hg).2.2.2.2.2.2.2 hr k (by omega)
    have ok := ho k h1 (by omega)
    have nxt : ∀ n, n ≤ 3 → Inv T (lpw_X6_growAges_10 c1 g d (k + 1) (su3 x 34 g k n)) (lpw_X7_tick_26 a1 g d (k + 1) (su2 y 13 (5 * g + k) n)) ∧ (lpw_X7_tick_26 a1 g d (k + 1) (su2 y 13 (5 * g + k) n)) 0 g = 4 := fun n hn =>
      ih (k + 1) _ _ (by omega) (by omega) (inv_age h hg (by omega) hn) hr (fun b b1 b4 => ho b b1 b4)
    simp only [lpw_X6_growAges_10, lpw_X7_tick_26]
    rw [sF.1]
    have s3 := sF.2
    rw [sF.1] at s3
    by_cases eo : y 30 k = 0
    · have m : Int32.ofNat (y 30 k) = 0 := by rw [eo]; rfl
      simp only [if_pos (ok.1.mpr eo), if_pos m, ite_self]
      exact nxt 0 (by decide)
    · have m : ¬ Int32.ofNat (y 30 k) = 0 := fun q => eo ((eq0_code (by omega)).mp q)
      simp only [if_neg (fun q => eo (ok.1.mp q)), if_neg m]
      by_cases e3 : y 13 (5 * g + k) = 3
      · have m1 : Int32.ofNat 3 ≤ Int32.ofNat (y 13 (5 * g + k)) := by rw [e3]; decide
        have m2 : Int32.ofNat 3 < Int32.ofNat (y 13 (5 * g + k) + 1) := by rw [e3]; decide
        simp only [if_pos m1, if_pos m2]
        exact nxt 3 (by decide)
      · have m1 : ¬ Int32.ofNat 3 ≤ Int32.ofNat (y 13 (5 * g + k)) := fun q => by have := (ofN_le (by decide) (by omega)).mp q; omega
        have m2 : ¬ Int32.ofNat 3 < Int32.ofNat (y 13 (5 * g + k) + 1) := fun q => by have := (ofN_lt (by decide) (by omega)).mp q; omega
        simp only [if_neg m1, if_neg m2]
        exact nxt _ (by omega)
theorem make0 {g kd pa va vb : Nat} : w_X7_make a g kd pa va vb 0 = a 0 := by rw [make_eq, fr_snd (by decide), mkB_k (by decide)]
theorem inv_close {c1 : CS} {a1 : RS} {g n0 : Nat} (hg : g < 3) : ∀ (d k n : Nat) (x : CS) (y : RS), k + d = 5 → 1 ≤ k → Inv T x y → y 0 g = 4 →
    Inv T (lpw_X6_closeOldSessions_13 c1 g d k n x) (lpw_X7_tick_96 a1 g d k (n0 + n) y) ∧ n0 + lpn_X6_closeOldSessions_13 c1 g d k n x = lpmm_X7_tick_96 a1 g d k (n0 + n) y := by
  intro d
  induction d with
  | zero => intro k n x y _ _ h _; exact ⟨h, rfl⟩
  | succ d ih =>
    intro k n x y hk h1 h hr
    have sF := (h.2.1 g hg).2.2.2.2.2.2.2 hr k (by omega)
    have b := j_B h.2.2.1 hg
    have e6 : x 6 g 0 = y 4 g := (h.2.1 g hg).1.2.2.2.2.1
    simp only [lpw_X6_closeOldSessions_13, lpw_X7_tick_96, lpn_X6_closeOldSessions_13, lpmm_X7_tick_96]
    unfold r_X0_isFull
    rw [sF.1, e6]
    have s3 := sF.2
    rw [sF.1] at s3
    by_cases e3 : y 13 (5 * g + k) = 3
    · have m1 : Int32.ofNat (y 13 (5 * g + k)) = Int32.ofNat 3 := by rw [e3]
      simp only [if_pos m1]
      by_cases l24 : y 4 g < 24
      · have m2 : Int32.ofNat (y 4 g) < Int32.ofNat 24 := (ofN_lt (by omega) (by decide)).mpr l24
        have m3 : ¬ Int32.ofNat 24 ≤ Int32.ofNat (y 4 g) := fun q => by have := (ofN_le (by decide) (by omega)).mp q; omega
        have d0 : Int32.ofNat 0 = 0 := rfl
        simp only [if_pos m2, if_neg m3, if_pos d0]
        have im := inv_make (kd := 5) (pa := 0) (va := 0) (vb := k) h hg hr l24 ⟨by decide, by decide, fun q => by omega, fun q => by omega, fun _ => by omega⟩
        have ia := inv_age (b := k) (n := 0) im hg (by omega) (by decide)
        exact ih (k + 1) (n + 1) _ _ (by omega) (by omega) ia (by rw [su2_ne (by decide), make0]; exact hr)
      · have m2 : ¬ Int32.ofNat (y 4 g) < Int32.ofNat 24 := fun q => l24 ((ofN_lt (by omega) (by decide)).mp q)
        have m3 : Int32.ofNat 24 ≤ Int32.ofNat (y 4 g) := (ofN_le (by decide) (by omega)).mpr (by omega)
        have d1 : ¬ Int32.ofNat 1 = 0 := by decide
        simp only [if_neg m2, if_pos m3, if_neg d1]
        exact ih (k + 1) n _ _ (by omega) (by omega) h hr
    · have m1 : ¬ Int32.ofNat (y 13 (5 * g + k)) = Int32.ofNat 3 := fun q => e3 ((ofN_eq (by omega) (by decide)).mp q)
      simp only [if_neg m1]
      exact ih (k + 1) n _ _ (by omega) (by omega) h hr
theorem inv_tick {c1 : CS} {a1 : RS} : ∀ (d k n : Nat) (x : CS) (y : RS), k + d = 3 → Inv T x y →
    Inv T (lpw_X6_tick_4 c1 d k n x) (lpw_X7_tick_4 a1 d k n y) ∧ lpn_X6_tick_4 c1 d k n x = lpn_X7_tick_4 a1 d k n y := by
  intro d
  induction d with
  | zero => intro k n x y _ h; exact ⟨h, rfl⟩
  | succ d ih =>
    intro k n x y hk h
    have hk3 : k < 3 := by omega
    have b := j_B h.2.2.1 hk3
    have e3 : x 3 k 0 = y 0 k := (h.2.1 k hk3).1.1
    simp only [lpw_X6_tick_4, lpw_X7_tick_4, lpn_X6_tick_4, lpn_X7_tick_4]
    rw [e3]
    by_cases r4 : y 0 k = 4
    · have m : Int32.ofNat (y 0 k) = Int32.ofNat 4 := by rw [r4]
      simp only [if_pos m]
      have tb := (i_work h hk3).1
      have ig := inv_grow (c1 := x) (a1 := a1) hk3 4 1 x (w_X7_work y k) rfl (by decide) (inv_work h) (by rw [fr_work (by decide)]; exact r4) (fun b b1 b4 => ⟨open_corr tb b1 b4, tb.2.2.2.2.2.1 b (by omega)⟩)
      have ic := inv_close (c1 := w_X6_growAges x k) (a1 := a1) (n0 := n) hk3 4 1 0 _ _ rfl (by decide) ig.1 ig.2
      rw [Nat.add_zero] at ic
      have e1 : w_X6_growAges x k = lpw_X6_growAges_10 x k 4 1 x := rfl
      have e2 : w_X6_closeOldSessions (w_X6_growAges x k) k = lpw_X6_closeOldSessions_13 (w_X6_growAges x k) k 4 1 0 (w_X6_growAges x k) := rfl
      have e3 : r_X6_closeOldSessions (w_X6_growAges x k) k = lpn_X6_closeOldSessions_13 (w_X6_growAges x k) k 4 1 0 (w_X6_growAges x k) := rfl
      rw [← e1, ← e2, ← e3] at ic
      rw [ic.2]
      exact ih (k + 1) _ _ _ (by omega) ic.1
    · have m : ¬ Int32.ofNat (y 0 k) = Int32.ofNat 4 := fun q => r4 ((ofN_eq (by omega) (by decide)).mp q)
      simp only [if_neg m]
      exact ih (k + 1) n x y (by omega) h
theorem i_tick (h : Inv T c a) : r_X6_tick c = r_X7_tick a ∧ Inv (T + 1) (w_X6_tick c) (w_X7_tick a) := by
  have := inv_tick (c1 := c) (a1 := a) 3 0 0 c a rfl (inv_mono h (Nat.le_succ T))
  exact ⟨this.2, this.1⟩
theorem i_TI (h : Inv T c a) : TI a 51 := by
  intro s hs
  have b := j_B h.2.2.1 hs
  exact ⟨b.2.2.2, b.2.2.1, i_EVa h hs, i_24 h hs⟩
end TICK
