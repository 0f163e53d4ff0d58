section UPC
variable {T : Nat} {c : CS} {a : RS}
theorem i_up_acc (h : Inv T c a) {v : Nat} (hv : v < 3) (hr : a 0 v = 2) (hu : a 21 v = 1) (hu2 : a 21 v < a 20 v) (hT : T < 1000000) (fr : Nat) (hfr : fr = a 19 (64 * v + 1)) :
    Inv T (w_X6_readAccepted (w_X2_dropFirst_u c v) (a 14 v) v fr) (w_X7_accepted (su2 a 21 v 2) v (a 14 v) fr) := by
  have hJ0 := h.2.2.1
  have hF := j_F hJ0 hv hr
  have f1 : fr ≤ 1 := by rw [hfr]; exact ((h.2.2.2.2.2 v hv).2.2.2.2.2.2.1 hr).2 (by omega)
  have hx := inv_read h hv hr (by omega) hu2
  rw [hu] at hx
  have x16 : a 16 v = 0 := by
    rcases Nat.eq_zero_or_pos (a 16 v) with e | e
    · exact e
    · obtain ⟨top, own, vt, sett, H, HL, I, cl, cm, ce, n, hh⟩ := hJ0
      have := (hh.2.2.2.2.2.2.2.2.2.2.1 v hv hr (by show a 16 v ≠ 0; omega)).1
      have : 2 ≤ a 21 v := this
      omega
  have x25 : 1 ≤ a 25 v := by
    obtain ⟨top, own, vt, sett, H, HL, I, cl, cm, ce, n, hh⟩ := hJ0
    have : a 25 v = 0 → a 20 v = 1 := (hh.2.2.2.2.2.2.2.2.2.1 v hv hr).2.2.2.2.2.2.1
    omega
  have x10 : a 10 (a 14 v) ≠ 0 := by
    obtain ⟨top, own, vt, sett, H, HL, I, cl, cm, ce, n, hh⟩ := hJ0
    have g1 := hh.2.2.2.2.2.2.2.2.2.1 v hv hr
    have y1 : 1 ≤ a 21 v → 1 ≤ a 24 v := g1.2.2.2.2.1
    exact (g1.2.2.2.2.2.1 (y1 (by omega))).1
  generalize hD : w_X2_dropFirst_u c v = D at hx ⊢
  generalize hA : su2 a 21 v 2 = A at hx ⊢
  have k0 : ∀ q, q ≠ 21 → A q = a q := fun q hq => by rw [← hA]; exact su2_ne hq
  have k21 : A 21 v = 2 := by rw [← hA]; exact su2_same
  have e17 : D 17 (a 14 v) 0 = A 11 (a 14 v) := ((hx.2.1 _ hF.1).2.2.1 (by rw [k0 0 (by decide)]; exact hF.2.2)).2.1
  have b11 := (hx.2.2.2.2.2 _ hF.1).2.1
  have A14 : A 14 v = a 14 v := by rw [k0 14 (by decide)]
  have A0 : A 0 v = 2 := by rw [k0 0 (by decide)]; exact hr
  have A16 : A 16 v = 0 := by rw [k0 16 (by decide)]; exact x16
  unfold w_X6_readAccepted w_X7_accepted
  rw [e17]
  by_cases e : A 11 (a 14 v) = 0
  · have n : Int32.ofNat (A 11 (a 14 v)) = 0 := by rw [e]; rfl
    rw [if_pos n, if_pos n]
    by_cases ef : fr = 0
    · have nf : Int32.ofNat fr = 0 := by rw [ef]; rfl
      rw [if_pos nf, if_pos nf]
      exact inv_wait hx hv A0 (by omega) A16
    · have nf : ¬ Int32.ofNat fr = 0 := fun q => ef ((eq0_code (by omega)).mp q)
      rw [if_neg nf, if_neg nf]
      have st := inv_settle hx hv A0 A14 (by rw [k0 25 (by decide)]; exact x25) (by rw [k0 19 (by decide)]; omega) (by rw [k0 10 (by decide)]; exact x10) e hT
      have fin : ∀ Z : RS, Inv T (w_X6_chooseList D (a 14 v) v) Z → Z 11 (a 14 v) ≠ 0 → Z 0 v = 2 → Z 14 v = a 14 v → 2 ≤ Z 21 v → Z 16 v = 0 → Inv T (w_X6_sendNewLeaderToWaiting (w_X6_sendNewLeader (w_X6_chooseList D (a 14 v) v) (a 14 v) v) (a 14 v)) (lpw_X7_accepted_111 A v (a 14 v) fr 3 0 (w_X7_newLeader Z v (a 14 v))) := by
        intro Z hZ z11 z0 z14 z21 z16
        have t1 := inv_tie hZ hv z0 z14 z21 z16 z11
        unfold w_X6_sendNewLeaderToWaiting
        exact inv_ties hF.1 3 0 _ _ rfl t1 (by rw [fr_nl (by decide)]; exact z11)
      have bg := j_B hx.2.2.1 hF.1
      have bf := j_B hx.2.2.1 hv
      have tg := (hx.2.2.2.2.2 _ hF.1).1
      have tf := (hx.2.2.2.2.2 v hv).1
      have c10 : w_X7_copy A v (a 14 v) (A 4 v) 10 (a 14 v) = A 10 (a 14 v) := by rw [fr_copy (by decide)]
      rw [c10]
      have iE : Int32.ofNat (A 2 v) = Int32.ofNat (A 2 (a 14 v)) ↔ A 2 v = A 2 (a 14 v) := ofN_eq (by omega) (by omega)
      have iL : Int32.ofNat (A 2 (a 14 v)) < Int32.ofNat (A 2 v) ↔ A 2 (a 14 v) < A 2 v := ofN_lt (by omega) (by omega)
      have lf := lastm_lt hx hv hT
      have lg := lastm_lt hx hF.1 hT
      have iM : Int32.ofNat (r_X7_lastMark A v) ≤ Int32.ofNat (r_X7_lastMark A (a 14 v)) ↔ (if A 4 v = 0 then 0 else A 5 (24 * v + A 4 v - 1)) ≤ (if A 4 (a 14 v) = 0 then 0 else A 5 (24 * a 14 v + A 4 (a 14 v) - 1)) := by
        rw [lastm_r bf.2.2.1, lastm_r bg.2.2.1]; exact ofN_le lf lg
      have take := fun ht => fin _ (st.1 ht) (by rw [su2_same]; decide) (by rw [su2_ne (by decide), su2_ne (by decide), fr_copy (by decide)]; exact A0) (by rw [su2_ne (by decide), su2_ne (by decide), fr_copy (by decide)]; exact A14) (by rw [su2_ne (by decide), su2_ne (by decide), fr_copy (by decide)]; omega) (by rw [su2_ne (by decide), su2_ne (by decide), fr_copy (by decide)]; exact A16)
      have keep := fun ht => fin _ (st.2 ht) (by rw [su2_same]; decide) (by rw [su2_ne (by decide), su2_ne (by decide)]; exact A0) (by rw [su2_ne (by decide), su2_ne (by decide)]; exact A14) (by rw [su2_ne (by decide), su2_ne (by decide)]; omega) (by rw [su2_ne (by decide), su2_ne (by decide)]; exact A16)
      unfold tks at take keep
      by_cases hL : A 2 (a 14 v) < A 2 v
      · rw [if_pos (iL.mpr hL)]
        exact take (Or.inl hL)
      · rw [if_neg (fun q => hL (iL.mp q))]
        by_cases hE : A 2 v = A 2 (a 14 v)
        · rw [if_pos (iE.mpr hE)]
          by_cases hM : (if A 4 v = 0 then 0 else A 5 (24 * v + A 4 v - 1)) ≤ (if A 4 (a 14 v) = 0 then 0 else A 5 (24 * a 14 v + A 4 (a 14 v) - 1))
          · rw [if_pos (iM.mpr hM)]
            exact keep (fun q => by rcases q with q | q; exact hL q; exact absurd q.2 (Nat.not_lt.mpr hM))
          · rw [if_neg (fun q => hM (iM.mp q))]
            exact take (Or.inr ⟨hE, Nat.lt_of_not_le hM⟩)
        · rw [if_neg (fun q => hE (iE.mp q))]
          exact keep (fun q => by rcases q with q | q; exact hL q; exact hE q.1)
  · have n : ¬ Int32.ofNat (A 11 (a 14 v)) = 0 := fun q => e ((eq0_code (by omega)).mp q)
    rw [if_neg n, if_neg n]
    exact inv_tie hx hv A0 A14 (by omega) A16 e
end UPC
