section UPA
variable {T : Nat} {c : CS} {a : RS}
theorem inv_read (h : Inv T c a) {v : Nat} (hv : v < 3) (hr : a 0 v = 2) (hu : 1 ≤ a 21 v) (hu2 : a 21 v < a 20 v) : Inv T (w_X2_dropFirst_u c v) (su2 a 21 v (a 21 v + 1)) := by
  have rws := j_rows h.2.2.1 hv hr
  obtain ⟨h1, h2, h3, h4, h5, h6⟩ := h
  refine ⟨cb_X2_dropFirst_u h1, p_dropU h2 hv hr hu2 (by omega), j_read h3 hv hr hu hu2, fun s hs => ?_, h5, ?_⟩
  · refine tr_frame (h4 s hs) (fun k hk => ?_)
    unfold TK at hk
    rw [fr_dropu (by omega)]
  · refine bd_of h6 (fun s hs => (h6 s hs).1) (fun s hs => (h6 s hs).2.1) (fun s hs => (h6 s hs).2.2.1) (fun s hs => (h6 s hs).2.2.2.1) (fun s hs => (h6 s hs).2.2.2.2.1) rfl (fun s hs => Iff.rfl) (fun s hs q => (h6 s hs).2.2.2.2.2.2.1 q) (fun s hs q => ?_)
    have ne : s ≠ v := fun e => q (by rw [e]; exact hr)
    refine ⟨rfl, ?_, rfl, rfl⟩
    show su2 a 21 v (a 21 v + 1) 21 s = a 21 s
    simp [su2, ne]
theorem inv_wait (h : Inv T c a) {v : Nat} (hv : v < 3) (hr : a 0 v = 2) (hu : 2 ≤ a 21 v) (ht : a 16 v = 0) : Inv T (su3 c 11 v 0 1) (su2 a 15 v 1) := by
  obtain ⟨h1, h2, h3, h4, h5, h6⟩ := h
  refine ⟨cb_su h1 (bnd_no (by decide)), p_wait h2 hv hr, j_wait h3 hv hr hu ht, fun s hs => ?_, h5, ?_⟩
  · refine tr_frame (h4 s hs) (fun k hk => ?_)
    unfold TK at hk
    rw [su3_ne (by omega)]
  · refine bd_of h6 (fun s hs => (h6 s hs).1) (fun s hs => (h6 s hs).2.1) (fun s hs => ?_) (fun s hs => (h6 s hs).2.2.2.1) (fun s hs => (h6 s hs).2.2.2.2.1) rfl (fun s hs => Iff.rfl) (fun s hs q => (h6 s hs).2.2.2.2.2.2.1 q) (fun s hs q => ⟨rfl, rfl, rfl, rfl⟩)
    show su2 a 15 v 1 15 s ≤ 1
    have := (h6 s hs).2.2.1
    simp only [su2, if_true]; split <;> omega
theorem inv_tie (h : Inv T c a) {f g : Nat} (hf : f < 3) (hr : a 0 f = 2) (hg : a 14 f = g) (hu : 2 ≤ a 21 f) (ht : a 16 f = 0) (hs : a 11 g ≠ 0) : Inv T (w_X6_sendNewLeader c g f) (w_X7_newLeader a f g) := by
  have hJ := h.2.2.1
  have hF := j_F hJ hf hr
  rw [hg] at hF
  have RQa := i_RQ h
  have x24 : a 24 f ≤ 1 := by
    obtain ⟨top, own, vt, sett, H, HL, I, cl, cm, ce, n, hh⟩ := hJ
    exact (hh.2.2.2.2.2.2.2.2.2.1 f hf hr).2.2.2.2.2.2.2.2.2.1 ht
  obtain ⟨h1, h2, h3, h4, h5, h6⟩ := h
  have e6 : c 6 g 0 = a 4 g := (h2 g hF.1).1.2.2.2.2.1
  have sm := p_sendD (kd := 5) (vl := a 4 g) (vr := a 4 g) (p_tie h2 hf hr) hf hr (by show a 24 f < 51; omega) (fun s hs => by show a 24 s ≤ 64; have := RQa s hs; omega) rfl
  unfold w_X6_sendNewLeader
  rw [e6]
  refine ⟨cb_X2_send_d (cb_su (cb_su h1 (bnd_no (by decide))) (bnd_no (by decide))), sm, ?_, fun s hs => ?_, h5, ?_⟩
  · have := j_tie h3 hf hr hu ht (by rw [hg]; exact hs)
    rw [hg] at this; exact this
  · refine tr_frame (h4 s hs) (fun k hk => ?_)
    unfold TK at hk
    rw [fr_sendd (by omega), su3_ne (by omega), su3_ne (by omega)]
  · have fr : ∀ q, q ≠ 22 ∧ q ≠ 23 ∧ q ≠ 24 → w_X7_newLeader a f g q = su2 (su2 a 15 f 0) 16 f 1 q := fun q hq => by unfold w_X7_newLeader; exact fr_sendDown hq
    refine bd_of h6 (fun s hs => ?_) (fun s hs => ?_) (fun s hs => ?_) (fun s hs => ?_) (fun s hs => ?_) (fr 14 (by decide)) (fun s hs => by rw [fr 0 (by decide)]; exact Iff.rfl) (fun s hs q => ?_) (fun s hs q => ?_)
    · rw [fr 1 (by decide)]; exact (h6 s hs).1
    · rw [fr 11 (by decide)]; exact (h6 s hs).2.1
    · rw [fr 15 (by decide)]
      show su2 a 15 f 0 15 s ≤ 1
      have := (h6 s hs).2.2.1
      simp only [su2, if_true]; split <;> omega
    · rw [fr 16 (by decide)]
      have := (h6 s hs).2.2.2.1
      show (if s = f then 1 else a 16 s) ≤ 1
      split <;> omega
    · rw [fr 17 (by decide)]; exact (h6 s hs).2.2.2.2.1
    · rw [fr 19 (by decide), fr 20 (by decide)]; exact (h6 s hs).2.2.2.2.2.2.1 q
    · have ne : s ≠ f := fun e => q (by rw [e]; exact hr)
      rw [fr 20 (by decide), fr 21 (by decide), fr 25 (by decide), nl24 ne]
      exact ⟨rfl, rfl, rfl, rfl⟩
theorem fr_nl {x : RS} {f g q : Nat} (h : q ≠ 15 ∧ q ≠ 16 ∧ q ≠ 22 ∧ q ≠ 23 ∧ q ≠ 24) : w_X7_newLeader x f g q = x q := by
  unfold w_X7_newLeader; rw [fr_sendDown (by omega), su2_ne (by omega), su2_ne (by omega)]
theorem inv_ties {c1 : CS} {a1 : RS} {f0 g fr : Nat} (hg : g < 3) : ∀ (d k : Nat) (x : CS) (y : RS), k + d = 3 → Inv T x y → y 11 g ≠ 0 → Inv T (lpw_X6_sendNewLeaderToWaiting_2 c1 g d k x) (lpw_X7_accepted_111 a1 f0 g fr d k y) := by
  intro d
  induction d with
  | zero => intro k x y _ h _; exact h
  | succ d ih =>
    intro k x y hk h hs
    have hk3 : k < 3 := by omega
    have fi := follows_iff h hk3 hg
    simp only [lpw_X6_sendNewLeaderToWaiting_2, lpw_X7_accepted_111]
    by_cases e : y 0 k = 2 ∧ y 14 k = g
    · rw [if_neg (fun q => (fi.1.mp q) e), if_neg (fun q => (fi.2.mp q) e)]
      have e11 : x 11 k 0 = y 15 k := ((h.2.1 k hk3).2.2.2.1 e.1).2.1
      have b15 := (h.2.2.2.2.2 k hk3).2.2.1
      rw [e11]
      by_cases ew : y 15 k = 0
      · have n : Int32.ofNat (y 15 k) = 0 := by rw [ew]; rfl
        rw [if_pos n, if_pos n]
        exact ih (k + 1) x y (by omega) h hs
      · have n : ¬ Int32.ofNat (y 15 k) = 0 := fun q => ew ((eq0_code (by omega)).mp q)
        rw [if_neg n, if_neg n]
        have jw : y 16 k = 0 ∧ 2 ≤ y 21 k := by
          obtain ⟨top, own, vt, sett, H, HL, I, cl, cm, ce, n, hh⟩ := h.2.2.1
          exact (hh.2.2.2.2.2.2.2.2.2.1 k hk3 e.1).2.2.2.2.2.2.2.2.2.2.2.1 ew
        exact ih (k + 1) _ _ (by omega) (inv_tie h hk3 e.1 e.2 jw.2 jw.1 hs) (by rw [fr_nl (by decide)]; exact hs)
    · rw [if_pos (fi.1.mpr e), if_pos (fi.2.mpr e)]
      exact ih (k + 1) x y (by omega) h hs
theorem j_mark (h : JR a) {s j : Nat} (hs : s < 3) (hj : j < a 4 s) : a 5 (24 * s + j) < 1000 * (a 1 s + 1) := by
  have b := j_B h hs
  obtain ⟨top, own, vt, sett, H, HL, I, cl, cm, ce, n, h⟩ := h
  have g := h.2.2.2.1 s hs
  have e : lgf a s j = H (a 2 s) j := g.2.2.2 j hj
  have hl : a 4 s ≤ HL (a 2 s) := g.2.1
  have m := ((h.2.2.2.2.1.2 _ g.1).2.2.1 j (by show j < HL (a 2 s); omega)).2
  have e2 : (lgf a s j).1 = a 5 (24 * s + j) := by rw [lgf_at (by omega)]
  have m' : (H (a 2 s) j).1 < 1000 * (a 2 s + 1) := m
  rw [← e, e2] at m'
  have := b.2.1
  omega
theorem lastm_c (h : Inv T c a) {s : Nat} (hs : s < 3) : r_X0_lastMark c s = (if a 4 s = 0 then 0 else a 5 (24 * s + a 4 s - 1)) := by
  have b := j_B h.2.2.1 hs
  have e6 : c 6 s 0 = a 4 s := (h.2.1 s hs).1.2.2.2.2.1
  unfold r_X0_lastMark r_X0_markAt
  rw [e6]
  by_cases e : a 4 s = 0
  · rw [if_pos e, e, if_pos (by decide)]
  · rw [if_neg e, if_neg (by rw [ofN_lt (by omega) (by decide)]; omega), if_neg (by rw [ofN_lt (by omega) (by omega)]; omega)]
    have := ((h.2.1 s hs).2.1 (a 4 s - 1) (by omega)).1
    rw [this, show 24 * s + (a 4 s - 1) = 24 * s + a 4 s - 1 by omega]
theorem lastm_r {s : Nat} (hs : a 4 s ≤ 24) : r_X7_lastMark a s = (if a 4 s = 0 then 0 else a 5 (24 * s + a 4 s - 1)) := by
  unfold r_X7_lastMark
  by_cases e : a 4 s = 0
  · rw [if_pos e, if_pos (by rw [e]; rfl)]
  · rw [if_neg e, if_neg (fun q => e ((eq0_code (by omega)).mp q))]
theorem lastm_lt (h : Inv T c a) {s : Nat} (hs : s < 3) (hT : T < 1000000) : (if a 4 s = 0 then 0 else a 5 (24 * s + a 4 s - 1)) < 2147483648 := by
  split
  · omega
  · rename_i e
    have b := j_B h.2.2.1 hs
    have := j_mark h.2.2.1 (s := s) (j := a 4 s - 1) hs (by omega)
    have := (h.2.2.2.2.2 s hs).1
    rw [show 24 * s + a 4 s - 1 = 24 * s + (a 4 s - 1) by omega]; omega
end UPA
