section JSET
variable {a : RS}
theorem copyEntry_at {x : RS} {s t q : Nat} (hq : 5 ≤ q ∧ q ≤ 9) : (w_X7_copyEntry x s t) q t = x q s ∧ ∀ i, i ≠ t → (w_X7_copyEntry x s t) q i = x q i := by
  rcases (by omega : q = 5 ∨ q = 6 ∨ q = 7 ∨ q = 8 ∨ q = 9) with e | e | e | e | e <;> subst e <;> refine ⟨by unfold w_X7_copyEntry; simp [su2], fun i hi => by unfold w_X7_copyEntry; simp [su2, hi]⟩
theorem copy_lp_at {b : RS} {f t n q : Nat} (hq : 5 ≤ q ∧ q ≤ 9) (hft : f ≠ t) (hf : f < 3) (ht : t < 3) : ∀ (d k : Nat) (x : RS), k + d ≤ 24 → (∀ j, k ≤ j → j < k + d → (lpw_X7_copy_3 b f t n d k x) q (24 * t + j) = x q (24 * f + j)) ∧ (∀ i, (∀ j, k ≤ j → j < k + d → i ≠ 24 * t + j) → (lpw_X7_copy_3 b f t n d k x) q i = x q i) := by
  intro d
  induction d with
  | zero => intro k x _; exact ⟨fun j h1 h2 => by omega, fun i _ => rfl⟩
  | succ d ih =>
    intro k x hk
    simp only [lpw_X7_copy_3]
    obtain ⟨i1, i2⟩ := ih (k + 1) (w_X7_copyEntry x (24 * f + k) (24 * t + k)) (by omega)
    have ce := copyEntry_at (x := x) (s := 24 * f + k) (t := 24 * t + k) hq
    refine ⟨fun j h1 h2 => ?_, fun i hi => ?_⟩
    · by_cases e : j = k
      · subst e
        rw [i2 _ (fun j' h3 h4 => by omega)]; exact ce.1
      · rw [i1 j (by omega) (by omega)]; exact ce.2 _ (by omega)
    · rw [i2 i (fun j h1 h2 => hi j (by omega) (by omega))]
      exact ce.2 i (hi k (by omega) (by omega))
theorem copy_at {f t n q : Nat} (hq : 5 ≤ q ∧ q ≤ 9) (hft : f ≠ t) (hf : f < 3) (ht : t < 3) (hn : n ≤ 24) : (∀ j, j < n → w_X7_copy a f t n q (24 * t + j) = a q (24 * f + j)) ∧ (∀ s j, j < 24 → (s = t → n ≤ j) → w_X7_copy a f t n q (24 * s + j) = a q (24 * s + j)) := by
  have h := copy_lp_at (b := a) (n := n) hq hft hf ht n 0 a (by omega)
  unfold w_X7_copy
  rw [su2_ne (by omega)]
  exact ⟨fun j hj => h.1 j (by omega) (by omega), fun s j hj e => h.2 _ (fun j' h1 h2 => by omega)⟩
theorem sc_copy {f t n : Nat} : sc (w_X7_copy a f t n) = u2 (sc a) 4 t n := by
  have key : ∀ (d k : Nat) (x : RS), sc (lpw_X7_copy_3 a f t n d k x) = sc x := by
    intro d
    induction d with
    | zero => intro k x; rfl
    | succ d ih =>
      intro k x; simp only [lpw_X7_copy_3]; rw [ih]
      unfold w_X7_copyEntry; rw [sc_no rfl, sc_no rfl, sc_no rfl, sc_no rfl, sc_no rfl]
  unfold w_X7_copy; rw [sc_su rfl, key]
theorem qf_copy {f t n : Nat} : qf (w_X7_copy a f t n) = qf a := by
  have key : ∀ (d k : Nat) (x : RS), qf (lpw_X7_copy_3 a f t n d k x) = qf x := by
    intro d
    induction d with
    | zero => intro k x; rfl
    | succ d ih =>
      intro k x; simp only [lpw_X7_copy_3]; rw [ih]
      unfold w_X7_copyEntry; rw [qf_no (by decide), qf_no (by decide), qf_no (by decide), qf_no (by decide), qf_no (by decide)]
  unfold w_X7_copy; rw [qf_no (by decide), key]
theorem lgf_at {s j : Nat} (hj : j < 24) : lgf a s j = (a 5 (24 * s + j), a 6 (24 * s + j), a 7 (24 * s + j), a 8 (24 * s + j), a 9 (24 * s + j)) := by unfold lgf; rw [if_neg (by omega)]
theorem lgf_copy {f t n : Nat} (hft : f ≠ t) (hf : f < 3) (ht : t < 3) (hn : n ≤ 24) : (∀ j, j < n → lgf (w_X7_copy a f t n) t j = lgf a f j) ∧ (∀ s, s ≠ t → lgf (w_X7_copy a f t n) s = lgf a s) := by
  refine ⟨fun j hj => ?_, fun s e => ?_⟩
  · rw [lgf_at (by omega), lgf_at (by omega)]
    rw [(copy_at (by decide) hft hf ht hn).1 j hj, (copy_at (by decide) hft hf ht hn).1 j hj, (copy_at (by decide) hft hf ht hn).1 j hj, (copy_at (by decide) hft hf ht hn).1 j hj, (copy_at (by decide) hft hf ht hn).1 j hj]
  · funext j
    by_cases hj : j < 24
    · rw [lgf_at hj, lgf_at hj]
      rw [(copy_at (by decide) hft hf ht hn).2 s j hj (fun q => absurd q e), (copy_at (by decide) hft hf ht hn).2 s j hj (fun q => absurd q e), (copy_at (by decide) hft hf ht hn).2 s j hj (fun q => absurd q e), (copy_at (by decide) hft hf ht hn).2 s j hj (fun q => absurd q e), (copy_at (by decide) hft hf ht hn).2 s j hj (fun q => absurd q e)]
    · unfold lgf; rw [if_pos (by omega), if_pos (by omega)]
theorem lastm_eq {s : Nat} (hs : a 4 s ≤ 24) : lastm (Prod.fst : XE → Nat) (sc a) (lgf a) s = if a 4 s = 0 then 0 else a 5 (24 * s + a 4 s - 1) := by
  unfold lastm
  rw [sc_at rfl]
  by_cases e : a 4 s = 0
  · rw [if_pos e, if_pos e]
  · rw [if_neg e, if_neg e, lgf_at (by omega)]
    show a 5 (24 * s + (a 4 s - 1)) = _
    rw [show 24 * s + (a 4 s - 1) = 24 * s + a 4 s - 1 by omega]
def tks (a : RS) (g f : Nat) : Prop := a 2 g < a 2 f ∨ a 2 f = a 2 g ∧ (if a 4 g = 0 then 0 else a 5 (24 * g + a 4 g - 1)) < (if a 4 f = 0 then 0 else a 5 (24 * f + a 4 f - 1))
theorem takes_iff {g f : Nat} (hg : a 4 g ≤ 24) (hf : a 4 f ≤ 24) : takes (Prod.fst : XE → Nat) (sc a) (lgf a) g f ↔ tks a g f := by
  unfold takes tks
  rw [lastm_eq hg, lastm_eq hf, sc_at rfl, sc_at rfl]
theorem j_settle {f g : Nat} (h : JR a) (hf : f < 3) (hr : a 0 f = 2) (hg : a 14 f = g) (hd : 1 ≤ a 25 f) (hfr : a 19 (64 * f + 1) = 1) (hc : a 10 g ≠ 0) (hs : a 11 g = 0) :
    (¬ tks a g f → JR (su2 (su2 a 2 g (a 10 g)) 11 g 1)) ∧ (tks a g f → JR (su2 (su2 (w_X7_copy a f g (a 4 f)) 2 g (a 10 g)) 11 g 1) ∧ a 3 g ≤ a 4 f ∧ ∀ j, j < a 3 g → lgf (w_X7_copy a f g (a 4 f)) g j = lgf a g j) := by
  have hJ := h
  obtain ⟨top, own, vt, sett, H, HL, I, cl, cm, ce, n, h⟩ := h
  have g1 := h.2.2.2.2.2.2.2.2.2.1 f hf hr
  have gF := h.2.1 f hf hr
  have x14 : sc a 14 f = g := hg
  rw [x14] at gF
  have gL := h.2.2.1 g gF.1 gF.2.2
  have e10 : a 10 g = a 1 g := (gL.1 hc).1
  have x20 : 2 ≤ a 20 f := (g1.2.2.2.2.2.2.2.1 hd).1
  have hv : vt f = g := by
    have := g1.2.2.2.2.2.2.2.2.1 x20 (by rw [qf_at (by omega) (by decide)]; exact hfr)
    rw [x14] at this; exact this
  have hgf : g ≠ f := gF.2.1
  have bf := j_B hJ hf
  have bg := j_B hJ gF.1
  have tk := takes_iff (a := a) (g := g) (f := f) bg.2.2.1 bf.2.2.1
  refine ⟨fun ht => ?_, fun ht => ?_⟩
  · have := pt_settle (lh := lgf a) (b := sc (su2 (su2 a 2 g (a 10 g)) 11 g 1)) h g f (a 4 g) hf hr hg hd hv hc hs (Or.inl ⟨rfl, fun _ _ => rfl, fun q => ht (tk.mp q)⟩) (by
      rw [sc_su rfl, sc_su rfl]
      refine ⟨u2s, ?_, ?_⟩
      · rw [u2n (Or.inl (by decide)), u2s]; exact e10
      · rw [u2n (Or.inl (by decide)), u2n (Or.inl (by decide))]; rfl) (fun x hx k => by rw [sc_su rfl, sc_su rfl, u2n (Or.inr hx), u2n (Or.inr hx)]) (fun x k k1 k2 k3 => by rw [sc_su rfl, sc_su rfl, u2n (Or.inl k1), u2n (Or.inl k2)]) (fun x _ => rfl)
    obtain ⟨h9, -⟩ := this
    have q0 : qf (su2 (su2 a 2 g (a 10 g)) 11 g 1) = qf a := by rw [qf_no (by decide), qf_no (by decide)]
    have l0 : lgf (su2 (su2 a 2 g (a 10 g)) 11 g 1) = lgf a := by rw [lgf_no (by decide), lgf_no (by decide)]
    rw [← q0, ← l0] at h9
    exact ⟨_, _, _, _, _, _, _, _, _, _, _, h9⟩
  · have lc := lgf_copy (a := a) (f := f) (t := g) (n := a 4 f) (Ne.symm hgf) hf gF.1 bf.2.2.1
    have := pt_settle (lh := lgf (w_X7_copy a f g (a 4 f))) (b := sc (su2 (su2 (w_X7_copy a f g (a 4 f)) 2 g (a 10 g)) 11 g 1)) h g f (a 4 f) hf hr hg hd hv hc hs (Or.inr ⟨rfl, fun j hj => lc.1 j hj, tk.mpr ht⟩) (by
      rw [sc_su rfl, sc_su rfl, sc_copy]
      refine ⟨u2s, ?_, ?_⟩
      · rw [u2n (Or.inl (by decide)), u2s]; exact e10
      · rw [u2n (Or.inl (by decide)), u2n (Or.inl (by decide)), u2s]) (fun x hx k => by rw [sc_su rfl, sc_su rfl, sc_copy, u2n (Or.inr hx), u2n (Or.inr hx), u2n (Or.inr hx)]) (fun x k k1 k2 k3 => by rw [sc_su rfl, sc_su rfl, sc_copy, u2n (Or.inl k1), u2n (Or.inl k2), u2n (Or.inl k3)]) (fun x hx => lc.2 x hx)
    obtain ⟨h9, h10, h11⟩ := this
    have q0 : qf (su2 (su2 (w_X7_copy a f g (a 4 f)) 2 g (a 10 g)) 11 g 1) = qf a := by rw [qf_no (by decide), qf_no (by decide), qf_copy]
    have l0 : lgf (su2 (su2 (w_X7_copy a f g (a 4 f)) 2 g (a 10 g)) 11 g 1) = lgf (w_X7_copy a f g (a 4 f)) := by rw [lgf_no (by decide), lgf_no (by decide)]
    rw [← q0, ← l0] at h9
    exact ⟨⟨_, _, _, _, _, _, _, _, _, _, _, h9⟩, h10, h11⟩
end JSET
