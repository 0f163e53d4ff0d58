section JACK
variable {a : RS}
theorem j_slack {f : Nat} (h : JR a) (hf : f < 3) (hr : a 0 f = 2) (ht : a 16 f ≠ 0) : a 24 f + a 23 (64 * f + 1) ≤ 2 + a 4 (a 14 f) + a 3 (a 14 f) + a 17 f := by
  obtain ⟨top, own, vt, sett, H, HL, I, cl, cm, ce, n, h⟩ := h
  have := (h.2.2.2.2.2.2.2.2.2.2.1 f hf hr ht).2.2.2.2.2.2.2.2.1
  rw [qf_at (by omega) (by decide)] at this
  exact this
-- one COMMIT is sent, the ghosts in the open
theorem jg_send7 {top : Nat} {own vt : Nat → Nat} {sett : Nat → Prop} {H : Nat → Nat → XE} {HL I : Nat → Nat} {cl : Nat} {cm : Nat → XE} {ce : Nat} {n : Nat → Nat → Nat} {f k : Nat}
    (h : JG (Prod.fst : XE → Nat) (sc a) (qf a) (lgf a) top own vt sett H HL I cl cm ce n) (hf : f < 3) (hr : a 0 f = 2) (ht : a 16 f ≠ 0) (hk : jK (sc a) sett H I cl cm (a 14 f) k) (hk2 : k ≤ a 4 (a 14 f)) (hb : a 24 f < 64) (hc : a 24 f + a 23 (64 * f + 1) + 1 ≤ 2 + a 4 (a 14 f) + a 3 (a 14 f) + a 17 f) :
    JG (Prod.fst : XE → Nat) (sc (w_X7_sendDown a f 7 k)) (qf (w_X7_sendDown a f 7 k)) (lgf (w_X7_sendDown a f 7 k)) top own vt sett H HL I cl cm ce (fun x j => if x = f ∧ j = a 24 f + 1 then n f (a 24 f) else n x j) := by
  have hq := qf_sendDown (a := a) (f := f) (kd := 7) (vl := k) hb
  rw [lgf_sendDown, sc_sendDown]
  refine pt_send7 h f k hf hr ht hk hk2 (by rw [qf_at (by omega) (by decide)]; exact hc) u2s (fun x hx k => u2n (Or.inr hx)) (fun x k h1 => u2n (Or.inl h1)) (fun k x j hx => hq.1 k x j (Or.inl hx)) hq.2 (fun k' x j hk' => hq.1 k' x j (Or.inr (by rcases hk' with e | e; exact Or.inl (by omega); exact Or.inr (Nat.ne_of_lt e)))) ?_ (fun x j hx => ?_)
  · show (if f = f ∧ a 24 f + 1 = a 24 f + 1 then n f (a 24 f) else n f (a 24 f + 1)) = n f (a 24 f)
    rw [if_pos ⟨rfl, rfl⟩]
  · have hx' : x ≠ f ∨ j ≤ a 24 f := hx
    show (if x = f ∧ j = a 24 f + 1 then n f (a 24 f) else n x j) = n x j
    rw [if_neg (by omega)]
theorem j_send1 {f : Nat} (h : JR a) (hf : f < 3) (hr : a 0 f = 2) (ht : a 16 f ≠ 0) (hb : a 24 f < 64) (hc : a 24 f + a 23 (64 * f + 1) + 1 ≤ 2 + a 4 (a 14 f) + a 3 (a 14 f) + a 17 f) : JR (w_X7_sendDown a f 7 (a 3 (a 14 f))) := by
  have hF := j_F h hf hr
  have hB := j_B h hF.1
  obtain ⟨top, own, vt, sett, H, HL, I, cl, cm, ce, n, h⟩ := h
  exact ⟨_, _, _, _, _, _, _, _, _, _, _, jg_send7 h hf hr ht (h.2.2.2.2.2.2.2.2.1 _ hF.1) hB.2.2.2 hb hc⟩
theorem j_send_lp {b : RS} {f0 g k : Nat} {top : Nat} {own vt : Nat → Nat} {sett : Nat → Prop} {H : Nat → Nat → XE} {HL I : Nat → Nat} {cl : Nat} {cm : Nat → XE} {ce : Nat} (hg : g < 3) : ∀ (d t : Nat) (x : RS) (n : Nat → Nat → Nat), t + d = 3 → JG (Prod.fst : XE → Nat) (sc x) (qf x) (lgf x) top own vt sett H HL I cl cm ce n → jK (sc x) sett H I cl cm g k → k ≤ x 4 g →
    (∀ q, q < 3 → x 16 q ≤ 1 ∧ x 0 q ≤ 4 ∧ x 14 q < 3 ∧ x 24 q ≤ 51) →
    (∀ q, t ≤ q → q < 3 → x 0 q = 2 → x 14 q = g → x 16 q ≠ 0 → x 24 q + x 23 (64 * q + 1) + 1 ≤ 2 + x 4 g + x 3 g + x 17 q) → JR (lpw_X7_acknowledged_79 b f0 g k d t x) := by
  intro d
  induction d with
  | zero => intro t x n _ h _ _ _ _; exact ⟨_, _, _, _, _, _, _, _, _, _, _, h⟩
  | succ d ih =>
    intro t x n htd h hK hk hb hc
    have ht3 : t < 3 := by omega
    have bt := hb t ht3
    have nx : ∀ q, t + 1 ≤ q → q < 3 → x 0 q = 2 → x 14 q = g → x 16 q ≠ 0 → x 24 q + x 23 (64 * q + 1) + 1 ≤ 2 + x 4 g + x 3 g + x 17 q := fun q h1 => hc q (by omega)
    simp only [lpw_X7_acknowledged_79]
    have fi : Int32.ofNat (r_X7_follows x t g) = 0 ↔ ¬ (x 0 t = 2 ∧ x 14 t = g) := by
      unfold r_X7_follows
      by_cases e : x 0 t = 2
      · rw [if_pos (by rw [e])]
        by_cases e2 : x 14 t = g
        · rw [if_pos (by rw [e2])]; simp [e, e2]
        · rw [if_neg (fun q => e2 ((ofN_eq (by omega) (by omega)).mp q))]; simp [e, e2]
      · rw [if_neg (fun q => e ((ofN_eq (by omega) (by decide)).mp q))]; simp [e]
    by_cases e : x 0 t = 2 ∧ x 14 t = g
    · rw [if_neg (fun q => (fi.mp q) e)]
      by_cases e16 : x 16 t = 0
      · rw [if_pos (by rw [e16]; rfl)]
        exact ih (t + 1) x n (by omega) h hK hk hb nx
      · rw [if_neg (fun q => e16 ((eq0_code (by omega)).mp q))]
        have st := jg_send7 (f := t) (k := k) h ht3 e.1 e16 (by rw [e.2]; exact hK) (by rw [e.2]; exact hk) (by omega) (by rw [e.2]; exact hc t (Nat.le_refl _) ht3 e.1 e.2 e16)
        have fr : ∀ q, q ≠ 22 ∧ q ≠ 23 ∧ q ≠ 24 → w_X7_sendDown x t 7 k q = x q := fun q hq => fr_sendDown hq
        have bnd24 := (j_rows ⟨_, _, _, _, _, _, _, _, _, _, _, st⟩ ht3 (by rw [fr 0 (by decide)]; exact e.1)).2.2.2
        refine ih (t + 1) _ _ (by omega) st ?_ (by rw [fr 4 (by decide)]; exact hk) (fun q hq => ?_) (fun q h1 h2 => ?_)
        · unfold jK at *
          rw [sc_sendDown]
          simp only [u2n (Or.inl (show (2 : Nat) ≠ 24 by decide))]
          exact hK
        · rw [fr 16 (by decide), fr 0 (by decide), fr 14 (by decide)]
          have := hb q hq
          by_cases eq : q = t
          · rw [eq]; exact ⟨bt.1, bt.2.1, bt.2.2.1, bnd24⟩
          · rw [sd24 eq]; exact this
        · rw [fr 0 (by decide), fr 14 (by decide), fr 16 (by decide), fr 4 (by decide), fr 3 (by decide), fr 17 (by decide), sd24 (by omega)]
          have e23 : w_X7_sendDown x t 7 k 23 (64 * q + 1) = x 23 (64 * q + 1) := by
            unfold w_X7_sendDown
            have : 64 * q + 1 ≠ 64 * t + x 24 t := by omega
            simp [su2, this]
          rw [e23]
          exact nx q h1 h2
    · rw [if_pos (fi.mpr e)]
      exact ih (t + 1) x n (by omega) h hK hk hb nx
theorem j_commit {b : RS} {f g k : Nat} (h : JR a) (hf : f < 3) (hr : a 0 f = 2) (hg : a 14 f = g) (hd : 3 ≤ a 20 f) (hk : k ≤ a 4 f) (hk2 : a 3 g < k) (hfl : ∀ q, q < 3 → a 16 q ≤ 1 ∧ a 14 q < 3 ∧ a 24 q ≤ 51) : JR (lpw_X7_acknowledged_79 b f g k 3 0 (su2 a 3 g k)) ∧ k ≤ a 4 g := by
  have hJ := h
  have hF := j_F h hf hr
  rw [hg] at hF
  have sl : ∀ q, q < 3 → a 0 q = 2 → a 14 q = g → a 16 q ≠ 0 → a 24 q + a 23 (64 * q + 1) ≤ 2 + a 4 g + a 3 g + a 17 q := fun q hq hr hg' ht => by
    have := j_slack hJ hq hr ht; rw [hg'] at this; exact this
  obtain ⟨top, own, vt, sett, H, HL, I, cl, cm, ce, n, h⟩ := h
  have g1 := h.2.2.2.2.2.2.2.2.2.1 f hf hr
  have x25 : 2 ≤ a 25 f := by
    have : a 25 f ≤ 1 → a 20 f ≤ 2 := g1.2.2.2.2.2.2.2.2.2.2.1
    omega
  have at_ := ack_top h f hf hr x25
  have kl : k ≤ a 4 g := by
    have h4 : a 4 f ≤ a 4 (a 14 f) := at_.2.2.2.1
    rw [hg] at h4; omega
  obtain ⟨cl', cm', ce', h', hK⟩ := pt_commit (b := sc (su2 a 3 g k)) h f g k hf hr hg x25 hk (Nat.le_of_lt hk2) (by rw [sc_su rfl, u2s]) (fun x hx q => by rw [sc_su rfl, u2n (Or.inr hx)]) (fun x q h1 => by rw [sc_su rfl, u2n (Or.inl h1)])
  have q0 : qf (su2 a 3 g k) = qf a := qf_no (by decide)
  have l0 : lgf (su2 a 3 g k) = lgf a := lgf_no (by decide)
  rw [← q0, ← l0] at h'
  refine ⟨j_send_lp hF.1 3 0 (su2 a 3 g k) n rfl h' hK (by rw [su2_ne (by decide)]; exact kl) (fun q hq => ?_) (fun q _ hq hr1 hg1 ht1 => ?_), kl⟩
  · have := hfl q hq
    rw [su2_ne (by decide), su2_ne (by decide), su2_ne (by decide), su2_ne (by decide)]
    exact ⟨this.1, (j_B hJ hq).1, this.2.1, this.2.2⟩
  · rw [su2_ne (by decide)] at hr1 hg1 ht1
    rw [su2_same, su2_ne (by decide), su2_ne (by decide), su2_ne (by decide), su2_ne (by decide)]
    have := sl q hq hr1 hg1 ht1
    omega
end JACK
