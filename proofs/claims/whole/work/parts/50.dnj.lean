section DNJ
variable {a : RS}
theorem j_tied24 (h : JR a) {v : Nat} (hv : v < 3) (hr : a 0 v = 2) (h24 : 2 ≤ a 24 v) : a 16 v ≠ 0 := by
  intro e
  obtain ⟨top, own, vt, sett, H, HL, I, cl, cm, ce, n, hh⟩ := h
  have : a 16 v = 0 → a 24 v ≤ 1 := (hh.2.2.2.2.2.2.2.2.2.1 v hv hr).2.2.2.2.2.2.2.2.2.1
  have := this e
  omega
theorem j_dkinds (h : JR a) {v : Nat} (hv : v < 3) (hr : a 0 v = 2) (hu : a 25 v < a 24 v) : (a 25 v = 0 → a 22 (64 * v + a 25 v) = 4 ∧ a 23 (64 * v + a 25 v) = a 1 (a 14 v) ∧ a 20 v = 1) ∧ (a 25 v = 1 → a 22 (64 * v + a 25 v) = 5 ∧ a 23 (64 * v + a 25 v) ≤ a 4 (a 14 v) ∧ a 20 v = 2) ∧
    (2 ≤ a 25 v → (a 22 (64 * v + a 25 v) = 6 ∧ a 23 (64 * v + a 25 v) = a 4 v ∧ a 4 v < a 4 (a 14 v)) ∨ (a 22 (64 * v + a 25 v) = 7 ∧ a 23 (64 * v + a 25 v) ≤ a 4 v)) := by
  have hJ := h
  have rws := j_rows h hv hr
  obtain ⟨top, own, vt, sett, H, HL, I, cl, cm, ce, n, h⟩ := h
  have g1 := h.2.2.2.2.2.2.2.2.2.1 v hv hr
  refine ⟨fun e => ?_, fun e => ?_, fun e => ?_⟩
  · have x := g1.2.2.2.2.2.1 (show 1 ≤ a 24 v by omega)
    have y : a 25 v = 0 → a 20 v = 1 := g1.2.2.2.2.2.2.1
    rw [qf_at (by omega) (by decide), qf_at (by omega) (by decide)] at x
    rw [e]; exact ⟨x.2.1, x.2.2, y e⟩
  · have ht := j_tied24 hJ hv hr (by omega)
    have m2 := h.2.2.2.2.2.2.2.2.2.2.1 v hv hr ht
    have y : 1 ≤ a 25 v → 2 ≤ a 20 v ∧ a 1 v = a 1 (a 14 v) := g1.2.2.2.2.2.2.2.1
    have z : a 25 v ≤ 1 → a 20 v ≤ 2 := g1.2.2.2.2.2.2.2.2.2.2.1
    have x1 := m2.2.2.2.1
    have x2 := m2.2.2.2.2.2.1
    rw [qf_at (by omega) (by decide)] at x1 x2
    rw [e]; exact ⟨x1, x2, by have := y (by omega); omega⟩
  · have ht := j_tied24 hJ hv hr (by omega)
    have m2 := h.2.2.2.2.2.2.2.2.2.2.1 v hv hr ht
    have m3 := h.2.2.2.2.2.2.2.2.2.2.2.1 v hv hr e
    have h4 := h.2.2.2.2.2.2.2.2.2.2.2.2
    have m4 := h4 v hv hr (a 25 v) e hu
    have x3 : a 4 v = n v (a 25 v) := m3.2.2.1
    rw [qf_at (by omega) (by omega), qf_at (by omega) (by omega)] at m4
    have nle := n_le h4 hv hr (a 24 v - (a 25 v + 1)) (a 25 v + 1) (by omega) (by show a 25 v + 1 + (a 24 v - (a 25 v + 1)) ≤ a 24 v; omega)
    rw [show a 25 v + 1 + (a 24 v - (a 25 v + 1)) = a 24 v by omega] at nle
    have x2 : n v (a 24 v) = a 4 (a 14 v) := m2.2.2.2.2.2.2.2.1
    rcases m4.2 with q | q
    · exact Or.inl ⟨q.1, by omega, by omega⟩
    · exact Or.inr ⟨q.1, by omega⟩
theorem j_newepoch {f fr : Nat} (h : JR a) (hf : f < 3) (hr : a 0 f = 2) (hd : a 25 f = 0) (hd2 : 1 ≤ a 24 f) (hv : a 1 f ≤ a 1 (a 14 f)) (hfr : fr = 1 → a 1 f < a 1 (a 14 f)) : JR (su2 (w_X7_sendUp (su2 a 25 f 1) f 2 fr) 1 f (a 1 (a 14 f))) := by
  have rws := j_rows h hf hr
  obtain ⟨top, own, vt, sett, H, HL, I, cl, cm, ce, n, h⟩ := h
  have e20 : su2 a 25 f 1 20 f = a 20 f := rfl
  have hq := qf_sendUp (a := su2 a 25 f 1) (f := f) (kd := 2) (vl := fr) (by rw [e20]; omega)
  rw [e20, qf_no (by decide)] at hq
  refine ⟨top, own, fun x => if x = f ∧ sc a 1 f < sc a 1 (sc a 14 f) then sc a 14 f else vt x, sett, H, HL, I, cl, cm, ce, n, ?_⟩
  rw [sc_su rfl, sc_sendUp, sc_su rfl, qf_no (by decide), lgf_no (by decide), lgf_sendUp, lgf_no (by decide), e20]
  refine pt_newepoch h f hf hr hd hd2 hv ⟨?_, u2s, ?_⟩ (fun x hx k => ?_) (fun x k h1 h2 h3 => ?_) (fun k x j hx => hq.1 k x j (Or.inl hx)) ⟨hq.2.1, fun q => hfr (by rw [← hq.2.2]; exact q)⟩ (fun k x j hk => hq.1 k x j (Or.inr (by rcases hk with hk | hk; exact Or.inl hk; exact Or.inr (Nat.ne_of_lt hk))))
  · rw [u2n (Or.inl (by decide)), u2n (Or.inl (by decide)), u2s]
  · rw [u2n (Or.inl (by decide)), u2s]; rfl
  · rw [u2n (Or.inr hx), u2n (Or.inr hx), u2n (Or.inr hx)]
  · rw [u2n (Or.inl h2), u2n (Or.inl h3), u2n (Or.inl h1)]
theorem j_newleader {f n0 : Nat} (h : JR a) (hf : f < 3) (hr : a 0 f = 2) (hd : a 25 f = 1) (hd2 : 2 ≤ a 24 f) (hn : n0 = a 23 (64 * f + 1)) :
    JR (w_X7_sendUp (w_X7_copy (su2 (su2 a 25 f 2) 2 f (a 1 f)) (a 14 f) f n0) f 3 n0) ∧ a 3 f ≤ n0 ∧ ∀ j, j < a 3 f → lgf (w_X7_copy (su2 (su2 a 25 f 2) 2 f (a 1 f)) (a 14 f) f n0) f j = lgf a f j := by
  have hJ := h
  have rws := j_rows h hf hr
  have hF := j_F h hf hr
  have bg := j_B h hF.1
  have kd := (j_dkinds h hf hr (by omega)).2.1 hd
  rw [hd] at kd
  have n24 : n0 ≤ 24 := by omega
  obtain ⟨top, own, vt, sett, H, HL, I, cl, cm, ce, n, h⟩ := h
  have e20 : w_X7_copy (su2 (su2 a 25 f 2) 2 f (a 1 f)) (a 14 f) f n0 20 f = a 20 f := by rw [fr_copy (by decide)]; rfl
  have hq := qf_sendUp (a := w_X7_copy (su2 (su2 a 25 f 2) 2 f (a 1 f)) (a 14 f) f n0) (f := f) (kd := 3) (vl := n0) (by rw [e20]; omega)
  rw [e20, qf_copy, qf_no (by decide), qf_no (by decide)] at hq
  have lc := lgf_copy (a := su2 (su2 a 25 f 2) 2 f (a 1 f)) (f := a 14 f) (t := f) (n := n0) hF.2.1 hF.1 hf n24
  have l0 : lgf (su2 (su2 a 25 f 2) 2 f (a 1 f)) = lgf a := by rw [lgf_no (by decide), lgf_no (by decide)]
  rw [l0] at lc
  have q23 : qf a 23 f 1 = n0 := by rw [qf_at (by omega) (by decide), hn]
  have pt := pt_newleader (b := u2 (u2 (u2 (u2 (sc a) 25 f 2) 2 f (a 1 f)) 4 f n0) 20 f (a 20 f + 1)) (r := qf (w_X7_sendUp (w_X7_copy (su2 (su2 a 25 f 2) 2 f (a 1 f)) (a 14 f) f n0) f 3 n0)) (lh := lgf (w_X7_copy (su2 (su2 a 25 f 2) 2 f (a 1 f)) (a 14 f) f n0)) h f hf hr hd hd2 ⟨?_, ?_, ?_, u2s⟩ (fun x hx k => ?_) (fun x k h1 h2 h3 h4 => ?_) (fun k x j hx => hq.1 k x j (Or.inl hx)) ⟨hq.2.1, by rw [q23]; exact hq.2.2⟩ (fun k x j hk => hq.1 k x j (Or.inr (by rcases hk with hk | hk; exact Or.inl hk; exact Or.inr (Nat.ne_of_lt hk)))) (fun x hx => lc.2 x hx) (fun j hj => lc.1 j (by rw [q23] at hj; exact hj))
  · obtain ⟨p1, p2, p3, p4, p5⟩ := pt
    rw [q23] at p3 p4
    refine ⟨⟨top, own, vt, sett, H, HL, I, cl, cm, ce, n, ?_⟩, p4, p5⟩
    rw [lgf_sendUp, sc_sendUp, sc_copy, sc_su rfl, sc_su rfl, e20]
    exact p1
  · rw [u2n (Or.inl (by decide)), u2n (Or.inl (by decide)), u2n (Or.inl (by decide)), u2s]
  · rw [u2n (Or.inl (by decide)), u2n (Or.inl (by decide)), u2s]; rfl
  · rw [u2n (Or.inl (by decide)), u2s, q23]
  · rw [u2n (Or.inr hx), u2n (Or.inr hx), u2n (Or.inr hx), u2n (Or.inr hx)]
  · rw [u2n (Or.inl h4), u2n (Or.inl h3), u2n (Or.inl h2), u2n (Or.inl h1)]
theorem lgf_entry {x : RS} {f o k t : Nat} (ho : o < 3) (hf : f < 3) (hk : k < 24) (ht : t < 24) : lgf (w_X7_copyEntry x (24 * o + k) (24 * f + t)) f t = lgf x o k ∧ (∀ j, j ≠ t → lgf (w_X7_copyEntry x (24 * o + k) (24 * f + t)) f j = lgf x f j) ∧ (∀ s, s ≠ f → lgf (w_X7_copyEntry x (24 * o + k) (24 * f + t)) s = lgf x s) := by
  have ce := fun q hq => copyEntry_at (x := x) (s := 24 * o + k) (t := 24 * f + t) (q := q) hq
  refine ⟨?_, fun j hj => ?_, fun s hs => ?_⟩
  · rw [lgf_at ht, lgf_at hk, (ce 5 (by decide)).1, (ce 6 (by decide)).1, (ce 7 (by decide)).1, (ce 8 (by decide)).1, (ce 9 (by decide)).1]
  · by_cases j24 : j < 24
    · rw [lgf_at j24, lgf_at j24, (ce 5 (by decide)).2 _ (by omega), (ce 6 (by decide)).2 _ (by omega), (ce 7 (by decide)).2 _ (by omega), (ce 8 (by decide)).2 _ (by omega), (ce 9 (by decide)).2 _ (by omega)]
    · unfold lgf; rw [if_pos (by omega), if_pos (by omega)]
  · funext j
    by_cases j24 : j < 24
    · rw [lgf_at j24, lgf_at j24, (ce 5 (by decide)).2 _ (by omega), (ce 6 (by decide)).2 _ (by omega), (ce 7 (by decide)).2 _ (by omega), (ce 8 (by decide)).2 _ (by omega), (ce 9 (by decide)).2 _ (by omega)]
    · unfold lgf; rw [if_pos (by omega), if_pos (by omega)]
theorem sc_entry {x : RS} {s t : Nat} : sc (w_X7_copyEntry x s t) = sc x := by
  unfold w_X7_copyEntry; rw [sc_no rfl, sc_no rfl, sc_no rfl, sc_no rfl, sc_no rfl]
theorem qf_entry {x : RS} {s t : Nat} : qf (w_X7_copyEntry x s t) = qf x := by
  unfold w_X7_copyEntry; rw [qf_no (by decide), qf_no (by decide), qf_no (by decide), qf_no (by decide), qf_no (by decide)]
theorem j_prop {f k : Nat} (h : JR a) (hf : f < 3) (hr : a 0 f = 2) (hd : 2 ≤ a 25 f) (hd2 : a 25 f < a 24 f) (hk : a 22 (64 * f + a 25 f) = 6) (hkv : k = a 23 (64 * f + a 25 f)) :
    JR (w_X7_sendUp (su2 (w_X7_copyEntry (su2 a 25 f (a 25 f + 1)) (24 * a 14 f + k) (24 * f + a 4 f)) 4 f (a 4 f + 1)) f 3 (a 4 f + 1)) := by
  have rws := j_rows h hf hr
  have hF := j_F h hf hr
  have bg := j_B h hF.1
  have kn : k = a 4 f ∧ a 4 f < a 4 (a 14 f) := by
    rcases (j_dkinds h hf hr hd2).2.2 hd with q | q
    · exact ⟨by omega, q.2.2⟩
    · omega
  obtain ⟨top, own, vt, sett, H, HL, I, cl, cm, ce, n, h⟩ := h
  have e20 : su2 (w_X7_copyEntry (su2 a 25 f (a 25 f + 1)) (24 * a 14 f + k) (24 * f + a 4 f)) 4 f (a 4 f + 1) 20 f = a 20 f := rfl
  have hq := qf_sendUp (a := su2 (w_X7_copyEntry (su2 a 25 f (a 25 f + 1)) (24 * a 14 f + k) (24 * f + a 4 f)) 4 f (a 4 f + 1)) (f := f) (kd := 3) (vl := a 4 f + 1) (by rw [e20]; omega)
  rw [e20, qf_no (by decide), qf_entry, qf_no (by decide)] at hq
  have le := lgf_entry (x := su2 a 25 f (a 25 f + 1)) (f := f) (o := a 14 f) (k := k) (t := a 4 f) hF.1 hf (by omega) (by omega)
  rw [lgf_no (a := a) (by decide)] at le
  have q22 : qf a 22 f (a 25 f) = 6 := by rw [qf_at (by omega) (by omega)]; exact hk
  have q23 : qf a 23 f (a 25 f) = k := by rw [qf_at (by omega) (by omega), hkv]
  refine ⟨top, own, vt, sett, H, HL, I, cl, cm, ce, n, ?_⟩
  rw [lgf_sendUp, lgf_no (by decide), sc_sendUp, sc_su rfl, sc_entry, sc_su rfl, e20]
  refine (pt_prop h f hf hr hd hd2 q22 ⟨?_, ?_, u2s⟩ (fun x hx k => ?_) (fun x k h1 h2 h3 => ?_) (fun k x j hx => hq.1 k x j (Or.inl hx)) ⟨hq.2.1, hq.2.2⟩ (fun k x j hk => hq.1 k x j (Or.inr (by rcases hk with hk | hk; exact Or.inl hk; exact Or.inr (Nat.ne_of_lt hk)))) (fun x hx => le.2.2 x hx) (by show _ = lgf a (a 14 f) (qf a 23 f (a 25 f)); rw [q23]; exact le.1) (fun j hj => le.2.1 j (Nat.ne_of_lt hj))).1
  · rw [u2n (Or.inl (by decide)), u2n (Or.inl (by decide)), u2s]; rfl
  · rw [u2n (Or.inl (by decide)), u2s]; rfl
  · rw [u2n (Or.inr hx), u2n (Or.inr hx), u2n (Or.inr hx)]
  · rw [u2n (Or.inl h3), u2n (Or.inl h2), u2n (Or.inl h1)]
theorem j_com {f k : Nat} (h : JR a) (hf : f < 3) (hr : a 0 f = 2) (hd : 2 ≤ a 25 f) (hd2 : a 25 f < a 24 f) (hk : a 22 (64 * f + a 25 f) ≠ 6) (hkv : k = max (a 23 (64 * f + a 25 f)) (a 3 f)) :
    JR (su2 (su2 a 25 f (a 25 f + 1)) 3 f k) := by
  have rws := j_rows h hf hr
  obtain ⟨top, own, vt, sett, H, HL, I, cl, cm, ce, n, h⟩ := h
  have q22 : qf a 22 f (a 25 f) ≠ 6 := by rw [qf_at (by omega) (by omega)]; exact hk
  refine ⟨top, own, vt, sett, H, HL, I, cl, cm, ce, n, ?_⟩
  rw [sc_su rfl, sc_su rfl, qf_no (by decide), qf_no (by decide), lgf_no (by decide), lgf_no (by decide)]
  refine (pt_com h f hf hr hd hd2 q22 ⟨?_, ?_⟩ (fun x hx k => ?_) (fun x k h1 h2 => ?_)).1
  · rw [u2n (Or.inl (by decide)), u2s]; rfl
  · rw [u2s, hkv]
    show _ = max (qf a 23 f (a 25 f)) (a 3 f)
    rw [qf_at (by omega) (by omega)]
  · rw [u2n (Or.inr hx), u2n (Or.inr hx)]
  · rw [u2n (Or.inl h2), u2n (Or.inl h1)]
end DNJ
