section JUP
variable {a : RS}
theorem sc_at {k s : Nat} (h : sck k = true) : sc a k s = a k s := by unfold sc; rw [if_pos h]
-- JOIN: the choice, and NEWEPOCH
theorem j_choose {g p : Nat} (h : JR a) (hg : g < 3) (hr : 3 ≤ a 0 g) (hc : a 10 g = 0) (hp : a 1 g < p) : JR (su2 (su2 a 10 g p) 1 g p) := by
  obtain ⟨top, own, vt, sett, H, HL, I, cl, cm, ce, n, h⟩ := h
  refine ⟨top, own, fun x => if x = g then g else vt x, sett, H, HL, I, cl, cm, ce, n, ?_⟩
  rw [sc_su rfl, sc_su rfl, qf_no (by decide), qf_no (by decide), lgf_no (by decide), lgf_no (by decide)]
  refine pt_choose h g p hg hr hc hp ⟨u2s, ?_⟩ (fun x hx k => ?_) (fun x k h1 h2 => ?_)
  · rw [u2n (Or.inl (by decide)), u2s]
  · rw [u2n (Or.inr hx), u2n (Or.inr hx)]
  · rw [u2n (Or.inl h1), u2n (Or.inl h2)]
theorem j_join {f : Nat} (h : JR a) (hf : f < 3) (hr : a 0 f = 2) (hu : a 21 f = 0) (hc : a 10 (a 14 f) ≠ 0) : JR (w_X7_sendDown (su2 a 21 f 1) f 4 (a 10 (a 14 f))) := by
  obtain ⟨top, own, vt, sett, H, HL, I, cl, cm, ce, n, h⟩ := h
  have z : a 24 f = 0 := (h.2.2.2.2.2.2.2.2.2.1 f hf hr).2.2.2.1 hu
  have e24 : su2 a 21 f 1 24 f = 0 := by rw [su2_ne (by decide)]; exact z
  have hq := qf_sendDown (a := su2 a 21 f 1) (f := f) (kd := 4) (vl := a 10 (a 14 f)) (by rw [e24]; decide)
  rw [e24, qf_no (by decide)] at hq
  refine ⟨top, own, vt, sett, H, HL, I, cl, cm, ce, n, ?_⟩
  rw [lgf_sendDown, lgf_no (by decide), sc_sendDown, sc_su rfl, e24]
  refine pt_join h f hf hr hu hc ⟨?_, u2s⟩ (fun x hx k => ?_) (fun x k h1 h2 => ?_) (fun k x j hx => hq.1 k x j (Or.inl hx)) hq.2 (fun k x j hk => hq.1 k x j (Or.inr (Or.inl (by omega))))
  · rw [u2n (Or.inl (by decide)), u2s]
  · rw [u2n (Or.inr hx), u2n (Or.inr hx)]
  · rw [u2n (Or.inl h2), u2n (Or.inl h1)]
-- a message of the up row is read
theorem j_read {f : Nat} (h : JR a) (hf : f < 3) (hr : a 0 f = 2) (hu : 1 ≤ a 21 f) (hu2 : a 21 f < a 20 f) : JR (su2 a 21 f (a 21 f + 1)) := by
  obtain ⟨top, own, vt, sett, H, HL, I, cl, cm, ce, n, h⟩ := h
  have x17 : a 17 f ≤ 1 := (h.2.2.2.2.2.2.2.2.2.1 f hf hr).2.2.2.2.2.2.2.2.2.2.2.2.1
  refine ⟨top, own, vt, sett, H, HL, I, cl, cm, ce, n, jg_su rfl ?_⟩
  refine pt_read h f hf hr hu hu2 u2s ?_ (fun x hx k => u2n (Or.inr hx)) (fun x k h1 h2 => u2n (Or.inl h1))
  rw [u2n (Or.inl (by decide))]; exact ⟨Nat.le_refl _, x17⟩
theorem j_readH {f : Nat} (h : JR a) (hf : f < 3) (hr : a 0 f = 2) (hu : 1 ≤ a 21 f) (hu2 : a 21 f < a 20 f) : JR (su2 (su2 a 21 f (a 21 f + 1)) 17 f 1) := by
  obtain ⟨top, own, vt, sett, H, HL, I, cl, cm, ce, n, h⟩ := h
  have x17 : a 17 f ≤ 1 := (h.2.2.2.2.2.2.2.2.2.1 f hf hr).2.2.2.2.2.2.2.2.2.2.2.2.1
  refine ⟨top, own, vt, sett, H, HL, I, cl, cm, ce, n, ?_⟩
  rw [sc_su rfl, sc_su rfl, qf_no (by decide), qf_no (by decide), lgf_no (by decide), lgf_no (by decide)]
  refine pt_read h f hf hr hu hu2 ?_ ?_ (fun x hx k => ?_) (fun x k h1 h2 => ?_)
  · rw [u2n (Or.inl (by decide)), u2s]; rfl
  · rw [u2s]; exact ⟨x17, Nat.le_refl _⟩
  · rw [u2n (Or.inr hx), u2n (Or.inr hx)]
  · rw [u2n (Or.inl h2), u2n (Or.inl h1)]
theorem j_wait {f : Nat} (h : JR a) (hf : f < 3) (hr : a 0 f = 2) (hu : 2 ≤ a 21 f) (ht : a 16 f = 0) : JR (su2 a 15 f 1) := by
  obtain ⟨top, own, vt, sett, H, HL, I, cl, cm, ce, n, h⟩ := h
  exact ⟨top, own, vt, sett, H, HL, I, cl, cm, ce, n, jg_su rfl (pt_wait h f hf hr hu ht (fun x hx k => u2n (Or.inr hx)) (fun x k h1 => u2n (Or.inl h1)))⟩
theorem j_tie {f : Nat} (h : JR a) (hf : f < 3) (hr : a 0 f = 2) (hu : 2 ≤ a 21 f) (ht : a 16 f = 0) (hs : a 11 (a 14 f) ≠ 0) : JR (w_X7_newLeader a f (a 14 f)) := by
  obtain ⟨top, own, vt, sett, H, HL, I, cl, cm, ce, n, h⟩ := h
  have g1 := h.2.2.2.2.2.2.2.2.2.1 f hf hr
  have z1 : a 24 f ≤ 1 := g1.2.2.2.2.2.2.2.2.2.1 ht
  have e24 : su2 (su2 a 15 f 0) 16 f 1 24 f = a 24 f := by rw [su2_ne (by decide), su2_ne (by decide)]
  have hq := qf_sendDown (a := su2 (su2 a 15 f 0) 16 f 1) (f := f) (kd := 5) (vl := a 4 (a 14 f)) (by rw [e24]; omega)
  rw [e24, qf_no (by decide), qf_no (by decide)] at hq
  refine ⟨top, own, vt, sett, H, HL, I, cl, cm, ce, fun x j => if x = f ∧ j = 2 then sc a 4 (sc a 14 f) else n x j, ?_⟩
  unfold w_X7_newLeader
  rw [lgf_sendDown, lgf_no (by decide), lgf_no (by decide), sc_sendDown, sc_su rfl, sc_su rfl, e24]
  refine pt_tie h f hf hr hu ht hs ⟨?_, ?_, u2s⟩ (fun x hx k => ?_) (fun x k h1 h2 h3 => ?_) (fun k x j hx => hq.1 k x j (Or.inl hx)) hq.2 (fun k x j hk => hq.1 k x j (Or.inr (by rcases hk with hk | hk; exact Or.inl (by omega); exact Or.inr (Nat.ne_of_lt hk))))
  · rw [u2n (Or.inl (by decide)), u2n (Or.inl (by decide)), u2s]
  · rw [u2n (Or.inl (by decide)), u2s]
  · rw [u2n (Or.inr hx), u2n (Or.inr hx), u2n (Or.inr hx)]
  · rw [u2n (Or.inl h3), u2n (Or.inl h2), u2n (Or.inl h1)]
theorem j_est {g : Nat} (h : JR a) (hr : a 0 g = 3) (hs : a 11 g ≠ 0) : JR (su2 a 0 g 4) := by
  obtain ⟨top, own, vt, sett, H, HL, I, cl, cm, ce, n, h⟩ := h
  exact ⟨top, own, vt, sett, H, HL, I, cl, cm, ce, n, jg_su rfl (pt_est h g hr hs u2s (fun x hx k => u2n (Or.inr hx)) (fun x k h1 => u2n (Or.inl h1)))⟩
theorem j_13 {j v : Nat} (h : JR a) : JR (su2 a 13 j v) := by
  obtain ⟨top, own, vt, sett, H, HL, I, cl, cm, ce, n, h⟩ := h
  refine ⟨top, own, vt, sett, H, HL, I, cl, cm, ce, n, ?_⟩
  rw [sc_no rfl, qf_no (by decide), lgf_no (by decide)]
  exact h
end JUP
