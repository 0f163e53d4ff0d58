section SIM2
variable {c : CS} {a : RS}
theorem p_sendU {f kd vl : Nat} (h : Sim c a) (hf : f < 3) (hr : a 0 f = 2) (hb : a 20 f < 27) (hb3 : ∀ s, s < 3 → a 20 s ≤ 64) : Sim (w_X2_send_u c f kd vl) (w_X7_sendUp a f kd vl) := by
  have hd := (h f hf).2.2.2.1 hr
  have e13 : c 13 f 0 = a 20 f := hd.2.2.2.2.1
  have ew : w_X2_send_u c f kd vl = su3 (su3 (su3 c 30 f (a 20 f) kd) 31 f (a 20 f) vl) 13 f 0 (a 20 f + 1) := by
    unfold w_X2_send_u; rw [e13, if_neg (by rw [ofN_le (by decide) (by omega)]; omega)]
  rw [ew]
  unfold w_X7_sendUp
  intro s hs
  obtain ⟨g1, g2, g3, g4, g5, g6, g7, g8⟩ := h s hs
  have := hb3 s hs
  refine ⟨g1, g2, g3, ?_, ?_, g6, ?_, g8⟩
  · intro h2; have := g4 h2; grind [= su3a, = su2a']
  · intro h2 j hj; have := g5 h2 j; grind [= su3a, = su2a']
  · intro h2; have := g7 h2; grind [= su3a, = su2a']
theorem p_dropU {f : Nat} (h : Sim c a) (hf : f < 3) (hr : a 0 f = 2) (hb : a 21 f < a 20 f) (hb3 : a 20 f ≤ 64) : Sim (w_X2_dropFirst_u c f) (su2 a 21 f (a 21 f + 1)) := by
  have hd := (h f hf).2.2.2.1 hr
  have ew : w_X2_dropFirst_u c f = su3 c 12 f 0 (a 21 f + 1) := by
    unfold w_X2_dropFirst_u; rw [hd.2.2.2.2.1, hd.2.2.2.2.2.1, if_neg (by rw [ofN_le (by omega) (by omega)]; omega)]
  rw [ew]
  intro s hs
  obtain ⟨g1, g2, g3, g4, g5, g6, g7, g8⟩ := h s hs
  refine ⟨g1, g2, g3, ?_, g5, g6, ?_, g8⟩
  · intro h2; have := g4 h2; grind [= su3a, = su2a']
  · intro h2; have := g7 h2; grind [= su3a, = su2a']
theorem p_dropD {f : Nat} (h : Sim c a) (hf : f < 3) (hr : a 0 f = 2) (hb : a 25 f < a 24 f) (hb3 : a 24 f ≤ 64) : Sim (w_X2_dropFirst_d c f) (su2 a 25 f (a 25 f + 1)) := by
  have hd := (h f hf).2.2.2.1 hr
  have ew : w_X2_dropFirst_d c f = su3 c 14 f 0 (a 25 f + 1) := by
    unfold w_X2_dropFirst_d; rw [hd.2.2.2.2.2.2.1, hd.2.2.2.2.2.2.2, if_neg (by rw [ofN_le (by omega) (by omega)]; omega)]
  rw [ew]
  intro s hs
  obtain ⟨g1, g2, g3, g4, g5, g6, g7, g8⟩ := h s hs
  refine ⟨g1, g2, g3, ?_, g5, g6, ?_, g8⟩
  · intro h2; have := g4 h2; grind [= su3a, = su2a']
  · intro h2; have := g7 h2; grind [= su3a, = su2a']
theorem clear_eq {f : Nat} : w_X1_clear c f = su3 (su3 (su3 (su3 (su3 (su3 (su3 c 12 f 0 0) 13 f 0 0) 14 f 0 0) 15 f 0 0) 9 f 0 0) 10 f 0 0) 11 f 0 0 := rfl
theorem p_cut {f : Nat} (h : Sim c a) : Sim (su3 (w_X1_clear c f) 3 f 0 1) (w_X7_cut a f) := by
  rw [clear_eq]; unfold w_X7_cut
  intro s hs
  obtain ⟨g1, g2, g3, g4, g5, g6, g7, g8⟩ := h s hs
  by_cases e : s = f
  · subst e
    have e0 : (su2 (su2 (su2 (su2 (su2 (su2 (su2 (su2 a 0 s 1) 15 s 0) 16 s 0) 17 s 0) 20 s 0) 21 s 0) 24 s 0) 25 s 0) 0 s = 1 := by simp [su2]
    refine ⟨?_, g2, ?_, ?_, ?_, ?_, ?_, ?_⟩
    · exact ⟨by rw [e0]; simp [su3], g1.2⟩
    · intro h2; rw [e0] at h2; omega
    · intro h2; rw [e0] at h2; omega
    · intro h2; rw [e0] at h2; omega
    · intro h2; rw [e0] at h2; omega
    · intro _; refine ⟨?_, ?_, ?_, ?_, ?_, ?_, ?_⟩ <;> simp [su3]
    · intro h2; rw [e0] at h2; omega
  · have k1 : ∀ k j, (su3 (su3 (su3 (su3 (su3 (su3 (su3 (su3 c 12 f 0 0) 13 f 0 0) 14 f 0 0) 15 f 0 0) 9 f 0 0) 10 f 0 0) 11 f 0 0) 3 f 0 1) k s j = c k s j := by
      intro k j; simp [su3, e]
    have k2 : ∀ k, (su2 (su2 (su2 (su2 (su2 (su2 (su2 (su2 a 0 f 1) 15 f 0) 16 f 0) 17 f 0) 20 f 0) 21 f 0) 24 f 0) 25 f 0) k s = a k s := by
      intro k; simp [su2, e]
    unfold sA sB sC sD sU sW sE sF Sone at *
    unfold sA sB sC sD sU sW sE sF
    simp only [k1, k2]
    exact ⟨g1, g2, g3, g4, g5, g6, g7, g8⟩
theorem p_role {f r : Nat} (h : Sim c a) (hf : f < 3) (hr : a 0 f ≠ 2) (hr1 : r ≤ 1) : Sim (su3 c 3 f 0 r) (su2 a 0 f r) := by
  intro s hs
  obtain ⟨g1, g2, g3, g4, g5, g6, g7, g8⟩ := h s hs
  by_cases e : s = f
  · subst e
    have e0 : su2 a 0 s r 0 s = r := by simp [su2]
    have g7' := g7 hr
    refine ⟨⟨by rw [e0]; simp [su3], g1.2⟩, g2, ?_, ?_, ?_, ?_, fun _ => g7', ?_⟩ <;> (intro h2; rw [e0] at h2; omega)
  · have k1 : ∀ k j, su3 c 3 f 0 r k s j = c k s j := by intro k j; simp [su3, e]
    have k2 : ∀ k, su2 a 0 f r k s = a k s := by intro k; simp [su2, e]
    unfold Sone sA sB sC sD sU sW sE sF at *
    simp only [k1, k2]
    exact ⟨g1, g2, g3, g4, g5, g6, g7, g8⟩
theorem p_lead {v : Nat} (h : Sim c a) (hf : v < 3) (hr : a 0 v ≠ 2) : Sim (w_X4_begin (su3 c 3 v 0 3) v) (su2 (su2 (su2 (su2 a 0 v 3) 10 v 0) 11 v 0) 12 v 0) := by
  unfold w_X4_begin
  intro s hs
  obtain ⟨g1, g2, g3, g4, g5, g6, g7, g8⟩ := h s hs
  by_cases e : s = v
  · subst e
    have e0 : (su2 (su2 (su2 (su2 a 0 s 3) 10 s 0) 11 s 0) 12 s 0) 0 s = 3 := by simp [su2]
    have g7' := g7 hr
    refine ⟨⟨by rw [e0]; simp [su3], g1.2⟩, g2, ?_, ?_, ?_, ?_, fun _ => g7', ?_⟩
    · intro _
      have x1 : (su3 (su3 (su3 (su3 c 3 s 0 3) 16 s 0 0) 17 s 0 0) 18 s 0 0) 16 s 0 = 0 := by simp [su3]
      have x2 : (su3 (su3 (su3 (su3 c 3 s 0 3) 16 s 0 0) 17 s 0 0) 18 s 0 0) 17 s 0 = 0 := by simp [su3]
      have x3 : (su3 (su3 (su3 (su3 c 3 s 0 3) 16 s 0 0) 17 s 0 0) 18 s 0 0) 18 s 0 = 0 := by simp [su3]
      have y1 : (su2 (su2 (su2 (su2 a 0 s 3) 10 s 0) 11 s 0) 12 s 0) 10 s = 0 := by simp [su2]
      have y2 : (su2 (su2 (su2 (su2 a 0 s 3) 10 s 0) 11 s 0) 12 s 0) 11 s = 0 := by simp [su2]
      have y3 : (su2 (su2 (su2 (su2 a 0 s 3) 10 s 0) 11 s 0) 12 s 0) 12 s = 0 := by simp [su2]
      rw [x1, x2, x3, y1, y2, y3]; simp
    all_goals (intro h2; rw [e0] at h2; omega)
  · have k1 : ∀ k j, (su3 (su3 (su3 (su3 c 3 v 0 3) 16 v 0 0) 17 v 0 0) 18 v 0 0) k s j = c k s j := by intro k j; simp [su3, e]
    have k2 : ∀ k, (su2 (su2 (su2 (su2 a 0 v 3) 10 v 0) 11 v 0) 12 v 0) k s = a k s := by intro k; simp [su2, e]
    unfold Sone sA sB sC sD sU sW sE sF at *
    simp only [k1, k2]
    exact ⟨g1, g2, g3, g4, g5, g6, g7, g8⟩
theorem p_follow {v w : Nat} (h : Sim c a) (hf : v < 3) (hr : a 0 v ≠ 2) : Sim (su3 (su3 c 3 v 0 2) 4 v 0 w) (su2 (su2 (w_X7_cut a v) 0 v 2) 14 v w) := by
  unfold w_X7_cut
  intro s hs
  obtain ⟨g1, g2, g3, g4, g5, g6, g7, g8⟩ := h s hs
  by_cases e : s = v
  · subst e
    have e0 : (su2 (su2 (su2 (su2 (su2 (su2 (su2 (su2 (su2 (su2 a 0 s 1) 15 s 0) 16 s 0) 17 s 0) 20 s 0) 21 s 0) 24 s 0) 25 s 0) 0 s 2) 14 s w) 0 s = 2 := by simp [su2]
    have g7' := g7 hr
    refine ⟨⟨by rw [e0]; simp [su3], g1.2⟩, g2, ?_, ?_, ?_, ?_, ?_, ?_⟩
    · intro h2; rw [e0] at h2; omega
    · intro _
      refine ⟨by simp [su2, su3], ?_, ?_, ?_, ?_, ?_, ?_, ?_⟩
      · exact g7'.2.2.1.trans (Eq.symm (by simp [su2]))
      · exact g7'.1.trans (Eq.symm (by simp [su2]))
      · exact g7'.2.1.trans (Eq.symm (by simp [su2]))
      · exact g7'.2.2.2.2.1.trans (Eq.symm (by simp [su2]))
      · exact g7'.2.2.2.1.trans (Eq.symm (by simp [su2]))
      · exact g7'.2.2.2.2.2.2.trans (Eq.symm (by simp [su2]))
      · exact g7'.2.2.2.2.2.1.trans (Eq.symm (by simp [su2]))
    · intro _ j hj
      have : (su2 (su2 (su2 (su2 (su2 (su2 (su2 (su2 (su2 (su2 a 0 s 1) 15 s 0) 16 s 0) 17 s 0) 20 s 0) 21 s 0) 24 s 0) 25 s 0) 0 s 2) 14 s w) 20 s = 0 := by simp [su2]
      rw [this] at hj; omega
    · intro _ j hj
      have : (su2 (su2 (su2 (su2 (su2 (su2 (su2 (su2 (su2 (su2 a 0 s 1) 15 s 0) 16 s 0) 17 s 0) 20 s 0) 21 s 0) 24 s 0) 25 s 0) 0 s 2) 14 s w) 24 s = 0 := by simp [su2]
      rw [this] at hj; omega
    · intro h2; exact absurd e0 h2
    · intro h2; rw [e0] at h2; omega
  · have k1 : ∀ k j, (su3 (su3 c 3 v 0 2) 4 v 0 w) k s j = c k s j := by intro k j; simp [su3, e]
    have k2 : ∀ k, (su2 (su2 (su2 (su2 (su2 (su2 (su2 (su2 (su2 (su2 a 0 v 1) 15 v 0) 16 v 0) 17 v 0) 20 v 0) 21 v 0) 24 v 0) 25 v 0) 0 v 2) 14 v w) k s = a k s := by intro k; simp [su2, e]
    unfold Sone sA sB sC sD sU sW sE sF at *
    simp only [k1, k2]
    exact ⟨g1, g2, g3, g4, g5, g6, g7, g8⟩
theorem p_wait {f : Nat} (h : Sim c a) (hf : f < 3) (hr : a 0 f = 2) : Sim (su3 c 11 f 0 1) (su2 a 15 f 1) := by
  intro s hs
  obtain ⟨g1, g2, g3, g4, g5, g6, g7, g8⟩ := h s hs
  refine ⟨g1, g2, g3, ?_, g5, g6, ?_, g8⟩
  · intro h2; have := g4 h2; grind [= su3a, = su2a']
  · intro h2; have := g7 h2; grind [= su3a, = su2a']
theorem p_tie {f : Nat} (h : Sim c a) (hf : f < 3) (hr : a 0 f = 2) : Sim (su3 (su3 c 9 f 0 1) 11 f 0 0) (su2 (su2 a 15 f 0) 16 f 1) := by
  intro s hs
  obtain ⟨g1, g2, g3, g4, g5, g6, g7, g8⟩ := h s hs
  refine ⟨g1, g2, g3, ?_, g5, g6, ?_, g8⟩
  · intro h2; have := g4 h2; grind [= su3a, = su2a']
  · intro h2; have := g7 h2; grind [= su3a, = su2a']
theorem p_heard {f : Nat} (h : Sim c a) (hf : f < 3) (hr : a 0 f = 2) : Sim (su3 c 10 f 0 1) (su2 a 17 f 1) := by
  intro s hs
  obtain ⟨g1, g2, g3, g4, g5, g6, g7, g8⟩ := h s hs
  refine ⟨g1, g2, g3, ?_, g5, g6, ?_, g8⟩
  · intro h2; have := g4 h2; grind [= su3a, = su2a']
  · intro h2; have := g7 h2; grind [= su3a, = su2a']
theorem p_choose {g n : Nat} (h : Sim c a) (hg : g < 3) (hn : n ≠ 0) : Sim (su3 (su3 c 16 g 0 1) 1 g 0 n) (su2 (su2 a 10 g n) 1 g n) := by
  intro s hs
  obtain ⟨g1, g2, g3, g4, g5, g6, g7, g8⟩ := h s hs
  refine ⟨?_, g2, ?_, g4, g5, g6, g7, g8⟩
  · unfold sA at *; grind [= su3a, = su2a']
  · intro h2; have := g3 h2; grind [= su3a, = su2a']
theorem p_prom {f n : Nat} (h : Sim c a) : Sim (su3 c 1 f 0 n) (su2 a 1 f n) := by
  intro s hs
  obtain ⟨g1, g2, g3, g4, g5, g6, g7, g8⟩ := h s hs
  refine ⟨?_, g2, g3, g4, g5, g6, g7, g8⟩
  unfold sA at *; grind [= su3a, = su2a']
theorem p_epoch {f n : Nat} (h : Sim c a) : Sim (su3 c 2 f 0 n) (su2 a 2 f n) := by
  intro s hs
  obtain ⟨g1, g2, g3, g4, g5, g6, g7, g8⟩ := h s hs
  refine ⟨?_, g2, g3, g4, g5, g6, g7, g8⟩
  unfold sA at *; grind [= su3a, = su2a']
theorem p_settled {g n : Nat} (h : Sim c a) : Sim (su3 c 17 g 0 n) (su2 a 11 g n) := by
  intro s hs
  obtain ⟨g1, g2, g3, g4, g5, g6, g7, g8⟩ := h s hs
  refine ⟨g1, g2, ?_, g4, g5, g6, g7, g8⟩
  intro h2; have := g3 h2; grind [= su3a, = su2a']
theorem p_made {g n : Nat} (h : Sim c a) : Sim (su3 c 18 g 0 n) (su2 a 12 g n) := by
  intro s hs
  obtain ⟨g1, g2, g3, g4, g5, g6, g7, g8⟩ := h s hs
  refine ⟨g1, g2, ?_, g4, g5, g6, g7, g8⟩
  intro h2; have := g3 h2; grind [= su3a, = su2a']
theorem p_age {g b n : Nat} (h : Sim c a) (hg : g < 3) (hb : b < 5) (hn : n ≤ 3) : Sim (su3 c 34 g b n) (su2 a 13 (5 * g + b) n) := by
  intro s hs
  obtain ⟨g1, g2, g3, g4, g5, g6, g7, g8⟩ := h s hs
  refine ⟨g1, g2, g3, g4, g5, g6, g7, ?_⟩
  intro h2 t ht; have := g8 h2 t ht; grind [= su3a, = su2a']
theorem p_scratch {a' : RS} (h : Sim c a) (hk : ∀ k, k < 26 → a' k = a k) : Sim c a' := by
  intro s hs
  have := h s hs
  unfold Sone sA sB sC sD sU sW sE sF at *
  simp only [hk 0 (by decide), hk 1 (by decide), hk 2 (by decide), hk 3 (by decide), hk 4 (by decide), hk 5 (by decide), hk 6 (by decide), hk 7 (by decide), hk 8 (by decide), hk 9 (by decide), hk 10 (by decide), hk 11 (by decide), hk 12 (by decide), hk 13 (by decide), hk 14 (by decide), hk 15 (by decide), hk 16 (by decide), hk 17 (by decide), hk 18 (by decide), hk 19 (by decide), hk 20 (by decide), hk 21 (by decide), hk 22 (by decide), hk 23 (by decide), hk 24 (by decide), hk 25 (by decide)]
  exact this
end SIM2
