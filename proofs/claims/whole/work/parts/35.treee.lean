section TREE5
variable {x : CS} {i : Nat} {y : RS} {m : Nat}
theorem close_step {b : Nat} (h : TB x i y m) (hm : m < 24) (h1 : 1 ≤ b) (h4 : b ≤ 4) : r_X5_close x i b = r_X7_session y 0 b ∧ TB (w_X5_close x i b) i (w_X7_session y 0 b) (m + 1) := by
  have hs := tb_mono h (Nat.le_succ m)
  have oc := open_corr h h1 h4
  have hy := h.2.2.2.2.2.1 b (by omega)
  have h7 := h.2.2.2.1
  unfold r_X5_close r_X7_session w_X5_close w_X7_session
  by_cases e : y 30 b = 0
  · rw [if_pos (oc.mpr e), if_pos (oc.mpr e), e, if_pos rfl, if_pos rfl]
    exact ⟨rfl, hs⟩
  · have e1 : ¬ Int32.ofNat (y 30 b) = Int32.ofNat 0 := fun q => e ((y30 h (by omega)).mp q)
    rw [if_neg (fun q => e (oc.mp q)), if_neg (fun q => e (oc.mp q)), if_neg e1, if_neg e1]
    refine ⟨rfl, ?_⟩
    have cl := close_lp (i := i) (c := x) (b := b) h4 (x 7 i 0) (nc (Int32.ofNat (x 7 i 0) - Int32.ofNat 1)) x (sub1_code (by omega)) (Nat.le_refl _) (fun n hn => (h.2.1 n hn).2.2.2) (fun t h1 h2 => by omega)
    have sl := sess_close_lp (a := y) (b := b) (y 32 0) 0 (su2 y 30 b 0)
    obtain ⟨g1, g2, g3, g4, g8⟩ := tb_bits h
    refine tb_kill (q := fun n => n.2.2.2 != b) h cl.1 ?_ cl.2.1 ?_ (fun c hc => ?_) ?_
    · refine rnl_kill (S := fun t => decide (Int32.ofNat (y 29 t) = Int32.ofNat b)) (by rw [sl.2 32 (by decide), su2_ne (by decide)]) (fun t ht hS => ?_) (fun t ht hS => ?_) (fun t ht hl => ?_)
      · rw [sl.1 t, su2_ne (by decide), if_pos ⟨Nat.zero_le _, by omega, of_decide_eq_true hS⟩]
      · unfold rnd
        rw [sl.1 t, sl.2 27 (by decide), sl.2 28 (by decide), sl.2 29 (by decide), su2_ne (by decide), su2_ne (by decide), su2_ne (by decide), su2_ne (by decide), if_neg (fun q => of_decide_eq_false hS q.2.2)]
      · have ok := h.2.1 (rnd y t) (h.1.mem_iff.mpr (mem_rnl.mpr ⟨⟨t, ht, rfl⟩, hl⟩))
        have ho : y 29 t ≤ 4 := ok.2.2.2
        show (y 29 t != b) = !decide (Int32.ofNat (y 29 t) = Int32.ofNat b)
        by_cases eb : y 29 t = b
        · rw [eb]; simp
        · rw [decide_eq_false (fun q => eb ((code_inj (by omega) (by omega)).mp q))]; simp [eb]
    · rw [sl.2 32 (by decide), su2_ne (by decide)]
    · rw [sl.2 30 (by decide)]
      by_cases ec : c = b
      · subst ec; simp [su2]
      · simpa [su2, ec] using h.2.2.2.2.2.1 c hc
    · rw [su3_same, cl.2.2, g8, bits_no g1 g2 g3 g4 h1 h4, bset_y h1 h4]
      unfold bitsOf; rw [sl.2 30 (by decide)]
-- a change
def ok4 (kd pa vb : Nat) : Prop := 1 ≤ kd ∧ kd ≤ 5 ∧ (kd ≤ 3 → 1 ≤ pa ∧ pa ≤ 511) ∧ (kd = 1 → vb ≤ 4) ∧ (4 ≤ kd → 1 ≤ vb ∧ vb ≤ 4)
def rres (y : RS) (kd pa va vb : Nat) : Nat := if Int32.ofNat kd = Int32.ofNat 1 then r_X7_create y pa va vb else (if Int32.ofNat 3 < Int32.ofNat kd then (if Int32.ofNat kd = Int32.ofNat 4 then r_X7_session y 1 vb else r_X7_session y 0 vb) else (if Int32.ofNat kd = Int32.ofNat 2 then r_X7_alter y 1 pa va vb else r_X7_alter y 0 pa va vb))
def rstp (y : RS) (kd pa va vb : Nat) : RS := if Int32.ofNat kd = Int32.ofNat 1 then w_X7_create y pa va vb else (if Int32.ofNat 3 < Int32.ofNat kd then (if Int32.ofNat kd = Int32.ofNat 4 then w_X7_session y 1 vb else w_X7_session y 0 vb) else (if Int32.ofNat kd = Int32.ofNat 2 then w_X7_alter y 1 pa va vb else w_X7_alter y 0 pa va vb))
theorem step_corr {kd pa va vb : Nat} (h : TB x i y m) (hm : m < 24) (ok : ok4 kd pa vb) : r_X5_change x i kd pa va vb = rres y kd pa va vb ∧ TB (w_X5_change x i kd pa va vb) i (rstp y kd pa va vb) (m + 1) := by
  obtain ⟨k1, k2, k3, k4, k5⟩ := ok
  unfold r_X5_change w_X5_change rres rstp
  rcases (by omega : kd = 1 ∨ kd = 2 ∨ kd = 3 ∨ kd = 4 ∨ kd = 5) with e | e | e | e | e <;> subst e
  · rw [if_pos rfl, if_pos rfl, if_pos rfl, if_pos rfl]; exact create_corr h hm (k3 (by decide)) (k4 rfl)
  · have d1 : ¬ Int32.ofNat 2 = Int32.ofNat 1 := by decide
    have d2 : ¬ Int32.ofNat 3 < Int32.ofNat 2 := by decide
    simp only [d1, d2, ↓reduceIte]; exact set_corr h hm (k3 (by decide))
  · have d1 : ¬ Int32.ofNat 3 = Int32.ofNat 1 := by decide
    have d2 : ¬ Int32.ofNat 3 < Int32.ofNat 3 := by decide
    have d3 : ¬ Int32.ofNat 3 = Int32.ofNat 2 := by decide
    simp only [d1, d2, d3, ↓reduceIte]; exact del_corr h hm (k3 (by decide))
  · have d1 : ¬ Int32.ofNat 4 = Int32.ofNat 1 := by decide
    have d2 : Int32.ofNat 3 < Int32.ofNat 4 := by decide
    have d3 : ¬ Int32.ofNat 4 = Int32.ofNat 2 := by decide
    have d4 : ¬ Int32.ofNat 4 = Int32.ofNat 3 := by decide
    simp only [d1, d2, d3, d4, ↓reduceIte]; exact open_step h (k5 (by decide)).1 (k5 (by decide)).2
  · have d1 : ¬ Int32.ofNat 5 = Int32.ofNat 1 := by decide
    have d2 : Int32.ofNat 3 < Int32.ofNat 5 := by decide
    have d3 : ¬ Int32.ofNat 5 = Int32.ofNat 2 := by decide
    have d4 : ¬ Int32.ofNat 5 = Int32.ofNat 3 := by decide
    have d5 : ¬ Int32.ofNat 5 = Int32.ofNat 4 := by decide
    simp only [d1, d2, d3, d4, d5, ↓reduceIte]; exact close_step h hm (k5 (by decide)).1 (k5 (by decide)).2
end TREE5
