section PUB3
variable {T : Nat} {c : CS} {a : RS}
-- the two rows seen by JG
theorem sc_sendUp {f kd vl : Nat} : sc (w_X7_sendUp a f kd vl) = u2 (sc a) 20 f (a 20 f + 1) := by
  unfold w_X7_sendUp; rw [sc_su rfl, sc_no rfl, sc_no rfl]
theorem sc_sendDown {f kd vl : Nat} : sc (w_X7_sendDown a f kd vl) = u2 (sc a) 24 f (a 24 f + 1) := by
  unfold w_X7_sendDown; rw [sc_su rfl, sc_no rfl, sc_no rfl]
theorem lgf_sendUp {f kd vl : Nat} : lgf (w_X7_sendUp a f kd vl) = lgf a := by
  unfold w_X7_sendUp; rw [lgf_no (by decide), lgf_no (by decide), lgf_no (by decide)]
theorem lgf_sendDown {f kd vl : Nat} : lgf (w_X7_sendDown a f kd vl) = lgf a := by
  unfold w_X7_sendDown; rw [lgf_no (by decide), lgf_no (by decide), lgf_no (by decide)]
theorem qf_at {k s j : Nat} (hk : k = 18 ∨ k = 19 ∨ k = 22 ∨ k = 23) (hj : j < 64) : qf a k s j = a k (64 * s + j) := by unfold qf; rw [if_pos ⟨hk, hj⟩]
theorem qf_send (k1 k2 f t u v w z : Nat) (hk1 : k1 = 18 ∨ k1 = 22) (hk2 : k2 = k1 + 1) (ht : t < 64) (hw : sck w = true) : (∀ k s j, s ≠ f ∨ (k ≠ k1 ∧ k ≠ k2) ∨ j ≠ t → qf (su2 (su2 (su2 a k1 (64 * f + t) u) k2 (64 * f + t) v) w f z) k s j = qf a k s j) ∧ qf (su2 (su2 (su2 a k1 (64 * f + t) u) k2 (64 * f + t) v) w f z) k1 f t = u ∧ qf (su2 (su2 (su2 a k1 (64 * f + t) u) k2 (64 * f + t) v) w f z) k2 f t = v := by
  have hwn : w ≠ 18 ∧ w ≠ 19 ∧ w ≠ 22 ∧ w ≠ 23 := by unfold sck at hw; simp at hw; omega
  rw [qf_no hwn]
  refine ⟨fun k s j h => ?_, ?_, ?_⟩
  · unfold qf
    by_cases e : (k = 18 ∨ k = 19 ∨ k = 22 ∨ k = 23) ∧ j < 64
    · rw [if_pos e, if_pos e]
      by_cases e1 : k = k1
      · have : 64 * s + j ≠ 64 * f + t := by omega
        subst e1
        rw [su2_ne (by omega)]; simp [su2, this]
      · by_cases e2 : k = k2
        · have : 64 * s + j ≠ 64 * f + t := by omega
          have n : k2 ≠ k1 := by omega
          rw [e2]; simp [su2, this, n]
        · rw [su2_ne e2, su2_ne e1]
    · rw [if_neg e, if_neg e]
  · rw [qf_at (by omega) ht, su2_ne (by omega)]; simp [su2]
  · rw [qf_at (by omega) ht]; simp [su2]
theorem qf_sendUp {f kd vl : Nat} (hb : a 20 f < 64) : (∀ k s j, s ≠ f ∨ (k ≠ 18 ∧ k ≠ 19) ∨ j ≠ a 20 f → qf (w_X7_sendUp a f kd vl) k s j = qf a k s j) ∧ qf (w_X7_sendUp a f kd vl) 18 f (a 20 f) = kd ∧ qf (w_X7_sendUp a f kd vl) 19 f (a 20 f) = vl :=
  qf_send 18 19 f (a 20 f) kd vl 20 _ (Or.inl rfl) rfl hb rfl
theorem qf_sendDown {f kd vl : Nat} (hb : a 24 f < 64) : (∀ k s j, s ≠ f ∨ (k ≠ 22 ∧ k ≠ 23) ∨ j ≠ a 24 f → qf (w_X7_sendDown a f kd vl) k s j = qf a k s j) ∧ qf (w_X7_sendDown a f kd vl) 22 f (a 24 f) = kd ∧ qf (w_X7_sendDown a f kd vl) 23 f (a 24 f) = vl :=
  qf_send 22 23 f (a 24 f) kd vl 24 _ (Or.inr rfl) rfl hb rfl
theorem u2s {b : Nat → Nat → Nat} {k s v : Nat} : u2 b k s v k s = v := by simp [u2]
theorem u2n {b : Nat → Nat → Nat} {k s v k' s' : Nat} (h : k' ≠ k ∨ s' ≠ s) : u2 b k s v k' s' = b k' s' := by unfold u2; rw [if_neg (by omega)]
theorem j_follow {v w : Nat} (h : JR a) (hv : v < 3) (hw : w < 3) (hr : a 0 v ≤ 1) (hrw : 3 ≤ a 0 w) : JR (w_X7_sendUp (su2 (su2 (w_X7_cut a v) 0 v 2) 14 v w) v 1 (a 1 v)) := by
  obtain ⟨top, own, vt, sett, H, HL, I, cl, cm, ce, n, h⟩ := h
  have e20 : (su2 (su2 (w_X7_cut a v) 0 v 2) 14 v w) 20 v = 0 := by unfold w_X7_cut; simp [su2]
  have hq := qf_sendUp (a := su2 (su2 (w_X7_cut a v) 0 v 2) 14 v w) (f := v) (kd := 1) (vl := a 1 v) (by rw [e20]; decide)
  rw [e20] at hq
  have q0 : qf (su2 (su2 (w_X7_cut a v) 0 v 2) 14 v w) = qf a := by
    unfold w_X7_cut
    rw [qf_no (by decide), qf_no (by decide), qf_no (by decide), qf_no (by decide), qf_no (by decide), qf_no (by decide), qf_no (by decide), qf_no (by decide), qf_no (by decide), qf_no (by decide)]
  have l0 : lgf (su2 (su2 (w_X7_cut a v) 0 v 2) 14 v w) = lgf a := by
    unfold w_X7_cut
    rw [lgf_no (by decide), lgf_no (by decide), lgf_no (by decide), lgf_no (by decide), lgf_no (by decide), lgf_no (by decide), lgf_no (by decide), lgf_no (by decide), lgf_no (by decide), lgf_no (by decide)]
  have s0 : sc (w_X7_sendUp (su2 (su2 (w_X7_cut a v) 0 v 2) 14 v w) v 1 (a 1 v)) = u2 (u2 (u2 (u2 (u2 (u2 (u2 (u2 (u2 (u2 (u2 (sc a) 0 v 1) 15 v 0) 16 v 0) 17 v 0) 20 v 0) 21 v 0) 24 v 0) 25 v 0) 0 v 2) 14 v w) 20 v 1 := by
    rw [sc_sendUp, e20]; unfold w_X7_cut
    rw [sc_su rfl, sc_su rfl, sc_su rfl, sc_su rfl, sc_su rfl, sc_su rfl, sc_su rfl, sc_su rfl, sc_su rfl, sc_su rfl]
  refine ⟨top, own, vt, sett, H, HL, I, cl, cm, ce, n, ?_⟩
  rw [lgf_sendUp, l0, s0]
  rw [q0] at hq
  refine pt_follow h v w hv hw hr hrw ?_ (fun x hx k => ?_) (fun x k h0 h1 => ?_) (fun k x j hx => hq.1 k x j (Or.inl hx)) hq.2.1
  · refine ⟨?_, ?_, ?_, ?_, ?_, ?_, ?_, ?_, ?_⟩ <;> simp [u2]
  · rw [u2n (Or.inr hx), u2n (Or.inr hx), u2n (Or.inr hx), u2n (Or.inr hx), u2n (Or.inr hx), u2n (Or.inr hx), u2n (Or.inr hx), u2n (Or.inr hx), u2n (Or.inr hx), u2n (Or.inr hx), u2n (Or.inr hx)]
  · rw [u2n (by omega), u2n (by omega), u2n (by omega), u2n (by omega), u2n (by omega), u2n (by omega), u2n (by omega), u2n (by omega), u2n (by omega), u2n (by omega), u2n (by omega)]
theorem cut1 {v : Nat} : w_X7_cut a v 1 v = a 1 v := by unfold w_X7_cut; simp [su2]
theorem i_follow (h : Inv T c a) {v w : Nat} (hk : v < 4294967296) (hk2 : w < 4294967296) : r_X6_follow c v w = r_X7_follow a v w ∧ Inv (T + 1) (w_X6_follow c v w) (w_X7_follow a v w) := by
  have hr := hasRole_iff h (v := v) (ro := 1) hk (by decide)
  have hl := leads_iff h (v := w) hk2
  have h' := inv_mono h (Nat.le_succ T)
  unfold r_X6_follow r_X7_follow w_X6_follow w_X7_follow
  by_cases e : v < 3
  · have b := j_B h.2.2.1 e
    rw [if_pos (out_no e), if_pos (out_no e)]
    by_cases ew : w < 3
    · have bw := j_B h.2.2.1 ew
      rw [if_pos (out_no ew), if_pos (out_no ew)]
      by_cases e1 : a 0 v = 1
      · have n1 : ¬ Int32.ofNat (r_X6_hasRole c v 1) = 0 := fun q => (hr.mp q) ⟨e, e1⟩
        have n2 : Int32.ofNat (a 0 v) = Int32.ofNat 1 := by rw [e1]
        simp only [if_neg n1, if_pos n2]
        by_cases e3 : 3 ≤ a 0 w
        · have n3 : ¬ Int32.ofNat (r_X6_leads c w) = 0 := fun q => (hl.mp q) ⟨ew, e3⟩
          have n4 : Int32.ofNat 3 ≤ Int32.ofNat (a 0 w) := (ofN_le (by decide) (by omega)).mpr e3
          simp only [if_neg n3, if_pos n4]
          refine ⟨trivial, ?_⟩
          rw [cut1]
          obtain ⟨h1, h2, h3, h4, h5, h6⟩ := h'
          have ep : c 1 v 0 = a 1 v := (h2 v e).1.2.1
          have er : su2 (su2 (w_X7_cut a v) 0 v 2) 14 v w 0 v = 2 := by simp [su2]
          have e20 : ∀ s, s < 3 → su2 (su2 (w_X7_cut a v) 0 v 2) 14 v w 20 s ≤ 60 := fun s hs => by
            by_cases es : s = v
            · subst es; unfold w_X7_cut; simp [su2]
            · have : su2 (su2 (w_X7_cut a v) 0 v 2) 14 v w 20 s = a 20 s := by unfold w_X7_cut; simp [su2, es]
              rw [this]; exact (i_RQ h s hs).2.2.2.1
          have e20v : su2 (su2 (w_X7_cut a v) 0 v 2) 14 v w 20 v = 0 := by unfold w_X7_cut; simp [su2]
          have sm := p_sendU (kd := 1) (vl := a 1 v) (p_follow (w := w) h2 e (by omega)) e er (by rw [e20v]; decide) (fun s hs => by have := e20 s hs; omega)
          rw [ep]
          refine ⟨cb_X2_send_u (cb_su (cb_su h1 (bnd_no (by decide))) (by unfold bnd; omega)), sm, j_follow h3 e ew (by omega) e3, fun s hs => ?_, fun s hs => ?_, fun s hs => ?_⟩
          · exact tr_frame (h4 s hs) (fun k hk => by
              unfold TK at hk
              unfold w_X2_send_u
              split
              · rw [su3_ne (by omega), su3_ne (by omega)]
              · rw [su3_ne (by omega), su3_ne (by omega), su3_ne (by omega), su3_ne (by omega), su3_ne (by omega)])
          · exact h5 s hs
          · have d := h6 s hs
            by_cases es : s = v
            · subst es
              have z0 : w_X7_sendUp (su2 (su2 (w_X7_cut a s) 0 s 2) 14 s w) s 1 (a 1 s) 0 s = 2 := by unfold w_X7_sendUp; simp [su2]
              have z1 : w_X7_sendUp (su2 (su2 (w_X7_cut a s) 0 s 2) 14 s w) s 1 (a 1 s) 1 s = a 1 s := by unfold w_X7_sendUp w_X7_cut; simp [su2]
              have z11 : w_X7_sendUp (su2 (su2 (w_X7_cut a s) 0 s 2) 14 s w) s 1 (a 1 s) 11 s = a 11 s := by unfold w_X7_sendUp w_X7_cut; simp [su2]
              have z15 : w_X7_sendUp (su2 (su2 (w_X7_cut a s) 0 s 2) 14 s w) s 1 (a 1 s) 15 s = 0 := by unfold w_X7_sendUp w_X7_cut; simp [su2]
              have z16 : w_X7_sendUp (su2 (su2 (w_X7_cut a s) 0 s 2) 14 s w) s 1 (a 1 s) 16 s = 0 := by unfold w_X7_sendUp w_X7_cut; simp [su2]
              have z17 : w_X7_sendUp (su2 (su2 (w_X7_cut a s) 0 s 2) 14 s w) s 1 (a 1 s) 17 s = 0 := by unfold w_X7_sendUp w_X7_cut; simp [su2]
              have z14 : w_X7_sendUp (su2 (su2 (w_X7_cut a s) 0 s 2) 14 s w) s 1 (a 1 s) 14 s = w := by unfold w_X7_sendUp; simp [su2]
              have z19 : w_X7_sendUp (su2 (su2 (w_X7_cut a s) 0 s 2) 14 s w) s 1 (a 1 s) 19 (64 * s) = a 1 s := by unfold w_X7_sendUp; rw [e20v]; simp [su2]
              have z20 : w_X7_sendUp (su2 (su2 (w_X7_cut a s) 0 s 2) 14 s w) s 1 (a 1 s) 20 s = 1 := by unfold w_X7_sendUp; rw [e20v]; simp [su2]
              rw [z0, z1, z11, z15, z16, z17, z14, z19, z20]
              exact ⟨d.1, d.2.1, by decide, by decide, by decide, ew, fun _ => ⟨d.1, fun q => by omega⟩, fun q => absurd rfl q⟩
            · have z : ∀ k, k ≠ 18 → k ≠ 19 → w_X7_sendUp (su2 (su2 (w_X7_cut a v) 0 v 2) 14 v w) v 1 (a 1 v) k s = a k s := by intro k hk1 hk2; unfold w_X7_sendUp w_X7_cut; simp [su2, es, hk1, hk2]
              have z19 : w_X7_sendUp (su2 (su2 (w_X7_cut a v) 0 v 2) 14 v w) v 1 (a 1 v) 19 (64 * s) = a 19 (64 * s) := by
                have : 64 * s ≠ 64 * v := by omega
                unfold w_X7_sendUp; rw [e20v]; unfold w_X7_cut; simp [su2, this]
              have z19b : w_X7_sendUp (su2 (su2 (w_X7_cut a v) 0 v 2) 14 v w) v 1 (a 1 v) 19 (64 * s + 1) = a 19 (64 * s + 1) := by
                have : 64 * s + 1 ≠ 64 * v := by omega
                unfold w_X7_sendUp; rw [e20v]; unfold w_X7_cut; simp [su2, this]
              rw [z 0 (by decide) (by decide), z 1 (by decide) (by decide), z 11 (by decide) (by decide), z 15 (by decide) (by decide), z 16 (by decide) (by decide), z 17 (by decide) (by decide), z 14 (by decide) (by decide), z 20 (by decide) (by decide), z 21 (by decide) (by decide), z 24 (by decide) (by decide), z 25 (by decide) (by decide), z19, z19b]
              exact d
        · have n3 : Int32.ofNat (r_X6_leads c w) = 0 := hl.mpr (fun q => e3 q.2)
          have n4 : ¬ Int32.ofNat 3 ≤ Int32.ofNat (a 0 w) := fun q => e3 ((ofN_le (by decide) (by omega)).mp q)
          simp only [if_pos n3, if_neg n4]; exact ⟨trivial, h'⟩
      · have n1 : Int32.ofNat (r_X6_hasRole c v 1) = 0 := hr.mpr (fun q => e1 q.2)
        have n2 : ¬ Int32.ofNat (a 0 v) = Int32.ofNat 1 := fun q => e1 ((ofN_eq (by omega) (by decide)).mp q)
        simp only [if_pos n1, if_neg n2]; exact ⟨trivial, h'⟩
    · have n3 : Int32.ofNat (r_X6_leads c w) = 0 := hl.mpr (fun q => ew q.1)
      simp only [if_pos n3, if_neg (out_yes (a := a) hk2 ew)]
      by_cases n1 : Int32.ofNat (r_X6_hasRole c v 1) = 0
      · simp only [if_pos n1]; exact ⟨trivial, h'⟩
      · simp only [if_neg n1]; exact ⟨trivial, h'⟩
  · have n1 : Int32.ofNat (r_X6_hasRole c v 1) = 0 := hr.mpr (fun q => e q.1)
    simp only [if_pos n1, if_neg (out_yes (a := a) hk e)]; exact ⟨trivial, h'⟩
end PUB3
