section PUB2
variable {T : Nat} {c : CS} {a : RS}
theorem su3_su3 {k i j u v : Nat} : su3 (su3 c k i j u) k i j v = su3 c k i j v := by
  funext k' i' j'; simp only [su3]; split <;> (try split) <;> (try split) <;> rfl
theorem inv_cut (h : Inv T c a) {f : Nat} (hf : f < 3) (hs : ∀ g, g < 3 → a 0 g = 2 → a 14 g ≠ f) : Inv T (su3 (w_X1_clear c f) 3 f 0 1) (w_X7_cut a f) := by
  obtain ⟨h1, h2, h3, h4, h5, h6⟩ := h
  refine ⟨cb_su (cb_X1_clear h1) (bnd_no (by decide)), p_cut h2, j_cut h3 hs, fun s hs => ?_, h5, fun s hs => ?_⟩
  · exact tr_frame (h4 s hs) (fun k hk => by
      unfold TK at hk
      rw [su3_ne (by omega), clear_eq, su3_ne (by omega), su3_ne (by omega), su3_ne (by omega), su3_ne (by omega), su3_ne (by omega), su3_ne (by omega), su3_ne (by omega)])
  · have d := h6 s hs
    unfold w_X7_cut
    by_cases e : s = f
    · subst e
      have e0 : (su2 (su2 (su2 (su2 (su2 (su2 (su2 (su2 a 0 s 1) 15 s 0) 16 s 0) 17 s 0) 20 s 0) 21 s 0) 24 s 0) 25 s 0) 0 s = 1 := by simp [su2]
      rw [e0]
      refine ⟨d.1, d.2.1, by simp [su2], by simp [su2], by simp [su2], d.2.2.2.2.2.1, fun q => by omega, fun _ => by simp [su2]⟩
    · have k2 : ∀ k, (su2 (su2 (su2 (su2 (su2 (su2 (su2 (su2 a 0 f 1) 15 f 0) 16 f 0) 17 f 0) 20 f 0) 21 f 0) 24 f 0) 25 f 0) k s = a k s := by intro k; simp [su2, e]
      simp only [k2]
      exact d
theorem follows_iff (h : Inv T c a) {k v : Nat} (hk : k < 3) (hv : v < 3) : (Int32.ofNat (r_X6_isFollowerOf c k v) = 0 ↔ ¬ (a 0 k = 2 ∧ a 14 k = v)) ∧ (Int32.ofNat (r_X7_follows a k v) = 0 ↔ ¬ (a 0 k = 2 ∧ a 14 k = v)) := by
  have b := j_B h.2.2.1 hk
  have d := h.2.2.2.2.2 k hk
  have s := h.2.1 k hk
  have e3 : c 3 k 0 = a 0 k := s.1.1
  have ev : c 0 v 0 = v := (h.2.1 v hv).1.2.2.2.2.2
  unfold r_X6_isFollowerOf r_X7_follows
  rw [e3, ev]
  by_cases e : a 0 k = 2
  · have e4 : c 4 k 0 = a 14 k := (s.2.2.2.1 e).1
    have n : Int32.ofNat (a 0 k) = Int32.ofNat 2 := by rw [e]
    rw [if_pos n, if_pos n, e4]
    by_cases e2 : a 14 k = v
    · have n2 : Int32.ofNat (a 14 k) = Int32.ofNat v := by rw [e2]
      rw [if_pos n2]; simp [e, e2]
    · have n2 : ¬ Int32.ofNat (a 14 k) = Int32.ofNat v := fun q => e2 ((ofN_eq (by omega) (by omega)).mp q)
      rw [if_neg n2]; simp [e, e2]
  · have n : ¬ Int32.ofNat (a 0 k) = Int32.ofNat 2 := fun q => e ((ofN_eq (by omega) (by decide)).mp q)
    rw [if_neg n, if_neg n]; simp [e]
theorem stop_lp {c0' : CS} {a0' : RS} {v ro : Nat} (hv : v < 3) : ∀ (d k : Nat) (x : CS) (y : RS), k + d = 3 → Inv T x y → (∀ g, g < k → y 0 g = 2 → y 14 g ≠ v) → Inv T (lpw_X6_stopTo_10 c0' v ro d k x) (lpw_X7_cease_2 a0' v d k y) ∧ (∀ g, g < 3 → (lpw_X7_cease_2 a0' v d k y) 0 g = 2 → (lpw_X7_cease_2 a0' v d k y) 14 g ≠ v) := by
  intro d
  induction d with
  | zero => intro k x y hk hI hg; exact ⟨hI, fun g hg3 => hg g (by omega)⟩
  | succ d ih =>
    intro k x y hk hI hg
    have fi := follows_iff hI (k := k) (v := v) (by omega) hv
    simp only [lpw_X6_stopTo_10, lpw_X7_cease_2]
    by_cases e : y 0 k = 2 ∧ y 14 k = v
    · rw [if_neg (fun q => (fi.1.mp q) e), if_neg (fun q => (fi.2.mp q) e)]
      have nf : ∀ g, g < 3 → y 0 g = 2 → y 14 g ≠ k := fun g hg3 hr q => by
        have := (j_F hI.2.2.1 hg3 hr).2.2
        rw [q, e.1] at this; omega
      refine ih (k + 1) _ _ (by omega) (inv_cut hI (by omega) nf) (fun g hg1 hr => ?_)
      by_cases eg : g = k
      · exfalso
        subst eg
        have : w_X7_cut y g 0 g = 1 := by unfold w_X7_cut; simp [su2]
        omega
      · have e0 : w_X7_cut y k 0 g = y 0 g := by unfold w_X7_cut; simp [su2, eg]
        have e14 : w_X7_cut y k 14 g = y 14 g := by unfold w_X7_cut; simp [su2]
        rw [e14]; rw [e0] at hr
        exact hg g (by omega) hr
    · rw [if_pos (fi.1.mpr e), if_pos (fi.2.mpr e)]
      exact ih (k + 1) x y (by omega) hI (fun g hg1 hr => by
        by_cases eg : g = k
        · subst eg; exact fun q => e ⟨hr, q⟩
        · exact hg g (by omega) hr)
theorem inv_stop (h : Inv T c a) {v : Nat} (hv : v < 3) : Inv T (w_X6_stopTo c v 1) (w_X7_cease a v) := by
  have := stop_lp (T := T) (c0' := c) (a0' := a) (ro := 1) hv 3 0 c a rfl h (fun g hg => by omega)
  unfold w_X6_stopTo w_X7_cease
  exact inv_cut this.1 hv this.2
theorem i_quit (h : Inv T c a) {v : Nat} (hk : v < 4294967296) : r_X6_quit c v = r_X7_quit a v ∧ Inv (T + 1) (w_X6_quit c v) (w_X7_quit a v) := by
  have hr := hasRole_iff h (v := v) (ro := 2) hk (by decide)
  have hl := leads_iff h (v := v) hk
  have h' := inv_mono h (Nat.le_succ T)
  unfold r_X6_quit r_X7_quit w_X6_quit w_X7_quit
  by_cases e : v < 3
  · have b := j_B h.2.2.1 e
    have st := inv_stop h' e
    rw [if_pos (out_no e), if_pos (out_no e)]
    by_cases e2 : 2 ≤ a 0 v
    · have n2 : Int32.ofNat 2 ≤ Int32.ofNat (a 0 v) := (ofN_le (by decide) (by omega)).mpr e2
      simp only [if_pos n2]
      by_cases e3 : a 0 v = 2
      · have n1 : ¬ Int32.ofNat (r_X6_hasRole c v 2) = 0 := fun q => (hr.mp q) ⟨e, e3⟩
        simp only [if_neg n1]; exact ⟨trivial, st⟩
      · have n1 : Int32.ofNat (r_X6_hasRole c v 2) = 0 := hr.mpr (fun q => e3 q.2)
        have n3 : ¬ Int32.ofNat (r_X6_leads c v) = 0 := fun q => (hl.mp q) ⟨e, by omega⟩
        simp only [if_pos n1, if_neg n3]; exact ⟨trivial, st⟩
    · have n2 : ¬ Int32.ofNat 2 ≤ Int32.ofNat (a 0 v) := fun q => e2 ((ofN_le (by decide) (by omega)).mp q)
      have n1 : Int32.ofNat (r_X6_hasRole c v 2) = 0 := hr.mpr (fun q => by omega)
      have n3 : Int32.ofNat (r_X6_leads c v) = 0 := hl.mpr (fun q => by omega)
      simp only [if_neg n2, if_pos n1, if_pos n3]; exact ⟨trivial, h'⟩
  · have n1 : Int32.ofNat (r_X6_hasRole c v 2) = 0 := hr.mpr (fun q => e q.1)
    have n3 : Int32.ofNat (r_X6_leads c v) = 0 := hl.mpr (fun q => e q.1)
    simp only [if_pos n1, if_pos n3, if_neg (out_yes (a := a) hk e)]; exact ⟨trivial, h'⟩
theorem p_app0 {f : Nat} (h : Sim c a) : Sim (su3 c 5 f 0 0) (su2 a 3 f 0) := by
  intro s hs
  obtain ⟨g1, g2, g3, g4, g5, g6, g7, g8⟩ := h s hs
  refine ⟨?_, g2, g3, g4, g5, g6, g7, g8⟩
  unfold sA at *; grind [= su3a, = su2a']
theorem inv_role (h : Inv T c a) {v r : Nat} (hv : v < 3) (hr : a 0 v ≤ 1) (hr1 : r ≤ 1) : Inv T (su3 c 3 v 0 r) (su2 a 0 v r) := by
  have hJ := h.2.2.1
  obtain ⟨h1, h2, h3, h4, h5, h6⟩ := h
  refine ⟨cb_su h1 (bnd_no (by decide)), p_role h2 hv (by omega) hr1, j_role h3 hr1 (fun g hg hr2 q => ?_), fun s hs => ?_, h5, fun s hs => ?_⟩
  · have := (j_F hJ hg hr2).2.2
    rw [q] at this; omega
  · exact tr_frame (h4 s hs) (fun k hk => by unfold TK at hk; rw [su3_ne (by omega)])
  · have d := h6 s hs
    have e0 : su2 a 0 v r 0 s = if s = v then r else a 0 s := rfl
    refine ⟨d.1, d.2.1, d.2.2.1, d.2.2.2.1, d.2.2.2.2.1, d.2.2.2.2.2.1, ?_, ?_⟩
    · rw [e0]
      by_cases es : s = v
      · rw [if_pos es]; intro q; omega
      · rw [if_neg es]; exact d.2.2.2.2.2.2.1
    · rw [e0]
      by_cases es : s = v
      · subst es; intro _; exact d.2.2.2.2.2.2.2 (by omega)
      · rw [if_neg es]; exact d.2.2.2.2.2.2.2
theorem i_restart (h : Inv T c a) {v : Nat} (hk : v < 4294967296) : r_X6_restart c v = r_X7_restart a v ∧ Inv (T + 1) (w_X6_restart c v) (w_X7_restart a v) := by
  have hr := hasRole_iff h (v := v) (ro := 0) hk (by decide)
  have h' := inv_mono h (Nat.le_succ T)
  unfold r_X6_restart r_X7_restart w_X6_restart w_X7_restart
  by_cases e : v < 3
  · have b := j_B h.2.2.1 e
    rw [if_pos (out_no e), if_pos (out_no e)]
    by_cases e1 : a 0 v = 0
    · have n1 : ¬ Int32.ofNat (r_X6_hasRole c v 0) = 0 := fun q => (hr.mp q) ⟨e, e1⟩
      have n2 : Int32.ofNat (a 0 v) = 0 := by rw [e1]; rfl
      simp only [if_neg n1, if_pos n2]
      exact ⟨trivial, inv_role h' e (by omega) (Nat.le_refl _)⟩
    · have n1 : Int32.ofNat (r_X6_hasRole c v 0) = 0 := hr.mpr (fun q => e1 q.2)
      have n2 : ¬ Int32.ofNat (a 0 v) = 0 := fun q => e1 ((eq0_code (by omega)).mp q)
      simp only [if_pos n1, if_neg n2]; exact ⟨trivial, h'⟩
  · have n1 : Int32.ofNat (r_X6_hasRole c v 0) = 0 := hr.mpr (fun q => e q.1)
    simp only [if_pos n1, if_neg (out_yes (a := a) hk e)]; exact ⟨trivial, h'⟩
theorem i_crash (h : Inv T c a) {v : Nat} (hk : v < 4294967296) : r_X6_crash c v = r_X7_crash a v ∧ Inv (T + 1) (w_X6_crash c v) (w_X7_crash a v) := by
  have h' := inv_mono h (Nat.le_succ T)
  unfold r_X6_crash r_X7_crash w_X6_crash w_X7_crash
  by_cases e : v < 3
  · have b := j_B h.2.2.1 e
    have er : c 3 v 0 = a 0 v := (h.2.1 v e).1.1
    rw [if_pos (out_no e), if_pos (out_no e), if_neg (isv_yes e), if_neg (isv_yes e), er]
    by_cases e1 : a 0 v = 0
    · have n2 : Int32.ofNat (a 0 v) = 0 := by rw [e1]; rfl
      simp only [if_pos n2]; exact ⟨trivial, h'⟩
    · have n2 : ¬ Int32.ofNat (a 0 v) = 0 := fun q => e1 ((eq0_code (by omega)).mp q)
      simp only [if_neg n2]
      refine ⟨trivial, ?_⟩
      have st := stop_lp (T := T + 1) (c0' := c) (a0' := a) (ro := 0) e 3 0 c a rfl h' (fun g hg => by omega)
      have ic := inv_cut st.1 e st.2
      have e1' : (w_X7_cut (lpw_X7_cease_2 a v 3 0 a) v) 0 v = 1 := by unfold w_X7_cut; simp [su2]
      have ir := inv_role (r := 0) ic e (by omega) (by decide)
      rw [su3_su3] at ir
      have es : w_X6_stopTo c v 0 = su3 (w_X1_clear (lpw_X6_stopTo_10 c v 0 3 0 c) v) 3 v 0 0 := rfl
      have ea : w_X7_cease a v = w_X7_cut (lpw_X7_cease_2 a v 3 0 a) v := rfl
      rw [← es, ← ea] at ir
      rw [← ea] at e1'
      have r0 : su2 (w_X7_cease a v) 0 v 0 0 v = 0 := su2_same
      obtain ⟨h1, h2, h3, h4, h5, h6⟩ := ir
      unfold w_X3_forgetApplied
      refine ⟨cb_X5_clear (cb_su h1 (by unfold bnd; omega)), p_app0 h2, j_app0 h3 (by omega), fun s hs => ?_, h5, h6⟩
      by_cases esv : s = v
      · subst esv
        refine TR_zero ?_ ?_ ?_ <;> (unfold w_X5_clear; simp [su3])
      · exact tr_frame (h4 s hs) (fun k hk => by unfold w_X5_clear; rw [su3_ne (by omega), su3_ne (by omega), su3_ne (by omega)])
  · simp only [if_pos (isv_no (c := c) hk e), if_neg (out_yes (a := a) hk e)]; exact ⟨trivial, h'⟩
end PUB2
