section PUB1
variable {T : Nat} {c : CS} {a : RS}
-- servers and roles
theorem srv_corr {v : Nat} (hk : v < 4294967296) : (Int32.ofNat (r_X6_isServer c v) = 0 ↔ ¬ Int32.ofNat (r_X7_out a v) = 0) ∧ (Int32.ofNat (r_X7_out a v) = 0 ↔ v < 3) := by
  have h1 : Int32.ofNat (r_X7_out a v) = 0 ↔ v < 3 := by
    refine ⟨fun h => out0 h hk, fun h => ?_⟩
    unfold r_X7_out
    rw [if_neg (lt0_code (by omega)), if_pos ((ofN_le (by omega) (by decide)).mpr (by omega))]; rfl
  have h2 : Int32.ofNat (r_X6_isServer c v) = 0 ↔ ¬ v < 3 := by
    refine ⟨fun h hv => ?_, fun h => ?_⟩
    · unfold r_X6_isServer at h
      rw [if_neg (lt0_code (by omega)), if_neg (by rw [ofN_le (by decide) (by omega)]; omega)] at h
      exact absurd h (by decide)
    · unfold r_X6_isServer
      by_cases e : Int32.ofNat v < 0
      · rw [if_pos e]; rfl
      · have := code_ge (n := 0) e hk (by decide)
        rw [if_neg e, if_pos ((ofN_le (by decide) this.2).mpr (by omega))]; rfl
  exact ⟨by rw [h1, h2], h1⟩
theorem out_yes {v : Nat} (hk : v < 4294967296) (h : ¬ v < 3) : ¬ Int32.ofNat (r_X7_out a v) = 0 := fun q => h ((srv_corr (c := c0) hk).2.mp q)
theorem out_no {v : Nat} (h : v < 3) : Int32.ofNat (r_X7_out a v) = 0 := (srv_corr (c := c0) (by omega)).2.mpr h
theorem isv_yes {v : Nat} (h : v < 3) : ¬ Int32.ofNat (r_X6_isServer c v) = 0 := fun q => (srv_corr (a := a0) (by omega)).1.mp q (out_no h)
theorem isv_no {v : Nat} (hk : v < 4294967296) (h : ¬ v < 3) : Int32.ofNat (r_X6_isServer c v) = 0 := (srv_corr (a := a0) hk).1.mpr (out_yes hk h)
theorem hasRole_iff (h : Inv T c a) {v ro : Nat} (hk : v < 4294967296) (hro : ro < 5) : Int32.ofNat (r_X6_hasRole c v ro) = 0 ↔ ¬ (v < 3 ∧ a 0 v = ro) := by
  unfold r_X6_hasRole
  by_cases e : v < 3
  · rw [if_neg (isv_yes e)]
    have er : c 3 v 0 = a 0 v := (h.2.1 v e).1.1
    have b := j_B h.2.2.1 e
    rw [er]
    by_cases e2 : a 0 v = ro
    · rw [if_pos (by rw [e2])]; simp [e, e2]
    · rw [if_neg (fun q => e2 ((ofN_eq (by omega) (by omega)).mp q))]; simp [e, e2]
  · rw [if_pos (isv_no hk e)]; simp [e]
theorem leads_iff (h : Inv T c a) {v : Nat} (hk : v < 4294967296) : Int32.ofNat (r_X6_leads c v) = 0 ↔ ¬ (v < 3 ∧ 3 ≤ a 0 v) := by
  unfold r_X6_leads
  have h3 := hasRole_iff h (v := v) (ro := 3) hk (by decide)
  have h4 := hasRole_iff h (v := v) (ro := 4) hk (by decide)
  by_cases e : v < 3
  · have b := j_B h.2.2.1 e
    by_cases e3 : a 0 v = 3
    · rw [if_neg (fun q => (h3.mp q) ⟨e, e3⟩)]; simp [e, e3]
    · rw [if_pos (h3.mpr (fun q => e3 q.2))]
      by_cases e4 : a 0 v = 4
      · rw [if_neg (fun q => (h4.mp q) ⟨e, e4⟩)]; simp [e, e4]
      · rw [if_pos (h4.mpr (fun q => e4 q.2))]; simp [e]; omega
  · rw [if_pos (h3.mpr (fun q => e q.1)), if_pos (h4.mpr (fun q => e q.1))]; simp [e]
-- readers
theorem i_role (h : Inv T c a) {v : Nat} (hk : v < 4294967296) : r_X6_role c v = r_X7_role a v := by
  unfold r_X6_role r_X7_role
  by_cases e : v < 3
  · rw [if_neg (isv_yes e), if_pos (out_no e)]; exact (h.2.1 v e).1.1
  · rw [if_pos (isv_no hk e), if_neg (out_yes hk e)]
theorem i_promise (h : Inv T c a) {v : Nat} (hk : v < 4294967296) : r_X6_promise c v = r_X7_promise a v := by
  unfold r_X6_promise r_X7_promise
  by_cases e : v < 3
  · rw [if_neg (isv_yes e), if_pos (out_no e)]; exact (h.2.1 v e).1.2.1
  · rw [if_pos (isv_no hk e), if_neg (out_yes hk e)]
theorem i_epoch (h : Inv T c a) {v : Nat} (hk : v < 4294967296) : r_X6_epoch c v = r_X7_epoch a v := by
  unfold r_X6_epoch r_X7_epoch
  by_cases e : v < 3
  · rw [if_neg (isv_yes e), if_pos (out_no e)]; exact (h.2.1 v e).1.2.2.1
  · rw [if_pos (isv_no hk e), if_neg (out_yes hk e)]
theorem i_length (h : Inv T c a) {v : Nat} (hk : v < 4294967296) : r_X6_length c v = r_X7_length a v := by
  unfold r_X6_length r_X7_length
  by_cases e : v < 3
  · rw [if_neg (isv_yes e), if_pos (out_no e)]; exact (h.2.1 v e).1.2.2.2.2.1
  · rw [if_pos (isv_no hk e), if_neg (out_yes hk e)]
theorem i_applied (h : Inv T c a) {v : Nat} (hk : v < 4294967296) : r_X6_applied c v = r_X7_applied a v := by
  unfold r_X6_applied r_X7_applied
  by_cases e : v < 3
  · rw [if_neg (isv_yes e), if_pos (out_no e)]; exact (h.2.1 v e).1.2.2.2.1
  · rw [if_pos (isv_no hk e), if_neg (out_yes hk e)]
-- a server leads
theorem inv_mono {T' : Nat} (h : Inv T c a) (ht : T ≤ T') : Inv T' c a := by
  obtain ⟨h1, h2, h3, h4, h5, h6⟩ := h
  refine ⟨h1, h2, h3, h4, h5, fun s hs => ?_⟩
  have d := h6 s hs
  exact ⟨by have := d.1; omega, d.2.1, d.2.2.1, d.2.2.2.1, d.2.2.2.2.1, d.2.2.2.2.2.1, fun q => by have := d.2.2.2.2.2.2.1 q; exact ⟨by omega, this.2⟩, d.2.2.2.2.2.2.2⟩
theorem cb_X6_lead {v : Nat} (h : CB c) : CB (w_X6_lead c v) := by
  unfold w_X6_lead
  exact cb_if (fun _ => h) (fun _ => cb_X4_begin (cb_su h (bnd_no (by decide))))
theorem tr_frame {c' : CS} {s : Nat} (h : TR c s) (hk : ∀ k, TK k ∨ k = 5 ∨ k = 25 ∨ k = 21 ∨ k = 22 ∨ k = 23 ∨ k = 24 → c' k s = c k s) : TR c' s :=
  TR_congr (by rw [hk 5 (by omega)]) (fun k hk' => hk k (Or.inl hk')) (fun j _ => by rw [hk 25 (by omega)]) (fun j _ => by unfold ec; rw [hk 21 (by omega), hk 22 (by omega), hk 23 (by omega), hk 24 (by omega)]) h
theorem i_lead (h : Inv T c a) {v : Nat} (hk : v < 4294967296) : r_X6_lead c v = r_X7_lead a v ∧ Inv (T + 1) (w_X6_lead c v) (w_X7_lead a v) := by
  have cb := cb_X6_lead (v := v) h.1
  have hr := hasRole_iff h (v := v) (ro := 1) hk (by decide)
  have h' := inv_mono h (Nat.le_succ T)
  unfold r_X6_lead r_X7_lead
  revert cb
  unfold w_X6_lead w_X7_lead
  by_cases e : v < 3
  · have b := j_B h.2.2.1 e
    rw [if_pos (out_no e), if_pos (out_no e)]
    by_cases e1 : a 0 v = 1
    · have n1 : ¬ Int32.ofNat (r_X6_hasRole c v 1) = 0 := fun q => (hr.mp q) ⟨e, e1⟩
      have n2 : Int32.ofNat (a 0 v) = Int32.ofNat 1 := by rw [e1]
      simp only [if_neg n1, if_pos n2]
      intro cb
      obtain ⟨h1, h2, h3, h4, h5, h6⟩ := h'
      refine ⟨trivial, cb, p_lead h2 e (by omega), j_lead h3 e (by omega), fun s hs => ?_, h5, fun s hs => ?_⟩
      · exact tr_frame (h4 s hs) (fun k hk => by unfold TK at hk; unfold w_X4_begin; rw [su3_ne (by omega), su3_ne (by omega), su3_ne (by omega), su3_ne (by omega)])
      · have d := h6 s hs
        have e0 : (su2 (su2 (su2 (su2 a 0 v 3) 10 v 0) 11 v 0) 12 v 0) 0 s = if s = v then 3 else a 0 s := rfl
        have e11 : (su2 (su2 (su2 (su2 a 0 v 3) 10 v 0) 11 v 0) 12 v 0) 11 s = if s = v then 0 else a 11 s := rfl
        rw [e0, e11]
        refine ⟨d.1, ?_, d.2.2.1, d.2.2.2.1, d.2.2.2.2.1, d.2.2.2.2.2.1, ?_, ?_⟩
        · split <;> first | omega | exact d.2.1
        · by_cases es : s = v
          · rw [if_pos es]; intro q; omega
          · rw [if_neg es]; exact d.2.2.2.2.2.2.1
        · by_cases es : s = v
          · subst es; intro _; exact d.2.2.2.2.2.2.2 (by omega)
          · rw [if_neg es]; exact d.2.2.2.2.2.2.2
    · have n1 : Int32.ofNat (r_X6_hasRole c v 1) = 0 := hr.mpr (fun q => e1 q.2)
      have n2 : ¬ Int32.ofNat (a 0 v) = Int32.ofNat 1 := fun q => e1 ((ofN_eq (by omega) (by decide)).mp q)
      simp only [if_pos n1, if_neg n2]
      intro _; exact ⟨trivial, h'⟩
  · have n1 : Int32.ofNat (r_X6_hasRole c v 1) = 0 := hr.mpr (fun q => e q.1)
    simp only [if_pos n1, if_neg (out_yes (a := a) hk e)]
    intro _; exact ⟨trivial, h'⟩
end PUB1
