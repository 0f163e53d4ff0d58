section UPJ
variable {T : Nat} {c : CS} {a : RS}
theorem sub_code {e f : Nat} (h : f ≤ e) : Int32.ofNat e - Int32.ofNat f = Int32.ofNat (e - f) := by
  conv => lhs; rw [show e = (e - f) + f by omega, ← ofN_add]
  simp
theorem count0 {e f : Nat} (h : f ≤ e) (he : e < 2147483648) : Int32.ofNat (nc (Int32.ofNat e - Int32.ofNat f)) = 0 ↔ e = f := by
  rw [ofN_nc, sub_code h, eq0_code (by omega)]; omega
theorem j_kinds (h : JR a) {v : Nat} (hv : v < 3) (hr : a 0 v = 2) (hu : a 21 v < a 20 v) : (a 21 v = 0 → a 18 (64 * v + a 21 v) = 1) ∧ (a 21 v = 1 → a 18 (64 * v + a 21 v) = 2) ∧ (2 ≤ a 21 v → a 18 (64 * v + a 21 v) = 3 ∧ a 19 (64 * v + a 21 v) ≤ a 4 v ∧ 3 ≤ a 20 v) := by
  have rw_ := j_rows h hv hr
  obtain ⟨top, own, vt, sett, H, HL, I, cl, cm, ce, n, h⟩ := h
  have g1 := h.2.2.2.2.2.2.2.2.2.1 v hv hr
  refine ⟨fun e => ?_, fun e => ?_, fun e => ?_⟩
  · have := g1.2.2.2.2.2.2.2.2.2.2.2.2.2.1
    rw [qf_at (by omega) (by decide)] at this
    rw [e]; exact this
  · have := g1.2.2.2.2.2.2.2.2.2.2.2.2.2.2 (show 2 ≤ a 20 v by omega)
    rw [qf_at (by omega) (by decide)] at this
    rw [e]; exact this
  · have x25 : 2 ≤ a 25 v := by
      have : a 25 v ≤ 1 → a 20 v ≤ 2 := g1.2.2.2.2.2.2.2.2.2.2.1
      omega
    have := (h.2.2.2.2.2.2.2.2.2.2.2.1 v hv hr x25).2.2.2.2 (a 21 v) e hu
    rw [qf_at (by omega) (by omega), qf_at (by omega) (by omega)] at this
    exact ⟨this.1, this.2, by omega⟩
-- what the class sees of the row
theorem up_row (h : Inv T c a) {v : Nat} (hv : v < 3) (hr : a 0 v = 2) : (Int32.ofNat (r_X2_count_u c v) = 0 ↔ a 20 v = a 21 v) ∧ (a 21 v < a 20 v → r_X2_firstKind_u c v = a 18 (64 * v + a 21 v) ∧ r_X2_firstValue_u c v = a 19 (64 * v + a 21 v)) ∧ c 4 v 0 = a 14 v := by
  have s := h.2.1 v hv
  have d := s.2.2.2.1 hr
  have rw_ := j_rows h.2.2.1 hv hr
  have e13 := d.2.2.2.2.1
  have e12 := d.2.2.2.2.2.1
  refine ⟨?_, fun hu => ?_, d.1⟩
  · unfold r_X2_count_u; rw [e13, e12]; exact count0 rw_.1 (by omega)
  · have := s.2.2.2.2.1 hr (a 21 v) hu
    have n : ¬ Int32.ofNat (a 20 v) ≤ Int32.ofNat (a 21 v) := by rw [ofN_le (by omega) (by omega)]; omega
    unfold r_X2_firstKind_u r_X2_firstValue_u
    rw [e13, e12, if_neg n, if_neg n]; exact this
theorem fr_sendd {x : CS} {f kd vl k i : Nat} (h : k ≠ 15 ∧ k ≠ 32 ∧ k ≠ 33) : w_X2_send_d x f kd vl k i = x k i := by
  unfold w_X2_send_d; split
  · rfl
  · rw [su3_ne (by omega), su3_ne (by omega), su3_ne (by omega)]
theorem fr_sendu {x : CS} {f kd vl k i : Nat} (h : k ≠ 13 ∧ k ≠ 30 ∧ k ≠ 31) : w_X2_send_u x f kd vl k i = x k i := by
  unfold w_X2_send_u; split
  · rfl
  · rw [su3_ne (by omega), su3_ne (by omega), su3_ne (by omega)]
theorem fr_dropu {x : CS} {f k i : Nat} (h : k ≠ 12) : w_X2_dropFirst_u x f k i = x k i := by
  unfold w_X2_dropFirst_u; split
  · rfl
  · rw [su3_ne (by omega)]
theorem fr_dropd {x : CS} {f k i : Nat} (h : k ≠ 14) : w_X2_dropFirst_d x f k i = x k i := by
  unfold w_X2_dropFirst_d; split
  · rfl
  · rw [su3_ne (by omega)]
-- bounds by keys
theorem bd_of {a' : RS} {T' : Nat} (h : BD a T) (h1 : ∀ s, s < 3 → a' 1 s ≤ T') (h11 : ∀ s, s < 3 → a' 11 s ≤ 1) (h15 : ∀ s, s < 3 → a' 15 s ≤ 1) (h16 : ∀ s, s < 3 → a' 16 s ≤ 1) (h17 : ∀ s, s < 3 → a' 17 s ≤ 1) (h14 : a' 14 = a 14) (h0 : ∀ s, s < 3 → (a' 0 s = 2 ↔ a 0 s = 2)) (h19 : ∀ s, s < 3 → a 0 s = 2 → a' 19 (64 * s) ≤ T' ∧ (2 ≤ a' 20 s → a' 19 (64 * s + 1) ≤ 1)) (hz : ∀ s, s < 3 → a 0 s ≠ 2 → a' 20 s = a 20 s ∧ a' 21 s = a 21 s ∧ a' 24 s = a 24 s ∧ a' 25 s = a 25 s) : BD a' T' := by
  intro s hs
  have d := h s hs
  refine ⟨h1 s hs, h11 s hs, h15 s hs, h16 s hs, h17 s hs, by rw [h14]; exact d.2.2.2.2.2.1, fun q => h19 s hs ((h0 s hs).mp q), fun q => ?_⟩
  have q' : a 0 s ≠ 2 := fun e => q ((h0 s hs).mpr e)
  have z := hz s hs q'
  rw [z.1, z.2.1, z.2.2.1, z.2.2.2]
  exact d.2.2.2.2.2.2.2 q'
theorem i_up_join (h : Inv T c a) {v : Nat} (hv : v < 3) (hr : a 0 v = 2) (hu : a 21 v = 0) (hT : T < 1000000) (M : Nat) (hM : a 10 (a 14 v) = 0 → M = max (a 19 (64 * v)) (a 1 (a 14 v)) + 1) :
    (a 10 (a 14 v) = 0 → Inv (T + 1) (w_X2_send_d (su3 (su3 (w_X2_dropFirst_u c v) 16 (a 14 v) 0 1) 1 (a 14 v) 0 M) v 4 M) (w_X7_sendDown (su2 (su2 (su2 a 21 v 1) 10 (a 14 v) M) 1 (a 14 v) M) v 4 M)) ∧
    (a 10 (a 14 v) ≠ 0 → Inv (T + 1) (w_X2_send_d (w_X2_dropFirst_u c v) v 4 (a 10 (a 14 v))) (w_X7_sendDown (su2 a 21 v 1) v 4 (a 10 (a 14 v)))) := by
  have hJ := h.2.2.1
  have hF := j_F hJ hv hr
  have rws := j_rows hJ hv hr
  have RQa := i_RQ h
  obtain ⟨h1, h2, h3, h4, h5, h6⟩ := h
  have z24 : a 24 v = 0 := by
    obtain ⟨top, own, vt, sett, H, HL, I, cl, cm, ce, n, hh⟩ := hJ
    exact (hh.2.2.2.2.2.2.2.2.2.1 v hv hr).2.2.2.1 hu
  have z20 : 1 ≤ a 20 v := by
    obtain ⟨top, own, vt, sett, H, HL, I, cl, cm, ce, n, hh⟩ := hJ
    exact (hh.2.2.2.2.2.2.2.2.2.1 v hv hr).2.2.1
  have sd := p_dropU h2 hv hr (by omega) (by omega)
  rw [hu] at sd
  have dv := h6 v hv
  have dg := h6 _ hF.1
  have x19 := (dv.2.2.2.2.2.2.1 hr).1
  refine ⟨fun hc => ?_, fun hc => ?_⟩
  · have hM := hM hc
    have sc_ := p_choose (n := M) sd hF.1 (by omega)
    have e0 : su2 (su2 (su2 a 21 v 1) 10 (a 14 v) M) 1 (a 14 v) M 0 v = 2 := hr
    have sm := p_sendD (kd := 4) (vl := M) (vr := M) sc_ hv e0 (by show a 24 v < 51; omega) (fun s hs => by show a 24 s ≤ 64; have := RQa s hs; omega) rfl
    refine ⟨cb_X2_send_d (cb_su (cb_su (cb_X2_dropFirst_u h1) (bnd_no (by decide))) (bnd_no (by decide))), sm, ?_, fun s hs => ?_, h5, ?_⟩
    · have jc := j_choose (p := M) h3 hF.1 hF.2.2 hc (by omega)
      have e14 : su2 (su2 a 10 (a 14 v) M) 1 (a 14 v) M 14 v = a 14 v := rfl
      have e10 : su2 (su2 a 10 (a 14 v) M) 1 (a 14 v) M 10 (a 14 v) = M := by rw [su2_ne (by decide), su2_same]
      have jj := j_join (f := v) jc hv hr hu (by rw [e14, e10]; omega)
      rw [e14, e10] at jj
      have eq : su2 (su2 (su2 a 10 (a 14 v) M) 1 (a 14 v) M) 21 v 1 = su2 (su2 (su2 a 21 v 1) 10 (a 14 v) M) 1 (a 14 v) M := by
        funext k j; simp only [su2]; by_cases e1 : k = 21
        · subst e1; simp
        · simp [e1]
      rw [eq] at jj
      exact jj
    · refine tr_frame (h4 s hs) (fun k hk => ?_)
      unfold TK at hk
      rw [fr_sendd (by omega), su3_ne (by omega), su3_ne (by omega), fr_dropu (by omega)]
    · have fr : ∀ q, q ≠ 22 ∧ q ≠ 23 ∧ q ≠ 24 → w_X7_sendDown (su2 (su2 (su2 a 21 v 1) 10 (a 14 v) M) 1 (a 14 v) M) v 4 M q = su2 (su2 (su2 a 21 v 1) 10 (a 14 v) M) 1 (a 14 v) M q := fun q hq => fr_sendDown hq
      refine bd_of h6 (fun s hs => ?_) (fun s hs => ?_) (fun s hs => ?_) (fun s hs => ?_) (fun s hs => ?_) (fr 14 (by decide)) (fun s hs => by rw [fr 0 (by decide)]; exact Iff.rfl) (fun s hs q => ?_) (fun s hs q => ?_)
      · rw [fr 1 (by decide)]
        by_cases e : s = a 14 v
        · rw [e, su2_same]; have := dg.1; omega
        · have := (h6 s hs).1
          rw [show su2 (su2 (su2 a 21 v 1) 10 (a 14 v) M) 1 (a 14 v) M 1 s = a 1 s by simp [su2, e]]; omega
      · rw [fr 11 (by decide)]; exact (h6 s hs).2.1
      · rw [fr 15 (by decide)]; exact (h6 s hs).2.2.1
      · rw [fr 16 (by decide)]; exact (h6 s hs).2.2.2.1
      · rw [fr 17 (by decide)]; exact (h6 s hs).2.2.2.2.1
      · rw [fr 19 (by decide), fr 20 (by decide)]; have := (h6 s hs).2.2.2.2.2.2.1 q; exact ⟨Nat.le_succ_of_le this.1, this.2⟩
      · have ne : s ≠ v := fun e => q (by rw [e]; exact hr)
        rw [fr 20 (by decide), fr 21 (by decide), fr 25 (by decide), sd24 ne]
        refine ⟨rfl, ?_, rfl, rfl⟩
        show su2 (su2 (su2 a 21 v 1) 10 (a 14 v) M) 1 (a 14 v) M 21 s = a 21 s
        simp [su2, ne]
  · have e0 : su2 a 21 v 1 0 v = 2 := hr
    have sm := p_sendD (kd := 4) (vl := a 10 (a 14 v)) (vr := a 10 (a 14 v)) sd hv e0 (by show a 24 v < 51; omega) (fun s hs => by show a 24 s ≤ 64; have := RQa s hs; omega) rfl
    refine ⟨cb_X2_send_d (cb_X2_dropFirst_u h1), sm, j_join h3 hv hr hu hc, fun s hs => ?_, h5, ?_⟩
    · refine tr_frame (h4 s hs) (fun k hk => ?_)
      unfold TK at hk
      rw [fr_sendd (by omega), fr_dropu (by omega)]
    · have fr : ∀ q, q ≠ 22 ∧ q ≠ 23 ∧ q ≠ 24 → w_X7_sendDown (su2 a 21 v 1) v 4 (a 10 (a 14 v)) q = su2 a 21 v 1 q := fun q hq => fr_sendDown hq
      refine bd_of h6 (fun s hs => ?_) (fun s hs => ?_) (fun s hs => ?_) (fun s hs => ?_) (fun s hs => ?_) (fr 14 (by decide)) (fun s hs => by rw [fr 0 (by decide)]; exact Iff.rfl) (fun s hs q => ?_) (fun s hs q => ?_)
      · rw [fr 1 (by decide)]; have := (h6 s hs).1; exact Nat.le_succ_of_le this
      · rw [fr 11 (by decide)]; exact (h6 s hs).2.1
      · rw [fr 15 (by decide)]; exact (h6 s hs).2.2.1
      · rw [fr 16 (by decide)]; exact (h6 s hs).2.2.2.1
      · rw [fr 17 (by decide)]; exact (h6 s hs).2.2.2.2.1
      · rw [fr 19 (by decide), fr 20 (by decide)]; have := (h6 s hs).2.2.2.2.2.2.1 q; exact ⟨Nat.le_succ_of_le this.1, this.2⟩
      · have ne : s ≠ v := fun e => q (by rw [e]; exact hr)
        rw [fr 20 (by decide), fr 21 (by decide), fr 25 (by decide), sd24 ne]
        refine ⟨rfl, ?_, rfl, rfl⟩
        show su2 a 21 v 1 21 s = a 21 s
        simp [su2, ne]
end UPJ
