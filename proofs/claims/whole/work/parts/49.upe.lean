section UPE
variable {T : Nat} {c : CS} {a : RS}
theorem i_24 (h : Inv T c a) {q : Nat} (hq : q < 3) : a 24 q ≤ 51 := by
  by_cases e : a 0 q = 2
  · exact (j_rows h.2.2.1 hq e).2.2.2
  · have := (h.2.2.2.2.2 q hq).2.2.2.2.2.2.2 e; omega
theorem inv_ackfin (h : Inv T c a) {f g k h0 : Nat} (b : RS) (hf : f < 3) (hr : a 0 f = 2) (hg : a 14 f = g) (hd : 3 ≤ a 20 f) (ht : a 16 f ≠ 0) (hk : k ≤ a 4 f) (hsl : h0 = 0 → a 24 f + a 23 (64 * f + 1) + 1 ≤ 2 + a 4 g + a 3 g + a 17 f) :
    (h0 = 0 → Inv T (w_X2_send_d c f 7 (a 3 g)) (w_X7_sendDown a f 7 (a 3 g))) ∧ (a 3 g < k → Inv T (w_X6_sendOnTiedLinks (w_X3_applyUpTo c g k) g 7 k) (lpw_X7_acknowledged_79 b f g k 3 0 (su2 a 3 g k))) := by
  have hI := h
  have hJ := h.2.2.1
  have hF := j_F hJ hf hr
  rw [hg] at hF
  have bg := j_B hJ hF.1
  have a24 : ∀ q, q < 3 → a 24 q ≤ 51 := fun q hq => i_24 hI hq
  obtain ⟨h1, h2, h3, h4, h5, h6⟩ := h
  refine ⟨fun e0 => ?_, fun hlt => ?_⟩
  · have sl := hsl e0
    have js := j_send1 h3 hf hr ht (by have := a24 f hf; omega) (by rw [hg]; exact sl)
    rw [hg] at js
    have fr : ∀ q, q ≠ 22 ∧ q ≠ 23 ∧ q ≠ 24 → w_X7_sendDown a f 7 (a 3 g) q = a q := fun q hq => fr_sendDown hq
    have b24 : a 24 f + 1 ≤ 51 := by
      have := (j_rows js hf (by rw [fr 0 (by decide)]; exact hr)).2.2.2
      have e : w_X7_sendDown a f 7 (a 3 g) 24 f = a 24 f + 1 := by unfold w_X7_sendDown; simp [su2]
      omega
    refine ⟨cb_X2_send_d h1, p_sendD h2 hf hr (by omega) (fun s hs => by have := a24 s hs; omega) rfl, js, fun s hs => ?_, ?_, ?_⟩
    · refine tr_frame (h4 s hs) (fun q hq => ?_)
      unfold TK at hq
      rw [fr_sendd (by omega)]
    · intro s hs; rw [fr 4 (by decide), fr 6 (by decide), fr 7 (by decide), fr 9 (by decide)]; exact h5 s hs
    · refine bd_of h6 (fun s hs => ?_) (fun s hs => ?_) (fun s hs => ?_) (fun s hs => ?_) (fun s hs => ?_) (fr 14 (by decide)) (fun s hs => by rw [fr 0 (by decide)]) (fun s hs q => ?_) (fun s hs q => ?_)
      · rw [fr 1 (by decide)]; exact (h6 s hs).1
      · rw [fr 11 (by decide)]; exact (h6 s hs).2.1
      · rw [fr 15 (by decide)]; exact (h6 s hs).2.2.1
      · rw [fr 16 (by decide)]; exact (h6 s hs).2.2.2.1
      · rw [fr 17 (by decide)]; exact (h6 s hs).2.2.2.2.1
      · rw [fr 19 (by decide), fr 20 (by decide)]; exact (h6 s hs).2.2.2.2.2.2.1 q
      · have ne : s ≠ f := fun e => q (by rw [e]; exact hr)
        rw [fr 20 (by decide), fr 21 (by decide), fr 25 (by decide), sd24 ne]
        exact ⟨rfl, rfl, rfl, rfl⟩
  · have jc := j_commit (b := b) h3 hf hr hg hd hk hlt (fun q hq => ⟨(h6 q hq).2.2.2.1, (h6 q hq).2.2.2.2.2.1, a24 q hq⟩)
    rw [snd79] at jc ⊢
    have e6 : c 6 g 0 = a 4 g := (h2 g hF.1).1.2.2.2.2.1
    have sm := p_apply h2 hF.1 jc.2 bg.2.2.1
    rw [Nat.max_eq_left (Nat.le_of_lt hlt)] at sm
    obtain ⟨s1, s2, s3⟩ := p_snd (c1 := w_X3_applyUpTo c g k) (kd := 7) (vl := k) (vr := k) hF.1 rfl 3 0 _ _ rfl sm (fun q hq => ⟨(h6 q hq).2.2.2.1, (j_B hJ hq).1, (h6 q hq).2.2.2.2.2.1, by show a 24 q ≤ 64; have := a24 q hq; omega⟩) (fun q _ hq r2 r14 r16 => by
      show a 24 q < 51
      have := j_slack hJ hq r2 r16
      have e14 : a 14 q = g := r14
      rw [e14] at this
      have := (h6 q hq).2.2.2.2.1
      have := bg.2.2.1
      omega)
    have fr : ∀ q, q ≠ 22 ∧ q ≠ 23 ∧ q ≠ 24 → snd g 7 k 3 0 (su2 a 3 g k) q = su2 a 3 g k q := fun q hq => fr_snd hq _ _ _
    refine ⟨cb_X6_sendOnTiedLinks (cb_X3_applyUpTo h1 hF.1 (by have := j_B hJ hf; omega)), s1, jc.1, fun s hs => ?_, ?_, ?_⟩
    · have tA : TR (w_X3_applyUpTo c g k) s := by
        by_cases e : s = g
        · subst e
          refine TR_apply (h4 s hs) (by rw [e6]; exact jc.2) (by rw [e6]; exact bg.2.2.1) (fun j hj => ?_)
          rw [e6] at hj
          rw [i_ec hI hs j hj]
          exact h5 s hs j hj
        · exact tr_frame (h4 s hs) (fun q hq => fr_apply (fun _ => e))
      refine tr_frame tA (fun q hq => ?_)
      unfold TK at hq
      rw [fr_tied (by omega)]
    · intro s hs; rw [fr 4 (by decide), fr 6 (by decide), fr 7 (by decide), fr 9 (by decide)]; exact h5 s hs
    · refine bd_of h6 (fun s hs => ?_) (fun s hs => ?_) (fun s hs => ?_) (fun s hs => ?_) (fun s hs => ?_) (fr 14 (by decide)) (fun s hs => by rw [fr 0 (by decide)]; exact Iff.rfl) (fun s hs q => ?_) (fun s hs q => ?_)
      · rw [fr 1 (by decide)]; exact (h6 s hs).1
      · rw [fr 11 (by decide)]; exact (h6 s hs).2.1
      · rw [fr 15 (by decide)]; exact (h6 s hs).2.2.1
      · rw [fr 16 (by decide)]; exact (h6 s hs).2.2.2.1
      · rw [fr 17 (by decide)]; exact (h6 s hs).2.2.2.2.1
      · rw [fr 19 (by decide), fr 20 (by decide)]; exact (h6 s hs).2.2.2.2.2.2.1 q
      · rw [fr 20 (by decide), fr 21 (by decide), fr 25 (by decide), (s2 s (Or.inr (Or.inr (fun z => q z.1)))).1]
        exact ⟨rfl, rfl, rfl, rfl⟩
theorem i_up_ack (h : Inv T c a) {v : Nat} (hv : v < 3) (hr : a 0 v = 2) (hu : 2 ≤ a 21 v) (hu2 : a 21 v < a 20 v) (k : Nat) (hk : k = a 19 (64 * v + a 21 v)) :
    Inv T (w_X6_readAck (w_X2_dropFirst_u c v) (a 14 v) v k) (w_X7_acknowledged (su2 a 21 v (a 21 v + 1)) v (a 14 v) k) := by
  have hJ := h.2.2.1
  have hF := j_F hJ hv hr
  have kn := (j_kinds hJ hv hr hu2).2.2 hu
  have bv := j_B hJ hv
  have bg := j_B hJ hF.1
  have k4 : k ≤ a 4 v := by rw [hk]; exact kn.2.1
  have x25 : 2 ≤ a 25 v := by
    obtain ⟨top, own, vt, sett, H, HL, I, cl, cm, ce, n, hh⟩ := hJ
    have : a 25 v ≤ 1 → a 20 v ≤ 2 := (hh.2.2.2.2.2.2.2.2.2.1 v hv hr).2.2.2.2.2.2.2.2.2.2.1
    omega
  have x16 : a 16 v ≠ 0 := by
    intro e
    have rws := j_rows hJ hv hr
    obtain ⟨top, own, vt, sett, H, HL, I, cl, cm, ce, n, hh⟩ := hJ
    have : a 16 v = 0 → a 24 v ≤ 1 := (hh.2.2.2.2.2.2.2.2.2.1 v hv hr).2.2.2.2.2.2.2.2.2.1
    have := this e
    omega
  have x11 : a 11 (a 14 v) ≠ 0 := by
    obtain ⟨top, own, vt, sett, H, HL, I, cl, cm, ce, n, hh⟩ := hJ
    exact (hh.2.2.2.2.2.2.2.2.2.2.1 v hv hr x16).2.1
  have sl := j_slack hJ hv hr x16
  have b17 := (h.2.2.2.2.2 v hv).2.2.2.2.1
  have hx := inv_readH h hv hr (by omega) hu2
  have d := (h.2.1 v hv).2.2.2.1 hr
  have c10 : (w_X2_dropFirst_u c v) 10 v 0 = a 17 v := by rw [fr_dropu (by decide)]; exact d.2.2.2.1
  have c3 : (w_X2_dropFirst_u c v) 3 (a 14 v) 0 = a 0 (a 14 v) := by rw [fr_dropu (by decide)]; exact (h.2.1 _ hF.1).1.1
  have c5 : (w_X2_dropFirst_u c v) 5 (a 14 v) 0 = a 3 (a 14 v) := by rw [fr_dropu (by decide)]; exact (h.2.1 _ hF.1).1.2.2.2.1
  have iK : Int32.ofNat k ≤ Int32.ofNat (a 3 (a 14 v)) ↔ k ≤ a 3 (a 14 v) := ofN_le (by omega) (by omega)
  have i17 : Int32.ofNat (a 17 v) = 0 ↔ a 17 v = 0 := eq0_code (by omega)
  have d1 : ¬ Int32.ofNat 1 = 0 := by decide
  have d0 : Int32.ofNat 0 = 0 := rfl
  generalize hD : w_X2_dropFirst_u c v = D at hx c10 c3 c5 ⊢
  unfold w_X6_readAck w_X7_acknowledged
  have z5 : (w_XA_fill (su3 D 3 (a 14 v) 0 4) (a 14 v) 0) 5 (a 14 v) 0 = D 5 (a 14 v) 0 := rfl
  have z10 : (w_XA_fill (su3 D 3 (a 14 v) 0 4) (a 14 v) 0) 10 v 0 = D 10 v 0 := rfl
  have y0 : su2 a 21 v (a 21 v + 1) 0 (a 14 v) = a 0 (a 14 v) := rfl
  have y17 : su2 a 21 v (a 21 v + 1) 17 v = a 17 v := rfl
  have y3 : su2 a 21 v (a 21 v + 1) 3 (a 14 v) = a 3 (a 14 v) := rfl
  have w3 : (lpw_X7_acknowledged_35 (su2 a 21 v (a 21 v + 1)) v (a 14 v) k 5 0 (su2 (su2 (su2 a 21 v (a 21 v + 1)) 17 v 1) 0 (a 14 v) 4)) 3 (a 14 v) = a 3 (a 14 v) := rfl
  rw [z5, z10, y0, y17, y3, w3, c10, c3, c5]
  by_cases e3 : a 0 (a 14 v) = 3
  · have n3 : Int32.ofNat (a 0 (a 14 v)) = Int32.ofNat 3 := by rw [e3]
    rw [if_pos n3, if_pos n3, fill_comm]
    have hy := inv_est (b := su2 a 21 v (a 21 v + 1)) (f := v) (k := k) hx hF.1 e3 x11
    have fin := inv_ackfin (h0 := a 17 v) (k := k) (g := a 14 v) hy (su2 a 21 v (a 21 v + 1)) hv (by
        show (if v = a 14 v then 4 else a 0 v) = 2
        rw [if_neg (Ne.symm hF.2.1)]; exact hr) rfl kn.2.2 x16 k4 (fun q => by
        show a 24 v + a 23 (64 * v + 1) + 1 ≤ 2 + a 4 (a 14 v) + a 3 (a 14 v) + su2 (su2 a 21 v (a 21 v + 1)) 17 v 1 17 v
        rw [su2_same]; omega)
    rw [w3] at fin
    by_cases eK : k ≤ a 3 (a 14 v)
    · simp only [if_pos (iK.mpr eK), if_neg d1, if_pos d0]
      by_cases e17 : a 17 v = 0
      · simp only [if_pos (i17.mpr e17)]
        exact fin.1 e17
      · simp only [if_neg (fun q => e17 (i17.mp q))]
        exact hy
    · simp only [if_neg (fun q => eK (iK.mp q)), ite_self]
      exact fin.2 (by omega)
  · have n3 : ¬ Int32.ofNat (a 0 (a 14 v)) = Int32.ofNat 3 := fun q => e3 ((ofN_eq (by omega) (by decide)).mp q)
    rw [if_neg n3, if_neg n3]
    have fin := inv_ackfin (h0 := a 17 v) (k := k) (g := a 14 v) hx (su2 a 21 v (a 21 v + 1)) hv hr rfl kn.2.2 x16 k4 (fun q => by
        show a 24 v + a 23 (64 * v + 1) + 1 ≤ 2 + a 4 (a 14 v) + a 3 (a 14 v) + su2 (su2 a 21 v (a 21 v + 1)) 17 v 1 17 v
        rw [su2_same]; omega)
    have w4 : su2 (su2 a 21 v (a 21 v + 1)) 17 v 1 3 (a 14 v) = a 3 (a 14 v) := rfl
    rw [w4] at fin
    by_cases eK : k ≤ a 3 (a 14 v)
    · simp only [if_pos (iK.mpr eK), if_neg d1, if_pos d0]
      by_cases e17 : a 17 v = 0
      · simp only [if_pos (i17.mpr e17)]
        exact fin.1 e17
      · simp only [if_neg (fun q => e17 (i17.mp q))]
        exact hx
    · simp only [if_neg (fun q => eK (iK.mp q)), ite_self]
      exact fin.2 (by omega)
theorem i_up_val (h : Inv T c a) {v : Nat} (hv : v < 3) (hr : a 0 v = 2) (hu : a 21 v < a 20 v) (hT : T < 1000000) : a 19 (64 * v + a 21 v) < 1000000 := by
  have kn := j_kinds h.2.2.1 hv hr hu
  have b := j_B h.2.2.1 hv
  have d := (h.2.2.2.2.2 v hv).2.2.2.2.2.2.1 hr
  rcases (by omega : a 21 v = 0 ∨ a 21 v = 1 ∨ 2 ≤ a 21 v) with e | e | e
  · rw [e]; have := d.1; show a 19 (64 * v) < _; omega
  · rw [e]; have := d.2 (by omega); omega
  · have := (kn.2.2 e).2.1; omega
theorem i_up_hval (h : Inv T c a) {v : Nat} (hk : v < 4294967296) (hT : T < 1000000) (hr : ¬ Int32.ofNat (r_X6_hasRole c v 2) = 0) : r_X2_firstValue_u c v < 2147483647 := by
  have e : v < 3 ∧ a 0 v = 2 := Classical.byContradiction (fun q => hr ((hasRole_iff h hk (by decide)).mpr q))
  have rw_ := up_row h e.1 e.2
  have rws := j_rows h.2.2.1 e.1 e.2
  by_cases q : a 21 v < a 20 v
  · rw [(rw_.2.1 q).2]; have := i_up_val h e.1 e.2 q hT; omega
  · have d := (h.2.1 v e.1).2.2.2.1 e.2
    unfold r_X2_firstValue_u
    rw [d.2.2.2.2.1, d.2.2.2.2.2.1, if_pos (by rw [ofN_le (by omega) (by omega)]; omega)]; decide
theorem i_up (h : Inv T c a) {v : Nat} (hk : v < 4294967296) (hT : T < 1000000) : r_X6_up c v = r_X7_up a v ∧ Inv (T + 1) (w_X6_up c v) (w_X7_up a v) := by
  have hr := hasRole_iff h (v := v) (ro := 2) hk (by decide)
  have h' := inv_mono h (Nat.le_succ T)
  unfold r_X6_up r_X7_up w_X6_up w_X7_up
  by_cases e : v < 3
  · have b := j_B h.2.2.1 e
    rw [if_pos (out_no e), if_pos (out_no e)]
    by_cases e2 : a 0 v = 2
    · have n1 : ¬ Int32.ofNat (r_X6_hasRole c v 2) = 0 := fun q => (hr.mp q) ⟨e, e2⟩
      have n2 : Int32.ofNat (a 0 v) = Int32.ofNat 2 := by rw [e2]
      simp only [if_neg n1, if_pos n2]
      have row := up_row h e e2
      have rws := j_rows h.2.2.1 e e2
      by_cases e0 : a 20 v = a 21 v
      · have n3 : Int32.ofNat (a 21 v) = Int32.ofNat (a 20 v) := by rw [e0]
        simp only [if_pos (row.1.mpr e0), if_pos n3]
        exact ⟨trivial, h'⟩
      · have n3 : ¬ Int32.ofNat (a 21 v) = Int32.ofNat (a 20 v) := fun q => e0 ((ofN_eq (by omega) (by omega)).mp q).symm
        have hlt : a 21 v < a 20 v := by omega
        simp only [if_neg (fun q => e0 (row.1.mp q)), if_neg n3]
        rw [(row.2.1 hlt).1, (row.2.1 hlt).2, row.2.2]
        refine ⟨rfl, ?_⟩
        have kn := j_kinds h.2.2.1 e e2 hlt
        have hF := j_F h.2.2.1 e e2
        have vl := i_up_val h e e2 hlt hT
        have tg := (h.2.2.2.2.2 _ hF.1).1
        rcases (by omega : a 21 v = 0 ∨ a 21 v = 1 ∨ 2 ≤ a 21 v) with u | u | u
        · have k1 := kn.1 u
          rw [k1]
          have m1 : Int32.ofNat 1 = Int32.ofNat 1 := rfl
          rw [if_pos m1, if_pos m1]
          rw [u] at vl ⊢
          show Inv (T + 1) (w_X6_readJoin (w_X2_dropFirst_u c v) (a 14 v) v (a 19 (64 * v))) _
          have vl' : a 19 (64 * v) < 1000000 := vl
          have sg := h.2.1 _ hF.1
          have c16 : (w_X2_dropFirst_u c v) 16 (a 14 v) 0 = (if a 10 (a 14 v) = 0 then 0 else 1) := by rw [fr_dropu (by decide)]; exact (sg.2.2.1 hF.2.2).1
          have c1 : (w_X2_dropFirst_u c v) 1 (a 14 v) 0 = a 1 (a 14 v) := by rw [fr_dropu (by decide)]; exact sg.1.2.1
          have i16 : Int32.ofNat ((w_X2_dropFirst_u c v) 16 (a 14 v) 0) = 0 ↔ a 10 (a 14 v) = 0 := by
            rw [c16]
            by_cases z : a 10 (a 14 v) = 0
            · rw [if_pos z]; exact ⟨fun _ => z, fun _ => rfl⟩
            · rw [if_neg z]; exact ⟨fun q => absurd q (by decide), fun q => absurd q z⟩
          have e10 : a 10 (a 14 v) ≠ 0 → a 10 (a 14 v) = a 1 (a 14 v) := fun q => by
            obtain ⟨top, own, vt, sett, H, HL, I, cl, cm, ce, n, hh⟩ := h.2.2.1
            exact ((hh.2.2.1 _ hF.1 hF.2.2).1 q).1
          have i10 : Int32.ofNat (a 10 (a 14 v)) = 0 ↔ a 10 (a 14 v) = 0 := by
            refine ⟨fun q => ?_, fun q => by rw [q]; rfl⟩
            by_cases z : a 10 (a 14 v) = 0
            · exact z
            · exact (eq0_code (by rw [e10 z]; omega)).mp q
          unfold w_X6_readJoin
          rw [c1]
          by_cases z : a 10 (a 14 v) = 0
          · rw [if_pos (i16.mpr z), if_pos (i10.mpr z)]
            by_cases zl : a 19 (64 * v) ≤ a 1 (a 14 v)
            · have y1 : Int32.ofNat (a 19 (64 * v + 0)) ≤ Int32.ofNat (a 1 (a 14 v)) := (ofN_le (by show a 19 (64 * v) < _; omega) (by omega)).mpr zl
              have y2 : (if Int32.ofNat (a 19 (64 * v)) < Int32.ofNat (a 1 (a 14 v)) then a 1 (a 14 v) else a 19 (64 * v)) + 1 = 1 + a 1 (a 14 v) := by
                by_cases zz : a 19 (64 * v) < a 1 (a 14 v)
                · rw [if_pos ((ofN_lt (by omega) (by omega)).mpr zz)]; omega
                · rw [if_neg (fun q => zz ((ofN_lt (by omega) (by omega)).mp q))]; omega
              rw [if_pos y1, y2]
              exact (i_up_join h e e2 u hT (1 + a 1 (a 14 v)) (fun _ => by omega)).1 z
            · have y1 : ¬ Int32.ofNat (a 19 (64 * v + 0)) ≤ Int32.ofNat (a 1 (a 14 v)) := fun q => zl ((ofN_le (by show a 19 (64 * v) < _; omega) (by omega)).mp q)
              have y2 : (if Int32.ofNat (a 19 (64 * v)) < Int32.ofNat (a 1 (a 14 v)) then a 1 (a 14 v) else a 19 (64 * v)) + 1 = 1 + a 19 (64 * v) := by
                rw [if_neg (fun q => by have := (ofN_lt (by omega) (by omega)).mp q; omega)]; omega
              rw [if_neg y1, y2]
              exact (i_up_join h e e2 u hT (1 + a 19 (64 * v)) (fun _ => by omega)).1 z
          · rw [if_neg (fun q => z (i16.mp q)), if_neg (fun q => z (i10.mp q)), ← e10 z]
            exact (i_up_join h e e2 u hT 0 (fun q => absurd q z)).2 z
        · have k1 := kn.2.1 u
          rw [k1]
          have m1 : ¬ Int32.ofNat 2 = Int32.ofNat 1 := by decide
          have m2 : Int32.ofNat 2 = Int32.ofNat 2 := rfl
          rw [if_neg m1, if_neg m1, if_pos m2, if_pos m2]
          have f1 : a 19 (64 * v + 1) ≤ 1 := ((h.2.2.2.2.2 v e).2.2.2.2.2.2.1 e2).2 (by omega)
          have acc := i_up_acc h e e2 u hlt hT (a 19 (64 * v + 1)) rfl
          rw [u]
          rcases (by omega : a 19 (64 * v + 1) = 0 ∨ a 19 (64 * v + 1) = 1) with z | z
          · rw [z] at acc ⊢
            rw [if_pos (by rfl), if_neg (by decide)]
            exact inv_mono acc (Nat.le_succ T)
          · rw [z] at acc ⊢
            rw [if_neg (by decide), if_pos (by rfl)]
            exact inv_mono acc (Nat.le_succ T)
        · have k1 := (kn.2.2 u).1
          rw [k1]
          have m1 : ¬ Int32.ofNat 3 = Int32.ofNat 1 := by decide
          have m2 : ¬ Int32.ofNat 3 = Int32.ofNat 2 := by decide
          rw [if_neg m1, if_neg m1, if_neg m2, if_neg m2]
          exact inv_mono (i_up_ack h e e2 u hlt _ rfl) (Nat.le_succ T)
    · have n1 : Int32.ofNat (r_X6_hasRole c v 2) = 0 := hr.mpr (fun q => e2 q.2)
      have n2 : ¬ Int32.ofNat (a 0 v) = Int32.ofNat 2 := fun q => e2 ((ofN_eq (by omega) (by decide)).mp q)
      simp only [if_pos n1, if_neg n2]; exact ⟨trivial, h'⟩
  · have n1 : Int32.ofNat (r_X6_hasRole c v 2) = 0 := hr.mpr (fun q => e q.1)
    simp only [if_pos n1, if_neg (out_yes (a := a) hk e)]; exact ⟨trivial, h'⟩
end UPE
