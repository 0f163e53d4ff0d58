section DNB
variable {T : Nat} {c : CS} {a : RS}
theorem inv_newleader (h : Inv T c a) {v n0 : Nat} (hv : v < 3) (hr : a 0 v = 2) (hd : a 25 v = 1) (hd2 : 2 ≤ a 24 v) (hn : n0 = a 23 (64 * v + 1)) :
    Inv T (w_X6_readNewLeader (w_X2_dropFirst_d c v) v n0) (w_X7_sendUp (w_X7_copy (su2 (su2 a 25 v 2) 2 v (a 1 v)) (a 14 v) v n0) v 3 n0) := by
  have hJ := h.2.2.1
  have rws := j_rows hJ hv hr
  have RQa := i_RQ h
  have hF := j_F hJ hv hr
  have kd := (j_dkinds hJ hv hr (by omega)).2.1 hd
  rw [hd] at kd
  have bg := j_B hJ hF.1
  have bv := j_B hJ hv
  have hl3 : ∀ s, s < 3 → a 4 s ≤ 24 := fun s hs => (j_B hJ hs).2.2.1
  have n4 : n0 ≤ a 4 (a 14 v) := by omega
  obtain ⟨h1, h2, h3, h4, h5, h6⟩ := h
  have d := (h2 v hv).2.2.2.1 hr
  have jn := j_newleader h3 hv hr hd hd2 hn
  have sd := p_dropD h2 hv hr (by omega) (by omega)
  rw [hd] at sd
  have sc1 := p_copy (f := v) (o := a 14 v) (n := n0) (p_epoch (f := v) (n := a 1 v) sd) hv hF.1 (Ne.symm hF.2.1) n4 hl3
  have k4 : ∀ s, w_X7_copy (su2 (su2 a 25 v 2) 2 v (a 1 v)) (a 14 v) v n0 4 s = if s = v then n0 else a 4 s := fun s => by
    unfold w_X7_copy
    by_cases e : s = v
    · rw [if_pos e, e, su2_same]
    · rw [if_neg e]
      show (if s = v then n0 else lpw_X7_copy_3 (su2 (su2 a 25 v 2) 2 v (a 1 v)) (a 14 v) v n0 n0 0 (su2 (su2 a 25 v 2) 2 v (a 1 v)) 4 s) = a 4 s
      rw [if_neg e, fr_copy_lp (by decide)]; rfl
  have fc : ∀ q, q < 4 ∨ 9 < q → q ≠ 2 → q ≠ 25 → w_X7_copy (su2 (su2 a 25 v 2) 2 v (a 1 v)) (a 14 v) v n0 q = a q := fun q hq q2 q25 => by rw [fr_copy hq, su2_ne q2, su2_ne q25]
  have sm := p_sendU (kd := 3) (vl := n0) sc1 hv (by rw [fc 0 (by decide) (by decide) (by decide)]; exact hr) (by rw [fc 20 (by decide) (by decide) (by decide)]; omega) (fun s hs => by rw [fc 20 (by decide) (by decide) (by decide)]; have := RQa s hs; omega)
  unfold w_X6_readNewLeader
  have c1 : w_X2_dropFirst_d c v 1 v 0 = a 1 v := by rw [fr_dropd (by decide)]; exact (h2 v hv).1.2.1
  have c4 : w_X2_dropFirst_d c v 4 v 0 = a 14 v := by rw [fr_dropd (by decide)]; exact d.1
  rw [c1, c4]
  have lc := lgf_copy (a := su2 (su2 a 25 v 2) 2 v (a 1 v)) (f := a 14 v) (t := v) (n := n0) hF.2.1 hF.1 hv (by omega)
  have l0 : lgf (su2 (su2 a 25 v 2) 2 v (a 1 v)) = lgf a := by rw [lgf_no (by decide), lgf_no (by decide)]
  rw [l0] at lc
  refine ⟨cb_X2_send_u (cb_X0_becomeFirst (cb_su (cb_X2_dropFirst_d h1) (bnd_no (by decide)))), sm, jn.1, fun s hs => ?_, ?_, ?_⟩
  · by_cases e : s = v
    · subst e
      refine tr_log (h4 s hs) h2 sm hs ?_ (fun k hk => ?_) ?_ bv.2.2.2 ?_ bv.2.2.1 (fun j hj => ?_)
      · rw [fr_sendu (by decide), fr_become (by unfold LK; omega), su3_ne (Or.inl (by decide)), fr_dropd (by decide)]
      · unfold TK at hk
        rw [fr_sendu (by omega), fr_become (by unfold LK; omega), su3_ne (by omega), fr_dropd (by omega)]
      · rw [fr_sendu (by decide), fr_become (by unfold LK; omega), su3_ne (Or.inl (by decide)), fr_dropd (by decide)]
      · rw [fru (by decide), k4, if_pos rfl]; exact jn.2.1
      · rw [lgf_sendUp]; exact jn.2.2 j hj
    · refine tr_frame (h4 s hs) (fun q hq => ?_)
      unfold TK at hq
      rw [fr_sendu (by omega), fr_become (fun _ => e), su3_ne (Or.inr e), fr_dropd (by omega)]
  · refine ev_log h5 hl3 (fun s hs => ?_) (fun s hs j hj => ?_)
    · rw [fru (by decide), k4]; have := hl3 s hs; split <;> omega
    · rw [fru (by decide), k4] at hj
      rw [lgf_sendUp]
      by_cases e : s = v
      · rw [if_pos e] at hj
        subst e
        exact ⟨a 14 s, j, hF.1, by omega, lc.1 j hj⟩
      · rw [if_neg e] at hj
        exact ⟨s, j, hs, hj, congrFun (lc.2 s e) j⟩
  · refine bd_sendU ?_ hv (by rw [fc 0 (by decide) (by decide) (by decide)]; exact hr) (by rw [fc 20 (by decide) (by decide) (by decide)]; omega) (fun q => by rw [fc 20 (by decide) (by decide) (by decide)] at q; omega) (fun s hs => by rw [fc 20 (by decide) (by decide) (by decide)]; have := RQa s hs; omega)
    refine bd_25 h6 (fun q hq => fc q (by omega) (by omega) (by omega)) (fun s hs q => ?_)
    have ne : s ≠ v := fun e => q (by rw [e]; exact hr)
    rw [fr_copy (by decide)]
    show (if s = v then 2 else a 25 s) = a 25 s
    rw [if_neg ne]
theorem inv_prop (h : Inv T c a) {v k : Nat} (hv : v < 3) (hr : a 0 v = 2) (hd : 2 ≤ a 25 v) (hd2 : a 25 v < a 24 v) (hk : a 22 (64 * v + a 25 v) = 6) (hkv : k = a 23 (64 * v + a 25 v)) :
    Inv T (w_X6_readProposal (w_X2_dropFirst_d c v) v (k + 1)) (w_X7_sendUp (su2 (w_X7_copyEntry (su2 a 25 v (a 25 v + 1)) (24 * a 14 v + k) (24 * v + a 4 v)) 4 v (a 4 v + 1)) v 3 (a 4 v + 1)) := by
  have hJ := h.2.2.1
  have rws := j_rows hJ hv hr
  have RQa := i_RQ h
  have hF := j_F hJ hv hr
  have bg := j_B hJ hF.1
  have bv := j_B hJ hv
  have hl3 : ∀ s, s < 3 → a 4 s ≤ 24 := fun s hs => (j_B hJ hs).2.2.1
  have kn : k = a 4 v ∧ a 4 v < a 4 (a 14 v) := by
    rcases (j_dkinds hJ hv hr hd2).2.2 hd with q | q
    · exact ⟨by omega, q.2.2⟩
    · omega
  have x20 : 3 ≤ a 20 v := by
    obtain ⟨top, own, vt, sett, H, HL, I, cl, cm, ce, n, hh⟩ := hJ
    exact (hh.2.2.2.2.2.2.2.2.2.2.2.1 v hv hr hd).2.1
  obtain ⟨h1, h2, h3, h4, h5, h6⟩ := h
  have d := (h2 v hv).2.2.2.1 hr
  have jn := j_prop h3 hv hr hd hd2 hk hkv
  have b27 : a 20 v + 1 ≤ 27 := (j_rows jn hv hr).2.1 |> fun q => by
    rw [fru20, if_pos rfl] at q; exact q
  have sd := p_dropD h2 hv hr (by omega) (by omega)
  have sp : Sim (w_X0_appendFrom (w_X2_dropFirst_d c v) v (a 14 v) (k + 1)) (su2 (w_X7_copyEntry (su2 a 25 v (a 25 v + 1)) (24 * a 14 v + k) (24 * v + a 4 v)) 4 v (a 4 v + 1)) := p_prop (f := v) (o := a 14 v) (k := k) sd hv hF.1 (by show k < a 4 (a 14 v); omega) (by show a 4 v < 24; omega) hl3
  have sm := p_sendU (kd := 3) (vl := a 4 v + 1) sp hv hr (by show a 20 v < 27; omega) (fun s hs => by show a 20 s ≤ 64; have := RQa s hs; omega)
  unfold w_X6_readProposal
  have c4 : w_X2_dropFirst_d c v 4 v 0 = a 14 v := by rw [fr_dropd (by decide)]; exact d.1
  have c6 : w_X0_appendFrom (w_X2_dropFirst_d c v) v (a 14 v) (k + 1) 6 v 0 = a 4 v + 1 := (sp v hv).1.2.2.2.2.1.trans (by rw [su2_same])
  rw [c4, c6]
  have le := lgf_entry (x := su2 a 25 v (a 25 v + 1)) (f := v) (o := a 14 v) (k := k) (t := a 4 v) hF.1 hv (by omega) (by omega)
  rw [lgf_no (a := a) (by decide)] at le
  have lg : lgf (w_X7_sendUp (su2 (w_X7_copyEntry (su2 a 25 v (a 25 v + 1)) (24 * a 14 v + k) (24 * v + a 4 v)) 4 v (a 4 v + 1)) v 3 (a 4 v + 1)) = lgf (w_X7_copyEntry (su2 a 25 v (a 25 v + 1)) (24 * a 14 v + k) (24 * v + a 4 v)) := by rw [lgf_sendUp, lgf_no (by decide)]
  have k4 : ∀ s, w_X7_sendUp (su2 (w_X7_copyEntry (su2 a 25 v (a 25 v + 1)) (24 * a 14 v + k) (24 * v + a 4 v)) 4 v (a 4 v + 1)) v 3 (a 4 v + 1) 4 s = if s = v then a 4 v + 1 else a 4 s := fun s => by rw [fru (by decide)]; rfl
  refine ⟨cb_X2_send_u (cb_X0_appendFrom (cb_X2_dropFirst_d h1)), sm, jn, fun s hs => ?_, ?_, ?_⟩
  · by_cases e : s = v
    · subst e
      refine tr_log (h4 s hs) h2 sm hs ?_ (fun k hk => ?_) ?_ bv.2.2.2 ?_ bv.2.2.1 (fun j hj => ?_)
      · rw [fr_sendu (by decide), fr_appendFrom (by unfold LK; omega), fr_dropd (by decide)]
      · unfold TK at hk
        rw [fr_sendu (by omega), fr_appendFrom (by unfold LK; omega), fr_dropd (by omega)]
      · rw [fr_sendu (by decide), fr_appendFrom (by unfold LK; omega), fr_dropd (by decide)]
      · rw [k4, if_pos rfl]; omega
      · rw [lg]; exact le.2.1 j (by omega)
    · refine tr_frame (h4 s hs) (fun q hq => ?_)
      unfold TK at hq
      rw [fr_sendu (by omega), fr_appendFrom (fun _ => e), fr_dropd (by omega)]
  · refine ev_log h5 hl3 (fun s hs => ?_) (fun s hs j hj => ?_)
    · rw [k4]; have := hl3 s hs; split <;> omega
    · rw [k4] at hj
      rw [lg]
      by_cases e : s = v
      · rw [if_pos e] at hj
        subst e
        by_cases ej : j = a 4 s
        · rw [ej]; exact ⟨a 14 s, k, hF.1, by omega, le.1⟩
        · exact ⟨s, j, hs, by omega, le.2.1 j ej⟩
      · rw [if_neg e] at hj
        exact ⟨s, j, hs, hj, congrFun (le.2.2 s e) j⟩
  · refine bd_sendU ?_ hv hr (by show 1 ≤ a 20 v; omega) (fun q => by have : a 20 v = 1 := q; omega) (fun s hs => by show a 20 s < 63; have := RQa s hs; omega)
    refine bd_25 h6 (fun q hq => by rw [su2_ne (by omega), fr_copyEntry (by omega), su2_ne (by omega)]) (fun s hs q => ?_)
    have ne : s ≠ v := fun e => q (by rw [e]; exact hr)
    show (if s = v then a 25 v + 1 else a 25 s) = a 25 s
    rw [if_neg ne]
theorem inv_com (h : Inv T c a) {v k : Nat} (hv : v < 3) (hr : a 0 v = 2) (hd : 2 ≤ a 25 v) (hd2 : a 25 v < a 24 v) (hk : a 22 (64 * v + a 25 v) ≠ 6) (hkv : k = a 23 (64 * v + a 25 v)) :
    Inv T (w_X3_applyUpTo (w_X2_dropFirst_d c v) v k) (su2 (su2 a 25 v (a 25 v + 1)) 3 v (max k (a 3 v))) := by
  have hI := h
  have hJ := h.2.2.1
  have rws := j_rows hJ hv hr
  have bv := j_B hJ hv
  have kn : k ≤ a 4 v := by
    rcases (j_dkinds hJ hv hr hd2).2.2 hd with q | q
    · omega
    · omega
  obtain ⟨h1, h2, h3, h4, h5, h6⟩ := h
  have sd := p_dropD h2 hv hr (by omega) (by omega)
  have sm := p_apply (f := v) (k := k) sd hv kn bv.2.2.1
  have e6 : w_X2_dropFirst_d c v 6 v 0 = a 4 v := by rw [fr_dropd (by decide)]; exact (h2 v hv).1.2.2.2.2.1
  have td : ∀ s, s < 3 → TR (w_X2_dropFirst_d c v) s := fun s hs => tr_frame (h4 s hs) (fun q hq => by unfold TK at hq; rw [fr_dropd (by omega)])
  refine ⟨cb_X3_applyUpTo (cb_X2_dropFirst_d h1) hv (by omega), sm, j_com h3 hv hr hd hd2 hk (by rw [hkv]), fun s hs => ?_, h5, ?_⟩
  · by_cases e : s = v
    · subst e
      refine TR_apply (td s hs) (by rw [e6]; exact kn) (by rw [e6]; exact bv.2.2.1) (fun j hj => ?_)
      rw [e6] at hj
      have ee : ec (w_X2_dropFirst_d c s) s j = ec c s j := by unfold ec; rw [fr_dropd (by decide), fr_dropd (by decide), fr_dropd (by decide), fr_dropd (by decide)]
      rw [ee, i_ec hI hs j hj]
      exact h5 s hs j hj
    · exact tr_frame (td s hs) (fun q hq => fr_apply (fun _ => e))
  · refine bd_25 h6 (fun q hq => by rw [su2_ne (by omega), su2_ne (by omega)]) (fun s hs q => ?_)
    have ne : s ≠ v := fun e => q (by rw [e]; exact hr)
    show (if s = v then a 25 v + 1 else a 25 s) = a 25 s
    rw [if_neg ne]
theorem i_dn_val (h : Inv T c a) {v : Nat} (hv : v < 3) (hr : a 0 v = 2) (hu : a 25 v < a 24 v) (hT : T < 1000000) : a 22 (64 * v + a 25 v) < 8 ∧ a 23 (64 * v + a 25 v) < 1000000 := by
  have kn := j_dkinds h.2.2.1 hv hr hu
  have hF := j_F h.2.2.1 hv hr
  have b := j_B h.2.2.1 hv
  have bg := j_B h.2.2.1 hF.1
  have d := (h.2.2.2.2.2 _ hF.1).1
  rcases (by omega : a 25 v = 0 ∨ a 25 v = 1 ∨ 2 ≤ a 25 v) with e | e | e
  · have := kn.1 e; omega
  · have := kn.2.1 e; omega
  · have := kn.2.2 e; omega
theorem i_dn_hval (h : Inv T c a) {v : Nat} (hk : v < 4294967296) (hT : T < 1000000) (hr : ¬ Int32.ofNat (r_X6_hasRole c v 2) = 0) : r_X2_firstValue_d c v < 2147483647 := by
  have e : v < 3 ∧ a 0 v = 2 := Classical.byContradiction (fun q => hr ((hasRole_iff h hk (by decide)).mpr q))
  have rw_ := dn_row h e.1 e.2
  have rws := j_rows h.2.2.1 e.1 e.2
  by_cases q : a 25 v < a 24 v
  · rw [(rw_.2 q).2]; have := i_dn_val h e.1 e.2 q hT; split <;> omega
  · have d := (h.2.1 v e.1).2.2.2.1 e.2
    unfold r_X2_firstValue_d
    rw [d.2.2.2.2.2.2.1, d.2.2.2.2.2.2.2, if_pos (by rw [ofN_le (by omega) (by omega)]; omega)]; decide
theorem i_dn_hn (h : Inv T c a) {v : Nat} (hT : T < 1000000) (hv : v < 3) (hr : Int32.ofNat (a 0 v) = Int32.ofNat 2) (hne : ¬ Int32.ofNat (a 25 v) = Int32.ofNat (a 24 v)) : (Int32.ofNat (a 22 (64 * v + a 25 v)) = Int32.ofNat 5 → a 23 (64 * v + a 25 v) ≤ 24) ∧ (Int32.ofNat (a 22 (64 * v + a 25 v)) = Int32.ofNat 6 → a 23 (64 * v + a 25 v) < 24 ∧ a 4 v < 24) := by
  have b := j_B h.2.2.1 hv
  have r2 : a 0 v = 2 := (ofN_eq (by omega) (by decide)).mp hr
  have rws := j_rows h.2.2.1 hv r2
  have hu : a 25 v < a 24 v := by
    rcases Nat.lt_or_ge (a 25 v) (a 24 v) with q | q
    · exact q
    · exact absurd (congrArg Int32.ofNat (show a 25 v = a 24 v by omega)) hne
  have vl := i_dn_val h hv r2 hu hT
  have kn := j_dkinds h.2.2.1 hv r2 hu
  have hF := j_F h.2.2.1 hv r2
  have bg := j_B h.2.2.1 hF.1
  refine ⟨fun q => ?_, fun q => ?_⟩
  · have q' := (ofN_eq (by omega) (by decide)).mp q
    rcases (by omega : a 25 v = 0 ∨ a 25 v = 1 ∨ 2 ≤ a 25 v) with e | e | e
    · have := kn.1 e; omega
    · have := kn.2.1 e; omega
    · have := kn.2.2 e; omega
  · have q' := (ofN_eq (by omega) (by decide)).mp q
    rcases (by omega : a 25 v = 0 ∨ a 25 v = 1 ∨ 2 ≤ a 25 v) with e | e | e
    · have := kn.1 e; omega
    · have := kn.2.1 e; omega
    · have := kn.2.2 e; omega
theorem i_down (h : Inv T c a) {v : Nat} (hk : v < 4294967296) (hT : T < 1000000) : r_X6_down c v = r_X7_down a v ∧ Inv (T + 1) (w_X6_down c v) (w_X7_down a v) := by
  have hr := hasRole_iff h (v := v) (ro := 2) hk (by decide)
  have h' := inv_mono h (Nat.le_succ T)
  unfold r_X6_down r_X7_down w_X6_down w_X7_down
  by_cases e : v < 3
  · have b := j_B h.2.2.1 e
    rw [if_pos (out_no e), if_pos (out_no e)]
    by_cases e2 : a 0 v = 2
    · have n1 : ¬ Int32.ofNat (r_X6_hasRole c v 2) = 0 := fun q => (hr.mp q) ⟨e, e2⟩
      have n2 : Int32.ofNat (a 0 v) = Int32.ofNat 2 := by rw [e2]
      simp only [if_neg n1, if_pos n2]
      have row := dn_row h e e2
      have rws := j_rows h.2.2.1 e e2
      by_cases e0 : a 24 v = a 25 v
      · have n3 : Int32.ofNat (a 25 v) = Int32.ofNat (a 24 v) := by rw [e0]
        simp only [if_pos (row.1.mpr e0), if_pos n3]
        exact ⟨trivial, h'⟩
      · have n3 : ¬ Int32.ofNat (a 25 v) = Int32.ofNat (a 24 v) := fun q => e0 ((ofN_eq (by omega) (by omega)).mp q).symm
        have hlt : a 25 v < a 24 v := by omega
        simp only [if_neg (fun q => e0 (row.1.mp q)), if_neg n3]
        rw [(row.2 hlt).1, (row.2 hlt).2]
        refine ⟨rfl, ?_⟩
        have kn := j_dkinds h.2.2.1 e e2 hlt
        have hF := j_F h.2.2.1 e e2
        have vl := i_dn_val h e e2 hlt hT
        have tg := (h'.2.2.2.2.2 v e).1
        have tG := (h'.2.2.2.2.2 _ hF.1).1
        rcases (by omega : a 25 v = 0 ∨ a 25 v = 1 ∨ 2 ≤ a 25 v) with u | u | u
        · have k1 := kn.1 u
          rw [k1.1, k1.2.1]
          have m1 : Int32.ofNat 4 = Int32.ofNat 4 := rfl
          rw [if_pos m1, if_pos m1, if_neg (show ¬ (4 : Nat) = 6 by decide), u]
          simp only [Nat.add_zero]
          unfold w_X6_readNewEpoch
          have c1 : w_X2_dropFirst_d c v 1 v 0 = a 1 v := by rw [fr_dropd (by decide)]; exact (h.2.1 v e).1.2.1
          rw [c1]
          have d1 : ¬ Int32.ofNat 1 = 0 := by decide
          have d0 : Int32.ofNat 0 = 0 := rfl
          by_cases z : a 1 v ≤ a 1 (a 14 v)
          · have y1 : Int32.ofNat (a 1 v) ≤ Int32.ofNat (a 1 (a 14 v)) := (ofN_le (by omega) (by omega)).mpr z
            rw [if_pos y1, if_pos y1]
            by_cases z2 : a 1 (a 14 v) ≤ a 1 v
            · have y2 : Int32.ofNat (a 1 (a 14 v)) ≤ Int32.ofNat (a 1 v) := (ofN_le (by omega) (by omega)).mpr z2
              rw [if_pos y2, if_pos y2, if_pos d0]
              exact inv_newepoch h' e e2 u (by omega) z (by decide) (fun q => by omega)
            · have y2 : ¬ Int32.ofNat (a 1 (a 14 v)) ≤ Int32.ofNat (a 1 v) := fun q => z2 ((ofN_le (by omega) (by omega)).mp q)
              rw [if_neg y2, if_neg y2, if_neg d1]
              exact inv_newepoch h' e e2 u (by omega) z (by decide) (fun q => by omega)
          · have y1 : ¬ Int32.ofNat (a 1 v) ≤ Int32.ofNat (a 1 (a 14 v)) := fun q => z ((ofN_le (by omega) (by omega)).mp q)
            rw [if_neg y1, if_neg y1]
            exact inv_refuse h' e e2
        · have k1 := kn.2.1 u
          rw [k1.1]
          have m1 : ¬ Int32.ofNat 5 = Int32.ofNat 4 := by decide
          have m2 : Int32.ofNat 5 = Int32.ofNat 5 := rfl
          rw [if_neg m1, if_neg m1, if_pos m2, if_pos m2, if_neg (show ¬ (5 : Nat) = 6 by decide), u]
          simp only [Nat.add_zero]
          exact inv_newleader h' e e2 u (by omega) rfl
        · rcases kn.2.2 u with k1 | k1
          · rw [k1.1]
            have m1 : ¬ Int32.ofNat 6 = Int32.ofNat 4 := by decide
            have m2 : ¬ Int32.ofNat 6 = Int32.ofNat 5 := by decide
            have m3 : Int32.ofNat 6 = Int32.ofNat 6 := rfl
            rw [if_neg m1, if_neg m1, if_neg m2, if_neg m2, if_pos m3, if_pos m3, if_pos (show (6 : Nat) = 6 from rfl)]
            exact inv_prop h' e e2 u hlt k1.1 rfl
          · have ip := inv_com h' e e2 u hlt (by rw [k1.1]; decide) rfl
            rw [k1.1]
            have m1 : ¬ Int32.ofNat 7 = Int32.ofNat 4 := by decide
            have m2 : ¬ Int32.ofNat 7 = Int32.ofNat 5 := by decide
            have m3 : ¬ Int32.ofNat 7 = Int32.ofNat 6 := by decide
            rw [if_neg m1, if_neg m1, if_neg m2, if_neg m2, if_neg m3, if_neg m3, if_neg (show ¬ (7 : Nat) = 6 by decide)]
            simp only [Nat.add_zero]
            by_cases z : a 23 (64 * v + a 25 v) ≤ a 3 v
            · rw [if_pos ((ofN_le (by omega) (by omega)).mpr z)]
              rw [Nat.max_eq_right z] at ip; exact ip
            · rw [if_neg (fun q => z ((ofN_le (by omega) (by omega)).mp q))]
              rw [Nat.max_eq_left (by omega)] at ip; exact ip
    · have n1 : Int32.ofNat (r_X6_hasRole c v 2) = 0 := hr.mpr (fun q => e2 q.2)
      have n2 : ¬ Int32.ofNat (a 0 v) = Int32.ofNat 2 := fun q => e2 ((ofN_eq (by omega) (by decide)).mp q)
      simp only [if_pos n1, if_neg n2]; exact ⟨trivial, h'⟩
  · have n1 : Int32.ofNat (r_X6_hasRole c v 2) = 0 := hr.mpr (fun q => e q.1)
    simp only [if_pos n1, if_neg (out_yes (a := a) hk e)]; exact ⟨trivial, h'⟩
end DNB
