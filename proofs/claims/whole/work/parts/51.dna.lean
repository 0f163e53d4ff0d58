section DNA
variable {T : Nat} {c : CS} {a : RS}
theorem su2_comm {k i v k' i' v' : Nat} (h : k ≠ k') : su2 (su2 a k i v) k' i' v' = su2 (su2 a k' i' v') k i v := by
  funext x y; simp only [su2]
  by_cases e : x = k'
  · have e2 : ¬ x = k := by omega
    simp only [if_pos e, if_neg e2]
  · simp only [if_neg e]
theorem sendUp_comm {f kd vl k i n : Nat} (h : k ≠ 18 ∧ k ≠ 19 ∧ k ≠ 20) : su2 (w_X7_sendUp a f kd vl) k i n = w_X7_sendUp (su2 a k i n) f kd vl := by
  unfold w_X7_sendUp
  rw [su2_ne (k' := 20) (k := k) (fun q => h.2.2 q.symm)]
  rw [su2_comm (k := 20) (k' := k) (fun q => h.2.2 q.symm), su2_comm (k := 19) (k' := k) (fun q => h.2.1 q.symm), su2_comm (k := 18) (k' := k) (fun q => h.1 q.symm)]
theorem fru {x : RS} {f kd vl q : Nat} (h : q ≠ 18 ∧ q ≠ 19 ∧ q ≠ 20) : w_X7_sendUp x f kd vl q = x q := by unfold w_X7_sendUp; rw [su2_ne h.2.2, su2_ne h.2.1, su2_ne h.1]
theorem fru20 {x : RS} {f kd vl q : Nat} : w_X7_sendUp x f kd vl 20 q = if q = f then x 20 f + 1 else x 20 q := rfl
theorem fru19 {x : RS} {f kd vl i : Nat} : w_X7_sendUp x f kd vl 19 i = if i = 64 * f + x 20 f then vl else x 19 i := rfl
theorem dn_row (h : Inv T c a) {v : Nat} (hv : v < 3) (hr : a 0 v = 2) : (Int32.ofNat (r_X2_count_d c v) = 0 ↔ a 24 v = a 25 v) ∧ (a 25 v < a 24 v → r_X2_firstKind_d c v = a 22 (64 * v + a 25 v) ∧ r_X2_firstValue_d c v = a 23 (64 * v + a 25 v) + (if a 22 (64 * v + a 25 v) = 6 then 1 else 0)) := by
  have s := h.2.1 v hv
  have d := s.2.2.2.1 hr
  have rw_ := j_rows h.2.2.1 hv hr
  have e15 := d.2.2.2.2.2.2.1
  have e14 := d.2.2.2.2.2.2.2
  refine ⟨?_, fun hu => ?_⟩
  · unfold r_X2_count_d; rw [e15, e14]; exact count0 rw_.2.2.1 (by omega)
  · have := s.2.2.2.2.2.1 hr (a 25 v) hu
    have n : ¬ Int32.ofNat (a 24 v) ≤ Int32.ofNat (a 25 v) := by rw [ofN_le (by omega) (by omega)]; omega
    unfold r_X2_firstKind_d r_X2_firstValue_d
    rw [e15, e14, if_neg n, if_neg n]; exact this
theorem bd_25 {a' : RS} (h : BD a T) (hk : ∀ q, q = 0 ∨ q = 1 ∨ q = 11 ∨ (14 ≤ q ∧ q ≤ 17) ∨ (19 ≤ q ∧ q ≤ 21) ∨ q = 24 → a' q = a q) (h25 : ∀ s, s < 3 → a 0 s ≠ 2 → a' 25 s = a 25 s) : BD a' T := by
  refine bd_of h (fun s hs => ?_) (fun s hs => ?_) (fun s hs => ?_) (fun s hs => ?_) (fun s hs => ?_) (hk 14 (by omega)) (fun s hs => by rw [hk 0 (by omega)]) (fun s hs q => ?_) (fun s hs q => ?_)
  · rw [hk 1 (by omega)]; exact (h s hs).1
  · rw [hk 11 (by omega)]; exact (h s hs).2.1
  · rw [hk 15 (by omega)]; exact (h s hs).2.2.1
  · rw [hk 16 (by omega)]; exact (h s hs).2.2.2.1
  · rw [hk 17 (by omega)]; exact (h s hs).2.2.2.2.1
  · rw [hk 19 (by omega), hk 20 (by omega)]; exact (h s hs).2.2.2.2.2.2.1 q
  · rw [hk 20 (by omega), hk 21 (by omega), hk 24 (by omega), h25 s hs q]; exact ⟨rfl, rfl, rfl, rfl⟩
theorem bd_sendU {v kd vl : Nat} (h : BD a T) (hv : v < 3) (hr : a 0 v = 2) (h0 : 1 ≤ a 20 v) (h1 : a 20 v = 1 → vl ≤ 1) (hb : ∀ s, s < 3 → a 20 s < 63) : BD (w_X7_sendUp a v kd vl) T := by
  have fr : ∀ q, q ≠ 18 ∧ q ≠ 19 ∧ q ≠ 20 → w_X7_sendUp a v kd vl q = a q := fun q hq => fru hq
  have b := hb v hv
  refine bd_of h (fun s hs => ?_) (fun s hs => ?_) (fun s hs => ?_) (fun s hs => ?_) (fun s hs => ?_) (fr 14 (by decide)) (fun s hs => by rw [fr 0 (by decide)]) (fun s hs q => ?_) (fun s hs q => ?_)
  · rw [fr 1 (by decide)]; exact (h s hs).1
  · rw [fr 11 (by decide)]; exact (h s hs).2.1
  · rw [fr 15 (by decide)]; exact (h s hs).2.2.1
  · rw [fr 16 (by decide)]; exact (h s hs).2.2.2.1
  · rw [fr 17 (by decide)]; exact (h s hs).2.2.2.2.1
  · have d := (h s hs).2.2.2.2.2.2.1 q
    rw [fru20, fru19, fru19, if_neg (by omega)]
    refine ⟨d.1, fun z => ?_⟩
    by_cases e : s = v
    · subst e
      by_cases e1 : a 20 s = 1
      · rw [if_pos (by omega)]; exact h1 e1
      · rw [if_neg (by omega)]; exact d.2 (by omega)
    · rw [if_neg e] at z
      rw [if_neg (by omega)]; exact d.2 z
  · have ne : s ≠ v := fun e => q (by rw [e]; exact hr)
    rw [fru20, if_neg ne, fr 21 (by decide), fr 24 (by decide), fr 25 (by decide)]
    exact ⟨rfl, rfl, rfl, rfl⟩
theorem tr_log {c' : CS} {a' : RS} {s : Nat} (h : TR c s) (hS : Sim c a) (hS' : Sim c' a') (hs : s < 3) (h5 : c' 5 s = c 5 s) (ht : ∀ k, TK k → c' k s = c k s) (h25 : c' 25 s = c 25 s) (hl : a 3 s ≤ a 4 s) (hl' : a 3 s ≤ a' 4 s) (h24 : a 4 s ≤ 24) (hlg : ∀ j, j < a 3 s → lgf a' s j = lgf a s j) : TR c' s := by
  have e5 : c 5 s 0 = a 3 s := (hS s hs).1.2.2.2.1
  refine TR_congr (c := c) (by rw [h5]) ht (fun j _ => by rw [h25]) (fun j hj => ?_) h
  rw [e5] at hj
  have nb := (hS' s hs).2.1 j (by omega)
  have ob := (hS s hs).2.1 j (by omega)
  have lj := hlg j hj
  rw [lgf_at (by omega), lgf_at (by omega)] at lj
  have l6 := congrArg (fun z : XE => z.2.1) lj
  have l7 := congrArg (fun z : XE => z.2.2.1) lj
  have l8 := congrArg (fun z : XE => z.2.2.2.1) lj
  have l9 := congrArg (fun z : XE => z.2.2.2.2) lj
  simp only at l6 l7 l8 l9
  unfold ec
  rw [nb.2.1, nb.2.2.1, nb.2.2.2.1, nb.2.2.2.2, ob.2.1, ob.2.2.1, ob.2.2.2.1, ob.2.2.2.2, l6, l7, l8, l9]
theorem ev_log {a' : RS} (h : EVs a) (h24 : ∀ s, s < 3 → a 4 s ≤ 24) (hl : ∀ s, s < 3 → a' 4 s ≤ 24) (hlg : ∀ s, s < 3 → ∀ j, j < a' 4 s → ∃ s' j', s' < 3 ∧ j' < a 4 s' ∧ lgf a' s j = lgf a s' j') : EVs a' := by
  intro s hs j hj
  obtain ⟨s', j', h1, h2, h3⟩ := hlg s hs j hj
  have b := hl s hs
  have b' := h24 s' h1
  rw [lgf_at (by omega), lgf_at (by omega)] at h3
  have l6 := congrArg (fun z : XE => z.2.1) h3
  have l7 := congrArg (fun z : XE => z.2.2.1) h3
  have l9 := congrArg (fun z : XE => z.2.2.2.2) h3
  simp only at l6 l7 l9
  rw [l6, l7, l9]
  exact h s' h1 j' h2
-- NEWEPOCH: taken
theorem inv_newepoch (h : Inv T c a) {v fr : Nat} (hv : v < 3) (hr : a 0 v = 2) (hd : a 25 v = 0) (hd2 : 1 ≤ a 24 v) (hle : a 1 v ≤ a 1 (a 14 v)) (hf1 : fr ≤ 1) (hfr : fr = 1 → a 1 v < a 1 (a 14 v)) :
    Inv T (w_X2_send_u (su3 (w_X2_dropFirst_d c v) 1 v 0 (a 1 (a 14 v))) v 2 fr) (su2 (w_X7_sendUp (su2 a 25 v 1) v 2 fr) 1 v (a 1 (a 14 v))) := by
  have hJ := h.2.2.1
  have rws := j_rows hJ hv hr
  have RQa := i_RQ h
  have hF := j_F hJ hv hr
  have kd := (j_dkinds hJ hv hr (by omega)).1 hd
  obtain ⟨h1, h2, h3, h4, h5, h6⟩ := h
  have sd := p_dropD h2 hv hr (by omega) (by omega)
  rw [hd] at sd
  have sm := p_sendU (kd := 2) (vl := fr) (p_prom (f := v) (n := a 1 (a 14 v)) sd) hv hr (by show a 20 v < 27; omega) (fun s hs => by show a 20 s ≤ 64; have := RQa s hs; omega)
  have je := j_newepoch h3 hv hr hd hd2 hle hfr
  rw [sendUp_comm (by decide)] at je ⊢
  refine ⟨cb_X2_send_u (cb_su (cb_X2_dropFirst_d h1) (bnd_no (by decide))), sm, je, fun s hs => ?_, h5, ?_⟩
  · refine tr_frame (h4 s hs) (fun q hq => ?_)
    unfold TK at hq
    rw [fr_sendu (by omega), su3_ne (by omega), fr_dropd (by omega)]
  · refine bd_sendU ?_ hv hr (by show 1 ≤ a 20 v; omega) (fun _ => hf1) (fun s hs => by show a 20 s < 63; have := RQa s hs; omega)
    refine bd_of h6 (fun s hs => ?_) (fun s hs => (h6 s hs).2.1) (fun s hs => (h6 s hs).2.2.1) (fun s hs => (h6 s hs).2.2.2.1) (fun s hs => (h6 s hs).2.2.2.2.1) rfl (fun s hs => Iff.rfl) (fun s hs q => (h6 s hs).2.2.2.2.2.2.1 q) (fun s hs q => ?_)
    · show (if s = v then a 1 (a 14 v) else a 1 s) ≤ T
      have := (h6 s hs).1
      have := (h6 _ hF.1).1
      split <;> omega
    · have ne : s ≠ v := fun e => q (by rw [e]; exact hr)
      refine ⟨rfl, rfl, rfl, ?_⟩
      show (if s = v then 1 else a 25 s) = a 25 s
      rw [if_neg ne]
-- NEWEPOCH: refused
theorem stop_none {c1 x : CS} {v ro : Nat} (hn : ∀ k, k < 3 → Int32.ofNat (r_X6_isFollowerOf x k v) = 0) : ∀ (d k : Nat), k + d = 3 → lpw_X6_stopTo_10 c1 v ro d k x = x := by
  intro d
  induction d with
  | zero => intro k _; rfl
  | succ d ih =>
    intro k hk
    simp only [lpw_X6_stopTo_10]
    rw [if_pos (hn k (by omega))]
    exact ih (k + 1) (by omega)
theorem clear_drop {v : Nat} : w_X1_clear (w_X2_dropFirst_d c v) v = w_X1_clear c v := by
  unfold w_X2_dropFirst_d
  split
  · rfl
  · rw [clear_eq, clear_eq]
    funext k i j
    simp only [su3]
    by_cases e1 : k = 14 <;> by_cases e2 : i = v <;> by_cases e3 : j = 0 <;> simp [e1, e2, e3]
theorem cut_25 {v n : Nat} : w_X7_cut (su2 a 25 v n) v = w_X7_cut a v := by
  unfold w_X7_cut
  funext k j
  simp only [su2]
  by_cases e1 : k = 25 <;> by_cases e2 : j = v <;> simp [e1, e2]
theorem inv_refuse (h : Inv T c a) {v n : Nat} (hv : v < 3) (hr : a 0 v = 2) : Inv T (w_X6_stopTo (w_X2_dropFirst_d c v) v 1) (w_X7_cut (su2 a 25 v n) v) := by
  have nf : ∀ g, g < 3 → a 0 g = 2 → a 14 g ≠ v := fun g hg hr2 q => by
    have := (j_F h.2.2.1 hg hr2).2.2
    rw [q] at this; omega
  have es : w_X6_stopTo (w_X2_dropFirst_d c v) v 1 = su3 (w_X1_clear (lpw_X6_stopTo_10 (w_X2_dropFirst_d c v) v 1 3 0 (w_X2_dropFirst_d c v)) v) 3 v 0 1 := rfl
  rw [es, stop_none (fun k hk => ?_) 3 0 rfl, clear_drop, cut_25]
  · exact inv_cut h hv nf
  · have fi := (follows_iff h hk hv).1
    have e : r_X6_isFollowerOf (w_X2_dropFirst_d c v) k v = r_X6_isFollowerOf c k v := by
      unfold r_X6_isFollowerOf
      rw [fr_dropd (by decide), fr_dropd (by decide), fr_dropd (by decide)]
    rw [e]
    exact fi.mpr (fun q => nf k hk q.1 q.2)
end DNA
