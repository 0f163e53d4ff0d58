section REPLAY
def rq (e : Nat → ND) (y0 : RS) : Nat → RS
  | 0 => y0
  | m + 1 => su2 (rstp (rq e y0 m) (e m).1 (e m).2.1 (e m).2.2.1 (e m).2.2.2) 31 m (rres (rq e y0 m) (e m).1 (e m).2.1 (e m).2.2.1 (e m).2.2.2)
def ec (c : CS) (s j : Nat) : ND := (c 21 s j, c 22 s j, c 23 s j, c 24 s j)
def er (a : RS) (s j : Nat) : ND := (a 6 (24 * s + j), a 7 (24 * s + j), a 8 (24 * s + j), a 9 (24 * s + j))
def fresh0 (y : RS) : Prop := y 32 0 = 0 ∧ ∀ b, b < 5 → y 30 b = 0
def TRt (x : CS) (s : Nat) (e : Nat → ND) (m : Nat) : Prop := ∀ y0, fresh0 y0 → TB x s (rq e y0 m) m ∧ ∀ j, j < m → x 25 s j = rq e y0 m 31 j
def TR (c : CS) (s : Nat) : Prop := TRt c s (ec c s) (c 5 s 0)
theorem rq_congr {e e' : Nat → ND} {y0 : RS} : ∀ m, (∀ j, j < m → e j = e' j) → rq e y0 m = rq e' y0 m := by
  intro m
  induction m with
  | zero => intro _; rfl
  | succ m ih =>
    intro h
    simp only [rq]
    rw [ih (fun j hj => h j (by omega)), h m (by omega)]
theorem fr31_create {y : RS} {p va b : Nat} : w_X7_create y p va b 31 = y 31 := by
  unfold w_X7_create
  repeat' split
  all_goals first | rfl | simp only [su2_ne (show (31 : Nat) ≠ 32 by decide), su2_ne (show (31 : Nat) ≠ 29 by decide), su2_ne (show (31 : Nat) ≠ 28 by decide), su2_ne (show (31 : Nat) ≠ 27 by decide), su2_ne (show (31 : Nat) ≠ 26 by decide)]
theorem fr31_alter {y : RS} {st p va b : Nat} : w_X7_alter y st p va b 31 = y 31 := by
  unfold w_X7_alter
  repeat' split
  all_goals first | rfl | simp only [su2_ne (show (31 : Nat) ≠ 28 by decide), su2_ne (show (31 : Nat) ≠ 27 by decide), su2_ne (show (31 : Nat) ≠ 26 by decide)]
theorem fr31_session {y : RS} {op b : Nat} : w_X7_session y op b 31 = y 31 := by
  unfold w_X7_session
  repeat' split
  all_goals first | rfl | (rw [fr_session_lp (by decide), su2_ne (by decide)])
theorem fr31_rstp {y : RS} {kd pa va vb : Nat} : rstp y kd pa va vb 31 = y 31 := by
  unfold rstp
  repeat' split
  all_goals first | exact fr31_create | exact fr31_session | exact fr31_alter
theorem fr_rstp {y : RS} {kd pa va vb q : Nat} (hq : q < 26) : rstp y kd pa va vb q = y q := by
  unfold rstp
  repeat' split
  all_goals first | exact fr_create hq | exact fr_session (Or.inl hq) | exact fr_alter (Or.inl hq)
theorem fr_rq {e : Nat → ND} {y0 : RS} {q : Nat} (hq : q < 26) : ∀ m, rq e y0 m q = y0 q := by
  intro m
  induction m with
  | zero => rfl
  | succ m ih => simp only [rq]; rw [su2_ne (by omega), fr_rstp hq, ih]
-- TB does not see the results
theorem ttb31 {x : CS} {i : Nat} {y : RS} {m k r : Nat} (h : TB x i y m) : TB x i (su2 y 31 k r) m := h
theorem ttb25 {x : CS} {i : Nat} {y : RS} {m t r n : Nat} (h : TB x i y m) : TB (su3 (su3 x 25 i t r) 5 i 0 n) i y m := h
theorem TRt_step {x : CS} {s : Nat} {e : Nat → ND} {t : Nat} (h : TRt x s e t) (ht : t < 24) (ok : ok4 (e t).1 (e t).2.1 (e t).2.2.2) :
    TRt (su3 (su3 (w_X5_change x s (e t).1 (e t).2.1 (e t).2.2.1 (e t).2.2.2) 25 s t (r_X5_change x s (e t).1 (e t).2.1 (e t).2.2.1 (e t).2.2.2)) 5 s 0 (t + 1)) s e (t + 1) := by
  intro y0 hy
  obtain ⟨h1, h2⟩ := h y0 hy
  have st := step_corr (va := (e t).2.2.1) h1 ht ok
  refine ⟨ttb25 (ttb31 st.2), fun j hj => ?_⟩
  simp only [rq]
  rw [su3_ne (Or.inl (by decide))]
  by_cases ej : j = t
  · subst ej; rw [su3_same, su2_same]; exact st.1
  · rw [show su3 (w_X5_change x s (e t).1 (e t).2.1 (e t).2.2.1 (e t).2.2.2) 25 s t (r_X5_change x s (e t).1 (e t).2.1 (e t).2.2.1 (e t).2.2.2) 25 s j = w_X5_change x s (e t).1 (e t).2.1 (e t).2.2.1 (e t).2.2.2 25 s j by simp [su3, ej]]
    rw [fr_change (by unfold TK; omega)]
    rw [show su2 (rstp (rq e y0 t) (e t).1 (e t).2.1 (e t).2.2.1 (e t).2.2.2) 31 t (rres (rq e y0 t) (e t).1 (e t).2.1 (e t).2.2.1 (e t).2.2.2) 31 j = rstp (rq e y0 t) (e t).1 (e t).2.1 (e t).2.2.1 (e t).2.2.2 31 j by simp [su2, ej]]
    rw [fr31_rstp]
    exact h2 j (by omega)
theorem TRt_apply {c : CS} {s k : Nat} {e : Nat → ND} : ∀ (d t : Nat) (x : CS), (∀ j, j < t + d → ec x s j = e j) → t + d ≤ 24 → (∀ j, t ≤ j → j < t + d → ok4 (e j).1 (e j).2.1 (e j).2.2.2) → TRt x s e t → TRt (lpw_X3_applyUpTo_17 c s k d t x) s e (t + d) := by
  intro d
  induction d with
  | zero => intro t x _ _ _ h; exact h
  | succ d ih =>
    intro t x he h24 ok h
    simp only [lpw_X3_applyUpTo_17]
    rw [show t + (d + 1) = t + 1 + d by omega]
    have ee : (x 21 s t, x 22 s t, x 23 s t, x 24 s t) = e t := he t (by omega)
    have e1 : x 21 s t = (e t).1 := congrArg (fun n : ND => n.1) ee
    have e2 : x 22 s t = (e t).2.1 := congrArg (fun n : ND => n.2.1) ee
    have e3 : x 23 s t = (e t).2.2.1 := congrArg (fun n : ND => n.2.2.1) ee
    have e4 : x 24 s t = (e t).2.2.2 := congrArg (fun n : ND => n.2.2.2) ee
    rw [e1, e2, e3, e4]
    refine ih (t + 1) _ (fun j hj => ?_) (by omega) (fun j h1 h2 => ok j (by omega) (by omega)) (TRt_step h (by omega) (ok t (by omega) (by omega)))
    unfold ec
    rw [su3_ne (Or.inl (by decide)), su3_ne (Or.inl (by decide)), su3_ne (Or.inl (by decide)), su3_ne (Or.inl (by decide)), su3_ne (Or.inl (by decide)), su3_ne (Or.inl (by decide)), su3_ne (Or.inl (by decide)), su3_ne (Or.inl (by decide)), fr_change (by unfold TK; omega), fr_change (by unfold TK; omega), fr_change (by unfold TK; omega), fr_change (by unfold TK; omega)]
    exact he j (by omega)
theorem TR_apply {c : CS} {s k : Nat} (h : TR c s) (hk : k ≤ c 6 s 0) (h24 : c 6 s 0 ≤ 24) (ok : ∀ j, j < c 6 s 0 → ok4 (ec c s j).1 (ec c s j).2.1 (ec c s j).2.2.2) : TR (w_X3_applyUpTo c s k) s := by
  have e : (if Int32.ofNat (c 6 s 0) < Int32.ofNat k then c 6 s 0 else k) = k := by
    rw [if_neg]; rw [ofN_lt (by omega) (by omega)]; omega
  have ee : ec (w_X3_applyUpTo c s k) s = ec c s := by
    funext j; unfold ec
    rw [fr_apply (by unfold TK; omega), fr_apply (by unfold TK; omega), fr_apply (by unfold TK; omega), fr_apply (by unfold TK; omega)]
  unfold TR
  rw [ee, apply5 hk h24]
  have hh := TRt_apply (c := c) (s := s) (k := k) (e := ec c s) (k - c 5 s 0) (c 5 s 0) c
  unfold w_X3_applyUpTo
  rw [e]
  by_cases hle : k ≤ c 5 s 0
  · rw [show k - c 5 s 0 = 0 by omega, Nat.max_eq_right hle]; exact h
  · rw [Nat.max_eq_left (by omega)]
    have := hh (fun j _ => rfl) (by omega) (fun j _ h2 => ok j (by omega)) h
    rw [show c 5 s 0 + (k - c 5 s 0) = k by omega] at this
    exact this
theorem TR_congr {c c' : CS} {s : Nat} (h5 : c' 5 s 0 = c 5 s 0) (ht : ∀ k, TK k → c' k s = c k s) (h25 : ∀ j, j < c 5 s 0 → c' 25 s j = c 25 s j) (he : ∀ j, j < c 5 s 0 → ec c' s j = ec c s j) (h : TR c s) : TR c' s := by
  intro y0 hy
  obtain ⟨h1, h2⟩ := h y0 hy
  rw [h5, rq_congr (c 5 s 0) he]
  refine ⟨?_, fun j hj => by rw [h25 j hj]; exact h2 j hj⟩
  unfold TB cnl cnd at *
  rw [ht 7 (by unfold TK; omega), ht 8 (by unfold TK; omega), ht 26 (by unfold TK; omega), ht 27 (by unfold TK; omega), ht 28 (by unfold TK; omega), ht 29 (by unfold TK; omega)]
  exact h1
theorem TR_zero {c : CS} {s : Nat} (h5 : c 5 s 0 = 0) (h7 : c 7 s 0 = 0) (h8 : c 8 s 0 = 0) : TR c s := by
  intro y0 hy
  rw [h5]
  refine ⟨?_, fun j hj => by omega⟩
  have e1 : cnl c s = [] := by unfold cnl; rw [h7]; rfl
  have e2 : rnl y0 = [] := by unfold rnl; rw [hy.1]; rfl
  show TB c s y0 0
  unfold TB
  rw [e1, e2]
  refine ⟨List.Perm.refl _, fun n hn => (by cases hn), List.nodup_nil, by omega, by have := hy.1; omega, fun b hb => by have := hy.2 b hb; omega, ?_⟩
  unfold bitsOf; rw [h8, hy.2 1 (by decide), hy.2 2 (by decide), hy.2 3 (by decide), hy.2 4 (by decide)]
-- the reference's work is the replay
theorem work7 {a : RS} {v : Nat} : ∀ (d k : Nat) (x : RS), k + d = 5 → (∀ b, b < k → x 30 b = 0) → ∀ b, b < 5 → lpw_X7_work_7 a v d k x 30 b = 0 := by
  intro d
  induction d with
  | zero => intro k x hk h b hb; exact h b (by omega)
  | succ d ih =>
    intro k x hk h b hb
    simp only [lpw_X7_work_7]
    refine ih (k + 1) _ (by omega) (fun b' hb' => ?_) b hb
    by_cases e : b' = k
    · subst e; simp [su2]
    · simpa [su2, e] using h b' (by omega)
theorem work_fresh {a : RS} {v : Nat} : fresh0 (lpw_X7_work_7 a v 5 0 (su2 a 32 0 0)) := ⟨by rw [fr_work7 (by decide), su2_same], work7 5 0 _ rfl (fun b hb => by omega)⟩
theorem work_eq {a : RS} {v : Nat} : w_X7_work a v = rq (er a v) (lpw_X7_work_7 a v 5 0 (su2 a 32 0 0)) (a 3 v) := by
  have key : ∀ (d k : Nat), lpw_X7_work_27 a v d k (rq (er a v) (lpw_X7_work_7 a v 5 0 (su2 a 32 0 0)) k) = rq (er a v) (lpw_X7_work_7 a v 5 0 (su2 a 32 0 0)) (k + d) := by
    intro d
    induction d with
    | zero => intro k; rfl
    | succ d ih =>
      intro k
      have f : ∀ q, q < 26 → rq (er a v) (lpw_X7_work_7 a v 5 0 (su2 a 32 0 0)) k q = a q := fun q hq => by rw [fr_rq hq, fr_work7 (by omega), su2_ne (by omega)]
      have i1 := ih (k + 1)
      rw [show k + 1 + d = k + (d + 1) by omega] at i1
      rw [← i1]
      have er1 : rq (er a v) (lpw_X7_work_7 a v 5 0 (su2 a 32 0 0)) (k + 1) = su2 (rstp (rq (er a v) (lpw_X7_work_7 a v 5 0 (su2 a 32 0 0)) k) (a 6 (24 * v + k)) (a 7 (24 * v + k)) (a 8 (24 * v + k)) (a 9 (24 * v + k))) 31 k (rres (rq (er a v) (lpw_X7_work_7 a v 5 0 (su2 a 32 0 0)) k) (a 6 (24 * v + k)) (a 7 (24 * v + k)) (a 8 (24 * v + k)) (a 9 (24 * v + k))) := rfl
      rw [er1]
      clear i1 ih er1
      revert f
      generalize rq (er a v) (lpw_X7_work_7 a v 5 0 (su2 a 32 0 0)) k = Y
      intro f
      simp only [lpw_X7_work_27]
      rw [f 6 (by decide), f 7 (by decide), f 8 (by decide), f 9 (by decide)]
      unfold rstp rres
      by_cases h1 : Int32.ofNat (a 6 (24 * v + k)) = Int32.ofNat 1
      · rw [if_pos h1, if_pos h1, if_pos h1]
      · rw [if_neg h1, if_neg h1, if_neg h1]
        by_cases h2 : Int32.ofNat 3 < Int32.ofNat (a 6 (24 * v + k))
        · rw [if_pos h2, if_pos h2, if_pos h2]
          by_cases h3 : Int32.ofNat (a 6 (24 * v + k)) = Int32.ofNat 4
          · rw [if_pos h3, if_pos h3, if_pos h3]
          · rw [if_neg h3, if_neg h3, if_neg h3]
        · rw [if_neg h2, if_neg h2, if_neg h2]
          by_cases h3 : Int32.ofNat (a 6 (24 * v + k)) = Int32.ofNat 2
          · rw [if_pos h3, if_pos h3, if_pos h3]
          · rw [if_neg h3, if_neg h3, if_neg h3]
  have := key (a 3 v) 0
  rw [Nat.zero_add] at this
  exact this
theorem work_corr {c : CS} {a : RS} {v : Nat} (h : TR c v) (h5 : c 5 v 0 = a 3 v) (he : ∀ j, j < a 3 v → ec c v j = er a v j) : TB c v (w_X7_work a v) (a 3 v) ∧ ∀ j, j < a 3 v → c 25 v j = w_X7_work a v 31 j := by
  have := h _ (work_fresh (a := a) (v := v))
  rw [h5, rq_congr (a 3 v) he, ← work_eq] at this
  exact this
end REPLAY
