section UPD
variable {T : Nat} {c : CS} {a : RS}
theorem su3_comm {k i j v k' i' j' v' : Nat} (h : k ≠ k') : su3 (su3 c k i j v) k' i' j' v' = su3 (su3 c k' i' j' v') k i j v := by
  funext x y z; simp only [su3]
  by_cases e : x = k'
  · have e2 : ¬ x = k := by omega
    simp only [if_pos e, if_neg e2]
  · simp only [if_neg e]
theorem fill_eq {i v : Nat} : w_XA_fill c i v = su3 (su3 (su3 (su3 (su3 c 34 i 0 v) 34 i 1 v) 34 i 2 v) 34 i 3 v) 34 i 4 v := rfl
theorem fill_comm {f g : Nat} : su3 (w_XA_fill (su3 c 3 g 0 4) g 0) 10 f 0 1 = w_XA_fill (su3 (su3 c 10 f 0 1) 3 g 0 4) g 0 := by
  rw [fill_eq, fill_eq, su3_comm (k := 34) (k' := 10) (by decide), su3_comm (k := 34) (k' := 10) (by decide), su3_comm (k := 34) (k' := 10) (by decide), su3_comm (k := 34) (k' := 10) (by decide), su3_comm (k := 34) (k' := 10) (by decide), su3_comm (k := 3) (k' := 10) (by decide)]
theorem est35 {b : RS} {f g k : Nat} : lpw_X7_acknowledged_35 b f g k 5 0 a = su2 (su2 (su2 (su2 (su2 a 13 (5 * g + 0) 0) 13 (5 * g + 1) 0) 13 (5 * g + 2) 0) 13 (5 * g + 3) 0) 13 (5 * g + 4) 0 := rfl
theorem p_est {b : RS} {f g k : Nat} (h : Sim c a) (hg : g < 3) (hr : a 0 g = 3) : Sim (w_XA_fill (su3 c 3 g 0 4) g 0) (lpw_X7_acknowledged_35 b f g k 5 0 (su2 a 0 g 4)) := by
  rw [fill_eq, est35]
  intro s hs
  obtain ⟨g1, g2, g3, g4, g5, g6, g7, g8⟩ := h s hs
  by_cases e : s = g
  · subst e
    have e0 : (su2 (su2 (su2 (su2 (su2 (su2 a 0 s 4) 13 (5 * s + 0) 0) 13 (5 * s + 1) 0) 13 (5 * s + 2) 0) 13 (5 * s + 3) 0) 13 (5 * s + 4) 0) 0 s = 4 := by simp [su2]
    refine ⟨⟨by rw [e0]; simp [su3], g1.2⟩, g2, fun _ => g3 (by omega), ?_, ?_, ?_, fun _ => g7 (by omega), ?_⟩
    · intro h2; rw [e0] at h2; omega
    · intro h2; rw [e0] at h2; omega
    · intro h2; rw [e0] at h2; omega
    · intro _ t ht
      rcases (by omega : t = 0 ∨ t = 1 ∨ t = 2 ∨ t = 3 ∨ t = 4) with e | e | e | e | e <;> subst e <;> simp [su3, su2]
  · have k1 : ∀ q j, (su3 (su3 (su3 (su3 (su3 (su3 c 3 g 0 4) 34 g 0 0) 34 g 1 0) 34 g 2 0) 34 g 3 0) 34 g 4 0) q s j = c q s j := by intro q j; simp [su3, e]
    have k2 : (su2 (su2 (su2 (su2 (su2 (su2 a 0 g 4) 13 (5 * g + 0) 0) 13 (5 * g + 1) 0) 13 (5 * g + 2) 0) 13 (5 * g + 3) 0) 13 (5 * g + 4) 0) 0 s = a 0 s := by simp [su2, e]
    refine ⟨?_, ?_, ?_, ?_, ?_, ?_, ?_, ?_⟩
    · unfold sA; rw [k1, k1, k1, k1, k1, k1, k2]; exact g1
    · intro j hj; rw [k1, k1, k1, k1, k1]; exact g2 j hj
    · intro h2; rw [k2] at h2; rw [k1, k1, k1]; exact g3 h2
    · intro h2; rw [k2] at h2; rw [k1, k1, k1, k1, k1, k1, k1, k1]; exact g4 h2
    · intro h2 j hj; rw [k2] at h2; rw [k1, k1]; exact g5 h2 j hj
    · intro h2 j hj; rw [k2] at h2; rw [k1, k1]; exact g6 h2 j hj
    · intro h2; rw [k2] at h2; rw [k1, k1, k1, k1, k1, k1, k1]; exact g7 h2
    · intro h2 t ht; rw [k2] at h2; rw [k1]
      have : (su2 (su2 (su2 (su2 (su2 (su2 a 0 g 4) 13 (5 * g + 0) 0) 13 (5 * g + 1) 0) 13 (5 * g + 2) 0) 13 (5 * g + 3) 0) 13 (5 * g + 4) 0) 13 (5 * s + t) = a 13 (5 * s + t) := by
        have n0 : ¬ 5 * s + t = 5 * g + 0 := by omega
        have n1 : ¬ 5 * s + t = 5 * g + 1 := by omega
        have n2 : ¬ 5 * s + t = 5 * g + 2 := by omega
        have n3 : ¬ 5 * s + t = 5 * g + 3 := by omega
        have n4 : ¬ 5 * s + t = 5 * g + 4 := by omega
        simp only [su2, if_neg n0, if_neg n1, if_neg n2, if_neg n3, if_neg n4, ↓reduceIte, Nat.reduceEqDiff, ite_self]
      rw [this]; exact g8 h2 t ht
theorem inv_est {b : RS} {f g k : Nat} (h : Inv T c a) (hg : g < 3) (hr : a 0 g = 3) (hs : a 11 g ≠ 0) : Inv T (w_XA_fill (su3 c 3 g 0 4) g 0) (lpw_X7_acknowledged_35 b f g k 5 0 (su2 a 0 g 4)) := by
  obtain ⟨h1, h2, h3, h4, h5, h6⟩ := h
  refine ⟨cb_XA_fill (cb_su h1 (bnd_no (by decide))), p_est h2 hg hr, ?_, fun s hs => ?_, h5, ?_⟩
  · rw [est35]; exact j_13 (j_13 (j_13 (j_13 (j_13 (j_est h3 hr hs)))))
  · refine tr_frame (h4 s hs) (fun q hq => ?_)
    unfold TK at hq
    rw [fill_eq, su3_ne (by omega), su3_ne (by omega), su3_ne (by omega), su3_ne (by omega), su3_ne (by omega), su3_ne (by omega)]
  · refine bd_of h6 (fun s hs => (h6 s hs).1) (fun s hs => (h6 s hs).2.1) (fun s hs => (h6 s hs).2.2.1) (fun s hs => (h6 s hs).2.2.2.1) (fun s hs => (h6 s hs).2.2.2.2.1) rfl (fun s hs => ?_) (fun s hs q => (h6 s hs).2.2.2.2.2.2.1 q) (fun s hs q => ⟨rfl, rfl, rfl, rfl⟩)
    show (if s = g then 4 else a 0 s) = 2 ↔ a 0 s = 2
    by_cases e : s = g
    · rw [if_pos e, e, hr]; decide
    · rw [if_neg e]
theorem inv_readH (h : Inv T c a) {v : Nat} (hv : v < 3) (hr : a 0 v = 2) (hu : 1 ≤ a 21 v) (hu2 : a 21 v < a 20 v) : Inv T (su3 (w_X2_dropFirst_u c v) 10 v 0 1) (su2 (su2 a 21 v (a 21 v + 1)) 17 v 1) := by
  have rws := j_rows h.2.2.1 hv hr
  obtain ⟨h1, h2, h3, h4, h5, h6⟩ := h
  refine ⟨cb_su (cb_X2_dropFirst_u h1) (bnd_no (by decide)), p_heard (p_dropU h2 hv hr hu2 (by omega)) hv hr, j_readH h3 hv hr hu hu2, fun s hs => ?_, h5, ?_⟩
  · refine tr_frame (h4 s hs) (fun k hk => ?_)
    unfold TK at hk
    rw [su3_ne (by omega), fr_dropu (by omega)]
  · refine bd_of h6 (fun s hs => (h6 s hs).1) (fun s hs => (h6 s hs).2.1) (fun s hs => (h6 s hs).2.2.1) (fun s hs => (h6 s hs).2.2.2.1) (fun s hs => ?_) rfl (fun s hs => Iff.rfl) (fun s hs q => (h6 s hs).2.2.2.2.2.2.1 q) (fun s hs q => ?_)
    · have := (h6 s hs).2.2.2.2.1
      show (if s = v then 1 else a 17 s) ≤ 1
      split <;> omega
    · have ne : s ≠ v := fun e => q (by rw [e]; exact hr)
      refine ⟨rfl, ?_, rfl, rfl⟩
      show (if s = v then a 21 v + 1 else a 21 s) = a 21 s
      rw [if_neg ne]
-- the sends on the tied links
def snd (g kd vr : Nat) : Nat → Nat → RS → RS
  | 0, _, x => x
  | d + 1, t, x => if Int32.ofNat (r_X7_follows x t g) = 0 then (snd g kd vr d (t + 1) x) else (if Int32.ofNat (x 16 t) = 0 then (snd g kd vr d (t + 1) x) else (snd g kd vr d (t + 1) (w_X7_sendDown x t kd vr)))
theorem snd79 {b : RS} {f g k : Nat} : ∀ (d t : Nat) (x : RS), lpw_X7_acknowledged_79 b f g k d t x = snd g 7 k d t x := by
  intro d
  induction d with
  | zero => intro t x; rfl
  | succ d ih => intro t x; simp only [lpw_X7_acknowledged_79, snd, ih]
theorem snd84 {b : RS} {g kd pa va vb : Nat} : ∀ (d t : Nat) (x : RS), lpw_X7_make_84 b g kd pa va vb d t x = snd g 6 (x 4 g) d t x := by
  intro d
  induction d with
  | zero => intro t x; rfl
  | succ d ih =>
    intro t x
    simp only [lpw_X7_make_84, snd, ih]
    rw [fr_sendDown (q := 4) (by decide)]
theorem fr_snd {g kd vr q : Nat} (hq : q ≠ 22 ∧ q ≠ 23 ∧ q ≠ 24) : ∀ (d t : Nat) (x : RS), snd g kd vr d t x q = x q := by
  intro d
  induction d with
  | zero => intro t x; rfl
  | succ d ih =>
    intro t x
    simp only [snd]
    split
    · exact ih _ _
    · split
      · exact ih _ _
      · rw [ih, fr_sendDown hq]
theorem fr_tied {g kd vl k i : Nat} (hq : k ≠ 15 ∧ k ≠ 32 ∧ k ≠ 33) : w_X6_sendOnTiedLinks c g kd vl k i = c k i := by
  have key : ∀ (d t : Nat) (x : CS), lpw_X6_sendOnTiedLinks_3 c g kd vl d t x k i = x k i := by
    intro d
    induction d with
    | zero => intro t x; rfl
    | succ d ih =>
      intro t x
      simp only [lpw_X6_sendOnTiedLinks_3]
      split
      · exact ih _ _
      · split
        · exact ih _ _
        · rw [ih, fr_sendd hq]
  unfold w_X6_sendOnTiedLinks; exact key _ _ _
theorem fol_iff (h : Sim c a) {k v : Nat} (hk : k < 3) (hv : v < 3) (b : a 0 k ≤ 4) (d : a 14 k < 3) : (Int32.ofNat (r_X6_isFollowerOf c k v) = 0 ↔ ¬ (a 0 k = 2 ∧ a 14 k = v)) ∧ (Int32.ofNat (r_X7_follows a k v) = 0 ↔ ¬ (a 0 k = 2 ∧ a 14 k = v)) := by
  have s := h k hk
  have e3 : c 3 k 0 = a 0 k := s.1.1
  have ev : c 0 v 0 = v := (h v hv).1.2.2.2.2.2
  unfold r_X6_isFollowerOf r_X7_follows
  rw [e3, ev]
  by_cases e : a 0 k = 2
  · have e4 : c 4 k 0 = a 14 k := (s.2.2.2.1 e).1
    have n : Int32.ofNat (a 0 k) = Int32.ofNat 2 := by rw [e]
    rw [if_pos n, if_pos n, e4]
    by_cases e2 : a 14 k = v
    · have n2 : Int32.ofNat (a 14 k) = Int32.ofNat v := by rw [e2]
      rw [if_pos n2]; simp [e, e2]
    · have n2 : ¬ Int32.ofNat (a 14 k) = Int32.ofNat v := fun q => e2 ((ofN_eq (by omega) (by omega)).mp q)
      rw [if_neg n2]; simp [e, e2]
  · have n : ¬ Int32.ofNat (a 0 k) = Int32.ofNat 2 := fun q => e ((ofN_eq (by omega) (by decide)).mp q)
    rw [if_neg n, if_neg n]; simp [e]
-- what the sends leave: Sim, and the rows of the tied links one longer
theorem p_snd {c1 : CS} {g kd vl vr : Nat} (hg : g < 3) (hv : vl = vr + (if kd = 6 then 1 else 0)) : ∀ (d k : Nat) (x : CS) (y : RS), k + d = 3 → Sim x y → (∀ q, q < 3 → y 16 q ≤ 1 ∧ y 0 q ≤ 4 ∧ y 14 q < 3 ∧ y 24 q ≤ 64) → (∀ q, k ≤ q → q < 3 → y 0 q = 2 → y 14 q = g → y 16 q ≠ 0 → y 24 q < 51) →
    Sim (lpw_X6_sendOnTiedLinks_3 c1 g kd vl d k x) (snd g kd vr d k y) ∧ (∀ q, q < k ∨ 3 ≤ q ∨ ¬ (y 0 q = 2 ∧ y 14 q = g ∧ y 16 q ≠ 0) → snd g kd vr d k y 24 q = y 24 q ∧ ∀ p j, j < 64 → p = 22 ∨ p = 23 → snd g kd vr d k y p (64 * q + j) = y p (64 * q + j)) ∧
    (∀ q, k ≤ q → q < 3 → y 0 q = 2 → y 14 q = g → y 16 q ≠ 0 → snd g kd vr d k y 24 q = y 24 q + 1 ∧ snd g kd vr d k y 22 (64 * q + y 24 q) = kd ∧ snd g kd vr d k y 23 (64 * q + y 24 q) = vr ∧ ∀ p j, j < y 24 q → p = 22 ∨ p = 23 → snd g kd vr d k y p (64 * q + j) = y p (64 * q + j)) := by
  intro d
  induction d with
  | zero => intro k x y hk h _ _; exact ⟨h, fun q _ => ⟨rfl, fun _ _ _ _ => rfl⟩, fun q h1 h2 => by omega⟩
  | succ d ih =>
    intro k x y hk h hb hc
    have hk3 : k < 3 := by omega
    have bk := hb k hk3
    have fi := fol_iff h hk3 hg bk.2.1 bk.2.2.1
    simp only [lpw_X6_sendOnTiedLinks_3, snd]
    have skip : ¬ (y 0 k = 2 ∧ y 14 k = g ∧ y 16 k ≠ 0) → Sim (lpw_X6_sendOnTiedLinks_3 c1 g kd vl d (k + 1) x) (snd g kd vr d (k + 1) y) ∧ (∀ q, q < k ∨ 3 ≤ q ∨ ¬ (y 0 q = 2 ∧ y 14 q = g ∧ y 16 q ≠ 0) → snd g kd vr d (k + 1) y 24 q = y 24 q ∧ ∀ p j, j < 64 → p = 22 ∨ p = 23 → snd g kd vr d (k + 1) y p (64 * q + j) = y p (64 * q + j)) ∧
        (∀ q, k ≤ q → q < 3 → y 0 q = 2 → y 14 q = g → y 16 q ≠ 0 → snd g kd vr d (k + 1) y 24 q = y 24 q + 1 ∧ snd g kd vr d (k + 1) y 22 (64 * q + y 24 q) = kd ∧ snd g kd vr d (k + 1) y 23 (64 * q + y 24 q) = vr ∧ ∀ p j, j < y 24 q → p = 22 ∨ p = 23 → snd g kd vr d (k + 1) y p (64 * q + j) = y p (64 * q + j)) := by
      intro hn
      obtain ⟨i1, i2, i3⟩ := ih (k + 1) x y (by omega) h hb (fun q h1 => hc q (by omega))
      refine ⟨i1, fun q hq => i2 q (by omega), fun q h1 h2 h3 h4 h5 => i3 q ?_ h2 h3 h4 h5⟩
      rcases Nat.lt_or_ge k q with e | e
      · exact e
      · have : q = k := by omega
        subst this; exact absurd ⟨h3, h4, h5⟩ hn
    by_cases e : y 0 k = 2 ∧ y 14 k = g
    · rw [if_neg (fun q => (fi.1.mp q) e), if_neg (fun q => (fi.2.mp q) e)]
      have e9 : x 9 k 0 = y 16 k := ((h k hk3).2.2.2.1 e.1).2.2.1
      rw [e9]
      by_cases ew : y 16 k = 0
      · have n : Int32.ofNat (y 16 k) = 0 := by rw [ew]; rfl
        rw [if_pos n, if_pos n]
        exact skip (fun q => q.2.2 ew)
      · have n : ¬ Int32.ofNat (y 16 k) = 0 := fun q => ew ((eq0_code (by omega)).mp q)
        rw [if_neg n, if_neg n]
        have b51 := hc k (Nat.le_refl _) hk3 e.1 e.2 ew
        have st := p_sendD (kd := kd) h hk3 e.1 b51 (fun s hs => (hb s hs).2.2.2) hv
        have fr : ∀ q, q ≠ 22 ∧ q ≠ 23 ∧ q ≠ 24 → w_X7_sendDown y k kd vr q = y q := fun q hq => fr_sendDown hq
        have s24 : ∀ q, w_X7_sendDown y k kd vr 24 q = if q = k then y 24 k + 1 else y 24 q := fun q => by unfold w_X7_sendDown; simp only [su2]; split <;> simp_all
        have so : ∀ p q j, p = 22 ∨ p = 23 → j < 64 → q ≠ k ∨ j ≠ y 24 k → w_X7_sendDown y k kd vr p (64 * q + j) = y p (64 * q + j) := fun p q j hp hj hne => by
          have ne : ¬ 64 * q + j = 64 * k + y 24 k := by omega
          rcases hp with e | e <;> subst e <;> unfold w_X7_sendDown <;> simp only [su2] <;> simp [ne]
        have sn : w_X7_sendDown y k kd vr 22 (64 * k + y 24 k) = kd ∧ w_X7_sendDown y k kd vr 23 (64 * k + y 24 k) = vr := by
          unfold w_X7_sendDown; simp [su2]
        obtain ⟨i1, i2, i3⟩ := ih (k + 1) _ _ (by omega) st (fun q hq => by
            rw [fr 16 (by decide), fr 0 (by decide), fr 14 (by decide), s24]
            have := hb q hq
            refine ⟨this.1, this.2.1, this.2.2.1, ?_⟩
            split <;> omega) (fun q h1 h2 => by
            rw [fr 16 (by decide), fr 0 (by decide), fr 14 (by decide), s24, if_neg (by omega)]
            exact hc q (by omega) h2)
        rw [fr 16 (by decide), fr 0 (by decide), fr 14 (by decide)] at i2 i3
        refine ⟨i1, fun q hq => ?_, fun q h1 h2 h3 h4 h5 => ?_⟩
        · have nk : q ≠ k := fun eq => by
            subst eq
            rcases hq with hq | hq | hq
            · omega
            · omega
            · exact hq ⟨e.1, e.2, ew⟩
          obtain ⟨j1, j2⟩ := i2 q (by omega)
          rw [j1, s24, if_neg nk]
          exact ⟨rfl, fun p j hj hp => by rw [j2 p j hj hp, so p q j hp hj (Or.inl nk)]⟩
        · by_cases eq : q = k
          · subst eq
            obtain ⟨j1, j2⟩ := i2 q (Or.inl (Nat.lt_succ_self _))
            rw [j1, s24, if_pos rfl]
            have b64 := bk.2.2.2
            refine ⟨rfl, ?_, ?_, fun p j hj hp => ?_⟩
            · rw [j2 22 _ (by omega) (Or.inl rfl)]; exact sn.1
            · rw [j2 23 _ (by omega) (Or.inr rfl)]; exact sn.2
            · rw [j2 p j (by omega) hp, so p q j hp (by omega) (Or.inr (by omega))]
          · have b2 := hc q h1 h2 h3 h4 h5
            obtain ⟨j1, j2, j3, j4⟩ := i3 q (by omega) h2 h3 h4 h5
            rw [s24, if_neg eq] at j1 j2 j3 j4
            refine ⟨j1, j2, j3, fun p j hj hp => ?_⟩
            rw [j4 p j hj hp, so p q j hp (by omega) (Or.inl eq)]
    · rw [if_pos (fi.1.mpr e), if_pos (fi.2.mpr e)]
      exact skip (fun q => e ⟨q.1, q.2.1⟩)
end UPD
