section TREE4
variable {x : CS} {i : Nat} {y : RS} {m : Nat}
theorem set_ok {pa va : Nat} (h : TB x i y m) (f1 : r_X5_find x i pa < x 7 i 0) (f2 : r_X7_find y pa < y 32 0) (f4 : x 26 i (r_X5_find x i pa) = pa) (f5 : y 26 (r_X7_find y pa) = pa) (hp : pa ≤ 511) : TB (su3 (su3 x 27 i (r_X5_find x i pa) va) 28 i (r_X5_find x i pa) ((x 28 i (r_X5_find x i pa)) + 1)) i (su2 (su2 y 27 (r_X7_find y pa) va) 28 (r_X7_find y pa) ((y 28 (r_X7_find y pa)) + 1)) (m + 1) := by
  refine tb_map (g := fun n => if n.1 = pa then (n.1, va, n.2.2.1 + 1, n.2.2.2) else n) h (by simp [su3]) (fun t ht => ?_) (by simp [su2]) (fun t ht => ?_) (fun n => by split <;> rfl) (fun n hn => ?_) (by simp [su3]) (by funext b; simp [su2])
  · by_cases e : t = r_X5_find x i pa
    · have : x 26 i t = pa := by rw [e]; exact f4
      rw [← e]
      simp [cnd, su3, this]
    · have : ¬ x 26 i t = pa := fun q => e (cnl_inj h.2.2.1 ht f1 (q.trans f4.symm))
      simp [cnd, su3, e, this]
  · by_cases e : t = r_X7_find y pa
    · have : y 26 t = pa := by rw [e]; exact f5
      rw [← e]
      simp [rnd, su2, this]
    · have : ¬ y 26 t = pa := fun q => e (rnl_inj h ht f2 (by rw [q]; omega) (q.trans f5.symm))
      simp [rnd, su2, e, this]
  · have h3 := hn.2.2.1
    show okn (m + 1) (if n.1 = pa then (n.1, va, n.2.2.1 + 1, n.2.2.2) else n)
    split
    · exact ⟨hn.1, hn.2.1, by show n.2.2.1 + 1 ≤ m + 1; omega, hn.2.2.2⟩
    · exact ⟨hn.1, hn.2.1, by omega, hn.2.2.2⟩
theorem del_ok {pa : Nat} (h : TB x i y m) (f1 : r_X5_find x i pa < x 7 i 0) (f2 : r_X7_find y pa < y 32 0) (f4 : x 26 i (r_X5_find x i pa) = pa) (f5 : y 26 (r_X7_find y pa) = pa) (hp : pa ≤ 511) : TB (w_X5_remove x i (r_X5_find x i pa)) i (su2 y 26 (r_X7_find y pa) 4294967295) (m + 1) := by
  have e1 := erase_filter h.2.2.1 (cnl_at f1)
  have e2 : (cnd x i (r_X5_find x i pa)).1 = pa := f4
  rw [e2] at e1
  refine tb_kill (q := fun n => n.1 != pa) h (by rw [← e1]; exact cnl_remove f1) ?_ (by rw [remove_size]; omega) (by simp [su2]) (fun b hb => by simpa [su2] using h.2.2.2.2.2.1 b hb) ?_
  · refine rnl_kill (S := fun t => decide (t = r_X7_find y pa)) (by simp [su2]) (fun t ht hS => ?_) (fun t ht hS => ?_) (fun t ht hl => ?_)
    · have : t = r_X7_find y pa := of_decide_eq_true hS
      subst this; simp [su2]
    · have : ¬ t = r_X7_find y pa := of_decide_eq_false hS
      simp [rnd, su2, this]
    · show (y 26 t != pa) = !decide (t = r_X7_find y pa)
      by_cases e : t = r_X7_find y pa
      · have : y 26 t = pa := by rw [e]; exact f5
        rw [this, decide_eq_true e]; simp
      · have : y 26 t ≠ pa := fun q => e (rnl_inj h ht f2 hl (q.trans f5.symm))
        rw [decide_eq_false e]; simp [this]
  · have : w_X5_remove x i (r_X5_find x i pa) 8 i 0 = x 8 i 0 := by unfold w_X5_remove; simp [su3]
    rw [this, h.2.2.2.2.2.2]; unfold bitsOf; simp [su2]
theorem ver_corr {pa : Nat} (f3 : cnd x i (r_X5_find x i pa) = rnd y (r_X7_find y pa)) : x 28 i (r_X5_find x i pa) = y 28 (r_X7_find y pa) := congrArg (fun n : ND => n.2.2.1) f3
theorem set_corr {pa va ve : Nat} (h : TB x i y m) (hm : m < 24) (hp : 1 ≤ pa ∧ pa ≤ 511) : r_X5_set x i pa va ve = r_X7_alter y 1 pa va ve ∧ TB (w_X5_set x i pa va ve) i (w_X7_alter y 1 pa va ve) (m + 1) := by
  have hs := tb_mono h (Nat.le_succ m)
  have h7 := h.2.2.2.1
  have h32 := h.2.2.2.2.1
  have d1 : ¬ Int32.ofNat 1 = 0 := by decide
  have d2 : ¬ (0 : Int32) ≤ Int32.ofNat 4294967295 := by decide
  unfold r_X5_set r_X7_alter w_X5_set w_X7_alter
  rcases find_corr (pa := pa) h hp.2 with ⟨f1, f2, f3⟩ | ⟨f1, f2, f3, f4, f5⟩
  · rw [f1, f2]; simp only [d2, ↓reduceIte]; exact ⟨trivial, hs⟩
  · have nf : ¬ Int32.ofNat (r_X5_find x i pa) = Int32.ofNat 4294967295 := fun q => by have := (code_inj (by omega) (by decide)).mp q; omega
    have n3 : (0 : Int32) ≤ Int32.ofNat (r_X7_find y pa) := ge0_code (by omega)
    have ok := set_ok (va := va) h f1 f2 f4 f5 hp.2
    have ev := ver_corr f3
    simp only [nf, n3, d1, ↓reduceIte]
    by_cases e : Int32.ofNat ve = Int32.ofNat 4294967295
    · simp only [if_pos e]; exact ⟨trivial, ok⟩
    · simp only [if_neg e]
      by_cases e2 : Int32.ofNat ve = Int32.ofNat (x 28 i (r_X5_find x i pa))
      · have e3 : Int32.ofNat ve = Int32.ofNat (y 28 (r_X7_find y pa)) := by rw [← ev]; exact e2
        simp only [if_pos e2, if_pos e3]; exact ⟨trivial, ok⟩
      · have e3 : ¬ Int32.ofNat ve = Int32.ofNat (y 28 (r_X7_find y pa)) := by rw [← ev]; exact e2
        simp only [if_neg e2, if_neg e3]; exact ⟨trivial, hs⟩
theorem del_corr {pa va ve : Nat} (h : TB x i y m) (hm : m < 24) (hp : 1 ≤ pa ∧ pa ≤ 511) : r_X5_delete x i pa ve = r_X7_alter y 0 pa va ve ∧ TB (w_X5_delete x i pa ve) i (w_X7_alter y 0 pa va ve) (m + 1) := by
  have hs := tb_mono h (Nat.le_succ m)
  have h7 := h.2.2.2.1
  have h32 := h.2.2.2.2.1
  have d1 : Int32.ofNat 0 = 0 := rfl
  have d2 : ¬ (0 : Int32) ≤ Int32.ofNat 4294967295 := by decide
  unfold r_X5_delete r_X7_alter w_X5_delete w_X7_alter
  rcases find_corr (pa := pa) h hp.2 with ⟨f1, f2, f3⟩ | ⟨f1, f2, f3, f4, f5⟩
  · rw [f1, f2]; simp only [d2, ↓reduceIte]; exact ⟨trivial, hs⟩
  · have nf : ¬ Int32.ofNat (r_X5_find x i pa) = Int32.ofNat 4294967295 := fun q => by have := (code_inj (by omega) (by decide)).mp q; omega
    have n3 : (0 : Int32) ≤ Int32.ofNat (r_X7_find y pa) := ge0_code (by omega)
    have ok := del_ok h f1 f2 f4 f5 hp.2
    have ev := ver_corr f3
    have fin : (if Int32.ofNat (r_X5_countChildren x i pa) ≤ 0 then 0 else 4) = (if Int32.ofNat (r_X7_children y pa) ≤ 0 then 0 else 4) ∧ TB (if Int32.ofNat (r_X5_countChildren x i pa) ≤ 0 then w_X5_remove x i (r_X5_find x i pa) else x) i (if Int32.ofNat (r_X7_children y pa) ≤ 0 then su2 y 26 (r_X7_find y pa) 4294967295 else y) (m + 1) := by
      rw [children_corr h]
      by_cases e : Int32.ofNat (r_X7_children y pa) ≤ 0
      · simp only [if_pos e]; exact ⟨trivial, ok⟩
      · simp only [if_neg e]; exact ⟨trivial, hs⟩
    simp only [nf, n3, d1, ↓reduceIte]
    by_cases e : Int32.ofNat ve = Int32.ofNat 4294967295
    · simp only [if_pos e]; exact fin
    · simp only [if_neg e]
      by_cases e2 : Int32.ofNat ve = Int32.ofNat (x 28 i (r_X5_find x i pa))
      · have e3 : Int32.ofNat ve = Int32.ofNat (y 28 (r_X7_find y pa)) := by rw [← ev]; exact e2
        simp only [if_pos e2, if_pos e3]; exact fin
      · have e3 : ¬ Int32.ofNat ve = Int32.ofNat (y 28 (r_X7_find y pa)) := by rw [← ev]; exact e2
        simp only [if_neg e2, if_neg e3]; exact ⟨trivial, hs⟩
-- sessions
theorem bset_y {b v : Nat} (h1 : 1 ≤ b) (h4 : b ≤ 4) : bset (y 30 1) (y 30 2) (y 30 3) (y 30 4) b v = bitsOf (su2 y 30 b v) := by
  rcases (by omega : b = 1 ∨ b = 2 ∨ b = 3 ∨ b = 4) with e | e | e | e <;> subst e <;> rfl
theorem sess_open_lp {a : RS} {b : Nat} : ∀ (d k : Nat) (z : RS), lpw_X7_session_30 a 1 b d k z = z := by
  intro d
  induction d with
  | zero => intro k z; rfl
  | succ d ih => intro k z; simp only [lpw_X7_session_30]; rw [if_neg (by decide)]; exact ih _ _
theorem open_step {b : Nat} (h : TB x i y m) (h1 : 1 ≤ b) (h4 : b ≤ 4) : r_X5_open x i b = r_X7_session y 1 b ∧ TB (w_X5_open x i b) i (w_X7_session y 1 b) (m + 1) := by
  have hs := tb_mono h (Nat.le_succ m)
  have oc := open_corr h h1 h4
  have hy := h.2.2.2.2.2.1 b (by omega)
  unfold r_X5_open r_X7_session w_X5_open w_X7_session
  by_cases e : y 30 b = 0
  · have e1 : ¬ Int32.ofNat (y 30 b) = Int32.ofNat 1 := by rw [e]; decide
    rw [if_pos (oc.mpr e), if_pos (oc.mpr e), if_neg e1, if_neg e1, sess_open_lp]
    refine ⟨rfl, ?_⟩
    obtain ⟨g1, g2, g3, g4, g8⟩ := tb_bits h
    obtain ⟨t1, t2, t3, t4, t5, t6, t7⟩ := hs
    refine ⟨t1, t2, t3, t4, t5, fun c hc => ?_, ?_⟩
    · by_cases ec : c = b
      · subst ec; simp [su2]
      · simpa [su2, ec] using t6 c hc
    · rw [su3_same, g8, bits_or g1 g2 g3 g4 h1 h4, bset_y h1 h4]
  · have e1 : y 30 b = 1 := by omega
    rw [if_neg (fun q => e (oc.mp q)), if_neg (fun q => e (oc.mp q)), e1, if_pos rfl, if_pos rfl, if_neg (by decide)]
    exact ⟨rfl, hs⟩
theorem sess_close_lp {a : RS} {b : Nat} : ∀ (d k : Nat) (z : RS), (∀ t, (lpw_X7_session_30 a 0 b d k z) 26 t = if k ≤ t ∧ t < k + d ∧ Int32.ofNat (z 29 t) = Int32.ofNat b then 4294967295 else z 26 t) ∧ (∀ q, q ≠ 26 → (lpw_X7_session_30 a 0 b d k z) q = z q) := by
  intro d
  induction d with
  | zero => intro k z; exact ⟨fun t => by rw [if_neg (by omega)]; rfl, fun q _ => rfl⟩
  | succ d ih =>
    intro k z
    have d0 : Int32.ofNat 0 = 0 := rfl
    simp only [lpw_X7_session_30, if_pos d0]
    by_cases e : Int32.ofNat (z 29 k) = Int32.ofNat b
    · rw [if_pos e]
      have := ih (k + 1) (su2 z 26 k 4294967295)
      refine ⟨fun t => ?_, fun q hq => by rw [this.2 q hq, su2_ne hq]⟩
      rw [this.1 t, su2_ne (by decide)]
      by_cases et : t = k
      · subst et; rw [if_neg (by omega), if_pos ⟨Nat.le_refl _, by omega, e⟩]; simp [su2]
      · by_cases ec : k + 1 ≤ t ∧ t < k + 1 + d ∧ Int32.ofNat (z 29 t) = Int32.ofNat b
        · rw [if_pos ec, if_pos ⟨by omega, by omega, ec.2.2⟩]
        · rw [if_neg ec, if_neg (fun q => ec ⟨by omega, by omega, q.2.2⟩)]; simp [su2, et]
    · rw [if_neg e]
      have := ih (k + 1) z
      refine ⟨fun t => ?_, this.2⟩
      rw [this.1 t]
      by_cases et : t = k
      · subst et; rw [if_neg (by omega), if_neg (fun q => e q.2.2)]
      · by_cases ec : k + 1 ≤ t ∧ t < k + 1 + d ∧ Int32.ofNat (z 29 t) = Int32.ofNat b
        · rw [if_pos ec, if_pos ⟨by omega, by omega, ec.2.2⟩]
        · rw [if_neg ec, if_neg (fun q => ec ⟨by omega, by omega, q.2.2⟩)]
theorem close_lp {c : CS} {b : Nat} (hb : b ≤ 4) : ∀ (d k : Nat) (z : CS), (k = if d = 0 then 4294967295 else d - 1) → d ≤ z 7 i 0 → (∀ n ∈ cnl z i, n.2.2.2 ≤ 4) → (∀ t, d ≤ t → t < z 7 i 0 → z 29 i t ≠ b) →
    ((cnl (lpw_X5_close_18 c i b d k z) i).Perm ((cnl z i).filter (fun n => n.2.2.2 != b))) ∧ lpw_X5_close_18 c i b d k z 7 i 0 ≤ z 7 i 0 ∧ lpw_X5_close_18 c i b d k z 8 i 0 = z 8 i 0 := by
  intro d
  induction d with
  | zero =>
    intro k z _ _ _ ht
    refine ⟨?_, Nat.le_refl _, rfl⟩
    show (cnl z i).Perm _
    rw [List.filter_eq_self.mpr]
    intro n hn
    obtain ⟨t, h1, rfl⟩ := mem_cnl.mp hn
    simpa [cnd] using ht t (by omega) h1
  | succ d ih =>
    intro k z hk hd ho ht
    have hk' : k = d := by simpa using hk
    subst hk'
    simp only [lpw_X5_close_18]
    have ok : z 29 i k ≤ 4 := ho (cnd z i k) (mem_cnl.mpr ⟨k, by omega, rfl⟩)
    by_cases e : z 29 i k = b
    · rw [if_pos (by rw [e])]
      have h7 : w_X5_remove z i k 7 i 0 = z 7 i 0 - 1 := remove_size
      have hp := cnl_remove (x := z) (i := i) (t := k) (by omega)
      have h8 : w_X5_remove z i k 8 i 0 = z 8 i 0 := by unfold w_X5_remove; simp [su3]
      have := ih (if k = 0 then 4294967295 else k - 1) (w_X5_remove z i k) rfl (by omega) (fun n hn => by
        exact ho n (List.mem_of_mem_eraseIdx (hp.mem_iff.mp hn))) (fun t h1 h2 => by
        have hc : w_X5_remove z i k 29 i t = if t = k then z 29 i (z 7 i 0 - 1) else z 29 i t := by
          have := congrArg (fun n : ND => n.2.2.2) (cnd_remove (x := z) (i := i) (t := k) (j := t))
          simp only [cnd] at this
          rw [this]; split <;> rfl
        rw [hc]
        split
        · exact ht _ (by omega) (by omega)
        · exact ht t (by omega) (by omega))
      refine ⟨this.1.trans ?_, by omega, this.2.2.trans h8⟩
      have hf := hp.filter (fun n : ND => n.2.2.2 != b)
      refine hf.trans ?_
      have hsplit : (cnl z i).Perm (cnd z i k :: (cnl z i).eraseIdx k) := by
        have hl : k < (cnl z i).length := by unfold cnl; simp; omega
        have hg : (cnl z i)[k]? = some (cnd z i k) := cnl_at (by omega)
        have := set_perm (l := cnl z i) (cnd z i k) hl
        have hset : (cnl z i).set k (cnd z i k) = cnl z i := by
          apply List.ext_getElem?
          intro j
          rw [List.getElem?_set]
          split
          · rename_i ej; subst ej; exact hg.symm
          · rfl
        rw [hset] at this
        exact this
      have := hsplit.filter (fun n : ND => n.2.2.2 != b)
      rw [List.filter_cons_of_neg (by show ¬ (z 29 i k != b) = true; rw [e]; simp)] at this
      exact this.symm
    · rw [if_neg (fun q => e ((code_inj (by omega) (by omega)).mp q))]
      exact ih _ z rfl (by omega) ho (fun t h1 h2 => by
        by_cases et : t = k
        · rw [et]; exact e
        · exact ht t (by omega) h2)
end TREE4
