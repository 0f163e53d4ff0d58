section TREE3
variable {x : CS} {i : Nat} {y : RS} {m : Nat}
theorem tb_mono {n : Nat} (h : TB x i y m) (hn : m ≤ n) : TB x i y n := by
  obtain ⟨h1, h2, h3, h4, h5, h6, h7⟩ := h
  exact ⟨h1, fun z hz => ⟨(h2 z hz).1, (h2 z hz).2.1, Nat.le_trans (h2 z hz).2.2.1 hn, (h2 z hz).2.2.2⟩, h3, by omega, by omega, h6, h7⟩
theorem lt0_code {k : Nat} (h : k < 2147483648) : ¬ Int32.ofNat k < 0 := nonneg_code h
theorem ge0_code {k : Nat} (h : k < 2147483648) : 0 ≤ Int32.ofNat k := by
  rw [show (0 : Int32) = Int32.ofNat 0 from rfl, ofN_le (by decide) h]; omega
theorem eq0_code {k : Nat} (h : k < 4294967296) : Int32.ofNat k = 0 ↔ k = 0 := by
  rw [show (0 : Int32) = Int32.ofNat 0 from rfl]; exact code_inj h (by decide)
theorem le0_code {k : Nat} (h : k < 2147483648) : Int32.ofNat k ≤ 0 ↔ k = 0 := by
  rw [show (0 : Int32) = Int32.ofNat 0 from rfl, ofN_le h (by decide)]; omega
-- bits
def bsum (o1 o2 o3 o4 : Nat) : Nat := 2 * o1 + 4 * o2 + 8 * o3 + 16 * o4
def bsel (o1 o2 o3 o4 b : Nat) : Nat := if b = 1 then o1 else if b = 2 then o2 else if b = 3 then o3 else o4
def bset (o1 o2 o3 o4 b v : Nat) : Nat := bsum (if b = 1 then v else o1) (if b = 2 then v else o2) (if b = 3 then v else o3) (if b = 4 then v else o4)
theorem bits_and {o1 o2 o3 o4 b : Nat} (h1 : o1 < 2) (h2 : o2 < 2) (h3 : o3 < 2) (h4 : o4 < 2) (hb : 1 ≤ b) (hb4 : b ≤ 4) : Int32.ofNat (nc ((Int32.ofNat (bsum o1 o2 o3 o4)) &&& (Int32.ofNat (nc ((Int32.ofNat 1) <<< ((Int32.ofNat b) &&& 31)))))) = 0 ↔ bsel o1 o2 o3 o4 b = 0 := by
  rcases (by omega : o1 = 0 ∨ o1 = 1) with e | e <;> subst e <;> rcases (by omega : o2 = 0 ∨ o2 = 1) with e | e <;> subst e <;> rcases (by omega : o3 = 0 ∨ o3 = 1) with e | e <;> subst e <;> rcases (by omega : o4 = 0 ∨ o4 = 1) with e | e <;> subst e <;> rcases (by omega : b = 1 ∨ b = 2 ∨ b = 3 ∨ b = 4) with e | e | e | e <;> subst e <;> decide
theorem bits_or {o1 o2 o3 o4 b : Nat} (h1 : o1 < 2) (h2 : o2 < 2) (h3 : o3 < 2) (h4 : o4 < 2) (hb : 1 ≤ b) (hb4 : b ≤ 4) : nc ((Int32.ofNat (bsum o1 o2 o3 o4)) ||| (Int32.ofNat (nc ((Int32.ofNat 1) <<< ((Int32.ofNat b) &&& 31))))) = bset o1 o2 o3 o4 b 1 := by
  rcases (by omega : o1 = 0 ∨ o1 = 1) with e | e <;> subst e <;> rcases (by omega : o2 = 0 ∨ o2 = 1) with e | e <;> subst e <;> rcases (by omega : o3 = 0 ∨ o3 = 1) with e | e <;> subst e <;> rcases (by omega : o4 = 0 ∨ o4 = 1) with e | e <;> subst e <;> rcases (by omega : b = 1 ∨ b = 2 ∨ b = 3 ∨ b = 4) with e | e | e | e <;> subst e <;> decide
theorem bits_no {o1 o2 o3 o4 b : Nat} (h1 : o1 < 2) (h2 : o2 < 2) (h3 : o3 < 2) (h4 : o4 < 2) (hb : 1 ≤ b) (hb4 : b ≤ 4) : nc ((Int32.ofNat (bsum o1 o2 o3 o4)) &&& (Int32.ofNat (nc ((Int32.ofNat (nc ((Int32.ofNat 1) <<< ((Int32.ofNat b) &&& 31)))) ^^^ (Int32.ofNat 4294967295))))) = bset o1 o2 o3 o4 b 0 := by
  rcases (by omega : o1 = 0 ∨ o1 = 1) with e | e <;> subst e <;> rcases (by omega : o2 = 0 ∨ o2 = 1) with e | e <;> subst e <;> rcases (by omega : o3 = 0 ∨ o3 = 1) with e | e <;> subst e <;> rcases (by omega : o4 = 0 ∨ o4 = 1) with e | e <;> subst e <;> rcases (by omega : b = 1 ∨ b = 2 ∨ b = 3 ∨ b = 4) with e | e | e | e <;> subst e <;> decide
theorem tb_bits (h : TB x i y m) : y 30 1 < 2 ∧ y 30 2 < 2 ∧ y 30 3 < 2 ∧ y 30 4 < 2 ∧ x 8 i 0 = bsum (y 30 1) (y 30 2) (y 30 3) (y 30 4) := by
  have := h.2.2.2.2.2.1
  exact ⟨by have := this 1 (by decide); omega, by have := this 2 (by decide); omega, by have := this 3 (by decide); omega, by have := this 4 (by decide); omega, h.2.2.2.2.2.2⟩
theorem bsel_y {b : Nat} (h1 : 1 ≤ b) (h4 : b ≤ 4) : bsel (y 30 1) (y 30 2) (y 30 3) (y 30 4) b = y 30 b := by
  rcases (by omega : b = 1 ∨ b = 2 ∨ b = 3 ∨ b = 4) with e | e | e | e <;> subst e <;> rfl
theorem sess_y {c : CS} {b : Nat} (h1 : 1 ≤ b) (h4 : b ≤ 4) : ¬ Int32.ofNat (r_X6_isSession c b) = 0 := by
  rcases (by omega : b = 1 ∨ b = 2 ∨ b = 3 ∨ b = 4) with e | e | e | e <;> subst e <;> (unfold r_X6_isSession; decide)
theorem open_corr {b : Nat} (h : TB x i y m) (h1 : 1 ≤ b) (h4 : b ≤ 4) : Int32.ofNat (r_X5_isOpen x i b) = 0 ↔ y 30 b = 0 := by
  obtain ⟨g1, g2, g3, g4, g8⟩ := tb_bits h
  unfold r_X5_isOpen
  rw [if_neg (sess_y h1 h4), g8]
  have hb := bits_and g1 g2 g3 g4 h1 h4
  rw [bsel_y h1 h4] at hb
  by_cases e : y 30 b = 0
  · rw [if_pos (hb.mpr e)]; simp [e]
  · rw [if_neg (fun q => e (hb.mp q))]; simp [e]
theorem y30 (h : TB x i y m) {b : Nat} (hb : b < 5) : Int32.ofNat (y 30 b) = 0 ↔ y 30 b = 0 := eq0_code (by have := h.2.2.2.2.2.1 b hb; omega)
-- create
theorem add_ok {pa va ow : Nat} (h : TB x i y m) (hm : m < 24) (hp : 1 ≤ pa ∧ pa ≤ 511) (ho : ow ≤ 4) (hnew : ∀ n ∈ cnl x i, n.1 ≠ pa) : TB (w_X5_add x i pa va ow) i (su2 (su2 (su2 (su2 (su2 y 26 (y 32 0) pa) 27 (y 32 0) va) 28 (y 32 0) 0) 29 (y 32 0) ow) 32 0 ((y 32 0) + 1)) (m + 1) := by
  have h7 := h.2.2.2.1
  have ea : w_X5_add x i pa va ow = su3 (su3 (su3 (su3 (su3 x 26 i (x 7 i 0) pa) 27 i (x 7 i 0) va) 28 i (x 7 i 0) 0) 29 i (x 7 i 0) ow) 7 i 0 ((x 7 i 0) + 1) := by
    unfold w_X5_add; rw [if_neg (by rw [ofN_le (by decide) (by omega)]; omega)]
  rw [ea]
  refine tb_add (z := (pa, va, 0, ow)) h (by simp [su3]) (by simp [cnd, su3]) (fun t ht => ?_) (by simp [su2]) (by simp [rnd, su2]) (fun t ht => ?_) ⟨hp.1, hp.2, Nat.zero_le _, ho⟩ hnew (by simp [su3]) ?_
  · have : t ≠ x 7 i 0 := by omega
    simp [cnd, su3, this]
  · have : t ≠ y 32 0 := by omega
    simp [rnd, su2, this]
  · funext b; simp [su2]
theorem create_corr {pa va ow : Nat} (h : TB x i y m) (hm : m < 24) (hp : 1 ≤ pa ∧ pa ≤ 511) (ho : ow ≤ 4) : r_X5_create x i pa va ow = r_X7_create y pa va ow ∧ TB (w_X5_create x i pa va ow) i (w_X7_create y pa va ow) (m + 1) := by
  have ed : nc (Int32.ofNat pa / Int32.ofNat 8) = pa / 8 := div8 (by omega)
  have hs := tb_mono h (Nat.le_succ m)
  have h7 := h.2.2.2.1
  have h32 := h.2.2.2.2.1
  -- behind the session's check
  have rest : (if Int32.ofNat (r_X5_find x i pa) = Int32.ofNat 4294967295 then (if Int32.ofNat (pa / 8) = 0 then (if Int32.ofNat (r_X5_find x i (pa / 8)) = Int32.ofNat 4294967295 then 0 else (if Int32.ofNat (x 29 i (r_X5_find x i (pa / 8))) = 0 then 0 else 3)) else (if Int32.ofNat (r_X5_find x i (pa / 8)) = Int32.ofNat 4294967295 then 1 else (if Int32.ofNat (x 29 i (r_X5_find x i (pa / 8))) = 0 then 0 else 3))) else 2) = (if Int32.ofNat (r_X7_find y pa) < 0 then (if Int32.ofNat (pa / 8) ≤ 0 then 0 else (if 0 ≤ Int32.ofNat (r_X7_find y (pa / 8)) then (if Int32.ofNat (y 29 (r_X7_find y (pa / 8))) = 0 then 0 else 3) else 1)) else 2) ∧ TB (if Int32.ofNat (r_X5_find x i pa) = Int32.ofNat 4294967295 then (if Int32.ofNat (pa / 8) = 0 then (if Int32.ofNat (r_X5_find x i (pa / 8)) = Int32.ofNat 4294967295 then w_X5_add x i pa va ow else (if Int32.ofNat (x 29 i (r_X5_find x i (pa / 8))) = 0 then w_X5_add x i pa va ow else x)) else (if Int32.ofNat (r_X5_find x i (pa / 8)) = Int32.ofNat 4294967295 then x else (if Int32.ofNat (x 29 i (r_X5_find x i (pa / 8))) = 0 then w_X5_add x i pa va ow else x))) else x) i (if Int32.ofNat (r_X7_find y pa) < 0 then (if Int32.ofNat (pa / 8) ≤ 0 then (su2 (su2 (su2 (su2 (su2 y 26 (y 32 0) pa) 27 (y 32 0) va) 28 (y 32 0) 0) 29 (y 32 0) ow) 32 0 ((y 32 0) + 1)) else (if 0 ≤ Int32.ofNat (r_X7_find y (pa / 8)) then (if Int32.ofNat (y 29 (r_X7_find y (pa / 8))) = 0 then (su2 (su2 (su2 (su2 (su2 y 26 (y 32 0) pa) 27 (y 32 0) va) 28 (y 32 0) 0) 29 (y 32 0) ow) 32 0 ((y 32 0) + 1)) else y) else y)) else y) (m + 1) := by
    have d1 : Int32.ofNat 4294967295 < 0 := by decide
    have d2 : ¬ (0 : Int32) ≤ Int32.ofNat 4294967295 := by decide
    rcases find_corr (pa := pa) h hp.2 with ⟨f1, f2, f3⟩ | ⟨f1, f2, f3, f4, f5⟩
    · have add := add_ok (va := va) (ow := ow) h hm hp ho f3
      rw [f1, f2]
      simp only [d1, ↓reduceIte]
      rcases find_corr (pa := pa / 8) h (by omega) with ⟨g1, g2, g3⟩ | ⟨g1, g2, g3, g4, g5⟩
      · rw [g1, g2]
        by_cases e : pa / 8 = 0
        · have d3 : (0 : Int32) ≤ 0 := by decide
          simp only [(eq0_code (show pa / 8 < 4294967296 by omega)).mpr e, d3, ↓reduceIte]
          exact ⟨trivial, add⟩
        · have n1 : ¬ Int32.ofNat (pa / 8) = 0 := fun q => e ((eq0_code (by omega)).mp q)
          have n2 : ¬ Int32.ofNat (pa / 8) ≤ 0 := fun q => e ((le0_code (by omega)).mp q)
          simp only [n1, n2, d2, ↓reduceIte]
          exact ⟨trivial, hs⟩
      · have hn := h.2.1 _ (mem_cnl.mpr ⟨_, g1, rfl⟩)
        have hpos : 1 ≤ x 26 i (r_X5_find x i (pa / 8)) := hn.1
        have e : ¬ pa / 8 = 0 := by omega
        have eo : x 29 i (r_X5_find x i (pa / 8)) = y 29 (r_X7_find y (pa / 8)) := congrArg (fun n : ND => n.2.2.2) g3
        have nf : ¬ Int32.ofNat (r_X5_find x i (pa / 8)) = Int32.ofNat 4294967295 := fun q => by have := (code_inj (by omega) (by decide)).mp q; omega
        have n1 : ¬ Int32.ofNat (pa / 8) = 0 := fun q => e ((eq0_code (by omega)).mp q)
        have n2 : ¬ Int32.ofNat (pa / 8) ≤ 0 := fun q => e ((le0_code (by omega)).mp q)
        have n3 : (0 : Int32) ≤ Int32.ofNat (r_X7_find y (pa / 8)) := ge0_code (by omega)
        simp only [n1, n2, n3, nf, eo, ↓reduceIte]
        by_cases e2 : Int32.ofNat (y 29 (r_X7_find y (pa / 8))) = 0
        · simp only [e2, ↓reduceIte]; exact ⟨trivial, add⟩
        · simp only [e2, ↓reduceIte]; exact ⟨trivial, hs⟩
    · have nf : ¬ Int32.ofNat (r_X5_find x i pa) = Int32.ofNat 4294967295 := fun q => by have := (code_inj (by omega) (by decide)).mp q; omega
      have n1 : ¬ Int32.ofNat (r_X7_find y pa) < 0 := lt0_code (by omega)
      simp only [nf, n1, ↓reduceIte]
      exact ⟨trivial, hs⟩
  unfold r_X5_create r_X7_create w_X5_create w_X7_create
  rw [ed]
  by_cases e0 : ow = 0
  · have : Int32.ofNat ow = 0 := by rw [e0]; rfl
    rw [if_pos this, if_pos this, if_pos this, if_pos this]
    exact rest
  · have n0 : ¬ Int32.ofNat ow = 0 := fun q => e0 ((eq0_code (by omega)).mp q)
    rw [if_neg n0, if_neg n0, if_neg n0, if_neg n0]
    have oc := open_corr (b := ow) h (by omega) ho
    by_cases eo : y 30 ow = 0
    · rw [if_pos (oc.mpr eo), if_pos (oc.mpr eo), if_pos ((y30 h (by omega)).mpr eo), if_pos ((y30 h (by omega)).mpr eo)]
      exact ⟨rfl, hs⟩
    · rw [if_neg (fun q => eo (oc.mp q)), if_neg (fun q => eo (oc.mp q)), if_neg (fun q => eo ((y30 h (by omega)).mp q)), if_neg (fun q => eo ((y30 h (by omega)).mp q))]
      exact rest
end TREE3
