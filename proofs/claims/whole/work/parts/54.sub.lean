section SUB
variable {T : Nat} {c : CS} {a : RS}
theorem ofN_inj {x y : Nat} (hx : x < 4294967296) (hy : y < 4294967296) (h : Int32.ofNat x = Int32.ofNat y) : x = y := by
  have := congrArg nc h
  rwa [nc_ofN hx, nc_ofN hy] at this
theorem m8_no {r : Nat} (h1 : 1 ≤ r) (h7 : r ≤ 7) : ¬ Int32.ofNat (nc ((Int32.ofNat r) - (Int32.ofNat r) / (Int32.ofNat 8) * (Int32.ofNat 8))) = 0 := by
  rcases (by omega : r = 1 ∨ r = 2 ∨ r = 3 ∨ r = 4 ∨ r = 5 ∨ r = 6 ∨ r = 7) with e | e | e | e | e | e | e <;> subst e <;> decide
theorem path_corr {pa : Nat} (hpa : pa < 4294967296) : r_X6_isNodePath c pa = r_X7_isPath a pa := by
  unfold r_X6_isNodePath r_X7_isPath
  by_cases h1 : Int32.ofNat pa < Int32.ofNat 1
  · rw [if_pos h1, if_pos h1]
  · rw [if_neg h1, if_neg h1]
    have g1 := code_ge h1 hpa (by decide)
    by_cases h2 : Int32.ofNat pa ≤ Int32.ofNat 511
    · rw [if_pos h2, if_pos h2]
      have g2 := (ofN_le g1.2 (by decide)).mp h2
      have d1 := div8 (r := pa) g1.2
      have d2 := div8 (r := pa / 8) (by omega)
      simp only [lpr_X6_isNodePath_16]
      rw [d1, d2, if_neg (fun q => by have := (le0_code g1.2).mp q; omega)]
      by_cases h3 : Int32.ofNat (nc ((Int32.ofNat pa) - (Int32.ofNat pa) / (Int32.ofNat 8) * (Int32.ofNat 8))) = 0
      · rw [if_pos h3, if_pos h3]
      · rw [if_neg h3, if_neg h3]
        by_cases h4 : pa < 8
        · rw [if_pos ((le0_code (by omega)).mpr (by omega)), if_pos ((ofN_lt g1.2 (by decide)).mpr h4)]
        · rw [if_neg (fun q => by have := (le0_code (by omega)).mp q; omega), if_neg (fun q => h4 ((ofN_lt g1.2 (by decide)).mp q))]
          by_cases h5 : Int32.ofNat (nc ((Int32.ofNat (pa / 8)) - (Int32.ofNat (pa / 8)) / (Int32.ofNat 8) * (Int32.ofNat 8))) = 0
          · rw [if_pos h5, if_pos h5]
          · rw [if_neg h5, if_neg h5]
            by_cases h6 : pa / 8 / 8 = 0
            · rw [if_pos ((le0_code (by omega)).mpr h6)]
            · rw [if_neg (fun q => h6 ((le0_code (by omega)).mp q)), if_neg (m8_no (by omega) (by omega))]
    · rw [if_neg h2, if_neg h2]
theorem path_ok {pa : Nat} (hpa : pa < 4294967296) (h : ¬ Int32.ofNat (r_X7_isPath a pa) = 0) : 1 ≤ pa ∧ pa ≤ 511 := by
  unfold r_X7_isPath at h
  by_cases h1 : Int32.ofNat pa < Int32.ofNat 1
  · rw [if_pos h1] at h; exact absurd rfl h
  · rw [if_neg h1] at h
    have g1 := code_ge h1 hpa (by decide)
    by_cases h2 : Int32.ofNat pa ≤ Int32.ofNat 511
    · exact ⟨g1.1, (ofN_le g1.2 (by decide)).mp h2⟩
    · rw [if_neg h2] at h; exact absurd rfl h
theorem sess_iff {b : Nat} (hb : b < 4294967296) : (Int32.ofNat (r_X6_isSession c b) = 0 ↔ ¬ (1 ≤ b ∧ b ≤ 4)) ∧ r_X6_isSession c b ≤ 1 := by
  refine ⟨⟨fun h q => sess_y q.1 q.2 h, fun h => ?_⟩, ?_⟩
  · unfold r_X6_isSession
    by_cases h1 : Int32.ofNat b < Int32.ofNat 1
    · rw [if_pos h1]; rfl
    · have g1 := code_ge h1 hb (by decide)
      rw [if_neg h1, if_pos ((ofN_lt (by decide) g1.2).mpr (by omega))]; rfl
  · unfold r_X6_isSession; split
    · omega
    · split <;> omega
theorem sub_do (h : Inv T c a) {v kd pa va vb : Nat} (hv : v < 3) (hok : ok4 kd pa vb) :
    (if Int32.ofNat (c 3 v 0) = Int32.ofNat 4 then (if Int32.ofNat (r_X0_isFull c v) = 0 then ((w_X6_makeEntry c v kd pa va vb) 6 v 0) else 4294967293) else 4294967294) = (if Int32.ofNat (a 0 v) = Int32.ofNat 4 then (if Int32.ofNat (a 4 v) = Int32.ofNat 24 then 4294967293 else ((w_X7_make a v kd pa va vb) 4 v)) else 4294967294) ∧
    Inv T (if Int32.ofNat (c 3 v 0) = Int32.ofNat 4 then (if Int32.ofNat (r_X0_isFull c v) = 0 then (w_X6_makeEntry c v kd pa va vb) else c) else c) (if Int32.ofNat (a 0 v) = Int32.ofNat 4 then (if Int32.ofNat (a 4 v) = Int32.ofNat 24 then a else (w_X7_make a v kd pa va vb)) else a) := by
  have b := j_B h.2.2.1 hv
  have e3 : c 3 v 0 = a 0 v := (h.2.1 v hv).1.1
  have e6 : c 6 v 0 = a 4 v := (h.2.1 v hv).1.2.2.2.2.1
  unfold r_X0_isFull
  rw [e3, e6]
  by_cases r4 : a 0 v = 4
  · have n4 : Int32.ofNat (a 0 v) = Int32.ofNat 4 := by rw [r4]
    rw [if_pos n4, if_pos n4, if_pos n4, if_pos n4]
    by_cases l24 : a 4 v = 24
    · have m : ¬ Int32.ofNat (a 4 v) < Int32.ofNat 24 := by rw [l24]; decide
      have m2 : Int32.ofNat (a 4 v) = Int32.ofNat 24 := by rw [l24]
      rw [if_neg m, if_pos m2, if_pos m2, if_neg (by decide), if_neg (by decide)]
      exact ⟨rfl, h⟩
    · have m : Int32.ofNat (a 4 v) < Int32.ofNat 24 := (ofN_lt (by omega) (by decide)).mpr (by omega)
      have m2 : ¬ Int32.ofNat (a 4 v) = Int32.ofNat 24 := fun q => l24 ((ofN_eq (by omega) (by decide)).mp q)
      rw [if_pos m, if_neg m2, if_neg m2, if_pos (by rfl), if_pos (by rfl)]
      have im := inv_make (va := va) h hv r4 (by omega) hok
      exact ⟨(im.2.1 v hv).1.2.2.2.2.1, im⟩
  · have n4 : ¬ Int32.ofNat (a 0 v) = Int32.ofNat 4 := fun q => r4 ((ofN_eq (by omega) (by decide)).mp q)
    rw [if_neg n4, if_neg n4, if_neg n4, if_neg n4]
    exact ⟨rfl, h⟩
theorem i_submit (h : Inv T c a) {v kd pa va vb : Nat} (hk : v < 4294967296) (hkd : kd < 4294967296) (hpa : pa < 4294967296) (hvb : vb < 4294967296) : r_X6_submit c v kd pa va vb = r_X7_submit a v kd pa va vb ∧ Inv (T + 1) (w_X6_submit c v kd pa va vb) (w_X7_submit a v kd pa va vb) := by
  have h' := inv_mono h (Nat.le_succ T)
  unfold r_X6_submit w_X6_submit r_X7_submit w_X7_submit
  by_cases e : v < 3
  · rw [if_neg (isv_yes e), if_neg (isv_yes e), if_pos (out_no e), if_pos (out_no e)]
    have sx := sess_iff (c := c) hvb
    have px := path_corr (c := c) (a := a) hpa
    have d0 : Int32.ofNat 0 = 0 := rfl
    have d1 : ¬ Int32.ofNat 1 = 0 := by decide
    by_cases hK : 1 ≤ kd ∧ kd ≤ 5
    · rcases (by omega : kd = 1 ∨ kd = 2 ∨ kd = 3 ∨ kd = 4 ∨ kd = 5) with z | z | z | z | z
      · subst z
        simp only [r_X6_isChange, if_neg (show ¬ Int32.ofNat 1 < Int32.ofNat 1 by decide), if_pos (show Int32.ofNat 1 ≤ Int32.ofNat 5 by decide), if_neg (show ¬ Int32.ofNat 3 < Int32.ofNat 1 by decide), if_pos (show Int32.ofNat 1 = Int32.ofNat 1 by decide), if_neg (show ¬ Int32.ofNat 1 = Int32.ofNat 2 by decide), if_neg (show ¬ Int32.ofNat 1 = Int32.ofNat 3 by decide), if_neg (show ¬ Int32.ofNat 1 = Int32.ofNat 4 by decide), if_neg (show ¬ Int32.ofNat 1 = Int32.ofNat 5 by decide), if_pos (show Int32.ofNat 1 < Int32.ofNat 4 by decide)]
        rw [px]
        by_cases hp : Int32.ofNat (r_X7_isPath a pa) = 0
        · simp only [if_pos hp, if_pos d0, ↓reduceIte]; exact ⟨trivial, h'⟩
        · have pk := path_ok hpa hp
          simp only [if_neg hp]
          by_cases hb : vb ≤ 4
          · have m1 : ¬ Int32.ofNat vb < 0 := lt0_code (by omega)
            have m2 : Int32.ofNat vb ≤ Int32.ofNat 4 := (ofN_le (by omega) (by decide)).mpr hb
            have fin := sub_do (va := va) h' e (kd := 1) (pa := pa) (vb := vb) ⟨by decide, by decide, fun _ => pk, fun _ => hb, fun q => by omega⟩
            simp only [if_neg m1, if_pos m2]
            by_cases h0 : Int32.ofNat vb = 0
            · simp only [if_pos h0, if_neg d1]; exact fin
            · have hs : ¬ Int32.ofNat (r_X6_isSession c vb) = 0 := fun q => (sx.1.mp q) ⟨Nat.pos_of_ne_zero (fun q => h0 (by rw [q]; rfl)), hb⟩
              simp only [if_neg h0, if_neg hs, if_neg d1]; exact fin
          · have h0 : ¬ Int32.ofNat vb = 0 := fun q => by have := (eq0_code hvb).mp q; omega
            have hs : Int32.ofNat (r_X6_isSession c vb) = 0 := sx.1.mpr (fun q => hb q.2)
            simp only [if_neg h0, if_pos hs, if_pos d0, ↓reduceIte]
            by_cases m1 : Int32.ofNat vb < 0
            · simp only [if_pos m1, ↓reduceIte]; exact ⟨trivial, h'⟩
            · have g := code_ge (n := 0) m1 hvb (by decide)
              have m2 : ¬ Int32.ofNat vb ≤ Int32.ofNat 4 := fun q => hb ((ofN_le g.2 (by decide)).mp q)
              simp only [if_neg m1, if_neg m2, ↓reduceIte]; exact ⟨trivial, h'⟩
      · subst z
        simp only [r_X6_isChange, if_neg (show ¬ Int32.ofNat 2 < Int32.ofNat 1 by decide), if_pos (show Int32.ofNat 2 ≤ Int32.ofNat 5 by decide), if_neg (show ¬ Int32.ofNat 3 < Int32.ofNat 2 by decide), if_neg (show ¬ Int32.ofNat 2 = Int32.ofNat 1 by decide), if_pos (show Int32.ofNat 2 = Int32.ofNat 2 by decide), if_neg (show ¬ Int32.ofNat 2 = Int32.ofNat 3 by decide), if_neg (show ¬ Int32.ofNat 2 = Int32.ofNat 4 by decide), if_neg (show ¬ Int32.ofNat 2 = Int32.ofNat 5 by decide), if_pos (show Int32.ofNat 2 < Int32.ofNat 4 by decide)]
        rw [px]
        by_cases hp : Int32.ofNat (r_X7_isPath a pa) = 0
        · simp only [if_pos hp, if_pos d0, ↓reduceIte]; exact ⟨trivial, h'⟩
        · have pk := path_ok hpa hp
          simp only [if_neg hp]
          by_cases hb : Int32.ofNat 4294967295 ≤ Int32.ofNat vb
          · have m1 : ¬ Int32.ofNat vb < Int32.ofNat 4294967295 := Int32.not_lt.mpr hb
            have fin := sub_do (va := va) h' e (kd := 2) (pa := pa) (vb := vb) ⟨by decide, by decide, fun _ => pk, fun q => by omega, fun q => by omega⟩
            simp only [if_neg m1, if_pos hb, if_neg d1]; exact fin
          · have m1 : Int32.ofNat vb < Int32.ofNat 4294967295 := Int32.not_le.mp hb
            simp only [if_pos m1, if_neg hb, if_pos d0, ↓reduceIte]; exact ⟨trivial, h'⟩
      · subst z
        simp only [r_X6_isChange, if_neg (show ¬ Int32.ofNat 3 < Int32.ofNat 1 by decide), if_pos (show Int32.ofNat 3 ≤ Int32.ofNat 5 by decide), if_neg (show ¬ Int32.ofNat 3 < Int32.ofNat 3 by decide), if_neg (show ¬ Int32.ofNat 3 = Int32.ofNat 1 by decide), if_neg (show ¬ Int32.ofNat 3 = Int32.ofNat 2 by decide), if_pos (show Int32.ofNat 3 = Int32.ofNat 3 by decide), if_neg (show ¬ Int32.ofNat 3 = Int32.ofNat 4 by decide), if_neg (show ¬ Int32.ofNat 3 = Int32.ofNat 5 by decide), if_pos (show Int32.ofNat 3 < Int32.ofNat 4 by decide)]
        rw [px]
        by_cases hp : Int32.ofNat (r_X7_isPath a pa) = 0
        · simp only [if_pos hp, if_pos d0, ↓reduceIte]; exact ⟨trivial, h'⟩
        · have pk := path_ok hpa hp
          simp only [if_neg hp]
          by_cases hb : Int32.ofNat 4294967295 ≤ Int32.ofNat vb
          · have m1 : ¬ Int32.ofNat vb < Int32.ofNat 4294967295 := Int32.not_lt.mpr hb
            have fin := sub_do (va := va) h' e (kd := 3) (pa := pa) (vb := vb) ⟨by decide, by decide, fun _ => pk, fun q => by omega, fun q => by omega⟩
            simp only [if_neg m1, if_pos hb, if_neg d1]; exact fin
          · have m1 : Int32.ofNat vb < Int32.ofNat 4294967295 := Int32.not_le.mp hb
            simp only [if_pos m1, if_neg hb, if_pos d0, ↓reduceIte]; exact ⟨trivial, h'⟩
      · subst z
        simp only [r_X6_isChange, if_neg (show ¬ Int32.ofNat 4 < Int32.ofNat 1 by decide), if_pos (show Int32.ofNat 4 ≤ Int32.ofNat 5 by decide), if_pos (show Int32.ofNat 3 < Int32.ofNat 4 by decide), if_neg (show ¬ Int32.ofNat 4 = Int32.ofNat 1 by decide), if_neg (show ¬ Int32.ofNat 4 = Int32.ofNat 2 by decide), if_neg (show ¬ Int32.ofNat 4 = Int32.ofNat 3 by decide), if_pos (show Int32.ofNat 4 = Int32.ofNat 4 by decide), if_neg (show ¬ Int32.ofNat 4 = Int32.ofNat 5 by decide), if_neg (show ¬ Int32.ofNat 4 < Int32.ofNat 4 by decide)]
        by_cases hb : 1 ≤ vb ∧ vb ≤ 4
        · have hs : ¬ Int32.ofNat (r_X6_isSession c vb) = 0 := fun q => (sx.1.mp q) hb
          have m1 : ¬ Int32.ofNat vb < Int32.ofNat 1 := fun q => by have := (ofN_lt (by omega) (by decide)).mp q; omega
          have m2 : Int32.ofNat vb ≤ Int32.ofNat 4 := (ofN_le (by omega) (by decide)).mpr hb.2
          have fin := sub_do (va := va) h' e (kd := 4) (pa := pa) (vb := vb) ⟨by decide, by decide, fun q => by omega, fun q => by omega, fun _ => hb⟩
          simp only [if_neg hs, if_neg m1, if_pos m2, ↓reduceIte]; exact fin
        · have hs : Int32.ofNat (r_X6_isSession c vb) = 0 := sx.1.mpr hb
          simp only [if_pos hs, ↓reduceIte]
          by_cases m1 : Int32.ofNat vb < Int32.ofNat 1
          · simp only [if_pos m1, ↓reduceIte]; exact ⟨trivial, h'⟩
          · have g := code_ge m1 hvb (by decide)
            have m2 : ¬ Int32.ofNat vb ≤ Int32.ofNat 4 := fun q => hb ⟨g.1, (ofN_le g.2 (by decide)).mp q⟩
            simp only [if_neg m1, if_neg m2, ↓reduceIte]; exact ⟨trivial, h'⟩
      · subst z
        simp only [r_X6_isChange, if_neg (show ¬ Int32.ofNat 5 < Int32.ofNat 1 by decide), if_pos (show Int32.ofNat 5 ≤ Int32.ofNat 5 by decide), if_pos (show Int32.ofNat 3 < Int32.ofNat 5 by decide), if_neg (show ¬ Int32.ofNat 5 = Int32.ofNat 1 by decide), if_neg (show ¬ Int32.ofNat 5 = Int32.ofNat 2 by decide), if_neg (show ¬ Int32.ofNat 5 = Int32.ofNat 3 by decide), if_neg (show ¬ Int32.ofNat 5 = Int32.ofNat 4 by decide), if_pos (show Int32.ofNat 5 = Int32.ofNat 5 by decide), if_neg (show ¬ Int32.ofNat 5 < Int32.ofNat 4 by decide)]
        by_cases hb : 1 ≤ vb ∧ vb ≤ 4
        · have hs : ¬ Int32.ofNat (r_X6_isSession c vb) = 0 := fun q => (sx.1.mp q) hb
          have m1 : ¬ Int32.ofNat vb < Int32.ofNat 1 := fun q => by have := (ofN_lt (by omega) (by decide)).mp q; omega
          have m2 : Int32.ofNat vb ≤ Int32.ofNat 4 := (ofN_le (by omega) (by decide)).mpr hb.2
          have fin := sub_do (va := va) h' e (kd := 5) (pa := pa) (vb := vb) ⟨by decide, by decide, fun q => by omega, fun q => by omega, fun _ => hb⟩
          simp only [if_neg hs, if_neg m1, if_pos m2, ↓reduceIte]; exact fin
        · have hs : Int32.ofNat (r_X6_isSession c vb) = 0 := sx.1.mpr hb
          simp only [if_pos hs, ↓reduceIte]
          by_cases m1 : Int32.ofNat vb < Int32.ofNat 1
          · simp only [if_pos m1, ↓reduceIte]; exact ⟨trivial, h'⟩
          · have g := code_ge m1 hvb (by decide)
            have m2 : ¬ Int32.ofNat vb ≤ Int32.ofNat 4 := fun q => hb ⟨g.1, (ofN_le g.2 (by decide)).mp q⟩
            simp only [if_neg m1, if_neg m2, ↓reduceIte]; exact ⟨trivial, h'⟩
    · have nk : ∀ j, 1 ≤ j → j ≤ 5 → ¬ Int32.ofNat kd = Int32.ofNat j := fun j j1 j5 q => by have := ofN_inj hkd (by omega) q; omega
      have ch : Int32.ofNat (r_X6_isChange c kd pa vb) = 0 := by
        unfold r_X6_isChange
        rw [if_neg (nk 1 (by decide) (by decide)), if_neg (nk 2 (by decide) (by decide)), if_neg (nk 3 (by decide) (by decide)), if_neg (nk 4 (by decide) (by decide)), if_neg (nk 5 (by decide) (by decide))]; rfl
      rw [if_pos ch, if_pos ch]
      by_cases m1 : Int32.ofNat kd < Int32.ofNat 1
      · rw [if_pos m1, if_pos m1]; exact ⟨rfl, h'⟩
      · have g := code_ge m1 hkd (by decide)
        have m2 : ¬ Int32.ofNat kd ≤ Int32.ofNat 5 := fun q => hK ⟨g.1, (ofN_le g.2 (by decide)).mp q⟩
        rw [if_neg m1, if_neg m1, if_neg m2, if_neg m2]; exact ⟨rfl, h'⟩
  · rw [if_pos (isv_no (c := c) hk e), if_pos (isv_no (c := c) hk e), if_neg (out_yes (a := a) hk e), if_neg (out_yes (a := a) hk e)]; exact ⟨rfl, h'⟩
end SUB
