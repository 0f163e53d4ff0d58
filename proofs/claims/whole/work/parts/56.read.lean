section READ
variable {T : Nat} {c : CS} {a : RS}
theorem i_mark (h : Inv T c a) {v k : Nat} (hk : v < 4294967296) (hk2 : k < 4294967296) : r_X6_mark c v k = r_X7_mark a v k := by
  unfold r_X6_mark r_X7_mark
  by_cases e : v < 3
  · rw [if_neg (isv_yes e), if_pos (out_no e)]
    unfold r_X0_markAt
    by_cases h1 : Int32.ofNat k < Int32.ofNat 1
    · rw [if_pos h1, if_pos h1]
    · have g := code_ge h1 hk2 (by decide)
      have b := j_B h.2.2.1 e
      have e6 : c 6 v 0 = a 4 v := (h.2.1 v e).1.2.2.2.2.1
      rw [if_neg h1, if_neg h1, e6]
      by_cases h2 : k ≤ a 4 v
      · rw [if_neg (fun q => by have := (ofN_lt (by omega) g.2).mp q; omega), if_pos ((ofN_le g.2 (by omega)).mpr h2)]
        have := ((h.2.1 v e).2.1 (k - 1) (by omega)).1
        rw [this, show 24 * v + (k - 1) = 24 * v + k - 1 by omega]
      · rw [if_pos ((ofN_lt (by omega) g.2).mpr (by omega)), if_neg (fun q => h2 ((ofN_le g.2 (by omega)).mp q))]
  · rw [if_pos (isv_no hk e), if_neg (out_yes hk e)]
theorem i_result (h : Inv T c a) {v k : Nat} (hk : v < 4294967296) (hk2 : k < 4294967296) : r_X6_result c v k = r_X7_result a v k ∧ Inv (T + 1) c (w_X7_result a v k) := by
  have h' := inv_mono h (Nat.le_succ T)
  unfold r_X6_result r_X7_result w_X7_result
  by_cases e : v < 3
  · rw [if_neg (isv_yes e), if_pos (out_no e), if_pos (out_no e)]
    by_cases h1 : Int32.ofNat k < Int32.ofNat 1
    · rw [if_pos h1, if_pos h1, if_pos h1]; exact ⟨rfl, h'⟩
    · have g := code_ge h1 hk2 (by decide)
      have b := j_B h.2.2.1 e
      have e5 : c 5 v 0 = a 3 v := (h.2.1 v e).1.2.2.2.1
      rw [if_neg h1, if_neg h1, if_neg h1, e5]
      by_cases h2 : k ≤ a 3 v
      · have m : Int32.ofNat k ≤ Int32.ofNat (a 3 v) := (ofN_le g.2 (by omega)).mpr h2
        rw [if_pos m, if_pos m, if_pos m]
        exact ⟨(i_work h e).2 (k - 1) (by omega), inv_work h'⟩
      · have m : ¬ Int32.ofNat k ≤ Int32.ofNat (a 3 v) := fun q => h2 ((ofN_le g.2 (by omega)).mp q)
        rw [if_neg m, if_neg m, if_neg m]; exact ⟨rfl, h'⟩
  · rw [if_pos (isv_no hk e), if_neg (out_yes hk e), if_neg (out_yes hk e)]; exact ⟨rfl, h'⟩
theorem i_waiting (h : Inv T c a) {v u : Nat} (hk : v < 4294967296) : r_X6_waiting c v u = r_X7_waiting a v u := by
  have hr := hasRole_iff h (v := v) (ro := 2) hk (by decide)
  unfold r_X6_waiting r_X7_waiting
  by_cases e : v < 3
  · have b := j_B h.2.2.1 e
    rw [if_pos (out_no e)]
    by_cases e2 : a 0 v = 2
    · have n1 : ¬ Int32.ofNat (r_X6_hasRole c v 2) = 0 := fun q => (hr.mp q) ⟨e, e2⟩
      have n2 : Int32.ofNat (a 0 v) = Int32.ofNat 2 := by rw [e2]
      rw [if_neg n1, if_pos n2]
      have d := (h.2.1 v e).2.2.2.1 e2
      unfold r_X2_count_d r_X2_count_u
      rw [d.2.2.2.2.1, d.2.2.2.2.2.1, d.2.2.2.2.2.2.1, d.2.2.2.2.2.2.2]
    · have n1 : Int32.ofNat (r_X6_hasRole c v 2) = 0 := hr.mpr (fun q => e2 q.2)
      have n2 : ¬ Int32.ofNat (a 0 v) = Int32.ofNat 2 := fun q => e2 ((ofN_eq (by omega) (by decide)).mp q)
      rw [if_pos n1, if_neg n2]
  · have n1 : Int32.ofNat (r_X6_hasRole c v 2) = 0 := hr.mpr (fun q => e q.1)
    rw [if_pos n1, if_neg (out_yes (a := a) hk e)]
theorem i_touch (h : Inv T c a) {v w : Nat} (hk : v < 4294967296) (hk2 : w < 4294967296) : r_X6_touch c v w = r_X7_touch a v w ∧ Inv (T + 1) (w_X6_touch c v w) (w_X7_touch a v w) := by
  have hr := hasRole_iff h (v := v) (ro := 4) hk (by decide)
  have h' := inv_mono h (Nat.le_succ T)
  have sx := sess_iff (c := c) hk2
  unfold r_X6_touch r_X7_touch w_X6_touch w_X7_touch
  by_cases e : v < 3
  · have b := j_B h.2.2.1 e
    rw [if_pos (out_no e), if_pos (out_no e)]
    by_cases hs : 1 ≤ w ∧ w ≤ 4
    · have m1 : ¬ Int32.ofNat w < Int32.ofNat 1 := fun q => by have := (ofN_lt (by omega) (by decide)).mp q; omega
      have m2 : Int32.ofNat w ≤ Int32.ofNat 4 := (ofN_le (by omega) (by decide)).mpr hs.2
      have ms : ¬ Int32.ofNat (r_X6_isSession c w) = 0 := fun q => (sx.1.mp q) hs
      rw [fr_work (q := 0) (by decide)]
      simp only [if_neg m1, if_pos m2, if_neg ms]
      by_cases e4 : a 0 v = 4
      · have n1 : ¬ Int32.ofNat (r_X6_hasRole c v 4) = 0 := fun q => (hr.mp q) ⟨e, e4⟩
        have n2 : Int32.ofNat (a 0 v) = Int32.ofNat 4 := by rw [e4]
        have tb := (i_work h e).1
        have oc := open_corr tb hs.1 hs.2
        have y3 := y30 tb (b := w) (by omega)
        simp only [if_neg n1, if_pos n2]
        by_cases eo : w_X7_work a v 30 w = 0
        · simp only [if_pos (oc.mpr eo), if_pos (y3.mpr eo)]; exact ⟨trivial, inv_work h'⟩
        · simp only [if_neg (fun q => eo (oc.mp q)), if_neg (fun q => eo (y3.mp q))]
          exact ⟨trivial, inv_age (inv_work h') e (by omega) (by decide)⟩
      · have n1 : Int32.ofNat (r_X6_hasRole c v 4) = 0 := hr.mpr (fun q => e4 q.2)
        have n2 : ¬ Int32.ofNat (a 0 v) = Int32.ofNat 4 := fun q => e4 ((ofN_eq (by omega) (by decide)).mp q)
        simp only [if_pos n1, if_neg n2]; exact ⟨trivial, inv_work h'⟩
    · have ms : Int32.ofNat (r_X6_isSession c w) = 0 := sx.1.mpr hs
      simp only [if_pos ms, ite_self]
      by_cases m1 : Int32.ofNat w < Int32.ofNat 1
      · simp only [if_pos m1]; exact ⟨trivial, h'⟩
      · have g := code_ge m1 hk2 (by decide)
        have m2 : ¬ Int32.ofNat w ≤ Int32.ofNat 4 := fun q => hs ⟨g.1, (ofN_le g.2 (by decide)).mp q⟩
        simp only [if_neg m1, if_neg m2]; exact ⟨trivial, h'⟩
  · have n1 : Int32.ofNat (r_X6_hasRole c v 4) = 0 := hr.mpr (fun q => e q.1)
    simp only [if_pos n1, if_neg (out_yes (a := a) hk e)]; exact ⟨trivial, h'⟩
theorem find_none {x : CS} {i : Nat} {y : RS} {m pa : Nat} (h : TB x i y m) (hp : 511 < pa) (hp2 : pa < 4294967296) : r_X5_find x i pa = 4294967295 := by
  have hc := ff_spec (Pt := x 26 i) (pa := pa) hp2 (x 7 i 0) 0 (fun t _ ht => by
    have := (h.2.1 (cnd x i t) (mem_cnl.mpr ⟨t, by omega, rfl⟩)).2.1
    have : x 26 i t ≤ 511 := this
    omega)
  have e : r_X5_find x i pa = ff (x 26 i) pa (x 7 i 0) 0 := by unfold r_X5_find; rw [ff_c]
  rw [e]
  rcases hc with q | q
  · exact q.1
  · exfalso
    have := (h.2.1 (cnd x i (ff (x 26 i) pa (x 7 i 0) 0)) (mem_cnl.mpr ⟨_, by omega, rfl⟩)).2.1
    have z : x 26 i (ff (x 26 i) pa (x 7 i 0) 0) ≤ 511 := this
    rw [q.2.2] at z; omega
theorem i_node (h : Inv T c a) {v pa wh : Nat} (hk : v < 4294967296) (hpa : pa < 4294967296) (hwh : wh < 4294967296) : r_X6_node c v pa wh = r_X7_node a v pa wh ∧ Inv (T + 1) c (w_X7_node a v pa wh) := by
  have h' := inv_mono h (Nat.le_succ T)
  refine ⟨?_, ?_⟩
  · unfold r_X6_node r_X7_node
    by_cases e : v < 3
    · rw [if_neg (isv_yes e), if_pos (out_no e)]
      have b := j_B h.2.2.1 e
      have tb := (i_work h e).1
      have nw : ∀ j, j ≤ 4 → (Int32.ofNat wh = Int32.ofNat j ↔ wh = j) := fun j hj => ⟨fun q => ofN_inj hwh (by omega) q, fun q => by rw [q]⟩
      have nw0 : Int32.ofNat wh = 0 ↔ wh = 0 := eq0_code hwh
      have e4 : (4294967295 : Nat) = 4294967295 := rfl
      unfold r_X5_look r_X5_lookAtRoot
      by_cases p0 : pa = 0
      · have m : Int32.ofNat pa = 0 := by rw [p0]; rfl
        have m1 : ¬ Int32.ofNat pa < 0 := lt0_code (by omega)
        have m2 : ¬ Int32.ofNat 511 < Int32.ofNat pa := fun q => by have := (ofN_lt (by decide) (by omega)).mp q; omega
        simp only [if_pos m, if_neg m1, if_neg m2]
        by_cases w4 : wh ≤ 4
        · have m3 : ¬ Int32.ofNat wh < 0 := lt0_code (by omega)
          have m4 : Int32.ofNat wh ≤ Int32.ofNat 4 := (ofN_le (by omega) (by decide)).mpr w4
          simp only [if_neg m3, if_pos m4]
          rw [p0, children_corr tb]
        · have w0 : ¬ Int32.ofNat wh = 0 := fun q => by have := nw0.mp q; omega
          have w3 : ¬ Int32.ofNat wh = Int32.ofNat 3 := fun q => by have := (nw 3 (by decide)).mp q; omega
          simp only [if_neg w0, if_neg w3]
          by_cases m3 : Int32.ofNat wh < 0
          · rw [if_pos m3]
          · have g := code_ge (n := 0) m3 hwh (by decide)
            rw [if_neg m3, if_neg (fun q => w4 ((ofN_le g.2 (by decide)).mp q))]
      · have m : ¬ Int32.ofNat pa = 0 := fun q => p0 ((eq0_code hpa).mp q)
        simp only [if_neg m]
        by_cases p5 : pa ≤ 511
        · have m1 : ¬ Int32.ofNat pa < 0 := lt0_code (by omega)
          have m2 : ¬ Int32.ofNat 511 < Int32.ofNat pa := fun q => by have := (ofN_lt (by decide) (by omega)).mp q; omega
          simp only [if_neg m1, if_neg m2]
          rcases find_corr tb p5 with f | f
          · have k1 : ¬ 0 ≤ Int32.ofNat 4294967295 := by decide
            rw [f.1, f.2.1]
            simp only [if_neg k1, ↓reduceIte, ite_self]
          · have c7 := tb.2.2.2.1
            have y32 := tb.2.2.2.2.1
            have k1 : 0 ≤ Int32.ofNat (r_X7_find (w_X7_work a v) pa) := ge0_code (by omega)
            have k2 : ¬ Int32.ofNat (r_X5_find c v pa) = Int32.ofNat 4294967295 := fun q => by have := ofN_inj (by omega) (by decide) q; omega
            simp only [if_pos k1, if_neg k2]
            have nd := f.2.2.1
            have q27 := congrArg (fun z : ND => z.2.1) nd
            have q28 := congrArg (fun z : ND => z.2.2.1) nd
            have q29 := congrArg (fun z : ND => z.2.2.2) nd
            simp only [cnd, rnd] at q27 q28 q29
            rw [q27, q28, q29, children_corr tb]
            by_cases w4 : wh ≤ 4
            · have m3 : ¬ Int32.ofNat wh < 0 := lt0_code (by omega)
              have m4 : Int32.ofNat wh ≤ Int32.ofNat 4 := (ofN_le (by omega) (by decide)).mpr w4
              simp only [if_neg m3, if_pos m4]
              rcases (by omega : wh = 0 ∨ wh = 1 ∨ wh = 2 ∨ wh = 3 ∨ wh = 4) with z | z | z | z | z <;> subst z <;> rfl
            · have w0 : ¬ Int32.ofNat wh = Int32.ofNat 0 := fun q => by have := (nw 0 (by decide)).mp q; omega
              have w1 : ¬ Int32.ofNat wh = Int32.ofNat 1 := fun q => by have := (nw 1 (by decide)).mp q; omega
              have w2 : ¬ Int32.ofNat wh = Int32.ofNat 2 := fun q => by have := (nw 2 (by decide)).mp q; omega
              have w3 : ¬ Int32.ofNat wh = Int32.ofNat 3 := fun q => by have := (nw 3 (by decide)).mp q; omega
              have w5 : ¬ Int32.ofNat wh = Int32.ofNat 4 := fun q => by have := (nw 4 (by decide)).mp q; omega
              simp only [if_neg w0, if_neg w1, if_neg w2, if_neg w3, if_neg w5]
              by_cases m3 : Int32.ofNat wh < 0
              · rw [if_pos m3]
              · have g := code_ge (n := 0) m3 hwh (by decide)
                rw [if_neg m3, if_neg (fun q => w4 ((ofN_le g.2 (by decide)).mp q))]
        · rw [find_none tb (by omega) hpa]
          simp only [↓reduceIte]
          by_cases m1 : Int32.ofNat pa < 0
          · rw [if_pos m1]
          · have g := code_ge (n := 0) m1 hpa (by decide)
            rw [if_neg m1, if_pos ((ofN_lt (by decide) g.2).mpr (by omega))]
    · rw [if_pos (isv_no hk e), if_neg (out_yes hk e)]
  · unfold w_X7_node
    repeat' split
    all_goals first | exact h' | exact inv_work h'
theorem cnt18 {y : RS} {v : Nat} (hy : y = w_X7_work a v) : ∀ d k n, (∀ t, k ≤ t → t < k + d → y 26 t = 4294967295 ∨ (1 ≤ y 26 t ∧ y 26 t ≤ 511)) → lpn_X7_tree_18 a v d k n = n + (((List.range' k d).map (rnd y)).filter (fun n => n.1 != 4294967295)).length := by
  intro d
  induction d with
  | zero => intro k n _; rfl
  | succ d ih =>
    intro k n hl
    have hk := hl k (Nat.le_refl _) (by omega)
    simp only [lpn_X7_tree_18, List.range'_succ, List.map_cons]
    rw [← hy]
    rcases hk with e | e
    · have e1 : Int32.ofNat (y 26 k) ≤ 0 := by rw [e]; decide
      have e2 : ((rnd y k).1 != 4294967295) = false := by show (y 26 k != 4294967295) = false; rw [e]; rfl
      rw [if_pos e1, List.filter_cons_of_neg (by rw [e2]; decide), ih (k + 1) n (fun t t1 t2 => hl t (by omega) (by omega))]
    · have e1 : ¬ Int32.ofNat (y 26 k) ≤ 0 := fun q => by have := (le0_code (by omega)).mp q; omega
      have e2 : ((rnd y k).1 != 4294967295) = true := by
        show (y 26 k != 4294967295) = true
        rw [bne_iff_ne]; omega
      rw [if_neg e1, List.filter_cons_of_pos (by exact e2), ih (k + 1) (n + 1) (fun t t1 t2 => hl t (by omega) (by omega)), List.length_cons]
      omega
theorem cnt51 {v n : Nat} (h : ∀ b, b < 5 → w_X7_work a v 30 b ≤ 1) : lpn_X7_tree_51 a v 4 1 n = n + 64 * bitsOf (w_X7_work a v) := by
  have b1 := h 1 (by decide)
  have b2 := h 2 (by decide)
  have b3 := h 3 (by decide)
  have b4 := h 4 (by decide)
  have s1 : nc ((Int32.ofNat 64) <<< ((Int32.ofNat 1) &&& 31)) = 128 := by decide
  have s2 : nc ((Int32.ofNat 64) <<< ((Int32.ofNat (1 + 1)) &&& 31)) = 256 := by decide
  have s3 : nc ((Int32.ofNat 64) <<< ((Int32.ofNat (1 + 1 + 1)) &&& 31)) = 512 := by decide
  have s4 : nc ((Int32.ofNat 64) <<< ((Int32.ofNat (1 + 1 + 1 + 1)) &&& 31)) = 1024 := by decide
  simp only [lpn_X7_tree_51]
  rw [s1, s2, s3, s4]
  unfold bitsOf
  show _ = n + 64 * (2 * w_X7_work a v 30 1 + 4 * w_X7_work a v 30 (1 + 1) + 8 * w_X7_work a v 30 (1 + 1 + 1) + 16 * w_X7_work a v 30 (1 + 1 + 1 + 1))
  have b2' : w_X7_work a v 30 (1 + 1) ≤ 1 := b2
  have b3' : w_X7_work a v 30 (1 + 1 + 1) ≤ 1 := b3
  have b4' : w_X7_work a v 30 (1 + 1 + 1 + 1) ≤ 1 := b4
  generalize w_X7_work a v 30 1 = o1 at *
  generalize w_X7_work a v 30 (1 + 1) = o2 at *
  generalize w_X7_work a v 30 (1 + 1 + 1) = o3 at *
  generalize w_X7_work a v 30 (1 + 1 + 1 + 1) = o4 at *
  have q : ∀ o, o ≤ 1 → (Int32.ofNat o = 0 ↔ o = 0) := fun o ho => eq0_code (by omega)
  simp only [q o1 b1, q o2 b2', q o3 b3', q o4 b4']
  repeat' split
  all_goals omega
theorem i_tree (h : Inv T c a) {v : Nat} (hk : v < 4294967296) : r_X6_tree c v = r_X7_tree a v ∧ Inv (T + 1) c (w_X7_tree a v) := by
  have h' := inv_mono h (Nat.le_succ T)
  unfold r_X6_tree r_X7_tree w_X7_tree
  by_cases e : v < 3
  · rw [if_neg (isv_yes e), if_pos (out_no e), if_pos (out_no e)]
    refine ⟨?_, inv_work h'⟩
    have tb := (i_work h e).1
    rw [cnt51 tb.2.2.2.2.2.1, cnt18 rfl _ _ _ (fun t _ ht => live_or tb (by omega)), ← List.range_eq_range']
    unfold r_X5_summary
    have pl := tb.1.length_eq
    have cl : (cnl c v).length = c 7 v 0 := by unfold cnl; rw [List.length_map, List.length_range]
    have rl : (rnl (w_X7_work a v)).length = (((List.range (w_X7_work a v 32 0)).map (rnd (w_X7_work a v))).filter (fun n => n.1 != 4294967295)).length := rfl
    rw [← rl, ← pl, cl, tb.2.2.2.2.2.2]
    omega
  · rw [if_pos (isv_no hk e), if_neg (out_yes hk e), if_neg (out_yes hk e)]; exact ⟨rfl, h'⟩
end READ
