section TREE
abbrev ND : Type := Nat × Nat × Nat × Nat
def cnd (x : CS) (i t : Nat) : ND := (x 26 i t, x 27 i t, x 28 i t, x 29 i t)
def rnd (y : RS) (t : Nat) : ND := (y 26 t, y 27 t, y 28 t, y 29 t)
def cnl (x : CS) (i : Nat) : List ND := (List.range (x 7 i 0)).map (cnd x i)
def rnl (y : RS) : List ND := ((List.range (y 32 0)).map (rnd y)).filter (fun n => n.1 != 4294967295)
def okn (m : Nat) (n : ND) : Prop := 1 ≤ n.1 ∧ n.1 ≤ 511 ∧ n.2.2.1 ≤ m ∧ n.2.2.2 ≤ 4
def bitsOf (y : RS) : Nat := 2 * y 30 1 + 4 * y 30 2 + 8 * y 30 3 + 16 * y 30 4
def TB (x : CS) (i : Nat) (y : RS) (m : Nat) : Prop := (cnl x i).Perm (rnl y) ∧ (∀ n ∈ cnl x i, okn m n) ∧ ((cnl x i).map Prod.fst).Nodup ∧ x 7 i 0 ≤ m ∧ y 32 0 ≤ m ∧ (∀ b, b < 5 → y 30 b ≤ 1) ∧ x 8 i 0 = bitsOf y
-- lists
theorem inj_fst {l : List ND} (h : (l.map Prod.fst).Nodup) {a b : ND} (ha : a ∈ l) (hb : b ∈ l) (e : a.1 = b.1) : a = b := by
  induction l with
  | nil => cases ha
  | cons z l ih =>
    rw [List.map_cons, List.nodup_cons] at h
    rcases List.mem_cons.mp ha with ha | ha <;> rcases List.mem_cons.mp hb with hb | hb
    · rw [ha, hb]
    · exfalso; apply h.1; rw [← ha, e]; exact List.mem_map_of_mem hb
    · exfalso; apply h.1; rw [← hb, ← e]; exact List.mem_map_of_mem ha
    · exact ih h.2 ha hb
theorem set_perm {l : List ND} : ∀ {t : Nat} (z : ND), t < l.length → (l.set t z).Perm (z :: l.eraseIdx t) := by
  induction l with
  | nil => intro t z h; simp at h
  | cons w l ih =>
    intro t z h
    cases t with
    | zero => simp
    | succ t =>
      simp only [List.set_cons_succ, List.eraseIdx_cons_succ]
      exact ((ih z (by simpa using h)).cons w).trans (List.Perm.swap z w _)
-- find
def ff (Pt : Nat → Nat) (pa : Nat) : Nat → Nat → Nat
  | 0, _ => 4294967295
  | d + 1, k => if Int32.ofNat (Pt k) = Int32.ofNat pa then k else ff Pt pa d (k + 1)
theorem ff_c {x : CS} {i pa : Nat} : ∀ d k, lpr_X5_find_2 x i pa d k = ff (x 26 i) pa d k := by
  intro d
  induction d with
  | zero => intro k; rfl
  | succ d ih => intro k; simp only [lpr_X5_find_2, ff]; rw [ih]
theorem ff_r {y : RS} {pa : Nat} : ∀ d k, lpr_X7_find_2 y pa d k = ff (y 26) pa d k := by
  intro d
  induction d with
  | zero => intro k; rfl
  | succ d ih => intro k; simp only [lpr_X7_find_2, ff]; rw [ih]
theorem code_inj {u v : Nat} (hu : u < 4294967296) (hv : v < 4294967296) : Int32.ofNat u = Int32.ofNat v ↔ u = v := by
  refine ⟨fun h => ?_, fun h => by rw [h]⟩
  have := congrArg nc h
  rw [nc_ofN hu, nc_ofN hv] at this
  exact this
theorem ff_spec {Pt : Nat → Nat} {pa : Nat} (hp : pa < 4294967296) : ∀ d k, (∀ t, k ≤ t → t < k + d → Pt t < 4294967296) → (ff Pt pa d k = 4294967295 ∧ ∀ t, k ≤ t → t < k + d → Pt t ≠ pa) ∨ (k ≤ ff Pt pa d k ∧ ff Pt pa d k < k + d ∧ Pt (ff Pt pa d k) = pa) := by
  intro d
  induction d with
  | zero => intro k _; left; exact ⟨rfl, fun t h1 h2 => by omega⟩
  | succ d ih =>
    intro k hb
    simp only [ff]
    split
    · rename_i h
      right
      exact ⟨Nat.le_refl _, by omega, (code_inj (hb k (by omega) (by omega)) hp).mp h⟩
    · rename_i h
      have hk : Pt k ≠ pa := fun e => h (by rw [e])
      rcases ih (k + 1) (fun t h1 h2 => hb t (by omega) (by omega)) with ⟨h1, h2⟩ | ⟨h1, h2, h3⟩
      · left
        refine ⟨h1, fun t g1 g2 => ?_⟩
        by_cases e : t = k
        · rw [e]; exact hk
        · exact h2 t (by omega) (by omega)
      · right; exact ⟨by omega, by omega, h3⟩
theorem mem_cnl {x : CS} {i : Nat} {n : ND} : n ∈ cnl x i ↔ ∃ t, t < x 7 i 0 ∧ cnd x i t = n := by
  unfold cnl; simp [List.mem_map]
theorem mem_rnl {y : RS} {n : ND} : n ∈ rnl y ↔ (∃ t, t < y 32 0 ∧ rnd y t = n) ∧ n.1 ≠ 4294967295 := by
  unfold rnl; simp [List.mem_filter, List.mem_map]
theorem rnd_lt {x : CS} {i : Nat} {y : RS} {m t : Nat} (h : TB x i y m) (ht : t < y 32 0) : y 26 t < 4294967296 := by
  by_cases e : y 26 t = 4294967295
  · omega
  · have : rnd y t ∈ rnl y := mem_rnl.mpr ⟨⟨t, ht, rfl⟩, e⟩
    have := (h.2.1 _ (h.1.mem_iff.mpr this)).2.1
    have : y 26 t ≤ 511 := this
    omega
theorem find_corr {x : CS} {i : Nat} {y : RS} {m pa : Nat} (h : TB x i y m) (hp : pa ≤ 511) : (r_X5_find x i pa = 4294967295 ∧ r_X7_find y pa = 4294967295 ∧ ∀ n ∈ cnl x i, n.1 ≠ pa) ∨ (r_X5_find x i pa < x 7 i 0 ∧ r_X7_find y pa < y 32 0 ∧ cnd x i (r_X5_find x i pa) = rnd y (r_X7_find y pa) ∧ x 26 i (r_X5_find x i pa) = pa ∧ y 26 (r_X7_find y pa) = pa) := by
  have hc := ff_spec (Pt := x 26 i) (pa := pa) (by omega) (x 7 i 0) 0 (fun t _ ht => by
    have := (h.2.1 (cnd x i t) (mem_cnl.mpr ⟨t, by omega, rfl⟩)).2.1
    have : x 26 i t ≤ 511 := this
    omega)
  have hr := ff_spec (Pt := y 26) (pa := pa) (by omega) (y 32 0) 0 (fun t _ ht => rnd_lt h (by omega))
  have ec : r_X5_find x i pa = ff (x 26 i) pa (x 7 i 0) 0 := ff_c _ _
  have er : r_X7_find y pa = ff (y 26) pa (y 32 0) 0 := ff_r _ _
  rw [ec, er]
  rcases hc with ⟨c1, c2⟩ | ⟨-, c2, c3⟩
  · rcases hr with ⟨r1, r2⟩ | ⟨-, r2, r3⟩
    · left
      refine ⟨c1, r1, fun n hn => ?_⟩
      obtain ⟨t, ht, rfl⟩ := mem_cnl.mp hn
      exact c2 t (by omega) (by omega)
    · exfalso
      have : rnd y (ff (y 26) pa (y 32 0) 0) ∈ rnl y := mem_rnl.mpr ⟨⟨_, by omega, rfl⟩, by show y 26 _ ≠ _; rw [r3]; omega⟩
      obtain ⟨t, ht, e⟩ := mem_cnl.mp (h.1.mem_iff.mpr this)
      have e1 : x 26 i t = y 26 (ff (y 26) pa (y 32 0) 0) := congrArg Prod.fst e
      exact c2 t (by omega) (by omega) (e1.trans r3)
  · have hm : cnd x i (ff (x 26 i) pa (x 7 i 0) 0) ∈ cnl x i := mem_cnl.mpr ⟨_, by omega, rfl⟩
    obtain ⟨⟨t, ht, e⟩, -⟩ := mem_rnl.mp (h.1.mem_iff.mp hm)
    have e1 : y 26 t = x 26 i (ff (x 26 i) pa (x 7 i 0) 0) := congrArg Prod.fst e
    rcases hr with ⟨r1, r2⟩ | ⟨-, r2, r3⟩
    · exact absurd (e1.trans c3) (r2 t (by omega) (by omega))
    · right
      have hm2 : rnd y (ff (y 26) pa (y 32 0) 0) ∈ rnl y := mem_rnl.mpr ⟨⟨_, by omega, rfl⟩, by show y 26 _ ≠ _; rw [r3]; omega⟩
      exact ⟨by omega, by omega, inj_fst h.2.2.1 hm (h.1.mem_iff.mpr hm2) (c3.trans r3.symm), c3, r3⟩
-- counting
def chl (pa : Nat) (n : ND) : Bool := decide (Int32.ofNat (nc (Int32.ofNat n.1 / Int32.ofNat 8)) = Int32.ofNat pa)
theorem cnt_c {x : CS} {i pa : Nat} : ∀ d k n, lpn_X5_countChildren_4 x i pa d k n = n + ((List.range' k d).map (cnd x i)).countP (chl pa) := by
  intro d
  induction d with
  | zero => intro k n; rfl
  | succ d ih =>
    intro k n
    simp only [lpn_X5_countChildren_4, List.range'_succ, List.map_cons, List.countP_cons]
    by_cases e : Int32.ofNat (nc (Int32.ofNat (x 26 i k) / Int32.ofNat 8)) = Int32.ofNat pa
    · rw [if_pos e, ih]; have : chl pa (cnd x i k) = true := decide_eq_true e
      rw [this]; simp; omega
    · rw [if_neg e, ih]; have : chl pa (cnd x i k) = false := decide_eq_false e
      rw [this]; simp
theorem cnt_r {y : RS} {pa : Nat} : ∀ d k n, (∀ t, k ≤ t → t < k + d → y 26 t = 4294967295 ∨ (1 ≤ y 26 t ∧ y 26 t ≤ 511)) → lpn_X7_children_4 y pa d k n = n + (((List.range' k d).map (rnd y)).filter (fun n => n.1 != 4294967295)).countP (chl pa) := by
  intro d
  induction d with
  | zero => intro k n _; rfl
  | succ d ih =>
    intro k n hk
    have hi := fun n => ih (k + 1) n (fun t h1 h2 => hk t (by omega) (by omega))
    simp only [lpn_X7_children_4, List.range'_succ, List.map_cons]
    rcases hk k (by omega) (by omega) with h | h
    · rw [if_pos (by rw [h]; decide), hi]
      rw [List.filter_cons_of_neg (by show ¬ (y 26 k != 4294967295) = true; rw [h]; decide)]
    · rw [if_neg (by rw [show (0 : Int32) = Int32.ofNat 0 from rfl, ofN_le (by omega) (by decide)]; omega)]
      rw [List.filter_cons_of_pos (by show (y 26 k != 4294967295) = true; simp; omega), List.countP_cons]
      by_cases e : Int32.ofNat (nc (Int32.ofNat (y 26 k) / Int32.ofNat 8)) = Int32.ofNat pa
      · rw [if_pos e, hi]; have : chl pa (rnd y k) = true := decide_eq_true e
        rw [this]; simp; omega
      · rw [if_neg e, hi]; have : chl pa (rnd y k) = false := decide_eq_false e
        rw [this]; simp
theorem live_or {x : CS} {i : Nat} {y : RS} {m t : Nat} (h : TB x i y m) (ht : t < y 32 0) : y 26 t = 4294967295 ∨ (1 ≤ y 26 t ∧ y 26 t ≤ 511) := by
  by_cases e : y 26 t = 4294967295
  · exact Or.inl e
  · have : rnd y t ∈ rnl y := mem_rnl.mpr ⟨⟨t, ht, rfl⟩, e⟩
    have := h.2.1 _ (h.1.mem_iff.mpr this)
    exact Or.inr ⟨this.1, this.2.1⟩
theorem children_corr {x : CS} {i : Nat} {y : RS} {m pa : Nat} (h : TB x i y m) : r_X5_countChildren x i pa = r_X7_children y pa := by
  unfold r_X5_countChildren r_X7_children
  rw [cnt_c, cnt_r _ _ _ (fun t _ ht => live_or h (by omega))]
  rw [← List.range_eq_range', ← List.range_eq_range']
  exact congrArg (0 + ·) (h.1.countP_eq _)
theorem children_le {x : CS} {i pa : Nat} : r_X5_countChildren x i pa ≤ x 7 i 0 := by
  unfold r_X5_countChildren
  rw [cnt_c, ← List.range_eq_range', Nat.zero_add]
  refine Nat.le_trans (List.countP_le_length) ?_
  simp
end TREE
