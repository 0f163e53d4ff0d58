def CB (c : CS) : Prop := ∀ i, i < 3 → c 4 i 0 < 3 ∧ c 5 i 0 ≤ 24 ∧ c 6 i 0 ≤ 24 ∧ c 7 i 0 ≤ 24 ∧ c 12 i 0 ≤ 27 ∧ c 13 i 0 ≤ 27 ∧ c 14 i 0 ≤ 51 ∧ c 15 i 0 ≤ 51
theorem cb4 {c : CS} (h : CB c) {i : Nat} (hi : i < 3) : c 4 i 0 < 3 := (h i hi).1
theorem cb5 {c : CS} (h : CB c) {i : Nat} (hi : i < 3) : c 5 i 0 ≤ 24 := (h i hi).2.1
theorem cb6 {c : CS} (h : CB c) {i : Nat} (hi : i < 3) : c 6 i 0 ≤ 24 := (h i hi).2.2.1
theorem cb7 {c : CS} (h : CB c) {i : Nat} (hi : i < 3) : c 7 i 0 ≤ 24 := (h i hi).2.2.2.1
theorem cb12 {c : CS} (h : CB c) {i : Nat} (hi : i < 3) : c 12 i 0 ≤ 27 := (h i hi).2.2.2.2.1
theorem cb13 {c : CS} (h : CB c) {i : Nat} (hi : i < 3) : c 13 i 0 ≤ 27 := (h i hi).2.2.2.2.2.1
theorem cb14 {c : CS} (h : CB c) {i : Nat} (hi : i < 3) : c 14 i 0 ≤ 51 := (h i hi).2.2.2.2.2.2.1
theorem cb15 {c : CS} (h : CB c) {i : Nat} (hi : i < 3) : c 15 i 0 ≤ 51 := (h i hi).2.2.2.2.2.2.2
def bnd (k v : Nat) : Prop := (k = 4 → v < 3) ∧ (k = 5 → v ≤ 24) ∧ (k = 6 → v ≤ 24) ∧ (k = 7 → v ≤ 24) ∧ (k = 12 → v ≤ 27) ∧ (k = 13 → v ≤ 27) ∧ (k = 14 → v ≤ 51) ∧ (k = 15 → v ≤ 51)
theorem bnd_no {k v : Nat} (h : k ≠ 4 ∧ k ≠ 5 ∧ k ≠ 6 ∧ k ≠ 7 ∧ k ≠ 12 ∧ k ≠ 13 ∧ k ≠ 14 ∧ k ≠ 15) : bnd k v := by unfold bnd; omega
theorem su3_b {c : CS} {k i j v k0 i0 B : Nat} (h : c k0 i0 0 ≤ B) (hv : k = k0 → v ≤ B) : su3 c k i j v k0 i0 0 ≤ B := by
  unfold su3; split
  · split
    · split
      · exact hv (by omega)
      · exact h
    · exact h
  · exact h
theorem cb_su {c : CS} {k i j v : Nat} (h : CB c) (hv : bnd k v) : CB (su3 c k i j v) := by
  intro t ht
  obtain ⟨g1, g2, g3, g4, g5, g6, g7, g8⟩ := h t ht
  obtain ⟨v1, v2, v3, v4, v5, v6, v7, v8⟩ := hv
  exact ⟨Nat.lt_of_le_of_lt (su3_b (B := 2) (by omega) (by omega)) (by decide), su3_b g2 v2, su3_b g3 v3, su3_b g4 v4, su3_b g5 v5, su3_b g6 v6, su3_b g7 v7, su3_b g8 v8⟩
theorem cb_if {P : Prop} [Decidable P] {a b : CS} (ha : P → CB a) (hb : ¬ P → CB b) : CB (if P then a else b) := by
  split
  · rename_i h; exact ha h
  · rename_i h; exact hb h
theorem cb_X2_clear_u {c : CS} {i : Nat} (h : CB c) : CB (w_X2_clear_u c i) := cb_su (cb_su h (by unfold bnd; omega)) (by unfold bnd; omega)
theorem cb_X2_clear_d {c : CS} {i : Nat} (h : CB c) : CB (w_X2_clear_d c i) := cb_su (cb_su h (by unfold bnd; omega)) (by unfold bnd; omega)
theorem cb_X1_clear {c : CS} {i : Nat} (h : CB c) : CB (w_X1_clear c i) := cb_su (cb_su (cb_su (cb_X2_clear_d (cb_X2_clear_u h)) (bnd_no (by decide))) (bnd_no (by decide))) (bnd_no (by decide))
theorem lt_of_guard {n e : Nat} (h : ¬ Int32.ofNat n ≤ Int32.ofNat e) (hn : n < 2147483648) (he : e ≤ n) : e < n := lt_of_nle h hn (by omega)
theorem cb_out {c : CS} {k i j v : Nat} (h : CB c) (hi : ¬ i < 3) : CB (su3 c k i j v) := by
  intro t ht
  have e : ∀ k', su3 c k i j v k' t 0 = c k' t 0 := by
    intro k'; unfold su3; rw [if_neg (by omega : ¬ t = i)]; split <;> rfl
  simp only [e]; exact h t ht
theorem cb_X2_send_u {c : CS} {i kd vl : Nat} (h : CB c) : CB (w_X2_send_u c i kd vl) := by
  unfold w_X2_send_u
  refine cb_if (fun _ => h) (fun g => ?_)
  by_cases hi : i < 3
  · have := lt_of_guard g (by decide) (cb13 h hi)
    exact cb_su (cb_su (cb_su h (bnd_no (by decide))) (bnd_no (by decide))) (by unfold bnd; omega)
  · exact cb_out (cb_out (cb_out h hi) hi) hi
theorem cb_X2_send_d {c : CS} {i kd vl : Nat} (h : CB c) : CB (w_X2_send_d c i kd vl) := by
  unfold w_X2_send_d
  refine cb_if (fun _ => h) (fun g => ?_)
  by_cases hi : i < 3
  · have := lt_of_guard g (by decide) (cb15 h hi)
    exact cb_su (cb_su (cb_su h (bnd_no (by decide))) (bnd_no (by decide))) (by unfold bnd; omega)
  · exact cb_out (cb_out (cb_out h hi) hi) hi
theorem cb_X0_append {c : CS} {i mk kd pa va vb : Nat} (h : CB c) : CB (w_X0_append c i mk kd pa va vb) := by
  unfold w_X0_append
  by_cases hi : i < 3
  · refine cb_if (fun g => ?_) (fun g => h)
    have := isFull0 (cb6 h hi) g
    exact cb_su (cb_su (cb_su (cb_su (cb_su (cb_su h (bnd_no (by decide))) (bnd_no (by decide))) (bnd_no (by decide))) (bnd_no (by decide))) (bnd_no (by decide))) (by unfold bnd; omega)
  · exact cb_if (fun _ => cb_out (cb_out (cb_out (cb_out (cb_out (cb_out h hi) hi) hi) hi) hi) hi) (fun _ => h)
theorem cb_X0_appendFrom {c : CS} {i o k : Nat} (h : CB c) : CB (w_X0_appendFrom c i o k) := by
  unfold w_X0_appendFrom
  repeat' (first | exact h | exact cb_X0_append h | refine cb_if (fun _ => ?_) (fun _ => ?_))
theorem cb_X4_begin {c : CS} {i : Nat} (h : CB c) : CB (w_X4_begin c i) := cb_su (cb_su (cb_su h (bnd_no (by decide))) (bnd_no (by decide))) (bnd_no (by decide))
theorem cb_X5_clear {c : CS} {i : Nat} (h : CB c) : CB (w_X5_clear c i) := cb_su (cb_su h (by unfold bnd; omega)) (bnd_no (by decide))
theorem cb_X5_add {c : CS} {i pa va ow : Nat} (h : CB c) : CB (w_X5_add c i pa va ow) := by
  unfold w_X5_add
  refine cb_if (fun _ => h) (fun g => ?_)
  by_cases hi : i < 3
  · have := lt_of_guard g (by decide) (cb7 h hi)
    exact cb_su (cb_su (cb_su (cb_su (cb_su h (bnd_no (by decide))) (bnd_no (by decide))) (bnd_no (by decide))) (bnd_no (by decide))) (by unfold bnd; omega)
  · exact cb_out (cb_out (cb_out (cb_out (cb_out h hi) hi) hi) hi) hi
theorem cb_X5_remove {c : CS} {i at_ : Nat} (h : CB c) : CB (w_X5_remove c i at_) := by
  unfold w_X5_remove
  by_cases hi : i < 3
  · have := cb7 h hi
    exact cb_su (cb_su (cb_su (cb_su (cb_su h (by unfold bnd; omega)) (bnd_no (by decide))) (bnd_no (by decide))) (bnd_no (by decide))) (bnd_no (by decide))
  · exact cb_out (cb_out (cb_out (cb_out (cb_out h hi) hi) hi) hi) hi
theorem cb_X5_create {c : CS} {i pa va ow : Nat} (h : CB c) : CB (w_X5_create c i pa va ow) := by
  unfold w_X5_create
  repeat' (first | exact h | exact cb_X5_add h | refine cb_if (fun _ => ?_) (fun _ => ?_))
theorem cb_X5_set {c : CS} {i pa va ve : Nat} (h : CB c) : CB (w_X5_set c i pa va ve) := by
  unfold w_X5_set
  repeat' (first | exact h | exact cb_su (cb_su h (bnd_no (by decide))) (bnd_no (by decide)) | refine cb_if (fun _ => ?_) (fun _ => ?_))
theorem cb_X5_delete {c : CS} {i pa ve : Nat} (h : CB c) : CB (w_X5_delete c i pa ve) := by
  unfold w_X5_delete
  repeat' (first | exact h | exact cb_X5_remove h | refine cb_if (fun _ => ?_) (fun _ => ?_))
theorem cb_X5_open {c : CS} {i v : Nat} (h : CB c) : CB (w_X5_open c i v) := by
  unfold w_X5_open
  repeat' (first | exact h | exact cb_su h (bnd_no (by decide)) | refine cb_if (fun _ => ?_) (fun _ => ?_))
theorem cb_lpw_close {c : CS} {i v : Nat} : ∀ (d k : Nat) (x : CS), CB x → CB (lpw_X5_close_18 c i v d k x) := by
  intro d
  induction d with
  | zero => intro k x hx; exact hx
  | succ d ih =>
    intro k x hx
    simp only [lpw_X5_close_18]
    split
    · exact ih _ _ (cb_X5_remove hx)
    · exact ih _ _ hx
theorem cb_X5_close {c : CS} {i v : Nat} (h : CB c) : CB (w_X5_close c i v) := by
  unfold w_X5_close
  repeat' (first | exact h | exact cb_su (cb_lpw_close _ _ _ h) (bnd_no (by decide)) | refine cb_if (fun _ => ?_) (fun _ => ?_))
theorem cb_X5_change {c : CS} {i kd pa va vb : Nat} (h : CB c) : CB (w_X5_change c i kd pa va vb) := by
  unfold w_X5_change
  repeat' (first | exact cb_X5_create h | exact cb_X5_set h | exact cb_X5_delete h | exact cb_X5_open h | exact cb_X5_close h | refine cb_if (fun _ => ?_) (fun _ => ?_))
theorem cb_X6_sendNewLeader {c : CS} {g f : Nat} (h : CB c) : CB (w_X6_sendNewLeader c g f) := cb_X2_send_d (cb_su (cb_su h (bnd_no (by decide))) (bnd_no (by decide)))
theorem cb_X6_readJoin {c : CS} {g f v : Nat} (h : CB c) : CB (w_X6_readJoin c g f v) := by
  unfold w_X6_readJoin
  exact cb_if (fun _ => cb_X2_send_d (cb_su (cb_su h (bnd_no (by decide))) (bnd_no (by decide)))) (fun _ => cb_X2_send_d h)
