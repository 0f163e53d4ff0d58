def r_X7_out (a : RS) (v : Nat) : Nat := if Int32.ofNat v < 0 then 1 else (if Int32.ofNat v ≤ Int32.ofNat 2 then 0 else 1)
abbrev rm_X7_out : Room := { frames := 0, cells := 0, slots := 0, locals := 0 }
set_option maxHeartbeats 4000000 in
set_option maxRecDepth 100000 in
theorem k_X7_out (l : Launch) (D : va_G) (cI cS cZ : ClassId) (ad : Nat → Nat) (a : RS) (v : Nat) : gN l yX7_out (Cond.code yX7_out cX7_out 1 (some .boolean) :: tb) rm_X7_out D cls8 (tys3 cI cS cZ) [.int (Int32.ofNat v)] (rwld cI cZ a ad) (some (.int (Int32.ofNat (r_X7_out a v)))) (rwld cI cZ a ad) := by
  unfold gN
  refine g_head (by decide) rfl (Nat.le_of_ble_eq_true rfl) ?_
  intro p e s m args below meth cd A F hr hlk hnm
  refine g_eq rfl (L' := [(0, .int (Int32.ofNat v))]) rfl rfl rfl ?_
  refine g_iload_n F dX7_out_0 0 rfl ?_
  refine g_if_lt F dX7_out_1 (tgt := 9) rfl (fun h1 => ?_) (fun h1 => ?_)
  · refine f_iconst F 1 dX7_out_9 rfl ?_
    refine g_goto F dX7_out_10 (tgt := 14) rfl ?_
    exact g_zret F hr hlk rfl dX7_out_14 ⟨congrArg (fun t => some (Value.int (Int32.ofNat t))) (Eq.symm (by unfold r_X7_out; first | simp only [if_pos h1] | rfl)), rfl⟩
  · refine g_iload_n F dX7_out_4 0 rfl ?_
    refine f_iconst F 2 dX7_out_5 rfl ?_
    refine g_icmp_le F dX7_out_6 (tgt := 13) rfl (fun h6 => ?_) (fun h6 => ?_)
    · refine f_iconst F 0 dX7_out_13 rfl ?_
      exact g_zret F hr hlk rfl dX7_out_14 ⟨congrArg (fun t => some (Value.int (Int32.ofNat t))) (Eq.symm (by unfold r_X7_out; first | simp only [if_neg h1, if_pos h6] | rfl)), rfl⟩
    · refine f_iconst F 1 dX7_out_9 rfl ?_
      refine g_goto F dX7_out_10 (tgt := 14) rfl ?_
      exact g_zret F hr hlk rfl dX7_out_14 ⟨congrArg (fun t => some (Value.int (Int32.ofNat t))) (Eq.symm (by unfold r_X7_out; first | simp only [if_neg h1, if_neg h6] | rfl)), rfl⟩
theorem out0 {a : RS} {v : Nat} (h : Int32.ofNat (r_X7_out a v) = 0) (hk : v < 4294967296) : v < 3 := by
  unfold r_X7_out at h
  split at h
  · exact absurd h (by decide)
  · rename_i h1
    have g := code_ge (n := 0) h1 hk (by decide)
    split at h
    · rename_i h2; have := (ofN_le g.2 (by decide)).mp h2; omega
    · exact absurd h (by decide)
theorem znar {v : Nat} (h : v ≤ 1) : vp_nar .boolean (Int32.ofNat v) = Int32.ofNat v := by
  rcases (by omega : v = 0 ∨ v = 1) with h | h <;> subst h <;> rfl
theorem su2_ne {a : RS} {k j v k' : Nat} (h : k' ≠ k) : su2 a k j v k' = a k' := by funext t; unfold su2; rw [if_neg h]
def lpr_X7_find_2 (a : RS) (pa : Nat) : Nat → Nat → Nat
  | 0, k => 4294967295
  | d + 1, k => if Int32.ofNat (a 26 k) = Int32.ofNat pa then k else (lpr_X7_find_2 a pa d (k + 1))
def r_X7_find (a : RS) (pa : Nat) : Nat := lpr_X7_find_2 a pa (a 32 0) 0
abbrev rm_X7_find : Room := { frames := 0, cells := 0, slots := 0, locals := 0 }
set_option maxHeartbeats 4000000 in
set_option maxRecDepth 100000 in
theorem k_X7_find (l : Launch) (D : va_G) (cI cS cZ : ClassId) (ad : Nat → Nat) (a : RS) (pa : Nat) (hb : a 32 0 ≤ 24) : gN l yX7_find (Cond.code yX7_find cX7_find 3 (some .int) :: tb) rm_X7_find D cls8 (tys3 cI cS cZ) [.ref (ad 0), .int (Int32.ofNat pa)] (rwld cI cZ a ad) (some (.int (Int32.ofNat (r_X7_find a pa)))) (rwld cI cZ a ad) := by
  unfold gN
  refine g_head (by decide) rfl (Nat.le_of_ble_eq_true rfl) ?_
  intro p e s m args below meth cd A F hr hlk hnm
  refine g_eq rfl (L' := [(0, .ref (ad 0)), (1, .int (Int32.ofNat pa))]) rfl rfl rfl ?_
  refine f_iconst F 0 dX7_find_0 rfl ?_
  refine g_istore_n F [(2, .int (Int32.ofNat 0)), (0, .ref (ad 0)), (1, .int (Int32.ofNat pa))] dX7_find_1 (by decide) rfl ?_
  have loop2 : ∀ (d k : Nat), (k + d = a 32 0) → r_X7_find a pa = lpr_X7_find_2 a pa d k → gw p l e (headSpec (Cond.code yX7_find cX7_find 3 (some .int) :: tb) rm_X7_find).room s m args below meth cd 3 D cls8 A (MQ below (gQ D cls8 (tys3 cI cS cZ) (fun v w => v = (some (.int (Int32.ofNat (r_X7_find a pa)))) ∧ w = rwld cI cZ a ad) A) args s 0 0 A) 0 0 2 [(2, .int (Int32.ofNat k)), (0, .ref (ad 0)), (1, .int (Int32.ofNat pa))] [] (rwld cI cZ a ad) := by
    intro d
    induction d with
    | zero =>
      intro k hk Er
      refine g_iload_n F dX7_find_2 0 rfl ?_
      refine g_aload_n F dX7_find_3 1 rfl ?_
      refine f_get F inX7 ql_RM rfl 26 (by decide) tb_383 rfl (v := .int (Int32.ofNat (a 32 0))) rfl dX7_find_4 ?_
      refine g_icmp_ge F dX7_find_7 (tgt := 28) rfl (fun h7 => ?_) (fun h7 => ?_)
      rotate_left
      · exact absurd h7 (by rw [ofN_le (by omega) (by omega)]; omega)
      refine f_iconst F 4294967295 dX7_find_28 rfl ?_
      exact g_iret F hr hlk dX7_find_29 ⟨congrArg (fun t => some (Value.int (Int32.ofNat t))) (Eq.symm (Er.trans (by simp only [lpr_X7_find_2]))), rfl⟩
    | succ d ih =>
      intro k hk Er
      refine g_iload_n F dX7_find_2 0 rfl ?_
      refine g_aload_n F dX7_find_3 1 rfl ?_
      refine f_get F inX7 ql_RM rfl 26 (by decide) tb_383 rfl (v := .int (Int32.ofNat (a 32 0))) rfl dX7_find_4 ?_
      refine g_icmp_ge F dX7_find_7 (tgt := 28) rfl (fun h7 => ?_) (fun h7 => ?_)
      · exact absurd h7 (by rw [ofN_le (by omega) (by omega)]; omega)
      refine g_aload_n F dX7_find_10 1 rfl ?_
      refine f_get F inX7 ql_RM rfl 27 (by decide) tb_384 rfl (v := .ref (ad 27)) rfl dX7_find_11 ?_
      refine g_iload_n F dX7_find_14 0 rfl ?_
      refine f_ald F 0 ql_26 rfl (j := k) (by omega) (by decide) dX7_find_15 ?_
      refine g_iload_n F dX7_find_16 2 rfl ?_
      refine g_icmp_ne F dX7_find_17 (tgt := 22) rfl (fun h17 => ?_) (fun h17 => ?_)
      · refine f_iinc F (k + 1) [(2, .int (Int32.ofNat (k + 1))), (0, .ref (ad 0)), (1, .int (Int32.ofNat pa))] dX7_find_22 0 rfl (ofN_inc _) (by decide) rfl ?_
        refine g_goto F dX7_find_25 (tgt := 2) rfl ?_
        exact ih (k + 1) (by omega) (Er.trans (by simp only [lpr_X7_find_2, if_neg h17]))
      · refine g_iload_n F dX7_find_20 0 rfl ?_
        exact g_iret F hr hlk dX7_find_21 ⟨congrArg (fun t => some (Value.int (Int32.ofNat t))) (Eq.symm (Er.trans (by simp only [lpr_X7_find_2, if_pos h17]))), rfl⟩
  exact loop2 (a 32 0) 0 (Nat.zero_add _) rfl
theorem find_ge {a : RS} {pa : Nat} (h : 0 ≤ Int32.ofNat (r_X7_find a pa)) : r_X7_find a pa < a 32 0 := by
  have key : ∀ (d k : Nat), k + d = a 32 0 → lpr_X7_find_2 a pa d k = 4294967295 ∨ lpr_X7_find_2 a pa d k < a 32 0 := by
    intro d
    induction d with
    | zero => intro k _; left; simp only [lpr_X7_find_2]
    | succ d ih =>
      intro k hk
      simp only [lpr_X7_find_2]
      split
      · right; omega
      · exact ih (k + 1) (by omega)
  rcases key (a 32 0) 0 (Nat.zero_add _) with h1 | h1
  · exfalso; unfold r_X7_find at h; rw [h1] at h; exact absurd h (by decide)
  · exact h1
def lpn_X7_children_4 (a : RS) (pa : Nat) : Nat → Nat → Nat → Nat
  | 0, k, n => n
  | d + 1, k, n => if Int32.ofNat (a 26 k) ≤ 0 then (lpn_X7_children_4 a pa d (k + 1) n) else (if Int32.ofNat (nc ((Int32.ofNat (a 26 k)) / (Int32.ofNat 8))) = Int32.ofNat pa then (lpn_X7_children_4 a pa d (k + 1) (n + 1)) else (lpn_X7_children_4 a pa d (k + 1) n))
def r_X7_children (a : RS) (pa : Nat) : Nat := lpn_X7_children_4 a pa (a 32 0) 0 0
abbrev rm_X7_children : Room := { frames := 0, cells := 0, slots := 0, locals := 0 }
set_option maxHeartbeats 4000000 in
set_option maxRecDepth 100000 in
theorem k_X7_children (l : Launch) (D : va_G) (cI cS cZ : ClassId) (ad : Nat → Nat) (a : RS) (pa : Nat) (hb : a 32 0 ≤ 24) : gN l yX7_children (Cond.code yX7_children cX7_children 4 (some .int) :: tb) rm_X7_children D cls8 (tys3 cI cS cZ) [.ref (ad 0), .int (Int32.ofNat pa)] (rwld cI cZ a ad) (some (.int (Int32.ofNat (r_X7_children a pa)))) (rwld cI cZ a ad) := by
  unfold gN
  refine g_head (by decide) rfl (Nat.le_of_ble_eq_true rfl) ?_
  intro p e s m args below meth cd A F hr hlk hnm
  refine g_eq rfl (L' := [(0, .ref (ad 0)), (1, .int (Int32.ofNat pa))]) rfl rfl rfl ?_
  refine f_iconst F 0 dX7_children_0 rfl ?_
  refine g_istore_n F [(2, .int (Int32.ofNat 0)), (0, .ref (ad 0)), (1, .int (Int32.ofNat pa))] dX7_children_1 (by decide) rfl ?_
  refine f_iconst F 0 dX7_children_2 rfl ?_
  refine g_istore_n F [(3, .int (Int32.ofNat 0)), (2, .int (Int32.ofNat 0)), (0, .ref (ad 0)), (1, .int (Int32.ofNat pa))] dX7_children_3 (by decide) rfl ?_
  have loop4 : ∀ (Q : State → Prop) (d k n : Nat), (k + d = a 32 0) → gw p l e (headSpec (Cond.code yX7_children cX7_children 4 (some .int) :: tb) rm_X7_children).room s m args below meth cd 4 D cls8 A Q 0 0 48 [(2, .int (Int32.ofNat (lpn_X7_children_4 a pa d k n))), (0, .ref (ad 0)), (1, .int (Int32.ofNat pa))] [] (rwld cI cZ a ad) → gw p l e (headSpec (Cond.code yX7_children cX7_children 4 (some .int) :: tb) rm_X7_children).room s m args below meth cd 4 D cls8 A Q 0 0 4 [(3, .int (Int32.ofNat k)), (2, .int (Int32.ofNat n)), (0, .ref (ad 0)), (1, .int (Int32.ofNat pa))] [] (rwld cI cZ a ad) := by
    intro Q d
    induction d with
    | zero =>
      intro k n hk K
      refine g_iload_n F dX7_children_4 0 rfl ?_
      refine g_aload_n F dX7_children_5 2 rfl ?_
      refine f_get F inX7 ql_RM rfl 26 (by decide) tb_383 rfl (v := .int (Int32.ofNat (a 32 0))) rfl dX7_children_6 ?_
      refine g_icmp_ge F dX7_children_9 (tgt := 48) rfl (fun h9 => ?_) (fun h9 => ?_)
      rotate_left
      · exact absurd h9 (by rw [ofN_le (by omega) (by omega)]; omega)
      refine g_locals [(2, .int (Int32.ofNat n)), (0, .ref (ad 0)), (1, .int (Int32.ofNat pa))] [1, 2, 3] rfl ?_
      exact K
    | succ d ih =>
      intro k n hk K
      refine g_iload_n F dX7_children_4 0 rfl ?_
      refine g_aload_n F dX7_children_5 2 rfl ?_
      refine f_get F inX7 ql_RM rfl 26 (by decide) tb_383 rfl (v := .int (Int32.ofNat (a 32 0))) rfl dX7_children_6 ?_
      refine g_icmp_ge F dX7_children_9 (tgt := 48) rfl (fun h9 => ?_) (fun h9 => ?_)
      · exact absurd h9 (by rw [ofN_le (by omega) (by omega)]; omega)
      refine g_aload_n F dX7_children_12 2 rfl ?_
      refine f_get F inX7 ql_RM rfl 27 (by decide) tb_384 rfl (v := .ref (ad 27)) rfl dX7_children_13 ?_
      refine g_iload_n F dX7_children_16 0 rfl ?_
      refine f_ald F 0 ql_26 rfl (j := k) (by omega) (by decide) dX7_children_17 ?_
      refine g_if_le F dX7_children_18 (tgt := 40) rfl (fun h18 => ?_) (fun h18 => ?_)
      · refine g_iload_n F dX7_children_40 1 rfl ?_
        refine g_istore_n F [(2, .int (Int32.ofNat n)), (3, .int (Int32.ofNat k)), (0, .ref (ad 0)), (1, .int (Int32.ofNat pa))] dX7_children_41 (by decide) rfl ?_
        refine f_iinc F (k + 1) [(3, .int (Int32.ofNat (k + 1))), (2, .int (Int32.ofNat n)), (0, .ref (ad 0)), (1, .int (Int32.ofNat pa))] dX7_children_42 1 rfl (ofN_inc _) (by decide) rfl ?_
        refine g_goto F dX7_children_45 (tgt := 4) rfl ?_
        exact ih (k + 1) n (by omega) (g_eq rfl (by simp only [lpn_X7_children_4, if_pos h18]) rfl rfl K)
      · refine g_aload_n F dX7_children_21 2 rfl ?_
        refine f_get F inX7 ql_RM rfl 27 (by decide) tb_384 rfl (v := .ref (ad 27)) rfl dX7_children_22 ?_
        refine g_iload_n F dX7_children_25 0 rfl ?_
        refine f_ald F 0 ql_26 rfl (j := k) (by omega) (by decide) dX7_children_26 ?_
        refine f_bipush F 8 dX7_children_27 rfl ?_
        refine g_idiv F dX7_children_29 (by decide) ?_
        refine f_code ?_
        refine g_iload_n F dX7_children_30 3 rfl ?_
        refine g_icmp_ne F dX7_children_31 (tgt := 40) rfl (fun h31 => ?_) (fun h31 => ?_)
        · refine g_iload_n F dX7_children_40 1 rfl ?_
          refine g_istore_n F [(2, .int (Int32.ofNat n)), (3, .int (Int32.ofNat k)), (0, .ref (ad 0)), (1, .int (Int32.ofNat pa))] dX7_children_41 (by decide) rfl ?_
          refine f_iinc F (k + 1) [(3, .int (Int32.ofNat (k + 1))), (2, .int (Int32.ofNat n)), (0, .ref (ad 0)), (1, .int (Int32.ofNat pa))] dX7_children_42 1 rfl (ofN_inc _) (by decide) rfl ?_
          refine g_goto F dX7_children_45 (tgt := 4) rfl ?_
          exact ih (k + 1) n (by omega) (g_eq rfl (by simp only [lpn_X7_children_4, if_neg h18, if_neg h31]) rfl rfl K)
        · refine g_iload_n F dX7_children_34 1 rfl ?_
          refine f_iconst F 1 dX7_children_35 rfl ?_
          refine f_add F dX7_children_36 ?_
          refine g_goto F dX7_children_37 (tgt := 41) rfl ?_
          refine g_istore_n F [(2, .int (Int32.ofNat (n + 1))), (3, .int (Int32.ofNat k)), (0, .ref (ad 0)), (1, .int (Int32.ofNat pa))] dX7_children_41 (by decide) rfl ?_
          refine f_iinc F (k + 1) [(3, .int (Int32.ofNat (k + 1))), (2, .int (Int32.ofNat (n + 1))), (0, .ref (ad 0)), (1, .int (Int32.ofNat pa))] dX7_children_42 1 rfl (ofN_inc _) (by decide) rfl ?_
          refine g_goto F dX7_children_45 (tgt := 4) rfl ?_
          exact ih (k + 1) (n + 1) (by omega) (g_eq rfl (by simp only [lpn_X7_children_4, if_neg h18, if_pos h31]) rfl rfl K)
  refine loop4 _ (a 32 0) 0 0 (Nat.zero_add _) ?_
  refine g_iload_n F dX7_children_48 0 rfl ?_
  exact g_iret F hr hlk dX7_children_49 ⟨congrArg (fun t => some (Value.int (Int32.ofNat t))) rfl, rfl⟩
def r_X7_create (a : RS) (pa va b : Nat) : Nat := if Int32.ofNat b = 0 then (if Int32.ofNat (r_X7_find a pa) < 0 then (if Int32.ofNat (nc ((Int32.ofNat pa) / (Int32.ofNat 8))) ≤ 0 then 0 else (if 0 ≤ Int32.ofNat (r_X7_find a (nc ((Int32.ofNat pa) / (Int32.ofNat 8)))) then (if Int32.ofNat (a 29 (r_X7_find a (nc ((Int32.ofNat pa) / (Int32.ofNat 8))))) = 0 then 0 else 3) else 1)) else 2) else (if Int32.ofNat (a 30 b) = 0 then 6 else (if Int32.ofNat (r_X7_find a pa) < 0 then (if Int32.ofNat (nc ((Int32.ofNat pa) / (Int32.ofNat 8))) ≤ 0 then 0 else (if 0 ≤ Int32.ofNat (r_X7_find a (nc ((Int32.ofNat pa) / (Int32.ofNat 8)))) then (if Int32.ofNat (a 29 (r_X7_find a (nc ((Int32.ofNat pa) / (Int32.ofNat 8))))) = 0 then 0 else 3) else 1)) else 2))
def w_X7_create (a : RS) (pa va b : Nat) : RS := if Int32.ofNat b = 0 then (if Int32.ofNat (r_X7_find a pa) < 0 then (if Int32.ofNat (nc ((Int32.ofNat pa) / (Int32.ofNat 8))) ≤ 0 then (su2 (su2 (su2 (su2 (su2 a 26 (a 32 0) pa) 27 (a 32 0) va) 28 (a 32 0) 0) 29 (a 32 0) b) 32 0 ((a 32 0) + 1)) else (if 0 ≤ Int32.ofNat (r_X7_find a (nc ((Int32.ofNat pa) / (Int32.ofNat 8)))) then (if Int32.ofNat (a 29 (r_X7_find a (nc ((Int32.ofNat pa) / (Int32.ofNat 8))))) = 0 then (su2 (su2 (su2 (su2 (su2 a 26 (a 32 0) pa) 27 (a 32 0) va) 28 (a 32 0) 0) 29 (a 32 0) b) 32 0 ((a 32 0) + 1)) else a) else a)) else a) else (if Int32.ofNat (a 30 b) = 0 then a else (if Int32.ofNat (r_X7_find a pa) < 0 then (if Int32.ofNat (nc ((Int32.ofNat pa) / (Int32.ofNat 8))) ≤ 0 then (su2 (su2 (su2 (su2 (su2 a 26 (a 32 0) pa) 27 (a 32 0) va) 28 (a 32 0) 0) 29 (a 32 0) b) 32 0 ((a 32 0) + 1)) else (if 0 ≤ Int32.ofNat (r_X7_find a (nc ((Int32.ofNat pa) / (Int32.ofNat 8)))) then (if Int32.ofNat (a 29 (r_X7_find a (nc ((Int32.ofNat pa) / (Int32.ofNat 8))))) = 0 then (su2 (su2 (su2 (su2 (su2 a 26 (a 32 0) pa) 27 (a 32 0) va) 28 (a 32 0) 0) 29 (a 32 0) b) 32 0 ((a 32 0) + 1)) else a) else a)) else a))
abbrev rm_X7_create : Room := { frames := 1, cells := 0, slots := 0, locals := 22 }
set_option maxHeartbeats 4000000 in
set_option maxRecDepth 100000 in
theorem k_X7_create (l : Launch) (D : va_G) (cI cS cZ : ClassId) (ad : Nat → Nat) (a : RS) (pa va b : Nat) (hb5 : b < 5) (hn : a 32 0 < 24) : gN l yX7_create (Cond.code yX7_create cX7_create 5 (some .int) :: tb) rm_X7_create D cls8 (tys3 cI cS cZ) [.ref (ad 0), .int (Int32.ofNat pa), .int (Int32.ofNat va), .int (Int32.ofNat b)] (rwld cI cZ a ad) (some (.int (Int32.ofNat (r_X7_create a pa va b)))) (rwld cI cZ (w_X7_create a pa va b) ad) := by
  unfold gN
  refine g_head (by decide) rfl (Nat.le_of_ble_eq_true rfl) ?_
  intro p e s m args below meth cd A F hr hlk hnm
  refine g_eq rfl (L' := [(0, .ref (ad 0)), (1, .int (Int32.ofNat pa)), (2, .int (Int32.ofNat va)), (3, .int (Int32.ofNat b))]) rfl rfl rfl ?_
  refine g_iload_n F dX7_create_0 3 rfl ?_
  refine g_if_eq F dX7_create_1 (tgt := 16) rfl (fun h1 => ?_) (fun h1 => ?_)
  · refine g_aload_n F dX7_create_16 0 rfl ?_
    refine g_iload_n F dX7_create_17 1 rfl ?_
    refine f_callV F (As := [.int (Int32.ofNat pa)]) (rest := []) (st' := [.int (Int32.ofNat (r_X7_find a pa))]) (k_X7_find l D cI cS cZ ad a pa (by first | assumption | omega)) ql_RM rfl tb_510 tb_508 tb_509 tb_621 tb_8 ⟨rfl, hdX7_find⟩ ⟨rfl, rfl⟩ ⟨Nat.le_of_ble_eq_true rfl, Nat.le_of_ble_eq_true rfl⟩ rw_adr rfl rfl (Nat.le_of_ble_eq_true rfl) ⟨Nat.le_refl _, Nat.le_refl _⟩ dX7_create_18 rfl ?_
    refine g_if_lt F dX7_create_21 (tgt := 26) rfl (fun h21 => ?_) (fun h21 => ?_)
    · refine g_aload_n F dX7_create_26 0 rfl ?_
      refine g_iload_n F dX7_create_27 1 rfl ?_
      refine f_bipush F 8 dX7_create_28 rfl ?_
      refine g_idiv F dX7_create_30 (by decide) ?_
      refine f_code ?_
      refine f_callV F (As := [.int (Int32.ofNat (nc ((Int32.ofNat pa) / (Int32.ofNat 8))))]) (rest := []) (st' := [.int (Int32.ofNat (r_X7_find a (nc ((Int32.ofNat pa) / (Int32.ofNat 8)))))]) (k_X7_find l D cI cS cZ ad a (nc ((Int32.ofNat pa) / (Int32.ofNat 8))) (by first | assumption | omega)) ql_RM rfl tb_510 tb_508 tb_509 tb_621 tb_8 ⟨rfl, hdX7_find⟩ ⟨rfl, rfl⟩ ⟨Nat.le_of_ble_eq_true rfl, Nat.le_of_ble_eq_true rfl⟩ rw_adr rfl rfl (Nat.le_of_ble_eq_true rfl) ⟨Nat.le_refl _, Nat.le_refl _⟩ dX7_create_31 rfl ?_
      refine g_istore F [(4, .int (Int32.ofNat (r_X7_find a (nc ((Int32.ofNat pa) / (Int32.ofNat 8)))))), (0, .ref (ad 0)), (1, .int (Int32.ofNat pa)), (2, .int (Int32.ofNat va)), (3, .int (Int32.ofNat b))] dX7_create_34 (by decide) rfl ?_
      refine g_iload_n F dX7_create_36 2 rfl ?_
      refine f_bipush F 8 dX7_create_37 rfl ?_
      refine g_idiv F dX7_create_39 (by decide) ?_
      refine f_code ?_
      refine g_if_le F dX7_create_40 (tgt := 50) rfl (fun h40 => ?_) (fun h40 => ?_)
      · refine g_iload_n F dX7_create_50 2 rfl ?_
        refine f_bipush F 8 dX7_create_51 rfl ?_
        refine g_idiv F dX7_create_53 (by decide) ?_
        refine f_code ?_
        refine g_if_le F dX7_create_54 (tgt := 69) rfl (fun h54 => ?_) (fun h54 => ?_)
        rotate_left
        · exact absurd h40 h54
        refine g_aload_n F dX7_create_69 1 rfl ?_
        refine f_get F inX7 ql_RM rfl 27 (by decide) tb_384 rfl (v := .ref (ad 27)) rfl dX7_create_70 ?_
        refine g_aload_n F dX7_create_73 1 rfl ?_
        refine f_get F inX7 ql_RM rfl 26 (by decide) tb_383 rfl (v := .int (Int32.ofNat (a 32 0))) rfl dX7_create_74 ?_
        refine g_iload_n F dX7_create_77 2 rfl ?_
        refine f_ast F 0 ql_26 rfl (j := a 32 0) (v := pa) (by omega) (by decide) dX7_create_78 qs_26 ?_
        refine g_aload_n F dX7_create_79 1 rfl ?_
        refine f_get F inX7 ql_RM rfl 28 (by decide) tb_385 rfl (v := .ref (ad 28)) rfl dX7_create_80 ?_
        refine g_aload_n F dX7_create_83 1 rfl ?_
        refine f_get F inX7 ql_RM rfl 26 (by decide) tb_383 rfl (v := .int (Int32.ofNat (a 32 0))) rfl dX7_create_84 ?_
        refine g_iload_n F dX7_create_87 3 rfl ?_
        refine f_ast F 0 ql_27 rfl (j := a 32 0) (v := va) (by omega) (by decide) dX7_create_88 qs_27 ?_
        refine g_aload_n F dX7_create_89 1 rfl ?_
        refine f_get F inX7 ql_RM rfl 29 (by decide) tb_386 rfl (v := .ref (ad 29)) rfl dX7_create_90 ?_
        refine g_aload_n F dX7_create_93 1 rfl ?_
        refine f_get F inX7 ql_RM rfl 26 (by decide) tb_383 rfl (v := .int (Int32.ofNat (a 32 0))) rfl dX7_create_94 ?_
        refine f_iconst F 0 dX7_create_97 rfl ?_
        refine f_ast F 0 ql_28 rfl (j := a 32 0) (v := 0) (by omega) (by decide) dX7_create_98 qs_28 ?_
        refine g_aload_n F dX7_create_99 1 rfl ?_
        refine f_get F inX7 ql_RM rfl 30 (by decide) tb_387 rfl (v := .ref (ad 30)) rfl dX7_create_100 ?_
        refine g_aload_n F dX7_create_103 1 rfl ?_
        refine f_get F inX7 ql_RM rfl 26 (by decide) tb_383 rfl (v := .int (Int32.ofNat (a 32 0))) rfl dX7_create_104 ?_
        refine g_iload_n F dX7_create_107 4 rfl ?_
        refine f_ast F 0 ql_29 rfl (j := a 32 0) (v := b) (by omega) (by decide) dX7_create_108 qs_29 ?_
        refine g_aload_n F dX7_create_109 1 rfl ?_
        refine g_dup F dX7_create_110 rfl ?_
        refine f_get F inX7 ql_RM rfl 26 (by decide) tb_383 rfl (v := .int (Int32.ofNat (a 32 0))) rfl dX7_create_111 ?_
        refine f_iconst F 1 dX7_create_114 rfl ?_
        refine f_add F dX7_create_115 ?_
        refine f_put F inX7 tyX7_ok nmX7 ql_RM rfl 26 (by decide) tb_383 rfl rfl rfl rfl (Nat.le_of_ble_eq_true rfl) dX7_create_116 qs_32 ?_
        refine f_iconst F 0 dX7_create_119 rfl ?_
        exact g_iret F hr hlk dX7_create_120 ⟨congrArg (fun t => some (Value.int (Int32.ofNat t))) (Eq.symm (by unfold r_X7_create; first | simp only [if_pos h1, if_pos h21, if_pos h40] | rfl)), congrArg (fun t => rwld cI cZ t ad) (Eq.symm (by unfold w_X7_create; first | simp only [if_pos h1, if_pos h21, if_pos h40] | rfl))⟩
      · refine g_iload F dX7_create_43 0 rfl ?_
        refine g_if_ge F dX7_create_45 (tgt := 50) rfl (fun h45 => ?_) (fun h45 => ?_)
        · refine g_iload_n F dX7_create_50 2 rfl ?_
          refine f_bipush F 8 dX7_create_51 rfl ?_
          refine g_idiv F dX7_create_53 (by decide) ?_
          refine f_code ?_
          refine g_if_le F dX7_create_54 (tgt := 69) rfl (fun h54 => ?_) (fun h54 => ?_)
          · exact absurd h54 h40
          refine g_aload_n F dX7_create_57 1 rfl ?_
          refine f_get F inX7 ql_RM rfl 30 (by decide) tb_387 rfl (v := .ref (ad 30)) rfl dX7_create_58 ?_
          refine g_iload F dX7_create_61 0 rfl ?_
          refine f_ald F 0 ql_29 rfl (j := r_X7_find a (nc ((Int32.ofNat pa) / (Int32.ofNat 8)))) (by have := find_ge h45; omega) (by decide) dX7_create_63 ?_
          refine g_if_eq F dX7_create_64 (tgt := 69) rfl (fun h64 => ?_) (fun h64 => ?_)
          · refine g_aload_n F dX7_create_69 1 rfl ?_
            refine f_get F inX7 ql_RM rfl 27 (by decide) tb_384 rfl (v := .ref (ad 27)) rfl dX7_create_70 ?_
            refine g_aload_n F dX7_create_73 1 rfl ?_
            refine f_get F inX7 ql_RM rfl 26 (by decide) tb_383 rfl (v := .int (Int32.ofNat (a 32 0))) rfl dX7_create_74 ?_
            refine g_iload_n F dX7_create_77 2 rfl ?_
            refine f_ast F 0 ql_26 rfl (j := a 32 0) (v := pa) (by omega) (by decide) dX7_create_78 qs_26 ?_
            refine g_aload_n F dX7_create_79 1 rfl ?_
            refine f_get F inX7 ql_RM rfl 28 (by decide) tb_385 rfl (v := .ref (ad 28)) rfl dX7_create_80 ?_
            refine g_aload_n F dX7_create_83 1 rfl ?_
            refine f_get F inX7 ql_RM rfl 26 (by decide) tb_383 rfl (v := .int (Int32.ofNat (a 32 0))) rfl dX7_create_84 ?_
            refine g_iload_n F dX7_create_87 3 rfl ?_
            refine f_ast F 0 ql_27 rfl (j := a 32 0) (v := va) (by omega) (by decide) dX7_create_88 qs_27 ?_
            refine g_aload_n F dX7_create_89 1 rfl ?_
            refine f_get F inX7 ql_RM rfl 29 (by decide) tb_386 rfl (v := .ref (ad 29)) rfl dX7_create_90 ?_
            refine g_aload_n F dX7_create_93 1 rfl ?_
            refine f_get F inX7 ql_RM rfl 26 (by decide) tb_383 rfl (v := .int (Int32.ofNat (a 32 0))) rfl dX7_create_94 ?_
            refine f_iconst F 0 dX7_create_97 rfl ?_
            refine f_ast F 0 ql_28 rfl (j := a 32 0) (v := 0) (by omega) (by decide) dX7_create_98 qs_28 ?_
            refine g_aload_n F dX7_create_99 1 rfl ?_
            refine f_get F inX7 ql_RM rfl 30 (by decide) tb_387 rfl (v := .ref (ad 30)) rfl dX7_create_100 ?_
            refine g_aload_n F dX7_create_103 1 rfl ?_
            refine f_get F inX7 ql_RM rfl 26 (by decide) tb_383 rfl (v := .int (Int32.ofNat (a 32 0))) rfl dX7_create_104 ?_
            refine g_iload_n F dX7_create_107 4 rfl ?_
            refine f_ast F 0 ql_29 rfl (j := a 32 0) (v := b) (by omega) (by decide) dX7_create_108 qs_29 ?_
            refine g_aload_n F dX7_create_109 1 rfl ?_
            refine g_dup F dX7_create_110 rfl ?_
            refine f_get F inX7 ql_RM rfl 26 (by decide) tb_383 rfl (v := .int (Int32.ofNat (a 32 0))) rfl dX7_create_111 ?_
            refine f_iconst F 1 dX7_create_114 rfl ?_
            refine f_add F dX7_create_115 ?_
            refine f_put F inX7 tyX7_ok nmX7 ql_RM rfl 26 (by decide) tb_383 rfl rfl rfl rfl (Nat.le_of_ble_eq_true rfl) dX7_create_116 qs_32 ?_
            refine f_iconst F 0 dX7_create_119 rfl ?_
            exact g_iret F hr hlk dX7_create_120 ⟨congrArg (fun t => some (Value.int (Int32.ofNat t))) (Eq.symm (by unfold r_X7_create; first | simp only [if_pos h1, if_pos h21, if_neg h40, if_pos h45, if_pos h64] | rfl)), congrArg (fun t => rwld cI cZ t ad) (Eq.symm (by unfold w_X7_create; first | simp only [if_pos h1, if_pos h21, if_neg h40, if_pos h45, if_pos h64] | rfl))⟩
          · refine f_iconst F 3 dX7_create_67 rfl ?_
            exact g_iret F hr hlk dX7_create_68 ⟨congrArg (fun t => some (Value.int (Int32.ofNat t))) (Eq.symm (by unfold r_X7_create; first | simp only [if_pos h1, if_pos h21, if_neg h40, if_pos h45, if_neg h64] | rfl)), congrArg (fun t => rwld cI cZ t ad) (Eq.symm (by unfold w_X7_create; first | simp only [if_pos h1, if_pos h21, if_neg h40, if_pos h45, if_neg h64] | rfl))⟩
        · refine f_iconst F 1 dX7_create_48 rfl ?_
          exact g_iret F hr hlk dX7_create_49 ⟨congrArg (fun t => some (Value.int (Int32.ofNat t))) (Eq.symm (by unfold r_X7_create; first | simp only [if_pos h1, if_pos h21, if_neg h40, if_neg h45] | rfl)), congrArg (fun t => rwld cI cZ t ad) (Eq.symm (by unfold w_X7_create; first | simp only [if_pos h1, if_pos h21, if_neg h40, if_neg h45] | rfl))⟩
    · refine f_iconst F 2 dX7_create_24 rfl ?_
      exact g_iret F hr hlk dX7_create_25 ⟨congrArg (fun t => some (Value.int (Int32.ofNat t))) (Eq.symm (by unfold r_X7_create; first | simp only [if_pos h1, if_neg h21] | rfl)), congrArg (fun t => rwld cI cZ t ad) (Eq.symm (by unfold w_X7_create; first | simp only [if_pos h1, if_neg h21] | rfl))⟩
  · refine g_aload_n F dX7_create_4 0 rfl ?_
    refine f_get F inX7 ql_RM rfl 31 (by decide) tb_388 rfl (v := .ref (ad 31)) rfl dX7_create_5 ?_
    refine g_iload_n F dX7_create_8 3 rfl ?_
    refine f_zald F 2 ql_30 rfl (j := b) (by omega) (by decide) dX7_create_9 ?_
    refine g_if_ne F dX7_create_10 (tgt := 16) rfl (fun h10 => ?_) (fun h10 => ?_)
    · refine g_aload_n F dX7_create_16 0 rfl ?_
      refine g_iload_n F dX7_create_17 1 rfl ?_
      refine f_callV F (As := [.int (Int32.ofNat pa)]) (rest := []) (st' := [.int (Int32.ofNat (r_X7_find a pa))]) (k_X7_find l D cI cS cZ ad a pa (by first | assumption | omega)) ql_RM rfl tb_510 tb_508 tb_509 tb_621 tb_8 ⟨rfl, hdX7_find⟩ ⟨rfl, rfl⟩ ⟨Nat.le_of_ble_eq_true rfl, Nat.le_of_ble_eq_true rfl⟩ rw_adr rfl rfl (Nat.le_of_ble_eq_true rfl) ⟨Nat.le_refl _, Nat.le_refl _⟩ dX7_create_18 rfl ?_
      refine g_if_lt F dX7_create_21 (tgt := 26) rfl (fun h21 => ?_) (fun h21 => ?_)
      · refine g_aload_n F dX7_create_26 0 rfl ?_
        refine g_iload_n F dX7_create_27 1 rfl ?_
        refine f_bipush F 8 dX7_create_28 rfl ?_
        refine g_idiv F dX7_create_30 (by decide) ?_
        refine f_code ?_
        refine f_callV F (As := [.int (Int32.ofNat (nc ((Int32.ofNat pa) / (Int32.ofNat 8))))]) (rest := []) (st' := [.int (Int32.ofNat (r_X7_find a (nc ((Int32.ofNat pa) / (Int32.ofNat 8)))))]) (k_X7_find l D cI cS cZ ad a (nc ((Int32.ofNat pa) / (Int32.ofNat 8))) (by first | assumption | omega)) ql_RM rfl tb_510 tb_508 tb_509 tb_621 tb_8 ⟨rfl, hdX7_find⟩ ⟨rfl, rfl⟩ ⟨Nat.le_of_ble_eq_true rfl, Nat.le_of_ble_eq_true rfl⟩ rw_adr rfl rfl (Nat.le_of_ble_eq_true rfl) ⟨Nat.le_refl _, Nat.le_refl _⟩ dX7_create_31 rfl ?_
        refine g_istore F [(4, .int (Int32.ofNat (r_X7_find a (nc ((Int32.ofNat pa) / (Int32.ofNat 8)))))), (0, .ref (ad 0)), (1, .int (Int32.ofNat pa)), (2, .int (Int32.ofNat va)), (3, .int (Int32.ofNat b))] dX7_create_34 (by decide) rfl ?_
        refine g_iload_n F dX7_create_36 2 rfl ?_
        refine f_bipush F 8 dX7_create_37 rfl ?_
        refine g_idiv F dX7_create_39 (by decide) ?_
        refine f_code ?_
        refine g_if_le F dX7_create_40 (tgt := 50) rfl (fun h40 => ?_) (fun h40 => ?_)
        · refine g_iload_n F dX7_create_50 2 rfl ?_
          refine f_bipush F 8 dX7_create_51 rfl ?_
          refine g_idiv F dX7_create_53 (by decide) ?_
          refine f_code ?_
          refine g_if_le F dX7_create_54 (tgt := 69) rfl (fun h54 => ?_) (fun h54 => ?_)
          rotate_left
          · exact absurd h40 h54
          refine g_aload_n F dX7_create_69 1 rfl ?_
          refine f_get F inX7 ql_RM rfl 27 (by decide) tb_384 rfl (v := .ref (ad 27)) rfl dX7_create_70 ?_
          refine g_aload_n F dX7_create_73 1 rfl ?_
          refine f_get F inX7 ql_RM rfl 26 (by decide) tb_383 rfl (v := .int (Int32.ofNat (a 32 0))) rfl dX7_create_74 ?_
          refine g_iload_n F dX7_create_77 2 rfl ?_
          refine f_ast F 0 ql_26 rfl (j := a 32 0) (v := pa) (by omega) (by decide) dX7_create_78 qs_26 ?_
          refine g_aload_n F dX7_create_79 1 rfl ?_
          refine f_get F inX7 ql_RM rfl 28 (by decide) tb_385 rfl (v := .ref (ad 28)) rfl dX7_create_80 ?_
          refine g_aload_n F dX7_create_83 1 rfl ?_
          refine f_get F inX7 ql_RM rfl 26 (by decide) tb_383 rfl (v := .int (Int32.ofNat (a 32 0))) rfl dX7_create_84 ?_
          refine g_iload_n F dX7_create_87 3 rfl ?_
          refine f_ast F 0 ql_27 rfl (j := a 32 0) (v := va) (by omega) (by decide) dX7_create_88 qs_27 ?_
          refine g_aload_n F dX7_create_89 1 rfl ?_
          refine f_get F inX7 ql_RM rfl 29 (by decide) tb_386 rfl (v := .ref (ad 29)) rfl dX7_create_90 ?_
          refine g_aload_n F dX7_create_93 1 rfl ?_
          refine f_get F inX7 ql_RM rfl 26 (by decide) tb_383 rfl (v := .int (Int32.ofNat (a 32 0))) rfl dX7_create_94 ?_
          refine f_iconst F 0 dX7_create_97 rfl ?_
          refine f_ast F 0 ql_28 rfl (j := a 32 0) (v := 0) (by omega) (by decide) dX7_create_98 qs_28 ?_
          refine g_aload_n F dX7_create_99 1 rfl ?_
          refine f_get F inX7 ql_RM rfl 30 (by decide) tb_387 rfl (v := .ref (ad 30)) rfl dX7_create_100 ?_
          refine g_aload_n F dX7_create_103 1 rfl ?_
          refine f_get F inX7 ql_RM rfl 26 (by decide) tb_383 rfl (v := .int (Int32.ofNat (a 32 0))) rfl dX7_create_104 ?_
          refine g_iload_n F dX7_create_107 4 rfl ?_
          refine f_ast F 0 ql_29 rfl (j := a 32 0) (v := b) (by omega) (by decide) dX7_create_108 qs_29 ?_
          refine g_aload_n F dX7_create_109 1 rfl ?_
          refine g_dup F dX7_create_110 rfl ?_
          refine f_get F inX7 ql_RM rfl 26 (by decide) tb_383 rfl (v := .int (Int32.ofNat (a 32 0))) rfl dX7_create_111 ?_
          refine f_iconst F 1 dX7_create_114 rfl ?_
          refine f_add F dX7_create_115 ?_
          refine f_put F inX7 tyX7_ok nmX7 ql_RM rfl 26 (by decide) tb_383 rfl rfl rfl rfl (Nat.le_of_ble_eq_true rfl) dX7_create_116 qs_32 ?_
          refine f_iconst F 0 dX7_create_119 rfl ?_
          exact g_iret F hr hlk dX7_create_120 ⟨congrArg (fun t => some (Value.int (Int32.ofNat t))) (Eq.symm (by unfold r_X7_create; first | simp only [if_neg h1, if_neg h10, if_pos h21, if_pos h40] | rfl)), congrArg (fun t => rwld cI cZ t ad) (Eq.symm (by unfold w_X7_create; first | simp only [if_neg h1, if_neg h10, if_pos h21, if_pos h40] | rfl))⟩
        · refine g_iload F dX7_create_43 0 rfl ?_
          refine g_if_ge F dX7_create_45 (tgt := 50) rfl (fun h45 => ?_) (fun h45 => ?_)
          · refine g_iload_n F dX7_create_50 2 rfl ?_
            refine f_bipush F 8 dX7_create_51 rfl ?_
            refine g_idiv F dX7_create_53 (by decide) ?_
            refine f_code ?_
            refine g_if_le F dX7_create_54 (tgt := 69) rfl (fun h54 => ?_) (fun h54 => ?_)
            · exact absurd h54 h40
            refine g_aload_n F dX7_create_57 1 rfl ?_
            refine f_get F inX7 ql_RM rfl 30 (by decide) tb_387 rfl (v := .ref (ad 30)) rfl dX7_create_58 ?_
            refine g_iload F dX7_create_61 0 rfl ?_
            refine f_ald F 0 ql_29 rfl (j := r_X7_find a (nc ((Int32.ofNat pa) / (Int32.ofNat 8)))) (by have := find_ge h45; omega) (by decide) dX7_create_63 ?_
            refine g_if_eq F dX7_create_64 (tgt := 69) rfl (fun h64 => ?_) (fun h64 => ?_)
            · refine g_aload_n F dX7_create_69 1 rfl ?_
              refine f_get F inX7 ql_RM rfl 27 (by decide) tb_384 rfl (v := .ref (ad 27)) rfl dX7_create_70 ?_
              refine g_aload_n F dX7_create_73 1 rfl ?_
              refine f_get F inX7 ql_RM rfl 26 (by decide) tb_383 rfl (v := .int (Int32.ofNat (a 32 0))) rfl dX7_create_74 ?_
              refine g_iload_n F dX7_create_77 2 rfl ?_
              refine f_ast F 0 ql_26 rfl (j := a 32 0) (v := pa) (by omega) (by decide) dX7_create_78 qs_26 ?_
              refine g_aload_n F dX7_create_79 1 rfl ?_
              refine f_get F inX7 ql_RM rfl 28 (by decide) tb_385 rfl (v := .ref (ad 28)) rfl dX7_create_80 ?_
              refine g_aload_n F dX7_create_83 1 rfl ?_
              refine f_get F inX7 ql_RM rfl 26 (by decide) tb_383 rfl (v := .int (Int32.ofNat (a 32 0))) rfl dX7_create_84 ?_
              refine g_iload_n F dX7_create_87 3 rfl ?_
              refine f_ast F 0 ql_27 rfl (j := a 32 0) (v := va) (by omega) (by decide) dX7_create_88 qs_27 ?_
              refine g_aload_n F dX7_create_89 1 rfl ?_
              refine f_get F inX7 ql_RM rfl 29 (by decide) tb_386 rfl (v := .ref (ad 29)) rfl dX7_create_90 ?_
              refine g_aload_n F dX7_create_93 1 rfl ?_
              refine f_get F inX7 ql_RM rfl 26 (by decide) tb_383 rfl (v := .int (Int32.ofNat (a 32 0))) rfl dX7_create_94 ?_
              refine f_iconst F 0 dX7_create_97 rfl ?_
              refine f_ast F 0 ql_28 rfl (j := a 32 0) (v := 0) (by omega) (by decide) dX7_create_98 qs_28 ?_
              refine g_aload_n F dX7_create_99 1 rfl ?_
              refine f_get F inX7 ql_RM rfl 30 (by decide) tb_387 rfl (v := .ref (ad 30)) rfl dX7_create_100 ?_
              refine g_aload_n F dX7_create_103 1 rfl ?_
              refine f_get F inX7 ql_RM rfl 26 (by decide) tb_383 rfl (v := .int (Int32.ofNat (a 32 0))) rfl dX7_create_104 ?_
              refine g_iload_n F dX7_create_107 4 rfl ?_
              refine f_ast F 0 ql_29 rfl (j := a 32 0) (v := b) (by omega) (by decide) dX7_create_108 qs_29 ?_
              refine g_aload_n F dX7_create_109 1 rfl ?_
              refine g_dup F dX7_create_110 rfl ?_
              refine f_get F inX7 ql_RM rfl 26 (by decide) tb_383 rfl (v := .int (Int32.ofNat (a 32 0))) rfl dX7_create_111 ?_
              refine f_iconst F 1 dX7_create_114 rfl ?_
              refine f_add F dX7_create_115 ?_
              refine f_put F inX7 tyX7_ok nmX7 ql_RM rfl 26 (by decide) tb_383 rfl rfl rfl rfl (Nat.le_of_ble_eq_true rfl) dX7_create_116 qs_32 ?_
              refine f_iconst F 0 dX7_create_119 rfl ?_
              exact g_iret F hr hlk dX7_create_120 ⟨congrArg (fun t => some (Value.int (Int32.ofNat t))) (Eq.symm (by unfold r_X7_create; first | simp only [if_neg h1, if_neg h10, if_pos h21, if_neg h40, if_pos h45, if_pos h64] | rfl)), congrArg (fun t => rwld cI cZ t ad) (Eq.symm (by unfold w_X7_create; first | simp only [if_neg h1, if_neg h10, if_pos h21, if_neg h40, if_pos h45, if_pos h64] | rfl))⟩
            · refine f_iconst F 3 dX7_create_67 rfl ?_
              exact g_iret F hr hlk dX7_create_68 ⟨congrArg (fun t => some (Value.int (Int32.ofNat t))) (Eq.symm (by unfold r_X7_create; first | simp only [if_neg h1, if_neg h10, if_pos h21, if_neg h40, if_pos h45, if_neg h64] | rfl)), congrArg (fun t => rwld cI cZ t ad) (Eq.symm (by unfold w_X7_create; first | simp only [if_neg h1, if_neg h10, if_pos h21, if_neg h40, if_pos h45, if_neg h64] | rfl))⟩
          · refine f_iconst F 1 dX7_create_48 rfl ?_
            exact g_iret F hr hlk dX7_create_49 ⟨congrArg (fun t => some (Value.int (Int32.ofNat t))) (Eq.symm (by unfold r_X7_create; first | simp only [if_neg h1, if_neg h10, if_pos h21, if_neg h40, if_neg h45] | rfl)), congrArg (fun t => rwld cI cZ t ad) (Eq.symm (by unfold w_X7_create; first | simp only [if_neg h1, if_neg h10, if_pos h21, if_neg h40, if_neg h45] | rfl))⟩
      · refine f_iconst F 2 dX7_create_24 rfl ?_
        exact g_iret F hr hlk dX7_create_25 ⟨congrArg (fun t => some (Value.int (Int32.ofNat t))) (Eq.symm (by unfold r_X7_create; first | simp only [if_neg h1, if_neg h10, if_neg h21] | rfl)), congrArg (fun t => rwld cI cZ t ad) (Eq.symm (by unfold w_X7_create; first | simp only [if_neg h1, if_neg h10, if_neg h21] | rfl))⟩
    · refine f_bipush F 6 dX7_create_13 rfl ?_
      exact g_iret F hr hlk dX7_create_15 ⟨congrArg (fun t => some (Value.int (Int32.ofNat t))) (Eq.symm (by unfold r_X7_create; first | simp only [if_neg h1, if_pos h10] | rfl)), congrArg (fun t => rwld cI cZ t ad) (Eq.symm (by unfold w_X7_create; first | simp only [if_neg h1, if_pos h10] | rfl))⟩
def r_X7_alter (a : RS) (st pa va b : Nat) : Nat := if 0 ≤ Int32.ofNat (r_X7_find a pa) then (if Int32.ofNat b = Int32.ofNat 4294967295 then (if Int32.ofNat st = 0 then (if Int32.ofNat (r_X7_children a pa) ≤ 0 then 0 else 4) else 0) else (if Int32.ofNat b = Int32.ofNat (a 28 (r_X7_find a pa)) then (if Int32.ofNat st = 0 then (if Int32.ofNat (r_X7_children a pa) ≤ 0 then 0 else 4) else 0) else 5)) else 1
def w_X7_alter (a : RS) (st pa va b : Nat) : RS := if 0 ≤ Int32.ofNat (r_X7_find a pa) then (if Int32.ofNat b = Int32.ofNat 4294967295 then (if Int32.ofNat st = 0 then (if Int32.ofNat (r_X7_children a pa) ≤ 0 then (su2 a 26 (r_X7_find a pa) 4294967295) else a) else (su2 (su2 a 27 (r_X7_find a pa) va) 28 (r_X7_find a pa) ((a 28 (r_X7_find a pa)) + 1))) else (if Int32.ofNat b = Int32.ofNat (a 28 (r_X7_find a pa)) then (if Int32.ofNat st = 0 then (if Int32.ofNat (r_X7_children a pa) ≤ 0 then (su2 a 26 (r_X7_find a pa) 4294967295) else a) else (su2 (su2 a 27 (r_X7_find a pa) va) 28 (r_X7_find a pa) ((a 28 (r_X7_find a pa)) + 1))) else a)) else a
abbrev rm_X7_alter : Room := { frames := 1, cells := 0, slots := 0, locals := 23 }
set_option maxHeartbeats 4000000 in
set_option maxRecDepth 100000 in
theorem k_X7_alter (l : Launch) (D : va_G) (cI cS cZ : ClassId) (ad : Nat → Nat) (a : RS) (st pa va b : Nat) (hb : a 32 0 ≤ 24) : gN l yX7_alter (Cond.code yX7_alter cX7_alter 6 (some .int) :: tb) rm_X7_alter D cls8 (tys3 cI cS cZ) [.ref (ad 0), .int (Int32.ofNat st), .int (Int32.ofNat pa), .int (Int32.ofNat va), .int (Int32.ofNat b)] (rwld cI cZ a ad) (some (.int (Int32.ofNat (r_X7_alter a st pa va b)))) (rwld cI cZ (w_X7_alter a st pa va b) ad) := by
  unfold gN
  refine g_head (by decide) rfl (Nat.le_of_ble_eq_true rfl) ?_
  intro p e s m args below meth cd A F hr hlk hnm
  refine g_eq rfl (L' := [(0, .ref (ad 0)), (1, .int (Int32.ofNat st)), (2, .int (Int32.ofNat pa)), (3, .int (Int32.ofNat va)), (4, .int (Int32.ofNat b))]) rfl rfl rfl ?_
  refine g_aload_n F dX7_alter_0 0 rfl ?_
  refine g_iload_n F dX7_alter_1 2 rfl ?_
  refine f_callV F (As := [.int (Int32.ofNat pa)]) (rest := []) (st' := [.int (Int32.ofNat (r_X7_find a pa))]) (k_X7_find l D cI cS cZ ad a pa (by first | assumption | omega)) ql_RM rfl tb_510 tb_508 tb_509 tb_621 tb_8 ⟨rfl, hdX7_find⟩ ⟨rfl, rfl⟩ ⟨Nat.le_of_ble_eq_true rfl, Nat.le_of_ble_eq_true rfl⟩ rw_adr rfl rfl (Nat.le_of_ble_eq_true rfl) ⟨Nat.le_refl _, Nat.le_refl _⟩ dX7_alter_2 rfl ?_
  refine g_istore F [(5, .int (Int32.ofNat (r_X7_find a pa))), (0, .ref (ad 0)), (1, .int (Int32.ofNat st)), (2, .int (Int32.ofNat pa)), (3, .int (Int32.ofNat va)), (4, .int (Int32.ofNat b))] dX7_alter_5 (by decide) rfl ?_
  refine g_iload F dX7_alter_7 0 rfl ?_
  refine g_if_ge F dX7_alter_9 (tgt := 14) rfl (fun h9 => ?_) (fun h9 => ?_)
  · refine g_iload F dX7_alter_14 5 rfl ?_
    refine f_iconst F 4294967295 dX7_alter_16 rfl ?_
    refine g_icmp_eq F dX7_alter_17 (tgt := 34) rfl (fun h17 => ?_) (fun h17 => ?_)
    · refine g_iload_n F dX7_alter_34 2 rfl ?_
      refine g_if_ne F dX7_alter_35 (tgt := 48) rfl (fun h35 => ?_) (fun h35 => ?_)
      · refine g_iload_n F dX7_alter_48 2 rfl ?_
        refine g_if_eq F dX7_alter_49 (tgt := 74) rfl (fun h49 => ?_) (fun h49 => ?_)
        · exact absurd h49 h35
        refine g_aload_n F dX7_alter_52 1 rfl ?_
        refine f_get F inX7 ql_RM rfl 28 (by decide) tb_385 rfl (v := .ref (ad 28)) rfl dX7_alter_53 ?_
        refine g_iload F dX7_alter_56 0 rfl ?_
        refine g_iload_n F dX7_alter_58 4 rfl ?_
        refine f_ast F 0 ql_27 rfl (j := r_X7_find a pa) (v := va) (by have := find_ge h9; omega) (by decide) dX7_alter_59 qs_27 ?_
        refine g_aload_n F dX7_alter_60 1 rfl ?_
        refine f_get F inX7 ql_RM rfl 29 (by decide) tb_386 rfl (v := .ref (ad 29)) rfl dX7_alter_61 ?_
        refine g_iload F dX7_alter_64 0 rfl ?_
        refine g_dup2 F dX7_alter_66 rfl rfl ?_
        refine f_ald F 0 ql_28 rfl (j := r_X7_find a pa) (by have := find_ge h9; omega) (by decide) dX7_alter_67 ?_
        refine g_eq rfl rfl (st' := [.int (Int32.ofNat (a 28 (r_X7_find a pa))), .int (Int32.ofNat (r_X7_find a pa)), .ref (ad 29)]) rfl rfl ?_
        refine f_iconst F 1 dX7_alter_68 rfl ?_
        refine f_add F dX7_alter_69 ?_
        refine f_ast F 0 ql_28 rfl (j := r_X7_find a pa) (v := (a 28 (r_X7_find a pa)) + 1) (by have := find_ge h9; omega) (by decide) dX7_alter_70 qs_28 ?_
        refine g_goto F dX7_alter_71 (tgt := 82) rfl ?_
        refine f_iconst F 0 dX7_alter_82 rfl ?_
        exact g_iret F hr hlk dX7_alter_83 ⟨congrArg (fun t => some (Value.int (Int32.ofNat t))) (Eq.symm (by unfold r_X7_alter; first | simp only [if_pos h9, if_pos h17, if_neg h35] | rfl)), congrArg (fun t => rwld cI cZ t ad) (Eq.symm (by unfold w_X7_alter; first | simp only [if_pos h9, if_pos h17, if_neg h35] | rfl))⟩
      · refine g_aload_n F dX7_alter_38 1 rfl ?_
        refine g_iload_n F dX7_alter_39 3 rfl ?_
        refine f_callV F (As := [.int (Int32.ofNat pa)]) (rest := []) (st' := [.int (Int32.ofNat (r_X7_children a pa))]) (k_X7_children l D cI cS cZ ad a pa (by first | assumption | omega)) ql_RM rfl tb_516 tb_514 tb_515 tb_623 tb_8 ⟨rfl, hdX7_children⟩ ⟨rfl, rfl⟩ ⟨Nat.le_of_ble_eq_true rfl, Nat.le_of_ble_eq_true rfl⟩ rw_adr rfl rfl (Nat.le_of_ble_eq_true rfl) ⟨Nat.le_refl _, Nat.le_refl _⟩ dX7_alter_40 rfl ?_
        refine g_if_le F dX7_alter_43 (tgt := 48) rfl (fun h43 => ?_) (fun h43 => ?_)
        · refine g_iload_n F dX7_alter_48 2 rfl ?_
          refine g_if_eq F dX7_alter_49 (tgt := 74) rfl (fun h49 => ?_) (fun h49 => ?_)
          rotate_left
          · exact absurd h35 h49
          refine g_aload_n F dX7_alter_74 1 rfl ?_
          refine f_get F inX7 ql_RM rfl 27 (by decide) tb_384 rfl (v := .ref (ad 27)) rfl dX7_alter_75 ?_
          refine g_iload F dX7_alter_78 0 rfl ?_
          refine f_iconst F 4294967295 dX7_alter_80 rfl ?_
          refine f_ast F 0 ql_26 rfl (j := r_X7_find a pa) (v := 4294967295) (by have := find_ge h9; omega) (by decide) dX7_alter_81 qs_26 ?_
          refine f_iconst F 0 dX7_alter_82 rfl ?_
          exact g_iret F hr hlk dX7_alter_83 ⟨congrArg (fun t => some (Value.int (Int32.ofNat t))) (Eq.symm (by unfold r_X7_alter; first | simp only [if_pos h9, if_pos h17, if_pos h35, if_pos h43] | rfl)), congrArg (fun t => rwld cI cZ t ad) (Eq.symm (by unfold w_X7_alter; first | simp only [if_pos h9, if_pos h17, if_pos h35, if_pos h43] | rfl))⟩
        · refine f_iconst F 4 dX7_alter_46 rfl ?_
          exact g_iret F hr hlk dX7_alter_47 ⟨congrArg (fun t => some (Value.int (Int32.ofNat t))) (Eq.symm (by unfold r_X7_alter; first | simp only [if_pos h9, if_pos h17, if_pos h35, if_neg h43] | rfl)), congrArg (fun t => rwld cI cZ t ad) (Eq.symm (by unfold w_X7_alter; first | simp only [if_pos h9, if_pos h17, if_pos h35, if_neg h43] | rfl))⟩
    · refine g_iload F dX7_alter_20 5 rfl ?_
      refine g_aload_n F dX7_alter_22 1 rfl ?_
      refine f_get F inX7 ql_RM rfl 29 (by decide) tb_386 rfl (v := .ref (ad 29)) rfl dX7_alter_23 ?_
      refine g_iload F dX7_alter_26 0 rfl ?_
      refine f_ald F 0 ql_28 rfl (j := r_X7_find a pa) (by have := find_ge h9; omega) (by decide) dX7_alter_28 ?_
      refine g_icmp_eq F dX7_alter_29 (tgt := 34) rfl (fun h29 => ?_) (fun h29 => ?_)
      · refine g_iload_n F dX7_alter_34 2 rfl ?_
        refine g_if_ne F dX7_alter_35 (tgt := 48) rfl (fun h35 => ?_) (fun h35 => ?_)
        · refine g_iload_n F dX7_alter_48 2 rfl ?_
          refine g_if_eq F dX7_alter_49 (tgt := 74) rfl (fun h49 => ?_) (fun h49 => ?_)
          · exact absurd h49 h35
          refine g_aload_n F dX7_alter_52 1 rfl ?_
          refine f_get F inX7 ql_RM rfl 28 (by decide) tb_385 rfl (v := .ref (ad 28)) rfl dX7_alter_53 ?_
          refine g_iload F dX7_alter_56 0 rfl ?_
          refine g_iload_n F dX7_alter_58 4 rfl ?_
          refine f_ast F 0 ql_27 rfl (j := r_X7_find a pa) (v := va) (by have := find_ge h9; omega) (by decide) dX7_alter_59 qs_27 ?_
          refine g_aload_n F dX7_alter_60 1 rfl ?_
          refine f_get F inX7 ql_RM rfl 29 (by decide) tb_386 rfl (v := .ref (ad 29)) rfl dX7_alter_61 ?_
          refine g_iload F dX7_alter_64 0 rfl ?_
          refine g_dup2 F dX7_alter_66 rfl rfl ?_
          refine f_ald F 0 ql_28 rfl (j := r_X7_find a pa) (by have := find_ge h9; omega) (by decide) dX7_alter_67 ?_
          refine g_eq rfl rfl (st' := [.int (Int32.ofNat (a 28 (r_X7_find a pa))), .int (Int32.ofNat (r_X7_find a pa)), .ref (ad 29)]) rfl rfl ?_
          refine f_iconst F 1 dX7_alter_68 rfl ?_
          refine f_add F dX7_alter_69 ?_
          refine f_ast F 0 ql_28 rfl (j := r_X7_find a pa) (v := (a 28 (r_X7_find a pa)) + 1) (by have := find_ge h9; omega) (by decide) dX7_alter_70 qs_28 ?_
          refine g_goto F dX7_alter_71 (tgt := 82) rfl ?_
          refine f_iconst F 0 dX7_alter_82 rfl ?_
          exact g_iret F hr hlk dX7_alter_83 ⟨congrArg (fun t => some (Value.int (Int32.ofNat t))) (Eq.symm (by unfold r_X7_alter; first | simp only [if_pos h9, if_neg h17, if_pos h29, if_neg h35] | rfl)), congrArg (fun t => rwld cI cZ t ad) (Eq.symm (by unfold w_X7_alter; first | simp only [if_pos h9, if_neg h17, if_pos h29, if_neg h35] | rfl))⟩
        · refine g_aload_n F dX7_alter_38 1 rfl ?_
          refine g_iload_n F dX7_alter_39 3 rfl ?_
          refine f_callV F (As := [.int (Int32.ofNat pa)]) (rest := []) (st' := [.int (Int32.ofNat (r_X7_children a pa))]) (k_X7_children l D cI cS cZ ad a pa (by first | assumption | omega)) ql_RM rfl tb_516 tb_514 tb_515 tb_623 tb_8 ⟨rfl, hdX7_children⟩ ⟨rfl, rfl⟩ ⟨Nat.le_of_ble_eq_true rfl, Nat.le_of_ble_eq_true rfl⟩ rw_adr rfl rfl (Nat.le_of_ble_eq_true rfl) ⟨Nat.le_refl _, Nat.le_refl _⟩ dX7_alter_40 rfl ?_
          refine g_if_le F dX7_alter_43 (tgt := 48) rfl (fun h43 => ?_) (fun h43 => ?_)
          · refine g_iload_n F dX7_alter_48 2 rfl ?_
            refine g_if_eq F dX7_alter_49 (tgt := 74) rfl (fun h49 => ?_) (fun h49 => ?_)
            rotate_left
            · exact absurd h35 h49
            refine g_aload_n F dX7_alter_74 1 rfl ?_
            refine f_get F inX7 ql_RM rfl 27 (by decide) tb_384 rfl (v := .ref (ad 27)) rfl dX7_alter_75 ?_
            refine g_iload F dX7_alter_78 0 rfl ?_
            refine f_iconst F 4294967295 dX7_alter_80 rfl ?_
            refine f_ast F 0 ql_26 rfl (j := r_X7_find a pa) (v := 4294967295) (by have := find_ge h9; omega) (by decide) dX7_alter_81 qs_26 ?_
            refine f_iconst F 0 dX7_alter_82 rfl ?_
            exact g_iret F hr hlk dX7_alter_83 ⟨congrArg (fun t => some (Value.int (Int32.ofNat t))) (Eq.symm (by unfold r_X7_alter; first | simp only [if_pos h9, if_neg h17, if_pos h29, if_pos h35, if_pos h43] | rfl)), congrArg (fun t => rwld cI cZ t ad) (Eq.symm (by unfold w_X7_alter; first | simp only [if_pos h9, if_neg h17, if_pos h29, if_pos h35, if_pos h43] | rfl))⟩
          · refine f_iconst F 4 dX7_alter_46 rfl ?_
            exact g_iret F hr hlk dX7_alter_47 ⟨congrArg (fun t => some (Value.int (Int32.ofNat t))) (Eq.symm (by unfold r_X7_alter; first | simp only [if_pos h9, if_neg h17, if_pos h29, if_pos h35, if_neg h43] | rfl)), congrArg (fun t => rwld cI cZ t ad) (Eq.symm (by unfold w_X7_alter; first | simp only [if_pos h9, if_neg h17, if_pos h29, if_pos h35, if_neg h43] | rfl))⟩
      · refine f_iconst F 5 dX7_alter_32 rfl ?_
        exact g_iret F hr hlk dX7_alter_33 ⟨congrArg (fun t => some (Value.int (Int32.ofNat t))) (Eq.symm (by unfold r_X7_alter; first | simp only [if_pos h9, if_neg h17, if_neg h29] | rfl)), congrArg (fun t => rwld cI cZ t ad) (Eq.symm (by unfold w_X7_alter; first | simp only [if_pos h9, if_neg h17, if_neg h29] | rfl))⟩
  · refine f_iconst F 1 dX7_alter_12 rfl ?_
    exact g_iret F hr hlk dX7_alter_13 ⟨congrArg (fun t => some (Value.int (Int32.ofNat t))) (Eq.symm (by unfold r_X7_alter; first | simp only [if_neg h9] | rfl)), congrArg (fun t => rwld cI cZ t ad) (Eq.symm (by unfold w_X7_alter; first | simp only [if_neg h9] | rfl))⟩
def lpw_X7_session_30 (a : RS) (op b : Nat) : Nat → Nat → RS → RS
  | 0, k, x => x
  | d + 1, k, x => if Int32.ofNat op = 0 then (if Int32.ofNat (x 29 k) = Int32.ofNat b then (lpw_X7_session_30 a op b d (k + 1) (su2 x 26 k 4294967295)) else (lpw_X7_session_30 a op b d (k + 1) x)) else (lpw_X7_session_30 a op b d (k + 1) x)
def r_X7_session (a : RS) (op b : Nat) : Nat := if Int32.ofNat (a 30 b) = Int32.ofNat op then (if Int32.ofNat op = 0 then 6 else 2) else 0
def w_X7_session (a : RS) (op b : Nat) : RS := if Int32.ofNat (a 30 b) = Int32.ofNat op then a else (lpw_X7_session_30 a op b (a 32 0) 0 (su2 a 30 b op))
abbrev rm_X7_session : Room := { frames := 0, cells := 0, slots := 0, locals := 0 }
set_option maxHeartbeats 4000000 in
set_option maxRecDepth 100000 in
theorem k_X7_session (l : Launch) (D : va_G) (cI cS cZ : ClassId) (ad : Nat → Nat) (a : RS) (op b : Nat) (hb5 : b < 5) (hb : a 32 0 ≤ 24) (ho : op ≤ 1) : gN l yX7_session (Cond.code yX7_session cX7_session 4 (some .int) :: tb) rm_X7_session D cls8 (tys3 cI cS cZ) [.ref (ad 0), .int (Int32.ofNat op), .int (Int32.ofNat b)] (rwld cI cZ a ad) (some (.int (Int32.ofNat (r_X7_session a op b)))) (rwld cI cZ (w_X7_session a op b) ad) := by
  unfold gN
  refine g_head (by decide) rfl (Nat.le_of_ble_eq_true rfl) ?_
  intro p e s m args below meth cd A F hr hlk hnm
  refine g_eq rfl (L' := [(0, .ref (ad 0)), (1, .int (Int32.ofNat op)), (2, .int (Int32.ofNat b))]) rfl rfl rfl ?_
  refine g_aload_n F dX7_session_0 0 rfl ?_
  refine f_get F inX7 ql_RM rfl 31 (by decide) tb_388 rfl (v := .ref (ad 31)) rfl dX7_session_1 ?_
  refine g_iload_n F dX7_session_4 2 rfl ?_
  refine f_zald F 2 ql_30 rfl (j := b) (by omega) (by decide) dX7_session_5 ?_
  refine g_iload_n F dX7_session_6 1 rfl ?_
  refine g_icmp_ne F dX7_session_7 (tgt := 21) rfl (fun h7 => ?_) (fun h7 => ?_)
  · refine g_aload_n F dX7_session_21 0 rfl ?_
    refine f_get F inX7 ql_RM rfl 31 (by decide) tb_388 rfl (v := .ref (ad 31)) rfl dX7_session_22 ?_
    refine g_iload_n F dX7_session_25 2 rfl ?_
    refine g_iload_n F dX7_session_26 1 rfl ?_
    refine f_zast F 2 ql_30 rfl (j := b) (v := op) (by omega) (by decide) (znar ho) dX7_session_27 qs_30 ?_
    refine f_iconst F 0 dX7_session_28 rfl ?_
    refine g_istore_n F [(3, .int (Int32.ofNat 0)), (0, .ref (ad 0)), (1, .int (Int32.ofNat op)), (2, .int (Int32.ofNat b))] dX7_session_29 (by decide) rfl ?_
    have loop30 : ∀ (Q : State → Prop) (d k : Nat) (x : RS), (k + d = a 32 0) → (x 32 0 = a 32 0) → gw p l e (headSpec (Cond.code yX7_session cX7_session 4 (some .int) :: tb) rm_X7_session).room s m args below meth cd 4 D cls8 A Q 0 0 65 [(0, .ref (ad 0)), (1, .int (Int32.ofNat op)), (2, .int (Int32.ofNat b))] [] (rwld cI cZ (lpw_X7_session_30 a op b d k x) ad) → gw p l e (headSpec (Cond.code yX7_session cX7_session 4 (some .int) :: tb) rm_X7_session).room s m args below meth cd 4 D cls8 A Q 0 0 30 [(3, .int (Int32.ofNat k)), (0, .ref (ad 0)), (1, .int (Int32.ofNat op)), (2, .int (Int32.ofNat b))] [] (rwld cI cZ x ad) := by
      intro Q d
      induction d with
      | zero =>
        intro k x hk hx K
        refine g_iload_n F dX7_session_30 0 rfl ?_
        refine g_aload_n F dX7_session_31 1 rfl ?_
        refine f_get F inX7 ql_RM rfl 26 (by decide) tb_383 rfl (v := .int (Int32.ofNat (x 32 0))) rfl dX7_session_32 ?_
        refine g_icmp_ge F dX7_session_35 (tgt := 65) rfl (fun h35 => ?_) (fun h35 => ?_)
        rotate_left
        · exact absurd h35 (by rw [ofN_le (by omega) (by omega)]; omega)
        refine g_locals [(0, .ref (ad 0)), (1, .int (Int32.ofNat op)), (2, .int (Int32.ofNat b))] [1, 2, 3] rfl ?_
        exact K
      | succ d ih =>
        intro k x hk hx K
        refine g_iload_n F dX7_session_30 0 rfl ?_
        refine g_aload_n F dX7_session_31 1 rfl ?_
        refine f_get F inX7 ql_RM rfl 26 (by decide) tb_383 rfl (v := .int (Int32.ofNat (x 32 0))) rfl dX7_session_32 ?_
        refine g_icmp_ge F dX7_session_35 (tgt := 65) rfl (fun h35 => ?_) (fun h35 => ?_)
        · exact absurd h35 (by rw [ofN_le (by omega) (by omega)]; omega)
        refine g_iload_n F dX7_session_38 2 rfl ?_
        refine g_if_ne F dX7_session_39 (tgt := 59) rfl (fun h39 => ?_) (fun h39 => ?_)
        · refine f_iinc F (k + 1) [(3, .int (Int32.ofNat (k + 1))), (0, .ref (ad 0)), (1, .int (Int32.ofNat op)), (2, .int (Int32.ofNat b))] dX7_session_59 0 rfl (ofN_inc _) (by decide) rfl ?_
          refine g_goto F dX7_session_62 (tgt := 30) rfl ?_
          exact ih (k + 1) x (by omega) hx (g_eq rfl rfl rfl (congrArg (fun t => rwld cI cZ t ad) (by simp only [lpw_X7_session_30, if_neg h39])) K)
        · refine g_aload_n F dX7_session_42 1 rfl ?_
          refine f_get F inX7 ql_RM rfl 30 (by decide) tb_387 rfl (v := .ref (ad 30)) rfl dX7_session_43 ?_
          refine g_iload_n F dX7_session_46 0 rfl ?_
          refine f_ald F 0 ql_29 rfl (j := k) (by omega) (by decide) dX7_session_47 ?_
          refine g_iload_n F dX7_session_48 3 rfl ?_
          refine g_icmp_ne F dX7_session_49 (tgt := 59) rfl (fun h49 => ?_) (fun h49 => ?_)
          · refine f_iinc F (k + 1) [(3, .int (Int32.ofNat (k + 1))), (0, .ref (ad 0)), (1, .int (Int32.ofNat op)), (2, .int (Int32.ofNat b))] dX7_session_59 0 rfl (ofN_inc _) (by decide) rfl ?_
            refine g_goto F dX7_session_62 (tgt := 30) rfl ?_
            exact ih (k + 1) x (by omega) hx (g_eq rfl rfl rfl (congrArg (fun t => rwld cI cZ t ad) (by simp only [lpw_X7_session_30, if_pos h39, if_neg h49])) K)
          · refine g_aload_n F dX7_session_52 1 rfl ?_
            refine f_get F inX7 ql_RM rfl 27 (by decide) tb_384 rfl (v := .ref (ad 27)) rfl dX7_session_53 ?_
            refine g_iload_n F dX7_session_56 0 rfl ?_
            refine f_iconst F 4294967295 dX7_session_57 rfl ?_
            refine f_ast F 0 ql_26 rfl (j := k) (v := 4294967295) (by omega) (by decide) dX7_session_58 qs_26 ?_
            refine f_iinc F (k + 1) [(3, .int (Int32.ofNat (k + 1))), (0, .ref (ad 0)), (1, .int (Int32.ofNat op)), (2, .int (Int32.ofNat b))] dX7_session_59 0 rfl (ofN_inc _) (by decide) rfl ?_
            refine g_goto F dX7_session_62 (tgt := 30) rfl ?_
            exact ih (k + 1) (su2 x 26 k 4294967295) (by omega) hx (g_eq rfl rfl rfl (congrArg (fun t => rwld cI cZ t ad) (by simp only [lpw_X7_session_30, if_pos h39, if_pos h49])) K)
    refine loop30 _ (a 32 0) 0 (su2 a 30 b op) (Nat.zero_add _) rfl ?_
    refine f_iconst F 0 dX7_session_65 rfl ?_
    exact g_iret F hr hlk dX7_session_66 ⟨congrArg (fun t => some (Value.int (Int32.ofNat t))) (Eq.symm (by unfold r_X7_session; first | simp only [if_neg h7] | rfl)), congrArg (fun t => rwld cI cZ t ad) (Eq.symm (by unfold w_X7_session; first | simp only [if_neg h7] | rfl))⟩
  · refine g_iload_n F dX7_session_10 1 rfl ?_
    refine g_if_eq F dX7_session_11 (tgt := 18) rfl (fun h11 => ?_) (fun h11 => ?_)
    · refine f_bipush F 6 dX7_session_18 rfl ?_
      exact g_iret F hr hlk dX7_session_20 ⟨congrArg (fun t => some (Value.int (Int32.ofNat t))) (Eq.symm (by unfold r_X7_session; first | simp only [if_pos h7, if_pos h11] | rfl)), congrArg (fun t => rwld cI cZ t ad) (Eq.symm (by unfold w_X7_session; first | simp only [if_pos h7, if_pos h11] | rfl))⟩
    · refine f_iconst F 2 dX7_session_14 rfl ?_
      refine g_goto F dX7_session_15 (tgt := 20) rfl ?_
      exact g_iret F hr hlk dX7_session_20 ⟨congrArg (fun t => some (Value.int (Int32.ofNat t))) (Eq.symm (by unfold r_X7_session; first | simp only [if_pos h7, if_neg h11] | rfl)), congrArg (fun t => rwld cI cZ t ad) (Eq.symm (by unfold w_X7_session; first | simp only [if_pos h7, if_neg h11] | rfl))⟩
def w_X7_cut (a : RS) (f : Nat) : RS := su2 (su2 (su2 (su2 (su2 (su2 (su2 (su2 a 0 f 1) 15 f 0) 16 f 0) 17 f 0) 20 f 0) 21 f 0) 24 f 0) 25 f 0
abbrev rm_X7_cut : Room := { frames := 0, cells := 0, slots := 0, locals := 0 }
set_option maxHeartbeats 4000000 in
set_option maxRecDepth 100000 in
theorem k_X7_cut (l : Launch) (D : va_G) (cI cS cZ : ClassId) (ad : Nat → Nat) (a : RS) (f : Nat) (hf : f < 3) : gN l yX7_cut (Cond.code yX7_cut cX7_cut 2 none :: tb) rm_X7_cut D cls8 (tys3 cI cS cZ) [.ref (ad 0), .int (Int32.ofNat f)] (rwld cI cZ a ad) none (rwld cI cZ (w_X7_cut a f) ad) := by
  unfold gN
  refine g_head (by decide) rfl (Nat.le_of_ble_eq_true rfl) ?_
  intro p e s m args below meth cd A F hr hlk hnm
  refine g_eq rfl (L' := [(0, .ref (ad 0)), (1, .int (Int32.ofNat f))]) rfl rfl rfl ?_
  refine g_aload_n F dX7_cut_0 0 rfl ?_
  refine f_get F inX7 ql_RM rfl 0 (by decide) tb_357 rfl (v := .ref (ad 1)) rfl dX7_cut_1 ?_
  refine g_iload_n F dX7_cut_4 1 rfl ?_
  refine f_iconst F 1 dX7_cut_5 rfl ?_
  refine f_ast F 0 ql_0 rfl (j := f) (v := 1) (by omega) (by decide) dX7_cut_6 qs_0 ?_
  refine g_aload_n F dX7_cut_7 0 rfl ?_
  refine f_get F inX7 ql_RM rfl 15 (by decide) tb_372 rfl (v := .ref (ad 16)) rfl dX7_cut_8 ?_
  refine g_iload_n F dX7_cut_11 1 rfl ?_
  refine f_iconst F 0 dX7_cut_12 rfl ?_
  refine f_zast F 2 ql_15 rfl (j := f) (v := 0) (by omega) (by decide) rfl dX7_cut_13 qs_15 ?_
  refine g_aload_n F dX7_cut_14 0 rfl ?_
  refine f_get F inX7 ql_RM rfl 16 (by decide) tb_373 rfl (v := .ref (ad 17)) rfl dX7_cut_15 ?_
  refine g_iload_n F dX7_cut_18 1 rfl ?_
  refine f_iconst F 0 dX7_cut_19 rfl ?_
  refine f_zast F 2 ql_16 rfl (j := f) (v := 0) (by omega) (by decide) rfl dX7_cut_20 qs_16 ?_
  refine g_aload_n F dX7_cut_21 0 rfl ?_
  refine f_get F inX7 ql_RM rfl 17 (by decide) tb_374 rfl (v := .ref (ad 18)) rfl dX7_cut_22 ?_
  refine g_iload_n F dX7_cut_25 1 rfl ?_
  refine f_iconst F 0 dX7_cut_26 rfl ?_
  refine f_zast F 2 ql_17 rfl (j := f) (v := 0) (by omega) (by decide) rfl dX7_cut_27 qs_17 ?_
  refine g_aload_n F dX7_cut_28 0 rfl ?_
  refine f_get F inX7 ql_RM rfl 20 (by decide) tb_377 rfl (v := .ref (ad 21)) rfl dX7_cut_29 ?_
  refine g_iload_n F dX7_cut_32 1 rfl ?_
  refine f_iconst F 0 dX7_cut_33 rfl ?_
  refine f_ast F 0 ql_20 rfl (j := f) (v := 0) (by omega) (by decide) dX7_cut_34 qs_20 ?_
  refine g_aload_n F dX7_cut_35 0 rfl ?_
  refine f_get F inX7 ql_RM rfl 21 (by decide) tb_378 rfl (v := .ref (ad 22)) rfl dX7_cut_36 ?_
  refine g_iload_n F dX7_cut_39 1 rfl ?_
  refine f_iconst F 0 dX7_cut_40 rfl ?_
  refine f_ast F 0 ql_21 rfl (j := f) (v := 0) (by omega) (by decide) dX7_cut_41 qs_21 ?_
  refine g_aload_n F dX7_cut_42 0 rfl ?_
  refine f_get F inX7 ql_RM rfl 24 (by decide) tb_381 rfl (v := .ref (ad 25)) rfl dX7_cut_43 ?_
  refine g_iload_n F dX7_cut_46 1 rfl ?_
  refine f_iconst F 0 dX7_cut_47 rfl ?_
  refine f_ast F 0 ql_24 rfl (j := f) (v := 0) (by omega) (by decide) dX7_cut_48 qs_24 ?_
  refine g_aload_n F dX7_cut_49 0 rfl ?_
  refine f_get F inX7 ql_RM rfl 25 (by decide) tb_382 rfl (v := .ref (ad 26)) rfl dX7_cut_50 ?_
  refine g_iload_n F dX7_cut_53 1 rfl ?_
  refine f_iconst F 0 dX7_cut_54 rfl ?_
  refine f_ast F 0 ql_25 rfl (j := f) (v := 0) (by omega) (by decide) dX7_cut_55 qs_25 ?_
  exact g_vret F hr hlk dX7_cut_56 ⟨rfl, congrArg (fun t => rwld cI cZ t ad) rfl⟩
def r_X7_follows (a : RS) (f w : Nat) : Nat := if Int32.ofNat (a 0 f) = Int32.ofNat 2 then (if Int32.ofNat (a 14 f) = Int32.ofNat w then 1 else 0) else 0
abbrev rm_X7_follows : Room := { frames := 0, cells := 0, slots := 0, locals := 0 }
set_option maxHeartbeats 4000000 in
set_option maxRecDepth 100000 in
theorem k_X7_follows (l : Launch) (D : va_G) (cI cS cZ : ClassId) (ad : Nat → Nat) (a : RS) (f w : Nat) (hf : f < 3) : gN l yX7_follows (Cond.code yX7_follows cX7_follows 3 (some .boolean) :: tb) rm_X7_follows D cls8 (tys3 cI cS cZ) [.ref (ad 0), .int (Int32.ofNat f), .int (Int32.ofNat w)] (rwld cI cZ a ad) (some (.int (Int32.ofNat (r_X7_follows a f w)))) (rwld cI cZ a ad) := by
  unfold gN
  refine g_head (by decide) rfl (Nat.le_of_ble_eq_true rfl) ?_
  intro p e s m args below meth cd A F hr hlk hnm
  refine g_eq rfl (L' := [(0, .ref (ad 0)), (1, .int (Int32.ofNat f)), (2, .int (Int32.ofNat w))]) rfl rfl rfl ?_
  refine g_aload_n F dX7_follows_0 0 rfl ?_
  refine f_get F inX7 ql_RM rfl 0 (by decide) tb_357 rfl (v := .ref (ad 1)) rfl dX7_follows_1 ?_
  refine g_iload_n F dX7_follows_4 1 rfl ?_
  refine f_ald F 0 ql_0 rfl (j := f) (by omega) (by decide) dX7_follows_5 ?_
  refine f_iconst F 2 dX7_follows_6 rfl ?_
  refine g_icmp_ne F dX7_follows_7 (tgt := 24) rfl (fun h7 => ?_) (fun h7 => ?_)
  · refine f_iconst F 0 dX7_follows_24 rfl ?_
    exact g_zret F hr hlk rfl dX7_follows_25 ⟨congrArg (fun t => some (Value.int (Int32.ofNat t))) (Eq.symm (by unfold r_X7_follows; first | simp only [if_neg h7] | rfl)), rfl⟩
  · refine g_aload_n F dX7_follows_10 0 rfl ?_
    refine f_get F inX7 ql_RM rfl 14 (by decide) tb_371 rfl (v := .ref (ad 15)) rfl dX7_follows_11 ?_
    refine g_iload_n F dX7_follows_14 1 rfl ?_
    refine f_ald F 0 ql_14 rfl (j := f) (by omega) (by decide) dX7_follows_15 ?_
    refine g_iload_n F dX7_follows_16 2 rfl ?_
    refine g_icmp_ne F dX7_follows_17 (tgt := 24) rfl (fun h17 => ?_) (fun h17 => ?_)
    · refine f_iconst F 0 dX7_follows_24 rfl ?_
      exact g_zret F hr hlk rfl dX7_follows_25 ⟨congrArg (fun t => some (Value.int (Int32.ofNat t))) (Eq.symm (by unfold r_X7_follows; first | simp only [if_pos h7, if_neg h17] | rfl)), rfl⟩
    · refine f_iconst F 1 dX7_follows_20 rfl ?_
      refine g_goto F dX7_follows_21 (tgt := 25) rfl ?_
      exact g_zret F hr hlk rfl dX7_follows_25 ⟨congrArg (fun t => some (Value.int (Int32.ofNat t))) (Eq.symm (by unfold r_X7_follows; first | simp only [if_pos h7, if_pos h17] | rfl)), rfl⟩
def lpw_X7_cease_2 (a : RS) (v : Nat) : Nat → Nat → RS → RS
  | 0, k, x => x
  | d + 1, k, x => if Int32.ofNat (r_X7_follows x k v) = 0 then (lpw_X7_cease_2 a v d (k + 1) x) else (lpw_X7_cease_2 a v d (k + 1) (w_X7_cut x k))
def w_X7_cease (a : RS) (v : Nat) : RS := w_X7_cut (lpw_X7_cease_2 a v 3 0 a) v
abbrev rm_X7_cease : Room := { frames := 1, cells := 0, slots := 0, locals := 22 }
set_option maxHeartbeats 4000000 in
set_option maxRecDepth 100000 in
theorem k_X7_cease (l : Launch) (D : va_G) (cI cS cZ : ClassId) (ad : Nat → Nat) (a : RS) (v : Nat) (hv : v < 3) : gN l yX7_cease (Cond.code yX7_cease cX7_cease 3 none :: tb) rm_X7_cease D cls8 (tys3 cI cS cZ) [.ref (ad 0), .int (Int32.ofNat v)] (rwld cI cZ a ad) none (rwld cI cZ (w_X7_cease a v) ad) := by
  unfold gN
  refine g_head (by decide) rfl (Nat.le_of_ble_eq_true rfl) ?_
  intro p e s m args below meth cd A F hr hlk hnm
  refine g_eq rfl (L' := [(0, .ref (ad 0)), (1, .int (Int32.ofNat v))]) rfl rfl rfl ?_
  refine f_iconst F 0 dX7_cease_0 rfl ?_
  refine g_istore_n F [(2, .int (Int32.ofNat 0)), (0, .ref (ad 0)), (1, .int (Int32.ofNat v))] dX7_cease_1 (by decide) rfl ?_
  have loop2 : ∀ (Q : State → Prop) (d k : Nat) (x : RS), (k + d = 3) → gw p l e (headSpec (Cond.code yX7_cease cX7_cease 3 none :: tb) rm_X7_cease).room s m args below meth cd 3 D cls8 A Q 0 0 27 [(0, .ref (ad 0)), (1, .int (Int32.ofNat v))] [] (rwld cI cZ (lpw_X7_cease_2 a v d k x) ad) → gw p l e (headSpec (Cond.code yX7_cease cX7_cease 3 none :: tb) rm_X7_cease).room s m args below meth cd 3 D cls8 A Q 0 0 2 [(2, .int (Int32.ofNat k)), (0, .ref (ad 0)), (1, .int (Int32.ofNat v))] [] (rwld cI cZ x ad) := by
    intro Q d
    induction d with
    | zero =>
      intro k x hk K
      refine g_iload_n F dX7_cease_2 0 rfl ?_
      refine f_iconst F 3 dX7_cease_3 rfl ?_
      refine g_icmp_ge F dX7_cease_4 (tgt := 27) rfl (fun h4 => ?_) (fun h4 => ?_)
      rotate_left
      · exact absurd h4 (by rw [ofN_le (by omega) (by omega)]; omega)
      refine g_locals [(0, .ref (ad 0)), (1, .int (Int32.ofNat v))] [1, 2] rfl ?_
      exact K
    | succ d ih =>
      intro k x hk K
      refine g_iload_n F dX7_cease_2 0 rfl ?_
      refine f_iconst F 3 dX7_cease_3 rfl ?_
      refine g_icmp_ge F dX7_cease_4 (tgt := 27) rfl (fun h4 => ?_) (fun h4 => ?_)
      · exact absurd h4 (by rw [ofN_le (by omega) (by omega)]; omega)
      refine g_aload_n F dX7_cease_7 1 rfl ?_
      refine g_iload_n F dX7_cease_8 0 rfl ?_
      refine g_iload_n F dX7_cease_9 2 rfl ?_
      refine f_callV F (As := [.int (Int32.ofNat k), .int (Int32.ofNat v)]) (rest := []) (st' := [.int (Int32.ofNat (r_X7_follows x k v))]) (k_X7_follows l D cI cS cZ ad x k v (by first | assumption | omega)) ql_RM rfl tb_450 tb_448 tb_449 tb_610 tb_8 ⟨rfl, hdX7_follows⟩ ⟨rfl, rfl⟩ ⟨Nat.le_of_ble_eq_true rfl, Nat.le_of_ble_eq_true rfl⟩ rw_adr rfl rfl (Nat.le_of_ble_eq_true rfl) ⟨Nat.le_refl _, Nat.le_refl _⟩ dX7_cease_10 rfl ?_
      refine g_if_eq F dX7_cease_13 (tgt := 21) rfl (fun h13 => ?_) (fun h13 => ?_)
      · refine f_iinc F (k + 1) [(2, .int (Int32.ofNat (k + 1))), (0, .ref (ad 0)), (1, .int (Int32.ofNat v))] dX7_cease_21 0 rfl (ofN_inc _) (by decide) rfl ?_
        refine g_goto F dX7_cease_24 (tgt := 2) rfl ?_
        exact ih (k + 1) x (by omega) (g_eq rfl rfl rfl (congrArg (fun t => rwld cI cZ t ad) (by simp only [lpw_X7_cease_2, if_pos h13])) K)
      · refine g_aload_n F dX7_cease_16 1 rfl ?_
        refine g_iload_n F dX7_cease_17 0 rfl ?_
        refine f_callV F (As := [.int (Int32.ofNat k)]) (rest := []) (st' := []) (k_X7_cut l D cI cS cZ ad x k (by first | assumption | omega)) ql_RM rfl tb_437 tb_435 tb_436 tb_607 tb_8 ⟨rfl, hdX7_cut⟩ ⟨rfl, rfl⟩ ⟨Nat.le_of_ble_eq_true rfl, Nat.le_of_ble_eq_true rfl⟩ rw_adr rfl rfl (Nat.le_of_ble_eq_true rfl) ⟨Nat.le_refl _, Nat.le_refl _⟩ dX7_cease_18 rfl ?_
        refine f_iinc F (k + 1) [(2, .int (Int32.ofNat (k + 1))), (0, .ref (ad 0)), (1, .int (Int32.ofNat v))] dX7_cease_21 0 rfl (ofN_inc _) (by decide) rfl ?_
        refine g_goto F dX7_cease_24 (tgt := 2) rfl ?_
        exact ih (k + 1) (w_X7_cut x k) (by omega) (g_eq rfl rfl rfl (congrArg (fun t => rwld cI cZ t ad) (by simp only [lpw_X7_cease_2, if_neg h13])) K)
  refine loop2 _ 3 0 a (Nat.zero_add _) ?_
  refine g_aload_n F dX7_cease_27 0 rfl ?_
  refine g_iload_n F dX7_cease_28 1 rfl ?_
  refine f_callV F (As := [.int (Int32.ofNat v)]) (rest := []) (st' := []) (k_X7_cut l D cI cS cZ ad (lpw_X7_cease_2 a v 3 0 a) v (by first | assumption | omega)) ql_RM rfl tb_437 tb_435 tb_436 tb_607 tb_8 ⟨rfl, hdX7_cut⟩ ⟨rfl, rfl⟩ ⟨Nat.le_of_ble_eq_true rfl, Nat.le_of_ble_eq_true rfl⟩ rw_adr rfl rfl (Nat.le_of_ble_eq_true rfl) ⟨Nat.le_refl _, Nat.le_refl _⟩ dX7_cease_29 rfl ?_
  exact g_vret F hr hlk dX7_cease_32 ⟨rfl, congrArg (fun t => rwld cI cZ t ad) rfl⟩
