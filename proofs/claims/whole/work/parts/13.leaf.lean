def w_X4_begin (c : CS) (i : Nat) : CS := su3 (su3 (su3 c 16 i 0 0) 17 i 0 0) 18 i 0 0
abbrev rm_X4_begin : Room := { frames := 0, cells := 0, slots := 0, locals := 0 }
set_option maxHeartbeats 4000000 in
set_option maxRecDepth 100000 in
theorem k_X4_begin (l : Launch) (D : va_G) (cI cS cZ : ClassId) (ad : Nat → Nat) (c : CS) (i : Nat) (h_i : i < 3) : gN l yX4_begin (Cond.code yX4_begin cX4_begin 1 none :: tb) rm_X4_begin D cls8 (tys3 cI cS cZ) [.ref (ad (2 + 22 * i + 4))] (cwld cI cS c ad) none (cwld cI cS (w_X4_begin c i) ad) := by
  unfold gN
  refine g_head (by decide) rfl (Nat.le_of_ble_eq_true rfl) ?_
  intro p e s m args below meth cd A F hr hlk hnm
  refine g_eq rfl (L' := [(0, .ref (ad (2 + 22 * i + 4)))]) rfl rfl rfl ?_
  refine g_aload_n F dX4_begin_0 0 rfl ?_
  refine f_iconst F 0 dX4_begin_1 rfl ?_
  refine f_put F inX4 tyX4_ok nmX4 (pl_TM h_i) rfl 0 (by decide) tb_92 rfl rfl rfl rfl (Nat.le_of_ble_eq_true rfl) dX4_begin_2 (ps_16 h_i) ?_
  refine g_aload_n F dX4_begin_5 0 rfl ?_
  refine f_iconst F 0 dX4_begin_6 rfl ?_
  refine f_put F inX4 tyX4_ok nmX4 (pl_TM h_i) rfl 1 (by decide) tb_93 rfl rfl rfl rfl (Nat.le_of_ble_eq_true rfl) dX4_begin_7 (ps_17 h_i) ?_
  refine g_aload_n F dX4_begin_10 0 rfl ?_
  refine f_iconst F 0 dX4_begin_11 rfl ?_
  refine f_put F inX4 tyX4_ok nmX4 (pl_TM h_i) rfl 2 (by decide) tb_94 rfl rfl rfl rfl (Nat.le_of_ble_eq_true rfl) dX4_begin_12 (ps_18 h_i) ?_
  exact g_vret F hr hlk dX4_begin_15 ⟨rfl, congrArg (fun t => cwld cI cS t ad) rfl⟩
def w_X1_clear (c : CS) (i : Nat) : CS := su3 (su3 (su3 (w_X2_clear_d (w_X2_clear_u c i) i) 9 i 0 0) 10 i 0 0) 11 i 0 0
abbrev rm_X1_clear : Room := { frames := 1, cells := 0, slots := 0, locals := 20 }
set_option maxHeartbeats 4000000 in
set_option maxRecDepth 100000 in
theorem k_X1_clear (l : Launch) (D : va_G) (cI cS cZ : ClassId) (ad : Nat → Nat) (c : CS) (i : Nat) (h_i : i < 3) : gN l yX1_clear (Cond.code yX1_clear cX1_clear 1 none :: tb) rm_X1_clear D cls8 (tys3 cI cS cZ) [.ref (ad (2 + 22 * i + 3))] (cwld cI cS c ad) none (cwld cI cS (w_X1_clear c i) ad) := by
  unfold gN
  refine g_head (by decide) rfl (Nat.le_of_ble_eq_true rfl) ?_
  intro p e s m args below meth cd A F hr hlk hnm
  refine g_eq rfl (L' := [(0, .ref (ad (2 + 22 * i + 3)))]) rfl rfl rfl ?_
  refine g_aload_n F dX1_clear_0 0 rfl ?_
  refine f_get F inX1 (pl_LK h_i) rfl 0 (by decide) tb_77 rfl (v := .ref (ad (2 + 22 * i + 5))) rfl dX1_clear_1 ?_
  refine f_callVN F (As := []) (rest := []) (st' := []) (k_X2_clear_u l D cI cS cZ ad c i h_i) (pl_RU h_i) rfl tb_155 nb_36 tb_154 tb_570 tb_6 hdX2_clear ⟨rfl, rfl⟩ ⟨Nat.le_of_ble_eq_true rfl, Nat.le_of_ble_eq_true rfl⟩ cw_adr rfl rfl (Nat.le_of_ble_eq_true rfl) ⟨Nat.le_refl _, Nat.le_refl _⟩ dX1_clear_4 rfl ?_
  refine g_aload_n F dX1_clear_7 0 rfl ?_
  refine f_get F inX1 (pl_LK h_i) rfl 1 (by decide) tb_78 rfl (v := .ref (ad (2 + 22 * i + 6))) rfl dX1_clear_8 ?_
  refine f_callVN F (As := []) (rest := []) (st' := []) (k_X2_clear_d l D cI cS cZ ad (w_X2_clear_u c i) i h_i) (pl_RD h_i) rfl tb_155 nb_36 tb_154 tb_570 tb_6 hdX2_clear ⟨rfl, rfl⟩ ⟨Nat.le_of_ble_eq_true rfl, Nat.le_of_ble_eq_true rfl⟩ cw_adr rfl rfl (Nat.le_of_ble_eq_true rfl) ⟨Nat.le_refl _, Nat.le_refl _⟩ dX1_clear_11 rfl ?_
  refine g_aload_n F dX1_clear_14 0 rfl ?_
  refine f_iconst F 0 dX1_clear_15 rfl ?_
  refine f_put F inX1 tyX1_ok nmX1 (pl_LK h_i) rfl 2 (by decide) tb_79 rfl rfl rfl rfl (Nat.le_of_ble_eq_true rfl) dX1_clear_16 (ps_9 h_i) ?_
  refine g_aload_n F dX1_clear_19 0 rfl ?_
  refine f_iconst F 0 dX1_clear_20 rfl ?_
  refine f_put F inX1 tyX1_ok nmX1 (pl_LK h_i) rfl 3 (by decide) tb_80 rfl rfl rfl rfl (Nat.le_of_ble_eq_true rfl) dX1_clear_21 (ps_10 h_i) ?_
  refine g_aload_n F dX1_clear_24 0 rfl ?_
  refine f_iconst F 0 dX1_clear_25 rfl ?_
  refine f_put F inX1 tyX1_ok nmX1 (pl_LK h_i) rfl 4 (by decide) tb_81 rfl rfl rfl rfl (Nat.le_of_ble_eq_true rfl) dX1_clear_26 (ps_11 h_i) ?_
  exact g_vret F hr hlk dX1_clear_29 ⟨rfl, congrArg (fun t => cwld cI cS t ad) rfl⟩
def r_X0_isFull (c : CS) (i : Nat) : Nat := if Int32.ofNat (c 6 i 0) < Int32.ofNat 24 then 0 else 1
abbrev rm_X0_isFull : Room := { frames := 0, cells := 0, slots := 0, locals := 0 }
set_option maxHeartbeats 4000000 in
set_option maxRecDepth 100000 in
theorem k_X0_isFull (l : Launch) (D : va_G) (cI cS cZ : ClassId) (ad : Nat → Nat) (c : CS) (i : Nat) (h_i : i < 3) : gN l yX0_isFull (Cond.code yX0_isFull cX0_isFull 1 (some .boolean) :: tb) rm_X0_isFull D cls8 (tys3 cI cS cZ) [.ref (ad (2 + 22 * i + 1))] (cwld cI cS c ad) (some (.int (Int32.ofNat (r_X0_isFull c i)))) (cwld cI cS c ad) := by
  unfold gN
  refine g_head (by decide) rfl (Nat.le_of_ble_eq_true rfl) ?_
  intro p e s m args below meth cd A F hr hlk hnm
  refine g_eq rfl (L' := [(0, .ref (ad (2 + 22 * i + 1)))]) rfl rfl rfl ?_
  refine g_aload_n F dX0_isFull_0 0 rfl ?_
  refine f_get F inX0 (pl_EL h_i) rfl 5 (by decide) tb_34 rfl (v := .int (Int32.ofNat (c 6 i 0))) rfl dX0_isFull_1 ?_
  refine f_bipush F 24 dX0_isFull_4 rfl ?_
  refine g_icmp_lt F dX0_isFull_6 (tgt := 13) rfl (fun h6 => ?_) (fun h6 => ?_)
  · refine f_iconst F 0 dX0_isFull_13 rfl ?_
    exact g_zret F hr hlk rfl dX0_isFull_14 ⟨congrArg (fun t => some (Value.int (Int32.ofNat t))) (Eq.symm (by unfold r_X0_isFull; first | simp only [if_pos h6] | rfl)), rfl⟩
  · refine f_iconst F 1 dX0_isFull_9 rfl ?_
    refine g_goto F dX0_isFull_10 (tgt := 14) rfl ?_
    exact g_zret F hr hlk rfl dX0_isFull_14 ⟨congrArg (fun t => some (Value.int (Int32.ofNat t))) (Eq.symm (by unfold r_X0_isFull; first | simp only [if_neg h6] | rfl)), rfl⟩
theorem isFull0 {c : CS} {i : Nat} (hb : c 6 i 0 ≤ 24) (h : Int32.ofNat (r_X0_isFull c i) = 0) : c 6 i 0 < 24 := by
  unfold r_X0_isFull at h
  split at h
  · rename_i h1; rw [ofN_lt (by omega) (by decide)] at h1; exact h1
  · exact absurd h (by decide)
def r_X0_markAt (c : CS) (i k : Nat) : Nat := if Int32.ofNat k < Int32.ofNat 1 then 0 else (if Int32.ofNat (c 6 i 0) < Int32.ofNat k then 0 else (c 20 i (k - 1)))
abbrev rm_X0_markAt : Room := { frames := 0, cells := 0, slots := 0, locals := 0 }
set_option maxHeartbeats 4000000 in
set_option maxRecDepth 100000 in
theorem k_X0_markAt (l : Launch) (D : va_G) (cI cS cZ : ClassId) (ad : Nat → Nat) (c : CS) (i k : Nat) (h_i : i < 3) (hb : c 6 i 0 ≤ 24) (hk : k < 4294967296) : gN l yX0_markAt (Cond.code yX0_markAt cX0_markAt 2 (some .int) :: tb) rm_X0_markAt D cls8 (tys3 cI cS cZ) [.ref (ad (2 + 22 * i + 1)), .int (Int32.ofNat k)] (cwld cI cS c ad) (some (.int (Int32.ofNat (r_X0_markAt c i k)))) (cwld cI cS c ad) := by
  unfold gN
  refine g_head (by decide) rfl (Nat.le_of_ble_eq_true rfl) ?_
  intro p e s m args below meth cd A F hr hlk hnm
  refine g_eq rfl (L' := [(0, .ref (ad (2 + 22 * i + 1))), (1, .int (Int32.ofNat k))]) rfl rfl rfl ?_
  refine g_iload_n F dX0_markAt_0 1 rfl ?_
  refine f_iconst F 1 dX0_markAt_1 rfl ?_
  refine g_icmp_lt F dX0_markAt_2 (tgt := 24) rfl (fun h2 => ?_) (fun h2 => ?_)
  · refine f_iconst F 0 dX0_markAt_24 rfl ?_
    exact g_iret F hr hlk dX0_markAt_25 ⟨congrArg (fun t => some (Value.int (Int32.ofNat t))) (Eq.symm (by unfold r_X0_markAt; first | simp only [if_pos h2] | rfl)), rfl⟩
  · refine g_iload_n F dX0_markAt_5 1 rfl ?_
    refine g_aload_n F dX0_markAt_6 0 rfl ?_
    refine f_get F inX0 (pl_EL h_i) rfl 5 (by decide) tb_34 rfl (v := .int (Int32.ofNat (c 6 i 0))) rfl dX0_markAt_7 ?_
    refine g_icmp_gt F dX0_markAt_10 (tgt := 24) rfl (fun h10 => ?_) (fun h10 => ?_)
    · refine f_iconst F 0 dX0_markAt_24 rfl ?_
      exact g_iret F hr hlk dX0_markAt_25 ⟨congrArg (fun t => some (Value.int (Int32.ofNat t))) (Eq.symm (by unfold r_X0_markAt; first | simp only [if_neg h2, if_pos h10] | rfl)), rfl⟩
    · refine g_aload_n F dX0_markAt_13 0 rfl ?_
      refine f_get F inX0 (pl_EL h_i) rfl 0 (by decide) tb_29 rfl (v := .ref (ad (2 + 22 * i + 7))) rfl dX0_markAt_14 ?_
      refine g_iload_n F dX0_markAt_17 1 rfl ?_
      refine f_iconst F 1 dX0_markAt_18 rfl ?_
      refine f_sub F (code_ge h2 hk (by decide)).1 dX0_markAt_19 ?_
      refine f_ald F 0 (pl_20 h_i) rfl (j := k - 1) (by have := code_ge h2 hk (by decide); have := nlt_le h10 (by omega) (by omega); omega) (by decide) dX0_markAt_20 ?_
      refine g_goto F dX0_markAt_21 (tgt := 25) rfl ?_
      exact g_iret F hr hlk dX0_markAt_25 ⟨congrArg (fun t => some (Value.int (Int32.ofNat t))) (Eq.symm (by unfold r_X0_markAt; first | simp only [if_neg h2, if_neg h10] | rfl)), rfl⟩
def r_X0_lastMark (c : CS) (i : Nat) : Nat := r_X0_markAt c i (c 6 i 0)
abbrev rm_X0_lastMark : Room := { frames := 1, cells := 0, slots := 0, locals := 21 }
set_option maxHeartbeats 4000000 in
set_option maxRecDepth 100000 in
theorem k_X0_lastMark (l : Launch) (D : va_G) (cI cS cZ : ClassId) (ad : Nat → Nat) (c : CS) (i : Nat) (h_i : i < 3) (hb : c 6 i 0 ≤ 24) : gN l yX0_lastMark (Cond.code yX0_lastMark cX0_lastMark 1 (some .int) :: tb) rm_X0_lastMark D cls8 (tys3 cI cS cZ) [.ref (ad (2 + 22 * i + 1))] (cwld cI cS c ad) (some (.int (Int32.ofNat (r_X0_lastMark c i)))) (cwld cI cS c ad) := by
  unfold gN
  refine g_head (by decide) rfl (Nat.le_of_ble_eq_true rfl) ?_
  intro p e s m args below meth cd A F hr hlk hnm
  refine g_eq rfl (L' := [(0, .ref (ad (2 + 22 * i + 1)))]) rfl rfl rfl ?_
  refine g_aload_n F dX0_lastMark_0 0 rfl ?_
  refine g_aload_n F dX0_lastMark_1 0 rfl ?_
  refine f_get F inX0 (pl_EL h_i) rfl 5 (by decide) tb_34 rfl (v := .int (Int32.ofNat (c 6 i 0))) rfl dX0_lastMark_2 ?_
  refine f_callV F (As := [.int (Int32.ofNat (c 6 i 0))]) (rest := []) (st' := [.int (Int32.ofNat (r_X0_markAt c i (c 6 i 0)))]) (k_X0_markAt l D cI cS cZ ad c i (c 6 i 0) h_i (by assumption) (by omega)) (pl_EL h_i) rfl tb_199 tb_197 tb_198 tb_579 tb_3 ⟨rfl, hdX0_markAt⟩ ⟨rfl, rfl⟩ ⟨Nat.le_of_ble_eq_true rfl, Nat.le_of_ble_eq_true rfl⟩ cw_adr rfl rfl (Nat.le_of_ble_eq_true rfl) ⟨Nat.le_refl _, Nat.le_refl _⟩ dX0_lastMark_5 rfl ?_
  exact g_iret F hr hlk dX0_lastMark_8 ⟨congrArg (fun t => some (Value.int (Int32.ofNat t))) rfl, rfl⟩
def w_X0_append (c : CS) (i mk kd pa va vb : Nat) : CS := if Int32.ofNat (r_X0_isFull c i) = 0 then (su3 (su3 (su3 (su3 (su3 (su3 c 20 i (c 6 i 0) mk) 21 i (c 6 i 0) kd) 22 i (c 6 i 0) pa) 23 i (c 6 i 0) va) 24 i (c 6 i 0) vb) 6 i 0 ((c 6 i 0) + 1)) else c
abbrev rm_X0_append : Room := { frames := 1, cells := 0, slots := 0, locals := 20 }
set_option maxHeartbeats 4000000 in
set_option maxRecDepth 100000 in
theorem k_X0_append (l : Launch) (D : va_G) (cI cS cZ : ClassId) (ad : Nat → Nat) (c : CS) (i mk kd pa va vb : Nat) (h_i : i < 3) (hb : c 6 i 0 ≤ 24) : gN l yX0_append (Cond.code yX0_append cX0_append 6 none :: tb) rm_X0_append D cls8 (tys3 cI cS cZ) [.ref (ad (2 + 22 * i + 1)), .int (Int32.ofNat mk), .int (Int32.ofNat kd), .int (Int32.ofNat pa), .int (Int32.ofNat va), .int (Int32.ofNat vb)] (cwld cI cS c ad) none (cwld cI cS (w_X0_append c i mk kd pa va vb) ad) := by
  unfold gN
  refine g_head (by decide) rfl (Nat.le_of_ble_eq_true rfl) ?_
  intro p e s m args below meth cd A F hr hlk hnm
  refine g_eq rfl (L' := [(0, .ref (ad (2 + 22 * i + 1))), (1, .int (Int32.ofNat mk)), (2, .int (Int32.ofNat kd)), (3, .int (Int32.ofNat pa)), (4, .int (Int32.ofNat va)), (5, .int (Int32.ofNat vb))]) rfl rfl rfl ?_
  refine g_aload_n F dX0_append_0 0 rfl ?_
  refine f_callV F (As := []) (rest := []) (st' := [.int (Int32.ofNat (r_X0_isFull c i))]) (k_X0_isFull l D cI cS cZ ad c i h_i) (pl_EL h_i) rfl tb_210 tb_208 tb_209 tb_583 tb_3 ⟨rfl, hdX0_isFull⟩ ⟨rfl, rfl⟩ ⟨Nat.le_of_ble_eq_true rfl, Nat.le_of_ble_eq_true rfl⟩ cw_adr rfl rfl (Nat.le_of_ble_eq_true rfl) ⟨Nat.le_refl _, Nat.le_refl _⟩ dX0_append_1 rfl ?_
  refine g_if_eq F dX0_append_4 (tgt := 8) rfl (fun h4 => ?_) (fun h4 => ?_)
  · refine g_aload_n F dX0_append_8 0 rfl ?_
    refine f_get F inX0 (pl_EL h_i) rfl 0 (by decide) tb_29 rfl (v := .ref (ad (2 + 22 * i + 7))) rfl dX0_append_9 ?_
    refine g_aload_n F dX0_append_12 0 rfl ?_
    refine f_get F inX0 (pl_EL h_i) rfl 5 (by decide) tb_34 rfl (v := .int (Int32.ofNat (c 6 i 0))) rfl dX0_append_13 ?_
    refine g_iload_n F dX0_append_16 1 rfl ?_
    refine f_ast F 0 (pl_20 h_i) rfl (j := c 6 i 0) (v := mk) (isFull0 hb h4) (by decide) dX0_append_17 (ps_20 h_i) ?_
    refine g_aload_n F dX0_append_18 0 rfl ?_
    refine f_get F inX0 (pl_EL h_i) rfl 1 (by decide) tb_30 rfl (v := .ref (ad (2 + 22 * i + 8))) rfl dX0_append_19 ?_
    refine g_aload_n F dX0_append_22 0 rfl ?_
    refine f_get F inX0 (pl_EL h_i) rfl 5 (by decide) tb_34 rfl (v := .int (Int32.ofNat (c 6 i 0))) rfl dX0_append_23 ?_
    refine g_iload_n F dX0_append_26 2 rfl ?_
    refine f_ast F 0 (pl_21 h_i) rfl (j := c 6 i 0) (v := kd) (isFull0 hb h4) (by decide) dX0_append_27 (ps_21 h_i) ?_
    refine g_aload_n F dX0_append_28 0 rfl ?_
    refine f_get F inX0 (pl_EL h_i) rfl 2 (by decide) tb_31 rfl (v := .ref (ad (2 + 22 * i + 9))) rfl dX0_append_29 ?_
    refine g_aload_n F dX0_append_32 0 rfl ?_
    refine f_get F inX0 (pl_EL h_i) rfl 5 (by decide) tb_34 rfl (v := .int (Int32.ofNat (c 6 i 0))) rfl dX0_append_33 ?_
    refine g_iload_n F dX0_append_36 3 rfl ?_
    refine f_ast F 0 (pl_22 h_i) rfl (j := c 6 i 0) (v := pa) (isFull0 hb h4) (by decide) dX0_append_37 (ps_22 h_i) ?_
    refine g_aload_n F dX0_append_38 0 rfl ?_
    refine f_get F inX0 (pl_EL h_i) rfl 3 (by decide) tb_32 rfl (v := .ref (ad (2 + 22 * i + 10))) rfl dX0_append_39 ?_
    refine g_aload_n F dX0_append_42 0 rfl ?_
    refine f_get F inX0 (pl_EL h_i) rfl 5 (by decide) tb_34 rfl (v := .int (Int32.ofNat (c 6 i 0))) rfl dX0_append_43 ?_
    refine g_iload F dX0_append_46 4 rfl ?_
    refine f_ast F 0 (pl_23 h_i) rfl (j := c 6 i 0) (v := va) (isFull0 hb h4) (by decide) dX0_append_48 (ps_23 h_i) ?_
    refine g_aload_n F dX0_append_49 0 rfl ?_
    refine f_get F inX0 (pl_EL h_i) rfl 4 (by decide) tb_33 rfl (v := .ref (ad (2 + 22 * i + 11))) rfl dX0_append_50 ?_
    refine g_aload_n F dX0_append_53 0 rfl ?_
    refine f_get F inX0 (pl_EL h_i) rfl 5 (by decide) tb_34 rfl (v := .int (Int32.ofNat (c 6 i 0))) rfl dX0_append_54 ?_
    refine g_iload F dX0_append_57 5 rfl ?_
    refine f_ast F 0 (pl_24 h_i) rfl (j := c 6 i 0) (v := vb) (isFull0 hb h4) (by decide) dX0_append_59 (ps_24 h_i) ?_
    refine g_aload_n F dX0_append_60 0 rfl ?_
    refine g_dup F dX0_append_61 rfl ?_
    refine f_get F inX0 (pl_EL h_i) rfl 5 (by decide) tb_34 rfl (v := .int (Int32.ofNat (c 6 i 0))) rfl dX0_append_62 ?_
    refine f_iconst F 1 dX0_append_65 rfl ?_
    refine f_add F dX0_append_66 ?_
    refine f_put F inX0 tyX0_ok nmX0 (pl_EL h_i) rfl 5 (by decide) tb_34 rfl rfl rfl rfl (Nat.le_of_ble_eq_true rfl) dX0_append_67 (ps_6 h_i) ?_
    exact g_vret F hr hlk dX0_append_70 ⟨rfl, congrArg (fun t => cwld cI cS t ad) (Eq.symm (by unfold w_X0_append; first | simp only [if_pos h4] | rfl))⟩
  · exact g_vret F hr hlk dX0_append_7 ⟨rfl, congrArg (fun t => cwld cI cS t ad) (Eq.symm (by unfold w_X0_append; first | simp only [if_neg h4] | rfl))⟩
def w_X0_appendFrom (c : CS) (i o k : Nat) : CS := if Int32.ofNat k < Int32.ofNat 1 then c else (if Int32.ofNat (c 6 o 0) < Int32.ofNat k then c else (w_X0_append c i (c 20 o (k - 1)) (c 21 o (k - 1)) (c 22 o (k - 1)) (c 23 o (k - 1)) (c 24 o (k - 1))))
abbrev rm_X0_appendFrom : Room := { frames := 2, cells := 0, slots := 0, locals := 45 }
set_option maxHeartbeats 4000000 in
set_option maxRecDepth 100000 in
theorem k_X0_appendFrom (l : Launch) (D : va_G) (cI cS cZ : ClassId) (ad : Nat → Nat) (c : CS) (i o k : Nat) (h_i : i < 3) (h_o : o < 3) (hb : c 6 i 0 ≤ 24) (hb2 : c 6 o 0 ≤ 24) (hk : k < 4294967296) : gN l yX0_appendFrom (Cond.code yX0_appendFrom cX0_appendFrom 4 none :: tb) rm_X0_appendFrom D cls8 (tys3 cI cS cZ) [.ref (ad (2 + 22 * i + 1)), .ref (ad (2 + 22 * o + 1)), .int (Int32.ofNat k)] (cwld cI cS c ad) none (cwld cI cS (w_X0_appendFrom c i o k) ad) := by
  unfold gN
  refine g_head (by decide) rfl (Nat.le_of_ble_eq_true rfl) ?_
  intro p e s m args below meth cd A F hr hlk hnm
  refine g_eq rfl (L' := [(0, .ref (ad (2 + 22 * i + 1))), (1, .ref (ad (2 + 22 * o + 1))), (2, .int (Int32.ofNat k))]) rfl rfl rfl ?_
  refine g_iload_n F dX0_appendFrom_0 2 rfl ?_
  refine f_iconst F 1 dX0_appendFrom_1 rfl ?_
  refine g_icmp_lt F dX0_appendFrom_2 (tgt := 51) rfl (fun h2 => ?_) (fun h2 => ?_)
  · exact g_vret F hr hlk dX0_appendFrom_51 ⟨rfl, congrArg (fun t => cwld cI cS t ad) (Eq.symm (by unfold w_X0_appendFrom; first | simp only [if_pos h2] | rfl))⟩
  · refine g_iload_n F dX0_appendFrom_5 2 rfl ?_
    refine g_aload_n F dX0_appendFrom_6 1 rfl ?_
    refine f_get F inX0 (pl_EL h_o) rfl 5 (by decide) tb_34 rfl (v := .int (Int32.ofNat (c 6 o 0))) rfl dX0_appendFrom_7 ?_
    refine g_icmp_gt F dX0_appendFrom_10 (tgt := 51) rfl (fun h10 => ?_) (fun h10 => ?_)
    · exact g_vret F hr hlk dX0_appendFrom_51 ⟨rfl, congrArg (fun t => cwld cI cS t ad) (Eq.symm (by unfold w_X0_appendFrom; first | simp only [if_neg h2, if_pos h10] | rfl))⟩
    · refine g_iload_n F dX0_appendFrom_13 2 rfl ?_
      refine f_iconst F 1 dX0_appendFrom_14 rfl ?_
      refine f_sub F (code_ge h2 hk (by decide)).1 dX0_appendFrom_15 ?_
      refine g_istore_n F [(3, .int (Int32.ofNat (k - 1))), (0, .ref (ad (2 + 22 * i + 1))), (1, .ref (ad (2 + 22 * o + 1))), (2, .int (Int32.ofNat k))] dX0_appendFrom_16 (by decide) rfl ?_
      refine g_aload_n F dX0_appendFrom_17 1 rfl ?_
      refine g_aload_n F dX0_appendFrom_18 2 rfl ?_
      refine f_get F inX0 (pl_EL h_o) rfl 0 (by decide) tb_29 rfl (v := .ref (ad (2 + 22 * o + 7))) rfl dX0_appendFrom_19 ?_
      refine g_iload_n F dX0_appendFrom_22 0 rfl ?_
      refine f_ald F 0 (pl_20 h_o) rfl (j := k - 1) (by have := code_ge h2 hk (by decide); have := nlt_le h10 (by omega) (by omega); omega) (by decide) dX0_appendFrom_23 ?_
      refine g_aload_n F dX0_appendFrom_24 2 rfl ?_
      refine f_get F inX0 (pl_EL h_o) rfl 1 (by decide) tb_30 rfl (v := .ref (ad (2 + 22 * o + 8))) rfl dX0_appendFrom_25 ?_
      refine g_iload_n F dX0_appendFrom_28 0 rfl ?_
      refine f_ald F 0 (pl_21 h_o) rfl (j := k - 1) (by have := code_ge h2 hk (by decide); have := nlt_le h10 (by omega) (by omega); omega) (by decide) dX0_appendFrom_29 ?_
      refine g_aload_n F dX0_appendFrom_30 2 rfl ?_
      refine f_get F inX0 (pl_EL h_o) rfl 2 (by decide) tb_31 rfl (v := .ref (ad (2 + 22 * o + 9))) rfl dX0_appendFrom_31 ?_
      refine g_iload_n F dX0_appendFrom_34 0 rfl ?_
      refine f_ald F 0 (pl_22 h_o) rfl (j := k - 1) (by have := code_ge h2 hk (by decide); have := nlt_le h10 (by omega) (by omega); omega) (by decide) dX0_appendFrom_35 ?_
      refine g_aload_n F dX0_appendFrom_36 2 rfl ?_
      refine f_get F inX0 (pl_EL h_o) rfl 3 (by decide) tb_32 rfl (v := .ref (ad (2 + 22 * o + 10))) rfl dX0_appendFrom_37 ?_
      refine g_iload_n F dX0_appendFrom_40 0 rfl ?_
      refine f_ald F 0 (pl_23 h_o) rfl (j := k - 1) (by have := code_ge h2 hk (by decide); have := nlt_le h10 (by omega) (by omega); omega) (by decide) dX0_appendFrom_41 ?_
      refine g_aload_n F dX0_appendFrom_42 2 rfl ?_
      refine f_get F inX0 (pl_EL h_o) rfl 4 (by decide) tb_33 rfl (v := .ref (ad (2 + 22 * o + 11))) rfl dX0_appendFrom_43 ?_
      refine g_iload_n F dX0_appendFrom_46 0 rfl ?_
      refine f_ald F 0 (pl_24 h_o) rfl (j := k - 1) (by have := code_ge h2 hk (by decide); have := nlt_le h10 (by omega) (by omega); omega) (by decide) dX0_appendFrom_47 ?_
      refine f_callV F (As := [.int (Int32.ofNat (c 20 o (k - 1))), .int (Int32.ofNat (c 21 o (k - 1))), .int (Int32.ofNat (c 22 o (k - 1))), .int (Int32.ofNat (c 23 o (k - 1))), .int (Int32.ofNat (c 24 o (k - 1)))]) (rest := []) (st' := []) (k_X0_append l D cI cS cZ ad c i (c 20 o (k - 1)) (c 21 o (k - 1)) (c 22 o (k - 1)) (c 23 o (k - 1)) (c 24 o (k - 1)) h_i (by assumption)) (pl_EL h_i) rfl tb_207 tb_205 tb_206 tb_582 tb_3 ⟨rfl, hdX0_append⟩ ⟨rfl, rfl⟩ ⟨Nat.le_of_ble_eq_true rfl, Nat.le_of_ble_eq_true rfl⟩ cw_adr rfl rfl (Nat.le_of_ble_eq_true rfl) ⟨Nat.le_refl _, Nat.le_refl _⟩ dX0_appendFrom_48 rfl ?_
      exact g_vret F hr hlk dX0_appendFrom_51 ⟨rfl, congrArg (fun t => cwld cI cS t ad) (Eq.symm (by unfold w_X0_appendFrom; first | simp only [if_neg h2, if_neg h10] | rfl))⟩
def r_X6_isServer (c : CS) (v : Nat) : Nat := if Int32.ofNat v < 0 then 0 else (if Int32.ofNat 3 ≤ Int32.ofNat v then 0 else 1)
abbrev rm_X6_isServer : Room := { frames := 0, cells := 0, slots := 0, locals := 0 }
set_option maxHeartbeats 4000000 in
set_option maxRecDepth 100000 in
theorem k_X6_isServer (l : Launch) (D : va_G) (cI cS cZ : ClassId) (ad : Nat → Nat) (c : CS) (v : Nat) : gN l yX6_isServer (Cond.code yX6_isServer cX6_isServer 1 (some .boolean) :: tb) rm_X6_isServer D cls8 (tys3 cI cS cZ) [.int (Int32.ofNat v)] (cwld cI cS c ad) (some (.int (Int32.ofNat (r_X6_isServer c v)))) (cwld cI cS c ad) := by
  unfold gN
  refine g_head (by decide) rfl (Nat.le_of_ble_eq_true rfl) ?_
  intro p e s m args below meth cd A F hr hlk hnm
  refine g_eq rfl (L' := [(0, .int (Int32.ofNat v))]) rfl rfl rfl ?_
  refine g_iload_n F dX6_isServer_0 0 rfl ?_
  refine g_if_lt F dX6_isServer_1 (tgt := 13) rfl (fun h1 => ?_) (fun h1 => ?_)
  · refine f_iconst F 0 dX6_isServer_13 rfl ?_
    exact g_zret F hr hlk rfl dX6_isServer_14 ⟨congrArg (fun t => some (Value.int (Int32.ofNat t))) (Eq.symm (by unfold r_X6_isServer; first | simp only [if_pos h1] | rfl)), rfl⟩
  · refine g_iload_n F dX6_isServer_4 0 rfl ?_
    refine f_iconst F 3 dX6_isServer_5 rfl ?_
    refine g_icmp_ge F dX6_isServer_6 (tgt := 13) rfl (fun h6 => ?_) (fun h6 => ?_)
    · refine f_iconst F 0 dX6_isServer_13 rfl ?_
      exact g_zret F hr hlk rfl dX6_isServer_14 ⟨congrArg (fun t => some (Value.int (Int32.ofNat t))) (Eq.symm (by unfold r_X6_isServer; first | simp only [if_neg h1, if_pos h6] | rfl)), rfl⟩
    · refine f_iconst F 1 dX6_isServer_9 rfl ?_
      refine g_goto F dX6_isServer_10 (tgt := 14) rfl ?_
      exact g_zret F hr hlk rfl dX6_isServer_14 ⟨congrArg (fun t => some (Value.int (Int32.ofNat t))) (Eq.symm (by unfold r_X6_isServer; first | simp only [if_neg h1, if_neg h6] | rfl)), rfl⟩
def r_X6_isSession (c : CS) (v : Nat) : Nat := if Int32.ofNat v < Int32.ofNat 1 then 0 else (if Int32.ofNat 4 < Int32.ofNat v then 0 else 1)
abbrev rm_X6_isSession : Room := { frames := 0, cells := 0, slots := 0, locals := 0 }
set_option maxHeartbeats 4000000 in
set_option maxRecDepth 100000 in
theorem k_X6_isSession (l : Launch) (D : va_G) (cI cS cZ : ClassId) (ad : Nat → Nat) (c : CS) (v : Nat) : gN l yX6_isSession (Cond.code yX6_isSession cX6_isSession 1 (some .boolean) :: tb) rm_X6_isSession D cls8 (tys3 cI cS cZ) [.int (Int32.ofNat v)] (cwld cI cS c ad) (some (.int (Int32.ofNat (r_X6_isSession c v)))) (cwld cI cS c ad) := by
  unfold gN
  refine g_head (by decide) rfl (Nat.le_of_ble_eq_true rfl) ?_
  intro p e s m args below meth cd A F hr hlk hnm
  refine g_eq rfl (L' := [(0, .int (Int32.ofNat v))]) rfl rfl rfl ?_
  refine g_iload_n F dX6_isSession_0 0 rfl ?_
  refine f_iconst F 1 dX6_isSession_1 rfl ?_
  refine g_icmp_lt F dX6_isSession_2 (tgt := 14) rfl (fun h2 => ?_) (fun h2 => ?_)
  · refine f_iconst F 0 dX6_isSession_14 rfl ?_
    exact g_zret F hr hlk rfl dX6_isSession_15 ⟨congrArg (fun t => some (Value.int (Int32.ofNat t))) (Eq.symm (by unfold r_X6_isSession; first | simp only [if_pos h2] | rfl)), rfl⟩
  · refine g_iload_n F dX6_isSession_5 0 rfl ?_
    refine f_iconst F 4 dX6_isSession_6 rfl ?_
    refine g_icmp_gt F dX6_isSession_7 (tgt := 14) rfl (fun h7 => ?_) (fun h7 => ?_)
    · refine f_iconst F 0 dX6_isSession_14 rfl ?_
      exact g_zret F hr hlk rfl dX6_isSession_15 ⟨congrArg (fun t => some (Value.int (Int32.ofNat t))) (Eq.symm (by unfold r_X6_isSession; first | simp only [if_neg h2, if_pos h7] | rfl)), rfl⟩
    · refine f_iconst F 1 dX6_isSession_10 rfl ?_
      refine g_goto F dX6_isSession_11 (tgt := 15) rfl ?_
      exact g_zret F hr hlk rfl dX6_isSession_15 ⟨congrArg (fun t => some (Value.int (Int32.ofNat t))) (Eq.symm (by unfold r_X6_isSession; first | simp only [if_neg h2, if_neg h7] | rfl)), rfl⟩
