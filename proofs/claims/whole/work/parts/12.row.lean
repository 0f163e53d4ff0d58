def w_X2_clear_u (c : CS) (i : Nat) : CS := su3 (su3 c 12 i 0 0) 13 i 0 0
abbrev rm_X2_clear_u : Room := { frames := 0, cells := 0, slots := 0, locals := 0 }
set_option maxHeartbeats 4000000 in
set_option maxRecDepth 100000 in
theorem k_X2_clear_u (l : Launch) (D : va_G) (cI cS cZ : ClassId) (ad : Nat → Nat) (c : CS) (i : Nat) (h_i : i < 3) : gN l yX2_clear (Cond.code yX2_clear cX2_clear 1 none :: tb) rm_X2_clear_u D cls8 (tys3 cI cS cZ) [.ref (ad (2 + 22 * i + 5))] (cwld cI cS c ad) none (cwld cI cS (w_X2_clear_u c i) ad) := by
  unfold gN
  refine g_head (by decide) rfl (Nat.le_of_ble_eq_true rfl) ?_
  intro p e s m args below meth cd A F hr hlk hnm
  refine g_eq rfl (L' := [(0, .ref (ad (2 + 22 * i + 5)))]) rfl rfl rfl ?_
  refine g_aload_n F dX2_clear_0 0 rfl ?_
  refine f_iconst F 0 dX2_clear_1 rfl ?_
  refine f_put F inX2 tyX2_ok nmX2 (pl_RU h_i) rfl 2 (by decide) tb_71 rfl rfl rfl rfl (Nat.le_of_ble_eq_true rfl) dX2_clear_2 (ps_12 h_i) ?_
  refine g_aload_n F dX2_clear_5 0 rfl ?_
  refine f_iconst F 0 dX2_clear_6 rfl ?_
  refine f_put F inX2 tyX2_ok nmX2 (pl_RU h_i) rfl 3 (by decide) tb_72 rfl rfl rfl rfl (Nat.le_of_ble_eq_true rfl) dX2_clear_7 (ps_13 h_i) ?_
  exact g_vret F hr hlk dX2_clear_10 ⟨rfl, congrArg (fun t => cwld cI cS t ad) rfl⟩
def r_X2_count_u (c : CS) (i : Nat) : Nat := nc ((Int32.ofNat (c 13 i 0)) - (Int32.ofNat (c 12 i 0)))
abbrev rm_X2_count_u : Room := { frames := 0, cells := 0, slots := 0, locals := 0 }
set_option maxHeartbeats 4000000 in
set_option maxRecDepth 100000 in
theorem k_X2_count_u (l : Launch) (D : va_G) (cI cS cZ : ClassId) (ad : Nat → Nat) (c : CS) (i : Nat) (h_i : i < 3) : gN l yX2_count (Cond.code yX2_count cX2_count 1 (some .int) :: tb) rm_X2_count_u D cls8 (tys3 cI cS cZ) [.ref (ad (2 + 22 * i + 5))] (cwld cI cS c ad) (some (.int (Int32.ofNat (r_X2_count_u c i)))) (cwld cI cS c ad) := by
  unfold gN
  refine g_head (by decide) rfl (Nat.le_of_ble_eq_true rfl) ?_
  intro p e s m args below meth cd A F hr hlk hnm
  refine g_eq rfl (L' := [(0, .ref (ad (2 + 22 * i + 5)))]) rfl rfl rfl ?_
  refine g_aload_n F dX2_count_0 0 rfl ?_
  refine f_get F inX2 (pl_RU h_i) rfl 3 (by decide) tb_72 rfl (v := .int (Int32.ofNat (c 13 i 0))) rfl dX2_count_1 ?_
  refine g_aload_n F dX2_count_4 0 rfl ?_
  refine f_get F inX2 (pl_RU h_i) rfl 2 (by decide) tb_71 rfl (v := .int (Int32.ofNat (c 12 i 0))) rfl dX2_count_5 ?_
  refine g_isub F dX2_count_8 ?_
  refine f_code ?_
  exact g_iret F hr hlk dX2_count_9 ⟨congrArg (fun t => some (Value.int (Int32.ofNat t))) rfl, rfl⟩
def w_X2_send_u (c : CS) (i kd vl : Nat) : CS := if Int32.ofNat 27 ≤ Int32.ofNat (c 13 i 0) then c else (su3 (su3 (su3 c 30 i (c 13 i 0) kd) 31 i (c 13 i 0) vl) 13 i 0 ((c 13 i 0) + 1))
abbrev rm_X2_send_u : Room := { frames := 0, cells := 0, slots := 0, locals := 0 }
set_option maxHeartbeats 4000000 in
set_option maxRecDepth 100000 in
theorem k_X2_send_u (l : Launch) (D : va_G) (cI cS cZ : ClassId) (ad : Nat → Nat) (c : CS) (i kd vl : Nat) (h_i : i < 3) (hb : c 13 i 0 ≤ 27) : gN l yX2_send (Cond.code yX2_send cX2_send 3 none :: tb) rm_X2_send_u D cls8 (tys3 cI cS cZ) [.ref (ad (2 + 22 * i + 5)), .int (Int32.ofNat kd), .int (Int32.ofNat vl)] (cwld cI cS c ad) none (cwld cI cS (w_X2_send_u c i kd vl) ad) := by
  unfold gN
  refine g_head (by decide) rfl (Nat.le_of_ble_eq_true rfl) ?_
  intro p e s m args below meth cd A F hr hlk hnm
  refine g_eq rfl (L' := [(0, .ref (ad (2 + 22 * i + 5))), (1, .int (Int32.ofNat kd)), (2, .int (Int32.ofNat vl))]) rfl rfl rfl ?_
  refine g_aload_n F dX2_send_0 0 rfl ?_
  refine f_get F inX2 (pl_RU h_i) rfl 3 (by decide) tb_72 rfl (v := .int (Int32.ofNat (c 13 i 0))) rfl dX2_send_1 ?_
  refine g_aload_n F dX2_send_4 0 rfl ?_
  refine f_get F inX2 (pl_RU h_i) rfl 0 (by decide) tb_69 rfl (v := .ref (ad (2 + 22 * i + 17))) rfl dX2_send_5 ?_
  refine g_alen F _ 0 (pl_30 h_i) rfl (v := Int32.ofNat 27) rfl dX2_send_8 ?_
  refine g_icmp_ge F dX2_send_9 (tgt := 42) rfl (fun h9 => ?_) (fun h9 => ?_)
  · exact g_vret F hr hlk dX2_send_42 ⟨rfl, congrArg (fun t => cwld cI cS t ad) (Eq.symm (by unfold w_X2_send_u; first | simp only [if_pos h9] | rfl))⟩
  · refine g_aload_n F dX2_send_12 0 rfl ?_
    refine f_get F inX2 (pl_RU h_i) rfl 0 (by decide) tb_69 rfl (v := .ref (ad (2 + 22 * i + 17))) rfl dX2_send_13 ?_
    refine g_aload_n F dX2_send_16 0 rfl ?_
    refine f_get F inX2 (pl_RU h_i) rfl 3 (by decide) tb_72 rfl (v := .int (Int32.ofNat (c 13 i 0))) rfl dX2_send_17 ?_
    refine g_iload_n F dX2_send_20 1 rfl ?_
    refine f_ast F 0 (pl_30 h_i) rfl (j := c 13 i 0) (v := kd) (lt_of_nle h9 (by decide) (by omega)) (by decide) dX2_send_21 (ps_30 h_i) ?_
    refine g_aload_n F dX2_send_22 0 rfl ?_
    refine f_get F inX2 (pl_RU h_i) rfl 1 (by decide) tb_70 rfl (v := .ref (ad (2 + 22 * i + 18))) rfl dX2_send_23 ?_
    refine g_aload_n F dX2_send_26 0 rfl ?_
    refine f_get F inX2 (pl_RU h_i) rfl 3 (by decide) tb_72 rfl (v := .int (Int32.ofNat (c 13 i 0))) rfl dX2_send_27 ?_
    refine g_iload_n F dX2_send_30 2 rfl ?_
    refine f_ast F 0 (pl_31 h_i) rfl (j := c 13 i 0) (v := vl) (lt_of_nle h9 (by decide) (by omega)) (by decide) dX2_send_31 (ps_31 h_i) ?_
    refine g_aload_n F dX2_send_32 0 rfl ?_
    refine g_dup F dX2_send_33 rfl ?_
    refine f_get F inX2 (pl_RU h_i) rfl 3 (by decide) tb_72 rfl (v := .int (Int32.ofNat (c 13 i 0))) rfl dX2_send_34 ?_
    refine f_iconst F 1 dX2_send_37 rfl ?_
    refine f_add F dX2_send_38 ?_
    refine f_put F inX2 tyX2_ok nmX2 (pl_RU h_i) rfl 3 (by decide) tb_72 rfl rfl rfl rfl (Nat.le_of_ble_eq_true rfl) dX2_send_39 (ps_13 h_i) ?_
    exact g_vret F hr hlk dX2_send_42 ⟨rfl, congrArg (fun t => cwld cI cS t ad) (Eq.symm (by unfold w_X2_send_u; first | simp only [if_neg h9] | rfl))⟩
def r_X2_firstKind_u (c : CS) (i : Nat) : Nat := if Int32.ofNat (c 13 i 0) ≤ Int32.ofNat (c 12 i 0) then 0 else (c 30 i (c 12 i 0))
abbrev rm_X2_firstKind_u : Room := { frames := 0, cells := 0, slots := 0, locals := 0 }
set_option maxHeartbeats 4000000 in
set_option maxRecDepth 100000 in
theorem k_X2_firstKind_u (l : Launch) (D : va_G) (cI cS cZ : ClassId) (ad : Nat → Nat) (c : CS) (i : Nat) (h_i : i < 3) (hb : c 13 i 0 ≤ 27) (hb2 : c 12 i 0 ≤ 27) : gN l yX2_firstKind (Cond.code yX2_firstKind cX2_firstKind 1 (some .int) :: tb) rm_X2_firstKind_u D cls8 (tys3 cI cS cZ) [.ref (ad (2 + 22 * i + 5))] (cwld cI cS c ad) (some (.int (Int32.ofNat (r_X2_firstKind_u c i)))) (cwld cI cS c ad) := by
  unfold gN
  refine g_head (by decide) rfl (Nat.le_of_ble_eq_true rfl) ?_
  intro p e s m args below meth cd A F hr hlk hnm
  refine g_eq rfl (L' := [(0, .ref (ad (2 + 22 * i + 5)))]) rfl rfl rfl ?_
  refine g_aload_n F dX2_firstKind_0 0 rfl ?_
  refine f_get F inX2 (pl_RU h_i) rfl 2 (by decide) tb_71 rfl (v := .int (Int32.ofNat (c 12 i 0))) rfl dX2_firstKind_1 ?_
  refine g_aload_n F dX2_firstKind_4 0 rfl ?_
  refine f_get F inX2 (pl_RU h_i) rfl 3 (by decide) tb_72 rfl (v := .int (Int32.ofNat (c 13 i 0))) rfl dX2_firstKind_5 ?_
  refine g_icmp_ge F dX2_firstKind_8 (tgt := 23) rfl (fun h8 => ?_) (fun h8 => ?_)
  · refine f_iconst F 0 dX2_firstKind_23 rfl ?_
    exact g_iret F hr hlk dX2_firstKind_24 ⟨congrArg (fun t => some (Value.int (Int32.ofNat t))) (Eq.symm (by unfold r_X2_firstKind_u; first | simp only [if_pos h8] | rfl)), rfl⟩
  · refine g_aload_n F dX2_firstKind_11 0 rfl ?_
    refine f_get F inX2 (pl_RU h_i) rfl 0 (by decide) tb_69 rfl (v := .ref (ad (2 + 22 * i + 17))) rfl dX2_firstKind_12 ?_
    refine g_aload_n F dX2_firstKind_15 0 rfl ?_
    refine f_get F inX2 (pl_RU h_i) rfl 2 (by decide) tb_71 rfl (v := .int (Int32.ofNat (c 12 i 0))) rfl dX2_firstKind_16 ?_
    refine f_ald F 0 (pl_30 h_i) rfl (j := c 12 i 0) (Nat.lt_of_lt_of_le (lt_of_nle h8 (by omega) (by omega)) hb) (by decide) dX2_firstKind_19 ?_
    refine g_goto F dX2_firstKind_20 (tgt := 24) rfl ?_
    exact g_iret F hr hlk dX2_firstKind_24 ⟨congrArg (fun t => some (Value.int (Int32.ofNat t))) (Eq.symm (by unfold r_X2_firstKind_u; first | simp only [if_neg h8] | rfl)), rfl⟩
def r_X2_firstValue_u (c : CS) (i : Nat) : Nat := if Int32.ofNat (c 13 i 0) ≤ Int32.ofNat (c 12 i 0) then 0 else (c 31 i (c 12 i 0))
abbrev rm_X2_firstValue_u : Room := { frames := 0, cells := 0, slots := 0, locals := 0 }
set_option maxHeartbeats 4000000 in
set_option maxRecDepth 100000 in
theorem k_X2_firstValue_u (l : Launch) (D : va_G) (cI cS cZ : ClassId) (ad : Nat → Nat) (c : CS) (i : Nat) (h_i : i < 3) (hb : c 13 i 0 ≤ 27) (hb2 : c 12 i 0 ≤ 27) : gN l yX2_firstValue (Cond.code yX2_firstValue cX2_firstValue 1 (some .int) :: tb) rm_X2_firstValue_u D cls8 (tys3 cI cS cZ) [.ref (ad (2 + 22 * i + 5))] (cwld cI cS c ad) (some (.int (Int32.ofNat (r_X2_firstValue_u c i)))) (cwld cI cS c ad) := by
  unfold gN
  refine g_head (by decide) rfl (Nat.le_of_ble_eq_true rfl) ?_
  intro p e s m args below meth cd A F hr hlk hnm
  refine g_eq rfl (L' := [(0, .ref (ad (2 + 22 * i + 5)))]) rfl rfl rfl ?_
  refine g_aload_n F dX2_firstValue_0 0 rfl ?_
  refine f_get F inX2 (pl_RU h_i) rfl 2 (by decide) tb_71 rfl (v := .int (Int32.ofNat (c 12 i 0))) rfl dX2_firstValue_1 ?_
  refine g_aload_n F dX2_firstValue_4 0 rfl ?_
  refine f_get F inX2 (pl_RU h_i) rfl 3 (by decide) tb_72 rfl (v := .int (Int32.ofNat (c 13 i 0))) rfl dX2_firstValue_5 ?_
  refine g_icmp_ge F dX2_firstValue_8 (tgt := 23) rfl (fun h8 => ?_) (fun h8 => ?_)
  · refine f_iconst F 0 dX2_firstValue_23 rfl ?_
    exact g_iret F hr hlk dX2_firstValue_24 ⟨congrArg (fun t => some (Value.int (Int32.ofNat t))) (Eq.symm (by unfold r_X2_firstValue_u; first | simp only [if_pos h8] | rfl)), rfl⟩
  · refine g_aload_n F dX2_firstValue_11 0 rfl ?_
    refine f_get F inX2 (pl_RU h_i) rfl 1 (by decide) tb_70 rfl (v := .ref (ad (2 + 22 * i + 18))) rfl dX2_firstValue_12 ?_
    refine g_aload_n F dX2_firstValue_15 0 rfl ?_
    refine f_get F inX2 (pl_RU h_i) rfl 2 (by decide) tb_71 rfl (v := .int (Int32.ofNat (c 12 i 0))) rfl dX2_firstValue_16 ?_
    refine f_ald F 0 (pl_31 h_i) rfl (j := c 12 i 0) (Nat.lt_of_lt_of_le (lt_of_nle h8 (by omega) (by omega)) hb) (by decide) dX2_firstValue_19 ?_
    refine g_goto F dX2_firstValue_20 (tgt := 24) rfl ?_
    exact g_iret F hr hlk dX2_firstValue_24 ⟨congrArg (fun t => some (Value.int (Int32.ofNat t))) (Eq.symm (by unfold r_X2_firstValue_u; first | simp only [if_neg h8] | rfl)), rfl⟩
def w_X2_dropFirst_u (c : CS) (i : Nat) : CS := if Int32.ofNat (c 13 i 0) ≤ Int32.ofNat (c 12 i 0) then c else (su3 c 12 i 0 ((c 12 i 0) + 1))
abbrev rm_X2_dropFirst_u : Room := { frames := 0, cells := 0, slots := 0, locals := 0 }
set_option maxHeartbeats 4000000 in
set_option maxRecDepth 100000 in
theorem k_X2_dropFirst_u (l : Launch) (D : va_G) (cI cS cZ : ClassId) (ad : Nat → Nat) (c : CS) (i : Nat) (h_i : i < 3) : gN l yX2_dropFirst (Cond.code yX2_dropFirst cX2_dropFirst 1 none :: tb) rm_X2_dropFirst_u D cls8 (tys3 cI cS cZ) [.ref (ad (2 + 22 * i + 5))] (cwld cI cS c ad) none (cwld cI cS (w_X2_dropFirst_u c i) ad) := by
  unfold gN
  refine g_head (by decide) rfl (Nat.le_of_ble_eq_true rfl) ?_
  intro p e s m args below meth cd A F hr hlk hnm
  refine g_eq rfl (L' := [(0, .ref (ad (2 + 22 * i + 5)))]) rfl rfl rfl ?_
  refine g_aload_n F dX2_dropFirst_0 0 rfl ?_
  refine f_get F inX2 (pl_RU h_i) rfl 2 (by decide) tb_71 rfl (v := .int (Int32.ofNat (c 12 i 0))) rfl dX2_dropFirst_1 ?_
  refine g_aload_n F dX2_dropFirst_4 0 rfl ?_
  refine f_get F inX2 (pl_RU h_i) rfl 3 (by decide) tb_72 rfl (v := .int (Int32.ofNat (c 13 i 0))) rfl dX2_dropFirst_5 ?_
  refine g_icmp_ge F dX2_dropFirst_8 (tgt := 21) rfl (fun h8 => ?_) (fun h8 => ?_)
  · exact g_vret F hr hlk dX2_dropFirst_21 ⟨rfl, congrArg (fun t => cwld cI cS t ad) (Eq.symm (by unfold w_X2_dropFirst_u; first | simp only [if_pos h8] | rfl))⟩
  · refine g_aload_n F dX2_dropFirst_11 0 rfl ?_
    refine g_dup F dX2_dropFirst_12 rfl ?_
    refine f_get F inX2 (pl_RU h_i) rfl 2 (by decide) tb_71 rfl (v := .int (Int32.ofNat (c 12 i 0))) rfl dX2_dropFirst_13 ?_
    refine f_iconst F 1 dX2_dropFirst_16 rfl ?_
    refine f_add F dX2_dropFirst_17 ?_
    refine f_put F inX2 tyX2_ok nmX2 (pl_RU h_i) rfl 2 (by decide) tb_71 rfl rfl rfl rfl (Nat.le_of_ble_eq_true rfl) dX2_dropFirst_18 (ps_12 h_i) ?_
    exact g_vret F hr hlk dX2_dropFirst_21 ⟨rfl, congrArg (fun t => cwld cI cS t ad) (Eq.symm (by unfold w_X2_dropFirst_u; first | simp only [if_neg h8] | rfl))⟩
def w_X2_clear_d (c : CS) (i : Nat) : CS := su3 (su3 c 14 i 0 0) 15 i 0 0
abbrev rm_X2_clear_d : Room := { frames := 0, cells := 0, slots := 0, locals := 0 }
set_option maxHeartbeats 4000000 in
set_option maxRecDepth 100000 in
theorem k_X2_clear_d (l : Launch) (D : va_G) (cI cS cZ : ClassId) (ad : Nat → Nat) (c : CS) (i : Nat) (h_i : i < 3) : gN l yX2_clear (Cond.code yX2_clear cX2_clear 1 none :: tb) rm_X2_clear_d D cls8 (tys3 cI cS cZ) [.ref (ad (2 + 22 * i + 6))] (cwld cI cS c ad) none (cwld cI cS (w_X2_clear_d c i) ad) := by
  unfold gN
  refine g_head (by decide) rfl (Nat.le_of_ble_eq_true rfl) ?_
  intro p e s m args below meth cd A F hr hlk hnm
  refine g_eq rfl (L' := [(0, .ref (ad (2 + 22 * i + 6)))]) rfl rfl rfl ?_
  refine g_aload_n F dX2_clear_0 0 rfl ?_
  refine f_iconst F 0 dX2_clear_1 rfl ?_
  refine f_put F inX2 tyX2_ok nmX2 (pl_RD h_i) rfl 2 (by decide) tb_71 rfl rfl rfl rfl (Nat.le_of_ble_eq_true rfl) dX2_clear_2 (ps_14 h_i) ?_
  refine g_aload_n F dX2_clear_5 0 rfl ?_
  refine f_iconst F 0 dX2_clear_6 rfl ?_
  refine f_put F inX2 tyX2_ok nmX2 (pl_RD h_i) rfl 3 (by decide) tb_72 rfl rfl rfl rfl (Nat.le_of_ble_eq_true rfl) dX2_clear_7 (ps_15 h_i) ?_
  exact g_vret F hr hlk dX2_clear_10 ⟨rfl, congrArg (fun t => cwld cI cS t ad) rfl⟩
def r_X2_count_d (c : CS) (i : Nat) : Nat := nc ((Int32.ofNat (c 15 i 0)) - (Int32.ofNat (c 14 i 0)))
abbrev rm_X2_count_d : Room := { frames := 0, cells := 0, slots := 0, locals := 0 }
set_option maxHeartbeats 4000000 in
set_option maxRecDepth 100000 in
theorem k_X2_count_d (l : Launch) (D : va_G) (cI cS cZ : ClassId) (ad : Nat → Nat) (c : CS) (i : Nat) (h_i : i < 3) : gN l yX2_count (Cond.code yX2_count cX2_count 1 (some .int) :: tb) rm_X2_count_d D cls8 (tys3 cI cS cZ) [.ref (ad (2 + 22 * i + 6))] (cwld cI cS c ad) (some (.int (Int32.ofNat (r_X2_count_d c i)))) (cwld cI cS c ad) := by
  unfold gN
  refine g_head (by decide) rfl (Nat.le_of_ble_eq_true rfl) ?_
  intro p e s m args below meth cd A F hr hlk hnm
  refine g_eq rfl (L' := [(0, .ref (ad (2 + 22 * i + 6)))]) rfl rfl rfl ?_
  refine g_aload_n F dX2_count_0 0 rfl ?_
  refine f_get F inX2 (pl_RD h_i) rfl 3 (by decide) tb_72 rfl (v := .int (Int32.ofNat (c 15 i 0))) rfl dX2_count_1 ?_
  refine g_aload_n F dX2_count_4 0 rfl ?_
  refine f_get F inX2 (pl_RD h_i) rfl 2 (by decide) tb_71 rfl (v := .int (Int32.ofNat (c 14 i 0))) rfl dX2_count_5 ?_
  refine g_isub F dX2_count_8 ?_
  refine f_code ?_
  exact g_iret F hr hlk dX2_count_9 ⟨congrArg (fun t => some (Value.int (Int32.ofNat t))) rfl, rfl⟩
def w_X2_send_d (c : CS) (i kd vl : Nat) : CS := if Int32.ofNat 51 ≤ Int32.ofNat (c 15 i 0) then c else (su3 (su3 (su3 c 32 i (c 15 i 0) kd) 33 i (c 15 i 0) vl) 15 i 0 ((c 15 i 0) + 1))
abbrev rm_X2_send_d : Room := { frames := 0, cells := 0, slots := 0, locals := 0 }
set_option maxHeartbeats 4000000 in
set_option maxRecDepth 100000 in
theorem k_X2_send_d (l : Launch) (D : va_G) (cI cS cZ : ClassId) (ad : Nat → Nat) (c : CS) (i kd vl : Nat) (h_i : i < 3) (hb : c 15 i 0 ≤ 51) : gN l yX2_send (Cond.code yX2_send cX2_send 3 none :: tb) rm_X2_send_d D cls8 (tys3 cI cS cZ) [.ref (ad (2 + 22 * i + 6)), .int (Int32.ofNat kd), .int (Int32.ofNat vl)] (cwld cI cS c ad) none (cwld cI cS (w_X2_send_d c i kd vl) ad) := by
  unfold gN
  refine g_head (by decide) rfl (Nat.le_of_ble_eq_true rfl) ?_
  intro p e s m args below meth cd A F hr hlk hnm
  refine g_eq rfl (L' := [(0, .ref (ad (2 + 22 * i + 6))), (1, .int (Int32.ofNat kd)), (2, .int (Int32.ofNat vl))]) rfl rfl rfl ?_
  refine g_aload_n F dX2_send_0 0 rfl ?_
  refine f_get F inX2 (pl_RD h_i) rfl 3 (by decide) tb_72 rfl (v := .int (Int32.ofNat (c 15 i 0))) rfl dX2_send_1 ?_
  refine g_aload_n F dX2_send_4 0 rfl ?_
  refine f_get F inX2 (pl_RD h_i) rfl 0 (by decide) tb_69 rfl (v := .ref (ad (2 + 22 * i + 19))) rfl dX2_send_5 ?_
  refine g_alen F _ 0 (pl_32 h_i) rfl (v := Int32.ofNat 51) rfl dX2_send_8 ?_
  refine g_icmp_ge F dX2_send_9 (tgt := 42) rfl (fun h9 => ?_) (fun h9 => ?_)
  · exact g_vret F hr hlk dX2_send_42 ⟨rfl, congrArg (fun t => cwld cI cS t ad) (Eq.symm (by unfold w_X2_send_d; first | simp only [if_pos h9] | rfl))⟩
  · refine g_aload_n F dX2_send_12 0 rfl ?_
    refine f_get F inX2 (pl_RD h_i) rfl 0 (by decide) tb_69 rfl (v := .ref (ad (2 + 22 * i + 19))) rfl dX2_send_13 ?_
    refine g_aload_n F dX2_send_16 0 rfl ?_
    refine f_get F inX2 (pl_RD h_i) rfl 3 (by decide) tb_72 rfl (v := .int (Int32.ofNat (c 15 i 0))) rfl dX2_send_17 ?_
    refine g_iload_n F dX2_send_20 1 rfl ?_
    refine f_ast F 0 (pl_32 h_i) rfl (j := c 15 i 0) (v := kd) (lt_of_nle h9 (by decide) (by omega)) (by decide) dX2_send_21 (ps_32 h_i) ?_
    refine g_aload_n F dX2_send_22 0 rfl ?_
    refine f_get F inX2 (pl_RD h_i) rfl 1 (by decide) tb_70 rfl (v := .ref (ad (2 + 22 * i + 20))) rfl dX2_send_23 ?_
    refine g_aload_n F dX2_send_26 0 rfl ?_
    refine f_get F inX2 (pl_RD h_i) rfl 3 (by decide) tb_72 rfl (v := .int (Int32.ofNat (c 15 i 0))) rfl dX2_send_27 ?_
    refine g_iload_n F dX2_send_30 2 rfl ?_
    refine f_ast F 0 (pl_33 h_i) rfl (j := c 15 i 0) (v := vl) (lt_of_nle h9 (by decide) (by omega)) (by decide) dX2_send_31 (ps_33 h_i) ?_
    refine g_aload_n F dX2_send_32 0 rfl ?_
    refine g_dup F dX2_send_33 rfl ?_
    refine f_get F inX2 (pl_RD h_i) rfl 3 (by decide) tb_72 rfl (v := .int (Int32.ofNat (c 15 i 0))) rfl dX2_send_34 ?_
    refine f_iconst F 1 dX2_send_37 rfl ?_
    refine f_add F dX2_send_38 ?_
    refine f_put F inX2 tyX2_ok nmX2 (pl_RD h_i) rfl 3 (by decide) tb_72 rfl rfl rfl rfl (Nat.le_of_ble_eq_true rfl) dX2_send_39 (ps_15 h_i) ?_
    exact g_vret F hr hlk dX2_send_42 ⟨rfl, congrArg (fun t => cwld cI cS t ad) (Eq.symm (by unfold w_X2_send_d; first | simp only [if_neg h9] | rfl))⟩
def r_X2_firstKind_d (c : CS) (i : Nat) : Nat := if Int32.ofNat (c 15 i 0) ≤ Int32.ofNat (c 14 i 0) then 0 else (c 32 i (c 14 i 0))
abbrev rm_X2_firstKind_d : Room := { frames := 0, cells := 0, slots := 0, locals := 0 }
set_option maxHeartbeats 4000000 in
set_option maxRecDepth 100000 in
theorem k_X2_firstKind_d (l : Launch) (D : va_G) (cI cS cZ : ClassId) (ad : Nat → Nat) (c : CS) (i : Nat) (h_i : i < 3) (hb : c 15 i 0 ≤ 51) (hb2 : c 14 i 0 ≤ 51) : gN l yX2_firstKind (Cond.code yX2_firstKind cX2_firstKind 1 (some .int) :: tb) rm_X2_firstKind_d D cls8 (tys3 cI cS cZ) [.ref (ad (2 + 22 * i + 6))] (cwld cI cS c ad) (some (.int (Int32.ofNat (r_X2_firstKind_d c i)))) (cwld cI cS c ad) := by
  unfold gN
  refine g_head (by decide) rfl (Nat.le_of_ble_eq_true rfl) ?_
  intro p e s m args below meth cd A F hr hlk hnm
  refine g_eq rfl (L' := [(0, .ref (ad (2 + 22 * i + 6)))]) rfl rfl rfl ?_
  refine g_aload_n F dX2_firstKind_0 0 rfl ?_
  refine f_get F inX2 (pl_RD h_i) rfl 2 (by decide) tb_71 rfl (v := .int (Int32.ofNat (c 14 i 0))) rfl dX2_firstKind_1 ?_
  refine g_aload_n F dX2_firstKind_4 0 rfl ?_
  refine f_get F inX2 (pl_RD h_i) rfl 3 (by decide) tb_72 rfl (v := .int (Int32.ofNat (c 15 i 0))) rfl dX2_firstKind_5 ?_
  refine g_icmp_ge F dX2_firstKind_8 (tgt := 23) rfl (fun h8 => ?_) (fun h8 => ?_)
  · refine f_iconst F 0 dX2_firstKind_23 rfl ?_
    exact g_iret F hr hlk dX2_firstKind_24 ⟨congrArg (fun t => some (Value.int (Int32.ofNat t))) (Eq.symm (by unfold r_X2_firstKind_d; first | simp only [if_pos h8] | rfl)), rfl⟩
  · refine g_aload_n F dX2_firstKind_11 0 rfl ?_
    refine f_get F inX2 (pl_RD h_i) rfl 0 (by decide) tb_69 rfl (v := .ref (ad (2 + 22 * i + 19))) rfl dX2_firstKind_12 ?_
    refine g_aload_n F dX2_firstKind_15 0 rfl ?_
    refine f_get F inX2 (pl_RD h_i) rfl 2 (by decide) tb_71 rfl (v := .int (Int32.ofNat (c 14 i 0))) rfl dX2_firstKind_16 ?_
    refine f_ald F 0 (pl_32 h_i) rfl (j := c 14 i 0) (Nat.lt_of_lt_of_le (lt_of_nle h8 (by omega) (by omega)) hb) (by decide) dX2_firstKind_19 ?_
    refine g_goto F dX2_firstKind_20 (tgt := 24) rfl ?_
    exact g_iret F hr hlk dX2_firstKind_24 ⟨congrArg (fun t => some (Value.int (Int32.ofNat t))) (Eq.symm (by unfold r_X2_firstKind_d; first | simp only [if_neg h8] | rfl)), rfl⟩
def r_X2_firstValue_d (c : CS) (i : Nat) : Nat := if Int32.ofNat (c 15 i 0) ≤ Int32.ofNat (c 14 i 0) then 0 else (c 33 i (c 14 i 0))
abbrev rm_X2_firstValue_d : Room := { frames := 0, cells := 0, slots := 0, locals := 0 }
set_option maxHeartbeats 4000000 in
set_option maxRecDepth 100000 in
theorem k_X2_firstValue_d (l : Launch) (D : va_G) (cI cS cZ : ClassId) (ad : Nat → Nat) (c : CS) (i : Nat) (h_i : i < 3) (hb : c 15 i 0 ≤ 51) (hb2 : c 14 i 0 ≤ 51) : gN l yX2_firstValue (Cond.code yX2_firstValue cX2_firstValue 1 (some .int) :: tb) rm_X2_firstValue_d D cls8 (tys3 cI cS cZ) [.ref (ad (2 + 22 * i + 6))] (cwld cI cS c ad) (some (.int (Int32.ofNat (r_X2_firstValue_d c i)))) (cwld cI cS c ad) := by
  unfold gN
  refine g_head (by decide) rfl (Nat.le_of_ble_eq_true rfl) ?_
  intro p e s m args below meth cd A F hr hlk hnm
  refine g_eq rfl (L' := [(0, .ref (ad (2 + 22 * i + 6)))]) rfl rfl rfl ?_
  refine g_aload_n F dX2_firstValue_0 0 rfl ?_
  refine f_get F inX2 (pl_RD h_i) rfl 2 (by decide) tb_71 rfl (v := .int (Int32.ofNat (c 14 i 0))) rfl dX2_firstValue_1 ?_
  refine g_aload_n F dX2_firstValue_4 0 rfl ?_
  refine f_get F inX2 (pl_RD h_i) rfl 3 (by decide) tb_72 rfl (v := .int (Int32.ofNat (c 15 i 0))) rfl dX2_firstValue_5 ?_
  refine g_icmp_ge F dX2_firstValue_8 (tgt := 23) rfl (fun h8 => ?_) (fun h8 => ?_)
  · refine f_iconst F 0 dX2_firstValue_23 rfl ?_
    exact g_iret F hr hlk dX2_firstValue_24 ⟨congrArg (fun t => some (Value.int (Int32.ofNat t))) (Eq.symm (by unfold r_X2_firstValue_d; first | simp only [if_pos h8] | rfl)), rfl⟩
  · refine g_aload_n F dX2_firstValue_11 0 rfl ?_
    refine f_get F inX2 (pl_RD h_i) rfl 1 (by decide) tb_70 rfl (v := .ref (ad (2 + 22 * i + 20))) rfl dX2_firstValue_12 ?_
    refine g_aload_n F dX2_firstValue_15 0 rfl ?_
    refine f_get F inX2 (pl_RD h_i) rfl 2 (by decide) tb_71 rfl (v := .int (Int32.ofNat (c 14 i 0))) rfl dX2_firstValue_16 ?_
    refine f_ald F 0 (pl_33 h_i) rfl (j := c 14 i 0) (Nat.lt_of_lt_of_le (lt_of_nle h8 (by omega) (by omega)) hb) (by decide) dX2_firstValue_19 ?_
    refine g_goto F dX2_firstValue_20 (tgt := 24) rfl ?_
    exact g_iret F hr hlk dX2_firstValue_24 ⟨congrArg (fun t => some (Value.int (Int32.ofNat t))) (Eq.symm (by unfold r_X2_firstValue_d; first | simp only [if_neg h8] | rfl)), rfl⟩
def w_X2_dropFirst_d (c : CS) (i : Nat) : CS := if Int32.ofNat (c 15 i 0) ≤ Int32.ofNat (c 14 i 0) then c else (su3 c 14 i 0 ((c 14 i 0) + 1))
abbrev rm_X2_dropFirst_d : Room := { frames := 0, cells := 0, slots := 0, locals := 0 }
set_option maxHeartbeats 4000000 in
set_option maxRecDepth 100000 in
theorem k_X2_dropFirst_d (l : Launch) (D : va_G) (cI cS cZ : ClassId) (ad : Nat → Nat) (c : CS) (i : Nat) (h_i : i < 3) : gN l yX2_dropFirst (Cond.code yX2_dropFirst cX2_dropFirst 1 none :: tb) rm_X2_dropFirst_d D cls8 (tys3 cI cS cZ) [.ref (ad (2 + 22 * i + 6))] (cwld cI cS c ad) none (cwld cI cS (w_X2_dropFirst_d c i) ad) := by
  unfold gN
  refine g_head (by decide) rfl (Nat.le_of_ble_eq_true rfl) ?_
  intro p e s m args below meth cd A F hr hlk hnm
  refine g_eq rfl (L' := [(0, .ref (ad (2 + 22 * i + 6)))]) rfl rfl rfl ?_
  refine g_aload_n F dX2_dropFirst_0 0 rfl ?_
  refine f_get F inX2 (pl_RD h_i) rfl 2 (by decide) tb_71 rfl (v := .int (Int32.ofNat (c 14 i 0))) rfl dX2_dropFirst_1 ?_
  refine g_aload_n F dX2_dropFirst_4 0 rfl ?_
  refine f_get F inX2 (pl_RD h_i) rfl 3 (by decide) tb_72 rfl (v := .int (Int32.ofNat (c 15 i 0))) rfl dX2_dropFirst_5 ?_
  refine g_icmp_ge F dX2_dropFirst_8 (tgt := 21) rfl (fun h8 => ?_) (fun h8 => ?_)
  · exact g_vret F hr hlk dX2_dropFirst_21 ⟨rfl, congrArg (fun t => cwld cI cS t ad) (Eq.symm (by unfold w_X2_dropFirst_d; first | simp only [if_pos h8] | rfl))⟩
  · refine g_aload_n F dX2_dropFirst_11 0 rfl ?_
    refine g_dup F dX2_dropFirst_12 rfl ?_
    refine f_get F inX2 (pl_RD h_i) rfl 2 (by decide) tb_71 rfl (v := .int (Int32.ofNat (c 14 i 0))) rfl dX2_dropFirst_13 ?_
    refine f_iconst F 1 dX2_dropFirst_16 rfl ?_
    refine f_add F dX2_dropFirst_17 ?_
    refine f_put F inX2 tyX2_ok nmX2 (pl_RD h_i) rfl 2 (by decide) tb_71 rfl rfl rfl rfl (Nat.le_of_ble_eq_true rfl) dX2_dropFirst_18 (ps_14 h_i) ?_
    exact g_vret F hr hlk dX2_dropFirst_21 ⟨rfl, congrArg (fun t => cwld cI cS t ad) (Eq.symm (by unfold w_X2_dropFirst_d; first | simp only [if_neg h8] | rfl))⟩
