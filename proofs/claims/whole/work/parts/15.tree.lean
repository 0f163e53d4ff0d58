def w_X5_clear (c : CS) (i : Nat) : CS := su3 (su3 c 7 i 0 0) 8 i 0 0
abbrev rm_X5_clear : Room := { frames := 0, cells := 0, slots := 0, locals := 0 }
set_option maxHeartbeats 4000000 in
set_option maxRecDepth 100000 in
theorem k_X5_clear (l : Launch) (D : va_G) (cI cS cZ : ClassId) (ad : Nat → Nat) (c : CS) (i : Nat) (h_i : i < 3) : gN l yX5_clear (Cond.code yX5_clear cX5_clear 1 none :: tb) rm_X5_clear D cls8 (tys3 cI cS cZ) [.ref (ad (2 + 22 * i + 2))] (cwld cI cS c ad) none (cwld cI cS (w_X5_clear c i) ad) := by
  unfold gN
  refine g_head (by decide) rfl (Nat.le_of_ble_eq_true rfl) ?_
  intro p e s m args below meth cd A F hr hlk hnm
  refine g_eq rfl (L' := [(0, .ref (ad (2 + 22 * i + 2)))]) rfl rfl rfl ?_
  refine g_aload_n F dX5_clear_0 0 rfl ?_
  refine f_iconst F 0 dX5_clear_1 rfl ?_
  refine f_put F inX5 tyX5_ok nmX5 (pl_TR h_i) rfl 4 (by decide) tb_51 rfl rfl rfl rfl (Nat.le_of_ble_eq_true rfl) dX5_clear_2 (ps_7 h_i) ?_
  refine g_aload_n F dX5_clear_5 0 rfl ?_
  refine f_iconst F 0 dX5_clear_6 rfl ?_
  refine f_put F inX5 tyX5_ok nmX5 (pl_TR h_i) rfl 5 (by decide) tb_52 rfl rfl rfl rfl (Nat.le_of_ble_eq_true rfl) dX5_clear_7 (ps_8 h_i) ?_
  exact g_vret F hr hlk dX5_clear_10 ⟨rfl, congrArg (fun t => cwld cI cS t ad) rfl⟩
def r_X5_summary (c : CS) (i : Nat) : Nat := (c 7 i 0) + (64 * (c 8 i 0))
abbrev rm_X5_summary : Room := { frames := 0, cells := 0, slots := 0, locals := 0 }
set_option maxHeartbeats 4000000 in
set_option maxRecDepth 100000 in
theorem k_X5_summary (l : Launch) (D : va_G) (cI cS cZ : ClassId) (ad : Nat → Nat) (c : CS) (i : Nat) (h_i : i < 3) : gN l yX5_summary (Cond.code yX5_summary cX5_summary 1 (some .int) :: tb) rm_X5_summary D cls8 (tys3 cI cS cZ) [.ref (ad (2 + 22 * i + 2))] (cwld cI cS c ad) (some (.int (Int32.ofNat (r_X5_summary c i)))) (cwld cI cS c ad) := by
  unfold gN
  refine g_head (by decide) rfl (Nat.le_of_ble_eq_true rfl) ?_
  intro p e s m args below meth cd A F hr hlk hnm
  refine g_eq rfl (L' := [(0, .ref (ad (2 + 22 * i + 2)))]) rfl rfl rfl ?_
  refine g_aload_n F dX5_summary_0 0 rfl ?_
  refine f_get F inX5 (pl_TR h_i) rfl 4 (by decide) tb_51 rfl (v := .int (Int32.ofNat (c 7 i 0))) rfl dX5_summary_1 ?_
  refine f_bipush F 64 dX5_summary_4 rfl ?_
  refine g_aload_n F dX5_summary_6 0 rfl ?_
  refine f_get F inX5 (pl_TR h_i) rfl 5 (by decide) tb_52 rfl (v := .int (Int32.ofNat (c 8 i 0))) rfl dX5_summary_7 ?_
  refine f_mul F dX5_summary_10 ?_
  refine f_add F dX5_summary_11 ?_
  exact g_iret F hr hlk dX5_summary_12 ⟨congrArg (fun t => some (Value.int (Int32.ofNat t))) rfl, rfl⟩
def r_X5_isOpen (c : CS) (i v : Nat) : Nat := if Int32.ofNat (r_X6_isSession c v) = 0 then 0 else (if Int32.ofNat (nc ((Int32.ofNat (c 8 i 0)) &&& (Int32.ofNat (nc ((Int32.ofNat 1) <<< ((Int32.ofNat v) &&& 31)))))) = 0 then 0 else 1)
abbrev rm_X5_isOpen : Room := { frames := 1, cells := 0, slots := 0, locals := 20 }
set_option maxHeartbeats 4000000 in
set_option maxRecDepth 100000 in
theorem k_X5_isOpen (l : Launch) (D : va_G) (cI cS cZ : ClassId) (ad : Nat → Nat) (c : CS) (i v : Nat) (h_i : i < 3) : gN l yX5_isOpen (Cond.code yX5_isOpen cX5_isOpen 2 (some .boolean) :: tb) rm_X5_isOpen D cls8 (tys3 cI cS cZ) [.ref (ad (2 + 22 * i + 2)), .int (Int32.ofNat v)] (cwld cI cS c ad) (some (.int (Int32.ofNat (r_X5_isOpen c i v)))) (cwld cI cS c ad) := by
  unfold gN
  refine g_head (by decide) rfl (Nat.le_of_ble_eq_true rfl) ?_
  intro p e s m args below meth cd A F hr hlk hnm
  refine g_eq rfl (L' := [(0, .ref (ad (2 + 22 * i + 2))), (1, .int (Int32.ofNat v))]) rfl rfl rfl ?_
  refine g_iload_n F dX5_isOpen_0 1 rfl ?_
  refine f_callSN F (av := [.int (Int32.ofNat v)]) (rest := []) (st' := [.int (Int32.ofNat (r_X6_isSession c v))]) (k_X6_isSession l D cI cS cZ ad c v) tb_234 nb_47 tb_233 tb_1 hdX6_isSession ⟨rfl, rfl⟩ ⟨Nat.le_of_ble_eq_true rfl, Nat.le_of_ble_eq_true rfl⟩ cw_adr rfl rfl (Nat.le_of_ble_eq_true rfl) ⟨Nat.le_refl _, Nat.le_refl _⟩ dX5_isOpen_1 rfl ?_
  refine g_if_eq F dX5_isOpen_4 (tgt := 22) rfl (fun h4 => ?_) (fun h4 => ?_)
  · refine f_iconst F 0 dX5_isOpen_22 rfl ?_
    exact g_zret F hr hlk rfl dX5_isOpen_23 ⟨congrArg (fun t => some (Value.int (Int32.ofNat t))) (Eq.symm (by unfold r_X5_isOpen; first | simp only [if_pos h4] | rfl)), rfl⟩
  · refine g_aload_n F dX5_isOpen_7 0 rfl ?_
    refine f_get F inX5 (pl_TR h_i) rfl 5 (by decide) tb_52 rfl (v := .int (Int32.ofNat (c 8 i 0))) rfl dX5_isOpen_8 ?_
    refine f_iconst F 1 dX5_isOpen_11 rfl ?_
    refine g_iload_n F dX5_isOpen_12 1 rfl ?_
    refine g_ishl F dX5_isOpen_13 ?_
    refine f_code ?_
    refine g_iand F dX5_isOpen_14 ?_
    refine f_code ?_
    refine g_if_eq F dX5_isOpen_15 (tgt := 22) rfl (fun h15 => ?_) (fun h15 => ?_)
    · refine f_iconst F 0 dX5_isOpen_22 rfl ?_
      exact g_zret F hr hlk rfl dX5_isOpen_23 ⟨congrArg (fun t => some (Value.int (Int32.ofNat t))) (Eq.symm (by unfold r_X5_isOpen; first | simp only [if_neg h4, if_pos h15] | rfl)), rfl⟩
    · refine f_iconst F 1 dX5_isOpen_18 rfl ?_
      refine g_goto F dX5_isOpen_19 (tgt := 23) rfl ?_
      exact g_zret F hr hlk rfl dX5_isOpen_23 ⟨congrArg (fun t => some (Value.int (Int32.ofNat t))) (Eq.symm (by unfold r_X5_isOpen; first | simp only [if_neg h4, if_neg h15] | rfl)), rfl⟩
def lpr_X5_find_2 (c : CS) (i pa : Nat) : Nat → Nat → Nat
  | 0, k => 4294967295
  | d + 1, k => if Int32.ofNat (c 26 i k) = Int32.ofNat pa then k else (lpr_X5_find_2 c i pa d (k + 1))
def r_X5_find (c : CS) (i pa : Nat) : Nat := lpr_X5_find_2 c i pa (c 7 i 0) 0
abbrev rm_X5_find : Room := { frames := 0, cells := 0, slots := 0, locals := 0 }
set_option maxHeartbeats 4000000 in
set_option maxRecDepth 100000 in
theorem k_X5_find (l : Launch) (D : va_G) (cI cS cZ : ClassId) (ad : Nat → Nat) (c : CS) (i pa : Nat) (h_i : i < 3) (hb : c 7 i 0 ≤ 24) : gN l yX5_find (Cond.code yX5_find cX5_find 3 (some .int) :: tb) rm_X5_find D cls8 (tys3 cI cS cZ) [.ref (ad (2 + 22 * i + 2)), .int (Int32.ofNat pa)] (cwld cI cS c ad) (some (.int (Int32.ofNat (r_X5_find c i pa)))) (cwld cI cS c ad) := by
  unfold gN
  refine g_head (by decide) rfl (Nat.le_of_ble_eq_true rfl) ?_
  intro p e s m args below meth cd A F hr hlk hnm
  refine g_eq rfl (L' := [(0, .ref (ad (2 + 22 * i + 2))), (1, .int (Int32.ofNat pa))]) rfl rfl rfl ?_
  refine f_iconst F 0 dX5_find_0 rfl ?_
  refine g_istore_n F [(2, .int (Int32.ofNat 0)), (0, .ref (ad (2 + 22 * i + 2))), (1, .int (Int32.ofNat pa))] dX5_find_1 (by decide) rfl ?_
  have loop2 : ∀ (d k : Nat), (k + d = c 7 i 0) → r_X5_find c i pa = lpr_X5_find_2 c i pa d k → gw p l e (headSpec (Cond.code yX5_find cX5_find 3 (some .int) :: tb) rm_X5_find).room s m args below meth cd 3 D cls8 A (MQ below (gQ D cls8 (tys3 cI cS cZ) (fun v w => v = (some (.int (Int32.ofNat (r_X5_find c i pa)))) ∧ w = cwld cI cS c ad) A) args s 0 0 A) 0 0 2 [(2, .int (Int32.ofNat k)), (0, .ref (ad (2 + 22 * i + 2))), (1, .int (Int32.ofNat pa))] [] (cwld cI cS c ad) := by
    intro d
    induction d with
    | zero =>
      intro k hk Er
      refine g_iload_n F dX5_find_2 0 rfl ?_
      refine g_aload_n F dX5_find_3 1 rfl ?_
      refine f_get F inX5 (pl_TR h_i) rfl 4 (by decide) tb_51 rfl (v := .int (Int32.ofNat (c 7 i 0))) rfl dX5_find_4 ?_
      refine g_icmp_ge F dX5_find_7 (tgt := 28) rfl (fun h7 => ?_) (fun h7 => ?_)
      rotate_left
      · exact absurd h7 (by rw [ofN_le (by omega) (by omega)]; omega)
      refine f_iconst F 4294967295 dX5_find_28 rfl ?_
      exact g_iret F hr hlk dX5_find_29 ⟨congrArg (fun t => some (Value.int (Int32.ofNat t))) (Eq.symm (Er.trans (by simp only [lpr_X5_find_2]))), rfl⟩
    | succ d ih =>
      intro k hk Er
      refine g_iload_n F dX5_find_2 0 rfl ?_
      refine g_aload_n F dX5_find_3 1 rfl ?_
      refine f_get F inX5 (pl_TR h_i) rfl 4 (by decide) tb_51 rfl (v := .int (Int32.ofNat (c 7 i 0))) rfl dX5_find_4 ?_
      refine g_icmp_ge F dX5_find_7 (tgt := 28) rfl (fun h7 => ?_) (fun h7 => ?_)
      · exact absurd h7 (by rw [ofN_le (by omega) (by omega)]; omega)
      refine g_aload_n F dX5_find_10 1 rfl ?_
      refine f_get F inX5 (pl_TR h_i) rfl 0 (by decide) tb_47 rfl (v := .ref (ad (2 + 22 * i + 13))) rfl dX5_find_11 ?_
      refine g_iload_n F dX5_find_14 0 rfl ?_
      refine f_ald F 0 (pl_26 h_i) rfl (j := k) (by omega) (by decide) dX5_find_15 ?_
      refine g_iload_n F dX5_find_16 2 rfl ?_
      refine g_icmp_ne F dX5_find_17 (tgt := 22) rfl (fun h17 => ?_) (fun h17 => ?_)
      · refine f_iinc F (k + 1) [(2, .int (Int32.ofNat (k + 1))), (0, .ref (ad (2 + 22 * i + 2))), (1, .int (Int32.ofNat pa))] dX5_find_22 0 rfl (ofN_inc _) (by decide) rfl ?_
        refine g_goto F dX5_find_25 (tgt := 2) rfl ?_
        exact ih (k + 1) (by omega) (Er.trans (by simp only [lpr_X5_find_2, if_neg h17]))
      · refine g_iload_n F dX5_find_20 0 rfl ?_
        exact g_iret F hr hlk dX5_find_21 ⟨congrArg (fun t => some (Value.int (Int32.ofNat t))) (Eq.symm (Er.trans (by simp only [lpr_X5_find_2, if_pos h17]))), rfl⟩
  exact loop2 (c 7 i 0) 0 (Nat.zero_add _) rfl
def lpn_X5_countChildren_4 (c : CS) (i pa : Nat) : Nat → Nat → Nat → Nat
  | 0, k, n => n
  | d + 1, k, n => if Int32.ofNat (nc ((Int32.ofNat (c 26 i k)) / (Int32.ofNat 8))) = Int32.ofNat pa then (lpn_X5_countChildren_4 c i pa d (k + 1) (n + 1)) else (lpn_X5_countChildren_4 c i pa d (k + 1) n)
def r_X5_countChildren (c : CS) (i pa : Nat) : Nat := lpn_X5_countChildren_4 c i pa (c 7 i 0) 0 0
abbrev rm_X5_countChildren : Room := { frames := 0, cells := 0, slots := 0, locals := 0 }
set_option maxHeartbeats 4000000 in
set_option maxRecDepth 100000 in
theorem k_X5_countChildren (l : Launch) (D : va_G) (cI cS cZ : ClassId) (ad : Nat → Nat) (c : CS) (i pa : Nat) (h_i : i < 3) (hb : c 7 i 0 ≤ 24) : gN l yX5_countChildren (Cond.code yX5_countChildren cX5_countChildren 4 (some .int) :: tb) rm_X5_countChildren D cls8 (tys3 cI cS cZ) [.ref (ad (2 + 22 * i + 2)), .int (Int32.ofNat pa)] (cwld cI cS c ad) (some (.int (Int32.ofNat (r_X5_countChildren c i pa)))) (cwld cI cS c ad) := by
  unfold gN
  refine g_head (by decide) rfl (Nat.le_of_ble_eq_true rfl) ?_
  intro p e s m args below meth cd A F hr hlk hnm
  refine g_eq rfl (L' := [(0, .ref (ad (2 + 22 * i + 2))), (1, .int (Int32.ofNat pa))]) rfl rfl rfl ?_
  refine f_iconst F 0 dX5_countChildren_0 rfl ?_
  refine g_istore_n F [(2, .int (Int32.ofNat 0)), (0, .ref (ad (2 + 22 * i + 2))), (1, .int (Int32.ofNat pa))] dX5_countChildren_1 (by decide) rfl ?_
  refine f_iconst F 0 dX5_countChildren_2 rfl ?_
  refine g_istore_n F [(3, .int (Int32.ofNat 0)), (2, .int (Int32.ofNat 0)), (0, .ref (ad (2 + 22 * i + 2))), (1, .int (Int32.ofNat pa))] dX5_countChildren_3 (by decide) rfl ?_
  have loop4 : ∀ (Q : State → Prop) (d k n : Nat), (k + d = c 7 i 0) → gw p l e (headSpec (Cond.code yX5_countChildren cX5_countChildren 4 (some .int) :: tb) rm_X5_countChildren).room s m args below meth cd 4 D cls8 A Q 0 0 34 [(2, .int (Int32.ofNat (lpn_X5_countChildren_4 c i pa d k n))), (0, .ref (ad (2 + 22 * i + 2))), (1, .int (Int32.ofNat pa))] [] (cwld cI cS c ad) → gw p l e (headSpec (Cond.code yX5_countChildren cX5_countChildren 4 (some .int) :: tb) rm_X5_countChildren).room s m args below meth cd 4 D cls8 A Q 0 0 4 [(3, .int (Int32.ofNat k)), (2, .int (Int32.ofNat n)), (0, .ref (ad (2 + 22 * i + 2))), (1, .int (Int32.ofNat pa))] [] (cwld cI cS c ad) := by
    intro Q d
    induction d with
    | zero =>
      intro k n hk K
      refine g_iload_n F dX5_countChildren_4 0 rfl ?_
      refine g_aload_n F dX5_countChildren_5 2 rfl ?_
      refine f_get F inX5 (pl_TR h_i) rfl 4 (by decide) tb_51 rfl (v := .int (Int32.ofNat (c 7 i 0))) rfl dX5_countChildren_6 ?_
      refine g_icmp_ge F dX5_countChildren_9 (tgt := 34) rfl (fun h9 => ?_) (fun h9 => ?_)
      rotate_left
      · exact absurd h9 (by rw [ofN_le (by omega) (by omega)]; omega)
      refine g_locals [(2, .int (Int32.ofNat n)), (0, .ref (ad (2 + 22 * i + 2))), (1, .int (Int32.ofNat pa))] [1, 2, 3] rfl ?_
      exact K
    | succ d ih =>
      intro k n hk K
      refine g_iload_n F dX5_countChildren_4 0 rfl ?_
      refine g_aload_n F dX5_countChildren_5 2 rfl ?_
      refine f_get F inX5 (pl_TR h_i) rfl 4 (by decide) tb_51 rfl (v := .int (Int32.ofNat (c 7 i 0))) rfl dX5_countChildren_6 ?_
      refine g_icmp_ge F dX5_countChildren_9 (tgt := 34) rfl (fun h9 => ?_) (fun h9 => ?_)
      · exact absurd h9 (by rw [ofN_le (by omega) (by omega)]; omega)
      refine g_aload_n F dX5_countChildren_12 2 rfl ?_
      refine f_get F inX5 (pl_TR h_i) rfl 0 (by decide) tb_47 rfl (v := .ref (ad (2 + 22 * i + 13))) rfl dX5_countChildren_13 ?_
      refine g_iload_n F dX5_countChildren_16 0 rfl ?_
      refine f_ald F 0 (pl_26 h_i) rfl (j := k) (by omega) (by decide) dX5_countChildren_17 ?_
      refine f_bipush F 8 dX5_countChildren_18 rfl ?_
      refine g_idiv F dX5_countChildren_20 (by decide) ?_
      refine f_code ?_
      refine g_iload_n F dX5_countChildren_21 3 rfl ?_
      refine g_icmp_ne F dX5_countChildren_22 (tgt := 28) rfl (fun h22 => ?_) (fun h22 => ?_)
      · refine f_iinc F (k + 1) [(3, .int (Int32.ofNat (k + 1))), (2, .int (Int32.ofNat n)), (0, .ref (ad (2 + 22 * i + 2))), (1, .int (Int32.ofNat pa))] dX5_countChildren_28 0 rfl (ofN_inc _) (by decide) rfl ?_
        refine g_goto F dX5_countChildren_31 (tgt := 4) rfl ?_
        exact ih (k + 1) n (by omega) (g_eq rfl (by simp only [lpn_X5_countChildren_4, if_neg h22]) rfl rfl K)
      · refine f_iinc F (n + 1) [(2, .int (Int32.ofNat (n + 1))), (3, .int (Int32.ofNat k)), (0, .ref (ad (2 + 22 * i + 2))), (1, .int (Int32.ofNat pa))] dX5_countChildren_25 1 rfl (ofN_inc _) (by decide) rfl ?_
        refine f_iinc F (k + 1) [(3, .int (Int32.ofNat (k + 1))), (2, .int (Int32.ofNat (n + 1))), (0, .ref (ad (2 + 22 * i + 2))), (1, .int (Int32.ofNat pa))] dX5_countChildren_28 1 rfl (ofN_inc _) (by decide) rfl ?_
        refine g_goto F dX5_countChildren_31 (tgt := 4) rfl ?_
        exact ih (k + 1) (n + 1) (by omega) (g_eq rfl (by simp only [lpn_X5_countChildren_4, if_pos h22]) rfl rfl K)
  refine loop4 _ (c 7 i 0) 0 0 (Nat.zero_add _) ?_
  refine g_iload_n F dX5_countChildren_34 0 rfl ?_
  exact g_iret F hr hlk dX5_countChildren_35 ⟨congrArg (fun t => some (Value.int (Int32.ofNat t))) rfl, rfl⟩
def r_X5_lookAtRoot (c : CS) (i wh : Nat) : Nat := if Int32.ofNat wh = 0 then 1 else (if Int32.ofNat wh = Int32.ofNat 3 then (r_X5_countChildren c i 0) else 0)
abbrev rm_X5_lookAtRoot : Room := { frames := 1, cells := 0, slots := 0, locals := 23 }
set_option maxHeartbeats 4000000 in
set_option maxRecDepth 100000 in
theorem k_X5_lookAtRoot (l : Launch) (D : va_G) (cI cS cZ : ClassId) (ad : Nat → Nat) (c : CS) (i wh : Nat) (h_i : i < 3) (hb : c 7 i 0 ≤ 24) : gN l yX5_lookAtRoot (Cond.code yX5_lookAtRoot cX5_lookAtRoot 2 (some .int) :: tb) rm_X5_lookAtRoot D cls8 (tys3 cI cS cZ) [.ref (ad (2 + 22 * i + 2)), .int (Int32.ofNat wh)] (cwld cI cS c ad) (some (.int (Int32.ofNat (r_X5_lookAtRoot c i wh)))) (cwld cI cS c ad) := by
  unfold gN
  refine g_head (by decide) rfl (Nat.le_of_ble_eq_true rfl) ?_
  intro p e s m args below meth cd A F hr hlk hnm
  refine g_eq rfl (L' := [(0, .ref (ad (2 + 22 * i + 2))), (1, .int (Int32.ofNat wh))]) rfl rfl rfl ?_
  refine g_iload_n F dX5_lookAtRoot_0 1 rfl ?_
  refine g_if_ne F dX5_lookAtRoot_1 (tgt := 6) rfl (fun h1 => ?_) (fun h1 => ?_)
  · refine g_iload_n F dX5_lookAtRoot_6 1 rfl ?_
    refine f_iconst F 3 dX5_lookAtRoot_7 rfl ?_
    refine g_icmp_ne F dX5_lookAtRoot_8 (tgt := 19) rfl (fun h8 => ?_) (fun h8 => ?_)
    · refine f_iconst F 0 dX5_lookAtRoot_19 rfl ?_
      exact g_iret F hr hlk dX5_lookAtRoot_20 ⟨congrArg (fun t => some (Value.int (Int32.ofNat t))) (Eq.symm (by unfold r_X5_lookAtRoot; first | simp only [if_neg h1, if_neg h8] | rfl)), rfl⟩
    · refine g_aload_n F dX5_lookAtRoot_11 0 rfl ?_
      refine f_iconst F 0 dX5_lookAtRoot_12 rfl ?_
      refine f_callV F (As := [.int (Int32.ofNat 0)]) (rest := []) (st' := [.int (Int32.ofNat (r_X5_countChildren c i 0))]) (k_X5_countChildren l D cI cS cZ ad c i 0 h_i (by assumption)) (pl_TR h_i) rfl tb_249 tb_247 tb_248 tb_594 tb_4 ⟨rfl, hdX5_countChildren⟩ ⟨rfl, rfl⟩ ⟨Nat.le_of_ble_eq_true rfl, Nat.le_of_ble_eq_true rfl⟩ cw_adr rfl rfl (Nat.le_of_ble_eq_true rfl) ⟨Nat.le_refl _, Nat.le_refl _⟩ dX5_lookAtRoot_13 rfl ?_
      refine g_goto F dX5_lookAtRoot_16 (tgt := 20) rfl ?_
      exact g_iret F hr hlk dX5_lookAtRoot_20 ⟨congrArg (fun t => some (Value.int (Int32.ofNat t))) (Eq.symm (by unfold r_X5_lookAtRoot; first | simp only [if_neg h1, if_pos h8] | rfl)), rfl⟩
  · refine f_iconst F 1 dX5_lookAtRoot_4 rfl ?_
    exact g_iret F hr hlk dX5_lookAtRoot_5 ⟨congrArg (fun t => some (Value.int (Int32.ofNat t))) (Eq.symm (by unfold r_X5_lookAtRoot; first | simp only [if_pos h1] | rfl)), rfl⟩
