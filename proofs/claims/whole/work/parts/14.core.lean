theorem isServer1 {c : CS} {v : Nat} (h : ¬ Int32.ofNat (r_X6_isServer c v) = 0) (hk : v < 4294967296) : v < 3 := by
  unfold r_X6_isServer at h
  split at h
  · exact absurd rfl h
  · rename_i h1
    split at h
    · exact absurd rfl h
    · rename_i h2
      have g1 : ¬ Int32.ofNat v < Int32.ofNat 0 := h1
      have := code_ge g1 hk (by decide)
      exact lt_of_nle h2 (by decide) this.2
def r_X6_hasRole (c : CS) (v ro : Nat) : Nat := if Int32.ofNat (r_X6_isServer c v) = 0 then 0 else (if Int32.ofNat (c 3 v 0) = Int32.ofNat ro then 1 else 0)
abbrev rm_X6_hasRole : Room := { frames := 1, cells := 0, slots := 0, locals := 20 }
set_option maxHeartbeats 4000000 in
set_option maxRecDepth 100000 in
theorem k_X6_hasRole (l : Launch) (D : va_G) (cI cS cZ : ClassId) (ad : Nat → Nat) (c : CS) (v ro : Nat) (hk : v < 4294967296) : gN l yX6_hasRole (Cond.code yX6_hasRole cX6_hasRole 3 (some .boolean) :: tb) rm_X6_hasRole D cls8 (tys3 cI cS cZ) [.ref (ad 0), .int (Int32.ofNat v), .int (Int32.ofNat ro)] (cwld cI cS c ad) (some (.int (Int32.ofNat (r_X6_hasRole c v ro)))) (cwld cI cS c ad) := by
  unfold gN
  refine g_head (by decide) rfl (Nat.le_of_ble_eq_true rfl) ?_
  intro p e s m args below meth cd A F hr hlk hnm
  refine g_eq rfl (L' := [(0, .ref (ad 0)), (1, .int (Int32.ofNat v)), (2, .int (Int32.ofNat ro))]) rfl rfl rfl ?_
  refine g_iload_n F dX6_hasRole_0 1 rfl ?_
  refine f_callS F (av := [.int (Int32.ofNat v)]) (rest := []) (st' := [.int (Int32.ofNat (r_X6_isServer c v))]) (k_X6_isServer l D cI cS cZ ad c v) tb_130 tb_128 tb_129 tb_1 hdX6_isServer ⟨rfl, rfl⟩ ⟨Nat.le_of_ble_eq_true rfl, Nat.le_of_ble_eq_true rfl⟩ cw_adr rfl rfl (Nat.le_of_ble_eq_true rfl) ⟨Nat.le_refl _, Nat.le_refl _⟩ dX6_hasRole_1 rfl ?_
  refine g_if_eq F dX6_hasRole_4 (tgt := 24) rfl (fun h4 => ?_) (fun h4 => ?_)
  · refine f_iconst F 0 dX6_hasRole_24 rfl ?_
    exact g_zret F hr hlk rfl dX6_hasRole_25 ⟨congrArg (fun t => some (Value.int (Int32.ofNat t))) (Eq.symm (by unfold r_X6_hasRole; first | simp only [if_pos h4] | rfl)), rfl⟩
  · refine g_aload_n F dX6_hasRole_7 0 rfl ?_
    refine f_get F inX6 pl_ET rfl 0 (by decide) tb_119 rfl (v := .ref (ad 1)) rfl dX6_hasRole_8 ?_
    refine g_iload_n F dX6_hasRole_11 1 rfl ?_
    refine f_srv F (isServer1 h4 hk) dX6_hasRole_12 ?_
    refine f_getN F inX3 (pl_SV (isServer1 h4 hk)) rfl 4 (by decide) nb_26 rfl (v := .int (Int32.ofNat (c 3 v 0))) rfl dX6_hasRole_13 ?_
    refine g_iload_n F dX6_hasRole_16 2 rfl ?_
    refine g_icmp_ne F dX6_hasRole_17 (tgt := 24) rfl (fun h17 => ?_) (fun h17 => ?_)
    · refine f_iconst F 0 dX6_hasRole_24 rfl ?_
      exact g_zret F hr hlk rfl dX6_hasRole_25 ⟨congrArg (fun t => some (Value.int (Int32.ofNat t))) (Eq.symm (by unfold r_X6_hasRole; first | simp only [if_neg h4, if_neg h17] | rfl)), rfl⟩
    · refine f_iconst F 1 dX6_hasRole_20 rfl ?_
      refine g_goto F dX6_hasRole_21 (tgt := 25) rfl ?_
      exact g_zret F hr hlk rfl dX6_hasRole_25 ⟨congrArg (fun t => some (Value.int (Int32.ofNat t))) (Eq.symm (by unfold r_X6_hasRole; first | simp only [if_neg h4, if_pos h17] | rfl)), rfl⟩
def r_X6_leads (c : CS) (v : Nat) : Nat := if Int32.ofNat (r_X6_hasRole c v 3) = 0 then (if Int32.ofNat (r_X6_hasRole c v 4) = 0 then 0 else 1) else 1
abbrev rm_X6_leads : Room := { frames := 2, cells := 0, slots := 0, locals := 42 }
set_option maxHeartbeats 4000000 in
set_option maxRecDepth 100000 in
theorem k_X6_leads (l : Launch) (D : va_G) (cI cS cZ : ClassId) (ad : Nat → Nat) (c : CS) (v : Nat) (hk : v < 4294967296) : gN l yX6_leads (Cond.code yX6_leads cX6_leads 2 (some .boolean) :: tb) rm_X6_leads D cls8 (tys3 cI cS cZ) [.ref (ad 0), .int (Int32.ofNat v)] (cwld cI cS c ad) (some (.int (Int32.ofNat (r_X6_leads c v)))) (cwld cI cS c ad) := by
  unfold gN
  refine g_head (by decide) rfl (Nat.le_of_ble_eq_true rfl) ?_
  intro p e s m args below meth cd A F hr hlk hnm
  refine g_eq rfl (L' := [(0, .ref (ad 0)), (1, .int (Int32.ofNat v))]) rfl rfl rfl ?_
  refine g_aload_n F dX6_leads_0 0 rfl ?_
  refine g_iload_n F dX6_leads_1 1 rfl ?_
  refine f_iconst F 3 dX6_leads_2 rfl ?_
  refine f_callV F (As := [.int (Int32.ofNat v), .int (Int32.ofNat 3)]) (rest := []) (st' := [.int (Int32.ofNat (r_X6_hasRole c v 3))]) (k_X6_hasRole l D cI cS cZ ad c v 3 (by assumption)) pl_ET rfl tb_127 tb_125 tb_126 tb_564 tb_1 ⟨rfl, hdX6_hasRole⟩ ⟨rfl, rfl⟩ ⟨Nat.le_of_ble_eq_true rfl, Nat.le_of_ble_eq_true rfl⟩ cw_adr rfl rfl (Nat.le_of_ble_eq_true rfl) ⟨Nat.le_refl _, Nat.le_refl _⟩ dX6_leads_3 rfl ?_
  refine g_if_ne F dX6_leads_6 (tgt := 18) rfl (fun h6 => ?_) (fun h6 => ?_)
  · refine f_iconst F 1 dX6_leads_18 rfl ?_
    refine g_goto F dX6_leads_19 (tgt := 23) rfl ?_
    exact g_zret F hr hlk rfl dX6_leads_23 ⟨congrArg (fun t => some (Value.int (Int32.ofNat t))) (Eq.symm (by unfold r_X6_leads; first | simp only [if_neg h6] | rfl)), rfl⟩
  · refine g_aload_n F dX6_leads_9 0 rfl ?_
    refine g_iload_n F dX6_leads_10 1 rfl ?_
    refine f_iconst F 4 dX6_leads_11 rfl ?_
    refine f_callV F (As := [.int (Int32.ofNat v), .int (Int32.ofNat 4)]) (rest := []) (st' := [.int (Int32.ofNat (r_X6_hasRole c v 4))]) (k_X6_hasRole l D cI cS cZ ad c v 4 (by assumption)) pl_ET rfl tb_127 tb_125 tb_126 tb_564 tb_1 ⟨rfl, hdX6_hasRole⟩ ⟨rfl, rfl⟩ ⟨Nat.le_of_ble_eq_true rfl, Nat.le_of_ble_eq_true rfl⟩ cw_adr rfl rfl (Nat.le_of_ble_eq_true rfl) ⟨Nat.le_refl _, Nat.le_refl _⟩ dX6_leads_12 rfl ?_
    refine g_if_eq F dX6_leads_15 (tgt := 22) rfl (fun h15 => ?_) (fun h15 => ?_)
    · refine f_iconst F 0 dX6_leads_22 rfl ?_
      exact g_zret F hr hlk rfl dX6_leads_23 ⟨congrArg (fun t => some (Value.int (Int32.ofNat t))) (Eq.symm (by unfold r_X6_leads; first | simp only [if_pos h6, if_pos h15] | rfl)), rfl⟩
    · refine f_iconst F 1 dX6_leads_18 rfl ?_
      refine g_goto F dX6_leads_19 (tgt := 23) rfl ?_
      exact g_zret F hr hlk rfl dX6_leads_23 ⟨congrArg (fun t => some (Value.int (Int32.ofNat t))) (Eq.symm (by unfold r_X6_leads; first | simp only [if_pos h6, if_neg h15] | rfl)), rfl⟩
def r_X6_isFollowerOf (c : CS) (f g : Nat) : Nat := if Int32.ofNat (c 3 f 0) = Int32.ofNat 2 then (if Int32.ofNat (c 4 f 0) = Int32.ofNat (c 0 g 0) then 1 else 0) else 0
abbrev rm_X6_isFollowerOf : Room := { frames := 0, cells := 0, slots := 0, locals := 0 }
set_option maxHeartbeats 4000000 in
set_option maxRecDepth 100000 in
theorem k_X6_isFollowerOf (l : Launch) (D : va_G) (cI cS cZ : ClassId) (ad : Nat → Nat) (c : CS) (f g : Nat) (h_f : f < 3) (h_g : g < 3) : gN l yX6_isFollowerOf (Cond.code yX6_isFollowerOf cX6_isFollowerOf 2 (some .boolean) :: tb) rm_X6_isFollowerOf D cls8 (tys3 cI cS cZ) [.ref (ad (2 + 22 * f)), .ref (ad (2 + 22 * g))] (cwld cI cS c ad) (some (.int (Int32.ofNat (r_X6_isFollowerOf c f g)))) (cwld cI cS c ad) := by
  unfold gN
  refine g_head (by decide) rfl (Nat.le_of_ble_eq_true rfl) ?_
  intro p e s m args below meth cd A F hr hlk hnm
  refine g_eq rfl (L' := [(0, .ref (ad (2 + 22 * f))), (1, .ref (ad (2 + 22 * g)))]) rfl rfl rfl ?_
  refine g_aload_n F dX6_isFollowerOf_0 0 rfl ?_
  refine f_getN F inX3 (pl_SV h_f) rfl 4 (by decide) nb_26 rfl (v := .int (Int32.ofNat (c 3 f 0))) rfl dX6_isFollowerOf_1 ?_
  refine f_iconst F 2 dX6_isFollowerOf_4 rfl ?_
  refine g_icmp_ne F dX6_isFollowerOf_5 (tgt := 23) rfl (fun h5 => ?_) (fun h5 => ?_)
  · refine f_iconst F 0 dX6_isFollowerOf_23 rfl ?_
    exact g_zret F hr hlk rfl dX6_isFollowerOf_24 ⟨congrArg (fun t => some (Value.int (Int32.ofNat t))) (Eq.symm (by unfold r_X6_isFollowerOf; first | simp only [if_neg h5] | rfl)), rfl⟩
  · refine g_aload_n F dX6_isFollowerOf_8 0 rfl ?_
    refine f_getN F inX3 (pl_SV h_f) rfl 5 (by decide) nb_27 rfl (v := .int (Int32.ofNat (c 4 f 0))) rfl dX6_isFollowerOf_9 ?_
    refine g_aload_n F dX6_isFollowerOf_12 1 rfl ?_
    refine f_getN F inX3 (pl_SV h_g) rfl 0 (by decide) nb_22 rfl (v := .int (Int32.ofNat (c 0 g 0))) rfl dX6_isFollowerOf_13 ?_
    refine g_icmp_ne F dX6_isFollowerOf_16 (tgt := 23) rfl (fun h16 => ?_) (fun h16 => ?_)
    · refine f_iconst F 0 dX6_isFollowerOf_23 rfl ?_
      exact g_zret F hr hlk rfl dX6_isFollowerOf_24 ⟨congrArg (fun t => some (Value.int (Int32.ofNat t))) (Eq.symm (by unfold r_X6_isFollowerOf; first | simp only [if_pos h5, if_neg h16] | rfl)), rfl⟩
    · refine f_iconst F 1 dX6_isFollowerOf_19 rfl ?_
      refine g_goto F dX6_isFollowerOf_20 (tgt := 24) rfl ?_
      exact g_zret F hr hlk rfl dX6_isFollowerOf_24 ⟨congrArg (fun t => some (Value.int (Int32.ofNat t))) (Eq.symm (by unfold r_X6_isFollowerOf; first | simp only [if_pos h5, if_pos h16] | rfl)), rfl⟩
def w_X6_sendNewLeader (c : CS) (g f : Nat) : CS := w_X2_send_d (su3 (su3 c 9 f 0 1) 11 f 0 0) f 5 (c 6 g 0)
abbrev rm_X6_sendNewLeader : Room := { frames := 1, cells := 0, slots := 0, locals := 22 }
set_option maxHeartbeats 4000000 in
set_option maxRecDepth 100000 in
theorem k_X6_sendNewLeader (l : Launch) (D : va_G) (cI cS cZ : ClassId) (ad : Nat → Nat) (c : CS) (g f : Nat) (h_g : g < 3) (h_f : f < 3) (hb : c 15 f 0 ≤ 51) : gN l yX6_sendNewLeader (Cond.code yX6_sendNewLeader cX6_sendNewLeader 2 none :: tb) rm_X6_sendNewLeader D cls8 (tys3 cI cS cZ) [.ref (ad (2 + 22 * g)), .ref (ad (2 + 22 * f))] (cwld cI cS c ad) none (cwld cI cS (w_X6_sendNewLeader c g f) ad) := by
  unfold gN
  refine g_head (by decide) rfl (Nat.le_of_ble_eq_true rfl) ?_
  intro p e s m args below meth cd A F hr hlk hnm
  refine g_eq rfl (L' := [(0, .ref (ad (2 + 22 * g))), (1, .ref (ad (2 + 22 * f)))]) rfl rfl rfl ?_
  refine g_aload_n F dX6_sendNewLeader_0 1 rfl ?_
  refine f_getN F inX3 (pl_SV h_f) rfl 9 (by decide) nb_31 rfl (v := .ref (ad (2 + 22 * f + 3))) rfl dX6_sendNewLeader_1 ?_
  refine f_iconst F 1 dX6_sendNewLeader_4 rfl ?_
  refine f_putN F inX1 tyX1_ok nmX1 (pl_LK h_f) rfl 2 (by decide) nb_14 rfl rfl rfl rfl (Nat.le_of_ble_eq_true rfl) dX6_sendNewLeader_5 (ps_9 h_f) ?_
  refine g_aload_n F dX6_sendNewLeader_8 1 rfl ?_
  refine f_getN F inX3 (pl_SV h_f) rfl 9 (by decide) nb_31 rfl (v := .ref (ad (2 + 22 * f + 3))) rfl dX6_sendNewLeader_9 ?_
  refine f_iconst F 0 dX6_sendNewLeader_12 rfl ?_
  refine f_putN F inX1 tyX1_ok nmX1 (pl_LK h_f) rfl 4 (by decide) nb_16 rfl rfl rfl rfl (Nat.le_of_ble_eq_true rfl) dX6_sendNewLeader_13 (ps_11 h_f) ?_
  refine g_aload_n F dX6_sendNewLeader_16 1 rfl ?_
  refine f_getN F inX3 (pl_SV h_f) rfl 9 (by decide) nb_31 rfl (v := .ref (ad (2 + 22 * f + 3))) rfl dX6_sendNewLeader_17 ?_
  refine f_getN F inX1 (pl_LK h_f) rfl 1 (by decide) nb_13 rfl (v := .ref (ad (2 + 22 * f + 6))) rfl dX6_sendNewLeader_20 ?_
  refine f_iconst F 5 dX6_sendNewLeader_23 rfl ?_
  refine g_aload_n F dX6_sendNewLeader_24 0 rfl ?_
  refine f_getN F inX3 (pl_SV h_g) rfl 3 (by decide) nb_25 rfl (v := .ref (ad (2 + 22 * g + 1))) rfl dX6_sendNewLeader_25 ?_
  refine f_getN F inX0 (pl_EL h_g) rfl 5 (by decide) nb_8 rfl (v := .int (Int32.ofNat (c 6 g 0))) rfl dX6_sendNewLeader_28 ?_
  refine f_callVN F (As := [.int (Int32.ofNat 5), .int (Int32.ofNat (c 6 g 0))]) (rest := []) (st' := []) (k_X2_send_d l D cI cS cZ ad (su3 (su3 c 9 f 0 1) 11 f 0 0) f 5 (c 6 g 0) h_f (by assumption)) (pl_RD h_f) rfl tb_141 nb_34 tb_140 tb_567 tb_6 hdX2_send ⟨rfl, rfl⟩ ⟨Nat.le_of_ble_eq_true rfl, Nat.le_of_ble_eq_true rfl⟩ cw_adr rfl rfl (Nat.le_of_ble_eq_true rfl) ⟨Nat.le_refl _, Nat.le_refl _⟩ dX6_sendNewLeader_31 rfl ?_
  exact g_vret F hr hlk dX6_sendNewLeader_34 ⟨rfl, congrArg (fun t => cwld cI cS t ad) rfl⟩
def w_X6_readJoin (c : CS) (g f v : Nat) : CS := if Int32.ofNat (c 16 g 0) = 0 then (w_X2_send_d (su3 (su3 c 16 g 0 1) 1 g 0 ((if Int32.ofNat v < Int32.ofNat (c 1 g 0) then (c 1 g 0) else v) + 1)) f 4 ((if Int32.ofNat v < Int32.ofNat (c 1 g 0) then (c 1 g 0) else v) + 1)) else (w_X2_send_d c f 4 (c 1 g 0))
abbrev rm_X6_readJoin : Room := { frames := 1, cells := 0, slots := 0, locals := 22 }
set_option maxHeartbeats 4000000 in
set_option maxRecDepth 100000 in
theorem k_X6_readJoin (l : Launch) (D : va_G) (cI cS cZ : ClassId) (ad : Nat → Nat) (c : CS) (g f v : Nat) (h_g : g < 3) (h_f : f < 3) (hb : c 15 f 0 ≤ 51) : gN l yX6_readJoin (Cond.code yX6_readJoin cX6_readJoin 3 none :: tb) rm_X6_readJoin D cls8 (tys3 cI cS cZ) [.ref (ad (2 + 22 * g)), .ref (ad (2 + 22 * f)), .int (Int32.ofNat v)] (cwld cI cS c ad) none (cwld cI cS (w_X6_readJoin c g f v) ad) := by
  unfold gN
  refine g_head (by decide) rfl (Nat.le_of_ble_eq_true rfl) ?_
  intro p e s m args below meth cd A F hr hlk hnm
  refine g_eq rfl (L' := [(0, .ref (ad (2 + 22 * g))), (1, .ref (ad (2 + 22 * f))), (2, .int (Int32.ofNat v))]) rfl rfl rfl ?_
  refine g_aload_n F dX6_readJoin_0 0 rfl ?_
  refine f_getN F inX3 (pl_SV h_g) rfl 10 (by decide) nb_32 rfl (v := .ref (ad (2 + 22 * g + 4))) rfl dX6_readJoin_1 ?_
  refine f_getN F inX4 (pl_TM h_g) rfl 0 (by decide) nb_18 rfl (v := .int (Int32.ofNat (c 16 g 0))) rfl dX6_readJoin_4 ?_
  refine g_if_ne F dX6_readJoin_7 (tgt := 32) rfl (fun h7 => ?_) (fun h7 => ?_)
  · refine g_aload_n F dX6_readJoin_32 1 rfl ?_
    refine f_getN F inX3 (pl_SV h_f) rfl 9 (by decide) nb_31 rfl (v := .ref (ad (2 + 22 * f + 3))) rfl dX6_readJoin_33 ?_
    refine f_getN F inX1 (pl_LK h_f) rfl 1 (by decide) nb_13 rfl (v := .ref (ad (2 + 22 * f + 6))) rfl dX6_readJoin_36 ?_
    refine f_iconst F 4 dX6_readJoin_39 rfl ?_
    refine g_aload_n F dX6_readJoin_40 0 rfl ?_
    refine f_getN F inX3 (pl_SV h_g) rfl 1 (by decide) nb_23 rfl (v := .int (Int32.ofNat (c 1 g 0))) rfl dX6_readJoin_41 ?_
    refine f_callVN F (As := [.int (Int32.ofNat 4), .int (Int32.ofNat (c 1 g 0))]) (rest := []) (st' := []) (k_X2_send_d l D cI cS cZ ad c f 4 (c 1 g 0) h_f (by assumption)) (pl_RD h_f) rfl tb_141 nb_34 tb_140 tb_567 tb_6 hdX2_send ⟨rfl, rfl⟩ ⟨Nat.le_of_ble_eq_true rfl, Nat.le_of_ble_eq_true rfl⟩ cw_adr rfl rfl (Nat.le_of_ble_eq_true rfl) ⟨Nat.le_refl _, Nat.le_refl _⟩ dX6_readJoin_44 rfl ?_
    exact g_vret F hr hlk dX6_readJoin_47 ⟨rfl, congrArg (fun t => cwld cI cS t ad) (Eq.symm (by unfold w_X6_readJoin; first | simp only [if_neg h7] | rfl))⟩
  · refine g_aload_n F dX6_readJoin_10 0 rfl ?_
    refine f_getN F inX3 (pl_SV h_g) rfl 10 (by decide) nb_32 rfl (v := .ref (ad (2 + 22 * g + 4))) rfl dX6_readJoin_11 ?_
    refine f_iconst F 1 dX6_readJoin_14 rfl ?_
    refine f_putN F inX4 tyX4_ok nmX4 (pl_TM h_g) rfl 0 (by decide) nb_18 rfl rfl rfl rfl (Nat.le_of_ble_eq_true rfl) dX6_readJoin_15 (ps_16 h_g) ?_
    refine g_aload_n F dX6_readJoin_18 0 rfl ?_
    refine g_iload_n F dX6_readJoin_19 2 rfl ?_
    refine g_aload_n F dX6_readJoin_20 0 rfl ?_
    refine f_getN F inX3 (pl_SV h_g) rfl 1 (by decide) nb_23 rfl (v := .int (Int32.ofNat (c 1 g 0))) rfl dX6_readJoin_21 ?_
    refine g_mmax F (gf_w F tb_183) (gf_w F tb_184) (gf_w F tb_9) (gf_w F tb_185) (Nat.le_of_ble_eq_true rfl) (Nat.le_of_ble_eq_true rfl) (Nat.le_refl _) (Nat.le_refl _) dX6_readJoin_24 ?_
    rw [← apply_ite Int32.ofNat]
    refine f_iconst F 1 dX6_readJoin_27 rfl ?_
    refine f_add F dX6_readJoin_28 ?_
    refine f_putN F inX3 tyX3_ok nmX3 (pl_SV h_g) rfl 1 (by decide) nb_23 rfl rfl rfl rfl (Nat.le_of_ble_eq_true rfl) dX6_readJoin_29 (ps_1 h_g) ?_
    refine g_aload_n F dX6_readJoin_32 1 rfl ?_
    refine f_getN F inX3 (pl_SV h_f) rfl 9 (by decide) nb_31 rfl (v := .ref (ad (2 + 22 * f + 3))) rfl dX6_readJoin_33 ?_
    refine f_getN F inX1 (pl_LK h_f) rfl 1 (by decide) nb_13 rfl (v := .ref (ad (2 + 22 * f + 6))) rfl dX6_readJoin_36 ?_
    refine f_iconst F 4 dX6_readJoin_39 rfl ?_
    refine g_aload_n F dX6_readJoin_40 0 rfl ?_
    refine f_getN F inX3 (pl_SV h_g) rfl 1 (by decide) nb_23 rfl (v := .int (Int32.ofNat ((su3 (su3 c 16 g 0 1) 1 g 0 ((if Int32.ofNat v < Int32.ofNat (c 1 g 0) then (c 1 g 0) else v) + 1)) 1 g 0))) rfl dX6_readJoin_41 ?_
    refine g_eq rfl rfl (st' := [.int (Int32.ofNat ((if Int32.ofNat v < Int32.ofNat (c 1 g 0) then (c 1 g 0) else v) + 1)), .int (Int32.ofNat 4), .ref (ad (2 + 22 * f + 6))]) (by rw [su3_same]) rfl ?_
    refine f_callVN F (As := [.int (Int32.ofNat 4), .int (Int32.ofNat ((if Int32.ofNat v < Int32.ofNat (c 1 g 0) then (c 1 g 0) else v) + 1))]) (rest := []) (st' := []) (k_X2_send_d l D cI cS cZ ad (su3 (su3 c 16 g 0 1) 1 g 0 ((if Int32.ofNat v < Int32.ofNat (c 1 g 0) then (c 1 g 0) else v) + 1)) f 4 ((if Int32.ofNat v < Int32.ofNat (c 1 g 0) then (c 1 g 0) else v) + 1) h_f (by assumption)) (pl_RD h_f) rfl tb_141 nb_34 tb_140 tb_567 tb_6 hdX2_send ⟨rfl, rfl⟩ ⟨Nat.le_of_ble_eq_true rfl, Nat.le_of_ble_eq_true rfl⟩ cw_adr rfl rfl (Nat.le_of_ble_eq_true rfl) ⟨Nat.le_refl _, Nat.le_refl _⟩ dX6_readJoin_44 rfl ?_
    exact g_vret F hr hlk dX6_readJoin_47 ⟨rfl, congrArg (fun t => cwld cI cS t ad) (Eq.symm (by unfold w_X6_readJoin; first | simp only [if_pos h7] | rfl))⟩
