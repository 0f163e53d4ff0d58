def r_X6_lead (c : CS) (v : Nat) : Nat := if Int32.ofNat (r_X6_hasRole c v 1) = 0 then 0 else 1
def w_X6_lead (c : CS) (v : Nat) : CS := if Int32.ofNat (r_X6_hasRole c v 1) = 0 then c else (w_X4_begin (su3 c 3 v 0 3) v)
abbrev rm_X6_lead : Room := { frames := 2, cells := 0, slots := 0, locals := 42 }
set_option maxHeartbeats 4000000 in
set_option maxRecDepth 100000 in
theorem k_X6_lead (l : Launch) (D : va_G) (cI cS cZ : ClassId) (ad : Nat → Nat) (c : CS) (v : Nat) (hk : v < 4294967296) (hc : CB c) : gN l yX6_lead (Cond.code yX6_lead cX6_lead 2 (some .boolean) :: tb) rm_X6_lead D cls8 (tys3 cI cS cZ) [.ref (ad 0), .int (Int32.ofNat v)] (cwld cI cS c ad) (some (.int (Int32.ofNat (r_X6_lead c v)))) (cwld cI cS (w_X6_lead c v) ad) := by
  unfold gN
  refine g_head (by decide) rfl (Nat.le_of_ble_eq_true rfl) ?_
  intro p e s m args below meth cd A F hr hlk hnm
  refine g_eq rfl (L' := [(0, .ref (ad 0)), (1, .int (Int32.ofNat v))]) rfl rfl rfl ?_
  refine g_aload_n F dX6_lead_0 0 rfl ?_
  refine g_iload_n F dX6_lead_1 1 rfl ?_
  refine f_iconst F 1 dX6_lead_2 rfl ?_
  refine f_callV F (As := [.int (Int32.ofNat v), .int (Int32.ofNat 1)]) (rest := []) (st' := [.int (Int32.ofNat (r_X6_hasRole c v 1))]) (k_X6_hasRole l D cI cS cZ ad c v 1 (by assumption)) pl_ET rfl tb_127 tb_125 tb_126 tb_564 tb_1 ⟨rfl, hdX6_hasRole⟩ ⟨rfl, rfl⟩ ⟨Nat.le_of_ble_eq_true rfl, Nat.le_of_ble_eq_true rfl⟩ cw_adr rfl rfl (Nat.le_of_ble_eq_true rfl) ⟨Nat.le_refl _, Nat.le_refl _⟩ dX6_lead_3 rfl ?_
  refine g_if_ne F dX6_lead_6 (tgt := 11) rfl (fun h6 => ?_) (fun h6 => ?_)
  · refine g_aload_n F dX6_lead_11 0 rfl ?_
    refine f_get F inX6 pl_ET rfl 0 (by decide) tb_119 rfl (v := .ref (ad 1)) rfl dX6_lead_12 ?_
    refine g_iload_n F dX6_lead_15 1 rfl ?_
    refine f_srv F (hasRole1 h6 hk).1 dX6_lead_16 ?_
    refine f_iconst F 3 dX6_lead_17 rfl ?_
    refine f_putN F inX3 tyX3_ok nmX3 (pl_SV (hasRole1 h6 hk).1) rfl 4 (by decide) nb_26 rfl rfl rfl rfl (Nat.le_of_ble_eq_true rfl) dX6_lead_18 (ps_3 (hasRole1 h6 hk).1) ?_
    refine g_aload_n F dX6_lead_21 0 rfl ?_
    refine f_get F inX6 pl_ET rfl 0 (by decide) tb_119 rfl (v := .ref (ad 1)) rfl dX6_lead_22 ?_
    refine g_iload_n F dX6_lead_25 1 rfl ?_
    refine f_srv F (hasRole1 h6 hk).1 dX6_lead_26 ?_
    refine f_getN F inX3 (pl_SV (hasRole1 h6 hk).1) rfl 10 (by decide) nb_32 rfl (v := .ref (ad (2 + 22 * v + 4))) rfl dX6_lead_27 ?_
    refine f_callVN F (As := []) (rest := []) (st' := []) (k_X4_begin l D cI cS cZ ad (su3 c 3 v 0 3) v (hasRole1 h6 hk).1) (pl_TM (hasRole1 h6 hk).1) rfl tb_132 nb_33 tb_131 tb_565 tb_7 hdX4_begin ⟨rfl, rfl⟩ ⟨Nat.le_of_ble_eq_true rfl, Nat.le_of_ble_eq_true rfl⟩ cw_adr rfl rfl (Nat.le_of_ble_eq_true rfl) ⟨Nat.le_refl _, Nat.le_refl _⟩ dX6_lead_30 rfl ?_
    refine f_iconst F 1 dX6_lead_33 rfl ?_
    exact g_zret F hr hlk rfl dX6_lead_34 ⟨congrArg (fun t => some (Value.int (Int32.ofNat t))) (Eq.symm (by unfold r_X6_lead; first | simp only [if_neg h6] | rfl)), congrArg (fun t => cwld cI cS t ad) (Eq.symm (by unfold w_X6_lead; first | simp only [if_neg h6] | rfl))⟩
  · refine f_iconst F 0 dX6_lead_9 rfl ?_
    exact g_zret F hr hlk rfl dX6_lead_10 ⟨congrArg (fun t => some (Value.int (Int32.ofNat t))) (Eq.symm (by unfold r_X6_lead; first | simp only [if_pos h6] | rfl)), congrArg (fun t => cwld cI cS t ad) (Eq.symm (by unfold w_X6_lead; first | simp only [if_pos h6] | rfl))⟩
def r_X6_follow (c : CS) (v w : Nat) : Nat := if Int32.ofNat (r_X6_hasRole c v 1) = 0 then 0 else (if Int32.ofNat (r_X6_leads c w) = 0 then 0 else 1)
def w_X6_follow (c : CS) (v w : Nat) : CS := if Int32.ofNat (r_X6_hasRole c v 1) = 0 then c else (if Int32.ofNat (r_X6_leads c w) = 0 then c else (w_X2_send_u (su3 (su3 c 3 v 0 2) 4 v 0 w) v 1 (c 1 v 0)))
abbrev rm_X6_follow : Room := { frames := 3, cells := 0, slots := 0, locals := 63 }
set_option maxHeartbeats 4000000 in
set_option maxRecDepth 100000 in
theorem k_X6_follow (l : Launch) (D : va_G) (cI cS cZ : ClassId) (ad : Nat → Nat) (c : CS) (v w : Nat) (hk : v < 4294967296) (hk2 : w < 4294967296) (hc : CB c) : gN l yX6_follow (Cond.code yX6_follow cX6_follow 4 (some .boolean) :: tb) rm_X6_follow D cls8 (tys3 cI cS cZ) [.ref (ad 0), .int (Int32.ofNat v), .int (Int32.ofNat w)] (cwld cI cS c ad) (some (.int (Int32.ofNat (r_X6_follow c v w)))) (cwld cI cS (w_X6_follow c v w) ad) := by
  unfold gN
  refine g_head (by decide) rfl (Nat.le_of_ble_eq_true rfl) ?_
  intro p e s m args below meth cd A F hr hlk hnm
  refine g_eq rfl (L' := [(0, .ref (ad 0)), (1, .int (Int32.ofNat v)), (2, .int (Int32.ofNat w))]) rfl rfl rfl ?_
  refine g_aload_n F dX6_follow_0 0 rfl ?_
  refine g_iload_n F dX6_follow_1 1 rfl ?_
  refine f_iconst F 1 dX6_follow_2 rfl ?_
  refine f_callV F (As := [.int (Int32.ofNat v), .int (Int32.ofNat 1)]) (rest := []) (st' := [.int (Int32.ofNat (r_X6_hasRole c v 1))]) (k_X6_hasRole l D cI cS cZ ad c v 1 (by assumption)) pl_ET rfl tb_127 tb_125 tb_126 tb_564 tb_1 ⟨rfl, hdX6_hasRole⟩ ⟨rfl, rfl⟩ ⟨Nat.le_of_ble_eq_true rfl, Nat.le_of_ble_eq_true rfl⟩ cw_adr rfl rfl (Nat.le_of_ble_eq_true rfl) ⟨Nat.le_refl _, Nat.le_refl _⟩ dX6_follow_3 rfl ?_
  refine g_if_eq F dX6_follow_6 (tgt := 17) rfl (fun h6 => ?_) (fun h6 => ?_)
  · refine f_iconst F 0 dX6_follow_17 rfl ?_
    exact g_zret F hr hlk rfl dX6_follow_18 ⟨congrArg (fun t => some (Value.int (Int32.ofNat t))) (Eq.symm (by unfold r_X6_follow; first | simp only [if_pos h6] | rfl)), congrArg (fun t => cwld cI cS t ad) (Eq.symm (by unfold w_X6_follow; first | simp only [if_pos h6] | rfl))⟩
  · refine g_aload_n F dX6_follow_9 0 rfl ?_
    refine g_iload_n F dX6_follow_10 2 rfl ?_
    refine f_callV F (As := [.int (Int32.ofNat w)]) (rest := []) (st' := [.int (Int32.ofNat (r_X6_leads c w))]) (k_X6_leads l D cI cS cZ ad c w hk2) pl_ET rfl tb_139 tb_137 tb_138 tb_566 tb_1 ⟨rfl, hdX6_leads⟩ ⟨rfl, rfl⟩ ⟨Nat.le_of_ble_eq_true rfl, Nat.le_of_ble_eq_true rfl⟩ cw_adr rfl rfl (Nat.le_of_ble_eq_true rfl) ⟨Nat.le_refl _, Nat.le_refl _⟩ dX6_follow_11 rfl ?_
    refine g_if_ne F dX6_follow_14 (tgt := 19) rfl (fun h14 => ?_) (fun h14 => ?_)
    · refine g_aload_n F dX6_follow_19 0 rfl ?_
      refine f_get F inX6 pl_ET rfl 0 (by decide) tb_119 rfl (v := .ref (ad 1)) rfl dX6_follow_20 ?_
      refine g_iload_n F dX6_follow_23 1 rfl ?_
      refine f_srv F (hasRole1 h6 hk).1 dX6_follow_24 ?_
      refine g_astore_n F [(3, .ref (ad (2 + 22 * v))), (0, .ref (ad 0)), (1, .int (Int32.ofNat v)), (2, .int (Int32.ofNat w))] dX6_follow_25 (by decide) rfl ?_
      refine g_aload_n F dX6_follow_26 0 rfl ?_
      refine f_iconst F 2 dX6_follow_27 rfl ?_
      refine f_putN F inX3 tyX3_ok nmX3 (pl_SV (hasRole1 h6 hk).1) rfl 4 (by decide) nb_26 rfl rfl rfl rfl (Nat.le_of_ble_eq_true rfl) dX6_follow_28 (ps_3 (hasRole1 h6 hk).1) ?_
      refine g_aload_n F dX6_follow_31 0 rfl ?_
      refine g_iload_n F dX6_follow_32 3 rfl ?_
      refine f_putN F inX3 tyX3_ok nmX3 (pl_SV (hasRole1 h6 hk).1) rfl 5 (by decide) nb_27 rfl rfl rfl rfl (Nat.le_of_ble_eq_true rfl) dX6_follow_33 (ps_4 (hasRole1 h6 hk).1) ?_
      refine g_aload_n F dX6_follow_36 0 rfl ?_
      refine f_getN F inX3 (pl_SV (hasRole1 h6 hk).1) rfl 9 (by decide) nb_31 rfl (v := .ref (ad (2 + 22 * v + 3))) rfl dX6_follow_37 ?_
      refine f_getN F inX1 (pl_LK (hasRole1 h6 hk).1) rfl 0 (by decide) nb_12 rfl (v := .ref (ad (2 + 22 * v + 5))) rfl dX6_follow_40 ?_
      refine f_iconst F 1 dX6_follow_43 rfl ?_
      refine g_aload_n F dX6_follow_44 0 rfl ?_
      refine f_getN F inX3 (pl_SV (hasRole1 h6 hk).1) rfl 1 (by decide) nb_23 rfl (v := .int (Int32.ofNat (c 1 v 0))) rfl dX6_follow_45 ?_
      refine f_callVN F (As := [.int (Int32.ofNat 1), .int (Int32.ofNat (c 1 v 0))]) (rest := []) (st' := []) (k_X2_send_u l D cI cS cZ ad (su3 (su3 c 3 v 0 2) 4 v 0 w) v 1 (c 1 v 0) (hasRole1 h6 hk).1 (cb13 (cb_su (cb_su hc (bnd_no (by decide))) (by have := leads1 h14 hk2; unfold bnd; omega)) (hasRole1 h6 hk).1)) (pl_RU (hasRole1 h6 hk).1) rfl tb_141 nb_34 tb_140 tb_567 tb_6 hdX2_send ⟨rfl, rfl⟩ ⟨Nat.le_of_ble_eq_true rfl, Nat.le_of_ble_eq_true rfl⟩ cw_adr rfl rfl (Nat.le_of_ble_eq_true rfl) ⟨Nat.le_refl _, Nat.le_refl _⟩ dX6_follow_48 rfl ?_
      refine f_iconst F 1 dX6_follow_51 rfl ?_
      exact g_zret F hr hlk rfl dX6_follow_52 ⟨congrArg (fun t => some (Value.int (Int32.ofNat t))) (Eq.symm (by unfold r_X6_follow; first | simp only [if_neg h6, if_neg h14] | rfl)), congrArg (fun t => cwld cI cS t ad) (Eq.symm (by unfold w_X6_follow; first | simp only [if_neg h6, if_neg h14] | rfl))⟩
    · refine f_iconst F 0 dX6_follow_17 rfl ?_
      exact g_zret F hr hlk rfl dX6_follow_18 ⟨congrArg (fun t => some (Value.int (Int32.ofNat t))) (Eq.symm (by unfold r_X6_follow; first | simp only [if_neg h6, if_pos h14] | rfl)), congrArg (fun t => cwld cI cS t ad) (Eq.symm (by unfold w_X6_follow; first | simp only [if_neg h6, if_pos h14] | rfl))⟩
def r_X6_quit (c : CS) (v : Nat) : Nat := if Int32.ofNat (r_X6_hasRole c v 2) = 0 then (if Int32.ofNat (r_X6_leads c v) = 0 then 0 else 1) else 1
def w_X6_quit (c : CS) (v : Nat) : CS := if Int32.ofNat (r_X6_hasRole c v 2) = 0 then (if Int32.ofNat (r_X6_leads c v) = 0 then c else (w_X6_stopTo c v 1)) else (w_X6_stopTo c v 1)
abbrev rm_X6_quit : Room := { frames := 3, cells := 0, slots := 0, locals := 64 }
set_option maxHeartbeats 4000000 in
set_option maxRecDepth 100000 in
theorem k_X6_quit (l : Launch) (D : va_G) (cI cS cZ : ClassId) (ad : Nat → Nat) (c : CS) (v : Nat) (hk : v < 4294967296) (hc : CB c) : gN l yX6_quit (Cond.code yX6_quit cX6_quit 2 (some .boolean) :: tb) rm_X6_quit D cls8 (tys3 cI cS cZ) [.ref (ad 0), .int (Int32.ofNat v)] (cwld cI cS c ad) (some (.int (Int32.ofNat (r_X6_quit c v)))) (cwld cI cS (w_X6_quit c v) ad) := by
  unfold gN
  refine g_head (by decide) rfl (Nat.le_of_ble_eq_true rfl) ?_
  intro p e s m args below meth cd A F hr hlk hnm
  refine g_eq rfl (L' := [(0, .ref (ad 0)), (1, .int (Int32.ofNat v))]) rfl rfl rfl ?_
  refine g_aload_n F dX6_quit_0 0 rfl ?_
  refine g_iload_n F dX6_quit_1 1 rfl ?_
  refine f_iconst F 2 dX6_quit_2 rfl ?_
  refine f_callV F (As := [.int (Int32.ofNat v), .int (Int32.ofNat 2)]) (rest := []) (st' := [.int (Int32.ofNat (r_X6_hasRole c v 2))]) (k_X6_hasRole l D cI cS cZ ad c v 2 (by assumption)) pl_ET rfl tb_127 tb_125 tb_126 tb_564 tb_1 ⟨rfl, hdX6_hasRole⟩ ⟨rfl, rfl⟩ ⟨Nat.le_of_ble_eq_true rfl, Nat.le_of_ble_eq_true rfl⟩ cw_adr rfl rfl (Nat.le_of_ble_eq_true rfl) ⟨Nat.le_refl _, Nat.le_refl _⟩ dX6_quit_3 rfl ?_
  refine g_if_ne F dX6_quit_6 (tgt := 19) rfl (fun h6 => ?_) (fun h6 => ?_)
  · refine g_aload_n F dX6_quit_19 0 rfl ?_
    refine g_iload_n F dX6_quit_20 1 rfl ?_
    refine f_iconst F 1 dX6_quit_21 rfl ?_
    refine f_callV F (As := [.int (Int32.ofNat v), .int (Int32.ofNat 1)]) (rest := []) (st' := []) (k_X6_stopTo l D cI cS cZ ad c v 1 (by first | exact (hasRole1 h6 hk).1 | exact leads1 h14 hk) hc) pl_ET rfl tb_148 tb_146 tb_147 tb_568 tb_1 ⟨rfl, hdX6_stopTo⟩ ⟨rfl, rfl⟩ ⟨Nat.le_of_ble_eq_true rfl, Nat.le_of_ble_eq_true rfl⟩ cw_adr rfl rfl (Nat.le_of_ble_eq_true rfl) ⟨Nat.le_refl _, Nat.le_refl _⟩ dX6_quit_22 rfl ?_
    refine f_iconst F 1 dX6_quit_25 rfl ?_
    exact g_zret F hr hlk rfl dX6_quit_26 ⟨congrArg (fun t => some (Value.int (Int32.ofNat t))) (Eq.symm (by unfold r_X6_quit; first | simp only [if_neg h6] | rfl)), congrArg (fun t => cwld cI cS t ad) (Eq.symm (by unfold w_X6_quit; first | simp only [if_neg h6] | rfl))⟩
  · refine g_aload_n F dX6_quit_9 0 rfl ?_
    refine g_iload_n F dX6_quit_10 1 rfl ?_
    refine f_callV F (As := [.int (Int32.ofNat v)]) (rest := []) (st' := [.int (Int32.ofNat (r_X6_leads c v))]) (k_X6_leads l D cI cS cZ ad c v (by assumption)) pl_ET rfl tb_139 tb_137 tb_138 tb_566 tb_1 ⟨rfl, hdX6_leads⟩ ⟨rfl, rfl⟩ ⟨Nat.le_of_ble_eq_true rfl, Nat.le_of_ble_eq_true rfl⟩ cw_adr rfl rfl (Nat.le_of_ble_eq_true rfl) ⟨Nat.le_refl _, Nat.le_refl _⟩ dX6_quit_11 rfl ?_
    refine g_if_ne F dX6_quit_14 (tgt := 19) rfl (fun h14 => ?_) (fun h14 => ?_)
    · refine g_aload_n F dX6_quit_19 0 rfl ?_
      refine g_iload_n F dX6_quit_20 1 rfl ?_
      refine f_iconst F 1 dX6_quit_21 rfl ?_
      refine f_callV F (As := [.int (Int32.ofNat v), .int (Int32.ofNat 1)]) (rest := []) (st' := []) (k_X6_stopTo l D cI cS cZ ad c v 1 (by first | exact (hasRole1 h6 hk).1 | exact leads1 h14 hk) hc) pl_ET rfl tb_148 tb_146 tb_147 tb_568 tb_1 ⟨rfl, hdX6_stopTo⟩ ⟨rfl, rfl⟩ ⟨Nat.le_of_ble_eq_true rfl, Nat.le_of_ble_eq_true rfl⟩ cw_adr rfl rfl (Nat.le_of_ble_eq_true rfl) ⟨Nat.le_refl _, Nat.le_refl _⟩ dX6_quit_22 rfl ?_
      refine f_iconst F 1 dX6_quit_25 rfl ?_
      exact g_zret F hr hlk rfl dX6_quit_26 ⟨congrArg (fun t => some (Value.int (Int32.ofNat t))) (Eq.symm (by unfold r_X6_quit; first | simp only [if_pos h6, if_neg h14] | rfl)), congrArg (fun t => cwld cI cS t ad) (Eq.symm (by unfold w_X6_quit; first | simp only [if_pos h6, if_neg h14] | rfl))⟩
    · refine f_iconst F 0 dX6_quit_17 rfl ?_
      exact g_zret F hr hlk rfl dX6_quit_18 ⟨congrArg (fun t => some (Value.int (Int32.ofNat t))) (Eq.symm (by unfold r_X6_quit; first | simp only [if_pos h6, if_pos h14] | rfl)), congrArg (fun t => cwld cI cS t ad) (Eq.symm (by unfold w_X6_quit; first | simp only [if_pos h6, if_pos h14] | rfl))⟩
def r_X6_crash (c : CS) (v : Nat) : Nat := if Int32.ofNat (r_X6_isServer c v) = 0 then 0 else (if Int32.ofNat (c 3 v 0) = 0 then 0 else 1)
def w_X6_crash (c : CS) (v : Nat) : CS := if Int32.ofNat (r_X6_isServer c v) = 0 then c else (if Int32.ofNat (c 3 v 0) = 0 then c else (w_X3_forgetApplied (w_X6_stopTo c v 0) v))
abbrev rm_X6_crash : Room := { frames := 3, cells := 0, slots := 0, locals := 64 }
set_option maxHeartbeats 4000000 in
set_option maxRecDepth 100000 in
theorem k_X6_crash (l : Launch) (D : va_G) (cI cS cZ : ClassId) (ad : Nat → Nat) (c : CS) (v : Nat) (hk : v < 4294967296) (hc : CB c) : gN l yX6_crash (Cond.code yX6_crash cX6_crash 2 (some .boolean) :: tb) rm_X6_crash D cls8 (tys3 cI cS cZ) [.ref (ad 0), .int (Int32.ofNat v)] (cwld cI cS c ad) (some (.int (Int32.ofNat (r_X6_crash c v)))) (cwld cI cS (w_X6_crash c v) ad) := by
  unfold gN
  refine g_head (by decide) rfl (Nat.le_of_ble_eq_true rfl) ?_
  intro p e s m args below meth cd A F hr hlk hnm
  refine g_eq rfl (L' := [(0, .ref (ad 0)), (1, .int (Int32.ofNat v))]) rfl rfl rfl ?_
  refine g_iload_n F dX6_crash_0 1 rfl ?_
  refine f_callS F (av := [.int (Int32.ofNat v)]) (rest := []) (st' := [.int (Int32.ofNat (r_X6_isServer c v))]) (k_X6_isServer l D cI cS cZ ad c v) tb_130 tb_128 tb_129 tb_1 hdX6_isServer ⟨rfl, rfl⟩ ⟨Nat.le_of_ble_eq_true rfl, Nat.le_of_ble_eq_true rfl⟩ cw_adr rfl rfl (Nat.le_of_ble_eq_true rfl) ⟨Nat.le_refl _, Nat.le_refl _⟩ dX6_crash_1 rfl ?_
  refine g_if_eq F dX6_crash_4 (tgt := 19) rfl (fun h4 => ?_) (fun h4 => ?_)
  · refine f_iconst F 0 dX6_crash_19 rfl ?_
    exact g_zret F hr hlk rfl dX6_crash_20 ⟨congrArg (fun t => some (Value.int (Int32.ofNat t))) (Eq.symm (by unfold r_X6_crash; first | simp only [if_pos h4] | rfl)), congrArg (fun t => cwld cI cS t ad) (Eq.symm (by unfold w_X6_crash; first | simp only [if_pos h4] | rfl))⟩
  · refine g_aload_n F dX6_crash_7 0 rfl ?_
    refine f_get F inX6 pl_ET rfl 0 (by decide) tb_119 rfl (v := .ref (ad 1)) rfl dX6_crash_8 ?_
    refine g_iload_n F dX6_crash_11 1 rfl ?_
    refine f_srv F (isServer1 h4 hk) dX6_crash_12 ?_
    refine f_getN F inX3 (pl_SV (isServer1 h4 hk)) rfl 4 (by decide) nb_26 rfl (v := .int (Int32.ofNat (c 3 v 0))) rfl dX6_crash_13 ?_
    refine g_if_ne F dX6_crash_16 (tgt := 21) rfl (fun h16 => ?_) (fun h16 => ?_)
    · refine g_aload_n F dX6_crash_21 0 rfl ?_
      refine g_iload_n F dX6_crash_22 1 rfl ?_
      refine f_iconst F 0 dX6_crash_23 rfl ?_
      refine f_callV F (As := [.int (Int32.ofNat v), .int (Int32.ofNat 0)]) (rest := []) (st' := []) (k_X6_stopTo l D cI cS cZ ad c v 0 (isServer1 h4 hk) hc) pl_ET rfl tb_148 tb_146 tb_147 tb_568 tb_1 ⟨rfl, hdX6_stopTo⟩ ⟨rfl, rfl⟩ ⟨Nat.le_of_ble_eq_true rfl, Nat.le_of_ble_eq_true rfl⟩ cw_adr rfl rfl (Nat.le_of_ble_eq_true rfl) ⟨Nat.le_refl _, Nat.le_refl _⟩ dX6_crash_24 rfl ?_
      refine g_aload_n F dX6_crash_27 0 rfl ?_
      refine f_get F inX6 pl_ET rfl 0 (by decide) tb_119 rfl (v := .ref (ad 1)) rfl dX6_crash_28 ?_
      refine g_iload_n F dX6_crash_31 1 rfl ?_
      refine f_srv F (isServer1 h4 hk) dX6_crash_32 ?_
      refine f_callVN F (As := []) (rest := []) (st' := []) (k_X3_forgetApplied l D cI cS cZ ad (w_X6_stopTo c v 0) v (isServer1 h4 hk)) (pl_SV (isServer1 h4 hk)) rfl tb_161 nb_37 tb_160 tb_571 tb_2 hdX3_forgetApplied ⟨rfl, rfl⟩ ⟨Nat.le_of_ble_eq_true rfl, Nat.le_of_ble_eq_true rfl⟩ cw_adr rfl rfl (Nat.le_of_ble_eq_true rfl) ⟨Nat.le_refl _, Nat.le_refl _⟩ dX6_crash_33 rfl ?_
      refine f_iconst F 1 dX6_crash_36 rfl ?_
      exact g_zret F hr hlk rfl dX6_crash_37 ⟨congrArg (fun t => some (Value.int (Int32.ofNat t))) (Eq.symm (by unfold r_X6_crash; first | simp only [if_neg h4, if_neg h16] | rfl)), congrArg (fun t => cwld cI cS t ad) (Eq.symm (by unfold w_X6_crash; first | simp only [if_neg h4, if_neg h16] | rfl))⟩
    · refine f_iconst F 0 dX6_crash_19 rfl ?_
      exact g_zret F hr hlk rfl dX6_crash_20 ⟨congrArg (fun t => some (Value.int (Int32.ofNat t))) (Eq.symm (by unfold r_X6_crash; first | simp only [if_neg h4, if_pos h16] | rfl)), congrArg (fun t => cwld cI cS t ad) (Eq.symm (by unfold w_X6_crash; first | simp only [if_neg h4, if_pos h16] | rfl))⟩
def r_X6_restart (c : CS) (v : Nat) : Nat := if Int32.ofNat (r_X6_hasRole c v 0) = 0 then 0 else 1
def w_X6_restart (c : CS) (v : Nat) : CS := if Int32.ofNat (r_X6_hasRole c v 0) = 0 then c else (su3 c 3 v 0 1)
abbrev rm_X6_restart : Room := { frames := 2, cells := 0, slots := 0, locals := 42 }
set_option maxHeartbeats 4000000 in
set_option maxRecDepth 100000 in
theorem k_X6_restart (l : Launch) (D : va_G) (cI cS cZ : ClassId) (ad : Nat → Nat) (c : CS) (v : Nat) (hk : v < 4294967296) (hc : CB c) : gN l yX6_restart (Cond.code yX6_restart cX6_restart 2 (some .boolean) :: tb) rm_X6_restart D cls8 (tys3 cI cS cZ) [.ref (ad 0), .int (Int32.ofNat v)] (cwld cI cS c ad) (some (.int (Int32.ofNat (r_X6_restart c v)))) (cwld cI cS (w_X6_restart c v) ad) := by
  unfold gN
  refine g_head (by decide) rfl (Nat.le_of_ble_eq_true rfl) ?_
  intro p e s m args below meth cd A F hr hlk hnm
  refine g_eq rfl (L' := [(0, .ref (ad 0)), (1, .int (Int32.ofNat v))]) rfl rfl rfl ?_
  refine g_aload_n F dX6_restart_0 0 rfl ?_
  refine g_iload_n F dX6_restart_1 1 rfl ?_
  refine f_iconst F 0 dX6_restart_2 rfl ?_
  refine f_callV F (As := [.int (Int32.ofNat v), .int (Int32.ofNat 0)]) (rest := []) (st' := [.int (Int32.ofNat (r_X6_hasRole c v 0))]) (k_X6_hasRole l D cI cS cZ ad c v 0 (by assumption)) pl_ET rfl tb_127 tb_125 tb_126 tb_564 tb_1 ⟨rfl, hdX6_hasRole⟩ ⟨rfl, rfl⟩ ⟨Nat.le_of_ble_eq_true rfl, Nat.le_of_ble_eq_true rfl⟩ cw_adr rfl rfl (Nat.le_of_ble_eq_true rfl) ⟨Nat.le_refl _, Nat.le_refl _⟩ dX6_restart_3 rfl ?_
  refine g_if_ne F dX6_restart_6 (tgt := 11) rfl (fun h6 => ?_) (fun h6 => ?_)
  · refine g_aload_n F dX6_restart_11 0 rfl ?_
    refine f_get F inX6 pl_ET rfl 0 (by decide) tb_119 rfl (v := .ref (ad 1)) rfl dX6_restart_12 ?_
    refine g_iload_n F dX6_restart_15 1 rfl ?_
    refine f_srv F (hasRole1 h6 hk).1 dX6_restart_16 ?_
    refine f_iconst F 1 dX6_restart_17 rfl ?_
    refine f_putN F inX3 tyX3_ok nmX3 (pl_SV (hasRole1 h6 hk).1) rfl 4 (by decide) nb_26 rfl rfl rfl rfl (Nat.le_of_ble_eq_true rfl) dX6_restart_18 (ps_3 (hasRole1 h6 hk).1) ?_
    refine f_iconst F 1 dX6_restart_21 rfl ?_
    exact g_zret F hr hlk rfl dX6_restart_22 ⟨congrArg (fun t => some (Value.int (Int32.ofNat t))) (Eq.symm (by unfold r_X6_restart; first | simp only [if_neg h6] | rfl)), congrArg (fun t => cwld cI cS t ad) (Eq.symm (by unfold w_X6_restart; first | simp only [if_neg h6] | rfl))⟩
  · refine f_iconst F 0 dX6_restart_9 rfl ?_
    exact g_zret F hr hlk rfl dX6_restart_10 ⟨congrArg (fun t => some (Value.int (Int32.ofNat t))) (Eq.symm (by unfold r_X6_restart; first | simp only [if_pos h6] | rfl)), congrArg (fun t => cwld cI cS t ad) (Eq.symm (by unfold w_X6_restart; first | simp only [if_pos h6] | rfl))⟩
def r_X6_up (c : CS) (v : Nat) : Nat := if Int32.ofNat (r_X6_hasRole c v 2) = 0 then 0 else (if Int32.ofNat (r_X2_count_u c v) = 0 then 0 else (r_X2_firstKind_u c v))
def w_X6_up (c : CS) (v : Nat) : CS := if Int32.ofNat (r_X6_hasRole c v 2) = 0 then c else (if Int32.ofNat (r_X2_count_u c v) = 0 then c else (if Int32.ofNat (r_X2_firstKind_u c v) = Int32.ofNat 1 then (w_X6_readJoin (w_X2_dropFirst_u c v) (c 4 v 0) v (r_X2_firstValue_u c v)) else (if Int32.ofNat (r_X2_firstKind_u c v) = Int32.ofNat 2 then (if Int32.ofNat (r_X2_firstValue_u c v) = 0 then (w_X6_readAccepted (w_X2_dropFirst_u c v) (c 4 v 0) v 0) else (w_X6_readAccepted (w_X2_dropFirst_u c v) (c 4 v 0) v 1)) else (w_X6_readAck (w_X2_dropFirst_u c v) (c 4 v 0) v (r_X2_firstValue_u c v)))))
abbrev rm_X6_up : Room := { frames := 6, cells := 0, slots := 0, locals := 137 }
set_option maxHeartbeats 4000000 in
set_option maxRecDepth 100000 in
theorem k_X6_up (l : Launch) (D : va_G) (cI cS cZ : ClassId) (ad : Nat → Nat) (c : CS) (v : Nat) (hk : v < 4294967296) (hc : CB c) (hval : ¬ Int32.ofNat (r_X6_hasRole c v 2) = 0 → r_X2_firstValue_u c v < 2147483647) : gN l yX6_up (Cond.code yX6_up cX6_up 7 (some .int) :: tb) rm_X6_up D cls8 (tys3 cI cS cZ) [.ref (ad 0), .int (Int32.ofNat v)] (cwld cI cS c ad) (some (.int (Int32.ofNat (r_X6_up c v)))) (cwld cI cS (w_X6_up c v) ad) := by
  unfold gN
  refine g_head (by decide) rfl (Nat.le_of_ble_eq_true rfl) ?_
  intro p e s m args below meth cd A F hr hlk hnm
  refine g_eq rfl (L' := [(0, .ref (ad 0)), (1, .int (Int32.ofNat v))]) rfl rfl rfl ?_
  refine g_aload_n F dX6_up_0 0 rfl ?_
  refine g_iload_n F dX6_up_1 1 rfl ?_
  refine f_iconst F 2 dX6_up_2 rfl ?_
  refine f_callV F (As := [.int (Int32.ofNat v), .int (Int32.ofNat 2)]) (rest := []) (st' := [.int (Int32.ofNat (r_X6_hasRole c v 2))]) (k_X6_hasRole l D cI cS cZ ad c v 2 (by assumption)) pl_ET rfl tb_127 tb_125 tb_126 tb_564 tb_1 ⟨rfl, hdX6_hasRole⟩ ⟨rfl, rfl⟩ ⟨Nat.le_of_ble_eq_true rfl, Nat.le_of_ble_eq_true rfl⟩ cw_adr rfl rfl (Nat.le_of_ble_eq_true rfl) ⟨Nat.le_refl _, Nat.le_refl _⟩ dX6_up_3 rfl ?_
  refine g_if_ne F dX6_up_6 (tgt := 11) rfl (fun h6 => ?_) (fun h6 => ?_)
  · have hval := hval h6
    refine g_aload_n F dX6_up_11 0 rfl ?_
    refine f_get F inX6 pl_ET rfl 0 (by decide) tb_119 rfl (v := .ref (ad 1)) rfl dX6_up_12 ?_
    refine g_iload_n F dX6_up_15 1 rfl ?_
    refine f_srv F (hasRole1 h6 hk).1 dX6_up_16 ?_
    refine g_astore_n F [(2, .ref (ad (2 + 22 * v))), (0, .ref (ad 0)), (1, .int (Int32.ofNat v))] dX6_up_17 (by decide) rfl ?_
    refine g_aload_n F dX6_up_18 1 rfl ?_
    refine f_get F inX6 pl_ET rfl 0 (by decide) tb_119 rfl (v := .ref (ad 1)) rfl dX6_up_19 ?_
    refine g_aload_n F dX6_up_22 0 rfl ?_
    refine f_getN F inX3 (pl_SV (hasRole1 h6 hk).1) rfl 5 (by decide) nb_27 rfl (v := .int (Int32.ofNat (c 4 v 0))) rfl dX6_up_23 ?_
    refine f_srv F (cb4 hc (hasRole1 h6 hk).1) dX6_up_26 ?_
    refine g_astore_n F [(3, .ref (ad (2 + 22 * (c 4 v 0)))), (2, .ref (ad (2 + 22 * v))), (0, .ref (ad 0)), (1, .int (Int32.ofNat v))] dX6_up_27 (by decide) rfl ?_
    refine g_aload_n F dX6_up_28 1 rfl ?_
    refine f_getN F inX3 (pl_SV (hasRole1 h6 hk).1) rfl 9 (by decide) nb_31 rfl (v := .ref (ad (2 + 22 * v + 3))) rfl dX6_up_29 ?_
    refine f_getN F inX1 (pl_LK (hasRole1 h6 hk).1) rfl 0 (by decide) nb_12 rfl (v := .ref (ad (2 + 22 * v + 5))) rfl dX6_up_32 ?_
    refine g_astore F [(4, .ref (ad (2 + 22 * v + 5))), (3, .ref (ad (2 + 22 * (c 4 v 0)))), (2, .ref (ad (2 + 22 * v))), (0, .ref (ad 0)), (1, .int (Int32.ofNat v))] dX6_up_35 (by decide) rfl ?_
    refine g_aload F dX6_up_37 0 rfl ?_
    refine f_callVN F (As := []) (rest := []) (st' := [.int (Int32.ofNat (r_X2_count_u c v))]) (k_X2_count_u l D cI cS cZ ad c v (hasRole1 h6 hk).1) (pl_RU (hasRole1 h6 hk).1) rfl tb_173 nb_39 tb_172 tb_573 tb_6 hdX2_count ⟨rfl, rfl⟩ ⟨Nat.le_of_ble_eq_true rfl, Nat.le_of_ble_eq_true rfl⟩ cw_adr rfl rfl (Nat.le_of_ble_eq_true rfl) ⟨Nat.le_refl _, Nat.le_refl _⟩ dX6_up_39 rfl ?_
    refine g_if_ne F dX6_up_42 (tgt := 47) rfl (fun h42 => ?_) (fun h42 => ?_)
    · refine g_aload F dX6_up_47 0 rfl ?_
      refine f_callVN F (As := []) (rest := []) (st' := [.int (Int32.ofNat (r_X2_firstKind_u c v))]) (k_X2_firstKind_u l D cI cS cZ ad c v (hasRole1 h6 hk).1 (cb13 hc (hasRole1 h6 hk).1) (cb12 hc (hasRole1 h6 hk).1)) (pl_RU (hasRole1 h6 hk).1) rfl tb_175 nb_40 tb_174 tb_574 tb_6 hdX2_firstKind ⟨rfl, rfl⟩ ⟨Nat.le_of_ble_eq_true rfl, Nat.le_of_ble_eq_true rfl⟩ cw_adr rfl rfl (Nat.le_of_ble_eq_true rfl) ⟨Nat.le_refl _, Nat.le_refl _⟩ dX6_up_49 rfl ?_
      refine g_istore F [(5, .int (Int32.ofNat (r_X2_firstKind_u c v))), (4, .ref (ad (2 + 22 * v + 5))), (3, .ref (ad (2 + 22 * (c 4 v 0)))), (2, .ref (ad (2 + 22 * v))), (0, .ref (ad 0)), (1, .int (Int32.ofNat v))] dX6_up_52 (by decide) rfl ?_
      refine g_aload F dX6_up_54 1 rfl ?_
      refine f_callVN F (As := []) (rest := []) (st' := [.int (Int32.ofNat (r_X2_firstValue_u c v))]) (k_X2_firstValue_u l D cI cS cZ ad c v (hasRole1 h6 hk).1 (cb13 hc (hasRole1 h6 hk).1) (cb12 hc (hasRole1 h6 hk).1)) (pl_RU (hasRole1 h6 hk).1) rfl tb_177 nb_41 tb_176 tb_575 tb_6 hdX2_firstValue ⟨rfl, rfl⟩ ⟨Nat.le_of_ble_eq_true rfl, Nat.le_of_ble_eq_true rfl⟩ cw_adr rfl rfl (Nat.le_of_ble_eq_true rfl) ⟨Nat.le_refl _, Nat.le_refl _⟩ dX6_up_56 rfl ?_
      refine g_istore F [(6, .int (Int32.ofNat (r_X2_firstValue_u c v))), (5, .int (Int32.ofNat (r_X2_firstKind_u c v))), (4, .ref (ad (2 + 22 * v + 5))), (3, .ref (ad (2 + 22 * (c 4 v 0)))), (2, .ref (ad (2 + 22 * v))), (0, .ref (ad 0)), (1, .int (Int32.ofNat v))] dX6_up_59 (by decide) rfl ?_
      refine g_aload F dX6_up_61 2 rfl ?_
      refine f_callVN F (As := []) (rest := []) (st' := []) (k_X2_dropFirst_u l D cI cS cZ ad c v (hasRole1 h6 hk).1) (pl_RU (hasRole1 h6 hk).1) rfl tb_179 nb_42 tb_178 tb_576 tb_6 hdX2_dropFirst ⟨rfl, rfl⟩ ⟨Nat.le_of_ble_eq_true rfl, Nat.le_of_ble_eq_true rfl⟩ cw_adr rfl rfl (Nat.le_of_ble_eq_true rfl) ⟨Nat.le_refl _, Nat.le_refl _⟩ dX6_up_63 rfl ?_
      refine g_iload F dX6_up_66 1 rfl ?_
      refine f_iconst F 1 dX6_up_68 rfl ?_
      refine g_icmp_ne F dX6_up_69 (tgt := 82) rfl (fun h69 => ?_) (fun h69 => ?_)
      · refine g_iload F dX6_up_82 1 rfl ?_
        refine f_iconst F 2 dX6_up_84 rfl ?_
        refine g_icmp_ne F dX6_up_85 (tgt := 107) rfl (fun h85 => ?_) (fun h85 => ?_)
        · refine g_aload_n F dX6_up_107 5 rfl ?_
          refine g_aload_n F dX6_up_108 3 rfl ?_
          refine g_aload_n F dX6_up_109 4 rfl ?_
          refine g_iload F dX6_up_110 0 rfl ?_
          refine f_callV F (As := [.ref (ad (2 + 22 * (c 4 v 0))), .ref (ad (2 + 22 * v)), .int (Int32.ofNat (r_X2_firstValue_u c v))]) (rest := []) (st' := []) (k_X6_readAck l D cI cS cZ ad (w_X2_dropFirst_u c v) (c 4 v 0) v (r_X2_firstValue_u c v) (cb4 hc (hasRole1 h6 hk).1) (hasRole1 h6 hk).1 (cb_X2_dropFirst_u hc) (by omega)) pl_ET rfl tb_216 tb_214 tb_215 tb_585 tb_1 ⟨rfl, hdX6_readAck⟩ ⟨rfl, rfl⟩ ⟨Nat.le_of_ble_eq_true rfl, Nat.le_of_ble_eq_true rfl⟩ cw_adr rfl rfl (Nat.le_of_ble_eq_true rfl) ⟨Nat.le_refl _, Nat.le_refl _⟩ dX6_up_112 rfl ?_
          refine g_iload F dX6_up_115 1 rfl ?_
          exact g_iret F hr hlk dX6_up_117 ⟨congrArg (fun t => some (Value.int (Int32.ofNat t))) (Eq.symm (by unfold r_X6_up; first | simp only [if_neg h6, if_neg h42, if_neg h69, if_neg h85] | rfl)), congrArg (fun t => cwld cI cS t ad) (Eq.symm (by unfold w_X6_up; first | simp only [if_neg h6, if_neg h42, if_neg h69, if_neg h85] | rfl))⟩
        · refine g_aload_n F dX6_up_88 5 rfl ?_
          refine g_aload_n F dX6_up_89 3 rfl ?_
          refine g_aload_n F dX6_up_90 4 rfl ?_
          refine g_iload F dX6_up_91 0 rfl ?_
          refine g_if_eq F dX6_up_93 (tgt := 100) rfl (fun h93 => ?_) (fun h93 => ?_)
          · refine f_iconst F 0 dX6_up_100 rfl ?_
            refine f_callV F (As := [.ref (ad (2 + 22 * (c 4 v 0))), .ref (ad (2 + 22 * v)), .int (Int32.ofNat 0)]) (rest := []) (st' := []) (k_X6_readAccepted l D cI cS cZ ad (w_X2_dropFirst_u c v) (c 4 v 0) v 0 (cb4 hc (hasRole1 h6 hk).1) (hasRole1 h6 hk).1 (cb_X2_dropFirst_u hc)) pl_ET rfl tb_188 tb_186 tb_187 tb_577 tb_1 ⟨rfl, hdX6_readAccepted⟩ ⟨rfl, rfl⟩ ⟨Nat.le_of_ble_eq_true rfl, Nat.le_of_ble_eq_true rfl⟩ cw_adr rfl rfl (Nat.le_of_ble_eq_true rfl) ⟨Nat.le_refl _, Nat.le_refl _⟩ dX6_up_101 rfl ?_
            refine g_goto F dX6_up_104 (tgt := 115) rfl ?_
            refine g_iload F dX6_up_115 1 rfl ?_
            exact g_iret F hr hlk dX6_up_117 ⟨congrArg (fun t => some (Value.int (Int32.ofNat t))) (Eq.symm (by unfold r_X6_up; first | simp only [if_neg h6, if_neg h42, if_neg h69, if_pos h85, if_pos h93] | rfl)), congrArg (fun t => cwld cI cS t ad) (Eq.symm (by unfold w_X6_up; first | simp only [if_neg h6, if_neg h42, if_neg h69, if_pos h85, if_pos h93] | rfl))⟩
          · refine f_iconst F 1 dX6_up_96 rfl ?_
            refine g_goto F dX6_up_97 (tgt := 101) rfl ?_
            refine f_callV F (As := [.ref (ad (2 + 22 * (c 4 v 0))), .ref (ad (2 + 22 * v)), .int (Int32.ofNat 1)]) (rest := []) (st' := []) (k_X6_readAccepted l D cI cS cZ ad (w_X2_dropFirst_u c v) (c 4 v 0) v 1 (cb4 hc (hasRole1 h6 hk).1) (hasRole1 h6 hk).1 (cb_X2_dropFirst_u hc)) pl_ET rfl tb_188 tb_186 tb_187 tb_577 tb_1 ⟨rfl, hdX6_readAccepted⟩ ⟨rfl, rfl⟩ ⟨Nat.le_of_ble_eq_true rfl, Nat.le_of_ble_eq_true rfl⟩ cw_adr rfl rfl (Nat.le_of_ble_eq_true rfl) ⟨Nat.le_refl _, Nat.le_refl _⟩ dX6_up_101 rfl ?_
            refine g_goto F dX6_up_104 (tgt := 115) rfl ?_
            refine g_iload F dX6_up_115 1 rfl ?_
            exact g_iret F hr hlk dX6_up_117 ⟨congrArg (fun t => some (Value.int (Int32.ofNat t))) (Eq.symm (by unfold r_X6_up; first | simp only [if_neg h6, if_neg h42, if_neg h69, if_pos h85, if_neg h93] | rfl)), congrArg (fun t => cwld cI cS t ad) (Eq.symm (by unfold w_X6_up; first | simp only [if_neg h6, if_neg h42, if_neg h69, if_pos h85, if_neg h93] | rfl))⟩
      · refine g_aload_n F dX6_up_72 3 rfl ?_
        refine g_aload_n F dX6_up_73 4 rfl ?_
        refine g_iload F dX6_up_74 0 rfl ?_
        refine f_callS F (av := [.ref (ad (2 + 22 * (c 4 v 0))), .ref (ad (2 + 22 * v)), .int (Int32.ofNat (r_X2_firstValue_u c v))]) (rest := []) (st' := []) (k_X6_readJoin l D cI cS cZ ad (w_X2_dropFirst_u c v) (c 4 v 0) v (r_X2_firstValue_u c v) (cb4 hc (hasRole1 h6 hk).1) (hasRole1 h6 hk).1 (cb15 (cb_X2_dropFirst_u hc) (hasRole1 h6 hk).1)) tb_182 tb_180 tb_181 tb_1 hdX6_readJoin ⟨rfl, rfl⟩ ⟨Nat.le_of_ble_eq_true rfl, Nat.le_of_ble_eq_true rfl⟩ cw_adr rfl rfl (Nat.le_of_ble_eq_true rfl) ⟨Nat.le_refl _, Nat.le_refl _⟩ dX6_up_76 rfl ?_
        refine g_goto F dX6_up_79 (tgt := 115) rfl ?_
        refine g_iload F dX6_up_115 1 rfl ?_
        exact g_iret F hr hlk dX6_up_117 ⟨congrArg (fun t => some (Value.int (Int32.ofNat t))) (Eq.symm (by unfold r_X6_up; first | simp only [if_neg h6, if_neg h42, if_pos h69] | rfl)), congrArg (fun t => cwld cI cS t ad) (Eq.symm (by unfold w_X6_up; first | simp only [if_neg h6, if_neg h42, if_pos h69] | rfl))⟩
    · refine f_iconst F 0 dX6_up_45 rfl ?_
      exact g_iret F hr hlk dX6_up_46 ⟨congrArg (fun t => some (Value.int (Int32.ofNat t))) (Eq.symm (by unfold r_X6_up; first | simp only [if_neg h6, if_pos h42] | rfl)), congrArg (fun t => cwld cI cS t ad) (Eq.symm (by unfold w_X6_up; first | simp only [if_neg h6, if_pos h42] | rfl))⟩
  · refine f_iconst F 0 dX6_up_9 rfl ?_
    exact g_iret F hr hlk dX6_up_10 ⟨congrArg (fun t => some (Value.int (Int32.ofNat t))) (Eq.symm (by unfold r_X6_up; first | simp only [if_pos h6] | rfl)), congrArg (fun t => cwld cI cS t ad) (Eq.symm (by unfold w_X6_up; first | simp only [if_pos h6] | rfl))⟩
def r_X6_down (c : CS) (v : Nat) : Nat := if Int32.ofNat (r_X6_hasRole c v 2) = 0 then 0 else (if Int32.ofNat (r_X2_count_d c v) = 0 then 0 else (r_X2_firstKind_d c v))
def w_X6_down (c : CS) (v : Nat) : CS := if Int32.ofNat (r_X6_hasRole c v 2) = 0 then c else (if Int32.ofNat (r_X2_count_d c v) = 0 then c else (if Int32.ofNat (r_X2_firstKind_d c v) = Int32.ofNat 4 then (w_X6_readNewEpoch (w_X2_dropFirst_d c v) v (r_X2_firstValue_d c v)) else (if Int32.ofNat (r_X2_firstKind_d c v) = Int32.ofNat 5 then (w_X6_readNewLeader (w_X2_dropFirst_d c v) v (r_X2_firstValue_d c v)) else (if Int32.ofNat (r_X2_firstKind_d c v) = Int32.ofNat 6 then (w_X6_readProposal (w_X2_dropFirst_d c v) v (r_X2_firstValue_d c v)) else (w_X3_applyUpTo (w_X2_dropFirst_d c v) v (r_X2_firstValue_d c v))))))
abbrev rm_X6_down : Room := { frames := 5, cells := 0, slots := 0, locals := 113 }
set_option maxHeartbeats 4000000 in
set_option maxRecDepth 100000 in
theorem k_X6_down (l : Launch) (D : va_G) (cI cS cZ : ClassId) (ad : Nat → Nat) (c : CS) (v : Nat) (hk : v < 4294967296) (hc : CB c) (hval : ¬ Int32.ofNat (r_X6_hasRole c v 2) = 0 → r_X2_firstValue_d c v < 2147483647) : gN l yX6_down (Cond.code yX6_down cX6_down 6 (some .int) :: tb) rm_X6_down D cls8 (tys3 cI cS cZ) [.ref (ad 0), .int (Int32.ofNat v)] (cwld cI cS c ad) (some (.int (Int32.ofNat (r_X6_down c v)))) (cwld cI cS (w_X6_down c v) ad) := by
  unfold gN
  refine g_head (by decide) rfl (Nat.le_of_ble_eq_true rfl) ?_
  intro p e s m args below meth cd A F hr hlk hnm
  refine g_eq rfl (L' := [(0, .ref (ad 0)), (1, .int (Int32.ofNat v))]) rfl rfl rfl ?_
  refine g_aload_n F dX6_down_0 0 rfl ?_
  refine g_iload_n F dX6_down_1 1 rfl ?_
  refine f_iconst F 2 dX6_down_2 rfl ?_
  refine f_callV F (As := [.int (Int32.ofNat v), .int (Int32.ofNat 2)]) (rest := []) (st' := [.int (Int32.ofNat (r_X6_hasRole c v 2))]) (k_X6_hasRole l D cI cS cZ ad c v 2 (by assumption)) pl_ET rfl tb_127 tb_125 tb_126 tb_564 tb_1 ⟨rfl, hdX6_hasRole⟩ ⟨rfl, rfl⟩ ⟨Nat.le_of_ble_eq_true rfl, Nat.le_of_ble_eq_true rfl⟩ cw_adr rfl rfl (Nat.le_of_ble_eq_true rfl) ⟨Nat.le_refl _, Nat.le_refl _⟩ dX6_down_3 rfl ?_
  refine g_if_ne F dX6_down_6 (tgt := 11) rfl (fun h6 => ?_) (fun h6 => ?_)
  · have hval := hval h6
    refine g_aload_n F dX6_down_11 0 rfl ?_
    refine f_get F inX6 pl_ET rfl 0 (by decide) tb_119 rfl (v := .ref (ad 1)) rfl dX6_down_12 ?_
    refine g_iload_n F dX6_down_15 1 rfl ?_
    refine f_srv F (hasRole1 h6 hk).1 dX6_down_16 ?_
    refine g_astore_n F [(2, .ref (ad (2 + 22 * v))), (0, .ref (ad 0)), (1, .int (Int32.ofNat v))] dX6_down_17 (by decide) rfl ?_
    refine g_aload_n F dX6_down_18 0 rfl ?_
    refine f_getN F inX3 (pl_SV (hasRole1 h6 hk).1) rfl 9 (by decide) nb_31 rfl (v := .ref (ad (2 + 22 * v + 3))) rfl dX6_down_19 ?_
    refine f_getN F inX1 (pl_LK (hasRole1 h6 hk).1) rfl 1 (by decide) nb_13 rfl (v := .ref (ad (2 + 22 * v + 6))) rfl dX6_down_22 ?_
    refine g_astore_n F [(3, .ref (ad (2 + 22 * v + 6))), (2, .ref (ad (2 + 22 * v))), (0, .ref (ad 0)), (1, .int (Int32.ofNat v))] dX6_down_25 (by decide) rfl ?_
    refine g_aload_n F dX6_down_26 0 rfl ?_
    refine f_callVN F (As := []) (rest := []) (st' := [.int (Int32.ofNat (r_X2_count_d c v))]) (k_X2_count_d l D cI cS cZ ad c v (hasRole1 h6 hk).1) (pl_RD (hasRole1 h6 hk).1) rfl tb_173 nb_39 tb_172 tb_573 tb_6 hdX2_count ⟨rfl, rfl⟩ ⟨Nat.le_of_ble_eq_true rfl, Nat.le_of_ble_eq_true rfl⟩ cw_adr rfl rfl (Nat.le_of_ble_eq_true rfl) ⟨Nat.le_refl _, Nat.le_refl _⟩ dX6_down_27 rfl ?_
    refine g_if_ne F dX6_down_30 (tgt := 35) rfl (fun h30 => ?_) (fun h30 => ?_)
    · refine g_aload_n F dX6_down_35 0 rfl ?_
      refine f_callVN F (As := []) (rest := []) (st' := [.int (Int32.ofNat (r_X2_firstKind_d c v))]) (k_X2_firstKind_d l D cI cS cZ ad c v (hasRole1 h6 hk).1 (cb15 hc (hasRole1 h6 hk).1) (cb14 hc (hasRole1 h6 hk).1)) (pl_RD (hasRole1 h6 hk).1) rfl tb_175 nb_40 tb_174 tb_574 tb_6 hdX2_firstKind ⟨rfl, rfl⟩ ⟨Nat.le_of_ble_eq_true rfl, Nat.le_of_ble_eq_true rfl⟩ cw_adr rfl rfl (Nat.le_of_ble_eq_true rfl) ⟨Nat.le_refl _, Nat.le_refl _⟩ dX6_down_36 rfl ?_
      refine g_istore F [(4, .int (Int32.ofNat (r_X2_firstKind_d c v))), (3, .ref (ad (2 + 22 * v + 6))), (2, .ref (ad (2 + 22 * v))), (0, .ref (ad 0)), (1, .int (Int32.ofNat v))] dX6_down_39 (by decide) rfl ?_
      refine g_aload_n F dX6_down_41 1 rfl ?_
      refine f_callVN F (As := []) (rest := []) (st' := [.int (Int32.ofNat (r_X2_firstValue_d c v))]) (k_X2_firstValue_d l D cI cS cZ ad c v (hasRole1 h6 hk).1 (cb15 hc (hasRole1 h6 hk).1) (cb14 hc (hasRole1 h6 hk).1)) (pl_RD (hasRole1 h6 hk).1) rfl tb_177 nb_41 tb_176 tb_575 tb_6 hdX2_firstValue ⟨rfl, rfl⟩ ⟨Nat.le_of_ble_eq_true rfl, Nat.le_of_ble_eq_true rfl⟩ cw_adr rfl rfl (Nat.le_of_ble_eq_true rfl) ⟨Nat.le_refl _, Nat.le_refl _⟩ dX6_down_42 rfl ?_
      refine g_istore F [(5, .int (Int32.ofNat (r_X2_firstValue_d c v))), (4, .int (Int32.ofNat (r_X2_firstKind_d c v))), (3, .ref (ad (2 + 22 * v + 6))), (2, .ref (ad (2 + 22 * v))), (0, .ref (ad 0)), (1, .int (Int32.ofNat v))] dX6_down_45 (by decide) rfl ?_
      refine g_aload_n F dX6_down_47 2 rfl ?_
      refine f_callVN F (As := []) (rest := []) (st' := []) (k_X2_dropFirst_d l D cI cS cZ ad c v (hasRole1 h6 hk).1) (pl_RD (hasRole1 h6 hk).1) rfl tb_179 nb_42 tb_178 tb_576 tb_6 hdX2_dropFirst ⟨rfl, rfl⟩ ⟨Nat.le_of_ble_eq_true rfl, Nat.le_of_ble_eq_true rfl⟩ cw_adr rfl rfl (Nat.le_of_ble_eq_true rfl) ⟨Nat.le_refl _, Nat.le_refl _⟩ dX6_down_48 rfl ?_
      refine g_iload F dX6_down_51 1 rfl ?_
      refine f_iconst F 4 dX6_down_53 rfl ?_
      refine g_icmp_ne F dX6_down_54 (tgt := 67) rfl (fun h54 => ?_) (fun h54 => ?_)
      · refine g_iload F dX6_down_67 1 rfl ?_
        refine f_iconst F 5 dX6_down_69 rfl ?_
        refine g_icmp_ne F dX6_down_70 (tgt := 83) rfl (fun h70 => ?_) (fun h70 => ?_)
        · refine g_iload F dX6_down_83 1 rfl ?_
          refine f_bipush F 6 dX6_down_85 rfl ?_
          refine g_icmp_ne F dX6_down_87 (tgt := 100) rfl (fun h87 => ?_) (fun h87 => ?_)
          · refine g_aload_n F dX6_down_100 3 rfl ?_
            refine g_iload F dX6_down_101 0 rfl ?_
            refine f_callVN F (As := [.int (Int32.ofNat (r_X2_firstValue_d c v))]) (rest := []) (st' := []) (k_X3_applyUpTo l D cI cS cZ ad (w_X2_dropFirst_d c v) v (r_X2_firstValue_d c v) (hasRole1 h6 hk).1 (cb_X2_dropFirst_d hc) (by omega)) (pl_SV (hasRole1 h6 hk).1) rfl tb_221 nb_45 tb_220 tb_586 tb_2 hdX3_applyUpTo ⟨rfl, rfl⟩ ⟨Nat.le_of_ble_eq_true rfl, Nat.le_of_ble_eq_true rfl⟩ cw_adr rfl rfl (Nat.le_of_ble_eq_true rfl) ⟨Nat.le_refl _, Nat.le_refl _⟩ dX6_down_103 rfl ?_
            refine g_iload F dX6_down_106 1 rfl ?_
            exact g_iret F hr hlk dX6_down_108 ⟨congrArg (fun t => some (Value.int (Int32.ofNat t))) (Eq.symm (by unfold r_X6_down; first | simp only [if_neg h6, if_neg h30, if_neg h54, if_neg h70, if_neg h87] | rfl)), congrArg (fun t => cwld cI cS t ad) (Eq.symm (by unfold w_X6_down; first | simp only [if_neg h6, if_neg h30, if_neg h54, if_neg h70, if_neg h87] | rfl))⟩
          · refine g_aload_n F dX6_down_90 4 rfl ?_
            refine g_aload_n F dX6_down_91 3 rfl ?_
            refine g_iload F dX6_down_92 0 rfl ?_
            refine f_callV F (As := [.ref (ad (2 + 22 * v)), .int (Int32.ofNat (r_X2_firstValue_d c v))]) (rest := []) (st' := []) (k_X6_readProposal l D cI cS cZ ad (w_X2_dropFirst_d c v) v (r_X2_firstValue_d c v) (hasRole1 h6 hk).1 (cb_X2_dropFirst_d hc) (by omega)) pl_ET rfl tb_274 tb_272 tb_273 tb_601 tb_1 ⟨rfl, hdX6_readProposal⟩ ⟨rfl, rfl⟩ ⟨Nat.le_of_ble_eq_true rfl, Nat.le_of_ble_eq_true rfl⟩ cw_adr rfl rfl (Nat.le_of_ble_eq_true rfl) ⟨Nat.le_refl _, Nat.le_refl _⟩ dX6_down_94 rfl ?_
            refine g_goto F dX6_down_97 (tgt := 106) rfl ?_
            refine g_iload F dX6_down_106 1 rfl ?_
            exact g_iret F hr hlk dX6_down_108 ⟨congrArg (fun t => some (Value.int (Int32.ofNat t))) (Eq.symm (by unfold r_X6_down; first | simp only [if_neg h6, if_neg h30, if_neg h54, if_neg h70, if_pos h87] | rfl)), congrArg (fun t => cwld cI cS t ad) (Eq.symm (by unfold w_X6_down; first | simp only [if_neg h6, if_neg h30, if_neg h54, if_neg h70, if_pos h87] | rfl))⟩
        · refine g_aload_n F dX6_down_73 4 rfl ?_
          refine g_aload_n F dX6_down_74 3 rfl ?_
          refine g_iload F dX6_down_75 0 rfl ?_
          refine f_callV F (As := [.ref (ad (2 + 22 * v)), .int (Int32.ofNat (r_X2_firstValue_d c v))]) (rest := []) (st' := []) (k_X6_readNewLeader l D cI cS cZ ad (w_X2_dropFirst_d c v) v (r_X2_firstValue_d c v) (hasRole1 h6 hk).1 (cb_X2_dropFirst_d hc) hval) pl_ET rfl tb_271 tb_269 tb_270 tb_600 tb_1 ⟨rfl, hdX6_readNewLeader⟩ ⟨rfl, rfl⟩ ⟨Nat.le_of_ble_eq_true rfl, Nat.le_of_ble_eq_true rfl⟩ cw_adr rfl rfl (Nat.le_of_ble_eq_true rfl) ⟨Nat.le_refl _, Nat.le_refl _⟩ dX6_down_77 rfl ?_
          refine g_goto F dX6_down_80 (tgt := 106) rfl ?_
          refine g_iload F dX6_down_106 1 rfl ?_
          exact g_iret F hr hlk dX6_down_108 ⟨congrArg (fun t => some (Value.int (Int32.ofNat t))) (Eq.symm (by unfold r_X6_down; first | simp only [if_neg h6, if_neg h30, if_neg h54, if_pos h70] | rfl)), congrArg (fun t => cwld cI cS t ad) (Eq.symm (by unfold w_X6_down; first | simp only [if_neg h6, if_neg h30, if_neg h54, if_pos h70] | rfl))⟩
      · refine g_aload_n F dX6_down_57 4 rfl ?_
        refine g_iload_n F dX6_down_58 5 rfl ?_
        refine g_iload F dX6_down_59 0 rfl ?_
        refine f_callV F (As := [.int (Int32.ofNat v), .int (Int32.ofNat (r_X2_firstValue_d c v))]) (rest := []) (st' := []) (k_X6_readNewEpoch l D cI cS cZ ad (w_X2_dropFirst_d c v) v (r_X2_firstValue_d c v) (hasRole1 h6 hk).1 (cb_X2_dropFirst_d hc)) pl_ET rfl tb_268 tb_266 tb_267 tb_599 tb_1 ⟨rfl, hdX6_readNewEpoch⟩ ⟨rfl, rfl⟩ ⟨Nat.le_of_ble_eq_true rfl, Nat.le_of_ble_eq_true rfl⟩ cw_adr rfl rfl (Nat.le_of_ble_eq_true rfl) ⟨Nat.le_refl _, Nat.le_refl _⟩ dX6_down_61 rfl ?_
        refine g_goto F dX6_down_64 (tgt := 106) rfl ?_
        refine g_iload F dX6_down_106 1 rfl ?_
        exact g_iret F hr hlk dX6_down_108 ⟨congrArg (fun t => some (Value.int (Int32.ofNat t))) (Eq.symm (by unfold r_X6_down; first | simp only [if_neg h6, if_neg h30, if_pos h54] | rfl)), congrArg (fun t => cwld cI cS t ad) (Eq.symm (by unfold w_X6_down; first | simp only [if_neg h6, if_neg h30, if_pos h54] | rfl))⟩
    · refine f_iconst F 0 dX6_down_33 rfl ?_
      exact g_iret F hr hlk dX6_down_34 ⟨congrArg (fun t => some (Value.int (Int32.ofNat t))) (Eq.symm (by unfold r_X6_down; first | simp only [if_neg h6, if_pos h30] | rfl)), congrArg (fun t => cwld cI cS t ad) (Eq.symm (by unfold w_X6_down; first | simp only [if_neg h6, if_pos h30] | rfl))⟩
  · refine f_iconst F 0 dX6_down_9 rfl ?_
    exact g_iret F hr hlk dX6_down_10 ⟨congrArg (fun t => some (Value.int (Int32.ofNat t))) (Eq.symm (by unfold r_X6_down; first | simp only [if_pos h6] | rfl)), congrArg (fun t => cwld cI cS t ad) (Eq.symm (by unfold w_X6_down; first | simp only [if_pos h6] | rfl))⟩
def r_X6_submit (c : CS) (v kd pa va vb : Nat) : Nat := if Int32.ofNat (r_X6_isServer c v) = 0 then 4294967295 else (if Int32.ofNat (r_X6_isChange c kd pa vb) = 0 then 4294967295 else (if Int32.ofNat (c 3 v 0) = Int32.ofNat 4 then (if Int32.ofNat (r_X0_isFull c v) = 0 then ((w_X6_makeEntry c v kd pa va vb) 6 v 0) else 4294967293) else 4294967294))
def w_X6_submit (c : CS) (v kd pa va vb : Nat) : CS := if Int32.ofNat (r_X6_isServer c v) = 0 then c else (if Int32.ofNat (r_X6_isChange c kd pa vb) = 0 then c else (if Int32.ofNat (c 3 v 0) = Int32.ofNat 4 then (if Int32.ofNat (r_X0_isFull c v) = 0 then (w_X6_makeEntry c v kd pa va vb) else c) else c))
abbrev rm_X6_submit : Room := { frames := 3, cells := 0, slots := 0, locals := 72 }
set_option maxHeartbeats 4000000 in
set_option maxRecDepth 100000 in
theorem k_X6_submit (l : Launch) (D : va_G) (cI cS cZ : ClassId) (ad : Nat → Nat) (c : CS) (v kd pa va vb : Nat) (hk : v < 4294967296) (hk2 : pa < 4294967296) (hc : CB c) : gN l yX6_submit (Cond.code yX6_submit cX6_submit 7 (some .int) :: tb) rm_X6_submit D cls8 (tys3 cI cS cZ) [.ref (ad 0), .int (Int32.ofNat v), .int (Int32.ofNat kd), .int (Int32.ofNat pa), .int (Int32.ofNat va), .int (Int32.ofNat vb)] (cwld cI cS c ad) (some (.int (Int32.ofNat (r_X6_submit c v kd pa va vb)))) (cwld cI cS (w_X6_submit c v kd pa va vb) ad) := by
  unfold gN
  refine g_head (by decide) rfl (Nat.le_of_ble_eq_true rfl) ?_
  intro p e s m args below meth cd A F hr hlk hnm
  refine g_eq rfl (L' := [(0, .ref (ad 0)), (1, .int (Int32.ofNat v)), (2, .int (Int32.ofNat kd)), (3, .int (Int32.ofNat pa)), (4, .int (Int32.ofNat va)), (5, .int (Int32.ofNat vb))]) rfl rfl rfl ?_
  refine g_iload_n F dX6_submit_0 1 rfl ?_
  refine f_callS F (av := [.int (Int32.ofNat v)]) (rest := []) (st' := [.int (Int32.ofNat (r_X6_isServer c v))]) (k_X6_isServer l D cI cS cZ ad c v) tb_130 tb_128 tb_129 tb_1 hdX6_isServer ⟨rfl, rfl⟩ ⟨Nat.le_of_ble_eq_true rfl, Nat.le_of_ble_eq_true rfl⟩ cw_adr rfl rfl (Nat.le_of_ble_eq_true rfl) ⟨Nat.le_refl _, Nat.le_refl _⟩ dX6_submit_1 rfl ?_
  refine g_if_eq F dX6_submit_4 (tgt := 17) rfl (fun h4 => ?_) (fun h4 => ?_)
  · refine f_iconst F 4294967295 dX6_submit_17 rfl ?_
    exact g_iret F hr hlk dX6_submit_18 ⟨congrArg (fun t => some (Value.int (Int32.ofNat t))) (Eq.symm (by unfold r_X6_submit; first | simp only [if_pos h4] | rfl)), congrArg (fun t => cwld cI cS t ad) (Eq.symm (by unfold w_X6_submit; first | simp only [if_pos h4] | rfl))⟩
  · refine g_iload_n F dX6_submit_7 2 rfl ?_
    refine g_iload_n F dX6_submit_8 3 rfl ?_
    refine g_iload F dX6_submit_9 5 rfl ?_
    refine f_callS F (av := [.int (Int32.ofNat kd), .int (Int32.ofNat pa), .int (Int32.ofNat vb)]) (rest := []) (st' := [.int (Int32.ofNat (r_X6_isChange c kd pa vb))]) (k_X6_isChange l D cI cS cZ ad c kd pa vb hk2) tb_281 tb_279 tb_280 tb_1 hdX6_isChange ⟨rfl, rfl⟩ ⟨Nat.le_of_ble_eq_true rfl, Nat.le_of_ble_eq_true rfl⟩ cw_adr rfl rfl (Nat.le_of_ble_eq_true rfl) ⟨Nat.le_refl _, Nat.le_refl _⟩ dX6_submit_11 rfl ?_
    refine g_if_ne F dX6_submit_14 (tgt := 19) rfl (fun h14 => ?_) (fun h14 => ?_)
    · refine g_aload_n F dX6_submit_19 0 rfl ?_
      refine f_get F inX6 pl_ET rfl 0 (by decide) tb_119 rfl (v := .ref (ad 1)) rfl dX6_submit_20 ?_
      refine g_iload_n F dX6_submit_23 1 rfl ?_
      refine f_srv F (isServer1 h4 hk) dX6_submit_24 ?_
      refine g_astore F [(6, .ref (ad (2 + 22 * v))), (0, .ref (ad 0)), (1, .int (Int32.ofNat v)), (2, .int (Int32.ofNat kd)), (3, .int (Int32.ofNat pa)), (4, .int (Int32.ofNat va)), (5, .int (Int32.ofNat vb))] dX6_submit_25 (by decide) rfl ?_
      refine g_aload F dX6_submit_27 0 rfl ?_
      refine f_getN F inX3 (pl_SV (isServer1 h4 hk)) rfl 4 (by decide) nb_26 rfl (v := .int (Int32.ofNat (c 3 v 0))) rfl dX6_submit_29 ?_
      refine f_iconst F 4 dX6_submit_32 rfl ?_
      refine g_icmp_eq F dX6_submit_33 (tgt := 39) rfl (fun h33 => ?_) (fun h33 => ?_)
      · refine g_aload F dX6_submit_39 0 rfl ?_
        refine f_getN F inX3 (pl_SV (isServer1 h4 hk)) rfl 3 (by decide) nb_25 rfl (v := .ref (ad (2 + 22 * v + 1))) rfl dX6_submit_41 ?_
        refine f_callVN F (As := []) (rest := []) (st' := [.int (Int32.ofNat (r_X0_isFull c v))]) (k_X0_isFull l D cI cS cZ ad c v (isServer1 h4 hk)) (pl_EL (isServer1 h4 hk)) rfl tb_210 nb_49 tb_209 tb_583 tb_3 hdX0_isFull ⟨rfl, rfl⟩ ⟨Nat.le_of_ble_eq_true rfl, Nat.le_of_ble_eq_true rfl⟩ cw_adr rfl rfl (Nat.le_of_ble_eq_true rfl) ⟨Nat.le_refl _, Nat.le_refl _⟩ dX6_submit_44 rfl ?_
        refine g_if_eq F dX6_submit_47 (tgt := 53) rfl (fun h47 => ?_) (fun h47 => ?_)
        · refine g_aload_n F dX6_submit_53 1 rfl ?_
          refine g_aload F dX6_submit_54 0 rfl ?_
          refine g_iload_n F dX6_submit_56 3 rfl ?_
          refine g_iload_n F dX6_submit_57 4 rfl ?_
          refine g_iload F dX6_submit_58 5 rfl ?_
          refine g_iload F dX6_submit_60 6 rfl ?_
          refine f_callV F (As := [.ref (ad (2 + 22 * v)), .int (Int32.ofNat kd), .int (Int32.ofNat pa), .int (Int32.ofNat va), .int (Int32.ofNat vb)]) (rest := []) (st' := []) (k_X6_makeEntry l D cI cS cZ ad c v kd pa va vb (isServer1 h4 hk) hc) pl_ET rfl tb_288 tb_286 tb_287 tb_602 tb_1 ⟨rfl, hdX6_makeEntry⟩ ⟨rfl, rfl⟩ ⟨Nat.le_of_ble_eq_true rfl, Nat.le_of_ble_eq_true rfl⟩ cw_adr rfl rfl (Nat.le_of_ble_eq_true rfl) ⟨Nat.le_refl _, Nat.le_refl _⟩ dX6_submit_62 rfl ?_
          refine g_aload F dX6_submit_65 0 rfl ?_
          refine f_getN F inX3 (pl_SV (isServer1 h4 hk)) rfl 3 (by decide) nb_25 rfl (v := .ref (ad (2 + 22 * v + 1))) rfl dX6_submit_67 ?_
          refine f_getN F inX0 (pl_EL (isServer1 h4 hk)) rfl 5 (by decide) nb_8 rfl (v := .int (Int32.ofNat ((w_X6_makeEntry c v kd pa va vb) 6 v 0))) rfl dX6_submit_70 ?_
          exact g_iret F hr hlk dX6_submit_73 ⟨congrArg (fun t => some (Value.int (Int32.ofNat t))) (Eq.symm (by unfold r_X6_submit; first | simp only [if_neg h4, if_neg h14, if_pos h33, if_pos h47] | rfl)), congrArg (fun t => cwld cI cS t ad) (Eq.symm (by unfold w_X6_submit; first | simp only [if_neg h4, if_neg h14, if_pos h33, if_pos h47] | rfl))⟩
        · refine f_bipush F 4294967293 dX6_submit_50 rfl ?_
          exact g_iret F hr hlk dX6_submit_52 ⟨congrArg (fun t => some (Value.int (Int32.ofNat t))) (Eq.symm (by unfold r_X6_submit; first | simp only [if_neg h4, if_neg h14, if_pos h33, if_neg h47] | rfl)), congrArg (fun t => cwld cI cS t ad) (Eq.symm (by unfold w_X6_submit; first | simp only [if_neg h4, if_neg h14, if_pos h33, if_neg h47] | rfl))⟩
      · refine f_bipush F 4294967294 dX6_submit_36 rfl ?_
        exact g_iret F hr hlk dX6_submit_38 ⟨congrArg (fun t => some (Value.int (Int32.ofNat t))) (Eq.symm (by unfold r_X6_submit; first | simp only [if_neg h4, if_neg h14, if_neg h33] | rfl)), congrArg (fun t => cwld cI cS t ad) (Eq.symm (by unfold w_X6_submit; first | simp only [if_neg h4, if_neg h14, if_neg h33] | rfl))⟩
    · refine f_iconst F 4294967295 dX6_submit_17 rfl ?_
      exact g_iret F hr hlk dX6_submit_18 ⟨congrArg (fun t => some (Value.int (Int32.ofNat t))) (Eq.symm (by unfold r_X6_submit; first | simp only [if_neg h4, if_pos h14] | rfl)), congrArg (fun t => cwld cI cS t ad) (Eq.symm (by unfold w_X6_submit; first | simp only [if_neg h4, if_pos h14] | rfl))⟩
def r_X6_touch (c : CS) (v w : Nat) : Nat := if Int32.ofNat (r_X6_hasRole c v 4) = 0 then 0 else (if Int32.ofNat (r_X6_isSession c w) = 0 then 0 else (if Int32.ofNat (r_X5_isOpen c v w) = 0 then 0 else 1))
def w_X6_touch (c : CS) (v w : Nat) : CS := if Int32.ofNat (r_X6_hasRole c v 4) = 0 then c else (if Int32.ofNat (r_X6_isSession c w) = 0 then c else (if Int32.ofNat (r_X5_isOpen c v w) = 0 then c else (su3 c 34 v w 0)))
abbrev rm_X6_touch : Room := { frames := 2, cells := 0, slots := 0, locals := 42 }
set_option maxHeartbeats 4000000 in
set_option maxRecDepth 100000 in
theorem k_X6_touch (l : Launch) (D : va_G) (cI cS cZ : ClassId) (ad : Nat → Nat) (c : CS) (v w : Nat) (hk : v < 4294967296) (hk2 : w < 4294967296) (hc : CB c) : gN l yX6_touch (Cond.code yX6_touch cX6_touch 4 (some .boolean) :: tb) rm_X6_touch D cls8 (tys3 cI cS cZ) [.ref (ad 0), .int (Int32.ofNat v), .int (Int32.ofNat w)] (cwld cI cS c ad) (some (.int (Int32.ofNat (r_X6_touch c v w)))) (cwld cI cS (w_X6_touch c v w) ad) := by
  unfold gN
  refine g_head (by decide) rfl (Nat.le_of_ble_eq_true rfl) ?_
  intro p e s m args below meth cd A F hr hlk hnm
  refine g_eq rfl (L' := [(0, .ref (ad 0)), (1, .int (Int32.ofNat v)), (2, .int (Int32.ofNat w))]) rfl rfl rfl ?_
  refine g_aload_n F dX6_touch_0 0 rfl ?_
  refine g_iload_n F dX6_touch_1 1 rfl ?_
  refine f_iconst F 4 dX6_touch_2 rfl ?_
  refine f_callV F (As := [.int (Int32.ofNat v), .int (Int32.ofNat 4)]) (rest := []) (st' := [.int (Int32.ofNat (r_X6_hasRole c v 4))]) (k_X6_hasRole l D cI cS cZ ad c v 4 (by assumption)) pl_ET rfl tb_127 tb_125 tb_126 tb_564 tb_1 ⟨rfl, hdX6_hasRole⟩ ⟨rfl, rfl⟩ ⟨Nat.le_of_ble_eq_true rfl, Nat.le_of_ble_eq_true rfl⟩ cw_adr rfl rfl (Nat.le_of_ble_eq_true rfl) ⟨Nat.le_refl _, Nat.le_refl _⟩ dX6_touch_3 rfl ?_
  refine g_if_eq F dX6_touch_6 (tgt := 16) rfl (fun h6 => ?_) (fun h6 => ?_)
  · refine f_iconst F 0 dX6_touch_16 rfl ?_
    exact g_zret F hr hlk rfl dX6_touch_17 ⟨congrArg (fun t => some (Value.int (Int32.ofNat t))) (Eq.symm (by unfold r_X6_touch; first | simp only [if_pos h6] | rfl)), congrArg (fun t => cwld cI cS t ad) (Eq.symm (by unfold w_X6_touch; first | simp only [if_pos h6] | rfl))⟩
  · refine g_iload_n F dX6_touch_9 2 rfl ?_
    refine f_callS F (av := [.int (Int32.ofNat w)]) (rest := []) (st' := [.int (Int32.ofNat (r_X6_isSession c w))]) (k_X6_isSession l D cI cS cZ ad c w) tb_234 tb_285 tb_233 tb_1 hdX6_isSession ⟨rfl, rfl⟩ ⟨Nat.le_of_ble_eq_true rfl, Nat.le_of_ble_eq_true rfl⟩ cw_adr rfl rfl (Nat.le_of_ble_eq_true rfl) ⟨Nat.le_refl _, Nat.le_refl _⟩ dX6_touch_10 rfl ?_
    refine g_if_ne F dX6_touch_13 (tgt := 18) rfl (fun h13 => ?_) (fun h13 => ?_)
    · refine g_aload_n F dX6_touch_18 0 rfl ?_
      refine f_get F inX6 pl_ET rfl 0 (by decide) tb_119 rfl (v := .ref (ad 1)) rfl dX6_touch_19 ?_
      refine g_iload_n F dX6_touch_22 1 rfl ?_
      refine f_srv F (hasRole1 h6 hk).1 dX6_touch_23 ?_
      refine g_astore_n F [(3, .ref (ad (2 + 22 * v))), (0, .ref (ad 0)), (1, .int (Int32.ofNat v)), (2, .int (Int32.ofNat w))] dX6_touch_24 (by decide) rfl ?_
      refine g_aload_n F dX6_touch_25 0 rfl ?_
      refine f_getN F inX3 (pl_SV (hasRole1 h6 hk).1) rfl 8 (by decide) nb_30 rfl (v := .ref (ad (2 + 22 * v + 2))) rfl dX6_touch_26 ?_
      refine g_iload_n F dX6_touch_29 3 rfl ?_
      refine f_callVN F (As := [.int (Int32.ofNat w)]) (rest := []) (st' := [.int (Int32.ofNat (r_X5_isOpen c v w))]) (k_X5_isOpen l D cI cS cZ ad c v w (hasRole1 h6 hk).1) (pl_TR (hasRole1 h6 hk).1) rfl tb_232 nb_51 tb_231 tb_589 tb_4 hdX5_isOpen ⟨rfl, rfl⟩ ⟨Nat.le_of_ble_eq_true rfl, Nat.le_of_ble_eq_true rfl⟩ cw_adr rfl rfl (Nat.le_of_ble_eq_true rfl) ⟨Nat.le_refl _, Nat.le_refl _⟩ dX6_touch_30 rfl ?_
      refine g_if_ne F dX6_touch_33 (tgt := 38) rfl (fun h33 => ?_) (fun h33 => ?_)
      · refine g_aload_n F dX6_touch_38 0 rfl ?_
        refine f_getN F inX3 (pl_SV (hasRole1 h6 hk).1) rfl 10 (by decide) nb_32 rfl (v := .ref (ad (2 + 22 * v + 4))) rfl dX6_touch_39 ?_
        refine f_getN F inX4 (pl_TM (hasRole1 h6 hk).1) rfl 3 (by decide) nb_21 rfl (v := .ref (ad (2 + 22 * v + 21))) rfl dX6_touch_42 ?_
        refine g_iload_n F dX6_touch_45 3 rfl ?_
        refine f_iconst F 0 dX6_touch_46 rfl ?_
        refine f_ast F 0 (pl_34 (hasRole1 h6 hk).1) rfl (j := w) (v := 0) (by have := isSession1 h13 hk2; omega) (by decide) dX6_touch_47 (ps_34 (hasRole1 h6 hk).1) ?_
        refine f_iconst F 1 dX6_touch_48 rfl ?_
        exact g_zret F hr hlk rfl dX6_touch_49 ⟨congrArg (fun t => some (Value.int (Int32.ofNat t))) (Eq.symm (by unfold r_X6_touch; first | simp only [if_neg h6, if_neg h13, if_neg h33] | rfl)), congrArg (fun t => cwld cI cS t ad) (Eq.symm (by unfold w_X6_touch; first | simp only [if_neg h6, if_neg h13, if_neg h33] | rfl))⟩
      · refine f_iconst F 0 dX6_touch_36 rfl ?_
        exact g_zret F hr hlk rfl dX6_touch_37 ⟨congrArg (fun t => some (Value.int (Int32.ofNat t))) (Eq.symm (by unfold r_X6_touch; first | simp only [if_neg h6, if_neg h13, if_pos h33] | rfl)), congrArg (fun t => cwld cI cS t ad) (Eq.symm (by unfold w_X6_touch; first | simp only [if_neg h6, if_neg h13, if_pos h33] | rfl))⟩
    · refine f_iconst F 0 dX6_touch_16 rfl ?_
      exact g_zret F hr hlk rfl dX6_touch_17 ⟨congrArg (fun t => some (Value.int (Int32.ofNat t))) (Eq.symm (by unfold r_X6_touch; first | simp only [if_neg h6, if_pos h13] | rfl)), congrArg (fun t => cwld cI cS t ad) (Eq.symm (by unfold w_X6_touch; first | simp only [if_neg h6, if_pos h13] | rfl))⟩
def r_X6_role (c : CS) (v : Nat) : Nat := if Int32.ofNat (r_X6_isServer c v) = 0 then 4294967295 else (c 3 v 0)
abbrev rm_X6_role : Room := { frames := 1, cells := 0, slots := 0, locals := 20 }
set_option maxHeartbeats 4000000 in
set_option maxRecDepth 100000 in
theorem k_X6_role (l : Launch) (D : va_G) (cI cS cZ : ClassId) (ad : Nat → Nat) (c : CS) (v : Nat) (hk : v < 4294967296) (hc : CB c) : gN l yX6_role (Cond.code yX6_role cX6_role 2 (some .int) :: tb) rm_X6_role D cls8 (tys3 cI cS cZ) [.ref (ad 0), .int (Int32.ofNat v)] (cwld cI cS c ad) (some (.int (Int32.ofNat (r_X6_role c v)))) (cwld cI cS c ad) := by
  unfold gN
  refine g_head (by decide) rfl (Nat.le_of_ble_eq_true rfl) ?_
  intro p e s m args below meth cd A F hr hlk hnm
  refine g_eq rfl (L' := [(0, .ref (ad 0)), (1, .int (Int32.ofNat v))]) rfl rfl rfl ?_
  refine g_iload_n F dX6_role_0 1 rfl ?_
  refine f_callS F (av := [.int (Int32.ofNat v)]) (rest := []) (st' := [.int (Int32.ofNat (r_X6_isServer c v))]) (k_X6_isServer l D cI cS cZ ad c v) tb_130 tb_128 tb_129 tb_1 hdX6_isServer ⟨rfl, rfl⟩ ⟨Nat.le_of_ble_eq_true rfl, Nat.le_of_ble_eq_true rfl⟩ cw_adr rfl rfl (Nat.le_of_ble_eq_true rfl) ⟨Nat.le_refl _, Nat.le_refl _⟩ dX6_role_1 rfl ?_
  refine g_if_eq F dX6_role_4 (tgt := 19) rfl (fun h4 => ?_) (fun h4 => ?_)
  · refine f_iconst F 4294967295 dX6_role_19 rfl ?_
    exact g_iret F hr hlk dX6_role_20 ⟨congrArg (fun t => some (Value.int (Int32.ofNat t))) (Eq.symm (by unfold r_X6_role; first | simp only [if_pos h4] | rfl)), rfl⟩
  · refine g_aload_n F dX6_role_7 0 rfl ?_
    refine f_get F inX6 pl_ET rfl 0 (by decide) tb_119 rfl (v := .ref (ad 1)) rfl dX6_role_8 ?_
    refine g_iload_n F dX6_role_11 1 rfl ?_
    refine f_srv F (isServer1 h4 hk) dX6_role_12 ?_
    refine f_getN F inX3 (pl_SV (isServer1 h4 hk)) rfl 4 (by decide) nb_26 rfl (v := .int (Int32.ofNat (c 3 v 0))) rfl dX6_role_13 ?_
    refine g_goto F dX6_role_16 (tgt := 20) rfl ?_
    exact g_iret F hr hlk dX6_role_20 ⟨congrArg (fun t => some (Value.int (Int32.ofNat t))) (Eq.symm (by unfold r_X6_role; first | simp only [if_neg h4] | rfl)), rfl⟩
def r_X6_promise (c : CS) (v : Nat) : Nat := if Int32.ofNat (r_X6_isServer c v) = 0 then 4294967295 else (c 1 v 0)
abbrev rm_X6_promise : Room := { frames := 1, cells := 0, slots := 0, locals := 20 }
set_option maxHeartbeats 4000000 in
set_option maxRecDepth 100000 in
theorem k_X6_promise (l : Launch) (D : va_G) (cI cS cZ : ClassId) (ad : Nat → Nat) (c : CS) (v : Nat) (hk : v < 4294967296) (hc : CB c) : gN l yX6_promise (Cond.code yX6_promise cX6_promise 2 (some .int) :: tb) rm_X6_promise D cls8 (tys3 cI cS cZ) [.ref (ad 0), .int (Int32.ofNat v)] (cwld cI cS c ad) (some (.int (Int32.ofNat (r_X6_promise c v)))) (cwld cI cS c ad) := by
  unfold gN
  refine g_head (by decide) rfl (Nat.le_of_ble_eq_true rfl) ?_
  intro p e s m args below meth cd A F hr hlk hnm
  refine g_eq rfl (L' := [(0, .ref (ad 0)), (1, .int (Int32.ofNat v))]) rfl rfl rfl ?_
  refine g_iload_n F dX6_promise_0 1 rfl ?_
  refine f_callS F (av := [.int (Int32.ofNat v)]) (rest := []) (st' := [.int (Int32.ofNat (r_X6_isServer c v))]) (k_X6_isServer l D cI cS cZ ad c v) tb_130 tb_128 tb_129 tb_1 hdX6_isServer ⟨rfl, rfl⟩ ⟨Nat.le_of_ble_eq_true rfl, Nat.le_of_ble_eq_true rfl⟩ cw_adr rfl rfl (Nat.le_of_ble_eq_true rfl) ⟨Nat.le_refl _, Nat.le_refl _⟩ dX6_promise_1 rfl ?_
  refine g_if_eq F dX6_promise_4 (tgt := 19) rfl (fun h4 => ?_) (fun h4 => ?_)
  · refine f_iconst F 4294967295 dX6_promise_19 rfl ?_
    exact g_iret F hr hlk dX6_promise_20 ⟨congrArg (fun t => some (Value.int (Int32.ofNat t))) (Eq.symm (by unfold r_X6_promise; first | simp only [if_pos h4] | rfl)), rfl⟩
  · refine g_aload_n F dX6_promise_7 0 rfl ?_
    refine f_get F inX6 pl_ET rfl 0 (by decide) tb_119 rfl (v := .ref (ad 1)) rfl dX6_promise_8 ?_
    refine g_iload_n F dX6_promise_11 1 rfl ?_
    refine f_srv F (isServer1 h4 hk) dX6_promise_12 ?_
    refine f_getN F inX3 (pl_SV (isServer1 h4 hk)) rfl 1 (by decide) nb_23 rfl (v := .int (Int32.ofNat (c 1 v 0))) rfl dX6_promise_13 ?_
    refine g_goto F dX6_promise_16 (tgt := 20) rfl ?_
    exact g_iret F hr hlk dX6_promise_20 ⟨congrArg (fun t => some (Value.int (Int32.ofNat t))) (Eq.symm (by unfold r_X6_promise; first | simp only [if_neg h4] | rfl)), rfl⟩
def r_X6_epoch (c : CS) (v : Nat) : Nat := if Int32.ofNat (r_X6_isServer c v) = 0 then 4294967295 else (c 2 v 0)
abbrev rm_X6_epoch : Room := { frames := 1, cells := 0, slots := 0, locals := 20 }
set_option maxHeartbeats 4000000 in
set_option maxRecDepth 100000 in
theorem k_X6_epoch (l : Launch) (D : va_G) (cI cS cZ : ClassId) (ad : Nat → Nat) (c : CS) (v : Nat) (hk : v < 4294967296) (hc : CB c) : gN l yX6_epoch (Cond.code yX6_epoch cX6_epoch 2 (some .int) :: tb) rm_X6_epoch D cls8 (tys3 cI cS cZ) [.ref (ad 0), .int (Int32.ofNat v)] (cwld cI cS c ad) (some (.int (Int32.ofNat (r_X6_epoch c v)))) (cwld cI cS c ad) := by
  unfold gN
  refine g_head (by decide) rfl (Nat.le_of_ble_eq_true rfl) ?_
  intro p e s m args below meth cd A F hr hlk hnm
  refine g_eq rfl (L' := [(0, .ref (ad 0)), (1, .int (Int32.ofNat v))]) rfl rfl rfl ?_
  refine g_iload_n F dX6_epoch_0 1 rfl ?_
  refine f_callS F (av := [.int (Int32.ofNat v)]) (rest := []) (st' := [.int (Int32.ofNat (r_X6_isServer c v))]) (k_X6_isServer l D cI cS cZ ad c v) tb_130 tb_128 tb_129 tb_1 hdX6_isServer ⟨rfl, rfl⟩ ⟨Nat.le_of_ble_eq_true rfl, Nat.le_of_ble_eq_true rfl⟩ cw_adr rfl rfl (Nat.le_of_ble_eq_true rfl) ⟨Nat.le_refl _, Nat.le_refl _⟩ dX6_epoch_1 rfl ?_
  refine g_if_eq F dX6_epoch_4 (tgt := 19) rfl (fun h4 => ?_) (fun h4 => ?_)
  · refine f_iconst F 4294967295 dX6_epoch_19 rfl ?_
    exact g_iret F hr hlk dX6_epoch_20 ⟨congrArg (fun t => some (Value.int (Int32.ofNat t))) (Eq.symm (by unfold r_X6_epoch; first | simp only [if_pos h4] | rfl)), rfl⟩
  · refine g_aload_n F dX6_epoch_7 0 rfl ?_
    refine f_get F inX6 pl_ET rfl 0 (by decide) tb_119 rfl (v := .ref (ad 1)) rfl dX6_epoch_8 ?_
    refine g_iload_n F dX6_epoch_11 1 rfl ?_
    refine f_srv F (isServer1 h4 hk) dX6_epoch_12 ?_
    refine f_getN F inX3 (pl_SV (isServer1 h4 hk)) rfl 2 (by decide) nb_24 rfl (v := .int (Int32.ofNat (c 2 v 0))) rfl dX6_epoch_13 ?_
    refine g_goto F dX6_epoch_16 (tgt := 20) rfl ?_
    exact g_iret F hr hlk dX6_epoch_20 ⟨congrArg (fun t => some (Value.int (Int32.ofNat t))) (Eq.symm (by unfold r_X6_epoch; first | simp only [if_neg h4] | rfl)), rfl⟩
def r_X6_length (c : CS) (v : Nat) : Nat := if Int32.ofNat (r_X6_isServer c v) = 0 then 4294967295 else (c 6 v 0)
abbrev rm_X6_length : Room := { frames := 1, cells := 0, slots := 0, locals := 20 }
set_option maxHeartbeats 4000000 in
set_option maxRecDepth 100000 in
theorem k_X6_length (l : Launch) (D : va_G) (cI cS cZ : ClassId) (ad : Nat → Nat) (c : CS) (v : Nat) (hk : v < 4294967296) (hc : CB c) : gN l yX6_length (Cond.code yX6_length cX6_length 2 (some .int) :: tb) rm_X6_length D cls8 (tys3 cI cS cZ) [.ref (ad 0), .int (Int32.ofNat v)] (cwld cI cS c ad) (some (.int (Int32.ofNat (r_X6_length c v)))) (cwld cI cS c ad) := by
  unfold gN
  refine g_head (by decide) rfl (Nat.le_of_ble_eq_true rfl) ?_
  intro p e s m args below meth cd A F hr hlk hnm
  refine g_eq rfl (L' := [(0, .ref (ad 0)), (1, .int (Int32.ofNat v))]) rfl rfl rfl ?_
  refine g_iload_n F dX6_length_0 1 rfl ?_
  refine f_callS F (av := [.int (Int32.ofNat v)]) (rest := []) (st' := [.int (Int32.ofNat (r_X6_isServer c v))]) (k_X6_isServer l D cI cS cZ ad c v) tb_130 tb_128 tb_129 tb_1 hdX6_isServer ⟨rfl, rfl⟩ ⟨Nat.le_of_ble_eq_true rfl, Nat.le_of_ble_eq_true rfl⟩ cw_adr rfl rfl (Nat.le_of_ble_eq_true rfl) ⟨Nat.le_refl _, Nat.le_refl _⟩ dX6_length_1 rfl ?_
  refine g_if_eq F dX6_length_4 (tgt := 22) rfl (fun h4 => ?_) (fun h4 => ?_)
  · refine f_iconst F 4294967295 dX6_length_22 rfl ?_
    exact g_iret F hr hlk dX6_length_23 ⟨congrArg (fun t => some (Value.int (Int32.ofNat t))) (Eq.symm (by unfold r_X6_length; first | simp only [if_pos h4] | rfl)), rfl⟩
  · refine g_aload_n F dX6_length_7 0 rfl ?_
    refine f_get F inX6 pl_ET rfl 0 (by decide) tb_119 rfl (v := .ref (ad 1)) rfl dX6_length_8 ?_
    refine g_iload_n F dX6_length_11 1 rfl ?_
    refine f_srv F (isServer1 h4 hk) dX6_length_12 ?_
    refine f_getN F inX3 (pl_SV (isServer1 h4 hk)) rfl 3 (by decide) nb_25 rfl (v := .ref (ad (2 + 22 * v + 1))) rfl dX6_length_13 ?_
    refine f_getN F inX0 (pl_EL (isServer1 h4 hk)) rfl 5 (by decide) nb_8 rfl (v := .int (Int32.ofNat (c 6 v 0))) rfl dX6_length_16 ?_
    refine g_goto F dX6_length_19 (tgt := 23) rfl ?_
    exact g_iret F hr hlk dX6_length_23 ⟨congrArg (fun t => some (Value.int (Int32.ofNat t))) (Eq.symm (by unfold r_X6_length; first | simp only [if_neg h4] | rfl)), rfl⟩
def r_X6_applied (c : CS) (v : Nat) : Nat := if Int32.ofNat (r_X6_isServer c v) = 0 then 4294967295 else (c 5 v 0)
abbrev rm_X6_applied : Room := { frames := 1, cells := 0, slots := 0, locals := 20 }
set_option maxHeartbeats 4000000 in
set_option maxRecDepth 100000 in
theorem k_X6_applied (l : Launch) (D : va_G) (cI cS cZ : ClassId) (ad : Nat → Nat) (c : CS) (v : Nat) (hk : v < 4294967296) (hc : CB c) : gN l yX6_applied (Cond.code yX6_applied cX6_applied 2 (some .int) :: tb) rm_X6_applied D cls8 (tys3 cI cS cZ) [.ref (ad 0), .int (Int32.ofNat v)] (cwld cI cS c ad) (some (.int (Int32.ofNat (r_X6_applied c v)))) (cwld cI cS c ad) := by
  unfold gN
  refine g_head (by decide) rfl (Nat.le_of_ble_eq_true rfl) ?_
  intro p e s m args below meth cd A F hr hlk hnm
  refine g_eq rfl (L' := [(0, .ref (ad 0)), (1, .int (Int32.ofNat v))]) rfl rfl rfl ?_
  refine g_iload_n F dX6_applied_0 1 rfl ?_
  refine f_callS F (av := [.int (Int32.ofNat v)]) (rest := []) (st' := [.int (Int32.ofNat (r_X6_isServer c v))]) (k_X6_isServer l D cI cS cZ ad c v) tb_130 tb_128 tb_129 tb_1 hdX6_isServer ⟨rfl, rfl⟩ ⟨Nat.le_of_ble_eq_true rfl, Nat.le_of_ble_eq_true rfl⟩ cw_adr rfl rfl (Nat.le_of_ble_eq_true rfl) ⟨Nat.le_refl _, Nat.le_refl _⟩ dX6_applied_1 rfl ?_
  refine g_if_eq F dX6_applied_4 (tgt := 19) rfl (fun h4 => ?_) (fun h4 => ?_)
  · refine f_iconst F 4294967295 dX6_applied_19 rfl ?_
    exact g_iret F hr hlk dX6_applied_20 ⟨congrArg (fun t => some (Value.int (Int32.ofNat t))) (Eq.symm (by unfold r_X6_applied; first | simp only [if_pos h4] | rfl)), rfl⟩
  · refine g_aload_n F dX6_applied_7 0 rfl ?_
    refine f_get F inX6 pl_ET rfl 0 (by decide) tb_119 rfl (v := .ref (ad 1)) rfl dX6_applied_8 ?_
    refine g_iload_n F dX6_applied_11 1 rfl ?_
    refine f_srv F (isServer1 h4 hk) dX6_applied_12 ?_
    refine f_getN F inX3 (pl_SV (isServer1 h4 hk)) rfl 6 (by decide) nb_28 rfl (v := .int (Int32.ofNat (c 5 v 0))) rfl dX6_applied_13 ?_
    refine g_goto F dX6_applied_16 (tgt := 20) rfl ?_
    exact g_iret F hr hlk dX6_applied_20 ⟨congrArg (fun t => some (Value.int (Int32.ofNat t))) (Eq.symm (by unfold r_X6_applied; first | simp only [if_neg h4] | rfl)), rfl⟩
def r_X6_tree (c : CS) (v : Nat) : Nat := if Int32.ofNat (r_X6_isServer c v) = 0 then 4294967295 else (r_X5_summary c v)
abbrev rm_X6_tree : Room := { frames := 1, cells := 0, slots := 0, locals := 20 }
set_option maxHeartbeats 4000000 in
set_option maxRecDepth 100000 in
theorem k_X6_tree (l : Launch) (D : va_G) (cI cS cZ : ClassId) (ad : Nat → Nat) (c : CS) (v : Nat) (hk : v < 4294967296) (hc : CB c) : gN l yX6_tree (Cond.code yX6_tree cX6_tree 2 (some .int) :: tb) rm_X6_tree D cls8 (tys3 cI cS cZ) [.ref (ad 0), .int (Int32.ofNat v)] (cwld cI cS c ad) (some (.int (Int32.ofNat (r_X6_tree c v)))) (cwld cI cS c ad) := by
  unfold gN
  refine g_head (by decide) rfl (Nat.le_of_ble_eq_true rfl) ?_
  intro p e s m args below meth cd A F hr hlk hnm
  refine g_eq rfl (L' := [(0, .ref (ad 0)), (1, .int (Int32.ofNat v))]) rfl rfl rfl ?_
  refine g_iload_n F dX6_tree_0 1 rfl ?_
  refine f_callS F (av := [.int (Int32.ofNat v)]) (rest := []) (st' := [.int (Int32.ofNat (r_X6_isServer c v))]) (k_X6_isServer l D cI cS cZ ad c v) tb_130 tb_128 tb_129 tb_1 hdX6_isServer ⟨rfl, rfl⟩ ⟨Nat.le_of_ble_eq_true rfl, Nat.le_of_ble_eq_true rfl⟩ cw_adr rfl rfl (Nat.le_of_ble_eq_true rfl) ⟨Nat.le_refl _, Nat.le_refl _⟩ dX6_tree_1 rfl ?_
  refine g_if_eq F dX6_tree_4 (tgt := 22) rfl (fun h4 => ?_) (fun h4 => ?_)
  · refine f_iconst F 4294967295 dX6_tree_22 rfl ?_
    exact g_iret F hr hlk dX6_tree_23 ⟨congrArg (fun t => some (Value.int (Int32.ofNat t))) (Eq.symm (by unfold r_X6_tree; first | simp only [if_pos h4] | rfl)), rfl⟩
  · refine g_aload_n F dX6_tree_7 0 rfl ?_
    refine f_get F inX6 pl_ET rfl 0 (by decide) tb_119 rfl (v := .ref (ad 1)) rfl dX6_tree_8 ?_
    refine g_iload_n F dX6_tree_11 1 rfl ?_
    refine f_srv F (isServer1 h4 hk) dX6_tree_12 ?_
    refine f_getN F inX3 (pl_SV (isServer1 h4 hk)) rfl 8 (by decide) nb_30 rfl (v := .ref (ad (2 + 22 * v + 2))) rfl dX6_tree_13 ?_
    refine f_callVN F (As := []) (rest := []) (st' := [.int (Int32.ofNat (r_X5_summary c v))]) (k_X5_summary l D cI cS cZ ad c v (isServer1 h4 hk)) (pl_TR (isServer1 h4 hk)) rfl tb_346 nb_54 tb_345 tb_606 tb_4 hdX5_summary ⟨rfl, rfl⟩ ⟨Nat.le_of_ble_eq_true rfl, Nat.le_of_ble_eq_true rfl⟩ cw_adr rfl rfl (Nat.le_of_ble_eq_true rfl) ⟨Nat.le_refl _, Nat.le_refl _⟩ dX6_tree_16 rfl ?_
    refine g_goto F dX6_tree_19 (tgt := 23) rfl ?_
    exact g_iret F hr hlk dX6_tree_23 ⟨congrArg (fun t => some (Value.int (Int32.ofNat t))) (Eq.symm (by unfold r_X6_tree; first | simp only [if_neg h4] | rfl)), rfl⟩
def r_X6_mark (c : CS) (v k : Nat) : Nat := if Int32.ofNat (r_X6_isServer c v) = 0 then 0 else (r_X0_markAt c v k)
abbrev rm_X6_mark : Room := { frames := 1, cells := 0, slots := 0, locals := 21 }
set_option maxHeartbeats 4000000 in
set_option maxRecDepth 100000 in
theorem k_X6_mark (l : Launch) (D : va_G) (cI cS cZ : ClassId) (ad : Nat → Nat) (c : CS) (v k : Nat) (hk : v < 4294967296) (hk2 : k < 4294967296) (hc : CB c) : gN l yX6_mark (Cond.code yX6_mark cX6_mark 3 (some .int) :: tb) rm_X6_mark D cls8 (tys3 cI cS cZ) [.ref (ad 0), .int (Int32.ofNat v), .int (Int32.ofNat k)] (cwld cI cS c ad) (some (.int (Int32.ofNat (r_X6_mark c v k)))) (cwld cI cS c ad) := by
  unfold gN
  refine g_head (by decide) rfl (Nat.le_of_ble_eq_true rfl) ?_
  intro p e s m args below meth cd A F hr hlk hnm
  refine g_eq rfl (L' := [(0, .ref (ad 0)), (1, .int (Int32.ofNat v)), (2, .int (Int32.ofNat k))]) rfl rfl rfl ?_
  refine g_iload_n F dX6_mark_0 1 rfl ?_
  refine f_callS F (av := [.int (Int32.ofNat v)]) (rest := []) (st' := [.int (Int32.ofNat (r_X6_isServer c v))]) (k_X6_isServer l D cI cS cZ ad c v) tb_130 tb_128 tb_129 tb_1 hdX6_isServer ⟨rfl, rfl⟩ ⟨Nat.le_of_ble_eq_true rfl, Nat.le_of_ble_eq_true rfl⟩ cw_adr rfl rfl (Nat.le_of_ble_eq_true rfl) ⟨Nat.le_refl _, Nat.le_refl _⟩ dX6_mark_1 rfl ?_
  refine g_if_eq F dX6_mark_4 (tgt := 23) rfl (fun h4 => ?_) (fun h4 => ?_)
  · refine f_iconst F 0 dX6_mark_23 rfl ?_
    exact g_iret F hr hlk dX6_mark_24 ⟨congrArg (fun t => some (Value.int (Int32.ofNat t))) (Eq.symm (by unfold r_X6_mark; first | simp only [if_pos h4] | rfl)), rfl⟩
  · refine g_aload_n F dX6_mark_7 0 rfl ?_
    refine f_get F inX6 pl_ET rfl 0 (by decide) tb_119 rfl (v := .ref (ad 1)) rfl dX6_mark_8 ?_
    refine g_iload_n F dX6_mark_11 1 rfl ?_
    refine f_srv F (isServer1 h4 hk) dX6_mark_12 ?_
    refine f_getN F inX3 (pl_SV (isServer1 h4 hk)) rfl 3 (by decide) nb_25 rfl (v := .ref (ad (2 + 22 * v + 1))) rfl dX6_mark_13 ?_
    refine g_iload_n F dX6_mark_16 2 rfl ?_
    refine f_callVN F (As := [.int (Int32.ofNat k)]) (rest := []) (st' := [.int (Int32.ofNat (r_X0_markAt c v k))]) (k_X0_markAt l D cI cS cZ ad c v k (isServer1 h4 hk) (cb6 hc (isServer1 h4 hk)) hk2) (pl_EL (isServer1 h4 hk)) rfl tb_199 nb_52 tb_198 tb_579 tb_3 hdX0_markAt ⟨rfl, rfl⟩ ⟨Nat.le_of_ble_eq_true rfl, Nat.le_of_ble_eq_true rfl⟩ cw_adr rfl rfl (Nat.le_of_ble_eq_true rfl) ⟨Nat.le_refl _, Nat.le_refl _⟩ dX6_mark_17 rfl ?_
    refine g_goto F dX6_mark_20 (tgt := 24) rfl ?_
    exact g_iret F hr hlk dX6_mark_24 ⟨congrArg (fun t => some (Value.int (Int32.ofNat t))) (Eq.symm (by unfold r_X6_mark; first | simp only [if_neg h4] | rfl)), rfl⟩
def r_X6_result (c : CS) (v k : Nat) : Nat := if Int32.ofNat (r_X6_isServer c v) = 0 then 4294967295 else (if Int32.ofNat k < Int32.ofNat 1 then 4294967295 else (if Int32.ofNat k ≤ Int32.ofNat (c 5 v 0) then (c 25 v (k - 1)) else 4294967295))
abbrev rm_X6_result : Room := { frames := 1, cells := 0, slots := 0, locals := 20 }
set_option maxHeartbeats 4000000 in
set_option maxRecDepth 100000 in
theorem k_X6_result (l : Launch) (D : va_G) (cI cS cZ : ClassId) (ad : Nat → Nat) (c : CS) (v k : Nat) (hk : v < 4294967296) (hk2 : k < 4294967296) (hc : CB c) : gN l yX6_result (Cond.code yX6_result cX6_result 3 (some .int) :: tb) rm_X6_result D cls8 (tys3 cI cS cZ) [.ref (ad 0), .int (Int32.ofNat v), .int (Int32.ofNat k)] (cwld cI cS c ad) (some (.int (Int32.ofNat (r_X6_result c v k)))) (cwld cI cS c ad) := by
  unfold gN
  refine g_head (by decide) rfl (Nat.le_of_ble_eq_true rfl) ?_
  intro p e s m args below meth cd A F hr hlk hnm
  refine g_eq rfl (L' := [(0, .ref (ad 0)), (1, .int (Int32.ofNat v)), (2, .int (Int32.ofNat k))]) rfl rfl rfl ?_
  refine g_iload_n F dX6_result_0 1 rfl ?_
  refine f_callS F (av := [.int (Int32.ofNat v)]) (rest := []) (st' := [.int (Int32.ofNat (r_X6_isServer c v))]) (k_X6_isServer l D cI cS cZ ad c v) tb_130 tb_128 tb_129 tb_1 hdX6_isServer ⟨rfl, rfl⟩ ⟨Nat.le_of_ble_eq_true rfl, Nat.le_of_ble_eq_true rfl⟩ cw_adr rfl rfl (Nat.le_of_ble_eq_true rfl) ⟨Nat.le_refl _, Nat.le_refl _⟩ dX6_result_1 rfl ?_
  refine g_if_eq F dX6_result_4 (tgt := 25) rfl (fun h4 => ?_) (fun h4 => ?_)
  · refine f_iconst F 4294967295 dX6_result_25 rfl ?_
    exact g_iret F hr hlk dX6_result_26 ⟨congrArg (fun t => some (Value.int (Int32.ofNat t))) (Eq.symm (by unfold r_X6_result; first | simp only [if_pos h4] | rfl)), rfl⟩
  · refine g_iload_n F dX6_result_7 2 rfl ?_
    refine f_iconst F 1 dX6_result_8 rfl ?_
    refine g_icmp_lt F dX6_result_9 (tgt := 25) rfl (fun h9 => ?_) (fun h9 => ?_)
    · refine f_iconst F 4294967295 dX6_result_25 rfl ?_
      exact g_iret F hr hlk dX6_result_26 ⟨congrArg (fun t => some (Value.int (Int32.ofNat t))) (Eq.symm (by unfold r_X6_result; first | simp only [if_neg h4, if_pos h9] | rfl)), rfl⟩
    · refine g_iload_n F dX6_result_12 2 rfl ?_
      refine g_aload_n F dX6_result_13 0 rfl ?_
      refine f_get F inX6 pl_ET rfl 0 (by decide) tb_119 rfl (v := .ref (ad 1)) rfl dX6_result_14 ?_
      refine g_iload_n F dX6_result_17 1 rfl ?_
      refine f_srv F (isServer1 h4 hk) dX6_result_18 ?_
      refine f_getN F inX3 (pl_SV (isServer1 h4 hk)) rfl 6 (by decide) nb_28 rfl (v := .int (Int32.ofNat (c 5 v 0))) rfl dX6_result_19 ?_
      refine g_icmp_le F dX6_result_22 (tgt := 27) rfl (fun h22 => ?_) (fun h22 => ?_)
      · refine g_aload_n F dX6_result_27 0 rfl ?_
        refine f_get F inX6 pl_ET rfl 0 (by decide) tb_119 rfl (v := .ref (ad 1)) rfl dX6_result_28 ?_
        refine g_iload_n F dX6_result_31 1 rfl ?_
        refine f_srv F (isServer1 h4 hk) dX6_result_32 ?_
        refine f_getN F inX3 (pl_SV (isServer1 h4 hk)) rfl 7 (by decide) nb_29 rfl (v := .ref (ad (2 + 22 * v + 12))) rfl dX6_result_33 ?_
        refine g_iload_n F dX6_result_36 2 rfl ?_
        refine f_iconst F 1 dX6_result_37 rfl ?_
        refine f_sub F (code_ge h9 hk2 (by decide)).1 dX6_result_38 ?_
        refine f_ald F 0 (pl_25 (isServer1 h4 hk)) rfl (j := k - 1) (by have g1 := code_ge h9 hk2 (by decide); have g2 := cb5 hc (isServer1 h4 hk); have g3 := (ofN_le g1.2 (by omega)).mp h22; omega) (by decide) dX6_result_39 ?_
        exact g_iret F hr hlk dX6_result_40 ⟨congrArg (fun t => some (Value.int (Int32.ofNat t))) (Eq.symm (by unfold r_X6_result; first | simp only [if_neg h4, if_neg h9, if_pos h22] | rfl)), rfl⟩
      · refine f_iconst F 4294967295 dX6_result_25 rfl ?_
        exact g_iret F hr hlk dX6_result_26 ⟨congrArg (fun t => some (Value.int (Int32.ofNat t))) (Eq.symm (by unfold r_X6_result; first | simp only [if_neg h4, if_neg h9, if_neg h22] | rfl)), rfl⟩
def r_X6_node (c : CS) (v pa wh : Nat) : Nat := if Int32.ofNat (r_X6_isServer c v) = 0 then 0 else (r_X5_look c v pa wh)
abbrev rm_X6_node : Room := { frames := 3, cells := 0, slots := 0, locals := 67 }
set_option maxHeartbeats 4000000 in
set_option maxRecDepth 100000 in
theorem k_X6_node (l : Launch) (D : va_G) (cI cS cZ : ClassId) (ad : Nat → Nat) (c : CS) (v pa wh : Nat) (hk : v < 4294967296) (hc : CB c) : gN l yX6_node (Cond.code yX6_node cX6_node 4 (some .int) :: tb) rm_X6_node D cls8 (tys3 cI cS cZ) [.ref (ad 0), .int (Int32.ofNat v), .int (Int32.ofNat pa), .int (Int32.ofNat wh)] (cwld cI cS c ad) (some (.int (Int32.ofNat (r_X6_node c v pa wh)))) (cwld cI cS c ad) := by
  unfold gN
  refine g_head (by decide) rfl (Nat.le_of_ble_eq_true rfl) ?_
  intro p e s m args below meth cd A F hr hlk hnm
  refine g_eq rfl (L' := [(0, .ref (ad 0)), (1, .int (Int32.ofNat v)), (2, .int (Int32.ofNat pa)), (3, .int (Int32.ofNat wh))]) rfl rfl rfl ?_
  refine g_iload_n F dX6_node_0 1 rfl ?_
  refine f_callS F (av := [.int (Int32.ofNat v)]) (rest := []) (st' := [.int (Int32.ofNat (r_X6_isServer c v))]) (k_X6_isServer l D cI cS cZ ad c v) tb_130 tb_128 tb_129 tb_1 hdX6_isServer ⟨rfl, rfl⟩ ⟨Nat.le_of_ble_eq_true rfl, Nat.le_of_ble_eq_true rfl⟩ cw_adr rfl rfl (Nat.le_of_ble_eq_true rfl) ⟨Nat.le_refl _, Nat.le_refl _⟩ dX6_node_1 rfl ?_
  refine g_if_eq F dX6_node_4 (tgt := 24) rfl (fun h4 => ?_) (fun h4 => ?_)
  · refine f_iconst F 0 dX6_node_24 rfl ?_
    exact g_iret F hr hlk dX6_node_25 ⟨congrArg (fun t => some (Value.int (Int32.ofNat t))) (Eq.symm (by unfold r_X6_node; first | simp only [if_pos h4] | rfl)), rfl⟩
  · refine g_aload_n F dX6_node_7 0 rfl ?_
    refine f_get F inX6 pl_ET rfl 0 (by decide) tb_119 rfl (v := .ref (ad 1)) rfl dX6_node_8 ?_
    refine g_iload_n F dX6_node_11 1 rfl ?_
    refine f_srv F (isServer1 h4 hk) dX6_node_12 ?_
    refine f_getN F inX3 (pl_SV (isServer1 h4 hk)) rfl 8 (by decide) nb_30 rfl (v := .ref (ad (2 + 22 * v + 2))) rfl dX6_node_13 ?_
    refine g_iload_n F dX6_node_16 2 rfl ?_
    refine g_iload_n F dX6_node_17 3 rfl ?_
    refine f_callVN F (As := [.int (Int32.ofNat pa), .int (Int32.ofNat wh)]) (rest := []) (st' := [.int (Int32.ofNat (r_X5_look c v pa wh))]) (k_X5_look l D cI cS cZ ad c v pa wh (isServer1 h4 hk) (cb7 hc (isServer1 h4 hk))) (pl_TR (isServer1 h4 hk)) rfl tb_337 nb_53 tb_336 tb_604 tb_4 hdX5_look ⟨rfl, rfl⟩ ⟨Nat.le_of_ble_eq_true rfl, Nat.le_of_ble_eq_true rfl⟩ cw_adr rfl rfl (Nat.le_of_ble_eq_true rfl) ⟨Nat.le_refl _, Nat.le_refl _⟩ dX6_node_18 rfl ?_
    refine g_goto F dX6_node_21 (tgt := 25) rfl ?_
    exact g_iret F hr hlk dX6_node_25 ⟨congrArg (fun t => some (Value.int (Int32.ofNat t))) (Eq.symm (by unfold r_X6_node; first | simp only [if_neg h4] | rfl)), rfl⟩
def r_X6_waiting (c : CS) (v up : Nat) : Nat := if Int32.ofNat (r_X6_hasRole c v 2) = 0 then 0 else (if Int32.ofNat up = 0 then (r_X2_count_d c v) else (r_X2_count_u c v))
abbrev rm_X6_waiting : Room := { frames := 2, cells := 0, slots := 0, locals := 42 }
set_option maxHeartbeats 4000000 in
set_option maxRecDepth 100000 in
theorem k_X6_waiting (l : Launch) (D : va_G) (cI cS cZ : ClassId) (ad : Nat → Nat) (c : CS) (v up : Nat) (hk : v < 4294967296) (hc : CB c) : gN l yX6_waiting (Cond.code yX6_waiting cX6_waiting 4 (some .int) :: tb) rm_X6_waiting D cls8 (tys3 cI cS cZ) [.ref (ad 0), .int (Int32.ofNat v), .int (Int32.ofNat up)] (cwld cI cS c ad) (some (.int (Int32.ofNat (r_X6_waiting c v up)))) (cwld cI cS c ad) := by
  unfold gN
  refine g_head (by decide) rfl (Nat.le_of_ble_eq_true rfl) ?_
  intro p e s m args below meth cd A F hr hlk hnm
  refine g_eq rfl (L' := [(0, .ref (ad 0)), (1, .int (Int32.ofNat v)), (2, .int (Int32.ofNat up))]) rfl rfl rfl ?_
  refine g_aload_n F dX6_waiting_0 0 rfl ?_
  refine g_iload_n F dX6_waiting_1 1 rfl ?_
  refine f_iconst F 2 dX6_waiting_2 rfl ?_
  refine f_callV F (As := [.int (Int32.ofNat v), .int (Int32.ofNat 2)]) (rest := []) (st' := [.int (Int32.ofNat (r_X6_hasRole c v 2))]) (k_X6_hasRole l D cI cS cZ ad c v 2 (by assumption)) pl_ET rfl tb_127 tb_125 tb_126 tb_564 tb_1 ⟨rfl, hdX6_hasRole⟩ ⟨rfl, rfl⟩ ⟨Nat.le_of_ble_eq_true rfl, Nat.le_of_ble_eq_true rfl⟩ cw_adr rfl rfl (Nat.le_of_ble_eq_true rfl) ⟨Nat.le_refl _, Nat.le_refl _⟩ dX6_waiting_3 rfl ?_
  refine g_if_ne F dX6_waiting_6 (tgt := 11) rfl (fun h6 => ?_) (fun h6 => ?_)
  · refine g_aload_n F dX6_waiting_11 0 rfl ?_
    refine f_get F inX6 pl_ET rfl 0 (by decide) tb_119 rfl (v := .ref (ad 1)) rfl dX6_waiting_12 ?_
    refine g_iload_n F dX6_waiting_15 1 rfl ?_
    refine f_srv F (hasRole1 h6 hk).1 dX6_waiting_16 ?_
    refine f_getN F inX3 (pl_SV (hasRole1 h6 hk).1) rfl 9 (by decide) nb_31 rfl (v := .ref (ad (2 + 22 * v + 3))) rfl dX6_waiting_17 ?_
    refine g_astore_n F [(3, .ref (ad (2 + 22 * v + 3))), (0, .ref (ad 0)), (1, .int (Int32.ofNat v)), (2, .int (Int32.ofNat up))] dX6_waiting_20 (by decide) rfl ?_
    refine g_iload_n F dX6_waiting_21 3 rfl ?_
    refine g_if_eq F dX6_waiting_22 (tgt := 35) rfl (fun h22 => ?_) (fun h22 => ?_)
    · refine g_aload_n F dX6_waiting_35 0 rfl ?_
      refine f_getN F inX1 (pl_LK (hasRole1 h6 hk).1) rfl 1 (by decide) nb_13 rfl (v := .ref (ad (2 + 22 * v + 6))) rfl dX6_waiting_36 ?_
      refine f_callVN F (As := []) (rest := []) (st' := [.int (Int32.ofNat (r_X2_count_d c v))]) (k_X2_count_d l D cI cS cZ ad c v (hasRole1 h6 hk).1) (pl_RD (hasRole1 h6 hk).1) rfl tb_173 nb_39 tb_172 tb_573 tb_6 hdX2_count ⟨rfl, rfl⟩ ⟨Nat.le_of_ble_eq_true rfl, Nat.le_of_ble_eq_true rfl⟩ cw_adr rfl rfl (Nat.le_of_ble_eq_true rfl) ⟨Nat.le_refl _, Nat.le_refl _⟩ dX6_waiting_39 rfl ?_
      exact g_iret F hr hlk dX6_waiting_42 ⟨congrArg (fun t => some (Value.int (Int32.ofNat t))) (Eq.symm (by unfold r_X6_waiting; first | simp only [if_neg h6, if_pos h22] | rfl)), rfl⟩
    · refine g_aload_n F dX6_waiting_25 0 rfl ?_
      refine f_getN F inX1 (pl_LK (hasRole1 h6 hk).1) rfl 0 (by decide) nb_12 rfl (v := .ref (ad (2 + 22 * v + 5))) rfl dX6_waiting_26 ?_
      refine f_callVN F (As := []) (rest := []) (st' := [.int (Int32.ofNat (r_X2_count_u c v))]) (k_X2_count_u l D cI cS cZ ad c v (hasRole1 h6 hk).1) (pl_RU (hasRole1 h6 hk).1) rfl tb_173 nb_39 tb_172 tb_573 tb_6 hdX2_count ⟨rfl, rfl⟩ ⟨Nat.le_of_ble_eq_true rfl, Nat.le_of_ble_eq_true rfl⟩ cw_adr rfl rfl (Nat.le_of_ble_eq_true rfl) ⟨Nat.le_refl _, Nat.le_refl _⟩ dX6_waiting_29 rfl ?_
      refine g_goto F dX6_waiting_32 (tgt := 42) rfl ?_
      exact g_iret F hr hlk dX6_waiting_42 ⟨congrArg (fun t => some (Value.int (Int32.ofNat t))) (Eq.symm (by unfold r_X6_waiting; first | simp only [if_neg h6, if_neg h22] | rfl)), rfl⟩
  · refine f_iconst F 0 dX6_waiting_9 rfl ?_
    exact g_iret F hr hlk dX6_waiting_10 ⟨congrArg (fun t => some (Value.int (Int32.ofNat t))) (Eq.symm (by unfold r_X6_waiting; first | simp only [if_pos h6] | rfl)), rfl⟩
def lpn_X6_tick_4 (c : CS) : Nat → Nat → Nat → CS → Nat
  | 0, k, n, x => n
  | d + 1, k, n, x => if Int32.ofNat (x 3 k 0) = Int32.ofNat 4 then (lpn_X6_tick_4 c d (k + 1) (n + (r_X6_closeOldSessions (w_X6_growAges x k) k)) (w_X6_closeOldSessions (w_X6_growAges x k) k)) else (lpn_X6_tick_4 c d (k + 1) n x)
def lpw_X6_tick_4 (c : CS) : Nat → Nat → Nat → CS → CS
  | 0, k, n, x => x
  | d + 1, k, n, x => if Int32.ofNat (x 3 k 0) = Int32.ofNat 4 then (lpw_X6_tick_4 c d (k + 1) (n + (r_X6_closeOldSessions (w_X6_growAges x k) k)) (w_X6_closeOldSessions (w_X6_growAges x k) k)) else (lpw_X6_tick_4 c d (k + 1) n x)
def r_X6_tick (c : CS) : Nat := lpn_X6_tick_4 c 3 0 0 c
def w_X6_tick (c : CS) : CS := lpw_X6_tick_4 c 3 0 0 c
abbrev rm_X6_tick : Room := { frames := 4, cells := 0, slots := 0, locals := 96 }
set_option maxHeartbeats 4000000 in
set_option maxRecDepth 100000 in
theorem k_X6_tick (l : Launch) (D : va_G) (cI cS cZ : ClassId) (ad : Nat → Nat) (c : CS) (hc : CB c) : gN l yX6_tick (Cond.code yX6_tick cX6_tick 3 (some .int) :: tb) rm_X6_tick D cls8 (tys3 cI cS cZ) [.ref (ad 0)] (cwld cI cS c ad) (some (.int (Int32.ofNat (r_X6_tick c)))) (cwld cI cS (w_X6_tick c) ad) := by
  unfold gN
  refine g_head (by decide) rfl (Nat.le_of_ble_eq_true rfl) ?_
  intro p e s m args below meth cd A F hr hlk hnm
  refine g_eq rfl (L' := [(0, .ref (ad 0))]) rfl rfl rfl ?_
  refine f_iconst F 0 dX6_tick_0 rfl ?_
  refine g_istore_n F [(1, .int (Int32.ofNat 0)), (0, .ref (ad 0))] dX6_tick_1 (by decide) rfl ?_
  refine f_iconst F 0 dX6_tick_2 rfl ?_
  refine g_istore_n F [(2, .int (Int32.ofNat 0)), (1, .int (Int32.ofNat 0)), (0, .ref (ad 0))] dX6_tick_3 (by decide) rfl ?_
  have loop4 : ∀ (Q : State → Prop) (d k n : Nat) (x : CS), (k + d = 3) → (CB x) → gw p l e (headSpec (Cond.code yX6_tick cX6_tick 3 (some .int) :: tb) rm_X6_tick).room s m args below meth cd 3 D cls8 A Q 0 0 50 [(1, .int (Int32.ofNat (lpn_X6_tick_4 c d k n x))), (0, .ref (ad 0))] [] (cwld cI cS (lpw_X6_tick_4 c d k n x) ad) → gw p l e (headSpec (Cond.code yX6_tick cX6_tick 3 (some .int) :: tb) rm_X6_tick).room s m args below meth cd 3 D cls8 A Q 0 0 4 [(2, .int (Int32.ofNat k)), (1, .int (Int32.ofNat n)), (0, .ref (ad 0))] [] (cwld cI cS x ad) := by
    intro Q d
    induction d with
    | zero =>
      intro k n x hk hx K
      refine g_iload_n F dX6_tick_4 0 rfl ?_
      refine f_iconst F 3 dX6_tick_5 rfl ?_
      refine g_icmp_ge F dX6_tick_6 (tgt := 50) rfl (fun h6 => ?_) (fun h6 => ?_)
      rotate_left
      · exact absurd h6 (by rw [ofN_le (by omega) (by omega)]; omega)
      refine g_locals [(1, .int (Int32.ofNat n)), (0, .ref (ad 0))] [1, 2] rfl ?_
      exact K
    | succ d ih =>
      intro k n x hk hx K
      refine g_iload_n F dX6_tick_4 0 rfl ?_
      refine f_iconst F 3 dX6_tick_5 rfl ?_
      refine g_icmp_ge F dX6_tick_6 (tgt := 50) rfl (fun h6 => ?_) (fun h6 => ?_)
      · exact absurd h6 (by rw [ofN_le (by omega) (by omega)]; omega)
      refine g_aload_n F dX6_tick_9 2 rfl ?_
      refine f_get F inX6 pl_ET rfl 0 (by decide) tb_119 rfl (v := .ref (ad 1)) rfl dX6_tick_10 ?_
      refine g_iload_n F dX6_tick_13 0 rfl ?_
      refine f_srv F (by omega) dX6_tick_14 ?_
      refine f_getN F inX3 (pl_SV (by omega)) rfl 4 (by decide) nb_26 rfl (v := .int (Int32.ofNat (x 3 k 0))) rfl dX6_tick_15 ?_
      refine f_iconst F 4 dX6_tick_18 rfl ?_
      refine g_icmp_ne F dX6_tick_19 (tgt := 44) rfl (fun h19 => ?_) (fun h19 => ?_)
      · refine f_iinc F (k + 1) [(2, .int (Int32.ofNat (k + 1))), (1, .int (Int32.ofNat n)), (0, .ref (ad 0))] dX6_tick_44 0 rfl (ofN_inc _) (by decide) rfl ?_
        refine g_goto F dX6_tick_47 (tgt := 4) rfl ?_
        exact ih (k + 1) n x (by omega) hx (g_eq rfl (by simp only [lpn_X6_tick_4, lpw_X6_tick_4, if_neg h19]) rfl (congrArg (fun t => cwld cI cS t ad) (by simp only [lpn_X6_tick_4, lpw_X6_tick_4, if_neg h19])) K)
      · refine g_aload_n F dX6_tick_22 2 rfl ?_
        refine f_get F inX6 pl_ET rfl 0 (by decide) tb_119 rfl (v := .ref (ad 1)) rfl dX6_tick_23 ?_
        refine g_iload_n F dX6_tick_26 0 rfl ?_
        refine f_srv F (by omega) dX6_tick_27 ?_
        refine f_callS F (av := [.ref (ad (2 + 22 * k))]) (rest := []) (st' := []) (k_X6_growAges l D cI cS cZ ad x k (by omega) hx) tb_295 tb_293 tb_294 tb_1 hdX6_growAges ⟨rfl, rfl⟩ ⟨Nat.le_of_ble_eq_true rfl, Nat.le_of_ble_eq_true rfl⟩ cw_adr rfl rfl (Nat.le_of_ble_eq_true rfl) ⟨Nat.le_refl _, Nat.le_refl _⟩ dX6_tick_28 rfl ?_
        refine g_iload_n F dX6_tick_31 1 rfl ?_
        refine g_aload_n F dX6_tick_32 2 rfl ?_
        refine g_aload_n F dX6_tick_33 2 rfl ?_
        refine f_get F inX6 pl_ET rfl 0 (by decide) tb_119 rfl (v := .ref (ad 1)) rfl dX6_tick_34 ?_
        refine g_iload_n F dX6_tick_37 0 rfl ?_
        refine f_srv F (by omega) dX6_tick_38 ?_
        refine f_callV F (As := [.ref (ad (2 + 22 * k))]) (rest := [.int (Int32.ofNat n)]) (st' := [.int (Int32.ofNat (r_X6_closeOldSessions (w_X6_growAges x k) k)), .int (Int32.ofNat n)]) (k_X6_closeOldSessions l D cI cS cZ ad (w_X6_growAges x k) k (by omega) (cb_X6_growAges hx)) pl_ET rfl tb_299 tb_297 tb_298 tb_603 tb_1 ⟨rfl, hdX6_closeOldSessions⟩ ⟨rfl, rfl⟩ ⟨Nat.le_of_ble_eq_true rfl, Nat.le_of_ble_eq_true rfl⟩ cw_adr rfl rfl (Nat.le_of_ble_eq_true rfl) ⟨Nat.le_refl _, Nat.le_refl _⟩ dX6_tick_39 rfl ?_
        refine f_add F dX6_tick_42 ?_
        refine g_istore_n F [(1, .int (Int32.ofNat (n + (r_X6_closeOldSessions (w_X6_growAges x k) k)))), (2, .int (Int32.ofNat k)), (0, .ref (ad 0))] dX6_tick_43 (by decide) rfl ?_
        refine f_iinc F (k + 1) [(2, .int (Int32.ofNat (k + 1))), (1, .int (Int32.ofNat (n + (r_X6_closeOldSessions (w_X6_growAges x k) k)))), (0, .ref (ad 0))] dX6_tick_44 1 rfl (ofN_inc _) (by decide) rfl ?_
        refine g_goto F dX6_tick_47 (tgt := 4) rfl ?_
        exact ih (k + 1) (n + (r_X6_closeOldSessions (w_X6_growAges x k) k)) (w_X6_closeOldSessions (w_X6_growAges x k) k) (by omega) (cb_X6_closeOldSessions (cb_X6_growAges hx)) (g_eq rfl (by simp only [lpn_X6_tick_4, lpw_X6_tick_4, if_pos h19]) rfl (congrArg (fun t => cwld cI cS t ad) (by simp only [lpn_X6_tick_4, lpw_X6_tick_4, if_pos h19])) K)
  refine loop4 _ 3 0 0 c (Nat.zero_add _) hc ?_
  refine g_iload_n F dX6_tick_50 0 rfl ?_
  exact g_iret F hr hlk dX6_tick_51 ⟨congrArg (fun t => some (Value.int (Int32.ofNat t))) rfl, congrArg (fun t => cwld cI cS t ad) rfl⟩
