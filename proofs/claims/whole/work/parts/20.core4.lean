theorem cb_X2_dropFirst_u {c : CS} {i : Nat} (h : CB c) : CB (w_X2_dropFirst_u c i) := by
  unfold w_X2_dropFirst_u
  by_cases hi : i < 3
  · refine cb_if (fun _ => h) (fun g => ?_)
    have := cb12 h hi; have := cb13 h hi; have := lt_of_nle g (by omega) (by omega)
    exact cb_su h (by unfold bnd; omega)
  · exact cb_if (fun _ => h) (fun _ => cb_out h hi)
theorem cb_X2_dropFirst_d {c : CS} {i : Nat} (h : CB c) : CB (w_X2_dropFirst_d c i) := by
  unfold w_X2_dropFirst_d
  by_cases hi : i < 3
  · refine cb_if (fun _ => h) (fun g => ?_)
    have := cb14 h hi; have := cb15 h hi; have := lt_of_nle g (by omega) (by omega)
    exact cb_su h (by unfold bnd; omega)
  · exact cb_if (fun _ => h) (fun _ => cb_out h hi)
theorem hasRole1 {c : CS} {v ro : Nat} (h : ¬ Int32.ofNat (r_X6_hasRole c v ro) = 0) (hk : v < 4294967296) : v < 3 ∧ Int32.ofNat (c 3 v 0) = Int32.ofNat ro := by
  unfold r_X6_hasRole at h
  split at h
  · exact absurd rfl h
  · rename_i h1
    split at h
    · rename_i h2; exact ⟨isServer1 h1 hk, h2⟩
    · exact absurd rfl h
theorem leads1 {c : CS} {v : Nat} (h : ¬ Int32.ofNat (r_X6_leads c v) = 0) (hk : v < 4294967296) : v < 3 := by
  unfold r_X6_leads at h
  split at h
  · split at h
    · exact absurd rfl h
    · rename_i h2; exact (hasRole1 h2 hk).1
  · rename_i h1; exact (hasRole1 h1 hk).1
theorem isSession1 {c : CS} {v : Nat} (h : ¬ Int32.ofNat (r_X6_isSession c v) = 0) (hk : v < 4294967296) : 1 ≤ v ∧ v ≤ 4 := by
  unfold r_X6_isSession at h
  split at h
  · exact absurd rfl h
  · rename_i h1
    have g := code_ge h1 hk (by decide)
    split at h
    · exact absurd rfl h
    · rename_i h2
      have := nlt_le h2 (by decide) g.2
      omega
theorem isSession_z {c : CS} {v : Nat} : narrow .boolean (.int (Int32.ofNat (r_X6_isSession c v))) = .int (Int32.ofNat (r_X6_isSession c v)) := by
  unfold r_X6_isSession
  split
  · rfl
  · split <;> rfl
theorem div8 {r : Nat} (h : r < 2147483648) : nc (Int32.ofNat r / Int32.ofNat 8) = r / 8 := by
  have e : Int32.ofNat r / Int32.ofNat 8 = Int32.ofNat (r / 8) := by
    apply Int32.toInt_inj.mp
    rw [Int32.toInt_div, Int32.toInt_ofNat_of_lt h, Int32.toInt_ofNat_of_lt (n := 8) (by decide), Int32.toInt_ofNat_of_lt (n := r / 8) (by omega)]
    rw [Int.tdiv_eq_ediv_of_nonneg (by omega), Int.bmod_eq_of_le (by omega) (by omega)]
    omega
  rw [e, nc_ofN (by omega)]
def w_X6_readNewLeader (c : CS) (f n : Nat) : CS := w_X2_send_u (w_X0_becomeFirst (su3 c 2 f 0 (c 1 f 0)) f (c 4 f 0) n) f 3 n
abbrev rm_X6_readNewLeader : Room := { frames := 4, cells := 0, slots := 0, locals := 91 }
set_option maxHeartbeats 4000000 in
set_option maxRecDepth 100000 in
theorem k_X6_readNewLeader (l : Launch) (D : va_G) (cI cS cZ : ClassId) (ad : Nat → Nat) (c : CS) (f n : Nat) (h_f : f < 3) (hc : CB c) (hn : n < 2147483647) : gN l yX6_readNewLeader (Cond.code yX6_readNewLeader cX6_readNewLeader 3 none :: tb) rm_X6_readNewLeader D cls8 (tys3 cI cS cZ) [.ref (ad 0), .ref (ad (2 + 22 * f)), .int (Int32.ofNat n)] (cwld cI cS c ad) none (cwld cI cS (w_X6_readNewLeader c f n) ad) := by
  unfold gN
  refine g_head (by decide) rfl (Nat.le_of_ble_eq_true rfl) ?_
  intro p e s m args below meth cd A F hr hlk hnm
  refine g_eq rfl (L' := [(0, .ref (ad 0)), (1, .ref (ad (2 + 22 * f))), (2, .int (Int32.ofNat n))]) rfl rfl rfl ?_
  refine g_aload_n F dX6_readNewLeader_0 1 rfl ?_
  refine g_aload_n F dX6_readNewLeader_1 1 rfl ?_
  refine f_getN F inX3 (pl_SV h_f) rfl 1 (by decide) nb_23 rfl (v := .int (Int32.ofNat (c 1 f 0))) rfl dX6_readNewLeader_2 ?_
  refine f_putN F inX3 tyX3_ok nmX3 (pl_SV h_f) rfl 2 (by decide) nb_24 rfl rfl rfl rfl (Nat.le_of_ble_eq_true rfl) dX6_readNewLeader_5 (ps_2 h_f) ?_
  refine g_aload_n F dX6_readNewLeader_8 1 rfl ?_
  refine f_getN F inX3 (pl_SV h_f) rfl 3 (by decide) nb_25 rfl (v := .ref (ad (2 + 22 * f + 1))) rfl dX6_readNewLeader_9 ?_
  refine g_aload_n F dX6_readNewLeader_12 0 rfl ?_
  refine f_get F inX6 pl_ET rfl 0 (by decide) tb_119 rfl (v := .ref (ad 1)) rfl dX6_readNewLeader_13 ?_
  refine g_aload_n F dX6_readNewLeader_16 1 rfl ?_
  refine f_getN F inX3 (pl_SV h_f) rfl 5 (by decide) nb_27 rfl (v := .int (Int32.ofNat (c 4 f 0))) rfl dX6_readNewLeader_17 ?_
  refine f_srv F (cb4 hc h_f) dX6_readNewLeader_20 ?_
  refine f_getN F inX3 (pl_SV (cb4 hc h_f)) rfl 3 (by decide) nb_25 rfl (v := .ref (ad (2 + 22 * (c 4 f 0) + 1))) rfl dX6_readNewLeader_21 ?_
  refine g_iload_n F dX6_readNewLeader_24 2 rfl ?_
  refine f_callVN F (As := [.ref (ad (2 + 22 * (c 4 f 0) + 1)), .int (Int32.ofNat n)]) (rest := []) (st' := []) (k_X0_becomeFirst l D cI cS cZ ad (su3 c 2 f 0 (c 1 f 0)) f (c 4 f 0) n h_f (cb4 hc h_f) (cb_su hc (bnd_no (by decide))) hn) (pl_EL h_f) rfl tb_201 nb_44 tb_200 tb_580 tb_3 hdX0_becomeFirst ⟨rfl, rfl⟩ ⟨Nat.le_of_ble_eq_true rfl, Nat.le_of_ble_eq_true rfl⟩ cw_adr rfl rfl (Nat.le_of_ble_eq_true rfl) ⟨Nat.le_refl _, Nat.le_refl _⟩ dX6_readNewLeader_25 rfl ?_
  refine g_aload_n F dX6_readNewLeader_28 1 rfl ?_
  refine f_getN F inX3 (pl_SV h_f) rfl 9 (by decide) nb_31 rfl (v := .ref (ad (2 + 22 * f + 3))) rfl dX6_readNewLeader_29 ?_
  refine f_getN F inX1 (pl_LK h_f) rfl 0 (by decide) nb_12 rfl (v := .ref (ad (2 + 22 * f + 5))) rfl dX6_readNewLeader_32 ?_
  refine f_iconst F 3 dX6_readNewLeader_35 rfl ?_
  refine g_iload_n F dX6_readNewLeader_36 2 rfl ?_
  refine f_callVN F (As := [.int (Int32.ofNat 3), .int (Int32.ofNat n)]) (rest := []) (st' := []) (k_X2_send_u l D cI cS cZ ad (w_X0_becomeFirst (su3 c 2 f 0 (c 1 f 0)) f (c 4 f 0) n) f 3 n h_f (cb13 (cb_X0_becomeFirst (cb_su hc (bnd_no (by decide)))) h_f)) (pl_RU h_f) rfl tb_141 nb_34 tb_140 tb_567 tb_6 hdX2_send ⟨rfl, rfl⟩ ⟨Nat.le_of_ble_eq_true rfl, Nat.le_of_ble_eq_true rfl⟩ cw_adr rfl rfl (Nat.le_of_ble_eq_true rfl) ⟨Nat.le_refl _, Nat.le_refl _⟩ dX6_readNewLeader_37 rfl ?_
  exact g_vret F hr hlk dX6_readNewLeader_40 ⟨rfl, congrArg (fun t => cwld cI cS t ad) rfl⟩
def w_X6_readProposal (c : CS) (f k : Nat) : CS := w_X2_send_u (w_X0_appendFrom c f (c 4 f 0) k) f 3 ((w_X0_appendFrom c f (c 4 f 0) k) 6 f 0)
abbrev rm_X6_readProposal : Room := { frames := 3, cells := 0, slots := 0, locals := 68 }
set_option maxHeartbeats 4000000 in
set_option maxRecDepth 100000 in
theorem k_X6_readProposal (l : Launch) (D : va_G) (cI cS cZ : ClassId) (ad : Nat → Nat) (c : CS) (f k : Nat) (h_f : f < 3) (hc : CB c) (hk : k < 4294967296) : gN l yX6_readProposal (Cond.code yX6_readProposal cX6_readProposal 3 none :: tb) rm_X6_readProposal D cls8 (tys3 cI cS cZ) [.ref (ad 0), .ref (ad (2 + 22 * f)), .int (Int32.ofNat k)] (cwld cI cS c ad) none (cwld cI cS (w_X6_readProposal c f k) ad) := by
  unfold gN
  refine g_head (by decide) rfl (Nat.le_of_ble_eq_true rfl) ?_
  intro p e s m args below meth cd A F hr hlk hnm
  refine g_eq rfl (L' := [(0, .ref (ad 0)), (1, .ref (ad (2 + 22 * f))), (2, .int (Int32.ofNat k))]) rfl rfl rfl ?_
  refine g_aload_n F dX6_readProposal_0 1 rfl ?_
  refine f_getN F inX3 (pl_SV h_f) rfl 3 (by decide) nb_25 rfl (v := .ref (ad (2 + 22 * f + 1))) rfl dX6_readProposal_1 ?_
  refine g_aload_n F dX6_readProposal_4 0 rfl ?_
  refine f_get F inX6 pl_ET rfl 0 (by decide) tb_119 rfl (v := .ref (ad 1)) rfl dX6_readProposal_5 ?_
  refine g_aload_n F dX6_readProposal_8 1 rfl ?_
  refine f_getN F inX3 (pl_SV h_f) rfl 5 (by decide) nb_27 rfl (v := .int (Int32.ofNat (c 4 f 0))) rfl dX6_readProposal_9 ?_
  refine f_srv F (cb4 hc h_f) dX6_readProposal_12 ?_
  refine f_getN F inX3 (pl_SV (cb4 hc h_f)) rfl 3 (by decide) nb_25 rfl (v := .ref (ad (2 + 22 * (c 4 f 0) + 1))) rfl dX6_readProposal_13 ?_
  refine g_iload_n F dX6_readProposal_16 2 rfl ?_
  refine f_callVN F (As := [.ref (ad (2 + 22 * (c 4 f 0) + 1)), .int (Int32.ofNat k)]) (rest := []) (st' := []) (k_X0_appendFrom l D cI cS cZ ad c f (c 4 f 0) k h_f (cb4 hc h_f) (cb6 hc h_f) (cb6 hc (cb4 hc h_f)) hk) (pl_EL h_f) rfl tb_204 nb_48 tb_203 tb_581 tb_3 hdX0_appendFrom ⟨rfl, rfl⟩ ⟨Nat.le_of_ble_eq_true rfl, Nat.le_of_ble_eq_true rfl⟩ cw_adr rfl rfl (Nat.le_of_ble_eq_true rfl) ⟨Nat.le_refl _, Nat.le_refl _⟩ dX6_readProposal_17 rfl ?_
  refine g_aload_n F dX6_readProposal_20 1 rfl ?_
  refine f_getN F inX3 (pl_SV h_f) rfl 9 (by decide) nb_31 rfl (v := .ref (ad (2 + 22 * f + 3))) rfl dX6_readProposal_21 ?_
  refine f_getN F inX1 (pl_LK h_f) rfl 0 (by decide) nb_12 rfl (v := .ref (ad (2 + 22 * f + 5))) rfl dX6_readProposal_24 ?_
  refine f_iconst F 3 dX6_readProposal_27 rfl ?_
  refine g_aload_n F dX6_readProposal_28 1 rfl ?_
  refine f_getN F inX3 (pl_SV h_f) rfl 3 (by decide) nb_25 rfl (v := .ref (ad (2 + 22 * f + 1))) rfl dX6_readProposal_29 ?_
  refine f_getN F inX0 (pl_EL h_f) rfl 5 (by decide) nb_8 rfl (v := .int (Int32.ofNat ((w_X0_appendFrom c f (c 4 f 0) k) 6 f 0))) rfl dX6_readProposal_32 ?_
  refine f_callVN F (As := [.int (Int32.ofNat 3), .int (Int32.ofNat ((w_X0_appendFrom c f (c 4 f 0) k) 6 f 0))]) (rest := []) (st' := []) (k_X2_send_u l D cI cS cZ ad (w_X0_appendFrom c f (c 4 f 0) k) f 3 ((w_X0_appendFrom c f (c 4 f 0) k) 6 f 0) h_f (cb13 (cb_X0_appendFrom hc) h_f)) (pl_RU h_f) rfl tb_141 nb_34 tb_140 tb_567 tb_6 hdX2_send ⟨rfl, rfl⟩ ⟨Nat.le_of_ble_eq_true rfl, Nat.le_of_ble_eq_true rfl⟩ cw_adr rfl rfl (Nat.le_of_ble_eq_true rfl) ⟨Nat.le_refl _, Nat.le_refl _⟩ dX6_readProposal_35 rfl ?_
  exact g_vret F hr hlk dX6_readProposal_38 ⟨rfl, congrArg (fun t => cwld cI cS t ad) rfl⟩
def w_X6_makeEntry (c : CS) (g kd pa va vb : Nat) : CS := w_X6_sendOnTiedLinks (w_X0_append (su3 c 18 g 0 ((c 18 g 0) + 1)) g ((1000 * (c 2 g 0)) + ((c 18 g 0) + 1)) kd pa va vb) g 6 ((w_X0_append (su3 c 18 g 0 ((c 18 g 0) + 1)) g ((1000 * (c 2 g 0)) + ((c 18 g 0) + 1)) kd pa va vb) 6 g 0)
abbrev rm_X6_makeEntry : Room := { frames := 2, cells := 0, slots := 0, locals := 46 }
set_option maxHeartbeats 4000000 in
set_option maxRecDepth 100000 in
theorem k_X6_makeEntry (l : Launch) (D : va_G) (cI cS cZ : ClassId) (ad : Nat → Nat) (c : CS) (g kd pa va vb : Nat) (h_g : g < 3) (hc : CB c) : gN l yX6_makeEntry (Cond.code yX6_makeEntry cX6_makeEntry 7 none :: tb) rm_X6_makeEntry D cls8 (tys3 cI cS cZ) [.ref (ad 0), .ref (ad (2 + 22 * g)), .int (Int32.ofNat kd), .int (Int32.ofNat pa), .int (Int32.ofNat va), .int (Int32.ofNat vb)] (cwld cI cS c ad) none (cwld cI cS (w_X6_makeEntry c g kd pa va vb) ad) := by
  unfold gN
  refine g_head (by decide) rfl (Nat.le_of_ble_eq_true rfl) ?_
  intro p e s m args below meth cd A F hr hlk hnm
  refine g_eq rfl (L' := [(0, .ref (ad 0)), (1, .ref (ad (2 + 22 * g))), (2, .int (Int32.ofNat kd)), (3, .int (Int32.ofNat pa)), (4, .int (Int32.ofNat va)), (5, .int (Int32.ofNat vb))]) rfl rfl rfl ?_
  refine g_aload_n F dX6_makeEntry_0 1 rfl ?_
  refine f_getN F inX3 (pl_SV h_g) rfl 10 (by decide) nb_32 rfl (v := .ref (ad (2 + 22 * g + 4))) rfl dX6_makeEntry_1 ?_
  refine g_dup F dX6_makeEntry_4 rfl ?_
  refine f_getN F inX4 (pl_TM h_g) rfl 2 (by decide) nb_20 rfl (v := .int (Int32.ofNat (c 18 g 0))) rfl dX6_makeEntry_5 ?_
  refine f_iconst F 1 dX6_makeEntry_8 rfl ?_
  refine f_add F dX6_makeEntry_9 ?_
  refine f_putN F inX4 tyX4_ok nmX4 (pl_TM h_g) rfl 2 (by decide) nb_20 rfl rfl rfl rfl (Nat.le_of_ble_eq_true rfl) dX6_makeEntry_10 (ps_18 h_g) ?_
  refine f_sipush F 1000 dX6_makeEntry_13 rfl ?_
  refine g_aload_n F dX6_makeEntry_16 1 rfl ?_
  refine f_getN F inX3 (pl_SV h_g) rfl 2 (by decide) nb_24 rfl (v := .int (Int32.ofNat (c 2 g 0))) rfl dX6_makeEntry_17 ?_
  refine f_mul F dX6_makeEntry_20 ?_
  refine g_aload_n F dX6_makeEntry_21 1 rfl ?_
  refine f_getN F inX3 (pl_SV h_g) rfl 10 (by decide) nb_32 rfl (v := .ref (ad (2 + 22 * g + 4))) rfl dX6_makeEntry_22 ?_
  refine f_getN F inX4 (pl_TM h_g) rfl 2 (by decide) nb_20 rfl (v := .int (Int32.ofNat ((su3 c 18 g 0 ((c 18 g 0) + 1)) 18 g 0))) rfl dX6_makeEntry_25 ?_
  refine g_eq rfl rfl (st' := [.int (Int32.ofNat ((c 18 g 0) + 1)), .int (Int32.ofNat (1000 * (c 2 g 0)))]) (by rw [su3_same]) rfl ?_
  refine f_add F dX6_makeEntry_28 ?_
  refine g_istore F [(6, .int (Int32.ofNat ((1000 * (c 2 g 0)) + ((c 18 g 0) + 1)))), (0, .ref (ad 0)), (1, .ref (ad (2 + 22 * g))), (2, .int (Int32.ofNat kd)), (3, .int (Int32.ofNat pa)), (4, .int (Int32.ofNat va)), (5, .int (Int32.ofNat vb))] dX6_makeEntry_29 (by decide) rfl ?_
  refine g_aload_n F dX6_makeEntry_31 2 rfl ?_
  refine f_getN F inX3 (pl_SV h_g) rfl 3 (by decide) nb_25 rfl (v := .ref (ad (2 + 22 * g + 1))) rfl dX6_makeEntry_32 ?_
  refine g_iload F dX6_makeEntry_35 0 rfl ?_
  refine g_iload_n F dX6_makeEntry_37 3 rfl ?_
  refine g_iload_n F dX6_makeEntry_38 4 rfl ?_
  refine g_iload F dX6_makeEntry_39 5 rfl ?_
  refine g_iload F dX6_makeEntry_41 6 rfl ?_
  refine f_callVN F (As := [.int (Int32.ofNat ((1000 * (c 2 g 0)) + ((c 18 g 0) + 1))), .int (Int32.ofNat kd), .int (Int32.ofNat pa), .int (Int32.ofNat va), .int (Int32.ofNat vb)]) (rest := []) (st' := []) (k_X0_append l D cI cS cZ ad (su3 c 18 g 0 ((c 18 g 0) + 1)) g ((1000 * (c 2 g 0)) + ((c 18 g 0) + 1)) kd pa va vb h_g (cb6 (cb_su hc (bnd_no (by decide))) h_g)) (pl_EL h_g) rfl tb_207 nb_50 tb_206 tb_582 tb_3 hdX0_append ⟨rfl, rfl⟩ ⟨Nat.le_of_ble_eq_true rfl, Nat.le_of_ble_eq_true rfl⟩ cw_adr rfl rfl (Nat.le_of_ble_eq_true rfl) ⟨Nat.le_refl _, Nat.le_refl _⟩ dX6_makeEntry_43 rfl ?_
  refine g_aload_n F dX6_makeEntry_46 1 rfl ?_
  refine g_aload_n F dX6_makeEntry_47 2 rfl ?_
  refine f_bipush F 6 dX6_makeEntry_48 rfl ?_
  refine g_aload_n F dX6_makeEntry_50 2 rfl ?_
  refine f_getN F inX3 (pl_SV h_g) rfl 3 (by decide) nb_25 rfl (v := .ref (ad (2 + 22 * g + 1))) rfl dX6_makeEntry_51 ?_
  refine f_getN F inX0 (pl_EL h_g) rfl 5 (by decide) nb_8 rfl (v := .int (Int32.ofNat ((w_X0_append (su3 c 18 g 0 ((c 18 g 0) + 1)) g ((1000 * (c 2 g 0)) + ((c 18 g 0) + 1)) kd pa va vb) 6 g 0))) rfl dX6_makeEntry_54 ?_
  refine f_callV F (As := [.ref (ad (2 + 22 * g)), .int (Int32.ofNat 6), .int (Int32.ofNat ((w_X0_append (su3 c 18 g 0 ((c 18 g 0) + 1)) g ((1000 * (c 2 g 0)) + ((c 18 g 0) + 1)) kd pa va vb) 6 g 0))]) (rest := []) (st' := []) (k_X6_sendOnTiedLinks l D cI cS cZ ad (w_X0_append (su3 c 18 g 0 ((c 18 g 0) + 1)) g ((1000 * (c 2 g 0)) + ((c 18 g 0) + 1)) kd pa va vb) g 6 ((w_X0_append (su3 c 18 g 0 ((c 18 g 0) + 1)) g ((1000 * (c 2 g 0)) + ((c 18 g 0) + 1)) kd pa va vb) 6 g 0) h_g (cb_X0_append (cb_su hc (bnd_no (by decide))))) pl_ET rfl tb_261 tb_259 tb_260 tb_598 tb_1 ⟨rfl, hdX6_sendOnTiedLinks⟩ ⟨rfl, rfl⟩ ⟨Nat.le_of_ble_eq_true rfl, Nat.le_of_ble_eq_true rfl⟩ cw_adr rfl rfl (Nat.le_of_ble_eq_true rfl) ⟨Nat.le_refl _, Nat.le_refl _⟩ dX6_makeEntry_57 rfl ?_
  exact g_vret F hr hlk dX6_makeEntry_60 ⟨rfl, congrArg (fun t => cwld cI cS t ad) rfl⟩
theorem cb_X6_makeEntry {c : CS} {g kd pa va vb : Nat} (h : CB c) : CB (w_X6_makeEntry c g kd pa va vb) := cb_X6_sendOnTiedLinks (cb_X0_append (cb_su h (bnd_no (by decide))))
def lpw_X6_growAges_10 (c : CS) (g : Nat) : Nat → Nat → CS → CS
  | 0, k, x => x
  | d + 1, k, x => if Int32.ofNat (r_X5_isOpen x g k) = 0 then (lpw_X6_growAges_10 c g d (k + 1) (su3 x 34 g k 0)) else (lpw_X6_growAges_10 c g d (k + 1) (su3 x 34 g k (if Int32.ofNat 3 < Int32.ofNat ((x 34 g k) + 1) then 3 else ((x 34 g k) + 1))))
def w_X6_growAges (c : CS) (g : Nat) : CS := lpw_X6_growAges_10 c g 4 1 c
abbrev rm_X6_growAges : Room := { frames := 2, cells := 0, slots := 0, locals := 41 }
set_option maxHeartbeats 4000000 in
set_option maxRecDepth 100000 in
theorem k_X6_growAges (l : Launch) (D : va_G) (cI cS cZ : ClassId) (ad : Nat → Nat) (c : CS) (g : Nat) (h_g : g < 3) (hc : CB c) : gN l yX6_growAges (Cond.code yX6_growAges cX6_growAges 3 none :: tb) rm_X6_growAges D cls8 (tys3 cI cS cZ) [.ref (ad (2 + 22 * g))] (cwld cI cS c ad) none (cwld cI cS (w_X6_growAges c g) ad) := by
  unfold gN
  refine g_head (by decide) rfl (Nat.le_of_ble_eq_true rfl) ?_
  intro p e s m args below meth cd A F hr hlk hnm
  refine g_eq rfl (L' := [(0, .ref (ad (2 + 22 * g)))]) rfl rfl rfl ?_
  refine g_aload_n F dX6_growAges_0 0 rfl ?_
  refine f_getN F inX3 (pl_SV h_g) rfl 10 (by decide) nb_32 rfl (v := .ref (ad (2 + 22 * g + 4))) rfl dX6_growAges_1 ?_
  refine f_getN F inX4 (pl_TM h_g) rfl 3 (by decide) nb_21 rfl (v := .ref (ad (2 + 22 * g + 21))) rfl dX6_growAges_4 ?_
  refine g_astore_n F [(1, .ref (ad (2 + 22 * g + 21))), (0, .ref (ad (2 + 22 * g)))] dX6_growAges_7 (by decide) rfl ?_
  refine f_iconst F 1 dX6_growAges_8 rfl ?_
  refine g_istore_n F [(2, .int (Int32.ofNat 1)), (1, .ref (ad (2 + 22 * g + 21))), (0, .ref (ad (2 + 22 * g)))] dX6_growAges_9 (by decide) rfl ?_
  have loop10 : ∀ (Q : State → Prop) (d k : Nat) (x : CS), (k + d = 5) → (CB x) → gw p l e (headSpec (Cond.code yX6_growAges cX6_growAges 3 none :: tb) rm_X6_growAges).room s m args below meth cd 3 D cls8 A Q 0 0 48 [(1, .ref (ad (2 + 22 * g + 21))), (0, .ref (ad (2 + 22 * g)))] [] (cwld cI cS (lpw_X6_growAges_10 c g d k x) ad) → gw p l e (headSpec (Cond.code yX6_growAges cX6_growAges 3 none :: tb) rm_X6_growAges).room s m args below meth cd 3 D cls8 A Q 0 0 10 [(2, .int (Int32.ofNat k)), (1, .ref (ad (2 + 22 * g + 21))), (0, .ref (ad (2 + 22 * g)))] [] (cwld cI cS x ad) := by
    intro Q d
    induction d with
    | zero =>
      intro k x hk hx K
      refine g_iload_n F dX6_growAges_10 0 rfl ?_
      refine f_iconst F 4 dX6_growAges_11 rfl ?_
      refine g_icmp_gt F dX6_growAges_12 (tgt := 48) rfl (fun h12 => ?_) (fun h12 => ?_)
      rotate_left
      · exact absurd h12 (by rw [ofN_lt (by omega) (by omega)]; omega)
      refine g_locals [(1, .ref (ad (2 + 22 * g + 21))), (0, .ref (ad (2 + 22 * g)))] [1, 2] rfl ?_
      exact K
    | succ d ih =>
      intro k x hk hx K
      refine g_iload_n F dX6_growAges_10 0 rfl ?_
      refine f_iconst F 4 dX6_growAges_11 rfl ?_
      refine g_icmp_gt F dX6_growAges_12 (tgt := 48) rfl (fun h12 => ?_) (fun h12 => ?_)
      · exact absurd h12 (by rw [ofN_lt (by omega) (by omega)]; omega)
      refine g_aload_n F dX6_growAges_15 1 rfl ?_
      refine g_iload_n F dX6_growAges_16 0 rfl ?_
      refine g_aload_n F dX6_growAges_17 2 rfl ?_
      refine f_getN F inX3 (pl_SV h_g) rfl 8 (by decide) nb_30 rfl (v := .ref (ad (2 + 22 * g + 2))) rfl dX6_growAges_18 ?_
      refine g_iload_n F dX6_growAges_21 0 rfl ?_
      refine f_callVN F (As := [.int (Int32.ofNat k)]) (rest := [.int (Int32.ofNat k), .ref (ad (2 + 22 * g + 21))]) (st' := [.int (Int32.ofNat (r_X5_isOpen x g k)), .int (Int32.ofNat k), .ref (ad (2 + 22 * g + 21))]) (k_X5_isOpen l D cI cS cZ ad x g k h_g) (pl_TR h_g) rfl tb_232 nb_51 tb_231 tb_589 tb_4 hdX5_isOpen ⟨rfl, rfl⟩ ⟨Nat.le_of_ble_eq_true rfl, Nat.le_of_ble_eq_true rfl⟩ cw_adr rfl rfl (Nat.le_of_ble_eq_true rfl) ⟨Nat.le_refl _, Nat.le_refl _⟩ dX6_growAges_22 rfl ?_
      refine g_if_eq F dX6_growAges_25 (tgt := 40) rfl (fun h25 => ?_) (fun h25 => ?_)
      · refine f_iconst F 0 dX6_growAges_40 rfl ?_
        refine f_ast F 0 (pl_34 h_g) rfl (j := k) (v := 0) (by omega) (by decide) dX6_growAges_41 (ps_34 h_g) ?_
        refine f_iinc F (k + 1) [(2, .int (Int32.ofNat (k + 1))), (1, .ref (ad (2 + 22 * g + 21))), (0, .ref (ad (2 + 22 * g)))] dX6_growAges_42 0 rfl (ofN_inc _) (by decide) rfl ?_
        refine g_goto F dX6_growAges_45 (tgt := 10) rfl ?_
        exact ih (k + 1) (su3 x 34 g k 0) (by omega) (cb_su hx (bnd_no (by decide))) (g_eq rfl rfl rfl (congrArg (fun t => cwld cI cS t ad) (by simp only [lpw_X6_growAges_10, if_pos h25])) K)
      · refine g_aload_n F dX6_growAges_28 1 rfl ?_
        refine g_iload_n F dX6_growAges_29 0 rfl ?_
        refine f_ald F 0 (pl_34 h_g) rfl (j := k) (by omega) (by decide) dX6_growAges_30 ?_
        refine f_iconst F 1 dX6_growAges_31 rfl ?_
        refine f_add F dX6_growAges_32 ?_
        refine f_iconst F 3 dX6_growAges_33 rfl ?_
        refine g_mmin F (gf_w F tb_296) (gf_w F tb_223) (gf_w F tb_9) (gf_w F tb_224) (Nat.le_of_ble_eq_true rfl) (Nat.le_of_ble_eq_true rfl) (Nat.le_refl _) (Nat.le_refl _) dX6_growAges_34 ?_
        rw [← apply_ite Int32.ofNat]
        refine g_goto F dX6_growAges_37 (tgt := 41) rfl ?_
        refine f_ast F 0 (pl_34 h_g) rfl (j := k) (v := if Int32.ofNat 3 < Int32.ofNat ((x 34 g k) + 1) then 3 else ((x 34 g k) + 1)) (by omega) (by decide) dX6_growAges_41 (ps_34 h_g) ?_
        refine f_iinc F (k + 1) [(2, .int (Int32.ofNat (k + 1))), (1, .ref (ad (2 + 22 * g + 21))), (0, .ref (ad (2 + 22 * g)))] dX6_growAges_42 0 rfl (ofN_inc _) (by decide) rfl ?_
        refine g_goto F dX6_growAges_45 (tgt := 10) rfl ?_
        exact ih (k + 1) (su3 x 34 g k (if Int32.ofNat 3 < Int32.ofNat ((x 34 g k) + 1) then 3 else ((x 34 g k) + 1))) (by omega) (cb_su hx (bnd_no (by decide))) (g_eq rfl rfl rfl (congrArg (fun t => cwld cI cS t ad) (by simp only [lpw_X6_growAges_10, if_neg h25])) K)
  refine loop10 _ 4 1 c rfl hc ?_
  exact g_vret F hr hlk dX6_growAges_48 ⟨rfl, congrArg (fun t => cwld cI cS t ad) rfl⟩
theorem cb_X6_growAges {c : CS} {g : Nat} (h : CB c) : CB (w_X6_growAges c g) := by
  unfold w_X6_growAges
  refine cb_lp3 (fun _ _ => rfl) (fun d k x hx ih => ?_) _ _ _ h
  simp only [lpw_X6_growAges_10]
  repeat' (first | exact ih _ _ (cb_su hx (bnd_no (by decide))) | split)
def lpn_X6_closeOldSessions_13 (c : CS) (g : Nat) : Nat → Nat → Nat → CS → Nat
  | 0, k, n, x => n
  | d + 1, k, n, x => if Int32.ofNat (x 34 g k) = Int32.ofNat 3 then (if Int32.ofNat (r_X0_isFull x g) = 0 then (lpn_X6_closeOldSessions_13 c g d (k + 1) (n + 1) (su3 (w_X6_makeEntry x g 5 0 0 k) 34 g k 0)) else (lpn_X6_closeOldSessions_13 c g d (k + 1) n x)) else (lpn_X6_closeOldSessions_13 c g d (k + 1) n x)
def lpw_X6_closeOldSessions_13 (c : CS) (g : Nat) : Nat → Nat → Nat → CS → CS
  | 0, k, n, x => x
  | d + 1, k, n, x => if Int32.ofNat (x 34 g k) = Int32.ofNat 3 then (if Int32.ofNat (r_X0_isFull x g) = 0 then (lpw_X6_closeOldSessions_13 c g d (k + 1) (n + 1) (su3 (w_X6_makeEntry x g 5 0 0 k) 34 g k 0)) else (lpw_X6_closeOldSessions_13 c g d (k + 1) n x)) else (lpw_X6_closeOldSessions_13 c g d (k + 1) n x)
def r_X6_closeOldSessions (c : CS) (g : Nat) : Nat := lpn_X6_closeOldSessions_13 c g 4 1 0 c
def w_X6_closeOldSessions (c : CS) (g : Nat) : CS := lpw_X6_closeOldSessions_13 c g 4 1 0 c
abbrev rm_X6_closeOldSessions : Room := { frames := 3, cells := 0, slots := 0, locals := 72 }
set_option maxHeartbeats 4000000 in
set_option maxRecDepth 100000 in
theorem k_X6_closeOldSessions (l : Launch) (D : va_G) (cI cS cZ : ClassId) (ad : Nat → Nat) (c : CS) (g : Nat) (h_g : g < 3) (hc : CB c) : gN l yX6_closeOldSessions (Cond.code yX6_closeOldSessions cX6_closeOldSessions 5 (some .int) :: tb) rm_X6_closeOldSessions D cls8 (tys3 cI cS cZ) [.ref (ad 0), .ref (ad (2 + 22 * g))] (cwld cI cS c ad) (some (.int (Int32.ofNat (r_X6_closeOldSessions c g)))) (cwld cI cS (w_X6_closeOldSessions c g) ad) := by
  unfold gN
  refine g_head (by decide) rfl (Nat.le_of_ble_eq_true rfl) ?_
  intro p e s m args below meth cd A F hr hlk hnm
  refine g_eq rfl (L' := [(0, .ref (ad 0)), (1, .ref (ad (2 + 22 * g)))]) rfl rfl rfl ?_
  refine g_aload_n F dX6_closeOldSessions_0 1 rfl ?_
  refine f_getN F inX3 (pl_SV h_g) rfl 10 (by decide) nb_32 rfl (v := .ref (ad (2 + 22 * g + 4))) rfl dX6_closeOldSessions_1 ?_
  refine f_getN F inX4 (pl_TM h_g) rfl 3 (by decide) nb_21 rfl (v := .ref (ad (2 + 22 * g + 21))) rfl dX6_closeOldSessions_4 ?_
  refine g_astore_n F [(2, .ref (ad (2 + 22 * g + 21))), (0, .ref (ad 0)), (1, .ref (ad (2 + 22 * g)))] dX6_closeOldSessions_7 (by decide) rfl ?_
  refine f_iconst F 0 dX6_closeOldSessions_8 rfl ?_
  refine g_istore_n F [(3, .int (Int32.ofNat 0)), (2, .ref (ad (2 + 22 * g + 21))), (0, .ref (ad 0)), (1, .ref (ad (2 + 22 * g)))] dX6_closeOldSessions_9 (by decide) rfl ?_
  refine f_iconst F 1 dX6_closeOldSessions_10 rfl ?_
  refine g_istore F [(4, .int (Int32.ofNat 1)), (3, .int (Int32.ofNat 0)), (2, .ref (ad (2 + 22 * g + 21))), (0, .ref (ad 0)), (1, .ref (ad (2 + 22 * g)))] dX6_closeOldSessions_11 (by decide) rfl ?_
  have loop13 : ∀ (Q : State → Prop) (d k n : Nat) (x : CS), (k + d = 5) → (CB x) → gw p l e (headSpec (Cond.code yX6_closeOldSessions cX6_closeOldSessions 5 (some .int) :: tb) rm_X6_closeOldSessions).room s m args below meth cd 5 D cls8 A Q 0 0 61 [(3, .int (Int32.ofNat (lpn_X6_closeOldSessions_13 c g d k n x))), (2, .ref (ad (2 + 22 * g + 21))), (0, .ref (ad 0)), (1, .ref (ad (2 + 22 * g)))] [] (cwld cI cS (lpw_X6_closeOldSessions_13 c g d k n x) ad) → gw p l e (headSpec (Cond.code yX6_closeOldSessions cX6_closeOldSessions 5 (some .int) :: tb) rm_X6_closeOldSessions).room s m args below meth cd 5 D cls8 A Q 0 0 13 [(4, .int (Int32.ofNat k)), (3, .int (Int32.ofNat n)), (2, .ref (ad (2 + 22 * g + 21))), (0, .ref (ad 0)), (1, .ref (ad (2 + 22 * g)))] [] (cwld cI cS x ad) := by
    intro Q d
    induction d with
    | zero =>
      intro k n x hk hx K
      refine g_iload F dX6_closeOldSessions_13 0 rfl ?_
      refine f_iconst F 4 dX6_closeOldSessions_15 rfl ?_
      refine g_icmp_gt F dX6_closeOldSessions_16 (tgt := 61) rfl (fun h16 => ?_) (fun h16 => ?_)
      rotate_left
      · exact absurd h16 (by rw [ofN_lt (by omega) (by omega)]; omega)
      refine g_locals [(3, .int (Int32.ofNat n)), (2, .ref (ad (2 + 22 * g + 21))), (0, .ref (ad 0)), (1, .ref (ad (2 + 22 * g)))] [1, 2, 3, 4] rfl ?_
      exact K
    | succ d ih =>
      intro k n x hk hx K
      refine g_iload F dX6_closeOldSessions_13 0 rfl ?_
      refine f_iconst F 4 dX6_closeOldSessions_15 rfl ?_
      refine g_icmp_gt F dX6_closeOldSessions_16 (tgt := 61) rfl (fun h16 => ?_) (fun h16 => ?_)
      · exact absurd h16 (by rw [ofN_lt (by omega) (by omega)]; omega)
      refine g_aload_n F dX6_closeOldSessions_19 2 rfl ?_
      refine g_iload F dX6_closeOldSessions_20 0 rfl ?_
      refine f_ald F 0 (pl_34 h_g) rfl (j := k) (by omega) (by decide) dX6_closeOldSessions_22 ?_
      refine f_iconst F 3 dX6_closeOldSessions_23 rfl ?_
      refine g_icmp_ne F dX6_closeOldSessions_24 (tgt := 55) rfl (fun h24 => ?_) (fun h24 => ?_)
      · refine f_iinc F (k + 1) [(4, .int (Int32.ofNat (k + 1))), (3, .int (Int32.ofNat n)), (2, .ref (ad (2 + 22 * g + 21))), (0, .ref (ad 0)), (1, .ref (ad (2 + 22 * g)))] dX6_closeOldSessions_55 0 rfl (ofN_inc _) (by decide) rfl ?_
        refine g_goto F dX6_closeOldSessions_58 (tgt := 13) rfl ?_
        exact ih (k + 1) n x (by omega) hx (g_eq rfl (by simp only [lpn_X6_closeOldSessions_13, lpw_X6_closeOldSessions_13, if_neg h24]) rfl (congrArg (fun t => cwld cI cS t ad) (by simp only [lpn_X6_closeOldSessions_13, lpw_X6_closeOldSessions_13, if_neg h24])) K)
      · refine g_aload_n F dX6_closeOldSessions_27 4 rfl ?_
        refine f_getN F inX3 (pl_SV h_g) rfl 3 (by decide) nb_25 rfl (v := .ref (ad (2 + 22 * g + 1))) rfl dX6_closeOldSessions_28 ?_
        refine f_callVN F (As := []) (rest := []) (st' := [.int (Int32.ofNat (r_X0_isFull x g))]) (k_X0_isFull l D cI cS cZ ad x g h_g) (pl_EL h_g) rfl tb_210 nb_49 tb_209 tb_583 tb_3 hdX0_isFull ⟨rfl, rfl⟩ ⟨Nat.le_of_ble_eq_true rfl, Nat.le_of_ble_eq_true rfl⟩ cw_adr rfl rfl (Nat.le_of_ble_eq_true rfl) ⟨Nat.le_refl _, Nat.le_refl _⟩ dX6_closeOldSessions_31 rfl ?_
        refine g_if_ne F dX6_closeOldSessions_34 (tgt := 55) rfl (fun h34 => ?_) (fun h34 => ?_)
        · refine f_iinc F (k + 1) [(4, .int (Int32.ofNat (k + 1))), (3, .int (Int32.ofNat n)), (2, .ref (ad (2 + 22 * g + 21))), (0, .ref (ad 0)), (1, .ref (ad (2 + 22 * g)))] dX6_closeOldSessions_55 0 rfl (ofN_inc _) (by decide) rfl ?_
          refine g_goto F dX6_closeOldSessions_58 (tgt := 13) rfl ?_
          exact ih (k + 1) n x (by omega) hx (g_eq rfl (by simp only [lpn_X6_closeOldSessions_13, lpw_X6_closeOldSessions_13, if_pos h24, if_neg h34]) rfl (congrArg (fun t => cwld cI cS t ad) (by simp only [lpn_X6_closeOldSessions_13, lpw_X6_closeOldSessions_13, if_pos h24, if_neg h34])) K)
        · refine g_aload_n F dX6_closeOldSessions_37 3 rfl ?_
          refine g_aload_n F dX6_closeOldSessions_38 4 rfl ?_
          refine f_iconst F 5 dX6_closeOldSessions_39 rfl ?_
          refine f_iconst F 0 dX6_closeOldSessions_40 rfl ?_
          refine f_iconst F 0 dX6_closeOldSessions_41 rfl ?_
          refine g_iload F dX6_closeOldSessions_42 0 rfl ?_
          refine f_callV F (As := [.ref (ad (2 + 22 * g)), .int (Int32.ofNat 5), .int (Int32.ofNat 0), .int (Int32.ofNat 0), .int (Int32.ofNat k)]) (rest := []) (st' := []) (k_X6_makeEntry l D cI cS cZ ad x g 5 0 0 k h_g hx) pl_ET rfl tb_288 tb_286 tb_287 tb_602 tb_1 ⟨rfl, hdX6_makeEntry⟩ ⟨rfl, rfl⟩ ⟨Nat.le_of_ble_eq_true rfl, Nat.le_of_ble_eq_true rfl⟩ cw_adr rfl rfl (Nat.le_of_ble_eq_true rfl) ⟨Nat.le_refl _, Nat.le_refl _⟩ dX6_closeOldSessions_44 rfl ?_
          refine g_aload_n F dX6_closeOldSessions_47 2 rfl ?_
          refine g_iload F dX6_closeOldSessions_48 0 rfl ?_
          refine f_iconst F 0 dX6_closeOldSessions_50 rfl ?_
          refine f_ast F 0 (pl_34 h_g) rfl (j := k) (v := 0) (by omega) (by decide) dX6_closeOldSessions_51 (ps_34 h_g) ?_
          refine f_iinc F (n + 1) [(3, .int (Int32.ofNat (n + 1))), (4, .int (Int32.ofNat k)), (2, .ref (ad (2 + 22 * g + 21))), (0, .ref (ad 0)), (1, .ref (ad (2 + 22 * g)))] dX6_closeOldSessions_52 1 rfl (ofN_inc _) (by decide) rfl ?_
          refine f_iinc F (k + 1) [(4, .int (Int32.ofNat (k + 1))), (3, .int (Int32.ofNat (n + 1))), (2, .ref (ad (2 + 22 * g + 21))), (0, .ref (ad 0)), (1, .ref (ad (2 + 22 * g)))] dX6_closeOldSessions_55 1 rfl (ofN_inc _) (by decide) rfl ?_
          refine g_goto F dX6_closeOldSessions_58 (tgt := 13) rfl ?_
          exact ih (k + 1) (n + 1) (su3 (w_X6_makeEntry x g 5 0 0 k) 34 g k 0) (by omega) (cb_su (cb_X6_makeEntry hx) (bnd_no (by decide))) (g_eq rfl (by simp only [lpn_X6_closeOldSessions_13, lpw_X6_closeOldSessions_13, if_pos h24, if_pos h34]) rfl (congrArg (fun t => cwld cI cS t ad) (by simp only [lpn_X6_closeOldSessions_13, lpw_X6_closeOldSessions_13, if_pos h24, if_pos h34])) K)
  refine loop13 _ 4 1 0 c rfl hc ?_
  refine g_iload_n F dX6_closeOldSessions_61 0 rfl ?_
  exact g_iret F hr hlk dX6_closeOldSessions_62 ⟨congrArg (fun t => some (Value.int (Int32.ofNat t))) rfl, congrArg (fun t => cwld cI cS t ad) rfl⟩
theorem cb_X6_closeOldSessions {c : CS} {g : Nat} (h : CB c) : CB (w_X6_closeOldSessions c g) := by
  have key : ∀ (d k n : Nat) (x : CS), CB x → CB (lpw_X6_closeOldSessions_13 c g d k n x) := by
    intro d
    induction d with
    | zero => intro k n x hx; exact hx
    | succ d ih =>
      intro k n x hx
      simp only [lpw_X6_closeOldSessions_13]
      repeat' (first | exact ih _ _ _ hx | exact ih _ _ _ (cb_su (cb_X6_makeEntry hx) (bnd_no (by decide))) | split)
  exact key _ _ _ _ h
def lpr_X6_isNodePath_16 (c : CS) (pa : Nat) : Nat → Nat → Nat
  | 0, r => 1
  | d + 1, r => if Int32.ofNat r ≤ 0 then 1 else (if Int32.ofNat (nc ((Int32.ofNat r) - (Int32.ofNat r) / (Int32.ofNat 8) * (Int32.ofNat 8))) = 0 then 0 else (lpr_X6_isNodePath_16 c pa d (nc ((Int32.ofNat r) / (Int32.ofNat 8)))))
def r_X6_isNodePath (c : CS) (pa : Nat) : Nat := if Int32.ofNat pa < Int32.ofNat 1 then 0 else (if Int32.ofNat pa ≤ Int32.ofNat 511 then (lpr_X6_isNodePath_16 c pa 3 pa) else 0)
abbrev rm_X6_isNodePath : Room := { frames := 0, cells := 0, slots := 0, locals := 0 }
set_option maxHeartbeats 4000000 in
set_option maxRecDepth 100000 in
theorem k_X6_isNodePath (l : Launch) (D : va_G) (cI cS cZ : ClassId) (ad : Nat → Nat) (c : CS) (pa : Nat) (hk : pa < 4294967296) : gN l yX6_isNodePath (Cond.code yX6_isNodePath cX6_isNodePath 2 (some .boolean) :: tb) rm_X6_isNodePath D cls8 (tys3 cI cS cZ) [.int (Int32.ofNat pa)] (cwld cI cS c ad) (some (.int (Int32.ofNat (r_X6_isNodePath c pa)))) (cwld cI cS c ad) := by
  unfold gN
  refine g_head (by decide) rfl (Nat.le_of_ble_eq_true rfl) ?_
  intro p e s m args below meth cd A F hr hlk hnm
  refine g_eq rfl (L' := [(0, .int (Int32.ofNat pa))]) rfl rfl rfl ?_
  refine g_iload_n F dX6_isNodePath_0 0 rfl ?_
  refine f_iconst F 1 dX6_isNodePath_1 rfl ?_
  refine g_icmp_lt F dX6_isNodePath_2 (tgt := 12) rfl (fun h2 => ?_) (fun h2 => ?_)
  · refine f_iconst F 0 dX6_isNodePath_12 rfl ?_
    exact g_zret F hr hlk rfl dX6_isNodePath_13 ⟨congrArg (fun t => some (Value.int (Int32.ofNat t))) (Eq.symm (by unfold r_X6_isNodePath; first | simp only [if_pos h2] | rfl)), rfl⟩
  · refine g_iload_n F dX6_isNodePath_5 0 rfl ?_
    refine f_sipush F 511 dX6_isNodePath_6 rfl ?_
    refine g_icmp_le F dX6_isNodePath_9 (tgt := 14) rfl (fun h9 => ?_) (fun h9 => ?_)
    · refine g_iload_n F dX6_isNodePath_14 0 rfl ?_
      refine g_istore_n F [(1, .int (Int32.ofNat pa)), (0, .int (Int32.ofNat pa))] dX6_isNodePath_15 (by decide) rfl ?_
      have loop16 : ∀ (d r : Nat), (r < 8 ^ d) → (r ≤ 511) → r_X6_isNodePath c pa = lpr_X6_isNodePath_16 c pa d r → gw p l e (headSpec (Cond.code yX6_isNodePath cX6_isNodePath 2 (some .boolean) :: tb) rm_X6_isNodePath).room s m args below meth cd 2 D cls8 A (MQ below (gQ D cls8 (tys3 cI cS cZ) (fun v w => v = (some (.int (Int32.ofNat (r_X6_isNodePath c pa)))) ∧ w = cwld cI cS c ad) A) args s 0 0 A) 0 0 16 [(1, .int (Int32.ofNat r)), (0, .int (Int32.ofNat pa))] [] (cwld cI cS c ad) := by
        intro d
        induction d with
        | zero =>
          intro r hq hq2 Er
          refine g_iload_n F dX6_isNodePath_16 0 rfl ?_
          refine g_if_le F dX6_isNodePath_17 (tgt := 37) rfl (fun h17 => ?_) (fun h17 => ?_)
          rotate_left
          · exact absurd h17 (by have : r = 0 := (by simpa using hq); subst this; decide)
          refine f_iconst F 1 dX6_isNodePath_37 rfl ?_
          exact g_zret F hr hlk rfl dX6_isNodePath_38 ⟨congrArg (fun t => some (Value.int (Int32.ofNat t))) (Eq.symm (Er.trans (by simp only [lpr_X6_isNodePath_16]))), rfl⟩
        | succ d ih =>
          intro r hq hq2 Er
          refine g_iload_n F dX6_isNodePath_16 0 rfl ?_
          refine g_if_le F dX6_isNodePath_17 (tgt := 37) rfl (fun h17 => ?_) (fun h17 => ?_)
          · refine f_iconst F 1 dX6_isNodePath_37 rfl ?_
            exact g_zret F hr hlk rfl dX6_isNodePath_38 ⟨congrArg (fun t => some (Value.int (Int32.ofNat t))) (Eq.symm (Er.trans (by simp only [lpr_X6_isNodePath_16, if_pos h17]))), rfl⟩
          · refine g_iload_n F dX6_isNodePath_20 0 rfl ?_
            refine f_bipush F 8 dX6_isNodePath_21 rfl ?_
            refine g_irem F dX6_isNodePath_23 (by decide) ?_
            refine f_code ?_
            refine g_if_ne F dX6_isNodePath_24 (tgt := 29) rfl (fun h24 => ?_) (fun h24 => ?_)
            · refine g_iload_n F dX6_isNodePath_29 0 rfl ?_
              refine f_bipush F 8 dX6_isNodePath_30 rfl ?_
              refine g_idiv F dX6_isNodePath_32 (by decide) ?_
              refine f_code ?_
              refine g_istore_n F [(1, .int (Int32.ofNat (nc ((Int32.ofNat r) / (Int32.ofNat 8))))), (0, .int (Int32.ofNat pa))] dX6_isNodePath_33 (by decide) rfl ?_
              refine g_goto F dX6_isNodePath_34 (tgt := 16) rfl ?_
              exact ih (nc ((Int32.ofNat r) / (Int32.ofNat 8))) (by rw [div8 (by omega)]; rw [Nat.pow_succ] at hq; omega) (by rw [div8 (by omega)]; omega) (Er.trans (by simp only [lpr_X6_isNodePath_16, if_neg h17, if_neg h24]))
            · refine f_iconst F 0 dX6_isNodePath_27 rfl ?_
              exact g_zret F hr hlk rfl dX6_isNodePath_28 ⟨congrArg (fun t => some (Value.int (Int32.ofNat t))) (Eq.symm (Er.trans (by simp only [lpr_X6_isNodePath_16, if_neg h17, if_pos h24]))), rfl⟩
      exact loop16 3 pa (by have := code_ge h2 hk (by decide); have := (ofN_le this.2 (by decide)).mp h9; omega) (by have := code_ge h2 hk (by decide); exact (ofN_le this.2 (by decide)).mp h9) (by unfold r_X6_isNodePath; simp only [if_neg h2, if_pos h9])
    · refine f_iconst F 0 dX6_isNodePath_12 rfl ?_
      exact g_zret F hr hlk rfl dX6_isNodePath_13 ⟨congrArg (fun t => some (Value.int (Int32.ofNat t))) (Eq.symm (by unfold r_X6_isNodePath; first | simp only [if_neg h2, if_neg h9] | rfl)), rfl⟩
def r_X6_isChange (c : CS) (kd pa vb : Nat) : Nat := if Int32.ofNat kd = Int32.ofNat 1 then (if Int32.ofNat (r_X6_isNodePath c pa) = 0 then 0 else (if Int32.ofNat vb = 0 then 1 else (if Int32.ofNat (r_X6_isSession c vb) = 0 then 0 else 1))) else (if Int32.ofNat kd = Int32.ofNat 2 then (if Int32.ofNat (r_X6_isNodePath c pa) = 0 then 0 else (if Int32.ofNat vb < Int32.ofNat 4294967295 then 0 else 1)) else (if Int32.ofNat kd = Int32.ofNat 3 then (if Int32.ofNat (r_X6_isNodePath c pa) = 0 then 0 else (if Int32.ofNat vb < Int32.ofNat 4294967295 then 0 else 1)) else (if Int32.ofNat kd = Int32.ofNat 4 then (r_X6_isSession c vb) else (if Int32.ofNat kd = Int32.ofNat 5 then (r_X6_isSession c vb) else 0))))
abbrev rm_X6_isChange : Room := { frames := 1, cells := 0, slots := 0, locals := 21 }
set_option maxHeartbeats 4000000 in
set_option maxRecDepth 100000 in
theorem k_X6_isChange (l : Launch) (D : va_G) (cI cS cZ : ClassId) (ad : Nat → Nat) (c : CS) (kd pa vb : Nat) (hk : pa < 4294967296) : gN l yX6_isChange (Cond.code yX6_isChange cX6_isChange 3 (some .boolean) :: tb) rm_X6_isChange D cls8 (tys3 cI cS cZ) [.int (Int32.ofNat kd), .int (Int32.ofNat pa), .int (Int32.ofNat vb)] (cwld cI cS c ad) (some (.int (Int32.ofNat (r_X6_isChange c kd pa vb)))) (cwld cI cS c ad) := by
  unfold gN
  refine g_head (by decide) rfl (Nat.le_of_ble_eq_true rfl) ?_
  intro p e s m args below meth cd A F hr hlk hnm
  refine g_eq rfl (L' := [(0, .int (Int32.ofNat kd)), (1, .int (Int32.ofNat pa)), (2, .int (Int32.ofNat vb))]) rfl rfl rfl ?_
  refine g_iload_n F dX6_isChange_0 0 rfl ?_
  by_cases h1_1 : Int32.ofNat kd = Int32.ofNat 1
  · refine g_tableIn F dX6_isChange_1 (by rw [h1_1]; decide) (by rw [h1_1]; decide) (off := 35) (by rw [h1_1]; rfl) (tgt := 36) rfl ?_
    refine g_iload_n F dX6_isChange_36 1 rfl ?_
    refine f_callS F (av := [.int (Int32.ofNat pa)]) (rest := []) (st' := [.int (Int32.ofNat (r_X6_isNodePath c pa))]) (k_X6_isNodePath l D cI cS cZ ad c pa hk) tb_284 tb_282 tb_283 tb_1 hdX6_isNodePath ⟨rfl, rfl⟩ ⟨Nat.le_of_ble_eq_true rfl, Nat.le_of_ble_eq_true rfl⟩ cw_adr rfl rfl (Nat.le_of_ble_eq_true rfl) ⟨Nat.le_refl _, Nat.le_refl _⟩ dX6_isChange_37 rfl ?_
    refine g_if_eq F dX6_isChange_40 (tgt := 58) rfl (fun h40 => ?_) (fun h40 => ?_)
    · refine f_iconst F 0 dX6_isChange_58 rfl ?_
      exact g_zret F hr hlk rfl dX6_isChange_59 ⟨congrArg (fun t => some (Value.int (Int32.ofNat t))) (Eq.symm (by unfold r_X6_isChange; first | simp only [if_pos h1_1, if_pos h40] | rfl)), rfl⟩
    · refine g_iload_n F dX6_isChange_43 2 rfl ?_
      refine g_if_eq F dX6_isChange_44 (tgt := 54) rfl (fun h44 => ?_) (fun h44 => ?_)
      · refine f_iconst F 1 dX6_isChange_54 rfl ?_
        refine g_goto F dX6_isChange_55 (tgt := 59) rfl ?_
        exact g_zret F hr hlk rfl dX6_isChange_59 ⟨congrArg (fun t => some (Value.int (Int32.ofNat t))) (Eq.symm (by unfold r_X6_isChange; first | simp only [if_pos h1_1, if_neg h40, if_pos h44] | rfl)), rfl⟩
      · refine g_iload_n F dX6_isChange_47 2 rfl ?_
        refine f_callS F (av := [.int (Int32.ofNat vb)]) (rest := []) (st' := [.int (Int32.ofNat (r_X6_isSession c vb))]) (k_X6_isSession l D cI cS cZ ad c vb) tb_234 tb_285 tb_233 tb_1 hdX6_isSession ⟨rfl, rfl⟩ ⟨Nat.le_of_ble_eq_true rfl, Nat.le_of_ble_eq_true rfl⟩ cw_adr rfl rfl (Nat.le_of_ble_eq_true rfl) ⟨Nat.le_refl _, Nat.le_refl _⟩ dX6_isChange_48 rfl ?_
        refine g_if_eq F dX6_isChange_51 (tgt := 58) rfl (fun h51 => ?_) (fun h51 => ?_)
        · refine f_iconst F 0 dX6_isChange_58 rfl ?_
          exact g_zret F hr hlk rfl dX6_isChange_59 ⟨congrArg (fun t => some (Value.int (Int32.ofNat t))) (Eq.symm (by unfold r_X6_isChange; first | simp only [if_pos h1_1, if_neg h40, if_neg h44, if_pos h51] | rfl)), rfl⟩
        · refine f_iconst F 1 dX6_isChange_54 rfl ?_
          refine g_goto F dX6_isChange_55 (tgt := 59) rfl ?_
          exact g_zret F hr hlk rfl dX6_isChange_59 ⟨congrArg (fun t => some (Value.int (Int32.ofNat t))) (Eq.symm (by unfold r_X6_isChange; first | simp only [if_pos h1_1, if_neg h40, if_neg h44, if_neg h51] | rfl)), rfl⟩
  by_cases h1_2 : Int32.ofNat kd = Int32.ofNat 2
  · refine g_tableIn F dX6_isChange_1 (by rw [h1_2]; decide) (by rw [h1_2]; decide) (off := 59) (by rw [h1_2]; rfl) (tgt := 60) rfl ?_
    refine g_iload_n F dX6_isChange_60 1 rfl ?_
    refine f_callS F (av := [.int (Int32.ofNat pa)]) (rest := []) (st' := [.int (Int32.ofNat (r_X6_isNodePath c pa))]) (k_X6_isNodePath l D cI cS cZ ad c pa hk) tb_284 tb_282 tb_283 tb_1 hdX6_isNodePath ⟨rfl, rfl⟩ ⟨Nat.le_of_ble_eq_true rfl, Nat.le_of_ble_eq_true rfl⟩ cw_adr rfl rfl (Nat.le_of_ble_eq_true rfl) ⟨Nat.le_refl _, Nat.le_refl _⟩ dX6_isChange_61 rfl ?_
    refine g_if_eq F dX6_isChange_64 (tgt := 76) rfl (fun h64 => ?_) (fun h64 => ?_)
    · refine f_iconst F 0 dX6_isChange_76 rfl ?_
      exact g_zret F hr hlk rfl dX6_isChange_77 ⟨congrArg (fun t => some (Value.int (Int32.ofNat t))) (Eq.symm (by unfold r_X6_isChange; first | simp only [if_neg h1_1, if_pos h1_2, if_pos h64] | rfl)), rfl⟩
    · refine g_iload_n F dX6_isChange_67 2 rfl ?_
      refine f_iconst F 4294967295 dX6_isChange_68 rfl ?_
      refine g_icmp_lt F dX6_isChange_69 (tgt := 76) rfl (fun h69 => ?_) (fun h69 => ?_)
      · refine f_iconst F 0 dX6_isChange_76 rfl ?_
        exact g_zret F hr hlk rfl dX6_isChange_77 ⟨congrArg (fun t => some (Value.int (Int32.ofNat t))) (Eq.symm (by unfold r_X6_isChange; first | simp only [if_neg h1_1, if_pos h1_2, if_neg h64, if_pos h69] | rfl)), rfl⟩
      · refine f_iconst F 1 dX6_isChange_72 rfl ?_
        refine g_goto F dX6_isChange_73 (tgt := 77) rfl ?_
        exact g_zret F hr hlk rfl dX6_isChange_77 ⟨congrArg (fun t => some (Value.int (Int32.ofNat t))) (Eq.symm (by unfold r_X6_isChange; first | simp only [if_neg h1_1, if_pos h1_2, if_neg h64, if_neg h69] | rfl)), rfl⟩
  by_cases h1_3 : Int32.ofNat kd = Int32.ofNat 3
  · refine g_tableIn F dX6_isChange_1 (by rw [h1_3]; decide) (by rw [h1_3]; decide) (off := 59) (by rw [h1_3]; rfl) (tgt := 60) rfl ?_
    refine g_iload_n F dX6_isChange_60 1 rfl ?_
    refine f_callS F (av := [.int (Int32.ofNat pa)]) (rest := []) (st' := [.int (Int32.ofNat (r_X6_isNodePath c pa))]) (k_X6_isNodePath l D cI cS cZ ad c pa hk) tb_284 tb_282 tb_283 tb_1 hdX6_isNodePath ⟨rfl, rfl⟩ ⟨Nat.le_of_ble_eq_true rfl, Nat.le_of_ble_eq_true rfl⟩ cw_adr rfl rfl (Nat.le_of_ble_eq_true rfl) ⟨Nat.le_refl _, Nat.le_refl _⟩ dX6_isChange_61 rfl ?_
    refine g_if_eq F dX6_isChange_64 (tgt := 76) rfl (fun h64 => ?_) (fun h64 => ?_)
    · refine f_iconst F 0 dX6_isChange_76 rfl ?_
      exact g_zret F hr hlk rfl dX6_isChange_77 ⟨congrArg (fun t => some (Value.int (Int32.ofNat t))) (Eq.symm (by unfold r_X6_isChange; first | simp only [if_neg h1_1, if_neg h1_2, if_pos h1_3, if_pos h64] | rfl)), rfl⟩
    · refine g_iload_n F dX6_isChange_67 2 rfl ?_
      refine f_iconst F 4294967295 dX6_isChange_68 rfl ?_
      refine g_icmp_lt F dX6_isChange_69 (tgt := 76) rfl (fun h69 => ?_) (fun h69 => ?_)
      · refine f_iconst F 0 dX6_isChange_76 rfl ?_
        exact g_zret F hr hlk rfl dX6_isChange_77 ⟨congrArg (fun t => some (Value.int (Int32.ofNat t))) (Eq.symm (by unfold r_X6_isChange; first | simp only [if_neg h1_1, if_neg h1_2, if_pos h1_3, if_neg h64, if_pos h69] | rfl)), rfl⟩
      · refine f_iconst F 1 dX6_isChange_72 rfl ?_
        refine g_goto F dX6_isChange_73 (tgt := 77) rfl ?_
        exact g_zret F hr hlk rfl dX6_isChange_77 ⟨congrArg (fun t => some (Value.int (Int32.ofNat t))) (Eq.symm (by unfold r_X6_isChange; first | simp only [if_neg h1_1, if_neg h1_2, if_pos h1_3, if_neg h64, if_neg h69] | rfl)), rfl⟩
  by_cases h1_4 : Int32.ofNat kd = Int32.ofNat 4
  · refine g_tableIn F dX6_isChange_1 (by rw [h1_4]; decide) (by rw [h1_4]; decide) (off := 77) (by rw [h1_4]; rfl) (tgt := 78) rfl ?_
    refine g_iload_n F dX6_isChange_78 2 rfl ?_
    refine f_callS F (av := [.int (Int32.ofNat vb)]) (rest := []) (st' := [.int (Int32.ofNat (r_X6_isSession c vb))]) (k_X6_isSession l D cI cS cZ ad c vb) tb_234 tb_285 tb_233 tb_1 hdX6_isSession ⟨rfl, rfl⟩ ⟨Nat.le_of_ble_eq_true rfl, Nat.le_of_ble_eq_true rfl⟩ cw_adr rfl rfl (Nat.le_of_ble_eq_true rfl) ⟨Nat.le_refl _, Nat.le_refl _⟩ dX6_isChange_79 rfl ?_
    exact g_zret F hr hlk isSession_z dX6_isChange_82 ⟨congrArg (fun t => some (Value.int (Int32.ofNat t))) (Eq.symm (by unfold r_X6_isChange; first | simp only [if_neg h1_1, if_neg h1_2, if_neg h1_3, if_pos h1_4] | rfl)), rfl⟩
  by_cases h1_5 : Int32.ofNat kd = Int32.ofNat 5
  · refine g_tableIn F dX6_isChange_1 (by rw [h1_5]; decide) (by rw [h1_5]; decide) (off := 77) (by rw [h1_5]; rfl) (tgt := 78) rfl ?_
    refine g_iload_n F dX6_isChange_78 2 rfl ?_
    refine f_callS F (av := [.int (Int32.ofNat vb)]) (rest := []) (st' := [.int (Int32.ofNat (r_X6_isSession c vb))]) (k_X6_isSession l D cI cS cZ ad c vb) tb_234 tb_285 tb_233 tb_1 hdX6_isSession ⟨rfl, rfl⟩ ⟨Nat.le_of_ble_eq_true rfl, Nat.le_of_ble_eq_true rfl⟩ cw_adr rfl rfl (Nat.le_of_ble_eq_true rfl) ⟨Nat.le_refl _, Nat.le_refl _⟩ dX6_isChange_79 rfl ?_
    exact g_zret F hr hlk isSession_z dX6_isChange_82 ⟨congrArg (fun t => some (Value.int (Int32.ofNat t))) (Eq.symm (by unfold r_X6_isChange; first | simp only [if_neg h1_1, if_neg h1_2, if_neg h1_3, if_neg h1_4, if_pos h1_5] | rfl)), rfl⟩
  refine g_tableOut F dX6_isChange_1 (by have e1 : (Int32.ofNat kd).toInt ≠ 1 := fun h => h1_1 (Int32.toInt_inj.mp (h.trans (by decide))); have e2 : (Int32.ofNat kd).toInt ≠ 2 := fun h => h1_2 (Int32.toInt_inj.mp (h.trans (by decide))); have e3 : (Int32.ofNat kd).toInt ≠ 3 := fun h => h1_3 (Int32.toInt_inj.mp (h.trans (by decide))); have e4 : (Int32.ofNat kd).toInt ≠ 4 := fun h => h1_4 (Int32.toInt_inj.mp (h.trans (by decide))); have e5 : (Int32.ofNat kd).toInt ≠ 5 := fun h => h1_5 (Int32.toInt_inj.mp (h.trans (by decide))); omega) (tgt := 83) rfl ?_
  refine f_iconst F 0 dX6_isChange_83 rfl ?_
  exact g_zret F hr hlk rfl dX6_isChange_84 ⟨congrArg (fun t => some (Value.int (Int32.ofNat t))) (Eq.symm (by unfold r_X6_isChange; first | simp only [if_neg h1_1, if_neg h1_2, if_neg h1_3, if_neg h1_4, if_neg h1_5] | rfl)), rfl⟩
