def lpw_XA_fill_5 (c : CS) (i v : Nat) : Nat → Nat → CS → CS
  | 0, k, x => x
  | d + 1, k, x => lpw_XA_fill_5 c i v d (k + 1) (su3 x 34 i k v)
def w_XA_fill (c : CS) (i v : Nat) : CS := lpw_XA_fill_5 c i v 5 0 c
abbrev rm_XA_fill : Room := { frames := 0, cells := 0, slots := 0, locals := 0 }
set_option maxHeartbeats 4000000 in
set_option maxRecDepth 100000 in
theorem k_XA_fill (l : Launch) (D : va_G) (cI cS cZ : ClassId) (ad : Nat → Nat) (c : CS) (i v : Nat) (h_i : i < 3) : gN l yXA_fill (Cond.code yXA_fill cXA_fill 4 none :: tb) rm_XA_fill D cls8 (tys3 cI cS cZ) [.ref (ad (2 + 22 * i + 21)), .int (Int32.ofNat v)] (cwld cI cS c ad) none (cwld cI cS (w_XA_fill c i v) ad) := by
  unfold gN
  refine g_head (by decide) rfl (Nat.le_of_ble_eq_true rfl) ?_
  intro p e s m args below meth cd A F hr hlk hnm
  refine g_eq rfl (L' := [(0, .ref (ad (2 + 22 * i + 21))), (1, .int (Int32.ofNat v))]) rfl rfl rfl ?_
  refine f_iconst F 0 dXA_fill_0 rfl ?_
  refine g_istore_n F [(2, .int (Int32.ofNat 0)), (0, .ref (ad (2 + 22 * i + 21))), (1, .int (Int32.ofNat v))] dXA_fill_1 (by decide) rfl ?_
  refine g_aload_n F dXA_fill_2 1 rfl ?_
  refine g_alen F _ 0 (pl_34 h_i) rfl (v := Int32.ofNat 5) rfl dXA_fill_3 ?_
  refine g_istore_n F [(3, .int (Int32.ofNat 5)), (2, .int (Int32.ofNat 0)), (0, .ref (ad (2 + 22 * i + 21))), (1, .int (Int32.ofNat v))] dXA_fill_4 (by decide) rfl ?_
  have loop5 : ∀ (Q : State → Prop) (d k : Nat) (x : CS), (k + d = 5) → gw p l e (headSpec (Cond.code yXA_fill cXA_fill 4 none :: tb) rm_XA_fill).room s m args below meth cd 4 D cls8 A Q 0 0 20 [(3, .int (Int32.ofNat 5)), (0, .ref (ad (2 + 22 * i + 21))), (1, .int (Int32.ofNat v))] [] (cwld cI cS (lpw_XA_fill_5 c i v d k x) ad) → gw p l e (headSpec (Cond.code yXA_fill cXA_fill 4 none :: tb) rm_XA_fill).room s m args below meth cd 4 D cls8 A Q 0 0 5 [(3, .int (Int32.ofNat 5)), (2, .int (Int32.ofNat k)), (0, .ref (ad (2 + 22 * i + 21))), (1, .int (Int32.ofNat v))] [] (cwld cI cS x ad) := by
    intro Q d
    induction d with
    | zero =>
      intro k x hk K
      refine g_iload_n F dXA_fill_5 1 rfl ?_
      refine g_iload_n F dXA_fill_6 0 rfl ?_
      refine g_icmp_ge F dXA_fill_7 (tgt := 20) rfl (fun h7 => ?_) (fun h7 => ?_)
      rotate_left
      · exact absurd h7 (by rw [ofN_le (by omega) (by omega)]; omega)
      refine g_locals [(3, .int (Int32.ofNat 5)), (0, .ref (ad (2 + 22 * i + 21))), (1, .int (Int32.ofNat v))] [0, 2, 3] rfl ?_
      exact K
    | succ d ih =>
      intro k x hk K
      refine g_iload_n F dXA_fill_5 1 rfl ?_
      refine g_iload_n F dXA_fill_6 0 rfl ?_
      refine g_icmp_ge F dXA_fill_7 (tgt := 20) rfl (fun h7 => ?_) (fun h7 => ?_)
      · exact absurd h7 (by rw [ofN_le (by omega) (by omega)]; omega)
      refine g_aload_n F dXA_fill_10 2 rfl ?_
      refine g_iload_n F dXA_fill_11 1 rfl ?_
      refine g_iload_n F dXA_fill_12 3 rfl ?_
      refine f_ast F 0 (pl_34 h_i) rfl (j := k) (v := v) (by omega) (by decide) dXA_fill_13 (ps_34 h_i) ?_
      refine f_iinc F (k + 1) [(2, .int (Int32.ofNat (k + 1))), (3, .int (Int32.ofNat 5)), (0, .ref (ad (2 + 22 * i + 21))), (1, .int (Int32.ofNat v))] dXA_fill_14 1 rfl (ofN_inc _) (by decide) rfl ?_
      refine g_goto F dXA_fill_17 (tgt := 5) rfl ?_
      refine g_locals [(3, .int (Int32.ofNat 5)), (2, .int (Int32.ofNat (k + 1))), (0, .ref (ad (2 + 22 * i + 21))), (1, .int (Int32.ofNat v))] [1, 0, 2, 3] rfl ?_
      exact ih (k + 1) (su3 x 34 i k v) (by omega) (g_eq rfl rfl rfl (congrArg (fun t => cwld cI cS t ad) (by simp only [lpw_XA_fill_5])) K)
  refine loop5 _ 5 0 c (Nat.zero_add _) ?_
  exact g_vret F hr hlk dXA_fill_20 ⟨rfl, congrArg (fun t => cwld cI cS t ad) rfl⟩
theorem cb_XA_fill {c : CS} {i v : Nat} (h : CB c) : CB (w_XA_fill c i v) := by
  have key : ∀ (d k : Nat) (x : CS), CB x → CB (lpw_XA_fill_5 c i v d k x) := by
    intro d
    induction d with
    | zero => intro k x hx; exact hx
    | succ d ih => intro k x hx; exact ih _ _ (cb_su hx (bnd_no (by decide)))
  exact key _ _ _ h
def w_X3_forgetApplied (c : CS) (i : Nat) : CS := w_X5_clear (su3 c 5 i 0 0) i
abbrev rm_X3_forgetApplied : Room := { frames := 1, cells := 0, slots := 0, locals := 20 }
set_option maxHeartbeats 4000000 in
set_option maxRecDepth 100000 in
theorem k_X3_forgetApplied (l : Launch) (D : va_G) (cI cS cZ : ClassId) (ad : Nat → Nat) (c : CS) (i : Nat) (h_i : i < 3) : gN l yX3_forgetApplied (Cond.code yX3_forgetApplied cX3_forgetApplied 1 none :: tb) rm_X3_forgetApplied D cls8 (tys3 cI cS cZ) [.ref (ad (2 + 22 * i))] (cwld cI cS c ad) none (cwld cI cS (w_X3_forgetApplied c i) ad) := by
  unfold gN
  refine g_head (by decide) rfl (Nat.le_of_ble_eq_true rfl) ?_
  intro p e s m args below meth cd A F hr hlk hnm
  refine g_eq rfl (L' := [(0, .ref (ad (2 + 22 * i)))]) rfl rfl rfl ?_
  refine g_aload_n F dX3_forgetApplied_0 0 rfl ?_
  refine f_iconst F 0 dX3_forgetApplied_1 rfl ?_
  refine f_put F inX3 tyX3_ok nmX3 (pl_SV h_i) rfl 6 (by decide) tb_103 rfl rfl rfl rfl (Nat.le_of_ble_eq_true rfl) dX3_forgetApplied_2 (ps_5 h_i) ?_
  refine g_aload_n F dX3_forgetApplied_5 0 rfl ?_
  refine f_get F inX3 (pl_SV h_i) rfl 8 (by decide) tb_105 rfl (v := .ref (ad (2 + 22 * i + 2))) rfl dX3_forgetApplied_6 ?_
  refine f_callVN F (As := []) (rest := []) (st' := []) (k_X5_clear l D cI cS cZ ad (su3 c 5 i 0 0) i h_i) (pl_TR h_i) rfl tb_163 nb_38 tb_162 tb_572 tb_4 hdX5_clear ⟨rfl, rfl⟩ ⟨Nat.le_of_ble_eq_true rfl, Nat.le_of_ble_eq_true rfl⟩ cw_adr rfl rfl (Nat.le_of_ble_eq_true rfl) ⟨Nat.le_refl _, Nat.le_refl _⟩ dX3_forgetApplied_9 rfl ?_
  exact g_vret F hr hlk dX3_forgetApplied_12 ⟨rfl, congrArg (fun t => cwld cI cS t ad) rfl⟩
theorem cb_X3_forgetApplied {c : CS} {i : Nat} (h : CB c) : CB (w_X3_forgetApplied c i) := cb_X5_clear (cb_su h (by unfold bnd; omega))
theorem min_end {a b B : Nat} (ha : a ≤ B) (hB : B < 2147483648) (hb : b < 2147483648) : (if Int32.ofNat a < Int32.ofNat b then a else b) ≤ B := by
  split
  · exact ha
  · rename_i h; have := nlt_le h (by omega) hb; omega
def lpw_X3_applyUpTo_17 (c : CS) (i k : Nat) : Nat → Nat → CS → CS
  | 0, t, x => x
  | d + 1, t, x => lpw_X3_applyUpTo_17 c i k d (t + 1) (su3 (su3 (w_X5_change x i (x 21 i t) (x 22 i t) (x 23 i t) (x 24 i t)) 25 i t (r_X5_change x i (x 21 i t) (x 22 i t) (x 23 i t) (x 24 i t))) 5 i 0 (t + 1))
def w_X3_applyUpTo (c : CS) (i k : Nat) : CS := lpw_X3_applyUpTo_17 c i k ((if Int32.ofNat (c 6 i 0) < Int32.ofNat k then (c 6 i 0) else k) - c 5 i 0) (c 5 i 0) c
abbrev rm_X3_applyUpTo : Room := { frames := 4, cells := 0, slots := 0, locals := 90 }
set_option maxHeartbeats 4000000 in
set_option maxRecDepth 100000 in
theorem k_X3_applyUpTo (l : Launch) (D : va_G) (cI cS cZ : ClassId) (ad : Nat → Nat) (c : CS) (i k : Nat) (h_i : i < 3) (hc : CB c) (hk : k < 2147483648) : gN l yX3_applyUpTo (Cond.code yX3_applyUpTo cX3_applyUpTo 4 none :: tb) rm_X3_applyUpTo D cls8 (tys3 cI cS cZ) [.ref (ad (2 + 22 * i)), .int (Int32.ofNat k)] (cwld cI cS c ad) none (cwld cI cS (w_X3_applyUpTo c i k) ad) := by
  unfold gN
  refine g_head (by decide) rfl (Nat.le_of_ble_eq_true rfl) ?_
  intro p e s m args below meth cd A F hr hlk hnm
  refine g_eq rfl (L' := [(0, .ref (ad (2 + 22 * i))), (1, .int (Int32.ofNat k))]) rfl rfl rfl ?_
  have he : (if Int32.ofNat (c 6 i 0) < Int32.ofNat k then (c 6 i 0) else k) ≤ 24 := min_end (cb6 hc h_i) (by decide) hk
  refine g_iload_n F dX3_applyUpTo_0 1 rfl ?_
  refine g_aload_n F dX3_applyUpTo_1 0 rfl ?_
  refine f_get F inX3 (pl_SV h_i) rfl 3 (by decide) tb_101 rfl (v := .ref (ad (2 + 22 * i + 1))) rfl dX3_applyUpTo_2 ?_
  refine f_getN F inX0 (pl_EL h_i) rfl 5 (by decide) nb_7 rfl (v := .int (Int32.ofNat (c 6 i 0))) rfl dX3_applyUpTo_5 ?_
  refine g_mmin F (gf_w F tb_222) (gf_w F tb_223) (gf_w F tb_9) (gf_w F tb_224) (Nat.le_of_ble_eq_true rfl) (Nat.le_of_ble_eq_true rfl) (Nat.le_refl _) (Nat.le_refl _) dX3_applyUpTo_8 ?_
  rw [← apply_ite Int32.ofNat]
  refine g_istore_n F [(2, .int (Int32.ofNat (if Int32.ofNat (c 6 i 0) < Int32.ofNat k then (c 6 i 0) else k))), (0, .ref (ad (2 + 22 * i))), (1, .int (Int32.ofNat k))] dX3_applyUpTo_11 (by decide) rfl ?_
  refine g_aload_n F dX3_applyUpTo_12 1 rfl ?_
  refine f_get F inX3 (pl_SV h_i) rfl 6 (by decide) tb_103 rfl (v := .int (Int32.ofNat (c 5 i 0))) rfl dX3_applyUpTo_13 ?_
  refine g_istore_n F [(3, .int (Int32.ofNat (c 5 i 0))), (2, .int (Int32.ofNat (if Int32.ofNat (c 6 i 0) < Int32.ofNat k then (c 6 i 0) else k))), (0, .ref (ad (2 + 22 * i))), (1, .int (Int32.ofNat k))] dX3_applyUpTo_16 (by decide) rfl ?_
  have loop17 : ∀ (Q : State → Prop) (d t : Nat) (x : CS), (d = (if Int32.ofNat (c 6 i 0) < Int32.ofNat k then (c 6 i 0) else k) - t) → (CB x) → (t ≤ 24) → gw p l e (headSpec (Cond.code yX3_applyUpTo cX3_applyUpTo 4 none :: tb) rm_X3_applyUpTo).room s m args below meth cd 4 D cls8 A Q 0 0 84 [(2, .int (Int32.ofNat (if Int32.ofNat (c 6 i 0) < Int32.ofNat k then (c 6 i 0) else k))), (0, .ref (ad (2 + 22 * i))), (1, .int (Int32.ofNat k))] [] (cwld cI cS (lpw_X3_applyUpTo_17 c i k d t x) ad) → gw p l e (headSpec (Cond.code yX3_applyUpTo cX3_applyUpTo 4 none :: tb) rm_X3_applyUpTo).room s m args below meth cd 4 D cls8 A Q 0 0 17 [(3, .int (Int32.ofNat t)), (2, .int (Int32.ofNat (if Int32.ofNat (c 6 i 0) < Int32.ofNat k then (c 6 i 0) else k))), (0, .ref (ad (2 + 22 * i))), (1, .int (Int32.ofNat k))] [] (cwld cI cS x ad) := by
    intro Q d
    induction d with
    | zero =>
      intro t x hd hx ht K
      refine g_iload_n F dX3_applyUpTo_17 0 rfl ?_
      refine g_iload_n F dX3_applyUpTo_18 1 rfl ?_
      refine g_icmp_ge F dX3_applyUpTo_19 (tgt := 84) rfl (fun h19 => ?_) (fun h19 => ?_)
      rotate_left
      · exact absurd h19 (by rw [ofN_le (by omega) (by omega)]; omega)
      refine g_locals [(2, .int (Int32.ofNat (if Int32.ofNat (c 6 i 0) < Int32.ofNat k then (c 6 i 0) else k))), (0, .ref (ad (2 + 22 * i))), (1, .int (Int32.ofNat k))] [1, 2, 3] rfl ?_
      exact K
    | succ d ih =>
      intro t x hd hx ht K
      refine g_iload_n F dX3_applyUpTo_17 0 rfl ?_
      refine g_iload_n F dX3_applyUpTo_18 1 rfl ?_
      refine g_icmp_ge F dX3_applyUpTo_19 (tgt := 84) rfl (fun h19 => ?_) (fun h19 => ?_)
      · exact absurd h19 (by rw [ofN_le (by omega) (by omega)]; omega)
      refine g_aload_n F dX3_applyUpTo_22 2 rfl ?_
      refine f_get F inX3 (pl_SV h_i) rfl 7 (by decide) tb_104 rfl (v := .ref (ad (2 + 22 * i + 12))) rfl dX3_applyUpTo_23 ?_
      refine g_iload_n F dX3_applyUpTo_26 0 rfl ?_
      refine g_aload_n F dX3_applyUpTo_27 2 rfl ?_
      refine f_get F inX3 (pl_SV h_i) rfl 8 (by decide) tb_105 rfl (v := .ref (ad (2 + 22 * i + 2))) rfl dX3_applyUpTo_28 ?_
      refine g_aload_n F dX3_applyUpTo_31 2 rfl ?_
      refine f_get F inX3 (pl_SV h_i) rfl 3 (by decide) tb_101 rfl (v := .ref (ad (2 + 22 * i + 1))) rfl dX3_applyUpTo_32 ?_
      refine f_getN F inX0 (pl_EL h_i) rfl 1 (by decide) nb_3 rfl (v := .ref (ad (2 + 22 * i + 8))) rfl dX3_applyUpTo_35 ?_
      refine g_iload_n F dX3_applyUpTo_38 0 rfl ?_
      refine f_ald F 0 (pl_21 h_i) rfl (j := t) (by omega) (by decide) dX3_applyUpTo_39 ?_
      refine g_aload_n F dX3_applyUpTo_40 2 rfl ?_
      refine f_get F inX3 (pl_SV h_i) rfl 3 (by decide) tb_101 rfl (v := .ref (ad (2 + 22 * i + 1))) rfl dX3_applyUpTo_41 ?_
      refine f_getN F inX0 (pl_EL h_i) rfl 2 (by decide) nb_4 rfl (v := .ref (ad (2 + 22 * i + 9))) rfl dX3_applyUpTo_44 ?_
      refine g_iload_n F dX3_applyUpTo_47 0 rfl ?_
      refine f_ald F 0 (pl_22 h_i) rfl (j := t) (by omega) (by decide) dX3_applyUpTo_48 ?_
      refine g_aload_n F dX3_applyUpTo_49 2 rfl ?_
      refine f_get F inX3 (pl_SV h_i) rfl 3 (by decide) tb_101 rfl (v := .ref (ad (2 + 22 * i + 1))) rfl dX3_applyUpTo_50 ?_
      refine f_getN F inX0 (pl_EL h_i) rfl 3 (by decide) nb_5 rfl (v := .ref (ad (2 + 22 * i + 10))) rfl dX3_applyUpTo_53 ?_
      refine g_iload_n F dX3_applyUpTo_56 0 rfl ?_
      refine f_ald F 0 (pl_23 h_i) rfl (j := t) (by omega) (by decide) dX3_applyUpTo_57 ?_
      refine g_aload_n F dX3_applyUpTo_58 2 rfl ?_
      refine f_get F inX3 (pl_SV h_i) rfl 3 (by decide) tb_101 rfl (v := .ref (ad (2 + 22 * i + 1))) rfl dX3_applyUpTo_59 ?_
      refine f_getN F inX0 (pl_EL h_i) rfl 4 (by decide) nb_6 rfl (v := .ref (ad (2 + 22 * i + 11))) rfl dX3_applyUpTo_62 ?_
      refine g_iload_n F dX3_applyUpTo_65 0 rfl ?_
      refine f_ald F 0 (pl_24 h_i) rfl (j := t) (by omega) (by decide) dX3_applyUpTo_66 ?_
      refine f_callVN F (As := [.int (Int32.ofNat (x 21 i t)), .int (Int32.ofNat (x 22 i t)), .int (Int32.ofNat (x 23 i t)), .int (Int32.ofNat (x 24 i t))]) (rest := [.int (Int32.ofNat t), .ref (ad (2 + 22 * i + 12))]) (st' := [.int (Int32.ofNat (r_X5_change x i (x 21 i t) (x 22 i t) (x 23 i t) (x 24 i t))), .int (Int32.ofNat t), .ref (ad (2 + 22 * i + 12))]) (k_X5_change l D cI cS cZ ad x i (x 21 i t) (x 22 i t) (x 23 i t) (x 24 i t) h_i (cb7 hx h_i)) (pl_TR h_i) rfl tb_226 nb_46 tb_225 tb_587 tb_4 hdX5_change ⟨rfl, rfl⟩ ⟨Nat.le_of_ble_eq_true rfl, Nat.le_of_ble_eq_true rfl⟩ cw_adr rfl rfl (Nat.le_of_ble_eq_true rfl) ⟨Nat.le_refl _, Nat.le_refl _⟩ dX3_applyUpTo_67 rfl ?_
      refine f_ast F 0 (pl_25 h_i) rfl (j := t) (v := r_X5_change x i (x 21 i t) (x 22 i t) (x 23 i t) (x 24 i t)) (by omega) (by decide) dX3_applyUpTo_70 (ps_25 h_i) ?_
      refine g_aload_n F dX3_applyUpTo_71 2 rfl ?_
      refine g_iload_n F dX3_applyUpTo_72 0 rfl ?_
      refine f_iconst F 1 dX3_applyUpTo_73 rfl ?_
      refine f_add F dX3_applyUpTo_74 ?_
      refine f_put F inX3 tyX3_ok nmX3 (pl_SV h_i) rfl 6 (by decide) tb_103 rfl rfl rfl rfl (Nat.le_of_ble_eq_true rfl) dX3_applyUpTo_75 (ps_5 h_i) ?_
      refine f_iinc F (t + 1) [(3, .int (Int32.ofNat (t + 1))), (2, .int (Int32.ofNat (if Int32.ofNat (c 6 i 0) < Int32.ofNat k then (c 6 i 0) else k))), (0, .ref (ad (2 + 22 * i))), (1, .int (Int32.ofNat k))] dX3_applyUpTo_78 0 rfl (ofN_inc _) (by decide) rfl ?_
      refine g_goto F dX3_applyUpTo_81 (tgt := 17) rfl ?_
      exact ih (t + 1) (su3 (su3 (w_X5_change x i (x 21 i t) (x 22 i t) (x 23 i t) (x 24 i t)) 25 i t (r_X5_change x i (x 21 i t) (x 22 i t) (x 23 i t) (x 24 i t))) 5 i 0 (t + 1)) (by omega) (cb_su (cb_su (cb_X5_change hx) (bnd_no (by decide))) (by unfold bnd; omega)) (by omega) (g_eq rfl rfl rfl (congrArg (fun t => cwld cI cS t ad) (by simp only [lpw_X3_applyUpTo_17])) K)
  refine loop17 _ ((if Int32.ofNat (c 6 i 0) < Int32.ofNat k then (c 6 i 0) else k) - c 5 i 0) (c 5 i 0) c rfl hc (cb5 hc h_i) ?_
  exact g_vret F hr hlk dX3_applyUpTo_84 ⟨rfl, congrArg (fun t => cwld cI cS t ad) rfl⟩
