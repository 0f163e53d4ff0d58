theorem cb_X3_applyUpTo {c : CS} {i k : Nat} (h : CB c) (hi : i < 3) (hk : k < 2147483648) : CB (w_X3_applyUpTo c i k) := by
  have key : ∀ (d t : Nat) (x : CS), CB x → d = 0 ∨ t + d ≤ 24 → CB (lpw_X3_applyUpTo_17 c i k d t x) := by
    intro d
    induction d with
    | zero => intro t x hx _; exact hx
    | succ d ih => intro t x hx ht; exact ih _ _ (cb_su (cb_su (cb_X5_change hx) (bnd_no (by decide))) (by unfold bnd; omega)) (by omega)
  have he := min_end (b := k) (cb6 h hi) (by decide) hk
  exact key _ _ _ h (by omega)
def lpw_X0_becomeFirst_7 (c : CS) (i o n : Nat) : Nat → Nat → CS → CS
  | 0, k, x => x
  | d + 1, k, x => if Int32.ofNat (x 6 o 0) < Int32.ofNat k then x else (lpw_X0_becomeFirst_7 c i o n d (k + 1) (w_X0_appendFrom x i o k))
def w_X0_becomeFirst (c : CS) (i o n : Nat) : CS := lpw_X0_becomeFirst_7 c i o n n 1 (su3 c 6 i 0 0)
abbrev rm_X0_becomeFirst : Room := { frames := 3, cells := 0, slots := 0, locals := 68 }
set_option maxHeartbeats 4000000 in
set_option maxRecDepth 100000 in
theorem k_X0_becomeFirst (l : Launch) (D : va_G) (cI cS cZ : ClassId) (ad : Nat → Nat) (c : CS) (i o n : Nat) (h_i : i < 3) (h_o : o < 3) (hc : CB c) (hn : n < 2147483647) : gN l yX0_becomeFirst (Cond.code yX0_becomeFirst cX0_becomeFirst 4 none :: tb) rm_X0_becomeFirst D cls8 (tys3 cI cS cZ) [.ref (ad (2 + 22 * i + 1)), .ref (ad (2 + 22 * o + 1)), .int (Int32.ofNat n)] (cwld cI cS c ad) none (cwld cI cS (w_X0_becomeFirst c i o n) ad) := by
  unfold gN
  refine g_head (by decide) rfl (Nat.le_of_ble_eq_true rfl) ?_
  intro p e s m args below meth cd A F hr hlk hnm
  refine g_eq rfl (L' := [(0, .ref (ad (2 + 22 * i + 1))), (1, .ref (ad (2 + 22 * o + 1))), (2, .int (Int32.ofNat n))]) rfl rfl rfl ?_
  refine g_aload_n F dX0_becomeFirst_0 0 rfl ?_
  refine f_iconst F 0 dX0_becomeFirst_1 rfl ?_
  refine f_put F inX0 tyX0_ok nmX0 (pl_EL h_i) rfl 5 (by decide) tb_34 rfl rfl rfl rfl (Nat.le_of_ble_eq_true rfl) dX0_becomeFirst_2 (ps_6 h_i) ?_
  refine f_iconst F 1 dX0_becomeFirst_5 rfl ?_
  refine g_istore_n F [(3, .int (Int32.ofNat 1)), (0, .ref (ad (2 + 22 * i + 1))), (1, .ref (ad (2 + 22 * o + 1))), (2, .int (Int32.ofNat n))] dX0_becomeFirst_6 (by decide) rfl ?_
  have loop7 : ∀ (Q : State → Prop) (d k : Nat) (x : CS), (k + d = n + 1 ∨ (d = 0 ∧ n < k)) → (CB x) → (k < 2147483648) → gw p l e (headSpec (Cond.code yX0_becomeFirst cX0_becomeFirst 4 none :: tb) rm_X0_becomeFirst).room s m args below meth cd 4 D cls8 A Q 0 0 32 [(0, .ref (ad (2 + 22 * i + 1))), (1, .ref (ad (2 + 22 * o + 1))), (2, .int (Int32.ofNat n))] [] (cwld cI cS (lpw_X0_becomeFirst_7 c i o n d k x) ad) → gw p l e (headSpec (Cond.code yX0_becomeFirst cX0_becomeFirst 4 none :: tb) rm_X0_becomeFirst).room s m args below meth cd 4 D cls8 A Q 0 0 7 [(3, .int (Int32.ofNat k)), (0, .ref (ad (2 + 22 * i + 1))), (1, .ref (ad (2 + 22 * o + 1))), (2, .int (Int32.ofNat n))] [] (cwld cI cS x ad) := by
    intro Q d
    induction d with
    | zero =>
      intro k x hd hx hk1 K
      refine g_iload_n F dX0_becomeFirst_7 0 rfl ?_
      refine g_iload_n F dX0_becomeFirst_8 3 rfl ?_
      refine g_icmp_gt F dX0_becomeFirst_9 (tgt := 32) rfl (fun h9 => ?_) (fun h9 => ?_)
      rotate_left
      · exact absurd h9 (by rw [ofN_lt (by omega) (by omega)]; omega)
      refine g_locals [(0, .ref (ad (2 + 22 * i + 1))), (1, .ref (ad (2 + 22 * o + 1))), (2, .int (Int32.ofNat n))] [1, 2, 3] rfl ?_
      exact K
    | succ d ih =>
      intro k x hd hx hk1 K
      refine g_iload_n F dX0_becomeFirst_7 0 rfl ?_
      refine g_iload_n F dX0_becomeFirst_8 3 rfl ?_
      refine g_icmp_gt F dX0_becomeFirst_9 (tgt := 32) rfl (fun h9 => ?_) (fun h9 => ?_)
      · exact absurd h9 (by rw [ofN_lt (by omega) (by omega)]; omega)
      refine g_iload_n F dX0_becomeFirst_12 0 rfl ?_
      refine g_aload_n F dX0_becomeFirst_13 2 rfl ?_
      refine f_get F inX0 (pl_EL h_o) rfl 5 (by decide) tb_34 rfl (v := .int (Int32.ofNat (x 6 o 0))) rfl dX0_becomeFirst_14 ?_
      refine g_icmp_gt F dX0_becomeFirst_17 (tgt := 32) rfl (fun h17 => ?_) (fun h17 => ?_)
      · refine g_locals [(0, .ref (ad (2 + 22 * i + 1))), (1, .ref (ad (2 + 22 * o + 1))), (2, .int (Int32.ofNat n))] [1, 2, 3] rfl ?_
        exact (g_eq rfl rfl rfl (congrArg (fun t => cwld cI cS t ad) (by simp only [lpw_X0_becomeFirst_7, if_pos h17])) K)
      · refine g_aload_n F dX0_becomeFirst_20 1 rfl ?_
        refine g_aload_n F dX0_becomeFirst_21 2 rfl ?_
        refine g_iload_n F dX0_becomeFirst_22 0 rfl ?_
        refine f_callV F (As := [.ref (ad (2 + 22 * o + 1)), .int (Int32.ofNat k)]) (rest := []) (st' := []) (k_X0_appendFrom l D cI cS cZ ad x i o k h_i h_o (cb6 hx h_i) (cb6 hx h_o) (by omega)) (pl_EL h_i) rfl tb_204 tb_202 tb_203 tb_581 tb_3 ⟨rfl, hdX0_appendFrom⟩ ⟨rfl, rfl⟩ ⟨Nat.le_of_ble_eq_true rfl, Nat.le_of_ble_eq_true rfl⟩ cw_adr rfl rfl (Nat.le_of_ble_eq_true rfl) ⟨Nat.le_refl _, Nat.le_refl _⟩ dX0_becomeFirst_23 rfl ?_
        refine f_iinc F (k + 1) [(3, .int (Int32.ofNat (k + 1))), (0, .ref (ad (2 + 22 * i + 1))), (1, .ref (ad (2 + 22 * o + 1))), (2, .int (Int32.ofNat n))] dX0_becomeFirst_26 0 rfl (ofN_inc _) (by decide) rfl ?_
        refine g_goto F dX0_becomeFirst_29 (tgt := 7) rfl ?_
        exact ih (k + 1) (w_X0_appendFrom x i o k) (by omega) (cb_X0_appendFrom hx) (by omega) (g_eq rfl rfl rfl (congrArg (fun t => cwld cI cS t ad) (by simp only [lpw_X0_becomeFirst_7, if_neg h17])) K)
  refine loop7 _ n 1 (su3 c 6 i 0 0) (Or.inl (Nat.add_comm _ _)) (cb_su hc (by unfold bnd; omega)) (by decide) ?_
  exact g_vret F hr hlk dX0_becomeFirst_32 ⟨rfl, congrArg (fun t => cwld cI cS t ad) rfl⟩
theorem cb_X0_becomeFirst {c : CS} {i o n : Nat} (h : CB c) : CB (w_X0_becomeFirst c i o n) := by
  have key : ∀ (d k : Nat) (x : CS), CB x → CB (lpw_X0_becomeFirst_7 c i o n d k x) := by
    intro d
    induction d with
    | zero => intro k x hx; exact hx
    | succ d ih =>
      intro k x hx
      simp only [lpw_X0_becomeFirst_7]
      split
      · exact hx
      · exact ih _ _ (cb_X0_appendFrom hx)
  exact key _ _ _ (cb_su h (by unfold bnd; omega))
def lpw_X6_stopTo_10 (c : CS) (v ro : Nat) : Nat → Nat → CS → CS
  | 0, k, x => x
  | d + 1, k, x => if Int32.ofNat (r_X6_isFollowerOf x k v) = 0 then (lpw_X6_stopTo_10 c v ro d (k + 1) x) else (lpw_X6_stopTo_10 c v ro d (k + 1) (su3 (w_X1_clear x k) 3 k 0 1))
def w_X6_stopTo (c : CS) (v ro : Nat) : CS := su3 (w_X1_clear (lpw_X6_stopTo_10 c v ro 3 0 c) v) 3 v 0 ro
abbrev rm_X6_stopTo : Room := { frames := 2, cells := 0, slots := 0, locals := 40 }
set_option maxHeartbeats 4000000 in
set_option maxRecDepth 100000 in
theorem k_X6_stopTo (l : Launch) (D : va_G) (cI cS cZ : ClassId) (ad : Nat → Nat) (c : CS) (v ro : Nat) (hv : v < 3) (hc : CB c) : gN l yX6_stopTo (Cond.code yX6_stopTo cX6_stopTo 5 none :: tb) rm_X6_stopTo D cls8 (tys3 cI cS cZ) [.ref (ad 0), .int (Int32.ofNat v), .int (Int32.ofNat ro)] (cwld cI cS c ad) none (cwld cI cS (w_X6_stopTo c v ro) ad) := by
  unfold gN
  refine g_head (by decide) rfl (Nat.le_of_ble_eq_true rfl) ?_
  intro p e s m args below meth cd A F hr hlk hnm
  refine g_eq rfl (L' := [(0, .ref (ad 0)), (1, .int (Int32.ofNat v)), (2, .int (Int32.ofNat ro))]) rfl rfl rfl ?_
  refine g_aload_n F dX6_stopTo_0 0 rfl ?_
  refine f_get F inX6 pl_ET rfl 0 (by decide) tb_119 rfl (v := .ref (ad 1)) rfl dX6_stopTo_1 ?_
  refine g_iload_n F dX6_stopTo_4 1 rfl ?_
  refine f_srv F hv dX6_stopTo_5 ?_
  refine g_astore_n F [(3, .ref (ad (2 + 22 * v))), (0, .ref (ad 0)), (1, .int (Int32.ofNat v)), (2, .int (Int32.ofNat ro))] dX6_stopTo_6 (by decide) rfl ?_
  refine f_iconst F 0 dX6_stopTo_7 rfl ?_
  refine g_istore F [(4, .int (Int32.ofNat 0)), (3, .ref (ad (2 + 22 * v))), (0, .ref (ad 0)), (1, .int (Int32.ofNat v)), (2, .int (Int32.ofNat ro))] dX6_stopTo_8 (by decide) rfl ?_
  have loop10 : ∀ (Q : State → Prop) (d k : Nat) (x : CS), (k + d = 3) → (CB x) → gw p l e (headSpec (Cond.code yX6_stopTo cX6_stopTo 5 none :: tb) rm_X6_stopTo).room s m args below meth cd 5 D cls8 A Q 0 0 60 [(3, .ref (ad (2 + 22 * v))), (0, .ref (ad 0)), (1, .int (Int32.ofNat v)), (2, .int (Int32.ofNat ro))] [] (cwld cI cS (lpw_X6_stopTo_10 c v ro d k x) ad) → gw p l e (headSpec (Cond.code yX6_stopTo cX6_stopTo 5 none :: tb) rm_X6_stopTo).room s m args below meth cd 5 D cls8 A Q 0 0 10 [(4, .int (Int32.ofNat k)), (3, .ref (ad (2 + 22 * v))), (0, .ref (ad 0)), (1, .int (Int32.ofNat v)), (2, .int (Int32.ofNat ro))] [] (cwld cI cS x ad) := by
    intro Q d
    induction d with
    | zero =>
      intro k x hk hx K
      refine g_iload F dX6_stopTo_10 0 rfl ?_
      refine f_iconst F 3 dX6_stopTo_12 rfl ?_
      refine g_icmp_ge F dX6_stopTo_13 (tgt := 60) rfl (fun h13 => ?_) (fun h13 => ?_)
      rotate_left
      · exact absurd h13 (by rw [ofN_le (by omega) (by omega)]; omega)
      refine g_locals [(3, .ref (ad (2 + 22 * v))), (0, .ref (ad 0)), (1, .int (Int32.ofNat v)), (2, .int (Int32.ofNat ro))] [1, 2, 3, 4] rfl ?_
      exact K
    | succ d ih =>
      intro k x hk hx K
      refine g_iload F dX6_stopTo_10 0 rfl ?_
      refine f_iconst F 3 dX6_stopTo_12 rfl ?_
      refine g_icmp_ge F dX6_stopTo_13 (tgt := 60) rfl (fun h13 => ?_) (fun h13 => ?_)
      · exact absurd h13 (by rw [ofN_le (by omega) (by omega)]; omega)
      refine g_aload_n F dX6_stopTo_16 2 rfl ?_
      refine f_get F inX6 pl_ET rfl 0 (by decide) tb_119 rfl (v := .ref (ad 1)) rfl dX6_stopTo_17 ?_
      refine g_iload F dX6_stopTo_20 0 rfl ?_
      refine f_srv F (by omega) dX6_stopTo_22 ?_
      refine g_aload_n F dX6_stopTo_23 1 rfl ?_
      refine f_callS F (av := [.ref (ad (2 + 22 * k)), .ref (ad (2 + 22 * v))]) (rest := []) (st' := [.int (Int32.ofNat (r_X6_isFollowerOf x k v))]) (k_X6_isFollowerOf l D cI cS cZ ad x k v (by omega) hv) tb_151 tb_149 tb_150 tb_1 hdX6_isFollowerOf ⟨rfl, rfl⟩ ⟨Nat.le_of_ble_eq_true rfl, Nat.le_of_ble_eq_true rfl⟩ cw_adr rfl rfl (Nat.le_of_ble_eq_true rfl) ⟨Nat.le_refl _, Nat.le_refl _⟩ dX6_stopTo_24 rfl ?_
      refine g_if_eq F dX6_stopTo_27 (tgt := 54) rfl (fun h27 => ?_) (fun h27 => ?_)
      · refine f_iinc F (k + 1) [(4, .int (Int32.ofNat (k + 1))), (3, .ref (ad (2 + 22 * v))), (0, .ref (ad 0)), (1, .int (Int32.ofNat v)), (2, .int (Int32.ofNat ro))] dX6_stopTo_54 0 rfl (ofN_inc _) (by decide) rfl ?_
        refine g_goto F dX6_stopTo_57 (tgt := 10) rfl ?_
        exact ih (k + 1) x (by omega) hx (g_eq rfl rfl rfl (congrArg (fun t => cwld cI cS t ad) (by simp only [lpw_X6_stopTo_10, if_pos h27])) K)
      · refine g_aload_n F dX6_stopTo_30 2 rfl ?_
        refine f_get F inX6 pl_ET rfl 0 (by decide) tb_119 rfl (v := .ref (ad 1)) rfl dX6_stopTo_31 ?_
        refine g_iload F dX6_stopTo_34 0 rfl ?_
        refine f_srv F (by omega) dX6_stopTo_36 ?_
        refine f_getN F inX3 (pl_SV (by omega)) rfl 9 (by decide) nb_31 rfl (v := .ref (ad (2 + 22 * k + 3))) rfl dX6_stopTo_37 ?_
        refine f_callVN F (As := []) (rest := []) (st' := []) (k_X1_clear l D cI cS cZ ad x k (by omega)) (pl_LK (by omega)) rfl tb_153 nb_35 tb_152 tb_569 tb_5 hdX1_clear ⟨rfl, rfl⟩ ⟨Nat.le_of_ble_eq_true rfl, Nat.le_of_ble_eq_true rfl⟩ cw_adr rfl rfl (Nat.le_of_ble_eq_true rfl) ⟨Nat.le_refl _, Nat.le_refl _⟩ dX6_stopTo_40 rfl ?_
        refine g_aload_n F dX6_stopTo_43 2 rfl ?_
        refine f_get F inX6 pl_ET rfl 0 (by decide) tb_119 rfl (v := .ref (ad 1)) rfl dX6_stopTo_44 ?_
        refine g_iload F dX6_stopTo_47 0 rfl ?_
        refine f_srv F (by omega) dX6_stopTo_49 ?_
        refine f_iconst F 1 dX6_stopTo_50 rfl ?_
        refine f_putN F inX3 tyX3_ok nmX3 (pl_SV (by omega)) rfl 4 (by decide) nb_26 rfl rfl rfl rfl (Nat.le_of_ble_eq_true rfl) dX6_stopTo_51 (ps_3 (by omega)) ?_
        refine f_iinc F (k + 1) [(4, .int (Int32.ofNat (k + 1))), (3, .ref (ad (2 + 22 * v))), (0, .ref (ad 0)), (1, .int (Int32.ofNat v)), (2, .int (Int32.ofNat ro))] dX6_stopTo_54 0 rfl (ofN_inc _) (by decide) rfl ?_
        refine g_goto F dX6_stopTo_57 (tgt := 10) rfl ?_
        exact ih (k + 1) (su3 (w_X1_clear x k) 3 k 0 1) (by omega) (cb_su (cb_X1_clear hx) (bnd_no (by decide))) (g_eq rfl rfl rfl (congrArg (fun t => cwld cI cS t ad) (by simp only [lpw_X6_stopTo_10, if_neg h27])) K)
  refine loop10 _ 3 0 c (Nat.zero_add _) hc ?_
  refine g_aload_n F dX6_stopTo_60 0 rfl ?_
  refine f_getN F inX3 (pl_SV hv) rfl 9 (by decide) nb_31 rfl (v := .ref (ad (2 + 22 * v + 3))) rfl dX6_stopTo_61 ?_
  refine f_callVN F (As := []) (rest := []) (st' := []) (k_X1_clear l D cI cS cZ ad (lpw_X6_stopTo_10 c v ro 3 0 c) v hv) (pl_LK hv) rfl tb_153 nb_35 tb_152 tb_569 tb_5 hdX1_clear ⟨rfl, rfl⟩ ⟨Nat.le_of_ble_eq_true rfl, Nat.le_of_ble_eq_true rfl⟩ cw_adr rfl rfl (Nat.le_of_ble_eq_true rfl) ⟨Nat.le_refl _, Nat.le_refl _⟩ dX6_stopTo_64 rfl ?_
  refine g_aload_n F dX6_stopTo_67 0 rfl ?_
  refine g_iload_n F dX6_stopTo_68 3 rfl ?_
  refine f_putN F inX3 tyX3_ok nmX3 (pl_SV hv) rfl 4 (by decide) nb_26 rfl rfl rfl rfl (Nat.le_of_ble_eq_true rfl) dX6_stopTo_69 (ps_3 hv) ?_
  exact g_vret F hr hlk dX6_stopTo_72 ⟨rfl, congrArg (fun t => cwld cI cS t ad) rfl⟩
def lpw_X6_sendNewLeaderToWaiting_2 (c : CS) (g : Nat) : Nat → Nat → CS → CS
  | 0, k, x => x
  | d + 1, k, x => if Int32.ofNat (r_X6_isFollowerOf x k g) = 0 then (lpw_X6_sendNewLeaderToWaiting_2 c g d (k + 1) x) else (if Int32.ofNat (x 11 k 0) = 0 then (lpw_X6_sendNewLeaderToWaiting_2 c g d (k + 1) x) else (lpw_X6_sendNewLeaderToWaiting_2 c g d (k + 1) (w_X6_sendNewLeader x g k)))
def w_X6_sendNewLeaderToWaiting (c : CS) (g : Nat) : CS := lpw_X6_sendNewLeaderToWaiting_2 c g 3 0 c
abbrev rm_X6_sendNewLeaderToWaiting : Room := { frames := 2, cells := 0, slots := 0, locals := 43 }
set_option maxHeartbeats 4000000 in
set_option maxRecDepth 100000 in
theorem k_X6_sendNewLeaderToWaiting (l : Launch) (D : va_G) (cI cS cZ : ClassId) (ad : Nat → Nat) (c : CS) (g : Nat) (h_g : g < 3) (hc : CB c) : gN l yX6_sendNewLeaderToWaiting (Cond.code yX6_sendNewLeaderToWaiting cX6_sendNewLeaderToWaiting 3 none :: tb) rm_X6_sendNewLeaderToWaiting D cls8 (tys3 cI cS cZ) [.ref (ad 0), .ref (ad (2 + 22 * g))] (cwld cI cS c ad) none (cwld cI cS (w_X6_sendNewLeaderToWaiting c g) ad) := by
  unfold gN
  refine g_head (by decide) rfl (Nat.le_of_ble_eq_true rfl) ?_
  intro p e s m args below meth cd A F hr hlk hnm
  refine g_eq rfl (L' := [(0, .ref (ad 0)), (1, .ref (ad (2 + 22 * g)))]) rfl rfl rfl ?_
  refine f_iconst F 0 dX6_sendNewLeaderToWaiting_0 rfl ?_
  refine g_istore_n F [(2, .int (Int32.ofNat 0)), (0, .ref (ad 0)), (1, .ref (ad (2 + 22 * g)))] dX6_sendNewLeaderToWaiting_1 (by decide) rfl ?_
  have loop2 : ∀ (Q : State → Prop) (d k : Nat) (x : CS), (k + d = 3) → (CB x) → gw p l e (headSpec (Cond.code yX6_sendNewLeaderToWaiting cX6_sendNewLeaderToWaiting 3 none :: tb) rm_X6_sendNewLeaderToWaiting).room s m args below meth cd 3 D cls8 A Q 0 0 51 [(0, .ref (ad 0)), (1, .ref (ad (2 + 22 * g)))] [] (cwld cI cS (lpw_X6_sendNewLeaderToWaiting_2 c g d k x) ad) → gw p l e (headSpec (Cond.code yX6_sendNewLeaderToWaiting cX6_sendNewLeaderToWaiting 3 none :: tb) rm_X6_sendNewLeaderToWaiting).room s m args below meth cd 3 D cls8 A Q 0 0 2 [(2, .int (Int32.ofNat k)), (0, .ref (ad 0)), (1, .ref (ad (2 + 22 * g)))] [] (cwld cI cS x ad) := by
    intro Q d
    induction d with
    | zero =>
      intro k x hk hx K
      refine g_iload_n F dX6_sendNewLeaderToWaiting_2 0 rfl ?_
      refine f_iconst F 3 dX6_sendNewLeaderToWaiting_3 rfl ?_
      refine g_icmp_ge F dX6_sendNewLeaderToWaiting_4 (tgt := 51) rfl (fun h4 => ?_) (fun h4 => ?_)
      rotate_left
      · exact absurd h4 (by rw [ofN_le (by omega) (by omega)]; omega)
      refine g_locals [(0, .ref (ad 0)), (1, .ref (ad (2 + 22 * g)))] [1, 2] rfl ?_
      exact K
    | succ d ih =>
      intro k x hk hx K
      refine g_iload_n F dX6_sendNewLeaderToWaiting_2 0 rfl ?_
      refine f_iconst F 3 dX6_sendNewLeaderToWaiting_3 rfl ?_
      refine g_icmp_ge F dX6_sendNewLeaderToWaiting_4 (tgt := 51) rfl (fun h4 => ?_) (fun h4 => ?_)
      · exact absurd h4 (by rw [ofN_le (by omega) (by omega)]; omega)
      refine g_aload_n F dX6_sendNewLeaderToWaiting_7 1 rfl ?_
      refine f_get F inX6 pl_ET rfl 0 (by decide) tb_119 rfl (v := .ref (ad 1)) rfl dX6_sendNewLeaderToWaiting_8 ?_
      refine g_iload_n F dX6_sendNewLeaderToWaiting_11 0 rfl ?_
      refine f_srv F (by omega) dX6_sendNewLeaderToWaiting_12 ?_
      refine g_aload_n F dX6_sendNewLeaderToWaiting_13 2 rfl ?_
      refine f_callS F (av := [.ref (ad (2 + 22 * k)), .ref (ad (2 + 22 * g))]) (rest := []) (st' := [.int (Int32.ofNat (r_X6_isFollowerOf x k g))]) (k_X6_isFollowerOf l D cI cS cZ ad x k g (by omega) h_g) tb_151 tb_149 tb_150 tb_1 hdX6_isFollowerOf ⟨rfl, rfl⟩ ⟨Nat.le_of_ble_eq_true rfl, Nat.le_of_ble_eq_true rfl⟩ cw_adr rfl rfl (Nat.le_of_ble_eq_true rfl) ⟨Nat.le_refl _, Nat.le_refl _⟩ dX6_sendNewLeaderToWaiting_14 rfl ?_
      refine g_if_eq F dX6_sendNewLeaderToWaiting_17 (tgt := 45) rfl (fun h17 => ?_) (fun h17 => ?_)
      · refine f_iinc F (k + 1) [(2, .int (Int32.ofNat (k + 1))), (0, .ref (ad 0)), (1, .ref (ad (2 + 22 * g)))] dX6_sendNewLeaderToWaiting_45 0 rfl (ofN_inc _) (by decide) rfl ?_
        refine g_goto F dX6_sendNewLeaderToWaiting_48 (tgt := 2) rfl ?_
        exact ih (k + 1) x (by omega) hx (g_eq rfl rfl rfl (congrArg (fun t => cwld cI cS t ad) (by simp only [lpw_X6_sendNewLeaderToWaiting_2, if_pos h17])) K)
      · refine g_aload_n F dX6_sendNewLeaderToWaiting_20 1 rfl ?_
        refine f_get F inX6 pl_ET rfl 0 (by decide) tb_119 rfl (v := .ref (ad 1)) rfl dX6_sendNewLeaderToWaiting_21 ?_
        refine g_iload_n F dX6_sendNewLeaderToWaiting_24 0 rfl ?_
        refine f_srv F (by omega) dX6_sendNewLeaderToWaiting_25 ?_
        refine f_getN F inX3 (pl_SV (by omega)) rfl 9 (by decide) nb_31 rfl (v := .ref (ad (2 + 22 * k + 3))) rfl dX6_sendNewLeaderToWaiting_26 ?_
        refine f_getN F inX1 (pl_LK (by omega)) rfl 4 (by decide) nb_16 rfl (v := .int (Int32.ofNat (x 11 k 0))) rfl dX6_sendNewLeaderToWaiting_29 ?_
        refine g_if_eq F dX6_sendNewLeaderToWaiting_32 (tgt := 45) rfl (fun h32 => ?_) (fun h32 => ?_)
        · refine f_iinc F (k + 1) [(2, .int (Int32.ofNat (k + 1))), (0, .ref (ad 0)), (1, .ref (ad (2 + 22 * g)))] dX6_sendNewLeaderToWaiting_45 0 rfl (ofN_inc _) (by decide) rfl ?_
          refine g_goto F dX6_sendNewLeaderToWaiting_48 (tgt := 2) rfl ?_
          exact ih (k + 1) x (by omega) hx (g_eq rfl rfl rfl (congrArg (fun t => cwld cI cS t ad) (by simp only [lpw_X6_sendNewLeaderToWaiting_2, if_neg h17, if_pos h32])) K)
        · refine g_aload_n F dX6_sendNewLeaderToWaiting_35 2 rfl ?_
          refine g_aload_n F dX6_sendNewLeaderToWaiting_36 1 rfl ?_
          refine f_get F inX6 pl_ET rfl 0 (by decide) tb_119 rfl (v := .ref (ad 1)) rfl dX6_sendNewLeaderToWaiting_37 ?_
          refine g_iload_n F dX6_sendNewLeaderToWaiting_40 0 rfl ?_
          refine f_srv F (by omega) dX6_sendNewLeaderToWaiting_41 ?_
          refine f_callS F (av := [.ref (ad (2 + 22 * g)), .ref (ad (2 + 22 * k))]) (rest := []) (st' := []) (k_X6_sendNewLeader l D cI cS cZ ad x g k h_g (by omega) (cb15 hx (by omega))) tb_191 tb_189 tb_190 tb_1 hdX6_sendNewLeader ⟨rfl, rfl⟩ ⟨Nat.le_of_ble_eq_true rfl, Nat.le_of_ble_eq_true rfl⟩ cw_adr rfl rfl (Nat.le_of_ble_eq_true rfl) ⟨Nat.le_refl _, Nat.le_refl _⟩ dX6_sendNewLeaderToWaiting_42 rfl ?_
          refine f_iinc F (k + 1) [(2, .int (Int32.ofNat (k + 1))), (0, .ref (ad 0)), (1, .ref (ad (2 + 22 * g)))] dX6_sendNewLeaderToWaiting_45 0 rfl (ofN_inc _) (by decide) rfl ?_
          refine g_goto F dX6_sendNewLeaderToWaiting_48 (tgt := 2) rfl ?_
          exact ih (k + 1) (w_X6_sendNewLeader x g k) (by omega) (cb_X6_sendNewLeader hx) (g_eq rfl rfl rfl (congrArg (fun t => cwld cI cS t ad) (by simp only [lpw_X6_sendNewLeaderToWaiting_2, if_neg h17, if_neg h32])) K)
  refine loop2 _ 3 0 c (Nat.zero_add _) hc ?_
  exact g_vret F hr hlk dX6_sendNewLeaderToWaiting_51 ⟨rfl, congrArg (fun t => cwld cI cS t ad) rfl⟩
def lpw_X6_sendOnTiedLinks_3 (c : CS) (g kd vl : Nat) : Nat → Nat → CS → CS
  | 0, k, x => x
  | d + 1, k, x => if Int32.ofNat (r_X6_isFollowerOf x k g) = 0 then (lpw_X6_sendOnTiedLinks_3 c g kd vl d (k + 1) x) else (if Int32.ofNat (x 9 k 0) = 0 then (lpw_X6_sendOnTiedLinks_3 c g kd vl d (k + 1) x) else (lpw_X6_sendOnTiedLinks_3 c g kd vl d (k + 1) (w_X2_send_d x k kd vl)))
def w_X6_sendOnTiedLinks (c : CS) (g kd vl : Nat) : CS := lpw_X6_sendOnTiedLinks_3 c g kd vl 3 0 c
abbrev rm_X6_sendOnTiedLinks : Room := { frames := 1, cells := 0, slots := 0, locals := 22 }
set_option maxHeartbeats 4000000 in
set_option maxRecDepth 100000 in
theorem k_X6_sendOnTiedLinks (l : Launch) (D : va_G) (cI cS cZ : ClassId) (ad : Nat → Nat) (c : CS) (g kd vl : Nat) (h_g : g < 3) (hc : CB c) : gN l yX6_sendOnTiedLinks (Cond.code yX6_sendOnTiedLinks cX6_sendOnTiedLinks 5 none :: tb) rm_X6_sendOnTiedLinks D cls8 (tys3 cI cS cZ) [.ref (ad 0), .ref (ad (2 + 22 * g)), .int (Int32.ofNat kd), .int (Int32.ofNat vl)] (cwld cI cS c ad) none (cwld cI cS (w_X6_sendOnTiedLinks c g kd vl) ad) := by
  unfold gN
  refine g_head (by decide) rfl (Nat.le_of_ble_eq_true rfl) ?_
  intro p e s m args below meth cd A F hr hlk hnm
  refine g_eq rfl (L' := [(0, .ref (ad 0)), (1, .ref (ad (2 + 22 * g))), (2, .int (Int32.ofNat kd)), (3, .int (Int32.ofNat vl))]) rfl rfl rfl ?_
  refine f_iconst F 0 dX6_sendOnTiedLinks_0 rfl ?_
  refine g_istore F [(4, .int (Int32.ofNat 0)), (0, .ref (ad 0)), (1, .ref (ad (2 + 22 * g))), (2, .int (Int32.ofNat kd)), (3, .int (Int32.ofNat vl))] dX6_sendOnTiedLinks_1 (by decide) rfl ?_
  have loop3 : ∀ (Q : State → Prop) (d k : Nat) (x : CS), (k + d = 3) → (CB x) → gw p l e (headSpec (Cond.code yX6_sendOnTiedLinks cX6_sendOnTiedLinks 5 none :: tb) rm_X6_sendOnTiedLinks).room s m args below meth cd 5 D cls8 A Q 0 0 63 [(0, .ref (ad 0)), (1, .ref (ad (2 + 22 * g))), (2, .int (Int32.ofNat kd)), (3, .int (Int32.ofNat vl))] [] (cwld cI cS (lpw_X6_sendOnTiedLinks_3 c g kd vl d k x) ad) → gw p l e (headSpec (Cond.code yX6_sendOnTiedLinks cX6_sendOnTiedLinks 5 none :: tb) rm_X6_sendOnTiedLinks).room s m args below meth cd 5 D cls8 A Q 0 0 3 [(4, .int (Int32.ofNat k)), (0, .ref (ad 0)), (1, .ref (ad (2 + 22 * g))), (2, .int (Int32.ofNat kd)), (3, .int (Int32.ofNat vl))] [] (cwld cI cS x ad) := by
    intro Q d
    induction d with
    | zero =>
      intro k x hk hx K
      refine g_iload F dX6_sendOnTiedLinks_3 0 rfl ?_
      refine f_iconst F 3 dX6_sendOnTiedLinks_5 rfl ?_
      refine g_icmp_ge F dX6_sendOnTiedLinks_6 (tgt := 63) rfl (fun h6 => ?_) (fun h6 => ?_)
      rotate_left
      · exact absurd h6 (by rw [ofN_le (by omega) (by omega)]; omega)
      refine g_locals [(0, .ref (ad 0)), (1, .ref (ad (2 + 22 * g))), (2, .int (Int32.ofNat kd)), (3, .int (Int32.ofNat vl))] [1, 2, 3, 4] rfl ?_
      exact K
    | succ d ih =>
      intro k x hk hx K
      refine g_iload F dX6_sendOnTiedLinks_3 0 rfl ?_
      refine f_iconst F 3 dX6_sendOnTiedLinks_5 rfl ?_
      refine g_icmp_ge F dX6_sendOnTiedLinks_6 (tgt := 63) rfl (fun h6 => ?_) (fun h6 => ?_)
      · exact absurd h6 (by rw [ofN_le (by omega) (by omega)]; omega)
      refine g_aload_n F dX6_sendOnTiedLinks_9 1 rfl ?_
      refine f_get F inX6 pl_ET rfl 0 (by decide) tb_119 rfl (v := .ref (ad 1)) rfl dX6_sendOnTiedLinks_10 ?_
      refine g_iload F dX6_sendOnTiedLinks_13 0 rfl ?_
      refine f_srv F (by omega) dX6_sendOnTiedLinks_15 ?_
      refine g_aload_n F dX6_sendOnTiedLinks_16 2 rfl ?_
      refine f_callS F (av := [.ref (ad (2 + 22 * k)), .ref (ad (2 + 22 * g))]) (rest := []) (st' := [.int (Int32.ofNat (r_X6_isFollowerOf x k g))]) (k_X6_isFollowerOf l D cI cS cZ ad x k g (by omega) h_g) tb_151 tb_149 tb_150 tb_1 hdX6_isFollowerOf ⟨rfl, rfl⟩ ⟨Nat.le_of_ble_eq_true rfl, Nat.le_of_ble_eq_true rfl⟩ cw_adr rfl rfl (Nat.le_of_ble_eq_true rfl) ⟨Nat.le_refl _, Nat.le_refl _⟩ dX6_sendOnTiedLinks_17 rfl ?_
      refine g_if_eq F dX6_sendOnTiedLinks_20 (tgt := 57) rfl (fun h20 => ?_) (fun h20 => ?_)
      · refine f_iinc F (k + 1) [(4, .int (Int32.ofNat (k + 1))), (0, .ref (ad 0)), (1, .ref (ad (2 + 22 * g))), (2, .int (Int32.ofNat kd)), (3, .int (Int32.ofNat vl))] dX6_sendOnTiedLinks_57 0 rfl (ofN_inc _) (by decide) rfl ?_
        refine g_goto F dX6_sendOnTiedLinks_60 (tgt := 3) rfl ?_
        exact ih (k + 1) x (by omega) hx (g_eq rfl rfl rfl (congrArg (fun t => cwld cI cS t ad) (by simp only [lpw_X6_sendOnTiedLinks_3, if_pos h20])) K)
      · refine g_aload_n F dX6_sendOnTiedLinks_23 1 rfl ?_
        refine f_get F inX6 pl_ET rfl 0 (by decide) tb_119 rfl (v := .ref (ad 1)) rfl dX6_sendOnTiedLinks_24 ?_
        refine g_iload F dX6_sendOnTiedLinks_27 0 rfl ?_
        refine f_srv F (by omega) dX6_sendOnTiedLinks_29 ?_
        refine f_getN F inX3 (pl_SV (by omega)) rfl 9 (by decide) nb_31 rfl (v := .ref (ad (2 + 22 * k + 3))) rfl dX6_sendOnTiedLinks_30 ?_
        refine f_getN F inX1 (pl_LK (by omega)) rfl 2 (by decide) nb_14 rfl (v := .int (Int32.ofNat (x 9 k 0))) rfl dX6_sendOnTiedLinks_33 ?_
        refine g_if_eq F dX6_sendOnTiedLinks_36 (tgt := 57) rfl (fun h36 => ?_) (fun h36 => ?_)
        · refine f_iinc F (k + 1) [(4, .int (Int32.ofNat (k + 1))), (0, .ref (ad 0)), (1, .ref (ad (2 + 22 * g))), (2, .int (Int32.ofNat kd)), (3, .int (Int32.ofNat vl))] dX6_sendOnTiedLinks_57 0 rfl (ofN_inc _) (by decide) rfl ?_
          refine g_goto F dX6_sendOnTiedLinks_60 (tgt := 3) rfl ?_
          exact ih (k + 1) x (by omega) hx (g_eq rfl rfl rfl (congrArg (fun t => cwld cI cS t ad) (by simp only [lpw_X6_sendOnTiedLinks_3, if_neg h20, if_pos h36])) K)
        · refine g_aload_n F dX6_sendOnTiedLinks_39 1 rfl ?_
          refine f_get F inX6 pl_ET rfl 0 (by decide) tb_119 rfl (v := .ref (ad 1)) rfl dX6_sendOnTiedLinks_40 ?_
          refine g_iload F dX6_sendOnTiedLinks_43 0 rfl ?_
          refine f_srv F (by omega) dX6_sendOnTiedLinks_45 ?_
          refine f_getN F inX3 (pl_SV (by omega)) rfl 9 (by decide) nb_31 rfl (v := .ref (ad (2 + 22 * k + 3))) rfl dX6_sendOnTiedLinks_46 ?_
          refine f_getN F inX1 (pl_LK (by omega)) rfl 1 (by decide) nb_13 rfl (v := .ref (ad (2 + 22 * k + 6))) rfl dX6_sendOnTiedLinks_49 ?_
          refine g_iload_n F dX6_sendOnTiedLinks_52 3 rfl ?_
          refine g_iload_n F dX6_sendOnTiedLinks_53 4 rfl ?_
          refine f_callVN F (As := [.int (Int32.ofNat kd), .int (Int32.ofNat vl)]) (rest := []) (st' := []) (k_X2_send_d l D cI cS cZ ad x k kd vl (by omega) (cb15 hx (by omega))) (pl_RD (by omega)) rfl tb_141 nb_34 tb_140 tb_567 tb_6 hdX2_send ⟨rfl, rfl⟩ ⟨Nat.le_of_ble_eq_true rfl, Nat.le_of_ble_eq_true rfl⟩ cw_adr rfl rfl (Nat.le_of_ble_eq_true rfl) ⟨Nat.le_refl _, Nat.le_refl _⟩ dX6_sendOnTiedLinks_54 rfl ?_
          refine f_iinc F (k + 1) [(4, .int (Int32.ofNat (k + 1))), (0, .ref (ad 0)), (1, .ref (ad (2 + 22 * g))), (2, .int (Int32.ofNat kd)), (3, .int (Int32.ofNat vl))] dX6_sendOnTiedLinks_57 0 rfl (ofN_inc _) (by decide) rfl ?_
          refine g_goto F dX6_sendOnTiedLinks_60 (tgt := 3) rfl ?_
          exact ih (k + 1) (w_X2_send_d x k kd vl) (by omega) (cb_X2_send_d hx) (g_eq rfl rfl rfl (congrArg (fun t => cwld cI cS t ad) (by simp only [lpw_X6_sendOnTiedLinks_3, if_neg h20, if_neg h36])) K)
  refine loop3 _ 3 0 c (Nat.zero_add _) hc ?_
  exact g_vret F hr hlk dX6_sendOnTiedLinks_63 ⟨rfl, congrArg (fun t => cwld cI cS t ad) rfl⟩
theorem cb_lp3 {f : Nat → Nat → CS → CS} (h0 : ∀ k x, f 0 k x = x) (hs : ∀ d k x, CB x → (∀ k y, CB y → CB (f d k y)) → CB (f (d + 1) k x)) : ∀ (d k : Nat) (x : CS), CB x → CB (f d k x) := by
  intro d
  induction d with
  | zero => intro k x hx; rw [h0]; exact hx
  | succ d ih => intro k x hx; exact hs d k x hx ih
theorem cb_X6_stopTo {c : CS} {v ro : Nat} (h : CB c) : CB (w_X6_stopTo c v ro) := by
  unfold w_X6_stopTo
  refine cb_su (cb_X1_clear (cb_lp3 (fun _ _ => rfl) (fun d k x hx ih => ?_) _ _ _ h)) (bnd_no (by decide))
  simp only [lpw_X6_stopTo_10]
  repeat' (first | exact ih _ _ hx | exact ih _ _ (cb_su (cb_X1_clear hx) (bnd_no (by decide))) | split)
theorem cb_X6_sendNewLeaderToWaiting {c : CS} {g : Nat} (h : CB c) : CB (w_X6_sendNewLeaderToWaiting c g) := by
  unfold w_X6_sendNewLeaderToWaiting
  refine cb_lp3 (fun _ _ => rfl) (fun d k x hx ih => ?_) _ _ _ h
  simp only [lpw_X6_sendNewLeaderToWaiting_2]
  repeat' (first | exact ih _ _ hx | exact ih _ _ (cb_X6_sendNewLeader hx) | split)
theorem cb_X6_sendOnTiedLinks {c : CS} {g kd vl : Nat} (h : CB c) : CB (w_X6_sendOnTiedLinks c g kd vl) := by
  unfold w_X6_sendOnTiedLinks
  refine cb_lp3 (fun _ _ => rfl) (fun d k x hx ih => ?_) _ _ _ h
  simp only [lpw_X6_sendOnTiedLinks_3]
  repeat' (first | exact ih _ _ hx | exact ih _ _ (cb_X2_send_d hx) | split)
def w_X6_chooseList (c : CS) (g f : Nat) : CS := if Int32.ofNat (c 2 f 0) = Int32.ofNat (c 2 g 0) then (if Int32.ofNat (r_X0_lastMark c f) ≤ Int32.ofNat (r_X0_lastMark c g) then (if Int32.ofNat (c 2 g 0) < Int32.ofNat (c 2 f 0) then (su3 (su3 (w_X0_becomeFirst c g f (c 6 f 0)) 2 g 0 ((w_X0_becomeFirst c g f (c 6 f 0)) 1 g 0)) 17 g 0 1) else (if Int32.ofNat 1 = 0 then (su3 (su3 c 2 g 0 (c 1 g 0)) 17 g 0 1) else (if Int32.ofNat 0 = 0 then (su3 (su3 c 2 g 0 (c 1 g 0)) 17 g 0 1) else (su3 (su3 (w_X0_becomeFirst c g f (c 6 f 0)) 2 g 0 ((w_X0_becomeFirst c g f (c 6 f 0)) 1 g 0)) 17 g 0 1)))) else (if Int32.ofNat (c 2 g 0) < Int32.ofNat (c 2 f 0) then (su3 (su3 (w_X0_becomeFirst c g f (c 6 f 0)) 2 g 0 ((w_X0_becomeFirst c g f (c 6 f 0)) 1 g 0)) 17 g 0 1) else (if Int32.ofNat 1 = 0 then (su3 (su3 c 2 g 0 (c 1 g 0)) 17 g 0 1) else (su3 (su3 (w_X0_becomeFirst c g f (c 6 f 0)) 2 g 0 ((w_X0_becomeFirst c g f (c 6 f 0)) 1 g 0)) 17 g 0 1)))) else (if Int32.ofNat (r_X0_lastMark c f) ≤ Int32.ofNat (r_X0_lastMark c g) then (if Int32.ofNat (c 2 g 0) < Int32.ofNat (c 2 f 0) then (su3 (su3 (w_X0_becomeFirst c g f (c 6 f 0)) 2 g 0 ((w_X0_becomeFirst c g f (c 6 f 0)) 1 g 0)) 17 g 0 1) else (if Int32.ofNat 0 = 0 then (su3 (su3 c 2 g 0 (c 1 g 0)) 17 g 0 1) else (su3 (su3 (w_X0_becomeFirst c g f (c 6 f 0)) 2 g 0 ((w_X0_becomeFirst c g f (c 6 f 0)) 1 g 0)) 17 g 0 1))) else (if Int32.ofNat (c 2 g 0) < Int32.ofNat (c 2 f 0) then (su3 (su3 (w_X0_becomeFirst c g f (c 6 f 0)) 2 g 0 ((w_X0_becomeFirst c g f (c 6 f 0)) 1 g 0)) 17 g 0 1) else (if Int32.ofNat 0 = 0 then (su3 (su3 c 2 g 0 (c 1 g 0)) 17 g 0 1) else (if Int32.ofNat 1 = 0 then (su3 (su3 c 2 g 0 (c 1 g 0)) 17 g 0 1) else (su3 (su3 (w_X0_becomeFirst c g f (c 6 f 0)) 2 g 0 ((w_X0_becomeFirst c g f (c 6 f 0)) 1 g 0)) 17 g 0 1)))))
abbrev rm_X6_chooseList : Room := { frames := 4, cells := 0, slots := 0, locals := 91 }
set_option maxHeartbeats 4000000 in
set_option maxRecDepth 100000 in
theorem k_X6_chooseList (l : Launch) (D : va_G) (cI cS cZ : ClassId) (ad : Nat → Nat) (c : CS) (g f : Nat) (h_g : g < 3) (h_f : f < 3) (hc : CB c) : gN l yX6_chooseList (Cond.code yX6_chooseList cX6_chooseList 4 none :: tb) rm_X6_chooseList D cls8 (tys3 cI cS cZ) [.ref (ad (2 + 22 * g)), .ref (ad (2 + 22 * f))] (cwld cI cS c ad) none (cwld cI cS (w_X6_chooseList c g f) ad) := by
  unfold gN
  refine g_head (by decide) rfl (Nat.le_of_ble_eq_true rfl) ?_
  intro p e s m args below meth cd A F hr hlk hnm
  refine g_eq rfl (L' := [(0, .ref (ad (2 + 22 * g))), (1, .ref (ad (2 + 22 * f)))]) rfl rfl rfl ?_
  refine g_aload_n F dX6_chooseList_0 1 rfl ?_
  refine f_getN F inX3 (pl_SV h_f) rfl 2 (by decide) nb_24 rfl (v := .int (Int32.ofNat (c 2 f 0))) rfl dX6_chooseList_1 ?_
  refine g_aload_n F dX6_chooseList_4 0 rfl ?_
  refine f_getN F inX3 (pl_SV h_g) rfl 2 (by decide) nb_24 rfl (v := .int (Int32.ofNat (c 2 g 0))) rfl dX6_chooseList_5 ?_
  refine g_icmp_ne F dX6_chooseList_8 (tgt := 15) rfl (fun h8 => ?_) (fun h8 => ?_)
  · refine f_iconst F 0 dX6_chooseList_15 rfl ?_
    refine g_istore_n F [(2, .int (Int32.ofNat 0)), (0, .ref (ad (2 + 22 * g))), (1, .ref (ad (2 + 22 * f)))] dX6_chooseList_16 (by decide) rfl ?_
    refine g_aload_n F dX6_chooseList_17 2 rfl ?_
    refine f_getN F inX3 (pl_SV h_f) rfl 3 (by decide) nb_25 rfl (v := .ref (ad (2 + 22 * f + 1))) rfl dX6_chooseList_18 ?_
    refine f_callVN F (As := []) (rest := []) (st' := [.int (Int32.ofNat (r_X0_lastMark c f))]) (k_X0_lastMark l D cI cS cZ ad c f h_f (cb6 hc h_f)) (pl_EL h_f) rfl tb_196 nb_43 tb_195 tb_578 tb_3 hdX0_lastMark ⟨rfl, rfl⟩ ⟨Nat.le_of_ble_eq_true rfl, Nat.le_of_ble_eq_true rfl⟩ cw_adr rfl rfl (Nat.le_of_ble_eq_true rfl) ⟨Nat.le_refl _, Nat.le_refl _⟩ dX6_chooseList_21 rfl ?_
    refine g_aload_n F dX6_chooseList_24 1 rfl ?_
    refine f_getN F inX3 (pl_SV h_g) rfl 3 (by decide) nb_25 rfl (v := .ref (ad (2 + 22 * g + 1))) rfl dX6_chooseList_25 ?_
    refine f_callVN F (As := []) (rest := [.int (Int32.ofNat (r_X0_lastMark c f))]) (st' := [.int (Int32.ofNat (r_X0_lastMark c g)), .int (Int32.ofNat (r_X0_lastMark c f))]) (k_X0_lastMark l D cI cS cZ ad c g h_g (cb6 hc h_g)) (pl_EL h_g) rfl tb_196 nb_43 tb_195 tb_578 tb_3 hdX0_lastMark ⟨rfl, rfl⟩ ⟨Nat.le_of_ble_eq_true rfl, Nat.le_of_ble_eq_true rfl⟩ cw_adr rfl rfl (Nat.le_of_ble_eq_true rfl) ⟨Nat.le_refl _, Nat.le_refl _⟩ dX6_chooseList_28 rfl ?_
    refine g_icmp_le F dX6_chooseList_31 (tgt := 38) rfl (fun h31 => ?_) (fun h31 => ?_)
    · refine f_iconst F 0 dX6_chooseList_38 rfl ?_
      refine g_istore_n F [(3, .int (Int32.ofNat 0)), (2, .int (Int32.ofNat 0)), (0, .ref (ad (2 + 22 * g))), (1, .ref (ad (2 + 22 * f)))] dX6_chooseList_39 (by decide) rfl ?_
      refine g_aload_n F dX6_chooseList_40 3 rfl ?_
      refine f_getN F inX3 (pl_SV h_f) rfl 2 (by decide) nb_24 rfl (v := .int (Int32.ofNat (c 2 f 0))) rfl dX6_chooseList_41 ?_
      refine g_aload_n F dX6_chooseList_44 2 rfl ?_
      refine f_getN F inX3 (pl_SV h_g) rfl 2 (by decide) nb_24 rfl (v := .int (Int32.ofNat (c 2 g 0))) rfl dX6_chooseList_45 ?_
      refine g_icmp_gt F dX6_chooseList_48 (tgt := 59) rfl (fun h48 => ?_) (fun h48 => ?_)
      · refine g_aload_n F dX6_chooseList_59 2 rfl ?_
        refine f_getN F inX3 (pl_SV h_g) rfl 3 (by decide) nb_25 rfl (v := .ref (ad (2 + 22 * g + 1))) rfl dX6_chooseList_60 ?_
        refine g_aload_n F dX6_chooseList_63 3 rfl ?_
        refine f_getN F inX3 (pl_SV h_f) rfl 3 (by decide) nb_25 rfl (v := .ref (ad (2 + 22 * f + 1))) rfl dX6_chooseList_64 ?_
        refine g_aload_n F dX6_chooseList_67 3 rfl ?_
        refine f_getN F inX3 (pl_SV h_f) rfl 3 (by decide) nb_25 rfl (v := .ref (ad (2 + 22 * f + 1))) rfl dX6_chooseList_68 ?_
        refine f_getN F inX0 (pl_EL h_f) rfl 5 (by decide) nb_8 rfl (v := .int (Int32.ofNat (c 6 f 0))) rfl dX6_chooseList_71 ?_
        refine f_callVN F (As := [.ref (ad (2 + 22 * f + 1)), .int (Int32.ofNat (c 6 f 0))]) (rest := []) (st' := []) (k_X0_becomeFirst l D cI cS cZ ad c g f (c 6 f 0) h_g h_f hc (by have := cb6 hc h_f; omega)) (pl_EL h_g) rfl tb_201 nb_44 tb_200 tb_580 tb_3 hdX0_becomeFirst ⟨rfl, rfl⟩ ⟨Nat.le_of_ble_eq_true rfl, Nat.le_of_ble_eq_true rfl⟩ cw_adr rfl rfl (Nat.le_of_ble_eq_true rfl) ⟨Nat.le_refl _, Nat.le_refl _⟩ dX6_chooseList_74 rfl ?_
        refine g_aload_n F dX6_chooseList_77 2 rfl ?_
        refine g_aload_n F dX6_chooseList_78 2 rfl ?_
        refine f_getN F inX3 (pl_SV h_g) rfl 1 (by decide) nb_23 rfl (v := .int (Int32.ofNat ((w_X0_becomeFirst c g f (c 6 f 0)) 1 g 0))) rfl dX6_chooseList_79 ?_
        refine f_putN F inX3 tyX3_ok nmX3 (pl_SV h_g) rfl 2 (by decide) nb_24 rfl rfl rfl rfl (Nat.le_of_ble_eq_true rfl) dX6_chooseList_82 (ps_2 h_g) ?_
        refine g_aload_n F dX6_chooseList_85 2 rfl ?_
        refine f_getN F inX3 (pl_SV h_g) rfl 10 (by decide) nb_32 rfl (v := .ref (ad (2 + 22 * g + 4))) rfl dX6_chooseList_86 ?_
        refine f_iconst F 1 dX6_chooseList_89 rfl ?_
        refine f_putN F inX4 tyX4_ok nmX4 (pl_TM h_g) rfl 1 (by decide) nb_19 rfl rfl rfl rfl (Nat.le_of_ble_eq_true rfl) dX6_chooseList_90 (ps_17 h_g) ?_
        exact g_vret F hr hlk dX6_chooseList_93 ⟨rfl, congrArg (fun t => cwld cI cS t ad) (Eq.symm (by unfold w_X6_chooseList; first | simp only [if_neg h8, if_pos h31, if_pos h48] | rfl))⟩
      · refine g_iload_n F dX6_chooseList_51 1 rfl ?_
        refine g_if_eq F dX6_chooseList_52 (tgt := 77) rfl (fun h52 => ?_) (fun h52 => ?_)
        · refine g_aload_n F dX6_chooseList_77 2 rfl ?_
          refine g_aload_n F dX6_chooseList_78 2 rfl ?_
          refine f_getN F inX3 (pl_SV h_g) rfl 1 (by decide) nb_23 rfl (v := .int (Int32.ofNat (c 1 g 0))) rfl dX6_chooseList_79 ?_
          refine f_putN F inX3 tyX3_ok nmX3 (pl_SV h_g) rfl 2 (by decide) nb_24 rfl rfl rfl rfl (Nat.le_of_ble_eq_true rfl) dX6_chooseList_82 (ps_2 h_g) ?_
          refine g_aload_n F dX6_chooseList_85 2 rfl ?_
          refine f_getN F inX3 (pl_SV h_g) rfl 10 (by decide) nb_32 rfl (v := .ref (ad (2 + 22 * g + 4))) rfl dX6_chooseList_86 ?_
          refine f_iconst F 1 dX6_chooseList_89 rfl ?_
          refine f_putN F inX4 tyX4_ok nmX4 (pl_TM h_g) rfl 1 (by decide) nb_19 rfl rfl rfl rfl (Nat.le_of_ble_eq_true rfl) dX6_chooseList_90 (ps_17 h_g) ?_
          exact g_vret F hr hlk dX6_chooseList_93 ⟨rfl, congrArg (fun t => cwld cI cS t ad) (Eq.symm (by unfold w_X6_chooseList; first | simp only [if_neg h8, if_pos h31, if_neg h48, if_pos h52] | rfl))⟩
        · refine g_iload_n F dX6_chooseList_55 0 rfl ?_
          refine g_if_eq F dX6_chooseList_56 (tgt := 77) rfl (fun h56 => ?_) (fun h56 => ?_)
          · exact absurd h56 h52
          refine g_aload_n F dX6_chooseList_59 2 rfl ?_
          refine f_getN F inX3 (pl_SV h_g) rfl 3 (by decide) nb_25 rfl (v := .ref (ad (2 + 22 * g + 1))) rfl dX6_chooseList_60 ?_
          refine g_aload_n F dX6_chooseList_63 3 rfl ?_
          refine f_getN F inX3 (pl_SV h_f) rfl 3 (by decide) nb_25 rfl (v := .ref (ad (2 + 22 * f + 1))) rfl dX6_chooseList_64 ?_
          refine g_aload_n F dX6_chooseList_67 3 rfl ?_
          refine f_getN F inX3 (pl_SV h_f) rfl 3 (by decide) nb_25 rfl (v := .ref (ad (2 + 22 * f + 1))) rfl dX6_chooseList_68 ?_
          refine f_getN F inX0 (pl_EL h_f) rfl 5 (by decide) nb_8 rfl (v := .int (Int32.ofNat (c 6 f 0))) rfl dX6_chooseList_71 ?_
          refine f_callVN F (As := [.ref (ad (2 + 22 * f + 1)), .int (Int32.ofNat (c 6 f 0))]) (rest := []) (st' := []) (k_X0_becomeFirst l D cI cS cZ ad c g f (c 6 f 0) h_g h_f hc (by have := cb6 hc h_f; omega)) (pl_EL h_g) rfl tb_201 nb_44 tb_200 tb_580 tb_3 hdX0_becomeFirst ⟨rfl, rfl⟩ ⟨Nat.le_of_ble_eq_true rfl, Nat.le_of_ble_eq_true rfl⟩ cw_adr rfl rfl (Nat.le_of_ble_eq_true rfl) ⟨Nat.le_refl _, Nat.le_refl _⟩ dX6_chooseList_74 rfl ?_
          refine g_aload_n F dX6_chooseList_77 2 rfl ?_
          refine g_aload_n F dX6_chooseList_78 2 rfl ?_
          refine f_getN F inX3 (pl_SV h_g) rfl 1 (by decide) nb_23 rfl (v := .int (Int32.ofNat ((w_X0_becomeFirst c g f (c 6 f 0)) 1 g 0))) rfl dX6_chooseList_79 ?_
          refine f_putN F inX3 tyX3_ok nmX3 (pl_SV h_g) rfl 2 (by decide) nb_24 rfl rfl rfl rfl (Nat.le_of_ble_eq_true rfl) dX6_chooseList_82 (ps_2 h_g) ?_
          refine g_aload_n F dX6_chooseList_85 2 rfl ?_
          refine f_getN F inX3 (pl_SV h_g) rfl 10 (by decide) nb_32 rfl (v := .ref (ad (2 + 22 * g + 4))) rfl dX6_chooseList_86 ?_
          refine f_iconst F 1 dX6_chooseList_89 rfl ?_
          refine f_putN F inX4 tyX4_ok nmX4 (pl_TM h_g) rfl 1 (by decide) nb_19 rfl rfl rfl rfl (Nat.le_of_ble_eq_true rfl) dX6_chooseList_90 (ps_17 h_g) ?_
          exact g_vret F hr hlk dX6_chooseList_93 ⟨rfl, congrArg (fun t => cwld cI cS t ad) (Eq.symm (by unfold w_X6_chooseList; first | simp only [if_neg h8, if_pos h31, if_neg h48, if_neg h52] | rfl))⟩
    · refine f_iconst F 1 dX6_chooseList_34 rfl ?_
      refine g_goto F dX6_chooseList_35 (tgt := 39) rfl ?_
      refine g_istore_n F [(3, .int (Int32.ofNat 1)), (2, .int (Int32.ofNat 0)), (0, .ref (ad (2 + 22 * g))), (1, .ref (ad (2 + 22 * f)))] dX6_chooseList_39 (by decide) rfl ?_
      refine g_aload_n F dX6_chooseList_40 3 rfl ?_
      refine f_getN F inX3 (pl_SV h_f) rfl 2 (by decide) nb_24 rfl (v := .int (Int32.ofNat (c 2 f 0))) rfl dX6_chooseList_41 ?_
      refine g_aload_n F dX6_chooseList_44 2 rfl ?_
      refine f_getN F inX3 (pl_SV h_g) rfl 2 (by decide) nb_24 rfl (v := .int (Int32.ofNat (c 2 g 0))) rfl dX6_chooseList_45 ?_
      refine g_icmp_gt F dX6_chooseList_48 (tgt := 59) rfl (fun h48 => ?_) (fun h48 => ?_)
      · refine g_aload_n F dX6_chooseList_59 2 rfl ?_
        refine f_getN F inX3 (pl_SV h_g) rfl 3 (by decide) nb_25 rfl (v := .ref (ad (2 + 22 * g + 1))) rfl dX6_chooseList_60 ?_
        refine g_aload_n F dX6_chooseList_63 3 rfl ?_
        refine f_getN F inX3 (pl_SV h_f) rfl 3 (by decide) nb_25 rfl (v := .ref (ad (2 + 22 * f + 1))) rfl dX6_chooseList_64 ?_
        refine g_aload_n F dX6_chooseList_67 3 rfl ?_
        refine f_getN F inX3 (pl_SV h_f) rfl 3 (by decide) nb_25 rfl (v := .ref (ad (2 + 22 * f + 1))) rfl dX6_chooseList_68 ?_
        refine f_getN F inX0 (pl_EL h_f) rfl 5 (by decide) nb_8 rfl (v := .int (Int32.ofNat (c 6 f 0))) rfl dX6_chooseList_71 ?_
        refine f_callVN F (As := [.ref (ad (2 + 22 * f + 1)), .int (Int32.ofNat (c 6 f 0))]) (rest := []) (st' := []) (k_X0_becomeFirst l D cI cS cZ ad c g f (c 6 f 0) h_g h_f hc (by have := cb6 hc h_f; omega)) (pl_EL h_g) rfl tb_201 nb_44 tb_200 tb_580 tb_3 hdX0_becomeFirst ⟨rfl, rfl⟩ ⟨Nat.le_of_ble_eq_true rfl, Nat.le_of_ble_eq_true rfl⟩ cw_adr rfl rfl (Nat.le_of_ble_eq_true rfl) ⟨Nat.le_refl _, Nat.le_refl _⟩ dX6_chooseList_74 rfl ?_
        refine g_aload_n F dX6_chooseList_77 2 rfl ?_
        refine g_aload_n F dX6_chooseList_78 2 rfl ?_
        refine f_getN F inX3 (pl_SV h_g) rfl 1 (by decide) nb_23 rfl (v := .int (Int32.ofNat ((w_X0_becomeFirst c g f (c 6 f 0)) 1 g 0))) rfl dX6_chooseList_79 ?_
        refine f_putN F inX3 tyX3_ok nmX3 (pl_SV h_g) rfl 2 (by decide) nb_24 rfl rfl rfl rfl (Nat.le_of_ble_eq_true rfl) dX6_chooseList_82 (ps_2 h_g) ?_
        refine g_aload_n F dX6_chooseList_85 2 rfl ?_
        refine f_getN F inX3 (pl_SV h_g) rfl 10 (by decide) nb_32 rfl (v := .ref (ad (2 + 22 * g + 4))) rfl dX6_chooseList_86 ?_
        refine f_iconst F 1 dX6_chooseList_89 rfl ?_
        refine f_putN F inX4 tyX4_ok nmX4 (pl_TM h_g) rfl 1 (by decide) nb_19 rfl rfl rfl rfl (Nat.le_of_ble_eq_true rfl) dX6_chooseList_90 (ps_17 h_g) ?_
        exact g_vret F hr hlk dX6_chooseList_93 ⟨rfl, congrArg (fun t => cwld cI cS t ad) (Eq.symm (by unfold w_X6_chooseList; first | simp only [if_neg h8, if_neg h31, if_pos h48] | rfl))⟩
      · refine g_iload_n F dX6_chooseList_51 1 rfl ?_
        refine g_if_eq F dX6_chooseList_52 (tgt := 77) rfl (fun h52 => ?_) (fun h52 => ?_)
        · refine g_aload_n F dX6_chooseList_77 2 rfl ?_
          refine g_aload_n F dX6_chooseList_78 2 rfl ?_
          refine f_getN F inX3 (pl_SV h_g) rfl 1 (by decide) nb_23 rfl (v := .int (Int32.ofNat (c 1 g 0))) rfl dX6_chooseList_79 ?_
          refine f_putN F inX3 tyX3_ok nmX3 (pl_SV h_g) rfl 2 (by decide) nb_24 rfl rfl rfl rfl (Nat.le_of_ble_eq_true rfl) dX6_chooseList_82 (ps_2 h_g) ?_
          refine g_aload_n F dX6_chooseList_85 2 rfl ?_
          refine f_getN F inX3 (pl_SV h_g) rfl 10 (by decide) nb_32 rfl (v := .ref (ad (2 + 22 * g + 4))) rfl dX6_chooseList_86 ?_
          refine f_iconst F 1 dX6_chooseList_89 rfl ?_
          refine f_putN F inX4 tyX4_ok nmX4 (pl_TM h_g) rfl 1 (by decide) nb_19 rfl rfl rfl rfl (Nat.le_of_ble_eq_true rfl) dX6_chooseList_90 (ps_17 h_g) ?_
          exact g_vret F hr hlk dX6_chooseList_93 ⟨rfl, congrArg (fun t => cwld cI cS t ad) (Eq.symm (by unfold w_X6_chooseList; first | simp only [if_neg h8, if_neg h31, if_neg h48, if_pos h52] | rfl))⟩
        · refine g_iload_n F dX6_chooseList_55 0 rfl ?_
          refine g_if_eq F dX6_chooseList_56 (tgt := 77) rfl (fun h56 => ?_) (fun h56 => ?_)
          · refine g_aload_n F dX6_chooseList_77 2 rfl ?_
            refine g_aload_n F dX6_chooseList_78 2 rfl ?_
            refine f_getN F inX3 (pl_SV h_g) rfl 1 (by decide) nb_23 rfl (v := .int (Int32.ofNat (c 1 g 0))) rfl dX6_chooseList_79 ?_
            refine f_putN F inX3 tyX3_ok nmX3 (pl_SV h_g) rfl 2 (by decide) nb_24 rfl rfl rfl rfl (Nat.le_of_ble_eq_true rfl) dX6_chooseList_82 (ps_2 h_g) ?_
            refine g_aload_n F dX6_chooseList_85 2 rfl ?_
            refine f_getN F inX3 (pl_SV h_g) rfl 10 (by decide) nb_32 rfl (v := .ref (ad (2 + 22 * g + 4))) rfl dX6_chooseList_86 ?_
            refine f_iconst F 1 dX6_chooseList_89 rfl ?_
            refine f_putN F inX4 tyX4_ok nmX4 (pl_TM h_g) rfl 1 (by decide) nb_19 rfl rfl rfl rfl (Nat.le_of_ble_eq_true rfl) dX6_chooseList_90 (ps_17 h_g) ?_
            exact g_vret F hr hlk dX6_chooseList_93 ⟨rfl, congrArg (fun t => cwld cI cS t ad) (Eq.symm (by unfold w_X6_chooseList; first | simp only [if_neg h8, if_neg h31, if_neg h48, if_neg h52, if_pos h56] | rfl))⟩
          · refine g_aload_n F dX6_chooseList_59 2 rfl ?_
            refine f_getN F inX3 (pl_SV h_g) rfl 3 (by decide) nb_25 rfl (v := .ref (ad (2 + 22 * g + 1))) rfl dX6_chooseList_60 ?_
            refine g_aload_n F dX6_chooseList_63 3 rfl ?_
            refine f_getN F inX3 (pl_SV h_f) rfl 3 (by decide) nb_25 rfl (v := .ref (ad (2 + 22 * f + 1))) rfl dX6_chooseList_64 ?_
            refine g_aload_n F dX6_chooseList_67 3 rfl ?_
            refine f_getN F inX3 (pl_SV h_f) rfl 3 (by decide) nb_25 rfl (v := .ref (ad (2 + 22 * f + 1))) rfl dX6_chooseList_68 ?_
            refine f_getN F inX0 (pl_EL h_f) rfl 5 (by decide) nb_8 rfl (v := .int (Int32.ofNat (c 6 f 0))) rfl dX6_chooseList_71 ?_
            refine f_callVN F (As := [.ref (ad (2 + 22 * f + 1)), .int (Int32.ofNat (c 6 f 0))]) (rest := []) (st' := []) (k_X0_becomeFirst l D cI cS cZ ad c g f (c 6 f 0) h_g h_f hc (by have := cb6 hc h_f; omega)) (pl_EL h_g) rfl tb_201 nb_44 tb_200 tb_580 tb_3 hdX0_becomeFirst ⟨rfl, rfl⟩ ⟨Nat.le_of_ble_eq_true rfl, Nat.le_of_ble_eq_true rfl⟩ cw_adr rfl rfl (Nat.le_of_ble_eq_true rfl) ⟨Nat.le_refl _, Nat.le_refl _⟩ dX6_chooseList_74 rfl ?_
            refine g_aload_n F dX6_chooseList_77 2 rfl ?_
            refine g_aload_n F dX6_chooseList_78 2 rfl ?_
            refine f_getN F inX3 (pl_SV h_g) rfl 1 (by decide) nb_23 rfl (v := .int (Int32.ofNat ((w_X0_becomeFirst c g f (c 6 f 0)) 1 g 0))) rfl dX6_chooseList_79 ?_
            refine f_putN F inX3 tyX3_ok nmX3 (pl_SV h_g) rfl 2 (by decide) nb_24 rfl rfl rfl rfl (Nat.le_of_ble_eq_true rfl) dX6_chooseList_82 (ps_2 h_g) ?_
            refine g_aload_n F dX6_chooseList_85 2 rfl ?_
            refine f_getN F inX3 (pl_SV h_g) rfl 10 (by decide) nb_32 rfl (v := .ref (ad (2 + 22 * g + 4))) rfl dX6_chooseList_86 ?_
            refine f_iconst F 1 dX6_chooseList_89 rfl ?_
            refine f_putN F inX4 tyX4_ok nmX4 (pl_TM h_g) rfl 1 (by decide) nb_19 rfl rfl rfl rfl (Nat.le_of_ble_eq_true rfl) dX6_chooseList_90 (ps_17 h_g) ?_
            exact g_vret F hr hlk dX6_chooseList_93 ⟨rfl, congrArg (fun t => cwld cI cS t ad) (Eq.symm (by unfold w_X6_chooseList; first | simp only [if_neg h8, if_neg h31, if_neg h48, if_neg h52, if_neg h56] | rfl))⟩
  · refine f_iconst F 1 dX6_chooseList_11 rfl ?_
    refine g_goto F dX6_chooseList_12 (tgt := 16) rfl ?_
    refine g_istore_n F [(2, .int (Int32.ofNat 1)), (0, .ref (ad (2 + 22 * g))), (1, .ref (ad (2 + 22 * f)))] dX6_chooseList_16 (by decide) rfl ?_
    refine g_aload_n F dX6_chooseList_17 2 rfl ?_
    refine f_getN F inX3 (pl_SV h_f) rfl 3 (by decide) nb_25 rfl (v := .ref (ad (2 + 22 * f + 1))) rfl dX6_chooseList_18 ?_
    refine f_callVN F (As := []) (rest := []) (st' := [.int (Int32.ofNat (r_X0_lastMark c f))]) (k_X0_lastMark l D cI cS cZ ad c f h_f (cb6 hc h_f)) (pl_EL h_f) rfl tb_196 nb_43 tb_195 tb_578 tb_3 hdX0_lastMark ⟨rfl, rfl⟩ ⟨Nat.le_of_ble_eq_true rfl, Nat.le_of_ble_eq_true rfl⟩ cw_adr rfl rfl (Nat.le_of_ble_eq_true rfl) ⟨Nat.le_refl _, Nat.le_refl _⟩ dX6_chooseList_21 rfl ?_
    refine g_aload_n F dX6_chooseList_24 1 rfl ?_
    refine f_getN F inX3 (pl_SV h_g) rfl 3 (by decide) nb_25 rfl (v := .ref (ad (2 + 22 * g + 1))) rfl dX6_chooseList_25 ?_
    refine f_callVN F (As := []) (rest := [.int (Int32.ofNat (r_X0_lastMark c f))]) (st' := [.int (Int32.ofNat (r_X0_lastMark c g)), .int (Int32.ofNat (r_X0_lastMark c f))]) (k_X0_lastMark l D cI cS cZ ad c g h_g (cb6 hc h_g)) (pl_EL h_g) rfl tb_196 nb_43 tb_195 tb_578 tb_3 hdX0_lastMark ⟨rfl, rfl⟩ ⟨Nat.le_of_ble_eq_true rfl, Nat.le_of_ble_eq_true rfl⟩ cw_adr rfl rfl (Nat.le_of_ble_eq_true rfl) ⟨Nat.le_refl _, Nat.le_refl _⟩ dX6_chooseList_28 rfl ?_
    refine g_icmp_le F dX6_chooseList_31 (tgt := 38) rfl (fun h31 => ?_) (fun h31 => ?_)
    · refine f_iconst F 0 dX6_chooseList_38 rfl ?_
      refine g_istore_n F [(3, .int (Int32.ofNat 0)), (2, .int (Int32.ofNat 1)), (0, .ref (ad (2 + 22 * g))), (1, .ref (ad (2 + 22 * f)))] dX6_chooseList_39 (by decide) rfl ?_
      refine g_aload_n F dX6_chooseList_40 3 rfl ?_
      refine f_getN F inX3 (pl_SV h_f) rfl 2 (by decide) nb_24 rfl (v := .int (Int32.ofNat (c 2 f 0))) rfl dX6_chooseList_41 ?_
      refine g_aload_n F dX6_chooseList_44 2 rfl ?_
      refine f_getN F inX3 (pl_SV h_g) rfl 2 (by decide) nb_24 rfl (v := .int (Int32.ofNat (c 2 g 0))) rfl dX6_chooseList_45 ?_
      refine g_icmp_gt F dX6_chooseList_48 (tgt := 59) rfl (fun h48 => ?_) (fun h48 => ?_)
      · refine g_aload_n F dX6_chooseList_59 2 rfl ?_
        refine f_getN F inX3 (pl_SV h_g) rfl 3 (by decide) nb_25 rfl (v := .ref (ad (2 + 22 * g + 1))) rfl dX6_chooseList_60 ?_
        refine g_aload_n F dX6_chooseList_63 3 rfl ?_
        refine f_getN F inX3 (pl_SV h_f) rfl 3 (by decide) nb_25 rfl (v := .ref (ad (2 + 22 * f + 1))) rfl dX6_chooseList_64 ?_
        refine g_aload_n F dX6_chooseList_67 3 rfl ?_
        refine f_getN F inX3 (pl_SV h_f) rfl 3 (by decide) nb_25 rfl (v := .ref (ad (2 + 22 * f + 1))) rfl dX6_chooseList_68 ?_
        refine f_getN F inX0 (pl_EL h_f) rfl 5 (by decide) nb_8 rfl (v := .int (Int32.ofNat (c 6 f 0))) rfl dX6_chooseList_71 ?_
        refine f_callVN F (As := [.ref (ad (2 + 22 * f + 1)), .int (Int32.ofNat (c 6 f 0))]) (rest := []) (st' := []) (k_X0_becomeFirst l D cI cS cZ ad c g f (c 6 f 0) h_g h_f hc (by have := cb6 hc h_f; omega)) (pl_EL h_g) rfl tb_201 nb_44 tb_200 tb_580 tb_3 hdX0_becomeFirst ⟨rfl, rfl⟩ ⟨Nat.le_of_ble_eq_true rfl, Nat.le_of_ble_eq_true rfl⟩ cw_adr rfl rfl (Nat.le_of_ble_eq_true rfl) ⟨Nat.le_refl _, Nat.le_refl _⟩ dX6_chooseList_74 rfl ?_
        refine g_aload_n F dX6_chooseList_77 2 rfl ?_
        refine g_aload_n F dX6_chooseList_78 2 rfl ?_
        refine f_getN F inX3 (pl_SV h_g) rfl 1 (by decide) nb_23 rfl (v := .int (Int32.ofNat ((w_X0_becomeFirst c g f (c 6 f 0)) 1 g 0))) rfl dX6_chooseList_79 ?_
        refine f_putN F inX3 tyX3_ok nmX3 (pl_SV h_g) rfl 2 (by decide) nb_24 rfl rfl rfl rfl (Nat.le_of_ble_eq_true rfl) dX6_chooseList_82 (ps_2 h_g) ?_
        refine g_aload_n F dX6_chooseList_85 2 rfl ?_
        refine f_getN F inX3 (pl_SV h_g) rfl 10 (by decide) nb_32 rfl (v := .ref (ad (2 + 22 * g + 4))) rfl dX6_chooseList_86 ?_
        refine f_iconst F 1 dX6_chooseList_89 rfl ?_
        refine f_putN F inX4 tyX4_ok nmX4 (pl_TM h_g) rfl 1 (by decide) nb_19 rfl rfl rfl rfl (Nat.le_of_ble_eq_true rfl) dX6_chooseList_90 (ps_17 h_g) ?_
        exact g_vret F hr hlk dX6_chooseList_93 ⟨rfl, congrArg (fun t => cwld cI cS t ad) (Eq.symm (by unfold w_X6_chooseList; first | simp only [if_pos h8, if_pos h31, if_pos h48] | rfl))⟩
      · refine g_iload_n F dX6_chooseList_51 1 rfl ?_
        refine g_if_eq F dX6_chooseList_52 (tgt := 77) rfl (fun h52 => ?_) (fun h52 => ?_)
        · refine g_aload_n F dX6_chooseList_77 2 rfl ?_
          refine g_aload_n F dX6_chooseList_78 2 rfl ?_
          refine f_getN F inX3 (pl_SV h_g) rfl 1 (by decide) nb_23 rfl (v := .int (Int32.ofNat (c 1 g 0))) rfl dX6_chooseList_79 ?_
          refine f_putN F inX3 tyX3_ok nmX3 (pl_SV h_g) rfl 2 (by decide) nb_24 rfl rfl rfl rfl (Nat.le_of_ble_eq_true rfl) dX6_chooseList_82 (ps_2 h_g) ?_
          refine g_aload_n F dX6_chooseList_85 2 rfl ?_
          refine f_getN F inX3 (pl_SV h_g) rfl 10 (by decide) nb_32 rfl (v := .ref (ad (2 + 22 * g + 4))) rfl dX6_chooseList_86 ?_
          refine f_iconst F 1 dX6_chooseList_89 rfl ?_
          refine f_putN F inX4 tyX4_ok nmX4 (pl_TM h_g) rfl 1 (by decide) nb_19 rfl rfl rfl rfl (Nat.le_of_ble_eq_true rfl) dX6_chooseList_90 (ps_17 h_g) ?_
          exact g_vret F hr hlk dX6_chooseList_93 ⟨rfl, congrArg (fun t => cwld cI cS t ad) (Eq.symm (by unfold w_X6_chooseList; first | simp only [if_pos h8, if_pos h31, if_neg h48, if_pos h52] | rfl))⟩
        · refine g_iload_n F dX6_chooseList_55 0 rfl ?_
          refine g_if_eq F dX6_chooseList_56 (tgt := 77) rfl (fun h56 => ?_) (fun h56 => ?_)
          · refine g_aload_n F dX6_chooseList_77 2 rfl ?_
            refine g_aload_n F dX6_chooseList_78 2 rfl ?_
            refine f_getN F inX3 (pl_SV h_g) rfl 1 (by decide) nb_23 rfl (v := .int (Int32.ofNat (c 1 g 0))) rfl dX6_chooseList_79 ?_
            refine f_putN F inX3 tyX3_ok nmX3 (pl_SV h_g) rfl 2 (by decide) nb_24 rfl rfl rfl rfl (Nat.le_of_ble_eq_true rfl) dX6_chooseList_82 (ps_2 h_g) ?_
            refine g_aload_n F dX6_chooseList_85 2 rfl ?_
            refine f_getN F inX3 (pl_SV h_g) rfl 10 (by decide) nb_32 rfl (v := .ref (ad (2 + 22 * g + 4))) rfl dX6_chooseList_86 ?_
            refine f_iconst F 1 dX6_chooseList_89 rfl ?_
            refine f_putN F inX4 tyX4_ok nmX4 (pl_TM h_g) rfl 1 (by decide) nb_19 rfl rfl rfl rfl (Nat.le_of_ble_eq_true rfl) dX6_chooseList_90 (ps_17 h_g) ?_
            exact g_vret F hr hlk dX6_chooseList_93 ⟨rfl, congrArg (fun t => cwld cI cS t ad) (Eq.symm (by unfold w_X6_chooseList; first | simp only [if_pos h8, if_pos h31, if_neg h48, if_neg h52, if_pos h56] | rfl))⟩
          · refine g_aload_n F dX6_chooseList_59 2 rfl ?_
            refine f_getN F inX3 (pl_SV h_g) rfl 3 (by decide) nb_25 rfl (v := .ref (ad (2 + 22 * g + 1))) rfl dX6_chooseList_60 ?_
            refine g_aload_n F dX6_chooseList_63 3 rfl ?_
            refine f_getN F inX3 (pl_SV h_f) rfl 3 (by decide) nb_25 rfl (v := .ref (ad (2 + 22 * f + 1))) rfl dX6_chooseList_64 ?_
            refine g_aload_n F dX6_chooseList_67 3 rfl ?_
            refine f_getN F inX3 (pl_SV h_f) rfl 3 (by decide) nb_25 rfl (v := .ref (ad (2 + 22 * f + 1))) rfl dX6_chooseList_68 ?_
            refine f_getN F inX0 (pl_EL h_f) rfl 5 (by decide) nb_8 rfl (v := .int (Int32.ofNat (c 6 f 0))) rfl dX6_chooseList_71 ?_
            refine f_callVN F (As := [.ref (ad (2 + 22 * f + 1)), .int (Int32.ofNat (c 6 f 0))]) (rest := []) (st' := []) (k_X0_becomeFirst l D cI cS cZ ad c g f (c 6 f 0) h_g h_f hc (by have := cb6 hc h_f; omega)) (pl_EL h_g) rfl tb_201 nb_44 tb_200 tb_580 tb_3 hdX0_becomeFirst ⟨rfl, rfl⟩ ⟨Nat.le_of_ble_eq_true rfl, Nat.le_of_ble_eq_true rfl⟩ cw_adr rfl rfl (Nat.le_of_ble_eq_true rfl) ⟨Nat.le_refl _, Nat.le_refl _⟩ dX6_chooseList_74 rfl ?_
            refine g_aload_n F dX6_chooseList_77 2 rfl ?_
            refine g_aload_n F dX6_chooseList_78 2 rfl ?_
            refine f_getN F inX3 (pl_SV h_g) rfl 1 (by decide) nb_23 rfl (v := .int (Int32.ofNat ((w_X0_becomeFirst c g f (c 6 f 0)) 1 g 0))) rfl dX6_chooseList_79 ?_
            refine f_putN F inX3 tyX3_ok nmX3 (pl_SV h_g) rfl 2 (by decide) nb_24 rfl rfl rfl rfl (Nat.le_of_ble_eq_true rfl) dX6_chooseList_82 (ps_2 h_g) ?_
            refine g_aload_n F dX6_chooseList_85 2 rfl ?_
            refine f_getN F inX3 (pl_SV h_g) rfl 10 (by decide) nb_32 rfl (v := .ref (ad (2 + 22 * g + 4))) rfl dX6_chooseList_86 ?_
            refine f_iconst F 1 dX6_chooseList_89 rfl ?_
            refine f_putN F inX4 tyX4_ok nmX4 (pl_TM h_g) rfl 1 (by decide) nb_19 rfl rfl rfl rfl (Nat.le_of_ble_eq_true rfl) dX6_chooseList_90 (ps_17 h_g) ?_
            exact g_vret F hr hlk dX6_chooseList_93 ⟨rfl, congrArg (fun t => cwld cI cS t ad) (Eq.symm (by unfold w_X6_chooseList; first | simp only [if_pos h8, if_pos h31, if_neg h48, if_neg h52, if_neg h56] | rfl))⟩
    · refine f_iconst F 1 dX6_chooseList_34 rfl ?_
      refine g_goto F dX6_chooseList_35 (tgt := 39) rfl ?_
      refine g_istore_n F [(3, .int (Int32.ofNat 1)), (2, .int (Int32.ofNat 1)), (0, .ref (ad (2 + 22 * g))), (1, .ref (ad (2 + 22 * f)))] dX6_chooseList_39 (by decide) rfl ?_
      refine g_aload_n F dX6_chooseList_40 3 rfl ?_
      refine f_getN F inX3 (pl_SV h_f) rfl 2 (by decide) nb_24 rfl (v := .int (Int32.ofNat (c 2 f 0))) rfl dX6_chooseList_41 ?_
      refine g_aload_n F dX6_chooseList_44 2 rfl ?_
      refine f_getN F inX3 (pl_SV h_g) rfl 2 (by decide) nb_24 rfl (v := .int (Int32.ofNat (c 2 g 0))) rfl dX6_chooseList_45 ?_
      refine g_icmp_gt F dX6_chooseList_48 (tgt := 59) rfl (fun h48 => ?_) (fun h48 => ?_)
      · refine g_aload_n F dX6_chooseList_59 2 rfl ?_
        refine f_getN F inX3 (pl_SV h_g) rfl 3 (by decide) nb_25 rfl (v := .ref (ad (2 + 22 * g + 1))) rfl dX6_chooseList_60 ?_
        refine g_aload_n F dX6_chooseList_63 3 rfl ?_
        refine f_getN F inX3 (pl_SV h_f) rfl 3 (by decide) nb_25 rfl (v := .ref (ad (2 + 22 * f + 1))) rfl dX6_chooseList_64 ?_
        refine g_aload_n F dX6_chooseList_67 3 rfl ?_
        refine f_getN F inX3 (pl_SV h_f) rfl 3 (by decide) nb_25 rfl (v := .ref (ad (2 + 22 * f + 1))) rfl dX6_chooseList_68 ?_
        refine f_getN F inX0 (pl_EL h_f) rfl 5 (by decide) nb_8 rfl (v := .int (Int32.ofNat (c 6 f 0))) rfl dX6_chooseList_71 ?_
        refine f_callVN F (As := [.ref (ad (2 + 22 * f + 1)), .int (Int32.ofNat (c 6 f 0))]) (rest := []) (st' := []) (k_X0_becomeFirst l D cI cS cZ ad c g f (c 6 f 0) h_g h_f hc (by have := cb6 hc h_f; omega)) (pl_EL h_g) rfl tb_201 nb_44 tb_200 tb_580 tb_3 hdX0_becomeFirst ⟨rfl, rfl⟩ ⟨Nat.le_of_ble_eq_true rfl, Nat.le_of_ble_eq_true rfl⟩ cw_adr rfl rfl (Nat.le_of_ble_eq_true rfl) ⟨Nat.le_refl _, Nat.le_refl _⟩ dX6_chooseList_74 rfl ?_
        refine g_aload_n F dX6_chooseList_77 2 rfl ?_
        refine g_aload_n F dX6_chooseList_78 2 rfl ?_
        refine f_getN F inX3 (pl_SV h_g) rfl 1 (by decide) nb_23 rfl (v := .int (Int32.ofNat ((w_X0_becomeFirst c g f (c 6 f 0)) 1 g 0))) rfl dX6_chooseList_79 ?_
        refine f_putN F inX3 tyX3_ok nmX3 (pl_SV h_g) rfl 2 (by decide) nb_24 rfl rfl rfl rfl (Nat.le_of_ble_eq_true rfl) dX6_chooseList_82 (ps_2 h_g) ?_
        refine g_aload_n F dX6_chooseList_85 2 rfl ?_
        refine f_getN F inX3 (pl_SV h_g) rfl 10 (by decide) nb_32 rfl (v := .ref (ad (2 + 22 * g + 4))) rfl dX6_chooseList_86 ?_
        refine f_iconst F 1 dX6_chooseList_89 rfl ?_
        refine f_putN F inX4 tyX4_ok nmX4 (pl_TM h_g) rfl 1 (by decide) nb_19 rfl rfl rfl rfl (Nat.le_of_ble_eq_true rfl) dX6_chooseList_90 (ps_17 h_g) ?_
        exact g_vret F hr hlk dX6_chooseList_93 ⟨rfl, congrArg (fun t => cwld cI cS t ad) (Eq.symm (by unfold w_X6_chooseList; first | simp only [if_pos h8, if_neg h31, if_pos h48] | rfl))⟩
      · refine g_iload_n F dX6_chooseList_51 1 rfl ?_
        refine g_if_eq F dX6_chooseList_52 (tgt := 77) rfl (fun h52 => ?_) (fun h52 => ?_)
        · refine g_aload_n F dX6_chooseList_77 2 rfl ?_
          refine g_aload_n F dX6_chooseList_78 2 rfl ?_
          refine f_getN F inX3 (pl_SV h_g) rfl 1 (by decide) nb_23 rfl (v := .int (Int32.ofNat (c 1 g 0))) rfl dX6_chooseList_79 ?_
          refine f_putN F inX3 tyX3_ok nmX3 (pl_SV h_g) rfl 2 (by decide) nb_24 rfl rfl rfl rfl (Nat.le_of_ble_eq_true rfl) dX6_chooseList_82 (ps_2 h_g) ?_
          refine g_aload_n F dX6_chooseList_85 2 rfl ?_
          refine f_getN F inX3 (pl_SV h_g) rfl 10 (by decide) nb_32 rfl (v := .ref (ad (2 + 22 * g + 4))) rfl dX6_chooseList_86 ?_
          refine f_iconst F 1 dX6_chooseList_89 rfl ?_
          refine f_putN F inX4 tyX4_ok nmX4 (pl_TM h_g) rfl 1 (by decide) nb_19 rfl rfl rfl rfl (Nat.le_of_ble_eq_true rfl) dX6_chooseList_90 (ps_17 h_g) ?_
          exact g_vret F hr hlk dX6_chooseList_93 ⟨rfl, congrArg (fun t => cwld cI cS t ad) (Eq.symm (by unfold w_X6_chooseList; first | simp only [if_pos h8, if_neg h31, if_neg h48, if_pos h52] | rfl))⟩
        · refine g_iload_n F dX6_chooseList_55 0 rfl ?_
          refine g_if_eq F dX6_chooseList_56 (tgt := 77) rfl (fun h56 => ?_) (fun h56 => ?_)
          · exact absurd h56 h52
          refine g_aload_n F dX6_chooseList_59 2 rfl ?_
          refine f_getN F inX3 (pl_SV h_g) rfl 3 (by decide) nb_25 rfl (v := .ref (ad (2 + 22 * g + 1))) rfl dX6_chooseList_60 ?_
          refine g_aload_n F dX6_chooseList_63 3 rfl ?_
          refine f_getN F inX3 (pl_SV h_f) rfl 3 (by decide) nb_25 rfl (v := .ref (ad (2 + 22 * f + 1))) rfl dX6_chooseList_64 ?_
          refine g_aload_n F dX6_chooseList_67 3 rfl ?_
          refine f_getN F inX3 (pl_SV h_f) rfl 3 (by decide) nb_25 rfl (v := .ref (ad (2 + 22 * f + 1))) rfl dX6_chooseList_68 ?_
          refine f_getN F inX0 (pl_EL h_f) rfl 5 (by decide) nb_8 rfl (v := .int (Int32.ofNat (c 6 f 0))) rfl dX6_chooseList_71 ?_
          refine f_callVN F (As := [.ref (ad (2 + 22 * f + 1)), .int (Int32.ofNat (c 6 f 0))]) (rest := []) (st' := []) (k_X0_becomeFirst l D cI cS cZ ad c g f (c 6 f 0) h_g h_f hc (by have := cb6 hc h_f; omega)) (pl_EL h_g) rfl tb_201 nb_44 tb_200 tb_580 tb_3 hdX0_becomeFirst ⟨rfl, rfl⟩ ⟨Nat.le_of_ble_eq_true rfl, Nat.le_of_ble_eq_true rfl⟩ cw_adr rfl rfl (Nat.le_of_ble_eq_true rfl) ⟨Nat.le_refl _, Nat.le_refl _⟩ dX6_chooseList_74 rfl ?_
          refine g_aload_n F dX6_chooseList_77 2 rfl ?_
          refine g_aload_n F dX6_chooseList_78 2 rfl ?_
          refine f_getN F inX3 (pl_SV h_g) rfl 1 (by decide) nb_23 rfl (v := .int (Int32.ofNat ((w_X0_becomeFirst c g f (c 6 f 0)) 1 g 0))) rfl dX6_chooseList_79 ?_
          refine f_putN F inX3 tyX3_ok nmX3 (pl_SV h_g) rfl 2 (by decide) nb_24 rfl rfl rfl rfl (Nat.le_of_ble_eq_true rfl) dX6_chooseList_82 (ps_2 h_g) ?_
          refine g_aload_n F dX6_chooseList_85 2 rfl ?_
          refine f_getN F inX3 (pl_SV h_g) rfl 10 (by decide) nb_32 rfl (v := .ref (ad (2 + 22 * g + 4))) rfl dX6_chooseList_86 ?_
          refine f_iconst F 1 dX6_chooseList_89 rfl ?_
          refine f_putN F inX4 tyX4_ok nmX4 (pl_TM h_g) rfl 1 (by decide) nb_19 rfl rfl rfl rfl (Nat.le_of_ble_eq_true rfl) dX6_chooseList_90 (ps_17 h_g) ?_
          exact g_vret F hr hlk dX6_chooseList_93 ⟨rfl, congrArg (fun t => cwld cI cS t ad) (Eq.symm (by unfold w_X6_chooseList; first | simp only [if_pos h8, if_neg h31, if_neg h48, if_neg h52] | rfl))⟩
theorem cb_X6_chooseList {c : CS} {g f : Nat} (h : CB c) : CB (w_X6_chooseList c g f) := by
  unfold w_X6_chooseList
  repeat' (first | exact cb_su (cb_su (cb_X0_becomeFirst h) (bnd_no (by decide))) (bnd_no (by decide)) | exact cb_su (cb_su h (bnd_no (by decide))) (bnd_no (by decide)) | refine cb_if (fun _ => ?_) (fun _ => ?_))
def w_X6_readAccepted (c : CS) (g f fr : Nat) : CS := if Int32.ofNat (c 17 g 0) = 0 then (if Int32.ofNat fr = 0 then (su3 c 11 f 0 1) else (w_X6_sendNewLeaderToWaiting (w_X6_sendNewLeader (w_X6_chooseList c g f) g f) g)) else (w_X6_sendNewLeader c g f)
abbrev rm_X6_readAccepted : Room := { frames := 5, cells := 0, slots := 0, locals := 114 }
set_option maxHeartbeats 4000000 in
set_option maxRecDepth 100000 in
theorem k_X6_readAccepted (l : Launch) (D : va_G) (cI cS cZ : ClassId) (ad : Nat → Nat) (c : CS) (g f fr : Nat) (h_g : g < 3) (h_f : f < 3) (hc : CB c) : gN l yX6_readAccepted (Cond.code yX6_readAccepted cX6_readAccepted 4 none :: tb) rm_X6_readAccepted D cls8 (tys3 cI cS cZ) [.ref (ad 0), .ref (ad (2 + 22 * g)), .ref (ad (2 + 22 * f)), .int (Int32.ofNat fr)] (cwld cI cS c ad) none (cwld cI cS (w_X6_readAccepted c g f fr) ad) := by
  unfold gN
  refine g_head (by decide) rfl (Nat.le_of_ble_eq_true rfl) ?_
  intro p e s m args below meth cd A F hr hlk hnm
  refine g_eq rfl (L' := [(0, .ref (ad 0)), (1, .ref (ad (2 + 22 * g))), (2, .ref (ad (2 + 22 * f))), (3, .int (Int32.ofNat fr))]) rfl rfl rfl ?_
  refine g_aload_n F dX6_readAccepted_0 1 rfl ?_
  refine f_getN F inX3 (pl_SV h_g) rfl 10 (by decide) nb_32 rfl (v := .ref (ad (2 + 22 * g + 4))) rfl dX6_readAccepted_1 ?_
  refine f_getN F inX4 (pl_TM h_g) rfl 1 (by decide) nb_19 rfl (v := .int (Int32.ofNat (c 17 g 0))) rfl dX6_readAccepted_4 ?_
  refine g_if_eq F dX6_readAccepted_7 (tgt := 18) rfl (fun h7 => ?_) (fun h7 => ?_)
  · refine g_iload_n F dX6_readAccepted_18 3 rfl ?_
    refine g_if_eq F dX6_readAccepted_19 (tgt := 40) rfl (fun h19 => ?_) (fun h19 => ?_)
    · refine g_aload_n F dX6_readAccepted_40 2 rfl ?_
      refine f_getN F inX3 (pl_SV h_f) rfl 9 (by decide) nb_31 rfl (v := .ref (ad (2 + 22 * f + 3))) rfl dX6_readAccepted_41 ?_
      refine f_iconst F 1 dX6_readAccepted_44 rfl ?_
      refine f_putN F inX1 tyX1_ok nmX1 (pl_LK h_f) rfl 4 (by decide) nb_16 rfl rfl rfl rfl (Nat.le_of_ble_eq_true rfl) dX6_readAccepted_45 (ps_11 h_f) ?_
      exact g_vret F hr hlk dX6_readAccepted_48 ⟨rfl, congrArg (fun t => cwld cI cS t ad) (Eq.symm (by unfold w_X6_readAccepted; first | simp only [if_pos h7, if_pos h19] | rfl))⟩
    · refine g_aload_n F dX6_readAccepted_22 1 rfl ?_
      refine g_aload_n F dX6_readAccepted_23 2 rfl ?_
      refine f_callS F (av := [.ref (ad (2 + 22 * g)), .ref (ad (2 + 22 * f))]) (rest := []) (st' := []) (k_X6_chooseList l D cI cS cZ ad c g f h_g h_f hc) tb_194 tb_192 tb_193 tb_1 hdX6_chooseList ⟨rfl, rfl⟩ ⟨Nat.le_of_ble_eq_true rfl, Nat.le_of_ble_eq_true rfl⟩ cw_adr rfl rfl (Nat.le_of_ble_eq_true rfl) ⟨Nat.le_refl _, Nat.le_refl _⟩ dX6_readAccepted_24 rfl ?_
      refine g_aload_n F dX6_readAccepted_27 1 rfl ?_
      refine g_aload_n F dX6_readAccepted_28 2 rfl ?_
      refine f_callS F (av := [.ref (ad (2 + 22 * g)), .ref (ad (2 + 22 * f))]) (rest := []) (st' := []) (k_X6_sendNewLeader l D cI cS cZ ad (w_X6_chooseList c g f) g f h_g h_f (cb15 (cb_X6_chooseList hc) h_f)) tb_191 tb_189 tb_190 tb_1 hdX6_sendNewLeader ⟨rfl, rfl⟩ ⟨Nat.le_of_ble_eq_true rfl, Nat.le_of_ble_eq_true rfl⟩ cw_adr rfl rfl (Nat.le_of_ble_eq_true rfl) ⟨Nat.le_refl _, Nat.le_refl _⟩ dX6_readAccepted_29 rfl ?_
      refine g_aload_n F dX6_readAccepted_32 0 rfl ?_
      refine g_aload_n F dX6_readAccepted_33 1 rfl ?_
      refine f_callV F (As := [.ref (ad (2 + 22 * g))]) (rest := []) (st' := []) (k_X6_sendNewLeaderToWaiting l D cI cS cZ ad (w_X6_sendNewLeader (w_X6_chooseList c g f) g f) g h_g (cb_X6_sendNewLeader (cb_X6_chooseList hc))) pl_ET rfl tb_213 tb_211 tb_212 tb_584 tb_1 ⟨rfl, hdX6_sendNewLeaderToWaiting⟩ ⟨rfl, rfl⟩ ⟨Nat.le_of_ble_eq_true rfl, Nat.le_of_ble_eq_true rfl⟩ cw_adr rfl rfl (Nat.le_of_ble_eq_true rfl) ⟨Nat.le_refl _, Nat.le_refl _⟩ dX6_readAccepted_34 rfl ?_
      refine g_goto F dX6_readAccepted_37 (tgt := 48) rfl ?_
      exact g_vret F hr hlk dX6_readAccepted_48 ⟨rfl, congrArg (fun t => cwld cI cS t ad) (Eq.symm (by unfold w_X6_readAccepted; first | simp only [if_pos h7, if_neg h19] | rfl))⟩
  · refine g_aload_n F dX6_readAccepted_10 1 rfl ?_
    refine g_aload_n F dX6_readAccepted_11 2 rfl ?_
    refine f_callS F (av := [.ref (ad (2 + 22 * g)), .ref (ad (2 + 22 * f))]) (rest := []) (st' := []) (k_X6_sendNewLeader l D cI cS cZ ad c g f h_g h_f (cb15 hc h_f)) tb_191 tb_189 tb_190 tb_1 hdX6_sendNewLeader ⟨rfl, rfl⟩ ⟨Nat.le_of_ble_eq_true rfl, Nat.le_of_ble_eq_true rfl⟩ cw_adr rfl rfl (Nat.le_of_ble_eq_true rfl) ⟨Nat.le_refl _, Nat.le_refl _⟩ dX6_readAccepted_12 rfl ?_
    refine g_goto F dX6_readAccepted_15 (tgt := 48) rfl ?_
    exact g_vret F hr hlk dX6_readAccepted_48 ⟨rfl, congrArg (fun t => cwld cI cS t ad) (Eq.symm (by unfold w_X6_readAccepted; first | simp only [if_neg h7] | rfl))⟩
def w_X6_readAck (c : CS) (g f k : Nat) : CS := if Int32.ofNat (c 3 g 0) = Int32.ofNat 3 then (if Int32.ofNat ((w_XA_fill (su3 c 3 g 0 4) g 0) 10 f 0) = 0 then (if Int32.ofNat k ≤ Int32.ofNat ((w_XA_fill (su3 c 3 g 0 4) g 0) 5 g 0) then (if Int32.ofNat 1 = 0 then (su3 (w_XA_fill (su3 c 3 g 0 4) g 0) 10 f 0 1) else (w_X2_send_d (su3 (w_XA_fill (su3 c 3 g 0 4) g 0) 10 f 0 1) f 7 ((w_XA_fill (su3 c 3 g 0 4) g 0) 5 g 0))) else (w_X6_sendOnTiedLinks (w_X3_applyUpTo (su3 (w_XA_fill (su3 c 3 g 0 4) g 0) 10 f 0 1) g k) g 7 k)) else (if Int32.ofNat k ≤ Int32.ofNat ((w_XA_fill (su3 c 3 g 0 4) g 0) 5 g 0) then (if Int32.ofNat 0 = 0 then (su3 (w_XA_fill (su3 c 3 g 0 4) g 0) 10 f 0 1) else (w_X2_send_d (su3 (w_XA_fill (su3 c 3 g 0 4) g 0) 10 f 0 1) f 7 ((w_XA_fill (su3 c 3 g 0 4) g 0) 5 g 0))) else (w_X6_sendOnTiedLinks (w_X3_applyUpTo (su3 (w_XA_fill (su3 c 3 g 0 4) g 0) 10 f 0 1) g k) g 7 k))) else (if Int32.ofNat (c 10 f 0) = 0 then (if Int32.ofNat k ≤ Int32.ofNat (c 5 g 0) then (if Int32.ofNat 1 = 0 then (su3 c 10 f 0 1) else (w_X2_send_d (su3 c 10 f 0 1) f 7 (c 5 g 0))) else (w_X6_sendOnTiedLinks (w_X3_applyUpTo (su3 c 10 f 0 1) g k) g 7 k)) else (if Int32.ofNat k ≤ Int32.ofNat (c 5 g 0) then (if Int32.ofNat 0 = 0 then (su3 c 10 f 0 1) else (w_X2_send_d (su3 c 10 f 0 1) f 7 (c 5 g 0))) else (w_X6_sendOnTiedLinks (w_X3_applyUpTo (su3 c 10 f 0 1) g k) g 7 k)))
abbrev rm_X6_readAck : Room := { frames := 5, cells := 0, slots := 0, locals := 113 }
set_option maxHeartbeats 4000000 in
set_option maxRecDepth 100000 in
theorem k_X6_readAck (l : Launch) (D : va_G) (cI cS cZ : ClassId) (ad : Nat → Nat) (c : CS) (g f k : Nat) (h_g : g < 3) (h_f : f < 3) (hc : CB c) (hk : k < 2147483648) : gN l yX6_readAck (Cond.code yX6_readAck cX6_readAck 5 none :: tb) rm_X6_readAck D cls8 (tys3 cI cS cZ) [.ref (ad 0), .ref (ad (2 + 22 * g)), .ref (ad (2 + 22 * f)), .int (Int32.ofNat k)] (cwld cI cS c ad) none (cwld cI cS (w_X6_readAck c g f k) ad) := by
  unfold gN
  refine g_head (by decide) rfl (Nat.le_of_ble_eq_true rfl) ?_
  intro p e s m args below meth cd A F hr hlk hnm
  refine g_eq rfl (L' := [(0, .ref (ad 0)), (1, .ref (ad (2 + 22 * g))), (2, .ref (ad (2 + 22 * f))), (3, .int (Int32.ofNat k))]) rfl rfl rfl ?_
  refine g_aload_n F dX6_readAck_0 1 rfl ?_
  refine f_getN F inX3 (pl_SV h_g) rfl 4 (by decide) nb_26 rfl (v := .int (Int32.ofNat (c 3 g 0))) rfl dX6_readAck_1 ?_
  refine f_iconst F 3 dX6_readAck_4 rfl ?_
  refine g_icmp_ne F dX6_readAck_5 (tgt := 24) rfl (fun h5 => ?_) (fun h5 => ?_)
  · refine g_aload_n F dX6_readAck_24 2 rfl ?_
    refine f_getN F inX3 (pl_SV h_f) rfl 9 (by decide) nb_31 rfl (v := .ref (ad (2 + 22 * f + 3))) rfl dX6_readAck_25 ?_
    refine f_getN F inX1 (pl_LK h_f) rfl 3 (by decide) nb_15 rfl (v := .int (Int32.ofNat (c 10 f 0))) rfl dX6_readAck_28 ?_
    refine g_if_ne F dX6_readAck_31 (tgt := 38) rfl (fun h31 => ?_) (fun h31 => ?_)
    · refine f_iconst F 0 dX6_readAck_38 rfl ?_
      refine g_istore F [(4, .int (Int32.ofNat 0)), (0, .ref (ad 0)), (1, .ref (ad (2 + 22 * g))), (2, .ref (ad (2 + 22 * f))), (3, .int (Int32.ofNat k))] dX6_readAck_39 (by decide) rfl ?_
      refine g_aload_n F dX6_readAck_41 3 rfl ?_
      refine f_getN F inX3 (pl_SV h_f) rfl 9 (by decide) nb_31 rfl (v := .ref (ad (2 + 22 * f + 3))) rfl dX6_readAck_42 ?_
      refine f_iconst F 1 dX6_readAck_45 rfl ?_
      refine f_putN F inX1 tyX1_ok nmX1 (pl_LK h_f) rfl 3 (by decide) nb_15 rfl rfl rfl rfl (Nat.le_of_ble_eq_true rfl) dX6_readAck_46 (ps_10 h_f) ?_
      refine g_iload_n F dX6_readAck_49 4 rfl ?_
      refine g_aload_n F dX6_readAck_50 2 rfl ?_
      refine f_getN F inX3 (pl_SV h_g) rfl 6 (by decide) nb_28 rfl (v := .int (Int32.ofNat (c 5 g 0))) rfl dX6_readAck_51 ?_
      refine g_icmp_le F dX6_readAck_54 (tgt := 73) rfl (fun h54 => ?_) (fun h54 => ?_)
      · refine g_iload F dX6_readAck_73 0 rfl ?_
        refine g_if_eq F dX6_readAck_75 (tgt := 94) rfl (fun h75 => ?_) (fun h75 => ?_)
        · exact g_vret F hr hlk dX6_readAck_94 ⟨rfl, congrArg (fun t => cwld cI cS t ad) (Eq.symm (by unfold w_X6_readAck; first | simp only [if_neg h5, if_neg h31, if_pos h54, if_pos h75] | rfl))⟩
        · refine g_aload_n F dX6_readAck_78 3 rfl ?_
          refine f_getN F inX3 (pl_SV h_f) rfl 9 (by decide) nb_31 rfl (v := .ref (ad (2 + 22 * f + 3))) rfl dX6_readAck_79 ?_
          refine f_getN F inX1 (pl_LK h_f) rfl 1 (by decide) nb_13 rfl (v := .ref (ad (2 + 22 * f + 6))) rfl dX6_readAck_82 ?_
          refine f_bipush F 7 dX6_readAck_85 rfl ?_
          refine g_aload_n F dX6_readAck_87 2 rfl ?_
          refine f_getN F inX3 (pl_SV h_g) rfl 6 (by decide) nb_28 rfl (v := .int (Int32.ofNat (c 5 g 0))) rfl dX6_readAck_88 ?_
          refine f_callVN F (As := [.int (Int32.ofNat 7), .int (Int32.ofNat (c 5 g 0))]) (rest := []) (st' := []) (k_X2_send_d l D cI cS cZ ad (su3 c 10 f 0 1) f 7 (c 5 g 0) h_f (cb15 (cb_su hc (bnd_no (by decide))) h_f)) (pl_RD h_f) rfl tb_141 nb_34 tb_140 tb_567 tb_6 hdX2_send ⟨rfl, rfl⟩ ⟨Nat.le_of_ble_eq_true rfl, Nat.le_of_ble_eq_true rfl⟩ cw_adr rfl rfl (Nat.le_of_ble_eq_true rfl) ⟨Nat.le_refl _, Nat.le_refl _⟩ dX6_readAck_91 rfl ?_
          exact g_vret F hr hlk dX6_readAck_94 ⟨rfl, congrArg (fun t => cwld cI cS t ad) (Eq.symm (by unfold w_X6_readAck; first | simp only [if_neg h5, if_neg h31, if_pos h54, if_neg h75] | rfl))⟩
      · refine g_aload_n F dX6_readAck_57 2 rfl ?_
        refine g_iload_n F dX6_readAck_58 4 rfl ?_
        refine f_callVN F (As := [.int (Int32.ofNat k)]) (rest := []) (st' := []) (k_X3_applyUpTo l D cI cS cZ ad (su3 c 10 f 0 1) g k h_g (cb_su hc (bnd_no (by decide))) hk) (pl_SV h_g) rfl tb_221 nb_45 tb_220 tb_586 tb_2 hdX3_applyUpTo ⟨rfl, rfl⟩ ⟨Nat.le_of_ble_eq_true rfl, Nat.le_of_ble_eq_true rfl⟩ cw_adr rfl rfl (Nat.le_of_ble_eq_true rfl) ⟨Nat.le_refl _, Nat.le_refl _⟩ dX6_readAck_59 rfl ?_
        refine g_aload_n F dX6_readAck_62 1 rfl ?_
        refine g_aload_n F dX6_readAck_63 2 rfl ?_
        refine f_bipush F 7 dX6_readAck_64 rfl ?_
        refine g_iload_n F dX6_readAck_66 4 rfl ?_
        refine f_callV F (As := [.ref (ad (2 + 22 * g)), .int (Int32.ofNat 7), .int (Int32.ofNat k)]) (rest := []) (st' := []) (k_X6_sendOnTiedLinks l D cI cS cZ ad (w_X3_applyUpTo (su3 c 10 f 0 1) g k) g 7 k h_g (cb_X3_applyUpTo (cb_su hc (bnd_no (by decide))) h_g hk)) pl_ET rfl tb_261 tb_259 tb_260 tb_598 tb_1 ⟨rfl, hdX6_sendOnTiedLinks⟩ ⟨rfl, rfl⟩ ⟨Nat.le_of_ble_eq_true rfl, Nat.le_of_ble_eq_true rfl⟩ cw_adr rfl rfl (Nat.le_of_ble_eq_true rfl) ⟨Nat.le_refl _, Nat.le_refl _⟩ dX6_readAck_67 rfl ?_
        refine g_goto F dX6_readAck_70 (tgt := 94) rfl ?_
        exact g_vret F hr hlk dX6_readAck_94 ⟨rfl, congrArg (fun t => cwld cI cS t ad) (Eq.symm (by unfold w_X6_readAck; first | simp only [if_neg h5, if_neg h31, if_neg h54] | rfl))⟩
    · refine f_iconst F 1 dX6_readAck_34 rfl ?_
      refine g_goto F dX6_readAck_35 (tgt := 39) rfl ?_
      refine g_istore F [(4, .int (Int32.ofNat 1)), (0, .ref (ad 0)), (1, .ref (ad (2 + 22 * g))), (2, .ref (ad (2 + 22 * f))), (3, .int (Int32.ofNat k))] dX6_readAck_39 (by decide) rfl ?_
      refine g_aload_n F dX6_readAck_41 3 rfl ?_
      refine f_getN F inX3 (pl_SV h_f) rfl 9 (by decide) nb_31 rfl (v := .ref (ad (2 + 22 * f + 3))) rfl dX6_readAck_42 ?_
      refine f_iconst F 1 dX6_readAck_45 rfl ?_
      refine f_putN F inX1 tyX1_ok nmX1 (pl_LK h_f) rfl 3 (by decide) nb_15 rfl rfl rfl rfl (Nat.le_of_ble_eq_true rfl) dX6_readAck_46 (ps_10 h_f) ?_
      refine g_iload_n F dX6_readAck_49 4 rfl ?_
      refine g_aload_n F dX6_readAck_50 2 rfl ?_
      refine f_getN F inX3 (pl_SV h_g) rfl 6 (by decide) nb_28 rfl (v := .int (Int32.ofNat (c 5 g 0))) rfl dX6_readAck_51 ?_
      refine g_icmp_le F dX6_readAck_54 (tgt := 73) rfl (fun h54 => ?_) (fun h54 => ?_)
      · refine g_iload F dX6_readAck_73 0 rfl ?_
        refine g_if_eq F dX6_readAck_75 (tgt := 94) rfl (fun h75 => ?_) (fun h75 => ?_)
        · exact g_vret F hr hlk dX6_readAck_94 ⟨rfl, congrArg (fun t => cwld cI cS t ad) (Eq.symm (by unfold w_X6_readAck; first | simp only [if_neg h5, if_pos h31, if_pos h54, if_pos h75] | rfl))⟩
        · refine g_aload_n F dX6_readAck_78 3 rfl ?_
          refine f_getN F inX3 (pl_SV h_f) rfl 9 (by decide) nb_31 rfl (v := .ref (ad (2 + 22 * f + 3))) rfl dX6_readAck_79 ?_
          refine f_getN F inX1 (pl_LK h_f) rfl 1 (by decide) nb_13 rfl (v := .ref (ad (2 + 22 * f + 6))) rfl dX6_readAck_82 ?_
          refine f_bipush F 7 dX6_readAck_85 rfl ?_
          refine g_aload_n F dX6_readAck_87 2 rfl ?_
          refine f_getN F inX3 (pl_SV h_g) rfl 6 (by decide) nb_28 rfl (v := .int (Int32.ofNat (c 5 g 0))) rfl dX6_readAck_88 ?_
          refine f_callVN F (As := [.int (Int32.ofNat 7), .int (Int32.ofNat (c 5 g 0))]) (rest := []) (st' := []) (k_X2_send_d l D cI cS cZ ad (su3 c 10 f 0 1) f 7 (c 5 g 0) h_f (cb15 (cb_su hc (bnd_no (by decide))) h_f)) (pl_RD h_f) rfl tb_141 nb_34 tb_140 tb_567 tb_6 hdX2_send ⟨rfl, rfl⟩ ⟨Nat.le_of_ble_eq_true rfl, Nat.le_of_ble_eq_true rfl⟩ cw_adr rfl rfl (Nat.le_of_ble_eq_true rfl) ⟨Nat.le_refl _, Nat.le_refl _⟩ dX6_readAck_91 rfl ?_
          exact g_vret F hr hlk dX6_readAck_94 ⟨rfl, congrArg (fun t => cwld cI cS t ad) (Eq.symm (by unfold w_X6_readAck; first | simp only [if_neg h5, if_pos h31, if_pos h54, if_neg h75] | rfl))⟩
      · refine g_aload_n F dX6_readAck_57 2 rfl ?_
        refine g_iload_n F dX6_readAck_58 4 rfl ?_
        refine f_callVN F (As := [.int (Int32.ofNat k)]) (rest := []) (st' := []) (k_X3_applyUpTo l D cI cS cZ ad (su3 c 10 f 0 1) g k h_g (cb_su hc (bnd_no (by decide))) hk) (pl_SV h_g) rfl tb_221 nb_45 tb_220 tb_586 tb_2 hdX3_applyUpTo ⟨rfl, rfl⟩ ⟨Nat.le_of_ble_eq_true rfl, Nat.le_of_ble_eq_true rfl⟩ cw_adr rfl rfl (Nat.le_of_ble_eq_true rfl) ⟨Nat.le_refl _, Nat.le_refl _⟩ dX6_readAck_59 rfl ?_
        refine g_aload_n F dX6_readAck_62 1 rfl ?_
        refine g_aload_n F dX6_readAck_63 2 rfl ?_
        refine f_bipush F 7 dX6_readAck_64 rfl ?_
        refine g_iload_n F dX6_readAck_66 4 rfl ?_
        refine f_callV F (As := [.ref (ad (2 + 22 * g)), .int (Int32.ofNat 7), .int (Int32.ofNat k)]) (rest := []) (st' := []) (k_X6_sendOnTiedLinks l D cI cS cZ ad (w_X3_applyUpTo (su3 c 10 f 0 1) g k) g 7 k h_g (cb_X3_applyUpTo (cb_su hc (bnd_no (by decide))) h_g hk)) pl_ET rfl tb_261 tb_259 tb_260 tb_598 tb_1 ⟨rfl, hdX6_sendOnTiedLinks⟩ ⟨rfl, rfl⟩ ⟨Nat.le_of_ble_eq_true rfl, Nat.le_of_ble_eq_true rfl⟩ cw_adr rfl rfl (Nat.le_of_ble_eq_true rfl) ⟨Nat.le_refl _, Nat.le_refl _⟩ dX6_readAck_67 rfl ?_
        refine g_goto F dX6_readAck_70 (tgt := 94) rfl ?_
        exact g_vret F hr hlk dX6_readAck_94 ⟨rfl, congrArg (fun t => cwld cI cS t ad) (Eq.symm (by unfold w_X6_readAck; first | simp only [if_neg h5, if_pos h31, if_neg h54] | rfl))⟩
  · refine g_aload_n F dX6_readAck_8 1 rfl ?_
    refine f_iconst F 4 dX6_readAck_9 rfl ?_
    refine f_putN F inX3 tyX3_ok nmX3 (pl_SV h_g) rfl 4 (by decide) nb_26 rfl rfl rfl rfl (Nat.le_of_ble_eq_true rfl) dX6_readAck_10 (ps_3 h_g) ?_
    refine g_aload_n F dX6_readAck_13 1 rfl ?_
    refine f_getN F inX3 (pl_SV h_g) rfl 10 (by decide) nb_32 rfl (v := .ref (ad (2 + 22 * g + 4))) rfl dX6_readAck_14 ?_
    refine f_getN F inX4 (pl_TM h_g) rfl 3 (by decide) nb_21 rfl (v := .ref (ad (2 + 22 * g + 21))) rfl dX6_readAck_17 ?_
    refine f_iconst F 0 dX6_readAck_20 rfl ?_
    refine f_callS F (av := [.ref (ad (2 + 22 * g + 21)), .int (Int32.ofNat 0)]) (rest := []) (st' := []) (k_XA_fill l D cI cS cZ ad (su3 c 3 g 0 4) g 0 h_g) tb_219 tb_217 tb_218 tb_10 hdXA_fill ⟨rfl, rfl⟩ ⟨Nat.le_of_ble_eq_true rfl, Nat.le_of_ble_eq_true rfl⟩ cw_adr rfl rfl (Nat.le_of_ble_eq_true rfl) ⟨Nat.le_refl _, Nat.le_refl _⟩ dX6_readAck_21 rfl ?_
    refine g_aload_n F dX6_readAck_24 2 rfl ?_
    refine f_getN F inX3 (pl_SV h_f) rfl 9 (by decide) nb_31 rfl (v := .ref (ad (2 + 22 * f + 3))) rfl dX6_readAck_25 ?_
    refine f_getN F inX1 (pl_LK h_f) rfl 3 (by decide) nb_15 rfl (v := .int (Int32.ofNat ((w_XA_fill (su3 c 3 g 0 4) g 0) 10 f 0))) rfl dX6_readAck_28 ?_
    refine g_if_ne F dX6_readAck_31 (tgt := 38) rfl (fun h31 => ?_) (fun h31 => ?_)
    · refine f_iconst F 0 dX6_readAck_38 rfl ?_
      refine g_istore F [(4, .int (Int32.ofNat 0)), (0, .ref (ad 0)), (1, .ref (ad (2 + 22 * g))), (2, .ref (ad (2 + 22 * f))), (3, .int (Int32.ofNat k))] dX6_readAck_39 (by decide) rfl ?_
      refine g_aload_n F dX6_readAck_41 3 rfl ?_
      refine f_getN F inX3 (pl_SV h_f) rfl 9 (by decide) nb_31 rfl (v := .ref (ad (2 + 22 * f + 3))) rfl dX6_readAck_42 ?_
      refine f_iconst F 1 dX6_readAck_45 rfl ?_
      refine f_putN F inX1 tyX1_ok nmX1 (pl_LK h_f) rfl 3 (by decide) nb_15 rfl rfl rfl rfl (Nat.le_of_ble_eq_true rfl) dX6_readAck_46 (ps_10 h_f) ?_
      refine g_iload_n F dX6_readAck_49 4 rfl ?_
      refine g_aload_n F dX6_readAck_50 2 rfl ?_
      refine f_getN F inX3 (pl_SV h_g) rfl 6 (by decide) nb_28 rfl (v := .int (Int32.ofNat ((w_XA_fill (su3 c 3 g 0 4) g 0) 5 g 0))) rfl dX6_readAck_51 ?_
      refine g_icmp_le F dX6_readAck_54 (tgt := 73) rfl (fun h54 => ?_) (fun h54 => ?_)
      · refine g_iload F dX6_readAck_73 0 rfl ?_
        refine g_if_eq F dX6_readAck_75 (tgt := 94) rfl (fun h75 => ?_) (fun h75 => ?_)
        · exact g_vret F hr hlk dX6_readAck_94 ⟨rfl, congrArg (fun t => cwld cI cS t ad) (Eq.symm (by unfold w_X6_readAck; first | simp only [if_pos h5, if_neg h31, if_pos h54, if_pos h75] | rfl))⟩
        · refine g_aload_n F dX6_readAck_78 3 rfl ?_
          refine f_getN F inX3 (pl_SV h_f) rfl 9 (by decide) nb_31 rfl (v := .ref (ad (2 + 22 * f + 3))) rfl dX6_readAck_79 ?_
          refine f_getN F inX1 (pl_LK h_f) rfl 1 (by decide) nb_13 rfl (v := .ref (ad (2 + 22 * f + 6))) rfl dX6_readAck_82 ?_
          refine f_bipush F 7 dX6_readAck_85 rfl ?_
          refine g_aload_n F dX6_readAck_87 2 rfl ?_
          refine f_getN F inX3 (pl_SV h_g) rfl 6 (by decide) nb_28 rfl (v := .int (Int32.ofNat ((w_XA_fill (su3 c 3 g 0 4) g 0) 5 g 0))) rfl dX6_readAck_88 ?_
          refine f_callVN F (As := [.int (Int32.ofNat 7), .int (Int32.ofNat ((w_XA_fill (su3 c 3 g 0 4) g 0) 5 g 0))]) (rest := []) (st' := []) (k_X2_send_d l D cI cS cZ ad (su3 (w_XA_fill (su3 c 3 g 0 4) g 0) 10 f 0 1) f 7 ((w_XA_fill (su3 c 3 g 0 4) g 0) 5 g 0) h_f (cb15 (cb_su (cb_XA_fill (cb_su hc (bnd_no (by decide)))) (bnd_no (by decide))) h_f)) (pl_RD h_f) rfl tb_141 nb_34 tb_140 tb_567 tb_6 hdX2_send ⟨rfl, rfl⟩ ⟨Nat.le_of_ble_eq_true rfl, Nat.le_of_ble_eq_true rfl⟩ cw_adr rfl rfl (Nat.le_of_ble_eq_true rfl) ⟨Nat.le_refl _, Nat.le_refl _⟩ dX6_readAck_91 rfl ?_
          exact g_vret F hr hlk dX6_readAck_94 ⟨rfl, congrArg (fun t => cwld cI cS t ad) (Eq.symm (by unfold w_X6_readAck; first | simp only [if_pos h5, if_neg h31, if_pos h54, if_neg h75] | rfl))⟩
      · refine g_aload_n F dX6_readAck_57 2 rfl ?_
        refine g_iload_n F dX6_readAck_58 4 rfl ?_
        refine f_callVN F (As := [.int (Int32.ofNat k)]) (rest := []) (st' := []) (k_X3_applyUpTo l D cI cS cZ ad (su3 (w_XA_fill (su3 c 3 g 0 4) g 0) 10 f 0 1) g k h_g (cb_su (cb_XA_fill (cb_su hc (bnd_no (by decide)))) (bnd_no (by decide))) hk) (pl_SV h_g) rfl tb_221 nb_45 tb_220 tb_586 tb_2 hdX3_applyUpTo ⟨rfl, rfl⟩ ⟨Nat.le_of_ble_eq_true rfl, Nat.le_of_ble_eq_true rfl⟩ cw_adr rfl rfl (Nat.le_of_ble_eq_true rfl) ⟨Nat.le_refl _, Nat.le_refl _⟩ dX6_readAck_59 rfl ?_
        refine g_aload_n F dX6_readAck_62 1 rfl ?_
        refine g_aload_n F dX6_readAck_63 2 rfl ?_
        refine f_bipush F 7 dX6_readAck_64 rfl ?_
        refine g_iload_n F dX6_readAck_66 4 rfl ?_
        refine f_callV F (As := [.ref (ad (2 + 22 * g)), .int (Int32.ofNat 7), .int (Int32.ofNat k)]) (rest := []) (st' := []) (k_X6_sendOnTiedLinks l D cI cS cZ ad (w_X3_applyUpTo (su3 (w_XA_fill (su3 c 3 g 0 4) g 0) 10 f 0 1) g k) g 7 k h_g (cb_X3_applyUpTo (cb_su (cb_XA_fill (cb_su hc (bnd_no (by decide)))) (bnd_no (by decide))) h_g hk)) pl_ET rfl tb_261 tb_259 tb_260 tb_598 tb_1 ⟨rfl, hdX6_sendOnTiedLinks⟩ ⟨rfl, rfl⟩ ⟨Nat.le_of_ble_eq_true rfl, Nat.le_of_ble_eq_true rfl⟩ cw_adr rfl rfl (Nat.le_of_ble_eq_true rfl) ⟨Nat.le_refl _, Nat.le_refl _⟩ dX6_readAck_67 rfl ?_
        refine g_goto F dX6_readAck_70 (tgt := 94) rfl ?_
        exact g_vret F hr hlk dX6_readAck_94 ⟨rfl, congrArg (fun t => cwld cI cS t ad) (Eq.symm (by unfold w_X6_readAck; first | simp only [if_pos h5, if_neg h31, if_neg h54] | rfl))⟩
    · refine f_iconst F 1 dX6_readAck_34 rfl ?_
      refine g_goto F dX6_readAck_35 (tgt := 39) rfl ?_
      refine g_istore F [(4, .int (Int32.ofNat 1)), (0, .ref (ad 0)), (1, .ref (ad (2 + 22 * g))), (2, .ref (ad (2 + 22 * f))), (3, .int (Int32.ofNat k))] dX6_readAck_39 (by decide) rfl ?_
      refine g_aload_n F dX6_readAck_41 3 rfl ?_
      refine f_getN F inX3 (pl_SV h_f) rfl 9 (by decide) nb_31 rfl (v := .ref (ad (2 + 22 * f + 3))) rfl dX6_readAck_42 ?_
      refine f_iconst F 1 dX6_readAck_45 rfl ?_
      refine f_putN F inX1 tyX1_ok nmX1 (pl_LK h_f) rfl 3 (by decide) nb_15 rfl rfl rfl rfl (Nat.le_of_ble_eq_true rfl) dX6_readAck_46 (ps_10 h_f) ?_
      refine g_iload_n F dX6_readAck_49 4 rfl ?_
      refine g_aload_n F dX6_readAck_50 2 rfl ?_
      refine f_getN F inX3 (pl_SV h_g) rfl 6 (by decide) nb_28 rfl (v := .int (Int32.ofNat ((w_XA_fill (su3 c 3 g 0 4) g 0) 5 g 0))) rfl dX6_readAck_51 ?_
      refine g_icmp_le F dX6_readAck_54 (tgt := 73) rfl (fun h54 => ?_) (fun h54 => ?_)
      · refine g_iload F dX6_readAck_73 0 rfl ?_
        refine g_if_eq F dX6_readAck_75 (tgt := 94) rfl (fun h75 => ?_) (fun h75 => ?_)
        · exact g_vret F hr hlk dX6_readAck_94 ⟨rfl, congrArg (fun t => cwld cI cS t ad) (Eq.symm (by unfold w_X6_readAck; first | simp only [if_pos h5, if_pos h31, if_pos h54, if_pos h75] | rfl))⟩
        · refine g_aload_n F dX6_readAck_78 3 rfl ?_
          refine f_getN F inX3 (pl_SV h_f) rfl 9 (by decide) nb_31 rfl (v := .ref (ad (2 + 22 * f + 3))) rfl dX6_readAck_79 ?_
          refine f_getN F inX1 (pl_LK h_f) rfl 1 (by decide) nb_13 rfl (v := .ref (ad (2 + 22 * f + 6))) rfl dX6_readAck_82 ?_
          refine f_bipush F 7 dX6_readAck_85 rfl ?_
          refine g_aload_n F dX6_readAck_87 2 rfl ?_
          refine f_getN F inX3 (pl_SV h_g) rfl 6 (by decide) nb_28 rfl (v := .int (Int32.ofNat ((w_XA_fill (su3 c 3 g 0 4) g 0) 5 g 0))) rfl dX6_readAck_88 ?_
          refine f_callVN F (As := [.int (Int32.ofNat 7), .int (Int32.ofNat ((w_XA_fill (su3 c 3 g 0 4) g 0) 5 g 0))]) (rest := []) (st' := []) (k_X2_send_d l D cI cS cZ ad (su3 (w_XA_fill (su3 c 3 g 0 4) g 0) 10 f 0 1) f 7 ((w_XA_fill (su3 c 3 g 0 4) g 0) 5 g 0) h_f (cb15 (cb_su (cb_XA_fill (cb_su hc (bnd_no (by decide)))) (bnd_no (by decide))) h_f)) (pl_RD h_f) rfl tb_141 nb_34 tb_140 tb_567 tb_6 hdX2_send ⟨rfl, rfl⟩ ⟨Nat.le_of_ble_eq_true rfl, Nat.le_of_ble_eq_true rfl⟩ cw_adr rfl rfl (Nat.le_of_ble_eq_true rfl) ⟨Nat.le_refl _, Nat.le_refl _⟩ dX6_readAck_91 rfl ?_
          exact g_vret F hr hlk dX6_readAck_94 ⟨rfl, congrArg (fun t => cwld cI cS t ad) (Eq.symm (by unfold w_X6_readAck; first | simp only [if_pos h5, if_pos h31, if_pos h54, if_neg h75] | rfl))⟩
      · refine g_aload_n F dX6_readAck_57 2 rfl ?_
        refine g_iload_n F dX6_readAck_58 4 rfl ?_
        refine f_callVN F (As := [.int (Int32.ofNat k)]) (rest := []) (st' := []) (k_X3_applyUpTo l D cI cS cZ ad (su3 (w_XA_fill (su3 c 3 g 0 4) g 0) 10 f 0 1) g k h_g (cb_su (cb_XA_fill (cb_su hc (bnd_no (by decide)))) (bnd_no (by decide))) hk) (pl_SV h_g) rfl tb_221 nb_45 tb_220 tb_586 tb_2 hdX3_applyUpTo ⟨rfl, rfl⟩ ⟨Nat.le_of_ble_eq_true rfl, Nat.le_of_ble_eq_true rfl⟩ cw_adr rfl rfl (Nat.le_of_ble_eq_true rfl) ⟨Nat.le_refl _, Nat.le_refl _⟩ dX6_readAck_59 rfl ?_
        refine g_aload_n F dX6_readAck_62 1 rfl ?_
        refine g_aload_n F dX6_readAck_63 2 rfl ?_
        refine f_bipush F 7 dX6_readAck_64 rfl ?_
        refine g_iload_n F dX6_readAck_66 4 rfl ?_
        refine f_callV F (As := [.ref (ad (2 + 22 * g)), .int (Int32.ofNat 7), .int (Int32.ofNat k)]) (rest := []) (st' := []) (k_X6_sendOnTiedLinks l D cI cS cZ ad (w_X3_applyUpTo (su3 (w_XA_fill (su3 c 3 g 0 4) g 0) 10 f 0 1) g k) g 7 k h_g (cb_X3_applyUpTo (cb_su (cb_XA_fill (cb_su hc (bnd_no (by decide)))) (bnd_no (by decide))) h_g hk)) pl_ET rfl tb_261 tb_259 tb_260 tb_598 tb_1 ⟨rfl, hdX6_sendOnTiedLinks⟩ ⟨rfl, rfl⟩ ⟨Nat.le_of_ble_eq_true rfl, Nat.le_of_ble_eq_true rfl⟩ cw_adr rfl rfl (Nat.le_of_ble_eq_true rfl) ⟨Nat.le_refl _, Nat.le_refl _⟩ dX6_readAck_67 rfl ?_
        refine g_goto F dX6_readAck_70 (tgt := 94) rfl ?_
        exact g_vret F hr hlk dX6_readAck_94 ⟨rfl, congrArg (fun t => cwld cI cS t ad) (Eq.symm (by unfold w_X6_readAck; first | simp only [if_pos h5, if_pos h31, if_neg h54] | rfl))⟩
def w_X6_readNewEpoch (c : CS) (v ch : Nat) : CS := if Int32.ofNat (c 1 v 0) ≤ Int32.ofNat ch then (if Int32.ofNat ch ≤ Int32.ofNat (c 1 v 0) then (if Int32.ofNat 0 = 0 then (w_X2_send_u (su3 c 1 v 0 ch) v 2 0) else (w_X2_send_u (su3 c 1 v 0 ch) v 2 1)) else (if Int32.ofNat 1 = 0 then (w_X2_send_u (su3 c 1 v 0 ch) v 2 0) else (w_X2_send_u (su3 c 1 v 0 ch) v 2 1))) else (w_X6_stopTo c v 1)
abbrev rm_X6_readNewEpoch : Room := { frames := 3, cells := 0, slots := 0, locals := 64 }
set_option maxHeartbeats 4000000 in
set_option maxRecDepth 100000 in
theorem k_X6_readNewEpoch (l : Launch) (D : va_G) (cI cS cZ : ClassId) (ad : Nat → Nat) (c : CS) (v ch : Nat) (hv : v < 3) (hc : CB c) : gN l yX6_readNewEpoch (Cond.code yX6_readNewEpoch cX6_readNewEpoch 5 none :: tb) rm_X6_readNewEpoch D cls8 (tys3 cI cS cZ) [.ref (ad 0), .int (Int32.ofNat v), .int (Int32.ofNat ch)] (cwld cI cS c ad) none (cwld cI cS (w_X6_readNewEpoch c v ch) ad) := by
  unfold gN
  refine g_head (by decide) rfl (Nat.le_of_ble_eq_true rfl) ?_
  intro p e s m args below meth cd A F hr hlk hnm
  refine g_eq rfl (L' := [(0, .ref (ad 0)), (1, .int (Int32.ofNat v)), (2, .int (Int32.ofNat ch))]) rfl rfl rfl ?_
  refine g_aload_n F dX6_readNewEpoch_0 0 rfl ?_
  refine f_get F inX6 pl_ET rfl 0 (by decide) tb_119 rfl (v := .ref (ad 1)) rfl dX6_readNewEpoch_1 ?_
  refine g_iload_n F dX6_readNewEpoch_4 1 rfl ?_
  refine f_srv F hv dX6_readNewEpoch_5 ?_
  refine g_astore_n F [(3, .ref (ad (2 + 22 * v))), (0, .ref (ad 0)), (1, .int (Int32.ofNat v)), (2, .int (Int32.ofNat ch))] dX6_readNewEpoch_6 (by decide) rfl ?_
  refine g_iload_n F dX6_readNewEpoch_7 3 rfl ?_
  refine g_aload_n F dX6_readNewEpoch_8 0 rfl ?_
  refine f_getN F inX3 (pl_SV hv) rfl 1 (by decide) nb_23 rfl (v := .int (Int32.ofNat (c 1 v 0))) rfl dX6_readNewEpoch_9 ?_
  refine g_icmp_ge F dX6_readNewEpoch_12 (tgt := 22) rfl (fun h12 => ?_) (fun h12 => ?_)
  · refine g_iload_n F dX6_readNewEpoch_22 3 rfl ?_
    refine g_aload_n F dX6_readNewEpoch_23 0 rfl ?_
    refine f_getN F inX3 (pl_SV hv) rfl 1 (by decide) nb_23 rfl (v := .int (Int32.ofNat (c 1 v 0))) rfl dX6_readNewEpoch_24 ?_
    refine g_icmp_le F dX6_readNewEpoch_27 (tgt := 34) rfl (fun h27 => ?_) (fun h27 => ?_)
    · refine f_iconst F 0 dX6_readNewEpoch_34 rfl ?_
      refine g_istore F [(4, .int (Int32.ofNat 0)), (3, .ref (ad (2 + 22 * v))), (0, .ref (ad 0)), (1, .int (Int32.ofNat v)), (2, .int (Int32.ofNat ch))] dX6_readNewEpoch_35 (by decide) rfl ?_
      refine g_aload_n F dX6_readNewEpoch_37 1 rfl ?_
      refine g_iload_n F dX6_readNewEpoch_38 4 rfl ?_
      refine f_putN F inX3 tyX3_ok nmX3 (pl_SV hv) rfl 1 (by decide) nb_23 rfl rfl rfl rfl (Nat.le_of_ble_eq_true rfl) dX6_readNewEpoch_39 (ps_1 hv) ?_
      refine g_aload_n F dX6_readNewEpoch_42 1 rfl ?_
      refine f_getN F inX3 (pl_SV hv) rfl 9 (by decide) nb_31 rfl (v := .ref (ad (2 + 22 * v + 3))) rfl dX6_readNewEpoch_43 ?_
      refine f_getN F inX1 (pl_LK hv) rfl 0 (by decide) nb_12 rfl (v := .ref (ad (2 + 22 * v + 5))) rfl dX6_readNewEpoch_46 ?_
      refine f_iconst F 2 dX6_readNewEpoch_49 rfl ?_
      refine g_iload F dX6_readNewEpoch_50 0 rfl ?_
      refine g_if_eq F dX6_readNewEpoch_52 (tgt := 59) rfl (fun h52 => ?_) (fun h52 => ?_)
      · refine f_iconst F 0 dX6_readNewEpoch_59 rfl ?_
        refine f_callVN F (As := [.int (Int32.ofNat 2), .int (Int32.ofNat 0)]) (rest := []) (st' := []) (k_X2_send_u l D cI cS cZ ad (su3 c 1 v 0 ch) v 2 0 hv (cb13 (cb_su hc (bnd_no (by decide))) hv)) (pl_RU hv) rfl tb_141 nb_34 tb_140 tb_567 tb_6 hdX2_send ⟨rfl, rfl⟩ ⟨Nat.le_of_ble_eq_true rfl, Nat.le_of_ble_eq_true rfl⟩ cw_adr rfl rfl (Nat.le_of_ble_eq_true rfl) ⟨Nat.le_refl _, Nat.le_refl _⟩ dX6_readNewEpoch_60 rfl ?_
        exact g_vret F hr hlk dX6_readNewEpoch_63 ⟨rfl, congrArg (fun t => cwld cI cS t ad) (Eq.symm (by unfold w_X6_readNewEpoch; first | simp only [if_pos h12, if_pos h27, if_pos h52] | rfl))⟩
      · refine f_iconst F 1 dX6_readNewEpoch_55 rfl ?_
        refine g_goto F dX6_readNewEpoch_56 (tgt := 60) rfl ?_
        refine f_callVN F (As := [.int (Int32.ofNat 2), .int (Int32.ofNat 1)]) (rest := []) (st' := []) (k_X2_send_u l D cI cS cZ ad (su3 c 1 v 0 ch) v 2 1 hv (cb13 (cb_su hc (bnd_no (by decide))) hv)) (pl_RU hv) rfl tb_141 nb_34 tb_140 tb_567 tb_6 hdX2_send ⟨rfl, rfl⟩ ⟨Nat.le_of_ble_eq_true rfl, Nat.le_of_ble_eq_true rfl⟩ cw_adr rfl rfl (Nat.le_of_ble_eq_true rfl) ⟨Nat.le_refl _, Nat.le_refl _⟩ dX6_readNewEpoch_60 rfl ?_
        exact g_vret F hr hlk dX6_readNewEpoch_63 ⟨rfl, congrArg (fun t => cwld cI cS t ad) (Eq.symm (by unfold w_X6_readNewEpoch; first | simp only [if_pos h12, if_pos h27, if_neg h52] | rfl))⟩
    · refine f_iconst F 1 dX6_readNewEpoch_30 rfl ?_
      refine g_goto F dX6_readNewEpoch_31 (tgt := 35) rfl ?_
      refine g_istore F [(4, .int (Int32.ofNat 1)), (3, .ref (ad (2 + 22 * v))), (0, .ref (ad 0)), (1, .int (Int32.ofNat v)), (2, .int (Int32.ofNat ch))] dX6_readNewEpoch_35 (by decide) rfl ?_
      refine g_aload_n F dX6_readNewEpoch_37 1 rfl ?_
      refine g_iload_n F dX6_readNewEpoch_38 4 rfl ?_
      refine f_putN F inX3 tyX3_ok nmX3 (pl_SV hv) rfl 1 (by decide) nb_23 rfl rfl rfl rfl (Nat.le_of_ble_eq_true rfl) dX6_readNewEpoch_39 (ps_1 hv) ?_
      refine g_aload_n F dX6_readNewEpoch_42 1 rfl ?_
      refine f_getN F inX3 (pl_SV hv) rfl 9 (by decide) nb_31 rfl (v := .ref (ad (2 + 22 * v + 3))) rfl dX6_readNewEpoch_43 ?_
      refine f_getN F inX1 (pl_LK hv) rfl 0 (by decide) nb_12 rfl (v := .ref (ad (2 + 22 * v + 5))) rfl dX6_readNewEpoch_46 ?_
      refine f_iconst F 2 dX6_readNewEpoch_49 rfl ?_
      refine g_iload F dX6_readNewEpoch_50 0 rfl ?_
      refine g_if_eq F dX6_readNewEpoch_52 (tgt := 59) rfl (fun h52 => ?_) (fun h52 => ?_)
      · refine f_iconst F 0 dX6_readNewEpoch_59 rfl ?_
        refine f_callVN F (As := [.int (Int32.ofNat 2), .int (Int32.ofNat 0)]) (rest := []) (st' := []) (k_X2_send_u l D cI cS cZ ad (su3 c 1 v 0 ch) v 2 0 hv (cb13 (cb_su hc (bnd_no (by decide))) hv)) (pl_RU hv) rfl tb_141 nb_34 tb_140 tb_567 tb_6 hdX2_send ⟨rfl, rfl⟩ ⟨Nat.le_of_ble_eq_true rfl, Nat.le_of_ble_eq_true rfl⟩ cw_adr rfl rfl (Nat.le_of_ble_eq_true rfl) ⟨Nat.le_refl _, Nat.le_refl _⟩ dX6_readNewEpoch_60 rfl ?_
        exact g_vret F hr hlk dX6_readNewEpoch_63 ⟨rfl, congrArg (fun t => cwld cI cS t ad) (Eq.symm (by unfold w_X6_readNewEpoch; first | simp only [if_pos h12, if_neg h27, if_pos h52] | rfl))⟩
      · refine f_iconst F 1 dX6_readNewEpoch_55 rfl ?_
        refine g_goto F dX6_readNewEpoch_56 (tgt := 60) rfl ?_
        refine f_callVN F (As := [.int (Int32.ofNat 2), .int (Int32.ofNat 1)]) (rest := []) (st' := []) (k_X2_send_u l D cI cS cZ ad (su3 c 1 v 0 ch) v 2 1 hv (cb13 (cb_su hc (bnd_no (by decide))) hv)) (pl_RU hv) rfl tb_141 nb_34 tb_140 tb_567 tb_6 hdX2_send ⟨rfl, rfl⟩ ⟨Nat.le_of_ble_eq_true rfl, Nat.le_of_ble_eq_true rfl⟩ cw_adr rfl rfl (Nat.le_of_ble_eq_true rfl) ⟨Nat.le_refl _, Nat.le_refl _⟩ dX6_readNewEpoch_60 rfl ?_
        exact g_vret F hr hlk dX6_readNewEpoch_63 ⟨rfl, congrArg (fun t => cwld cI cS t ad) (Eq.symm (by unfold w_X6_readNewEpoch; first | simp only [if_pos h12, if_neg h27, if_neg h52] | rfl))⟩
  · refine g_aload_n F dX6_readNewEpoch_15 1 rfl ?_
    refine g_iload_n F dX6_readNewEpoch_16 2 rfl ?_
    refine f_iconst F 1 dX6_readNewEpoch_17 rfl ?_
    refine f_callV F (As := [.int (Int32.ofNat v), .int (Int32.ofNat 1)]) (rest := []) (st' := []) (k_X6_stopTo l D cI cS cZ ad c v 1 hv hc) pl_ET rfl tb_148 tb_146 tb_147 tb_568 tb_1 ⟨rfl, hdX6_stopTo⟩ ⟨rfl, rfl⟩ ⟨Nat.le_of_ble_eq_true rfl, Nat.le_of_ble_eq_true rfl⟩ cw_adr rfl rfl (Nat.le_of_ble_eq_true rfl) ⟨Nat.le_refl _, Nat.le_refl _⟩ dX6_readNewEpoch_18 rfl ?_
    exact g_vret F hr hlk dX6_readNewEpoch_21 ⟨rfl, congrArg (fun t => cwld cI cS t ad) (Eq.symm (by unfold w_X6_readNewEpoch; first | simp only [if_neg h12] | rfl))⟩
