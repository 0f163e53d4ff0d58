def WK (a x : RS) (k : Nat) : Prop := (∀ q, q < 26 → x q = a q) ∧ x 32 0 ≤ k
theorem fr_create {x : RS} {p va b q : Nat} (hq : q < 26) : w_X7_create x p va b q = x q := by
  unfold w_X7_create
  repeat' split
  all_goals first | rfl | simp only [su2_ne (show q ≠ 32 by omega), su2_ne (show q ≠ 29 by omega), su2_ne (show q ≠ 28 by omega), su2_ne (show q ≠ 27 by omega), su2_ne (show q ≠ 26 by omega)]
theorem sz_create {x : RS} {p va b : Nat} : w_X7_create x p va b 32 0 ≤ x 32 0 + 1 := by
  unfold w_X7_create
  repeat' split
  all_goals first | exact Nat.le_succ _ | (rw [su2_same]; exact Nat.le_refl _)
theorem fr_alter {x : RS} {st p va b q : Nat} (hq : q < 26 ∨ q = 32) : w_X7_alter x st p va b q = x q := by
  unfold w_X7_alter
  repeat' split
  all_goals first | rfl | simp only [su2_ne (show q ≠ 28 by omega), su2_ne (show q ≠ 27 by omega), su2_ne (show q ≠ 26 by omega)]
theorem fr_session_lp {a : RS} {op b q : Nat} (hq : q ≠ 26) : ∀ (d k : Nat) (x : RS), lpw_X7_session_30 a op b d k x q = x q := by
  intro d
  induction d with
  | zero => intro k x; rfl
  | succ d ih =>
    intro k x
    simp only [lpw_X7_session_30]
    repeat' split
    all_goals first | exact ih _ _ | (rw [ih, su2_ne hq])
theorem fr_session {x : RS} {op b q : Nat} (hq : q < 26 ∨ q = 32) : w_X7_session x op b q = x q := by
  unfold w_X7_session
  repeat' split
  all_goals first | rfl | (rw [fr_session_lp (by omega), su2_ne (by omega)])
theorem wk_create {a x : RS} {k p va b r : Nat} (h : WK a x k) : WK a (su2 (w_X7_create x p va b) 31 k r) (k + 1) :=
  ⟨fun q hq => by rw [su2_ne (by omega), fr_create hq]; exact h.1 q hq, by rw [su2_ne (by decide)]; have := sz_create (x := x) (p := p) (va := va) (b := b); have := h.2; omega⟩
theorem wk_alter {a x : RS} {k st p va b r : Nat} (h : WK a x k) : WK a (su2 (w_X7_alter x st p va b) 31 k r) (k + 1) :=
  ⟨fun q hq => by rw [su2_ne (by omega), fr_alter (Or.inl hq)]; exact h.1 q hq, by rw [su2_ne (by decide), fr_alter (Or.inr rfl)]; have := h.2; omega⟩
theorem wk_session {a x : RS} {k op b r : Nat} (h : WK a x k) : WK a (su2 (w_X7_session x op b) 31 k r) (k + 1) :=
  ⟨fun q hq => by rw [su2_ne (by omega), fr_session (Or.inl hq)]; exact h.1 q hq, by rw [su2_ne (by decide), fr_session (Or.inr rfl)]; have := h.2; omega⟩
def EVa (a : RS) (v : Nat) : Prop := ∀ j, j < a 3 v → (Int32.ofNat (a 6 (24 * v + j)) = Int32.ofNat 1 → a 9 (24 * v + j) < 5) ∧ (Int32.ofNat 3 < Int32.ofNat (a 6 (24 * v + j)) → a 9 (24 * v + j) < 5)
def lpw_X7_work_7 (a : RS) (v : Nat) : Nat → Nat → RS → RS
  | 0, k, x => x
  | d + 1, k, x => lpw_X7_work_7 a v d (k + 1) (su2 x 30 k 0)
def lpw_X7_work_27 (a : RS) (v : Nat) : Nat → Nat → RS → RS
  | 0, k, x => x
  | d + 1, k, x => if Int32.ofNat (x 6 ((24 * v) + k)) = Int32.ofNat 1 then (lpw_X7_work_27 a v d (k + 1) (su2 (w_X7_create x (x 7 ((24 * v) + k)) (x 8 ((24 * v) + k)) (x 9 ((24 * v) + k))) 31 k (r_X7_create x (x 7 ((24 * v) + k)) (x 8 ((24 * v) + k)) (x 9 ((24 * v) + k))))) else (if Int32.ofNat 3 < Int32.ofNat (x 6 ((24 * v) + k)) then (if Int32.ofNat (x 6 ((24 * v) + k)) = Int32.ofNat 4 then (lpw_X7_work_27 a v d (k + 1) (su2 (w_X7_session x 1 (x 9 ((24 * v) + k))) 31 k (r_X7_session x 1 (x 9 ((24 * v) + k))))) else (lpw_X7_work_27 a v d (k + 1) (su2 (w_X7_session x 0 (x 9 ((24 * v) + k))) 31 k (r_X7_session x 0 (x 9 ((24 * v) + k)))))) else (if Int32.ofNat (x 6 ((24 * v) + k)) = Int32.ofNat 2 then (lpw_X7_work_27 a v d (k + 1) (su2 (w_X7_alter x 1 (x 7 ((24 * v) + k)) (x 8 ((24 * v) + k)) (x 9 ((24 * v) + k))) 31 k (r_X7_alter x 1 (x 7 ((24 * v) + k)) (x 8 ((24 * v) + k)) (x 9 ((24 * v) + k))))) else (lpw_X7_work_27 a v d (k + 1) (su2 (w_X7_alter x 0 (x 7 ((24 * v) + k)) (x 8 ((24 * v) + k)) (x 9 ((24 * v) + k))) 31 k (r_X7_alter x 0 (x 7 ((24 * v) + k)) (x 8 ((24 * v) + k)) (x 9 ((24 * v) + k)))))))
def w_X7_work (a : RS) (v : Nat) : RS := lpw_X7_work_27 a v (a 3 v) 0 (lpw_X7_work_7 a v 5 0 (su2 a 32 0 0))
theorem fr_work7 {a : RS} {v q : Nat} (hq : q ≠ 30) : ∀ (d k : Nat) (x : RS), lpw_X7_work_7 a v d k x q = x q := by
  intro d
  induction d with
  | zero => intro k x; rfl
  | succ d ih => intro k x; simp only [lpw_X7_work_7]; rw [ih, su2_ne hq]
abbrev rm_X7_work : Room := { frames := 2, cells := 0, slots := 0, locals := 48 }
set_option maxHeartbeats 4000000 in
set_option maxRecDepth 100000 in
theorem k_X7_work (l : Launch) (D : va_G) (cI cS cZ : ClassId) (ad : Nat → Nat) (a : RS) (v : Nat) (hv : v < 3) (hap : a 3 v ≤ 24) (hev : EVa a v) : gN l yX7_work (Cond.code yX7_work cX7_work 6 none :: tb) rm_X7_work D cls8 (tys3 cI cS cZ) [.ref (ad 0), .int (Int32.ofNat v)] (rwld cI cZ a ad) none (rwld cI cZ (w_X7_work a v) ad) := by
  unfold gN
  refine g_head (by decide) rfl (Nat.le_of_ble_eq_true rfl) ?_
  intro p e s m args below meth cd A F hr hlk hnm
  refine g_eq rfl (L' := [(0, .ref (ad 0)), (1, .int (Int32.ofNat v))]) rfl rfl rfl ?_
  refine g_aload_n F dX7_work_0 0 rfl ?_
  refine f_iconst F 0 dX7_work_1 rfl ?_
  refine f_put F inX7 tyX7_ok nmX7 ql_RM rfl 26 (by decide) tb_383 rfl rfl rfl rfl (Nat.le_of_ble_eq_true rfl) dX7_work_2 qs_32 ?_
  refine f_iconst F 0 dX7_work_5 rfl ?_
  refine g_istore_n F [(2, .int (Int32.ofNat 0)), (0, .ref (ad 0)), (1, .int (Int32.ofNat v))] dX7_work_6 (by decide) rfl ?_
  have loop7 : ∀ (Q : State → Prop) (d k : Nat) (x : RS), (k + d = 5) → gw p l e (headSpec (Cond.code yX7_work cX7_work 6 none :: tb) rm_X7_work).room s m args below meth cd 6 D cls8 A Q 0 0 25 [(0, .ref (ad 0)), (1, .int (Int32.ofNat v))] [] (rwld cI cZ (lpw_X7_work_7 a v d k x) ad) → gw p l e (headSpec (Cond.code yX7_work cX7_work 6 none :: tb) rm_X7_work).room s m args below meth cd 6 D cls8 A Q 0 0 7 [(2, .int (Int32.ofNat k)), (0, .ref (ad 0)), (1, .int (Int32.ofNat v))] [] (rwld cI cZ x ad) := by
    intro Q d
    induction d with
    | zero =>
      intro k x hk K
      refine g_iload_n F dX7_work_7 0 rfl ?_
      refine f_iconst F 5 dX7_work_8 rfl ?_
      refine g_icmp_ge F dX7_work_9 (tgt := 25) rfl (fun h9 => ?_) (fun h9 => ?_)
      rotate_left
      · exact absurd h9 (by rw [ofN_le (by omega) (by omega)]; omega)
      refine g_locals [(0, .ref (ad 0)), (1, .int (Int32.ofNat v))] [1, 2] rfl ?_
      exact K
    | succ d ih =>
      intro k x hk K
      refine g_iload_n F dX7_work_7 0 rfl ?_
      refine f_iconst F 5 dX7_work_8 rfl ?_
      refine g_icmp_ge F dX7_work_9 (tgt := 25) rfl (fun h9 => ?_) (fun h9 => ?_)
      · exact absurd h9 (by rw [ofN_le (by omega) (by omega)]; omega)
      refine g_aload_n F dX7_work_12 1 rfl ?_
      refine f_get F inX7 ql_RM rfl 31 (by decide) tb_388 rfl (v := .ref (ad 31)) rfl dX7_work_13 ?_
      refine g_iload_n F dX7_work_16 0 rfl ?_
      refine f_iconst F 0 dX7_work_17 rfl ?_
      refine f_zast F 2 ql_30 rfl (j := k) (v := 0) (by omega) (by decide) rfl dX7_work_18 qs_30 ?_
      refine f_iinc F (k + 1) [(2, .int (Int32.ofNat (k + 1))), (0, .ref (ad 0)), (1, .int (Int32.ofNat v))] dX7_work_19 0 rfl (ofN_inc _) (by decide) rfl ?_
      refine g_goto F dX7_work_22 (tgt := 7) rfl ?_
      exact ih (k + 1) (su2 x 30 k 0) (by omega) (g_eq rfl rfl rfl (congrArg (fun t => rwld cI cZ t ad) (by simp only [lpw_X7_work_7])) K)
  refine loop7 _ 5 0 (su2 a 32 0 0) (Nat.zero_add _) ?_
  refine f_iconst F 0 dX7_work_25 rfl ?_
  refine g_istore_n F [(2, .int (Int32.ofNat 0)), (0, .ref (ad 0)), (1, .int (Int32.ofNat v))] dX7_work_26 (by decide) rfl ?_
  have loop27 : ∀ (Q : State → Prop) (d k : Nat) (x : RS), (k + d = a 3 v) → (WK a x k) → gw p l e (headSpec (Cond.code yX7_work cX7_work 6 none :: tb) rm_X7_work).room s m args below meth cd 6 D cls8 A Q 0 0 174 [(0, .ref (ad 0)), (1, .int (Int32.ofNat v))] [] (rwld cI cZ (lpw_X7_work_27 a v d k x) ad) → gw p l e (headSpec (Cond.code yX7_work cX7_work 6 none :: tb) rm_X7_work).room s m args below meth cd 6 D cls8 A Q 0 0 27 [(2, .int (Int32.ofNat k)), (0, .ref (ad 0)), (1, .int (Int32.ofNat v))] [] (rwld cI cZ x ad) := by
    intro Q d
    induction d with
    | zero =>
      intro k x hk hx K
      have e3 : x 3 v = a 3 v := congrFun (hx.1 3 (by decide)) v
      have e6 : x 6 (24 * v + k) = a 6 (24 * v + k) := congrFun (hx.1 6 (by decide)) _
      have e9 : x 9 (24 * v + k) = a 9 (24 * v + k) := congrFun (hx.1 9 (by decide)) _
      have hx2 := hx.2
      refine g_iload_n F dX7_work_27 0 rfl ?_
      refine g_aload_n F dX7_work_28 1 rfl ?_
      refine f_get F inX7 ql_RM rfl 3 (by decide) tb_360 rfl (v := .ref (ad 4)) rfl dX7_work_29 ?_
      refine g_iload_n F dX7_work_32 2 rfl ?_
      refine f_ald F 0 ql_3 rfl (j := v) (by omega) (by decide) dX7_work_33 ?_
      refine g_icmp_ge F dX7_work_34 (tgt := 174) rfl (fun h34 => ?_) (fun h34 => ?_)
      rotate_left
      · exact absurd h34 (by rw [ofN_le (by omega) (by omega)]; omega)
      refine g_locals [(0, .ref (ad 0)), (1, .int (Int32.ofNat v))] [1, 2] rfl ?_
      exact K
    | succ d ih =>
      intro k x hk hx K
      have e3 : x 3 v = a 3 v := congrFun (hx.1 3 (by decide)) v
      have e6 : x 6 (24 * v + k) = a 6 (24 * v + k) := congrFun (hx.1 6 (by decide)) _
      have e9 : x 9 (24 * v + k) = a 9 (24 * v + k) := congrFun (hx.1 9 (by decide)) _
      have hx2 := hx.2
      refine g_iload_n F dX7_work_27 0 rfl ?_
      refine g_aload_n F dX7_work_28 1 rfl ?_
      refine f_get F inX7 ql_RM rfl 3 (by decide) tb_360 rfl (v := .ref (ad 4)) rfl dX7_work_29 ?_
      refine g_iload_n F dX7_work_32 2 rfl ?_
      refine f_ald F 0 ql_3 rfl (j := v) (by omega) (by decide) dX7_work_33 ?_
      refine g_icmp_ge F dX7_work_34 (tgt := 174) rfl (fun h34 => ?_) (fun h34 => ?_)
      · exact absurd h34 (by rw [ofN_le (by omega) (by omega)]; omega)
      refine f_bipush F 24 dX7_work_37 rfl ?_
      refine g_iload_n F dX7_work_39 2 rfl ?_
      refine f_mul F dX7_work_40 ?_
      refine g_iload_n F dX7_work_41 0 rfl ?_
      refine f_add F dX7_work_42 ?_
      refine g_istore_n F [(3, .int (Int32.ofNat ((24 * v) + k))), (2, .int (Int32.ofNat k)), (0, .ref (ad 0)), (1, .int (Int32.ofNat v))] dX7_work_43 (by decide) rfl ?_
      refine g_aload_n F dX7_work_44 2 rfl ?_
      refine f_get F inX7 ql_RM rfl 8 (by decide) tb_365 rfl (v := .ref (ad 9)) rfl dX7_work_45 ?_
      refine g_iload_n F dX7_work_48 0 rfl ?_
      refine f_ald F 0 ql_8 rfl (j := (24 * v) + k) (by omega) (by decide) dX7_work_49 ?_
      refine g_istore F [(4, .int (Int32.ofNat (x 8 ((24 * v) + k)))), (3, .int (Int32.ofNat ((24 * v) + k))), (2, .int (Int32.ofNat k)), (0, .ref (ad 0)), (1, .int (Int32.ofNat v))] dX7_work_50 (by decide) rfl ?_
      refine g_aload_n F dX7_work_52 3 rfl ?_
      refine f_get F inX7 ql_RM rfl 9 (by decide) tb_366 rfl (v := .ref (ad 10)) rfl dX7_work_53 ?_
      refine g_iload_n F dX7_work_56 1 rfl ?_
      refine f_ald F 0 ql_9 rfl (j := (24 * v) + k) (by omega) (by decide) dX7_work_57 ?_
      refine g_istore F [(5, .int (Int32.ofNat (x 9 ((24 * v) + k)))), (4, .int (Int32.ofNat (x 8 ((24 * v) + k)))), (3, .int (Int32.ofNat ((24 * v) + k))), (2, .int (Int32.ofNat k)), (0, .ref (ad 0)), (1, .int (Int32.ofNat v))] dX7_work_58 (by decide) rfl ?_
      refine g_aload_n F dX7_work_60 4 rfl ?_
      refine f_get F inX7 ql_RM rfl 6 (by decide) tb_363 rfl (v := .ref (ad 7)) rfl dX7_work_61 ?_
      refine g_iload_n F dX7_work_64 2 rfl ?_
      refine f_ald F 0 ql_6 rfl (j := (24 * v) + k) (by omega) (by decide) dX7_work_65 ?_
      refine f_iconst F 1 dX7_work_66 rfl ?_
      refine g_icmp_ne F dX7_work_67 (tgt := 93) rfl (fun h67 => ?_) (fun h67 => ?_)
      · refine g_aload_n F dX7_work_93 4 rfl ?_
        refine f_get F inX7 ql_RM rfl 6 (by decide) tb_363 rfl (v := .ref (ad 7)) rfl dX7_work_94 ?_
        refine g_iload_n F dX7_work_97 2 rfl ?_
        refine f_ald F 0 ql_6 rfl (j := (24 * v) + k) (by omega) (by decide) dX7_work_98 ?_
        refine f_iconst F 3 dX7_work_99 rfl ?_
        refine g_icmp_gt F dX7_work_100 (tgt := 141) rfl (fun h100 => ?_) (fun h100 => ?_)
        · refine g_aload_n F dX7_work_141 4 rfl ?_
          refine f_get F inX7 ql_RM rfl 32 (by decide) tb_389 rfl (v := .ref (ad 32)) rfl dX7_work_142 ?_
          refine g_iload_n F dX7_work_145 3 rfl ?_
          refine g_aload_n F dX7_work_146 4 rfl ?_
          refine g_aload_n F dX7_work_147 4 rfl ?_
          refine f_get F inX7 ql_RM rfl 6 (by decide) tb_363 rfl (v := .ref (ad 7)) rfl dX7_work_148 ?_
          refine g_iload_n F dX7_work_151 2 rfl ?_
          refine f_ald F 0 ql_6 rfl (j := (24 * v) + k) (by omega) (by decide) dX7_work_152 ?_
          refine f_iconst F 4 dX7_work_153 rfl ?_
          refine g_icmp_ne F dX7_work_154 (tgt := 161) rfl (fun h154 => ?_) (fun h154 => ?_)
          · refine f_iconst F 0 dX7_work_161 rfl ?_
            refine g_iload F dX7_work_162 0 rfl ?_
            refine f_callV F (As := [.int (Int32.ofNat 0), .int (Int32.ofNat (x 9 ((24 * v) + k)))]) (rest := [.int (Int32.ofNat k), .ref (ad 32)]) (st' := [.int (Int32.ofNat (r_X7_session x 0 (x 9 ((24 * v) + k)))), .int (Int32.ofNat k), .ref (ad 32)]) (k_X7_session l D cI cS cZ ad x 0 (x 9 ((24 * v) + k)) (by rw [e9]; exact (hev k (by omega)).2 (by rw [← e6]; exact h100)) (by omega) (by decide)) ql_RM rfl tb_519 tb_517 tb_518 tb_624 tb_8 ⟨rfl, hdX7_session⟩ ⟨rfl, rfl⟩ ⟨Nat.le_of_ble_eq_true rfl, Nat.le_of_ble_eq_true rfl⟩ rw_adr rfl rfl (Nat.le_of_ble_eq_true rfl) ⟨Nat.le_refl _, Nat.le_refl _⟩ dX7_work_164 rfl ?_
            refine f_ast F 0 ql_31 rfl (j := k) (v := r_X7_session x 0 (x 9 ((24 * v) + k))) (by omega) (by decide) dX7_work_167 qs_31 ?_
            refine f_iinc F (k + 1) [(2, .int (Int32.ofNat (k + 1))), (5, .int (Int32.ofNat (x 9 ((24 * v) + k)))), (4, .int (Int32.ofNat (x 8 ((24 * v) + k)))), (3, .int (Int32.ofNat ((24 * v) + k))), (0, .ref (ad 0)), (1, .int (Int32.ofNat v))] dX7_work_168 3 rfl (ofN_inc _) (by decide) rfl ?_
            refine g_goto F dX7_work_171 (tgt := 27) rfl ?_
            refine g_locals [(2, .int (Int32.ofNat (k + 1))), (0, .ref (ad 0)), (1, .int (Int32.ofNat v))] [0, 4, 5] rfl ?_
            exact ih (k + 1) (su2 (w_X7_session x 0 (x 9 ((24 * v) + k))) 31 k (r_X7_session x 0 (x 9 ((24 * v) + k)))) (by omega) (wk_session hx) (g_eq rfl rfl rfl (congrArg (fun t => rwld cI cZ t ad) (by simp only [lpw_X7_work_27, if_neg h67, if_pos h100, if_neg h154])) K)
          · refine f_iconst F 1 dX7_work_157 rfl ?_
            refine g_goto F dX7_work_158 (tgt := 162) rfl ?_
            refine g_iload F dX7_work_162 0 rfl ?_
            refine f_callV F (As := [.int (Int32.ofNat 1), .int (Int32.ofNat (x 9 ((24 * v) + k)))]) (rest := [.int (Int32.ofNat k), .ref (ad 32)]) (st' := [.int (Int32.ofNat (r_X7_session x 1 (x 9 ((24 * v) + k)))), .int (Int32.ofNat k), .ref (ad 32)]) (k_X7_session l D cI cS cZ ad x 1 (x 9 ((24 * v) + k)) (by rw [e9]; exact (hev k (by omega)).2 (by rw [← e6]; exact h100)) (by omega) (by decide)) ql_RM rfl tb_519 tb_517 tb_518 tb_624 tb_8 ⟨rfl, hdX7_session⟩ ⟨rfl, rfl⟩ ⟨Nat.le_of_ble_eq_true rfl, Nat.le_of_ble_eq_true rfl⟩ rw_adr rfl rfl (Nat.le_of_ble_eq_true rfl) ⟨Nat.le_refl _, Nat.le_refl _⟩ dX7_work_164 rfl ?_
            refine f_ast F 0 ql_31 rfl (j := k) (v := r_X7_session x 1 (x 9 ((24 * v) + k))) (by omega) (by decide) dX7_work_167 qs_31 ?_
            refine f_iinc F (k + 1) [(2, .int (Int32.ofNat (k + 1))), (5, .int (Int32.ofNat (x 9 ((24 * v) + k)))), (4, .int (Int32.ofNat (x 8 ((24 * v) + k)))), (3, .int (Int32.ofNat ((24 * v) + k))), (0, .ref (ad 0)), (1, .int (Int32.ofNat v))] dX7_work_168 3 rfl (ofN_inc _) (by decide) rfl ?_
            refine g_goto F dX7_work_171 (tgt := 27) rfl ?_
            refine g_locals [(2, .int (Int32.ofNat (k + 1))), (0, .ref (ad 0)), (1, .int (Int32.ofNat v))] [0, 4, 5] rfl ?_
            exact ih (k + 1) (su2 (w_X7_session x 1 (x 9 ((24 * v) + k))) 31 k (r_X7_session x 1 (x 9 ((24 * v) + k)))) (by omega) (wk_session hx) (g_eq rfl rfl rfl (congrArg (fun t => rwld cI cZ t ad) (by simp only [lpw_X7_work_27, if_neg h67, if_pos h100, if_pos h154])) K)
        · refine g_aload_n F dX7_work_103 4 rfl ?_
          refine f_get F inX7 ql_RM rfl 32 (by decide) tb_389 rfl (v := .ref (ad 32)) rfl dX7_work_104 ?_
          refine g_iload_n F dX7_work_107 3 rfl ?_
          refine g_aload_n F dX7_work_108 4 rfl ?_
          refine g_aload_n F dX7_work_109 4 rfl ?_
          refine f_get F inX7 ql_RM rfl 6 (by decide) tb_363 rfl (v := .ref (ad 7)) rfl dX7_work_110 ?_
          refine g_iload_n F dX7_work_113 2 rfl ?_
          refine f_ald F 0 ql_6 rfl (j := (24 * v) + k) (by omega) (by decide) dX7_work_114 ?_
          refine f_iconst F 2 dX7_work_115 rfl ?_
          refine g_icmp_ne F dX7_work_116 (tgt := 123) rfl (fun h116 => ?_) (fun h116 => ?_)
          · refine f_iconst F 0 dX7_work_123 rfl ?_
            refine g_aload_n F dX7_work_124 4 rfl ?_
            refine f_get F inX7 ql_RM rfl 7 (by decide) tb_364 rfl (v := .ref (ad 8)) rfl dX7_work_125 ?_
            refine g_iload_n F dX7_work_128 2 rfl ?_
            refine f_ald F 0 ql_7 rfl (j := (24 * v) + k) (by omega) (by decide) dX7_work_129 ?_
            refine g_iload F dX7_work_130 1 rfl ?_
            refine g_iload F dX7_work_132 0 rfl ?_
            refine f_callV F (As := [.int (Int32.ofNat 0), .int (Int32.ofNat (x 7 ((24 * v) + k))), .int (Int32.ofNat (x 8 ((24 * v) + k))), .int (Int32.ofNat (x 9 ((24 * v) + k)))]) (rest := [.int (Int32.ofNat k), .ref (ad 32)]) (st' := [.int (Int32.ofNat (r_X7_alter x 0 (x 7 ((24 * v) + k)) (x 8 ((24 * v) + k)) (x 9 ((24 * v) + k)))), .int (Int32.ofNat k), .ref (ad 32)]) (k_X7_alter l D cI cS cZ ad x 0 (x 7 ((24 * v) + k)) (x 8 ((24 * v) + k)) (x 9 ((24 * v) + k)) (by omega)) ql_RM rfl tb_513 tb_511 tb_512 tb_622 tb_8 ⟨rfl, hdX7_alter⟩ ⟨rfl, rfl⟩ ⟨Nat.le_of_ble_eq_true rfl, Nat.le_of_ble_eq_true rfl⟩ rw_adr rfl rfl (Nat.le_of_ble_eq_true rfl) ⟨Nat.le_refl _, Nat.le_refl _⟩ dX7_work_134 rfl ?_
            refine f_ast F 0 ql_31 rfl (j := k) (v := r_X7_alter x 0 (x 7 ((24 * v) + k)) (x 8 ((24 * v) + k)) (x 9 ((24 * v) + k))) (by omega) (by decide) dX7_work_137 qs_31 ?_
            refine g_goto F dX7_work_138 (tgt := 168) rfl ?_
            refine f_iinc F (k + 1) [(2, .int (Int32.ofNat (k + 1))), (5, .int (Int32.ofNat (x 9 ((24 * v) + k)))), (4, .int (Int32.ofNat (x 8 ((24 * v) + k)))), (3, .int (Int32.ofNat ((24 * v) + k))), (0, .ref (ad 0)), (1, .int (Int32.ofNat v))] dX7_work_168 3 rfl (ofN_inc _) (by decide) rfl ?_
            refine g_goto F dX7_work_171 (tgt := 27) rfl ?_
            refine g_locals [(2, .int (Int32.ofNat (k + 1))), (0, .ref (ad 0)), (1, .int (Int32.ofNat v))] [0, 4, 5] rfl ?_
            exact ih (k + 1) (su2 (w_X7_alter x 0 (x 7 ((24 * v) + k)) (x 8 ((24 * v) + k)) (x 9 ((24 * v) + k))) 31 k (r_X7_alter x 0 (x 7 ((24 * v) + k)) (x 8 ((24 * v) + k)) (x 9 ((24 * v) + k)))) (by omega) (wk_alter hx) (g_eq rfl rfl rfl (congrArg (fun t => rwld cI cZ t ad) (by simp only [lpw_X7_work_27, if_neg h67, if_neg h100, if_neg h116])) K)
          · refine f_iconst F 1 dX7_work_119 rfl ?_
            refine g_goto F dX7_work_120 (tgt := 124) rfl ?_
            refine g_aload_n F dX7_work_124 4 rfl ?_
            refine f_get F inX7 ql_RM rfl 7 (by decide) tb_364 rfl (v := .ref (ad 8)) rfl dX7_work_125 ?_
            refine g_iload_n F dX7_work_128 2 rfl ?_
            refine f_ald F 0 ql_7 rfl (j := (24 * v) + k) (by omega) (by decide) dX7_work_129 ?_
            refine g_iload F dX7_work_130 1 rfl ?_
            refine g_iload F dX7_work_132 0 rfl ?_
            refine f_callV F (As := [.int (Int32.ofNat 1), .int (Int32.ofNat (x 7 ((24 * v) + k))), .int (Int32.ofNat (x 8 ((24 * v) + k))), .int (Int32.ofNat (x 9 ((24 * v) + k)))]) (rest := [.int (Int32.ofNat k), .ref (ad 32)]) (st' := [.int (Int32.ofNat (r_X7_alter x 1 (x 7 ((24 * v) + k)) (x 8 ((24 * v) + k)) (x 9 ((24 * v) + k)))), .int (Int32.ofNat k), .ref (ad 32)]) (k_X7_alter l D cI cS cZ ad x 1 (x 7 ((24 * v) + k)) (x 8 ((24 * v) + k)) (x 9 ((24 * v) + k)) (by omega)) ql_RM rfl tb_513 tb_511 tb_512 tb_622 tb_8 ⟨rfl, hdX7_alter⟩ ⟨rfl, rfl⟩ ⟨Nat.le_of_ble_eq_true rfl, Nat.le_of_ble_eq_true rfl⟩ rw_adr rfl rfl (Nat.le_of_ble_eq_true rfl) ⟨Nat.le_refl _, Nat.le_refl _⟩ dX7_work_134 rfl ?_
            refine f_ast F 0 ql_31 rfl (j := k) (v := r_X7_alter x 1 (x 7 ((24 * v) + k)) (x 8 ((24 * v) + k)) (x 9 ((24 * v) + k))) (by omega) (by decide) dX7_work_137 qs_31 ?_
            refine g_goto F dX7_work_138 (tgt := 168) rfl ?_
            refine f_iinc F (k + 1) [(2, .int (Int32.ofNat (k + 1))), (5, .int (Int32.ofNat (x 9 ((24 * v) + k)))), (4, .int (Int32.ofNat (x 8 ((24 * v) + k)))), (3, .int (Int32.ofNat ((24 * v) + k))), (0, .ref (ad 0)), (1, .int (Int32.ofNat v))] dX7_work_168 3 rfl (ofN_inc _) (by decide) rfl ?_
            refine g_goto F dX7_work_171 (tgt := 27) rfl ?_
            refine g_locals [(2, .int (Int32.ofNat (k + 1))), (0, .ref (ad 0)), (1, .int (Int32.ofNat v))] [0, 4, 5] rfl ?_
            exact ih (k + 1) (su2 (w_X7_alter x 1 (x 7 ((24 * v) + k)) (x 8 ((24 * v) + k)) (x 9 ((24 * v) + k))) 31 k (r_X7_alter x 1 (x 7 ((24 * v) + k)) (x 8 ((24 * v) + k)) (x 9 ((24 * v) + k)))) (by omega) (wk_alter hx) (g_eq rfl rfl rfl (congrArg (fun t => rwld cI cZ t ad) (by simp only [lpw_X7_work_27, if_neg h67, if_neg h100, if_pos h116])) K)
      · refine g_aload_n F dX7_work_70 4 rfl ?_
        refine f_get F inX7 ql_RM rfl 32 (by decide) tb_389 rfl (v := .ref (ad 32)) rfl dX7_work_71 ?_
        refine g_iload_n F dX7_work_74 3 rfl ?_
        refine g_aload_n F dX7_work_75 4 rfl ?_
        refine g_aload_n F dX7_work_76 4 rfl ?_
        refine f_get F inX7 ql_RM rfl 7 (by decide) tb_364 rfl (v := .ref (ad 8)) rfl dX7_work_77 ?_
        refine g_iload_n F dX7_work_80 2 rfl ?_
        refine f_ald F 0 ql_7 rfl (j := (24 * v) + k) (by omega) (by decide) dX7_work_81 ?_
        refine g_iload F dX7_work_82 1 rfl ?_
        refine g_iload F dX7_work_84 0 rfl ?_
        refine f_callV F (As := [.int (Int32.ofNat (x 7 ((24 * v) + k))), .int (Int32.ofNat (x 8 ((24 * v) + k))), .int (Int32.ofNat (x 9 ((24 * v) + k)))]) (rest := [.int (Int32.ofNat k), .ref (ad 32)]) (st' := [.int (Int32.ofNat (r_X7_create x (x 7 ((24 * v) + k)) (x 8 ((24 * v) + k)) (x 9 ((24 * v) + k)))), .int (Int32.ofNat k), .ref (ad 32)]) (k_X7_create l D cI cS cZ ad x (x 7 ((24 * v) + k)) (x 8 ((24 * v) + k)) (x 9 ((24 * v) + k)) (by rw [e9]; exact (hev k (by omega)).1 (by rw [← e6]; exact h67)) (by omega)) ql_RM rfl tb_507 tb_505 tb_506 tb_620 tb_8 ⟨rfl, hdX7_create⟩ ⟨rfl, rfl⟩ ⟨Nat.le_of_ble_eq_true rfl, Nat.le_of_ble_eq_true rfl⟩ rw_adr rfl rfl (Nat.le_of_ble_eq_true rfl) ⟨Nat.le_refl _, Nat.le_refl _⟩ dX7_work_86 rfl ?_
        refine f_ast F 0 ql_31 rfl (j := k) (v := r_X7_create x (x 7 ((24 * v) + k)) (x 8 ((24 * v) + k)) (x 9 ((24 * v) + k))) (by omega) (by decide) dX7_work_89 qs_31 ?_
        refine g_goto F dX7_work_90 (tgt := 168) rfl ?_
        refine f_iinc F (k + 1) [(2, .int (Int32.ofNat (k + 1))), (5, .int (Int32.ofNat (x 9 ((24 * v) + k)))), (4, .int (Int32.ofNat (x 8 ((24 * v) + k)))), (3, .int (Int32.ofNat ((24 * v) + k))), (0, .ref (ad 0)), (1, .int (Int32.ofNat v))] dX7_work_168 3 rfl (ofN_inc _) (by decide) rfl ?_
        refine g_goto F dX7_work_171 (tgt := 27) rfl ?_
        refine g_locals [(2, .int (Int32.ofNat (k + 1))), (0, .ref (ad 0)), (1, .int (Int32.ofNat v))] [0, 4, 5] rfl ?_
        exact ih (k + 1) (su2 (w_X7_create x (x 7 ((24 * v) + k)) (x 8 ((24 * v) + k)) (x 9 ((24 * v) + k))) 31 k (r_X7_create x (x 7 ((24 * v) + k)) (x 8 ((24 * v) + k)) (x 9 ((24 * v) + k)))) (by omega) (wk_create hx) (g_eq rfl rfl rfl (congrArg (fun t => rwld cI cZ t ad) (by simp only [lpw_X7_work_27, if_pos h67])) K)
  refine loop27 _ (a 3 v) 0 (lpw_X7_work_7 a v 5 0 (su2 a 32 0 0)) (Nat.zero_add _) ⟨fun q hq => by rw [fr_work7 (by omega), su2_ne (by omega)], by rw [fr_work7 (by decide), su2_same]; exact Nat.le_refl _⟩ ?_
  exact g_vret F hr hlk dX7_work_174 ⟨rfl, congrArg (fun t => rwld cI cZ t ad) rfl⟩
