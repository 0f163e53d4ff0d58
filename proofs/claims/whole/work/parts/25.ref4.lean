def RQ (a : RS) : Prop := ∀ s, s < 3 → a 3 s ≤ a 4 s ∧ a 4 s ≤ 24 ∧ a 14 s < 3 ∧ a 20 s ≤ 60 ∧ a 21 s ≤ 60 ∧ a 24 s ≤ 51 ∧ a 25 s ≤ 51
theorem cut20 {a : RS} {v : Nat} : w_X7_cut a v 20 v = 0 := by unfold w_X7_cut; simp [su2]
theorem wk_lp27 {a b : RS} {v : Nat} : ∀ (d k : Nat) (x : RS), WK a x k → WK a (lpw_X7_work_27 b v d k x) (k + d) := by
  intro d
  induction d with
  | zero => intro k x h; exact h
  | succ d ih =>
    intro k x h
    have e : k + (d + 1) = k + 1 + d := by omega
    rw [e]
    simp only [lpw_X7_work_27]
    repeat' split
    all_goals first | exact ih _ _ (wk_create h) | exact ih _ _ (wk_alter h) | exact ih _ _ (wk_session h)
theorem wk_work {a : RS} {v : Nat} : WK a (w_X7_work a v) (a 3 v) := by
  have h := wk_lp27 (a := a) (b := a) (v := v) (a 3 v) 0 (lpw_X7_work_7 a v 5 0 (su2 a 32 0 0)) ⟨fun q hq => by rw [fr_work7 (by omega), su2_ne (by omega)], by rw [fr_work7 (by decide), su2_same]; exact Nat.le_refl _⟩
  rw [Nat.zero_add] at h
  exact h
theorem fr_work {a : RS} {v q : Nat} (hq : q < 26) : w_X7_work a v q = a q := wk_work.1 q hq
theorem sz_work {a : RS} {v : Nat} (h : a 3 v ≤ 24) : w_X7_work a v 32 0 ≤ 24 := Nat.le_trans wk_work.2 h
def r_X7_role (a : RS) (v : Nat) : Nat := if Int32.ofNat (r_X7_out a v) = 0 then (a 0 v) else 4294967295
abbrev rm_X7_role : Room := { frames := 1, cells := 0, slots := 0, locals := 20 }
set_option maxHeartbeats 4000000 in
set_option maxRecDepth 100000 in
theorem k_X7_role (l : Launch) (D : va_G) (cI cS cZ : ClassId) (ad : Nat → Nat) (a : RS) (v : Nat) (hk : v < 4294967296) : gN l yX7_role (Cond.code yX7_role cX7_role 2 (some .int) :: tb) rm_X7_role D cls8 (tys3 cI cS cZ) [.ref (ad 0), .int (Int32.ofNat v)] (rwld cI cZ a ad) (some (.int (Int32.ofNat (r_X7_role a v)))) (rwld cI cZ a ad) := by
  unfold gN
  refine g_head (by decide) rfl (Nat.le_of_ble_eq_true rfl) ?_
  intro p e s m args below meth cd A F hr hlk hnm
  refine g_eq rfl (L' := [(0, .ref (ad 0)), (1, .int (Int32.ofNat v))]) rfl rfl rfl ?_
  refine g_iload_n F dX7_role_0 1 rfl ?_
  refine f_callS F (av := [.int (Int32.ofNat v)]) (rest := []) (st' := [.int (Int32.ofNat (r_X7_out a v))]) (k_X7_out l D cI cS cZ ad a v) tb_430 tb_428 tb_429 tb_8 hdX7_out ⟨rfl, rfl⟩ ⟨Nat.le_of_ble_eq_true rfl, Nat.le_of_ble_eq_true rfl⟩ rw_adr rfl rfl (Nat.le_of_ble_eq_true rfl) ⟨Nat.le_refl _, Nat.le_refl _⟩ dX7_role_1 rfl ?_
  refine g_if_eq F dX7_role_4 (tgt := 11) rfl (fun h4 => ?_) (fun h4 => ?_)
  · refine g_aload_n F dX7_role_11 0 rfl ?_
    refine f_get F inX7 ql_RM rfl 0 (by decide) tb_357 rfl (v := .ref (ad 1)) rfl dX7_role_12 ?_
    refine g_iload_n F dX7_role_15 1 rfl ?_
    refine f_ald F 0 ql_0 rfl (j := v) (by have g0 := out0 h4 hk; omega) (by decide) dX7_role_16 ?_
    exact g_iret F hr hlk dX7_role_17 ⟨congrArg (fun t => some (Value.int (Int32.ofNat t))) (Eq.symm (by unfold r_X7_role; first | simp only [if_pos h4] | rfl)), rfl⟩
  · refine f_iconst F 4294967295 dX7_role_7 rfl ?_
    refine g_goto F dX7_role_8 (tgt := 17) rfl ?_
    exact g_iret F hr hlk dX7_role_17 ⟨congrArg (fun t => some (Value.int (Int32.ofNat t))) (Eq.symm (by unfold r_X7_role; first | simp only [if_neg h4] | rfl)), rfl⟩
def r_X7_promise (a : RS) (v : Nat) : Nat := if Int32.ofNat (r_X7_out a v) = 0 then (a 1 v) else 4294967295
abbrev rm_X7_promise : Room := { frames := 1, cells := 0, slots := 0, locals := 20 }
set_option maxHeartbeats 4000000 in
set_option maxRecDepth 100000 in
theorem k_X7_promise (l : Launch) (D : va_G) (cI cS cZ : ClassId) (ad : Nat → Nat) (a : RS) (v : Nat) (hk : v < 4294967296) : gN l yX7_promise (Cond.code yX7_promise cX7_promise 2 (some .int) :: tb) rm_X7_promise D cls8 (tys3 cI cS cZ) [.ref (ad 0), .int (Int32.ofNat v)] (rwld cI cZ a ad) (some (.int (Int32.ofNat (r_X7_promise a v)))) (rwld cI cZ a ad) := by
  unfold gN
  refine g_head (by decide) rfl (Nat.le_of_ble_eq_true rfl) ?_
  intro p e s m args below meth cd A F hr hlk hnm
  refine g_eq rfl (L' := [(0, .ref (ad 0)), (1, .int (Int32.ofNat v))]) rfl rfl rfl ?_
  refine g_iload_n F dX7_promise_0 1 rfl ?_
  refine f_callS F (av := [.int (Int32.ofNat v)]) (rest := []) (st' := [.int (Int32.ofNat (r_X7_out a v))]) (k_X7_out l D cI cS cZ ad a v) tb_430 tb_428 tb_429 tb_8 hdX7_out ⟨rfl, rfl⟩ ⟨Nat.le_of_ble_eq_true rfl, Nat.le_of_ble_eq_true rfl⟩ rw_adr rfl rfl (Nat.le_of_ble_eq_true rfl) ⟨Nat.le_refl _, Nat.le_refl _⟩ dX7_promise_1 rfl ?_
  refine g_if_eq F dX7_promise_4 (tgt := 11) rfl (fun h4 => ?_) (fun h4 => ?_)
  · refine g_aload_n F dX7_promise_11 0 rfl ?_
    refine f_get F inX7 ql_RM rfl 1 (by decide) tb_358 rfl (v := .ref (ad 2)) rfl dX7_promise_12 ?_
    refine g_iload_n F dX7_promise_15 1 rfl ?_
    refine f_ald F 0 ql_1 rfl (j := v) (by have g0 := out0 h4 hk; omega) (by decide) dX7_promise_16 ?_
    exact g_iret F hr hlk dX7_promise_17 ⟨congrArg (fun t => some (Value.int (Int32.ofNat t))) (Eq.symm (by unfold r_X7_promise; first | simp only [if_pos h4] | rfl)), rfl⟩
  · refine f_iconst F 4294967295 dX7_promise_7 rfl ?_
    refine g_goto F dX7_promise_8 (tgt := 17) rfl ?_
    exact g_iret F hr hlk dX7_promise_17 ⟨congrArg (fun t => some (Value.int (Int32.ofNat t))) (Eq.symm (by unfold r_X7_promise; first | simp only [if_neg h4] | rfl)), rfl⟩
def r_X7_epoch (a : RS) (v : Nat) : Nat := if Int32.ofNat (r_X7_out a v) = 0 then (a 2 v) else 4294967295
abbrev rm_X7_epoch : Room := { frames := 1, cells := 0, slots := 0, locals := 20 }
set_option maxHeartbeats 4000000 in
set_option maxRecDepth 100000 in
theorem k_X7_epoch (l : Launch) (D : va_G) (cI cS cZ : ClassId) (ad : Nat → Nat) (a : RS) (v : Nat) (hk : v < 4294967296) : gN l yX7_epoch (Cond.code yX7_epoch cX7_epoch 2 (some .int) :: tb) rm_X7_epoch D cls8 (tys3 cI cS cZ) [.ref (ad 0), .int (Int32.ofNat v)] (rwld cI cZ a ad) (some (.int (Int32.ofNat (r_X7_epoch a v)))) (rwld cI cZ a ad) := by
  unfold gN
  refine g_head (by decide) rfl (Nat.le_of_ble_eq_true rfl) ?_
  intro p e s m args below meth cd A F hr hlk hnm
  refine g_eq rfl (L' := [(0, .ref (ad 0)), (1, .int (Int32.ofNat v))]) rfl rfl rfl ?_
  refine g_iload_n F dX7_epoch_0 1 rfl ?_
  refine f_callS F (av := [.int (Int32.ofNat v)]) (rest := []) (st' := [.int (Int32.ofNat (r_X7_out a v))]) (k_X7_out l D cI cS cZ ad a v) tb_430 tb_428 tb_429 tb_8 hdX7_out ⟨rfl, rfl⟩ ⟨Nat.le_of_ble_eq_true rfl, Nat.le_of_ble_eq_true rfl⟩ rw_adr rfl rfl (Nat.le_of_ble_eq_true rfl) ⟨Nat.le_refl _, Nat.le_refl _⟩ dX7_epoch_1 rfl ?_
  refine g_if_eq F dX7_epoch_4 (tgt := 11) rfl (fun h4 => ?_) (fun h4 => ?_)
  · refine g_aload_n F dX7_epoch_11 0 rfl ?_
    refine f_get F inX7 ql_RM rfl 2 (by decide) tb_359 rfl (v := .ref (ad 3)) rfl dX7_epoch_12 ?_
    refine g_iload_n F dX7_epoch_15 1 rfl ?_
    refine f_ald F 0 ql_2 rfl (j := v) (by have g0 := out0 h4 hk; omega) (by decide) dX7_epoch_16 ?_
    exact g_iret F hr hlk dX7_epoch_17 ⟨congrArg (fun t => some (Value.int (Int32.ofNat t))) (Eq.symm (by unfold r_X7_epoch; first | simp only [if_pos h4] | rfl)), rfl⟩
  · refine f_iconst F 4294967295 dX7_epoch_7 rfl ?_
    refine g_goto F dX7_epoch_8 (tgt := 17) rfl ?_
    exact g_iret F hr hlk dX7_epoch_17 ⟨congrArg (fun t => some (Value.int (Int32.ofNat t))) (Eq.symm (by unfold r_X7_epoch; first | simp only [if_neg h4] | rfl)), rfl⟩
def r_X7_length (a : RS) (v : Nat) : Nat := if Int32.ofNat (r_X7_out a v) = 0 then (a 4 v) else 4294967295
abbrev rm_X7_length : Room := { frames := 1, cells := 0, slots := 0, locals := 20 }
set_option maxHeartbeats 4000000 in
set_option maxRecDepth 100000 in
theorem k_X7_length (l : Launch) (D : va_G) (cI cS cZ : ClassId) (ad : Nat → Nat) (a : RS) (v : Nat) (hk : v < 4294967296) : gN l yX7_length (Cond.code yX7_length cX7_length 2 (some .int) :: tb) rm_X7_length D cls8 (tys3 cI cS cZ) [.ref (ad 0), .int (Int32.ofNat v)] (rwld cI cZ a ad) (some (.int (Int32.ofNat (r_X7_length a v)))) (rwld cI cZ a ad) := by
  unfold gN
  refine g_head (by decide) rfl (Nat.le_of_ble_eq_true rfl) ?_
  intro p e s m args below meth cd A F hr hlk hnm
  refine g_eq rfl (L' := [(0, .ref (ad 0)), (1, .int (Int32.ofNat v))]) rfl rfl rfl ?_
  refine g_iload_n F dX7_length_0 1 rfl ?_
  refine f_callS F (av := [.int (Int32.ofNat v)]) (rest := []) (st' := [.int (Int32.ofNat (r_X7_out a v))]) (k_X7_out l D cI cS cZ ad a v) tb_430 tb_428 tb_429 tb_8 hdX7_out ⟨rfl, rfl⟩ ⟨Nat.le_of_ble_eq_true rfl, Nat.le_of_ble_eq_true rfl⟩ rw_adr rfl rfl (Nat.le_of_ble_eq_true rfl) ⟨Nat.le_refl _, Nat.le_refl _⟩ dX7_length_1 rfl ?_
  refine g_if_eq F dX7_length_4 (tgt := 11) rfl (fun h4 => ?_) (fun h4 => ?_)
  · refine g_aload_n F dX7_length_11 0 rfl ?_
    refine f_get F inX7 ql_RM rfl 4 (by decide) tb_361 rfl (v := .ref (ad 5)) rfl dX7_length_12 ?_
    refine g_iload_n F dX7_length_15 1 rfl ?_
    refine f_ald F 0 ql_4 rfl (j := v) (by have g0 := out0 h4 hk; omega) (by decide) dX7_length_16 ?_
    exact g_iret F hr hlk dX7_length_17 ⟨congrArg (fun t => some (Value.int (Int32.ofNat t))) (Eq.symm (by unfold r_X7_length; first | simp only [if_pos h4] | rfl)), rfl⟩
  · refine f_iconst F 4294967295 dX7_length_7 rfl ?_
    refine g_goto F dX7_length_8 (tgt := 17) rfl ?_
    exact g_iret F hr hlk dX7_length_17 ⟨congrArg (fun t => some (Value.int (Int32.ofNat t))) (Eq.symm (by unfold r_X7_length; first | simp only [if_neg h4] | rfl)), rfl⟩
def r_X7_applied (a : RS) (v : Nat) : Nat := if Int32.ofNat (r_X7_out a v) = 0 then (a 3 v) else 4294967295
abbrev rm_X7_applied : Room := { frames := 1, cells := 0, slots := 0, locals := 20 }
set_option maxHeartbeats 4000000 in
set_option maxRecDepth 100000 in
theorem k_X7_applied (l : Launch) (D : va_G) (cI cS cZ : ClassId) (ad : Nat → Nat) (a : RS) (v : Nat) (hk : v < 4294967296) : gN l yX7_applied (Cond.code yX7_applied cX7_applied 2 (some .int) :: tb) rm_X7_applied D cls8 (tys3 cI cS cZ) [.ref (ad 0), .int (Int32.ofNat v)] (rwld cI cZ a ad) (some (.int (Int32.ofNat (r_X7_applied a v)))) (rwld cI cZ a ad) := by
  unfold gN
  refine g_head (by decide) rfl (Nat.le_of_ble_eq_true rfl) ?_
  intro p e s m args below meth cd A F hr hlk hnm
  refine g_eq rfl (L' := [(0, .ref (ad 0)), (1, .int (Int32.ofNat v))]) rfl rfl rfl ?_
  refine g_iload_n F dX7_applied_0 1 rfl ?_
  refine f_callS F (av := [.int (Int32.ofNat v)]) (rest := []) (st' := [.int (Int32.ofNat (r_X7_out a v))]) (k_X7_out l D cI cS cZ ad a v) tb_430 tb_428 tb_429 tb_8 hdX7_out ⟨rfl, rfl⟩ ⟨Nat.le_of_ble_eq_true rfl, Nat.le_of_ble_eq_true rfl⟩ rw_adr rfl rfl (Nat.le_of_ble_eq_true rfl) ⟨Nat.le_refl _, Nat.le_refl _⟩ dX7_applied_1 rfl ?_
  refine g_if_eq F dX7_applied_4 (tgt := 11) rfl (fun h4 => ?_) (fun h4 => ?_)
  · refine g_aload_n F dX7_applied_11 0 rfl ?_
    refine f_get F inX7 ql_RM rfl 3 (by decide) tb_360 rfl (v := .ref (ad 4)) rfl dX7_applied_12 ?_
    refine g_iload_n F dX7_applied_15 1 rfl ?_
    refine f_ald F 0 ql_3 rfl (j := v) (by have g0 := out0 h4 hk; omega) (by decide) dX7_applied_16 ?_
    exact g_iret F hr hlk dX7_applied_17 ⟨congrArg (fun t => some (Value.int (Int32.ofNat t))) (Eq.symm (by unfold r_X7_applied; first | simp only [if_pos h4] | rfl)), rfl⟩
  · refine f_iconst F 4294967295 dX7_applied_7 rfl ?_
    refine g_goto F dX7_applied_8 (tgt := 17) rfl ?_
    exact g_iret F hr hlk dX7_applied_17 ⟨congrArg (fun t => some (Value.int (Int32.ofNat t))) (Eq.symm (by unfold r_X7_applied; first | simp only [if_neg h4] | rfl)), rfl⟩
def r_X7_lead (a : RS) (v : Nat) : Nat := if Int32.ofNat (r_X7_out a v) = 0 then (if Int32.ofNat (a 0 v) = Int32.ofNat 1 then 1 else 0) else 0
def w_X7_lead (a : RS) (v : Nat) : RS := if Int32.ofNat (r_X7_out a v) = 0 then (if Int32.ofNat (a 0 v) = Int32.ofNat 1 then (su2 (su2 (su2 (su2 a 0 v 3) 10 v 0) 11 v 0) 12 v 0) else a) else a
abbrev rm_X7_lead : Room := { frames := 1, cells := 0, slots := 0, locals := 20 }
set_option maxHeartbeats 4000000 in
set_option maxRecDepth 100000 in
theorem k_X7_lead (l : Launch) (D : va_G) (cI cS cZ : ClassId) (ad : Nat → Nat) (a : RS) (v : Nat) (hk : v < 4294967296) : gN l yX7_lead (Cond.code yX7_lead cX7_lead 2 (some .boolean) :: tb) rm_X7_lead D cls8 (tys3 cI cS cZ) [.ref (ad 0), .int (Int32.ofNat v)] (rwld cI cZ a ad) (some (.int (Int32.ofNat (r_X7_lead a v)))) (rwld cI cZ (w_X7_lead a v) ad) := by
  unfold gN
  refine g_head (by decide) rfl (Nat.le_of_ble_eq_true rfl) ?_
  intro p e s m args below meth cd A F hr hlk hnm
  refine g_eq rfl (L' := [(0, .ref (ad 0)), (1, .int (Int32.ofNat v))]) rfl rfl rfl ?_
  refine g_iload_n F dX7_lead_0 1 rfl ?_
  refine f_callS F (av := [.int (Int32.ofNat v)]) (rest := []) (st' := [.int (Int32.ofNat (r_X7_out a v))]) (k_X7_out l D cI cS cZ ad a v) tb_430 tb_428 tb_429 tb_8 hdX7_out ⟨rfl, rfl⟩ ⟨Nat.le_of_ble_eq_true rfl, Nat.le_of_ble_eq_true rfl⟩ rw_adr rfl rfl (Nat.le_of_ble_eq_true rfl) ⟨Nat.le_refl _, Nat.le_refl _⟩ dX7_lead_1 rfl ?_
  refine g_if_eq F dX7_lead_4 (tgt := 9) rfl (fun h4 => ?_) (fun h4 => ?_)
  · refine g_aload_n F dX7_lead_9 0 rfl ?_
    refine f_get F inX7 ql_RM rfl 0 (by decide) tb_357 rfl (v := .ref (ad 1)) rfl dX7_lead_10 ?_
    refine g_iload_n F dX7_lead_13 1 rfl ?_
    refine f_ald F 0 ql_0 rfl (j := v) (by have g0 := out0 h4 hk; omega) (by decide) dX7_lead_14 ?_
    refine f_iconst F 1 dX7_lead_15 rfl ?_
    refine g_icmp_eq F dX7_lead_16 (tgt := 21) rfl (fun h16 => ?_) (fun h16 => ?_)
    · refine g_aload_n F dX7_lead_21 0 rfl ?_
      refine f_get F inX7 ql_RM rfl 0 (by decide) tb_357 rfl (v := .ref (ad 1)) rfl dX7_lead_22 ?_
      refine g_iload_n F dX7_lead_25 1 rfl ?_
      refine f_iconst F 3 dX7_lead_26 rfl ?_
      refine f_ast F 0 ql_0 rfl (j := v) (v := 3) (by have g0 := out0 h4 hk; omega) (by decide) dX7_lead_27 qs_0 ?_
      refine g_aload_n F dX7_lead_28 0 rfl ?_
      refine f_get F inX7 ql_RM rfl 10 (by decide) tb_367 rfl (v := .ref (ad 11)) rfl dX7_lead_29 ?_
      refine g_iload_n F dX7_lead_32 1 rfl ?_
      refine f_iconst F 0 dX7_lead_33 rfl ?_
      refine f_ast F 0 ql_10 rfl (j := v) (v := 0) (by have g0 := out0 h4 hk; omega) (by decide) dX7_lead_34 qs_10 ?_
      refine g_aload_n F dX7_lead_35 0 rfl ?_
      refine f_get F inX7 ql_RM rfl 11 (by decide) tb_368 rfl (v := .ref (ad 12)) rfl dX7_lead_36 ?_
      refine g_iload_n F dX7_lead_39 1 rfl ?_
      refine f_iconst F 0 dX7_lead_40 rfl ?_
      refine f_zast F 2 ql_11 rfl (j := v) (v := 0) (by have g0 := out0 h4 hk; omega) (by decide) rfl dX7_lead_41 qs_11 ?_
      refine g_aload_n F dX7_lead_42 0 rfl ?_
      refine f_get F inX7 ql_RM rfl 12 (by decide) tb_369 rfl (v := .ref (ad 13)) rfl dX7_lead_43 ?_
      refine g_iload_n F dX7_lead_46 1 rfl ?_
      refine f_iconst F 0 dX7_lead_47 rfl ?_
      refine f_ast F 0 ql_12 rfl (j := v) (v := 0) (by have g0 := out0 h4 hk; omega) (by decide) dX7_lead_48 qs_12 ?_
      refine f_iconst F 1 dX7_lead_49 rfl ?_
      exact g_zret F hr hlk rfl dX7_lead_50 ⟨congrArg (fun t => some (Value.int (Int32.ofNat t))) (Eq.symm (by unfold r_X7_lead; first | simp only [if_pos h4, if_pos h16] | rfl)), congrArg (fun t => rwld cI cZ t ad) (Eq.symm (by unfold w_X7_lead; first | simp only [if_pos h4, if_pos h16] | rfl))⟩
    · refine f_iconst F 0 dX7_lead_19 rfl ?_
      exact g_zret F hr hlk rfl dX7_lead_20 ⟨congrArg (fun t => some (Value.int (Int32.ofNat t))) (Eq.symm (by unfold r_X7_lead; first | simp only [if_pos h4, if_neg h16] | rfl)), congrArg (fun t => rwld cI cZ t ad) (Eq.symm (by unfold w_X7_lead; first | simp only [if_pos h4, if_neg h16] | rfl))⟩
  · refine f_iconst F 0 dX7_lead_7 rfl ?_
    exact g_zret F hr hlk rfl dX7_lead_8 ⟨congrArg (fun t => some (Value.int (Int32.ofNat t))) (Eq.symm (by unfold r_X7_lead; first | simp only [if_neg h4] | rfl)), congrArg (fun t => rwld cI cZ t ad) (Eq.symm (by unfold w_X7_lead; first | simp only [if_neg h4] | rfl))⟩
def r_X7_restart (a : RS) (v : Nat) : Nat := if Int32.ofNat (r_X7_out a v) = 0 then (if Int32.ofNat (a 0 v) = 0 then 1 else 0) else 0
def w_X7_restart (a : RS) (v : Nat) : RS := if Int32.ofNat (r_X7_out a v) = 0 then (if Int32.ofNat (a 0 v) = 0 then (su2 a 0 v 1) else a) else a
abbrev rm_X7_restart : Room := { frames := 1, cells := 0, slots := 0, locals := 20 }
set_option maxHeartbeats 4000000 in
set_option maxRecDepth 100000 in
theorem k_X7_restart (l : Launch) (D : va_G) (cI cS cZ : ClassId) (ad : Nat → Nat) (a : RS) (v : Nat) (hk : v < 4294967296) : gN l yX7_restart (Cond.code yX7_restart cX7_restart 2 (some .boolean) :: tb) rm_X7_restart D cls8 (tys3 cI cS cZ) [.ref (ad 0), .int (Int32.ofNat v)] (rwld cI cZ a ad) (some (.int (Int32.ofNat (r_X7_restart a v)))) (rwld cI cZ (w_X7_restart a v) ad) := by
  unfold gN
  refine g_head (by decide) rfl (Nat.le_of_ble_eq_true rfl) ?_
  intro p e s m args below meth cd A F hr hlk hnm
  refine g_eq rfl (L' := [(0, .ref (ad 0)), (1, .int (Int32.ofNat v))]) rfl rfl rfl ?_
  refine g_iload_n F dX7_restart_0 1 rfl ?_
  refine f_callS F (av := [.int (Int32.ofNat v)]) (rest := []) (st' := [.int (Int32.ofNat (r_X7_out a v))]) (k_X7_out l D cI cS cZ ad a v) tb_430 tb_428 tb_429 tb_8 hdX7_out ⟨rfl, rfl⟩ ⟨Nat.le_of_ble_eq_true rfl, Nat.le_of_ble_eq_true rfl⟩ rw_adr rfl rfl (Nat.le_of_ble_eq_true rfl) ⟨Nat.le_refl _, Nat.le_refl _⟩ dX7_restart_1 rfl ?_
  refine g_if_eq F dX7_restart_4 (tgt := 9) rfl (fun h4 => ?_) (fun h4 => ?_)
  · refine g_aload_n F dX7_restart_9 0 rfl ?_
    refine f_get F inX7 ql_RM rfl 0 (by decide) tb_357 rfl (v := .ref (ad 1)) rfl dX7_restart_10 ?_
    refine g_iload_n F dX7_restart_13 1 rfl ?_
    refine f_ald F 0 ql_0 rfl (j := v) (by have g0 := out0 h4 hk; omega) (by decide) dX7_restart_14 ?_
    refine g_if_eq F dX7_restart_15 (tgt := 20) rfl (fun h15 => ?_) (fun h15 => ?_)
    · refine g_aload_n F dX7_restart_20 0 rfl ?_
      refine f_get F inX7 ql_RM rfl 0 (by decide) tb_357 rfl (v := .ref (ad 1)) rfl dX7_restart_21 ?_
      refine g_iload_n F dX7_restart_24 1 rfl ?_
      refine f_iconst F 1 dX7_restart_25 rfl ?_
      refine f_ast F 0 ql_0 rfl (j := v) (v := 1) (by have g0 := out0 h4 hk; omega) (by decide) dX7_restart_26 qs_0 ?_
      refine f_iconst F 1 dX7_restart_27 rfl ?_
      exact g_zret F hr hlk rfl dX7_restart_28 ⟨congrArg (fun t => some (Value.int (Int32.ofNat t))) (Eq.symm (by unfold r_X7_restart; first | simp only [if_pos h4, if_pos h15] | rfl)), congrArg (fun t => rwld cI cZ t ad) (Eq.symm (by unfold w_X7_restart; first | simp only [if_pos h4, if_pos h15] | rfl))⟩
    · refine f_iconst F 0 dX7_restart_18 rfl ?_
      exact g_zret F hr hlk rfl dX7_restart_19 ⟨congrArg (fun t => some (Value.int (Int32.ofNat t))) (Eq.symm (by unfold r_X7_restart; first | simp only [if_pos h4, if_neg h15] | rfl)), congrArg (fun t => rwld cI cZ t ad) (Eq.symm (by unfold w_X7_restart; first | simp only [if_pos h4, if_neg h15] | rfl))⟩
  · refine f_iconst F 0 dX7_restart_7 rfl ?_
    exact g_zret F hr hlk rfl dX7_restart_8 ⟨congrArg (fun t => some (Value.int (Int32.ofNat t))) (Eq.symm (by unfold r_X7_restart; first | simp only [if_neg h4] | rfl)), congrArg (fun t => rwld cI cZ t ad) (Eq.symm (by unfold w_X7_restart; first | simp only [if_neg h4] | rfl))⟩
def r_X7_quit (a : RS) (v : Nat) : Nat := if Int32.ofNat (r_X7_out a v) = 0 then (if Int32.ofNat 2 ≤ Int32.ofNat (a 0 v) then 1 else 0) else 0
def w_X7_quit (a : RS) (v : Nat) : RS := if Int32.ofNat (r_X7_out a v) = 0 then (if Int32.ofNat 2 ≤ Int32.ofNat (a 0 v) then (w_X7_cease a v) else a) else a
abbrev rm_X7_quit : Room := { frames := 2, cells := 0, slots := 0, locals := 44 }
set_option maxHeartbeats 4000000 in
set_option maxRecDepth 100000 in
theorem k_X7_quit (l : Launch) (D : va_G) (cI cS cZ : ClassId) (ad : Nat → Nat) (a : RS) (v : Nat) (hk : v < 4294967296) : gN l yX7_quit (Cond.code yX7_quit cX7_quit 2 (some .boolean) :: tb) rm_X7_quit D cls8 (tys3 cI cS cZ) [.ref (ad 0), .int (Int32.ofNat v)] (rwld cI cZ a ad) (some (.int (Int32.ofNat (r_X7_quit a v)))) (rwld cI cZ (w_X7_quit a v) ad) := by
  unfold gN
  refine g_head (by decide) rfl (Nat.le_of_ble_eq_true rfl) ?_
  intro p e s m args below meth cd A F hr hlk hnm
  refine g_eq rfl (L' := [(0, .ref (ad 0)), (1, .int (Int32.ofNat v))]) rfl rfl rfl ?_
  refine g_iload_n F dX7_quit_0 1 rfl ?_
  refine f_callS F (av := [.int (Int32.ofNat v)]) (rest := []) (st' := [.int (Int32.ofNat (r_X7_out a v))]) (k_X7_out l D cI cS cZ ad a v) tb_430 tb_428 tb_429 tb_8 hdX7_out ⟨rfl, rfl⟩ ⟨Nat.le_of_ble_eq_true rfl, Nat.le_of_ble_eq_true rfl⟩ rw_adr rfl rfl (Nat.le_of_ble_eq_true rfl) ⟨Nat.le_refl _, Nat.le_refl _⟩ dX7_quit_1 rfl ?_
  refine g_if_eq F dX7_quit_4 (tgt := 9) rfl (fun h4 => ?_) (fun h4 => ?_)
  · refine g_aload_n F dX7_quit_9 0 rfl ?_
    refine f_get F inX7 ql_RM rfl 0 (by decide) tb_357 rfl (v := .ref (ad 1)) rfl dX7_quit_10 ?_
    refine g_iload_n F dX7_quit_13 1 rfl ?_
    refine f_ald F 0 ql_0 rfl (j := v) (by have g0 := out0 h4 hk; omega) (by decide) dX7_quit_14 ?_
    refine f_iconst F 2 dX7_quit_15 rfl ?_
    refine g_icmp_ge F dX7_quit_16 (tgt := 21) rfl (fun h16 => ?_) (fun h16 => ?_)
    · refine g_aload_n F dX7_quit_21 0 rfl ?_
      refine g_iload_n F dX7_quit_22 1 rfl ?_
      refine f_callV F (As := [.int (Int32.ofNat v)]) (rest := []) (st' := []) (k_X7_cease l D cI cS cZ ad a v (out0 h4 hk)) ql_RM rfl tb_447 tb_445 tb_446 tb_609 tb_8 ⟨rfl, hdX7_cease⟩ ⟨rfl, rfl⟩ ⟨Nat.le_of_ble_eq_true rfl, Nat.le_of_ble_eq_true rfl⟩ rw_adr rfl rfl (Nat.le_of_ble_eq_true rfl) ⟨Nat.le_refl _, Nat.le_refl _⟩ dX7_quit_23 rfl ?_
      refine f_iconst F 1 dX7_quit_26 rfl ?_
      exact g_zret F hr hlk rfl dX7_quit_27 ⟨congrArg (fun t => some (Value.int (Int32.ofNat t))) (Eq.symm (by unfold r_X7_quit; first | simp only [if_pos h4, if_pos h16] | rfl)), congrArg (fun t => rwld cI cZ t ad) (Eq.symm (by unfold w_X7_quit; first | simp only [if_pos h4, if_pos h16] | rfl))⟩
    · refine f_iconst F 0 dX7_quit_19 rfl ?_
      exact g_zret F hr hlk rfl dX7_quit_20 ⟨congrArg (fun t => some (Value.int (Int32.ofNat t))) (Eq.symm (by unfold r_X7_quit; first | simp only [if_pos h4, if_neg h16] | rfl)), congrArg (fun t => rwld cI cZ t ad) (Eq.symm (by unfold w_X7_quit; first | simp only [if_pos h4, if_neg h16] | rfl))⟩
  · refine f_iconst F 0 dX7_quit_7 rfl ?_
    exact g_zret F hr hlk rfl dX7_quit_8 ⟨congrArg (fun t => some (Value.int (Int32.ofNat t))) (Eq.symm (by unfold r_X7_quit; first | simp only [if_neg h4] | rfl)), congrArg (fun t => rwld cI cZ t ad) (Eq.symm (by unfold w_X7_quit; first | simp only [if_neg h4] | rfl))⟩
def r_X7_crash (a : RS) (v : Nat) : Nat := if Int32.ofNat (r_X7_out a v) = 0 then (if Int32.ofNat (a 0 v) = 0 then 0 else 1) else 0
def w_X7_crash (a : RS) (v : Nat) : RS := if Int32.ofNat (r_X7_out a v) = 0 then (if Int32.ofNat (a 0 v) = 0 then a else (su2 (su2 (w_X7_cease a v) 0 v 0) 3 v 0)) else a
abbrev rm_X7_crash : Room := { frames := 2, cells := 0, slots := 0, locals := 44 }
set_option maxHeartbeats 4000000 in
set_option maxRecDepth 100000 in
theorem k_X7_crash (l : Launch) (D : va_G) (cI cS cZ : ClassId) (ad : Nat → Nat) (a : RS) (v : Nat) (hk : v < 4294967296) : gN l yX7_crash (Cond.code yX7_crash cX7_crash 2 (some .boolean) :: tb) rm_X7_crash D cls8 (tys3 cI cS cZ) [.ref (ad 0), .int (Int32.ofNat v)] (rwld cI cZ a ad) (some (.int (Int32.ofNat (r_X7_crash a v)))) (rwld cI cZ (w_X7_crash a v) ad) := by
  unfold gN
  refine g_head (by decide) rfl (Nat.le_of_ble_eq_true rfl) ?_
  intro p e s m args below meth cd A F hr hlk hnm
  refine g_eq rfl (L' := [(0, .ref (ad 0)), (1, .int (Int32.ofNat v))]) rfl rfl rfl ?_
  refine g_iload_n F dX7_crash_0 1 rfl ?_
  refine f_callS F (av := [.int (Int32.ofNat v)]) (rest := []) (st' := [.int (Int32.ofNat (r_X7_out a v))]) (k_X7_out l D cI cS cZ ad a v) tb_430 tb_428 tb_429 tb_8 hdX7_out ⟨rfl, rfl⟩ ⟨Nat.le_of_ble_eq_true rfl, Nat.le_of_ble_eq_true rfl⟩ rw_adr rfl rfl (Nat.le_of_ble_eq_true rfl) ⟨Nat.le_refl _, Nat.le_refl _⟩ dX7_crash_1 rfl ?_
  refine g_if_eq F dX7_crash_4 (tgt := 9) rfl (fun h4 => ?_) (fun h4 => ?_)
  · refine g_aload_n F dX7_crash_9 0 rfl ?_
    refine f_get F inX7 ql_RM rfl 0 (by decide) tb_357 rfl (v := .ref (ad 1)) rfl dX7_crash_10 ?_
    refine g_iload_n F dX7_crash_13 1 rfl ?_
    refine f_ald F 0 ql_0 rfl (j := v) (by have g0 := out0 h4 hk; omega) (by decide) dX7_crash_14 ?_
    refine g_if_ne F dX7_crash_15 (tgt := 20) rfl (fun h15 => ?_) (fun h15 => ?_)
    · refine g_aload_n F dX7_crash_20 0 rfl ?_
      refine g_iload_n F dX7_crash_21 1 rfl ?_
      refine f_callV F (As := [.int (Int32.ofNat v)]) (rest := []) (st' := []) (k_X7_cease l D cI cS cZ ad a v (out0 h4 hk)) ql_RM rfl tb_447 tb_445 tb_446 tb_609 tb_8 ⟨rfl, hdX7_cease⟩ ⟨rfl, rfl⟩ ⟨Nat.le_of_ble_eq_true rfl, Nat.le_of_ble_eq_true rfl⟩ rw_adr rfl rfl (Nat.le_of_ble_eq_true rfl) ⟨Nat.le_refl _, Nat.le_refl _⟩ dX7_crash_22 rfl ?_
      refine g_aload_n F dX7_crash_25 0 rfl ?_
      refine f_get F inX7 ql_RM rfl 0 (by decide) tb_357 rfl (v := .ref (ad 1)) rfl dX7_crash_26 ?_
      refine g_iload_n F dX7_crash_29 1 rfl ?_
      refine f_iconst F 0 dX7_crash_30 rfl ?_
      refine f_ast F 0 ql_0 rfl (j := v) (v := 0) (by have g0 := out0 h4 hk; omega) (by decide) dX7_crash_31 qs_0 ?_
      refine g_aload_n F dX7_crash_32 0 rfl ?_
      refine f_get F inX7 ql_RM rfl 3 (by decide) tb_360 rfl (v := .ref (ad 4)) rfl dX7_crash_33 ?_
      refine g_iload_n F dX7_crash_36 1 rfl ?_
      refine f_iconst F 0 dX7_crash_37 rfl ?_
      refine f_ast F 0 ql_3 rfl (j := v) (v := 0) (by have g0 := out0 h4 hk; omega) (by decide) dX7_crash_38 qs_3 ?_
      refine f_iconst F 1 dX7_crash_39 rfl ?_
      exact g_zret F hr hlk rfl dX7_crash_40 ⟨congrArg (fun t => some (Value.int (Int32.ofNat t))) (Eq.symm (by unfold r_X7_crash; first | simp only [if_pos h4, if_neg h15] | rfl)), congrArg (fun t => rwld cI cZ t ad) (Eq.symm (by unfold w_X7_crash; first | simp only [if_pos h4, if_neg h15] | rfl))⟩
    · refine f_iconst F 0 dX7_crash_18 rfl ?_
      exact g_zret F hr hlk rfl dX7_crash_19 ⟨congrArg (fun t => some (Value.int (Int32.ofNat t))) (Eq.symm (by unfold r_X7_crash; first | simp only [if_pos h4, if_pos h15] | rfl)), congrArg (fun t => rwld cI cZ t ad) (Eq.symm (by unfold w_X7_crash; first | simp only [if_pos h4, if_pos h15] | rfl))⟩
  · refine f_iconst F 0 dX7_crash_7 rfl ?_
    exact g_zret F hr hlk rfl dX7_crash_8 ⟨congrArg (fun t => some (Value.int (Int32.ofNat t))) (Eq.symm (by unfold r_X7_crash; first | simp only [if_neg h4] | rfl)), congrArg (fun t => rwld cI cZ t ad) (Eq.symm (by unfold w_X7_crash; first | simp only [if_neg h4] | rfl))⟩
def r_X7_follow (a : RS) (v w : Nat) : Nat := if Int32.ofNat (r_X7_out a v) = 0 then (if Int32.ofNat (r_X7_out a w) = 0 then (if Int32.ofNat (a 0 v) = Int32.ofNat 1 then (if Int32.ofNat 3 ≤ Int32.ofNat (a 0 w) then 1 else 0) else 0) else 0) else 0
def w_X7_follow (a : RS) (v w : Nat) : RS := if Int32.ofNat (r_X7_out a v) = 0 then (if Int32.ofNat (r_X7_out a w) = 0 then (if Int32.ofNat (a 0 v) = Int32.ofNat 1 then (if Int32.ofNat 3 ≤ Int32.ofNat (a 0 w) then (w_X7_sendUp (su2 (su2 (w_X7_cut a v) 0 v 2) 14 v w) v 1 ((w_X7_cut a v) 1 v)) else a) else a) else a) else a
abbrev rm_X7_follow : Room := { frames := 1, cells := 0, slots := 0, locals := 24 }
set_option maxHeartbeats 4000000 in
set_option maxRecDepth 100000 in
theorem k_X7_follow (l : Launch) (D : va_G) (cI cS cZ : ClassId) (ad : Nat → Nat) (a : RS) (v w : Nat) (hk : v < 4294967296) (hk2 : w < 4294967296) : gN l yX7_follow (Cond.code yX7_follow cX7_follow 3 (some .boolean) :: tb) rm_X7_follow D cls8 (tys3 cI cS cZ) [.ref (ad 0), .int (Int32.ofNat v), .int (Int32.ofNat w)] (rwld cI cZ a ad) (some (.int (Int32.ofNat (r_X7_follow a v w)))) (rwld cI cZ (w_X7_follow a v w) ad) := by
  unfold gN
  refine g_head (by decide) rfl (Nat.le_of_ble_eq_true rfl) ?_
  intro p e s m args below meth cd A F hr hlk hnm
  refine g_eq rfl (L' := [(0, .ref (ad 0)), (1, .int (Int32.ofNat v)), (2, .int (Int32.ofNat w))]) rfl rfl rfl ?_
  refine g_iload_n F dX7_follow_0 1 rfl ?_
  refine f_callS F (av := [.int (Int32.ofNat v)]) (rest := []) (st' := [.int (Int32.ofNat (r_X7_out a v))]) (k_X7_out l D cI cS cZ ad a v) tb_430 tb_428 tb_429 tb_8 hdX7_out ⟨rfl, rfl⟩ ⟨Nat.le_of_ble_eq_true rfl, Nat.le_of_ble_eq_true rfl⟩ rw_adr rfl rfl (Nat.le_of_ble_eq_true rfl) ⟨Nat.le_refl _, Nat.le_refl _⟩ dX7_follow_1 rfl ?_
  refine g_if_ne F dX7_follow_4 (tgt := 14) rfl (fun h4 => ?_) (fun h4 => ?_)
  · refine f_iconst F 0 dX7_follow_14 rfl ?_
    exact g_zret F hr hlk rfl dX7_follow_15 ⟨congrArg (fun t => some (Value.int (Int32.ofNat t))) (Eq.symm (by unfold r_X7_follow; first | simp only [if_neg h4] | rfl)), congrArg (fun t => rwld cI cZ t ad) (Eq.symm (by unfold w_X7_follow; first | simp only [if_neg h4] | rfl))⟩
  · refine g_iload_n F dX7_follow_7 2 rfl ?_
    refine f_callS F (av := [.int (Int32.ofNat w)]) (rest := []) (st' := [.int (Int32.ofNat (r_X7_out a w))]) (k_X7_out l D cI cS cZ ad a w) tb_430 tb_428 tb_429 tb_8 hdX7_out ⟨rfl, rfl⟩ ⟨Nat.le_of_ble_eq_true rfl, Nat.le_of_ble_eq_true rfl⟩ rw_adr rfl rfl (Nat.le_of_ble_eq_true rfl) ⟨Nat.le_refl _, Nat.le_refl _⟩ dX7_follow_8 rfl ?_
    refine g_if_eq F dX7_follow_11 (tgt := 16) rfl (fun h11 => ?_) (fun h11 => ?_)
    · refine g_aload_n F dX7_follow_16 0 rfl ?_
      refine f_get F inX7 ql_RM rfl 0 (by decide) tb_357 rfl (v := .ref (ad 1)) rfl dX7_follow_17 ?_
      refine g_iload_n F dX7_follow_20 1 rfl ?_
      refine f_ald F 0 ql_0 rfl (j := v) (by have g0 := out0 h4 hk; have g1 := out0 h11 hk2; omega) (by decide) dX7_follow_21 ?_
      refine f_iconst F 1 dX7_follow_22 rfl ?_
      refine g_icmp_ne F dX7_follow_23 (tgt := 36) rfl (fun h23 => ?_) (fun h23 => ?_)
      · refine f_iconst F 0 dX7_follow_36 rfl ?_
        exact g_zret F hr hlk rfl dX7_follow_37 ⟨congrArg (fun t => some (Value.int (Int32.ofNat t))) (Eq.symm (by unfold r_X7_follow; first | simp only [if_pos h4, if_pos h11, if_neg h23] | rfl)), congrArg (fun t => rwld cI cZ t ad) (Eq.symm (by unfold w_X7_follow; first | simp only [if_pos h4, if_pos h11, if_neg h23] | rfl))⟩
      · refine g_aload_n F dX7_follow_26 0 rfl ?_
        refine f_get F inX7 ql_RM rfl 0 (by decide) tb_357 rfl (v := .ref (ad 1)) rfl dX7_follow_27 ?_
        refine g_iload_n F dX7_follow_30 2 rfl ?_
        refine f_ald F 0 ql_0 rfl (j := w) (by have g0 := out0 h4 hk; have g1 := out0 h11 hk2; omega) (by decide) dX7_follow_31 ?_
        refine f_iconst F 3 dX7_follow_32 rfl ?_
        refine g_icmp_ge F dX7_follow_33 (tgt := 38) rfl (fun h33 => ?_) (fun h33 => ?_)
        · refine g_aload_n F dX7_follow_38 0 rfl ?_
          refine g_iload_n F dX7_follow_39 1 rfl ?_
          refine f_callV F (As := [.int (Int32.ofNat v)]) (rest := []) (st' := []) (k_X7_cut l D cI cS cZ ad a v (out0 h4 hk)) ql_RM rfl tb_437 tb_435 tb_436 tb_607 tb_8 ⟨rfl, hdX7_cut⟩ ⟨rfl, rfl⟩ ⟨Nat.le_of_ble_eq_true rfl, Nat.le_of_ble_eq_true rfl⟩ rw_adr rfl rfl (Nat.le_of_ble_eq_true rfl) ⟨Nat.le_refl _, Nat.le_refl _⟩ dX7_follow_40 rfl ?_
          refine g_aload_n F dX7_follow_43 0 rfl ?_
          refine f_get F inX7 ql_RM rfl 0 (by decide) tb_357 rfl (v := .ref (ad 1)) rfl dX7_follow_44 ?_
          refine g_iload_n F dX7_follow_47 1 rfl ?_
          refine f_iconst F 2 dX7_follow_48 rfl ?_
          refine f_ast F 0 ql_0 rfl (j := v) (v := 2) (by have g0 := out0 h4 hk; have g1 := out0 h11 hk2; omega) (by decide) dX7_follow_49 qs_0 ?_
          refine g_aload_n F dX7_follow_50 0 rfl ?_
          refine f_get F inX7 ql_RM rfl 14 (by decide) tb_371 rfl (v := .ref (ad 15)) rfl dX7_follow_51 ?_
          refine g_iload_n F dX7_follow_54 1 rfl ?_
          refine g_iload_n F dX7_follow_55 2 rfl ?_
          refine f_ast F 0 ql_14 rfl (j := v) (v := w) (by have g0 := out0 h4 hk; have g1 := out0 h11 hk2; omega) (by decide) dX7_follow_56 qs_14 ?_
          refine g_aload_n F dX7_follow_57 0 rfl ?_
          refine g_iload_n F dX7_follow_58 1 rfl ?_
          refine f_iconst F 1 dX7_follow_59 rfl ?_
          refine g_aload_n F dX7_follow_60 0 rfl ?_
          refine f_get F inX7 ql_RM rfl 1 (by decide) tb_358 rfl (v := .ref (ad 2)) rfl dX7_follow_61 ?_
          refine g_iload_n F dX7_follow_64 1 rfl ?_
          refine f_ald F 0 ql_1 rfl (j := v) (by have g0 := out0 h4 hk; have g1 := out0 h11 hk2; omega) (by decide) dX7_follow_65 ?_
          refine g_eq rfl rfl (st' := [.int (Int32.ofNat ((w_X7_cut a v) 1 v)), .int (Int32.ofNat 1), .int (Int32.ofNat v), .ref (ad 0)]) rfl rfl ?_
          refine f_callV F (As := [.int (Int32.ofNat v), .int (Int32.ofNat 1), .int (Int32.ofNat ((w_X7_cut a v) 1 v))]) (rest := []) (st' := []) (k_X7_sendUp l D cI cS cZ ad (su2 (su2 (w_X7_cut a v) 0 v 2) 14 v w) v 1 ((w_X7_cut a v) 1 v) (out0 h4 hk) (by show w_X7_cut a v 20 v ≤ 63; rw [cut20]; decide)) ql_RM rfl tb_440 tb_438 tb_439 tb_608 tb_8 ⟨rfl, hdX7_sendUp⟩ ⟨rfl, rfl⟩ ⟨Nat.le_of_ble_eq_true rfl, Nat.le_of_ble_eq_true rfl⟩ rw_adr rfl rfl (Nat.le_of_ble_eq_true rfl) ⟨Nat.le_refl _, Nat.le_refl _⟩ dX7_follow_66 rfl ?_
          refine f_iconst F 1 dX7_follow_69 rfl ?_
          exact g_zret F hr hlk rfl dX7_follow_70 ⟨congrArg (fun t => some (Value.int (Int32.ofNat t))) (Eq.symm (by unfold r_X7_follow; first | simp only [if_pos h4, if_pos h11, if_pos h23, if_pos h33] | rfl)), congrArg (fun t => rwld cI cZ t ad) (Eq.symm (by unfold w_X7_follow; first | simp only [if_pos h4, if_pos h11, if_pos h23, if_pos h33] | rfl))⟩
        · refine f_iconst F 0 dX7_follow_36 rfl ?_
          exact g_zret F hr hlk rfl dX7_follow_37 ⟨congrArg (fun t => some (Value.int (Int32.ofNat t))) (Eq.symm (by unfold r_X7_follow; first | simp only [if_pos h4, if_pos h11, if_pos h23, if_neg h33] | rfl)), congrArg (fun t => rwld cI cZ t ad) (Eq.symm (by unfold w_X7_follow; first | simp only [if_pos h4, if_pos h11, if_pos h23, if_neg h33] | rfl))⟩
    · refine f_iconst F 0 dX7_follow_14 rfl ?_
      exact g_zret F hr hlk rfl dX7_follow_15 ⟨congrArg (fun t => some (Value.int (Int32.ofNat t))) (Eq.symm (by unfold r_X7_follow; first | simp only [if_pos h4, if_neg h11] | rfl)), congrArg (fun t => rwld cI cZ t ad) (Eq.symm (by unfold w_X7_follow; first | simp only [if_pos h4, if_neg h11] | rfl))⟩
def r_X7_up (a : RS) (v : Nat) : Nat := if Int32.ofNat (r_X7_out a v) = 0 then (if Int32.ofNat (a 0 v) = Int32.ofNat 2 then (if Int32.ofNat (a 21 v) = Int32.ofNat (a 20 v) then 0 else (a 18 ((64 * v) + (a 21 v)))) else 0) else 0
def w_X7_up (a : RS) (v : Nat) : RS := if Int32.ofNat (r_X7_out a v) = 0 then (if Int32.ofNat (a 0 v) = Int32.ofNat 2 then (if Int32.ofNat (a 21 v) = Int32.ofNat (a 20 v) then a else (if Int32.ofNat (a 18 ((64 * v) + (a 21 v))) = Int32.ofNat 1 then (if Int32.ofNat (a 10 (a 14 v)) = 0 then (if Int32.ofNat (a 19 ((64 * v) + (a 21 v))) ≤ Int32.ofNat (a 1 (a 14 v)) then (w_X7_sendDown (su2 (su2 (su2 a 21 v ((a 21 v) + 1)) 10 (a 14 v) (1 + (a 1 (a 14 v)))) 1 (a 14 v) (1 + (a 1 (a 14 v)))) v 4 (1 + (a 1 (a 14 v)))) else (w_X7_sendDown (su2 (su2 (su2 a 21 v ((a 21 v) + 1)) 10 (a 14 v) (1 + (a 19 ((64 * v) + (a 21 v))))) 1 (a 14 v) (1 + (a 19 ((64 * v) + (a 21 v))))) v 4 (1 + (a 19 ((64 * v) + (a 21 v)))))) else (w_X7_sendDown (su2 a 21 v ((a 21 v) + 1)) v 4 (a 10 (a 14 v)))) else (if Int32.ofNat (a 18 ((64 * v) + (a 21 v))) = Int32.ofNat 2 then (if Int32.ofNat (a 19 ((64 * v) + (a 21 v))) = Int32.ofNat 1 then (w_X7_accepted (su2 a 21 v ((a 21 v) + 1)) v (a 14 v) 1) else (w_X7_accepted (su2 a 21 v ((a 21 v) + 1)) v (a 14 v) 0)) else (w_X7_acknowledged (su2 a 21 v ((a 21 v) + 1)) v (a 14 v) (a 19 ((64 * v) + (a 21 v))))))) else a) else a
abbrev rm_X7_up : Room := { frames := 3, cells := 0, slots := 0, locals := 70 }
set_option maxHeartbeats 4000000 in
set_option maxRecDepth 100000 in
theorem k_X7_up (l : Launch) (D : va_G) (cI cS cZ : ClassId) (ad : Nat → Nat) (a : RS) (v : Nat) (hk : v < 4294967296) (hq : RQ a) : gN l yX7_up (Cond.code yX7_up cX7_up 6 (some .int) :: tb) rm_X7_up D cls8 (tys3 cI cS cZ) [.ref (ad 0), .int (Int32.ofNat v)] (rwld cI cZ a ad) (some (.int (Int32.ofNat (r_X7_up a v)))) (rwld cI cZ (w_X7_up a v) ad) := by
  unfold gN
  refine g_head (by decide) rfl (Nat.le_of_ble_eq_true rfl) ?_
  intro p e s m args below meth cd A F hr hlk hnm
  refine g_eq rfl (L' := [(0, .ref (ad 0)), (1, .int (Int32.ofNat v))]) rfl rfl rfl ?_
  refine g_iload_n F dX7_up_0 1 rfl ?_
  refine f_callS F (av := [.int (Int32.ofNat v)]) (rest := []) (st' := [.int (Int32.ofNat (r_X7_out a v))]) (k_X7_out l D cI cS cZ ad a v) tb_430 tb_428 tb_429 tb_8 hdX7_out ⟨rfl, rfl⟩ ⟨Nat.le_of_ble_eq_true rfl, Nat.le_of_ble_eq_true rfl⟩ rw_adr rfl rfl (Nat.le_of_ble_eq_true rfl) ⟨Nat.le_refl _, Nat.le_refl _⟩ dX7_up_1 rfl ?_
  refine g_if_eq F dX7_up_4 (tgt := 9) rfl (fun h4 => ?_) (fun h4 => ?_)
  · refine g_aload_n F dX7_up_9 0 rfl ?_
    refine f_get F inX7 ql_RM rfl 0 (by decide) tb_357 rfl (v := .ref (ad 1)) rfl dX7_up_10 ?_
    refine g_iload_n F dX7_up_13 1 rfl ?_
    refine f_ald F 0 ql_0 rfl (j := v) (by have g0 := out0 h4 hk; have g1 := hq _ g0; have g2 := hq _ g1.2.2.1; omega) (by decide) dX7_up_14 ?_
    refine f_iconst F 2 dX7_up_15 rfl ?_
    refine g_icmp_ne F dX7_up_16 (tgt := 34) rfl (fun h16 => ?_) (fun h16 => ?_)
    · refine f_iconst F 0 dX7_up_34 rfl ?_
      exact g_iret F hr hlk dX7_up_35 ⟨congrArg (fun t => some (Value.int (Int32.ofNat t))) (Eq.symm (by unfold r_X7_up; first | simp only [if_pos h4, if_neg h16] | rfl)), congrArg (fun t => rwld cI cZ t ad) (Eq.symm (by unfold w_X7_up; first | simp only [if_pos h4, if_neg h16] | rfl))⟩
    · refine g_aload_n F dX7_up_19 0 rfl ?_
      refine f_get F inX7 ql_RM rfl 21 (by decide) tb_378 rfl (v := .ref (ad 22)) rfl dX7_up_20 ?_
      refine g_iload_n F dX7_up_23 1 rfl ?_
      refine f_ald F 0 ql_21 rfl (j := v) (by have g0 := out0 h4 hk; have g1 := hq _ g0; have g2 := hq _ g1.2.2.1; omega) (by decide) dX7_up_24 ?_
      refine g_aload_n F dX7_up_25 0 rfl ?_
      refine f_get F inX7 ql_RM rfl 20 (by decide) tb_377 rfl (v := .ref (ad 21)) rfl dX7_up_26 ?_
      refine g_iload_n F dX7_up_29 1 rfl ?_
      refine f_ald F 0 ql_20 rfl (j := v) (by have g0 := out0 h4 hk; have g1 := hq _ g0; have g2 := hq _ g1.2.2.1; omega) (by decide) dX7_up_30 ?_
      refine g_icmp_ne F dX7_up_31 (tgt := 36) rfl (fun h31 => ?_) (fun h31 => ?_)
      · refine g_aload_n F dX7_up_36 0 rfl ?_
        refine f_get F inX7 ql_RM rfl 14 (by decide) tb_371 rfl (v := .ref (ad 15)) rfl dX7_up_37 ?_
        refine g_iload_n F dX7_up_40 1 rfl ?_
        refine f_ald F 0 ql_14 rfl (j := v) (by have g0 := out0 h4 hk; have g1 := hq _ g0; have g2 := hq _ g1.2.2.1; omega) (by decide) dX7_up_41 ?_
        refine g_istore_n F [(2, .int (Int32.ofNat (a 14 v))), (0, .ref (ad 0)), (1, .int (Int32.ofNat v))] dX7_up_42 (by decide) rfl ?_
        refine f_bipush F 64 dX7_up_43 rfl ?_
        refine g_iload_n F dX7_up_45 2 rfl ?_
        refine f_mul F dX7_up_46 ?_
        refine g_aload_n F dX7_up_47 1 rfl ?_
        refine f_get F inX7 ql_RM rfl 21 (by decide) tb_378 rfl (v := .ref (ad 22)) rfl dX7_up_48 ?_
        refine g_iload_n F dX7_up_51 2 rfl ?_
        refine f_ald F 0 ql_21 rfl (j := v) (by have g0 := out0 h4 hk; have g1 := hq _ g0; have g2 := hq _ g1.2.2.1; omega) (by decide) dX7_up_52 ?_
        refine f_add F dX7_up_53 ?_
        refine g_istore_n F [(3, .int (Int32.ofNat ((64 * v) + (a 21 v)))), (2, .int (Int32.ofNat (a 14 v))), (0, .ref (ad 0)), (1, .int (Int32.ofNat v))] dX7_up_54 (by decide) rfl ?_
        refine g_aload_n F dX7_up_55 2 rfl ?_
        refine f_get F inX7 ql_RM rfl 18 (by decide) tb_375 rfl (v := .ref (ad 19)) rfl dX7_up_56 ?_
        refine g_iload_n F dX7_up_59 0 rfl ?_
        refine f_ald F 0 ql_18 rfl (j := (64 * v) + (a 21 v)) (by have g0 := out0 h4 hk; have g1 := hq _ g0; have g2 := hq _ g1.2.2.1; omega) (by decide) dX7_up_60 ?_
        refine g_istore F [(4, .int (Int32.ofNat (a 18 ((64 * v) + (a 21 v))))), (3, .int (Int32.ofNat ((64 * v) + (a 21 v)))), (2, .int (Int32.ofNat (a 14 v))), (0, .ref (ad 0)), (1, .int (Int32.ofNat v))] dX7_up_61 (by decide) rfl ?_
        refine g_aload_n F dX7_up_63 3 rfl ?_
        refine f_get F inX7 ql_RM rfl 19 (by decide) tb_376 rfl (v := .ref (ad 20)) rfl dX7_up_64 ?_
        refine g_iload_n F dX7_up_67 1 rfl ?_
        refine f_ald F 0 ql_19 rfl (j := (64 * v) + (a 21 v)) (by have g0 := out0 h4 hk; have g1 := hq _ g0; have g2 := hq _ g1.2.2.1; omega) (by decide) dX7_up_68 ?_
        refine g_istore F [(5, .int (Int32.ofNat (a 19 ((64 * v) + (a 21 v))))), (4, .int (Int32.ofNat (a 18 ((64 * v) + (a 21 v))))), (3, .int (Int32.ofNat ((64 * v) + (a 21 v)))), (2, .int (Int32.ofNat (a 14 v))), (0, .ref (ad 0)), (1, .int (Int32.ofNat v))] dX7_up_69 (by decide) rfl ?_
        refine g_aload_n F dX7_up_71 4 rfl ?_
        refine f_get F inX7 ql_RM rfl 21 (by decide) tb_378 rfl (v := .ref (ad 22)) rfl dX7_up_72 ?_
        refine g_iload_n F dX7_up_75 5 rfl ?_
        refine g_dup2 F dX7_up_76 rfl rfl ?_
        refine f_ald F 0 ql_21 rfl (j := v) (by have g0 := out0 h4 hk; have g1 := hq _ g0; have g2 := hq _ g1.2.2.1; omega) (by decide) dX7_up_77 ?_
        refine f_iconst F 1 dX7_up_78 rfl ?_
        refine f_add F dX7_up_79 ?_
        refine f_ast F 0 ql_21 rfl (j := v) (v := (a 21 v) + 1) (by have g0 := out0 h4 hk; have g1 := hq _ g0; have g2 := hq _ g1.2.2.1; omega) (by decide) dX7_up_80 qs_21 ?_
        refine g_iload F dX7_up_81 1 rfl ?_
        refine f_iconst F 1 dX7_up_83 rfl ?_
        refine g_icmp_ne F dX7_up_84 (tgt := 153) rfl (fun h84 => ?_) (fun h84 => ?_)
        · refine g_iload F dX7_up_153 1 rfl ?_
          refine f_iconst F 2 dX7_up_155 rfl ?_
          refine g_icmp_ne F dX7_up_156 (tgt := 179) rfl (fun h156 => ?_) (fun h156 => ?_)
          · refine g_aload_n F dX7_up_179 4 rfl ?_
            refine g_iload_n F dX7_up_180 5 rfl ?_
            refine g_iload_n F dX7_up_181 3 rfl ?_
            refine g_iload F dX7_up_182 0 rfl ?_
            refine f_callV F (As := [.int (Int32.ofNat v), .int (Int32.ofNat (a 14 v)), .int (Int32.ofNat (a 19 ((64 * v) + (a 21 v))))]) (rest := []) (st' := []) (k_X7_acknowledged l D cI cS cZ ad (su2 a 21 v ((a 21 v) + 1)) v (a 14 v) (a 19 ((64 * v) + (a 21 v))) (out0 h4 hk) (hq v (out0 h4 hk)).2.2.1 (fun s hs => (by have := hq s hs; omega : a 24 s ≤ 62))) ql_RM rfl tb_483 tb_481 tb_482 tb_617 tb_8 ⟨rfl, hdX7_acknowledged⟩ ⟨rfl, rfl⟩ ⟨Nat.le_of_ble_eq_true rfl, Nat.le_of_ble_eq_true rfl⟩ rw_adr rfl rfl (Nat.le_of_ble_eq_true rfl) ⟨Nat.le_refl _, Nat.le_refl _⟩ dX7_up_184 rfl ?_
            refine g_iload F dX7_up_187 1 rfl ?_
            exact g_iret F hr hlk dX7_up_189 ⟨congrArg (fun t => some (Value.int (Int32.ofNat t))) (Eq.symm (by unfold r_X7_up; first | simp only [if_pos h4, if_pos h16, if_neg h31, if_neg h84, if_neg h156] | rfl)), congrArg (fun t => rwld cI cZ t ad) (Eq.symm (by unfold w_X7_up; first | simp only [if_pos h4, if_pos h16, if_neg h31, if_neg h84, if_neg h156] | rfl))⟩
          · refine g_aload_n F dX7_up_159 4 rfl ?_
            refine g_iload_n F dX7_up_160 5 rfl ?_
            refine g_iload_n F dX7_up_161 3 rfl ?_
            refine g_iload F dX7_up_162 0 rfl ?_
            refine f_iconst F 1 dX7_up_164 rfl ?_
            refine g_icmp_ne F dX7_up_165 (tgt := 172) rfl (fun h165 => ?_) (fun h165 => ?_)
            · refine f_iconst F 0 dX7_up_172 rfl ?_
              refine f_callV F (As := [.int (Int32.ofNat v), .int (Int32.ofNat (a 14 v)), .int (Int32.ofNat 0)]) (rest := []) (st' := []) (k_X7_accepted l D cI cS cZ ad (su2 a 21 v ((a 21 v) + 1)) v (a 14 v) 0 (out0 h4 hk) (hq v (out0 h4 hk)).2.2.1 (fun s hs => (by have := hq s hs; omega : a 4 s ≤ 24 ∧ a 24 s ≤ 62))) ql_RM rfl tb_468 tb_466 tb_467 tb_612 tb_8 ⟨rfl, hdX7_accepted⟩ ⟨rfl, rfl⟩ ⟨Nat.le_of_ble_eq_true rfl, Nat.le_of_ble_eq_true rfl⟩ rw_adr rfl rfl (Nat.le_of_ble_eq_true rfl) ⟨Nat.le_refl _, Nat.le_refl _⟩ dX7_up_173 rfl ?_
              refine g_goto F dX7_up_176 (tgt := 187) rfl ?_
              refine g_iload F dX7_up_187 1 rfl ?_
              exact g_iret F hr hlk dX7_up_189 ⟨congrArg (fun t => some (Value.int (Int32.ofNat t))) (Eq.symm (by unfold r_X7_up; first | simp only [if_pos h4, if_pos h16, if_neg h31, if_neg h84, if_pos h156, if_neg h165] | rfl)), congrArg (fun t => rwld cI cZ t ad) (Eq.symm (by unfold w_X7_up; first | simp only [if_pos h4, if_pos h16, if_neg h31, if_neg h84, if_pos h156, if_neg h165] | rfl))⟩
            · refine f_iconst F 1 dX7_up_168 rfl ?_
              refine g_goto F dX7_up_169 (tgt := 173) rfl ?_
              refine f_callV F (As := [.int (Int32.ofNat v), .int (Int32.ofNat (a 14 v)), .int (Int32.ofNat 1)]) (rest := []) (st' := []) (k_X7_accepted l D cI cS cZ ad (su2 a 21 v ((a 21 v) + 1)) v (a 14 v) 1 (out0 h4 hk) (hq v (out0 h4 hk)).2.2.1 (fun s hs => (by have := hq s hs; omega : a 4 s ≤ 24 ∧ a 24 s ≤ 62))) ql_RM rfl tb_468 tb_466 tb_467 tb_612 tb_8 ⟨rfl, hdX7_accepted⟩ ⟨rfl, rfl⟩ ⟨Nat.le_of_ble_eq_true rfl, Nat.le_of_ble_eq_true rfl⟩ rw_adr rfl rfl (Nat.le_of_ble_eq_true rfl) ⟨Nat.le_refl _, Nat.le_refl _⟩ dX7_up_173 rfl ?_
              refine g_goto F dX7_up_176 (tgt := 187) rfl ?_
              refine g_iload F dX7_up_187 1 rfl ?_
              exact g_iret F hr hlk dX7_up_189 ⟨congrArg (fun t => some (Value.int (Int32.ofNat t))) (Eq.symm (by unfold r_X7_up; first | simp only [if_pos h4, if_pos h16, if_neg h31, if_neg h84, if_pos h156, if_pos h165] | rfl)), congrArg (fun t => rwld cI cZ t ad) (Eq.symm (by unfold w_X7_up; first | simp only [if_pos h4, if_pos h16, if_neg h31, if_neg h84, if_pos h156, if_pos h165] | rfl))⟩
        · refine g_aload_n F dX7_up_87 4 rfl ?_
          refine f_get F inX7 ql_RM rfl 10 (by decide) tb_367 rfl (v := .ref (ad 11)) rfl dX7_up_88 ?_
          refine g_iload_n F dX7_up_91 3 rfl ?_
          refine f_ald F 0 ql_10 rfl (j := a 14 v) (by have g0 := out0 h4 hk; have g1 := hq _ g0; have g2 := hq _ g1.2.2.1; omega) (by decide) dX7_up_92 ?_
          refine g_eq rfl rfl (st' := [.int (Int32.ofNat (a 10 (a 14 v)))]) rfl rfl ?_
          refine g_if_ne F dX7_up_93 (tgt := 138) rfl (fun h93 => ?_) (fun h93 => ?_)
          · refine g_aload_n F dX7_up_138 4 rfl ?_
            refine g_iload_n F dX7_up_139 5 rfl ?_
            refine f_iconst F 4 dX7_up_140 rfl ?_
            refine g_aload_n F dX7_up_141 4 rfl ?_
            refine f_get F inX7 ql_RM rfl 10 (by decide) tb_367 rfl (v := .ref (ad 11)) rfl dX7_up_142 ?_
            refine g_iload_n F dX7_up_145 3 rfl ?_
            refine f_ald F 0 ql_10 rfl (j := a 14 v) (by have g0 := out0 h4 hk; have g1 := hq _ g0; have g2 := hq _ g1.2.2.1; omega) (by decide) dX7_up_146 ?_
            refine g_eq rfl rfl (st' := [.int (Int32.ofNat (a 10 (a 14 v))), .int (Int32.ofNat 4), .int (Int32.ofNat v), .ref (ad 0)]) rfl rfl ?_
            refine f_callV F (As := [.int (Int32.ofNat v), .int (Int32.ofNat 4), .int (Int32.ofNat (a 10 (a 14 v)))]) (rest := []) (st' := []) (k_X7_sendDown l D cI cS cZ ad (su2 a 21 v ((a 21 v) + 1)) v 4 (a 10 (a 14 v)) (out0 h4 hk) (by have := hq v (out0 h4 hk); omega : a 24 v ≤ 63)) ql_RM rfl tb_465 tb_463 tb_464 tb_611 tb_8 ⟨rfl, hdX7_sendDown⟩ ⟨rfl, rfl⟩ ⟨Nat.le_of_ble_eq_true rfl, Nat.le_of_ble_eq_true rfl⟩ rw_adr rfl rfl (Nat.le_of_ble_eq_true rfl) ⟨Nat.le_refl _, Nat.le_refl _⟩ dX7_up_147 rfl ?_
            refine g_goto F dX7_up_150 (tgt := 187) rfl ?_
            refine g_iload F dX7_up_187 1 rfl ?_
            exact g_iret F hr hlk dX7_up_189 ⟨congrArg (fun t => some (Value.int (Int32.ofNat t))) (Eq.symm (by unfold r_X7_up; first | simp only [if_pos h4, if_pos h16, if_neg h31, if_pos h84, if_neg h93] | rfl)), congrArg (fun t => rwld cI cZ t ad) (Eq.symm (by unfold w_X7_up; first | simp only [if_pos h4, if_pos h16, if_neg h31, if_pos h84, if_neg h93] | rfl))⟩
          · refine g_aload_n F dX7_up_96 4 rfl ?_
            refine f_get F inX7 ql_RM rfl 10 (by decide) tb_367 rfl (v := .ref (ad 11)) rfl dX7_up_97 ?_
            refine g_iload_n F dX7_up_100 3 rfl ?_
            refine f_iconst F 1 dX7_up_101 rfl ?_
            refine g_iload F dX7_up_102 0 rfl ?_
            refine g_aload_n F dX7_up_104 4 rfl ?_
            refine f_get F inX7 ql_RM rfl 1 (by decide) tb_358 rfl (v := .ref (ad 2)) rfl dX7_up_105 ?_
            refine g_iload_n F dX7_up_108 3 rfl ?_
            refine f_ald F 0 ql_1 rfl (j := a 14 v) (by have g0 := out0 h4 hk; have g1 := hq _ g0; have g2 := hq _ g1.2.2.1; omega) (by decide) dX7_up_109 ?_
            refine g_eq rfl rfl (st' := [.int (Int32.ofNat (a 1 (a 14 v))), .int (Int32.ofNat (a 19 ((64 * v) + (a 21 v)))), .int (Int32.ofNat 1), .int (Int32.ofNat (a 14 v)), .ref (ad 11)]) rfl rfl ?_
            refine g_icmp_le F dX7_up_110 (tgt := 118) rfl (fun h110 => ?_) (fun h110 => ?_)
            · refine g_aload_n F dX7_up_118 4 rfl ?_
              refine f_get F inX7 ql_RM rfl 1 (by decide) tb_358 rfl (v := .ref (ad 2)) rfl dX7_up_119 ?_
              refine g_iload_n F dX7_up_122 3 rfl ?_
              refine f_ald F 0 ql_1 rfl (j := a 14 v) (by have g0 := out0 h4 hk; have g1 := hq _ g0; have g2 := hq _ g1.2.2.1; omega) (by decide) dX7_up_123 ?_
              refine g_eq rfl rfl (st' := [.int (Int32.ofNat (a 1 (a 14 v))), .int (Int32.ofNat 1), .int (Int32.ofNat (a 14 v)), .ref (ad 11)]) rfl rfl ?_
              refine f_add F dX7_up_124 ?_
              refine f_ast F 0 ql_10 rfl (j := a 14 v) (v := 1 + (a 1 (a 14 v))) (by have g0 := out0 h4 hk; have g1 := hq _ g0; have g2 := hq _ g1.2.2.1; omega) (by decide) dX7_up_125 qs_10 ?_
              refine g_aload_n F dX7_up_126 4 rfl ?_
              refine f_get F inX7 ql_RM rfl 1 (by decide) tb_358 rfl (v := .ref (ad 2)) rfl dX7_up_127 ?_
              refine g_iload_n F dX7_up_130 3 rfl ?_
              refine g_aload_n F dX7_up_131 4 rfl ?_
              refine f_get F inX7 ql_RM rfl 10 (by decide) tb_367 rfl (v := .ref (ad 11)) rfl dX7_up_132 ?_
              refine g_iload_n F dX7_up_135 3 rfl ?_
              refine f_ald F 0 ql_10 rfl (j := a 14 v) (by have g0 := out0 h4 hk; have g1 := hq _ g0; have g2 := hq _ g1.2.2.1; omega) (by decide) dX7_up_136 ?_
              refine g_eq rfl rfl (st' := [.int (Int32.ofNat ((su2 (su2 a 21 v ((a 21 v) + 1)) 10 (a 14 v) (1 + (a 1 (a 14 v)))) 10 (a 14 v))), .int (Int32.ofNat (a 14 v)), .ref (ad 2)]) rfl rfl ?_
              refine g_eq rfl rfl (st' := [.int (Int32.ofNat (1 + (a 1 (a 14 v)))), .int (Int32.ofNat (a 14 v)), .ref (ad 2)]) (by rw [su2_same]) rfl ?_
              refine f_ast F 0 ql_1 rfl (j := a 14 v) (v := 1 + (a 1 (a 14 v))) (by have g0 := out0 h4 hk; have g1 := hq _ g0; have g2 := hq _ g1.2.2.1; omega) (by decide) dX7_up_137 qs_1 ?_
              refine g_aload_n F dX7_up_138 4 rfl ?_
              refine g_iload_n F dX7_up_139 5 rfl ?_
              refine f_iconst F 4 dX7_up_140 rfl ?_
              refine g_aload_n F dX7_up_141 4 rfl ?_
              refine f_get F inX7 ql_RM rfl 10 (by decide) tb_367 rfl (v := .ref (ad 11)) rfl dX7_up_142 ?_
              refine g_iload_n F dX7_up_145 3 rfl ?_
              refine f_ald F 0 ql_10 rfl (j := a 14 v) (by have g0 := out0 h4 hk; have g1 := hq _ g0; have g2 := hq _ g1.2.2.1; omega) (by decide) dX7_up_146 ?_
              refine g_eq rfl rfl (st' := [.int (Int32.ofNat ((su2 (su2 a 21 v ((a 21 v) + 1)) 10 (a 14 v) (1 + (a 1 (a 14 v)))) 10 (a 14 v))), .int (Int32.ofNat 4), .int (Int32.ofNat v), .ref (ad 0)]) rfl rfl ?_
              refine g_eq rfl rfl (st' := [.int (Int32.ofNat (1 + (a 1 (a 14 v)))), .int (Int32.ofNat 4), .int (Int32.ofNat v), .ref (ad 0)]) (by rw [su2_same]) rfl ?_
              refine f_callV F (As := [.int (Int32.ofNat v), .int (Int32.ofNat 4), .int (Int32.ofNat (1 + (a 1 (a 14 v))))]) (rest := []) (st' := []) (k_X7_sendDown l D cI cS cZ ad (su2 (su2 (su2 a 21 v ((a 21 v) + 1)) 10 (a 14 v) (1 + (a 1 (a 14 v)))) 1 (a 14 v) (1 + (a 1 (a 14 v)))) v 4 (1 + (a 1 (a 14 v))) (out0 h4 hk) (by have := hq v (out0 h4 hk); omega : a 24 v ≤ 63)) ql_RM rfl tb_465 tb_463 tb_464 tb_611 tb_8 ⟨rfl, hdX7_sendDown⟩ ⟨rfl, rfl⟩ ⟨Nat.le_of_ble_eq_true rfl, Nat.le_of_ble_eq_true rfl⟩ rw_adr rfl rfl (Nat.le_of_ble_eq_true rfl) ⟨Nat.le_refl _, Nat.le_refl _⟩ dX7_up_147 rfl ?_
              refine g_goto F dX7_up_150 (tgt := 187) rfl ?_
              refine g_iload F dX7_up_187 1 rfl ?_
              exact g_iret F hr hlk dX7_up_189 ⟨congrArg (fun t => some (Value.int (Int32.ofNat t))) (Eq.symm (by unfold r_X7_up; first | simp only [if_pos h4, if_pos h16, if_neg h31, if_pos h84, if_pos h93, if_pos h110] | rfl)), congrArg (fun t => rwld cI cZ t ad) (Eq.symm (by unfold w_X7_up; first | simp only [if_pos h4, if_pos h16, if_neg h31, if_pos h84, if_pos h93, if_pos h110] | rfl))⟩
            · refine g_iload F dX7_up_113 0 rfl ?_
              refine g_goto F dX7_up_115 (tgt := 124) rfl ?_
              refine f_add F dX7_up_124 ?_
              refine f_ast F 0 ql_10 rfl (j := a 14 v) (v := 1 + (a 19 ((64 * v) + (a 21 v)))) (by have g0 := out0 h4 hk; have g1 := hq _ g0; have g2 := hq _ g1.2.2.1; omega) (by decide) dX7_up_125 qs_10 ?_
              refine g_aload_n F dX7_up_126 4 rfl ?_
              refine f_get F inX7 ql_RM rfl 1 (by decide) tb_358 rfl (v := .ref (ad 2)) rfl dX7_up_127 ?_
              refine g_iload_n F dX7_up_130 3 rfl ?_
              refine g_aload_n F dX7_up_131 4 rfl ?_
              refine f_get F inX7 ql_RM rfl 10 (by decide) tb_367 rfl (v := .ref (ad 11)) rfl dX7_up_132 ?_
              refine g_iload_n F dX7_up_135 3 rfl ?_
              refine f_ald F 0 ql_10 rfl (j := a 14 v) (by have g0 := out0 h4 hk; have g1 := hq _ g0; have g2 := hq _ g1.2.2.1; omega) (by decide) dX7_up_136 ?_
              refine g_eq rfl rfl (st' := [.int (Int32.ofNat ((su2 (su2 a 21 v ((a 21 v) + 1)) 10 (a 14 v) (1 + (a 19 ((64 * v) + (a 21 v))))) 10 (a 14 v))), .int (Int32.ofNat (a 14 v)), .ref (ad 2)]) rfl rfl ?_
              refine g_eq rfl rfl (st' := [.int (Int32.ofNat (1 + (a 19 ((64 * v) + (a 21 v))))), .int (Int32.ofNat (a 14 v)), .ref (ad 2)]) (by rw [su2_same]) rfl ?_
              refine f_ast F 0 ql_1 rfl (j := a 14 v) (v := 1 + (a 19 ((64 * v) + (a 21 v)))) (by have g0 := out0 h4 hk; have g1 := hq _ g0; have g2 := hq _ g1.2.2.1; omega) (by decide) dX7_up_137 qs_1 ?_
              refine g_aload_n F dX7_up_138 4 rfl ?_
              refine g_iload_n F dX7_up_139 5 rfl ?_
              refine f_iconst F 4 dX7_up_140 rfl ?_
              refine g_aload_n F dX7_up_141 4 rfl ?_
              refine f_get F inX7 ql_RM rfl 10 (by decide) tb_367 rfl (v := .ref (ad 11)) rfl dX7_up_142 ?_
              refine g_iload_n F dX7_up_145 3 rfl ?_
              refine f_ald F 0 ql_10 rfl (j := a 14 v) (by have g0 := out0 h4 hk; have g1 := hq _ g0; have g2 := hq _ g1.2.2.1; omega) (by decide) dX7_up_146 ?_
              refine g_eq rfl rfl (st' := [.int (Int32.ofNat ((su2 (su2 a 21 v ((a 21 v) + 1)) 10 (a 14 v) (1 + (a 19 ((64 * v) + (a 21 v))))) 10 (a 14 v))), .int (Int32.ofNat 4), .int (Int32.ofNat v), .ref (ad 0)]) rfl rfl ?_
              refine g_eq rfl rfl (st' := [.int (Int32.ofNat (1 + (a 19 ((64 * v) + (a 21 v))))), .int (Int32.ofNat 4), .int (Int32.ofNat v), .ref (ad 0)]) (by rw [su2_same]) rfl ?_
              refine f_callV F (As := [.int (Int32.ofNat v), .int (Int32.ofNat 4), .int (Int32.ofNat (1 + (a 19 ((64 * v) + (a 21 v)))))]) (rest := []) (st' := []) (k_X7_sendDown l D cI cS cZ ad (su2 (su2 (su2 a 21 v ((a 21 v) + 1)) 10 (a 14 v) (1 + (a 19 ((64 * v) + (a 21 v))))) 1 (a 14 v) (1 + (a 19 ((64 * v) + (a 21 v))))) v 4 (1 + (a 19 ((64 * v) + (a 21 v)))) (out0 h4 hk) (by have := hq v (out0 h4 hk); omega : a 24 v ≤ 63)) ql_RM rfl tb_465 tb_463 tb_464 tb_611 tb_8 ⟨rfl, hdX7_sendDown⟩ ⟨rfl, rfl⟩ ⟨Nat.le_of_ble_eq_true rfl, Nat.le_of_ble_eq_true rfl⟩ rw_adr rfl rfl (Nat.le_of_ble_eq_true rfl) ⟨Nat.le_refl _, Nat.le_refl _⟩ dX7_up_147 rfl ?_
              refine g_goto F dX7_up_150 (tgt := 187) rfl ?_
              refine g_iload F dX7_up_187 1 rfl ?_
              exact g_iret F hr hlk dX7_up_189 ⟨congrArg (fun t => some (Value.int (Int32.ofNat t))) (Eq.symm (by unfold r_X7_up; first | simp only [if_pos h4, if_pos h16, if_neg h31, if_pos h84, if_pos h93, if_neg h110] | rfl)), congrArg (fun t => rwld cI cZ t ad) (Eq.symm (by unfold w_X7_up; first | simp only [if_pos h4, if_pos h16, if_neg h31, if_pos h84, if_pos h93, if_neg h110] | rfl))⟩
      · refine f_iconst F 0 dX7_up_34 rfl ?_
        exact g_iret F hr hlk dX7_up_35 ⟨congrArg (fun t => some (Value.int (Int32.ofNat t))) (Eq.symm (by unfold r_X7_up; first | simp only [if_pos h4, if_pos h16, if_pos h31] | rfl)), congrArg (fun t => rwld cI cZ t ad) (Eq.symm (by unfold w_X7_up; first | simp only [if_pos h4, if_pos h16, if_pos h31] | rfl))⟩
  · refine f_iconst F 0 dX7_up_7 rfl ?_
    exact g_iret F hr hlk dX7_up_8 ⟨congrArg (fun t => some (Value.int (Int32.ofNat t))) (Eq.symm (by unfold r_X7_up; first | simp only [if_neg h4] | rfl)), congrArg (fun t => rwld cI cZ t ad) (Eq.symm (by unfold w_X7_up; first | simp only [if_neg h4] | rfl))⟩
def r_X7_down (a : RS) (v : Nat) : Nat := if Int32.ofNat (r_X7_out a v) = 0 then (if Int32.ofNat (a 0 v) = Int32.ofNat 2 then (if Int32.ofNat (a 25 v) = Int32.ofNat (a 24 v) then 0 else (a 22 ((64 * v) + (a 25 v)))) else 0) else 0
def w_X7_down (a : RS) (v : Nat) : RS := if Int32.ofNat (r_X7_out a v) = 0 then (if Int32.ofNat (a 0 v) = Int32.ofNat 2 then (if Int32.ofNat (a 25 v) = Int32.ofNat (a 24 v) then a else (if Int32.ofNat (a 22 ((64 * v) + (a 25 v))) = Int32.ofNat 4 then (if Int32.ofNat (a 1 v) ≤ Int32.ofNat (a 23 ((64 * v) + (a 25 v))) then (if Int32.ofNat (a 23 ((64 * v) + (a 25 v))) ≤ Int32.ofNat (a 1 v) then (su2 (w_X7_sendUp (su2 a 25 v ((a 25 v) + 1)) v 2 0) 1 v (a 23 ((64 * v) + (a 25 v)))) else (su2 (w_X7_sendUp (su2 a 25 v ((a 25 v) + 1)) v 2 1) 1 v (a 23 ((64 * v) + (a 25 v))))) else (w_X7_cut (su2 a 25 v ((a 25 v) + 1)) v)) else (if Int32.ofNat (a 22 ((64 * v) + (a 25 v))) = Int32.ofNat 5 then (w_X7_sendUp (w_X7_copy (su2 (su2 a 25 v ((a 25 v) + 1)) 2 v (a 1 v)) (a 14 v) v (a 23 ((64 * v) + (a 25 v)))) v 3 (a 23 ((64 * v) + (a 25 v)))) else (if Int32.ofNat (a 22 ((64 * v) + (a 25 v))) = Int32.ofNat 6 then (w_X7_sendUp (su2 (w_X7_copyEntry (su2 a 25 v ((a 25 v) + 1)) ((24 * (a 14 v)) + (a 23 ((64 * v) + (a 25 v)))) ((24 * v) + (a 4 v))) 4 v (((w_X7_copyEntry (su2 a 25 v ((a 25 v) + 1)) ((24 * (a 14 v)) + (a 23 ((64 * v) + (a 25 v)))) ((24 * v) + (a 4 v))) 4 v) + 1)) v 3 (((w_X7_copyEntry (su2 a 25 v ((a 25 v) + 1)) ((24 * (a 14 v)) + (a 23 ((64 * v) + (a 25 v)))) ((24 * v) + (a 4 v))) 4 v) + 1)) else (if Int32.ofNat (a 23 ((64 * v) + (a 25 v))) ≤ Int32.ofNat (a 3 v) then (su2 (su2 a 25 v ((a 25 v) + 1)) 3 v (a 3 v)) else (su2 (su2 a 25 v ((a 25 v) + 1)) 3 v (a 23 ((64 * v) + (a 25 v))))))))) else a) else a
abbrev rm_X7_down : Room := { frames := 2, cells := 0, slots := 0, locals := 46 }
set_option maxHeartbeats 4000000 in
set_option maxRecDepth 100000 in
theorem k_X7_down (l : Launch) (D : va_G) (cI cS cZ : ClassId) (ad : Nat → Nat) (a : RS) (v : Nat) (hk : v < 4294967296) (hq : RQ a) (hn : v < 3 → Int32.ofNat (a 0 v) = Int32.ofNat 2 → ¬ Int32.ofNat (a 25 v) = Int32.ofNat (a 24 v) → (Int32.ofNat (a 22 (64 * v + a 25 v)) = Int32.ofNat 5 → a 23 (64 * v + a 25 v) ≤ 24) ∧ (Int32.ofNat (a 22 (64 * v + a 25 v)) = Int32.ofNat 6 → a 23 (64 * v + a 25 v) < 24 ∧ a 4 v < 24)) : gN l yX7_down (Cond.code yX7_down cX7_down 6 (some .int) :: tb) rm_X7_down D cls8 (tys3 cI cS cZ) [.ref (ad 0), .int (Int32.ofNat v)] (rwld cI cZ a ad) (some (.int (Int32.ofNat (r_X7_down a v)))) (rwld cI cZ (w_X7_down a v) ad) := by
  unfold gN
  refine g_head (by decide) rfl (Nat.le_of_ble_eq_true rfl) ?_
  intro p e s m args below meth cd A F hr hlk hnm
  refine g_eq rfl (L' := [(0, .ref (ad 0)), (1, .int (Int32.ofNat v))]) rfl rfl rfl ?_
  refine g_iload_n F dX7_down_0 1 rfl ?_
  refine f_callS F (av := [.int (Int32.ofNat v)]) (rest := []) (st' := [.int (Int32.ofNat (r_X7_out a v))]) (k_X7_out l D cI cS cZ ad a v) tb_430 tb_428 tb_429 tb_8 hdX7_out ⟨rfl, rfl⟩ ⟨Nat.le_of_ble_eq_true rfl, Nat.le_of_ble_eq_true rfl⟩ rw_adr rfl rfl (Nat.le_of_ble_eq_true rfl) ⟨Nat.le_refl _, Nat.le_refl _⟩ dX7_down_1 rfl ?_
  refine g_if_eq F dX7_down_4 (tgt := 9) rfl (fun h4 => ?_) (fun h4 => ?_)
  · refine g_aload_n F dX7_down_9 0 rfl ?_
    refine f_get F inX7 ql_RM rfl 0 (by decide) tb_357 rfl (v := .ref (ad 1)) rfl dX7_down_10 ?_
    refine g_iload_n F dX7_down_13 1 rfl ?_
    refine f_ald F 0 ql_0 rfl (j := v) (by have g0 := out0 h4 hk; have g1 := hq _ g0; have g2 := hq _ g1.2.2.1; omega) (by decide) dX7_down_14 ?_
    refine f_iconst F 2 dX7_down_15 rfl ?_
    refine g_icmp_ne F dX7_down_16 (tgt := 34) rfl (fun h16 => ?_) (fun h16 => ?_)
    · refine f_iconst F 0 dX7_down_34 rfl ?_
      exact g_iret F hr hlk dX7_down_35 ⟨congrArg (fun t => some (Value.int (Int32.ofNat t))) (Eq.symm (by unfold r_X7_down; first | simp only [if_pos h4, if_neg h16] | rfl)), congrArg (fun t => rwld cI cZ t ad) (Eq.symm (by unfold w_X7_down; first | simp only [if_pos h4, if_neg h16] | rfl))⟩
    · refine g_aload_n F dX7_down_19 0 rfl ?_
      refine f_get F inX7 ql_RM rfl 25 (by decide) tb_382 rfl (v := .ref (ad 26)) rfl dX7_down_20 ?_
      refine g_iload_n F dX7_down_23 1 rfl ?_
      refine f_ald F 0 ql_25 rfl (j := v) (by have g0 := out0 h4 hk; have g1 := hq _ g0; have g2 := hq _ g1.2.2.1; omega) (by decide) dX7_down_24 ?_
      refine g_aload_n F dX7_down_25 0 rfl ?_
      refine f_get F inX7 ql_RM rfl 24 (by decide) tb_381 rfl (v := .ref (ad 25)) rfl dX7_down_26 ?_
      refine g_iload_n F dX7_down_29 1 rfl ?_
      refine f_ald F 0 ql_24 rfl (j := v) (by have g0 := out0 h4 hk; have g1 := hq _ g0; have g2 := hq _ g1.2.2.1; omega) (by decide) dX7_down_30 ?_
      refine g_icmp_ne F dX7_down_31 (tgt := 36) rfl (fun h31 => ?_) (fun h31 => ?_)
      · have hn5 := (hn (out0 h4 hk) h16 h31).1
        have hn6 := (hn (out0 h4 hk) h16 h31).2
        refine g_aload_n F dX7_down_36 0 rfl ?_
        refine f_get F inX7 ql_RM rfl 14 (by decide) tb_371 rfl (v := .ref (ad 15)) rfl dX7_down_37 ?_
        refine g_iload_n F dX7_down_40 1 rfl ?_
        refine f_ald F 0 ql_14 rfl (j := v) (by have g0 := out0 h4 hk; have g1 := hq _ g0; have g2 := hq _ g1.2.2.1; omega) (by decide) dX7_down_41 ?_
        refine g_istore_n F [(2, .int (Int32.ofNat (a 14 v))), (0, .ref (ad 0)), (1, .int (Int32.ofNat v))] dX7_down_42 (by decide) rfl ?_
        refine f_bipush F 64 dX7_down_43 rfl ?_
        refine g_iload_n F dX7_down_45 2 rfl ?_
        refine f_mul F dX7_down_46 ?_
        refine g_aload_n F dX7_down_47 1 rfl ?_
        refine f_get F inX7 ql_RM rfl 25 (by decide) tb_382 rfl (v := .ref (ad 26)) rfl dX7_down_48 ?_
        refine g_iload_n F dX7_down_51 2 rfl ?_
        refine f_ald F 0 ql_25 rfl (j := v) (by have g0 := out0 h4 hk; have g1 := hq _ g0; have g2 := hq _ g1.2.2.1; omega) (by decide) dX7_down_52 ?_
        refine f_add F dX7_down_53 ?_
        refine g_istore_n F [(3, .int (Int32.ofNat ((64 * v) + (a 25 v)))), (2, .int (Int32.ofNat (a 14 v))), (0, .ref (ad 0)), (1, .int (Int32.ofNat v))] dX7_down_54 (by decide) rfl ?_
        refine g_aload_n F dX7_down_55 2 rfl ?_
        refine f_get F inX7 ql_RM rfl 22 (by decide) tb_379 rfl (v := .ref (ad 23)) rfl dX7_down_56 ?_
        refine g_iload_n F dX7_down_59 0 rfl ?_
        refine f_ald F 0 ql_22 rfl (j := (64 * v) + (a 25 v)) (by have g0 := out0 h4 hk; have g1 := hq _ g0; have g2 := hq _ g1.2.2.1; omega) (by decide) dX7_down_60 ?_
        refine g_istore F [(4, .int (Int32.ofNat (a 22 ((64 * v) + (a 25 v))))), (3, .int (Int32.ofNat ((64 * v) + (a 25 v)))), (2, .int (Int32.ofNat (a 14 v))), (0, .ref (ad 0)), (1, .int (Int32.ofNat v))] dX7_down_61 (by decide) rfl ?_
        refine g_aload_n F dX7_down_63 3 rfl ?_
        refine f_get F inX7 ql_RM rfl 23 (by decide) tb_380 rfl (v := .ref (ad 24)) rfl dX7_down_64 ?_
        refine g_iload_n F dX7_down_67 1 rfl ?_
        refine f_ald F 0 ql_23 rfl (j := (64 * v) + (a 25 v)) (by have g0 := out0 h4 hk; have g1 := hq _ g0; have g2 := hq _ g1.2.2.1; omega) (by decide) dX7_down_68 ?_
        refine g_istore F [(5, .int (Int32.ofNat (a 23 ((64 * v) + (a 25 v))))), (4, .int (Int32.ofNat (a 22 ((64 * v) + (a 25 v))))), (3, .int (Int32.ofNat ((64 * v) + (a 25 v)))), (2, .int (Int32.ofNat (a 14 v))), (0, .ref (ad 0)), (1, .int (Int32.ofNat v))] dX7_down_69 (by decide) rfl ?_
        refine g_aload_n F dX7_down_71 4 rfl ?_
        refine f_get F inX7 ql_RM rfl 25 (by decide) tb_382 rfl (v := .ref (ad 26)) rfl dX7_down_72 ?_
        refine g_iload_n F dX7_down_75 5 rfl ?_
        refine g_dup2 F dX7_down_76 rfl rfl ?_
        refine f_ald F 0 ql_25 rfl (j := v) (by have g0 := out0 h4 hk; have g1 := hq _ g0; have g2 := hq _ g1.2.2.1; omega) (by decide) dX7_down_77 ?_
        refine f_iconst F 1 dX7_down_78 rfl ?_
        refine f_add F dX7_down_79 ?_
        refine f_ast F 0 ql_25 rfl (j := v) (v := (a 25 v) + 1) (by have g0 := out0 h4 hk; have g1 := hq _ g0; have g2 := hq _ g1.2.2.1; omega) (by decide) dX7_down_80 qs_25 ?_
        refine g_iload F dX7_down_81 1 rfl ?_
        refine f_iconst F 4 dX7_down_83 rfl ?_
        refine g_icmp_ne F dX7_down_84 (tgt := 106) rfl (fun h84 => ?_) (fun h84 => ?_)
        · refine g_iload F dX7_down_106 1 rfl ?_
          refine f_iconst F 4 dX7_down_108 rfl ?_
          refine g_icmp_ne F dX7_down_109 (tgt := 145) rfl (fun h109 => ?_) (fun h109 => ?_)
          rotate_left
          · exact absurd h109 h84
          refine g_iload F dX7_down_145 1 rfl ?_
          refine f_iconst F 5 dX7_down_147 rfl ?_
          refine g_icmp_ne F dX7_down_148 (tgt := 182) rfl (fun h148 => ?_) (fun h148 => ?_)
          · refine g_iload F dX7_down_182 1 rfl ?_
            refine f_bipush F 6 dX7_down_184 rfl ?_
            refine g_icmp_ne F dX7_down_186 (tgt := 236) rfl (fun h186 => ?_) (fun h186 => ?_)
            · refine g_aload_n F dX7_down_236 4 rfl ?_
              refine f_get F inX7 ql_RM rfl 3 (by decide) tb_360 rfl (v := .ref (ad 4)) rfl dX7_down_237 ?_
              refine g_iload_n F dX7_down_240 5 rfl ?_
              refine g_iload F dX7_down_241 0 rfl ?_
              refine g_aload_n F dX7_down_243 4 rfl ?_
              refine f_get F inX7 ql_RM rfl 3 (by decide) tb_360 rfl (v := .ref (ad 4)) rfl dX7_down_244 ?_
              refine g_iload_n F dX7_down_247 5 rfl ?_
              refine f_ald F 0 ql_3 rfl (j := v) (by have g0 := out0 h4 hk; have g1 := hq _ g0; have g2 := hq _ g1.2.2.1; omega) (by decide) dX7_down_248 ?_
              refine g_eq rfl rfl (st' := [.int (Int32.ofNat (a 3 v)), .int (Int32.ofNat (a 23 ((64 * v) + (a 25 v)))), .int (Int32.ofNat v), .ref (ad 4)]) rfl rfl ?_
              refine g_icmp_le F dX7_down_249 (tgt := 257) rfl (fun h249 => ?_) (fun h249 => ?_)
              · refine g_aload_n F dX7_down_257 4 rfl ?_
                refine f_get F inX7 ql_RM rfl 3 (by decide) tb_360 rfl (v := .ref (ad 4)) rfl dX7_down_258 ?_
                refine g_iload_n F dX7_down_261 5 rfl ?_
                refine f_ald F 0 ql_3 rfl (j := v) (by have g0 := out0 h4 hk; have g1 := hq _ g0; have g2 := hq _ g1.2.2.1; omega) (by decide) dX7_down_262 ?_
                refine g_eq rfl rfl (st' := [.int (Int32.ofNat (a 3 v)), .int (Int32.ofNat v), .ref (ad 4)]) rfl rfl ?_
                refine f_ast F 0 ql_3 rfl (j := v) (v := a 3 v) (by have g0 := out0 h4 hk; have g1 := hq _ g0; have g2 := hq _ g1.2.2.1; omega) (by decide) dX7_down_263 qs_3 ?_
                refine g_iload F dX7_down_264 1 rfl ?_
                exact g_iret F hr hlk dX7_down_266 ⟨congrArg (fun t => some (Value.int (Int32.ofNat t))) (Eq.symm (by unfold r_X7_down; first | simp only [if_pos h4, if_pos h16, if_neg h31, if_neg h84, if_neg h148, if_neg h186, if_pos h249] | rfl)), congrArg (fun t => rwld cI cZ t ad) (Eq.symm (by unfold w_X7_down; first | simp only [if_pos h4, if_pos h16, if_neg h31, if_neg h84, if_neg h148, if_neg h186, if_pos h249] | rfl))⟩
              · refine g_iload F dX7_down_252 0 rfl ?_
                refine g_goto F dX7_down_254 (tgt := 263) rfl ?_
                refine f_ast F 0 ql_3 rfl (j := v) (v := a 23 ((64 * v) + (a 25 v))) (by have g0 := out0 h4 hk; have g1 := hq _ g0; have g2 := hq _ g1.2.2.1; omega) (by decide) dX7_down_263 qs_3 ?_
                refine g_iload F dX7_down_264 1 rfl ?_
                exact g_iret F hr hlk dX7_down_266 ⟨congrArg (fun t => some (Value.int (Int32.ofNat t))) (Eq.symm (by unfold r_X7_down; first | simp only [if_pos h4, if_pos h16, if_neg h31, if_neg h84, if_neg h148, if_neg h186, if_neg h249] | rfl)), congrArg (fun t => rwld cI cZ t ad) (Eq.symm (by unfold w_X7_down; first | simp only [if_pos h4, if_pos h16, if_neg h31, if_neg h84, if_neg h148, if_neg h186, if_neg h249] | rfl))⟩
            · refine g_aload_n F dX7_down_189 4 rfl ?_
              refine f_bipush F 24 dX7_down_190 rfl ?_
              refine g_iload_n F dX7_down_192 3 rfl ?_
              refine f_mul F dX7_down_193 ?_
              refine g_iload F dX7_down_194 0 rfl ?_
              refine f_add F dX7_down_196 ?_
              refine f_bipush F 24 dX7_down_197 rfl ?_
              refine g_iload_n F dX7_down_199 5 rfl ?_
              refine f_mul F dX7_down_200 ?_
              refine g_aload_n F dX7_down_201 4 rfl ?_
              refine f_get F inX7 ql_RM rfl 4 (by decide) tb_361 rfl (v := .ref (ad 5)) rfl dX7_down_202 ?_
              refine g_iload_n F dX7_down_205 5 rfl ?_
              refine f_ald F 0 ql_4 rfl (j := v) (by have g0 := out0 h4 hk; have g1 := hq _ g0; have g2 := hq _ g1.2.2.1; omega) (by decide) dX7_down_206 ?_
              refine g_eq rfl rfl (st' := [.int (Int32.ofNat (a 4 v)), .int (Int32.ofNat (24 * v)), .int (Int32.ofNat ((24 * (a 14 v)) + (a 23 ((64 * v) + (a 25 v))))), .ref (ad 0)]) rfl rfl ?_
              refine f_add F dX7_down_207 ?_
              refine f_callV F (As := [.int (Int32.ofNat ((24 * (a 14 v)) + (a 23 ((64 * v) + (a 25 v))))), .int (Int32.ofNat ((24 * v) + (a 4 v)))]) (rest := []) (st' := []) (k_X7_copyEntry l D cI cS cZ ad (su2 a 25 v ((a 25 v) + 1)) ((24 * (a 14 v)) + (a 23 ((64 * v) + (a 25 v)))) ((24 * v) + (a 4 v)) (by have := hn6 h186; have g1 := hq v (out0 h4 hk); omega) (by have := hn6 h186; have g0 := out0 h4 hk; exact (by omega : 24 * v + a 4 v < 72))) ql_RM rfl tb_480 tb_478 tb_479 tb_616 tb_8 ⟨rfl, hdX7_copyEntry⟩ ⟨rfl, rfl⟩ ⟨Nat.le_of_ble_eq_true rfl, Nat.le_of_ble_eq_true rfl⟩ rw_adr rfl rfl (Nat.le_of_ble_eq_true rfl) ⟨Nat.le_refl _, Nat.le_refl _⟩ dX7_down_208 rfl ?_
              refine g_aload_n F dX7_down_211 4 rfl ?_
              refine f_get F inX7 ql_RM rfl 4 (by decide) tb_361 rfl (v := .ref (ad 5)) rfl dX7_down_212 ?_
              refine g_iload_n F dX7_down_215 5 rfl ?_
              refine g_dup2 F dX7_down_216 rfl rfl ?_
              refine f_ald F 0 ql_4 rfl (j := v) (by have g0 := out0 h4 hk; have g1 := hq _ g0; have g2 := hq _ g1.2.2.1; omega) (by decide) dX7_down_217 ?_
              refine f_iconst F 1 dX7_down_218 rfl ?_
              refine f_add F dX7_down_219 ?_
              refine f_ast F 0 ql_4 rfl (j := v) (v := ((w_X7_copyEntry (su2 a 25 v ((a 25 v) + 1)) ((24 * (a 14 v)) + (a 23 ((64 * v) + (a 25 v)))) ((24 * v) + (a 4 v))) 4 v) + 1) (by have g0 := out0 h4 hk; have g1 := hq _ g0; have g2 := hq _ g1.2.2.1; omega) (by decide) dX7_down_220 qs_4 ?_
              refine g_aload_n F dX7_down_221 4 rfl ?_
              refine g_iload_n F dX7_down_222 5 rfl ?_
              refine f_iconst F 3 dX7_down_223 rfl ?_
              refine g_aload_n F dX7_down_224 4 rfl ?_
              refine f_get F inX7 ql_RM rfl 4 (by decide) tb_361 rfl (v := .ref (ad 5)) rfl dX7_down_225 ?_
              refine g_iload_n F dX7_down_228 5 rfl ?_
              refine f_ald F 0 ql_4 rfl (j := v) (by have g0 := out0 h4 hk; have g1 := hq _ g0; have g2 := hq _ g1.2.2.1; omega) (by decide) dX7_down_229 ?_
              refine g_eq rfl rfl (st' := [.int (Int32.ofNat ((su2 (w_X7_copyEntry (su2 a 25 v ((a 25 v) + 1)) ((24 * (a 14 v)) + (a 23 ((64 * v) + (a 25 v)))) ((24 * v) + (a 4 v))) 4 v (((w_X7_copyEntry (su2 a 25 v ((a 25 v) + 1)) ((24 * (a 14 v)) + (a 23 ((64 * v) + (a 25 v)))) ((24 * v) + (a 4 v))) 4 v) + 1)) 4 v)), .int (Int32.ofNat 3), .int (Int32.ofNat v), .ref (ad 0)]) rfl rfl ?_
              refine g_eq rfl rfl (st' := [.int (Int32.ofNat (((w_X7_copyEntry (su2 a 25 v ((a 25 v) + 1)) ((24 * (a 14 v)) + (a 23 ((64 * v) + (a 25 v)))) ((24 * v) + (a 4 v))) 4 v) + 1)), .int (Int32.ofNat 3), .int (Int32.ofNat v), .ref (ad 0)]) (by rw [su2_same]) rfl ?_
              refine f_callV F (As := [.int (Int32.ofNat v), .int (Int32.ofNat 3), .int (Int32.ofNat (((w_X7_copyEntry (su2 a 25 v ((a 25 v) + 1)) ((24 * (a 14 v)) + (a 23 ((64 * v) + (a 25 v)))) ((24 * v) + (a 4 v))) 4 v) + 1))]) (rest := []) (st' := []) (k_X7_sendUp l D cI cS cZ ad (su2 (w_X7_copyEntry (su2 a 25 v ((a 25 v) + 1)) ((24 * (a 14 v)) + (a 23 ((64 * v) + (a 25 v)))) ((24 * v) + (a 4 v))) 4 v (((w_X7_copyEntry (su2 a 25 v ((a 25 v) + 1)) ((24 * (a 14 v)) + (a 23 ((64 * v) + (a 25 v)))) ((24 * v) + (a 4 v))) 4 v) + 1)) v 3 (((w_X7_copyEntry (su2 a 25 v ((a 25 v) + 1)) ((24 * (a 14 v)) + (a 23 ((64 * v) + (a 25 v)))) ((24 * v) + (a 4 v))) 4 v) + 1) (out0 h4 hk) (by have := hq v (out0 h4 hk); omega : a 20 v ≤ 63)) ql_RM rfl tb_440 tb_438 tb_439 tb_608 tb_8 ⟨rfl, hdX7_sendUp⟩ ⟨rfl, rfl⟩ ⟨Nat.le_of_ble_eq_true rfl, Nat.le_of_ble_eq_true rfl⟩ rw_adr rfl rfl (Nat.le_of_ble_eq_true rfl) ⟨Nat.le_refl _, Nat.le_refl _⟩ dX7_down_230 rfl ?_
              refine g_goto F dX7_down_233 (tgt := 264) rfl ?_
              refine g_iload F dX7_down_264 1 rfl ?_
              exact g_iret F hr hlk dX7_down_266 ⟨congrArg (fun t => some (Value.int (Int32.ofNat t))) (Eq.symm (by unfold r_X7_down; first | simp only [if_pos h4, if_pos h16, if_neg h31, if_neg h84, if_neg h148, if_pos h186] | rfl)), congrArg (fun t => rwld cI cZ t ad) (Eq.symm (by unfold w_X7_down; first | simp only [if_pos h4, if_pos h16, if_neg h31, if_neg h84, if_neg h148, if_pos h186] | rfl))⟩
          · refine g_aload_n F dX7_down_151 4 rfl ?_
            refine f_get F inX7 ql_RM rfl 2 (by decide) tb_359 rfl (v := .ref (ad 3)) rfl dX7_down_152 ?_
            refine g_iload_n F dX7_down_155 5 rfl ?_
            refine g_aload_n F dX7_down_156 4 rfl ?_
            refine f_get F inX7 ql_RM rfl 1 (by decide) tb_358 rfl (v := .ref (ad 2)) rfl dX7_down_157 ?_
            refine g_iload_n F dX7_down_160 5 rfl ?_
            refine f_ald F 0 ql_1 rfl (j := v) (by have g0 := out0 h4 hk; have g1 := hq _ g0; have g2 := hq _ g1.2.2.1; omega) (by decide) dX7_down_161 ?_
            refine g_eq rfl rfl (st' := [.int (Int32.ofNat (a 1 v)), .int (Int32.ofNat v), .ref (ad 3)]) rfl rfl ?_
            refine f_ast F 0 ql_2 rfl (j := v) (v := a 1 v) (by have g0 := out0 h4 hk; have g1 := hq _ g0; have g2 := hq _ g1.2.2.1; omega) (by decide) dX7_down_162 qs_2 ?_
            refine g_aload_n F dX7_down_163 4 rfl ?_
            refine g_iload_n F dX7_down_164 3 rfl ?_
            refine g_iload_n F dX7_down_165 5 rfl ?_
            refine g_iload F dX7_down_166 0 rfl ?_
            refine f_callV F (As := [.int (Int32.ofNat (a 14 v)), .int (Int32.ofNat v), .int (Int32.ofNat (a 23 ((64 * v) + (a 25 v))))]) (rest := []) (st' := []) (k_X7_copy l D cI cS cZ ad (su2 (su2 a 25 v ((a 25 v) + 1)) 2 v (a 1 v)) (a 14 v) v (a 23 ((64 * v) + (a 25 v))) (hq v (out0 h4 hk)).2.2.1 (out0 h4 hk) (hn5 h148)) ql_RM rfl tb_477 tb_475 tb_476 tb_615 tb_8 ⟨rfl, hdX7_copy⟩ ⟨rfl, rfl⟩ ⟨Nat.le_of_ble_eq_true rfl, Nat.le_of_ble_eq_true rfl⟩ rw_adr rfl rfl (Nat.le_of_ble_eq_true rfl) ⟨Nat.le_refl _, Nat.le_refl _⟩ dX7_down_168 rfl ?_
            refine g_aload_n F dX7_down_171 4 rfl ?_
            refine g_iload_n F dX7_down_172 5 rfl ?_
            refine f_iconst F 3 dX7_down_173 rfl ?_
            refine g_iload F dX7_down_174 0 rfl ?_
            refine f_callV F (As := [.int (Int32.ofNat v), .int (Int32.ofNat 3), .int (Int32.ofNat (a 23 ((64 * v) + (a 25 v))))]) (rest := []) (st' := []) (k_X7_sendUp l D cI cS cZ ad (w_X7_copy (su2 (su2 a 25 v ((a 25 v) + 1)) 2 v (a 1 v)) (a 14 v) v (a 23 ((64 * v) + (a 25 v)))) v 3 (a 23 ((64 * v) + (a 25 v))) (out0 h4 hk) (by rw [fr_copy (by decide)]; exact (by have := hq v (out0 h4 hk); omega : a 20 v ≤ 63))) ql_RM rfl tb_440 tb_438 tb_439 tb_608 tb_8 ⟨rfl, hdX7_sendUp⟩ ⟨rfl, rfl⟩ ⟨Nat.le_of_ble_eq_true rfl, Nat.le_of_ble_eq_true rfl⟩ rw_adr rfl rfl (Nat.le_of_ble_eq_true rfl) ⟨Nat.le_refl _, Nat.le_refl _⟩ dX7_down_176 rfl ?_
            refine g_goto F dX7_down_179 (tgt := 264) rfl ?_
            refine g_iload F dX7_down_264 1 rfl ?_
            exact g_iret F hr hlk dX7_down_266 ⟨congrArg (fun t => some (Value.int (Int32.ofNat t))) (Eq.symm (by unfold r_X7_down; first | simp only [if_pos h4, if_pos h16, if_neg h31, if_neg h84, if_pos h148] | rfl)), congrArg (fun t => rwld cI cZ t ad) (Eq.symm (by unfold w_X7_down; first | simp only [if_pos h4, if_pos h16, if_neg h31, if_neg h84, if_pos h148] | rfl))⟩
        · refine g_iload F dX7_down_87 0 rfl ?_
          refine g_aload_n F dX7_down_89 4 rfl ?_
          refine f_get F inX7 ql_RM rfl 1 (by decide) tb_358 rfl (v := .ref (ad 2)) rfl dX7_down_90 ?_
          refine g_iload_n F dX7_down_93 5 rfl ?_
          refine f_ald F 0 ql_1 rfl (j := v) (by have g0 := out0 h4 hk; have g1 := hq _ g0; have g2 := hq _ g1.2.2.1; omega) (by decide) dX7_down_94 ?_
          refine g_eq rfl rfl (st' := [.int (Int32.ofNat (a 1 v)), .int (Int32.ofNat (a 23 ((64 * v) + (a 25 v))))]) rfl rfl ?_
          refine g_icmp_ge F dX7_down_95 (tgt := 106) rfl (fun h95 => ?_) (fun h95 => ?_)
          · refine g_iload F dX7_down_106 1 rfl ?_
            refine f_iconst F 4 dX7_down_108 rfl ?_
            refine g_icmp_ne F dX7_down_109 (tgt := 145) rfl (fun h109 => ?_) (fun h109 => ?_)
            · exact absurd h84 h109
            refine g_aload_n F dX7_down_112 4 rfl ?_
            refine g_iload_n F dX7_down_113 5 rfl ?_
            refine f_iconst F 2 dX7_down_114 rfl ?_
            refine g_iload F dX7_down_115 0 rfl ?_
            refine g_aload_n F dX7_down_117 4 rfl ?_
            refine f_get F inX7 ql_RM rfl 1 (by decide) tb_358 rfl (v := .ref (ad 2)) rfl dX7_down_118 ?_
            refine g_iload_n F dX7_down_121 5 rfl ?_
            refine f_ald F 0 ql_1 rfl (j := v) (by have g0 := out0 h4 hk; have g1 := hq _ g0; have g2 := hq _ g1.2.2.1; omega) (by decide) dX7_down_122 ?_
            refine g_eq rfl rfl (st' := [.int (Int32.ofNat (a 1 v)), .int (Int32.ofNat (a 23 ((64 * v) + (a 25 v)))), .int (Int32.ofNat 2), .int (Int32.ofNat v), .ref (ad 0)]) rfl rfl ?_
            refine g_icmp_le F dX7_down_123 (tgt := 130) rfl (fun h123 => ?_) (fun h123 => ?_)
            · refine f_iconst F 0 dX7_down_130 rfl ?_
              refine f_callV F (As := [.int (Int32.ofNat v), .int (Int32.ofNat 2), .int (Int32.ofNat 0)]) (rest := []) (st' := []) (k_X7_sendUp l D cI cS cZ ad (su2 a 25 v ((a 25 v) + 1)) v 2 0 (out0 h4 hk) (by have := hq v (out0 h4 hk); omega : a 20 v ≤ 63)) ql_RM rfl tb_440 tb_438 tb_439 tb_608 tb_8 ⟨rfl, hdX7_sendUp⟩ ⟨rfl, rfl⟩ ⟨Nat.le_of_ble_eq_true rfl, Nat.le_of_ble_eq_true rfl⟩ rw_adr rfl rfl (Nat.le_of_ble_eq_true rfl) ⟨Nat.le_refl _, Nat.le_refl _⟩ dX7_down_131 rfl ?_
              refine g_aload_n F dX7_down_134 4 rfl ?_
              refine f_get F inX7 ql_RM rfl 1 (by decide) tb_358 rfl (v := .ref (ad 2)) rfl dX7_down_135 ?_
              refine g_iload_n F dX7_down_138 5 rfl ?_
              refine g_iload F dX7_down_139 0 rfl ?_
              refine f_ast F 0 ql_1 rfl (j := v) (v := a 23 ((64 * v) + (a 25 v))) (by have g0 := out0 h4 hk; have g1 := hq _ g0; have g2 := hq _ g1.2.2.1; omega) (by decide) dX7_down_141 qs_1 ?_
              refine g_goto F dX7_down_142 (tgt := 264) rfl ?_
              refine g_iload F dX7_down_264 1 rfl ?_
              exact g_iret F hr hlk dX7_down_266 ⟨congrArg (fun t => some (Value.int (Int32.ofNat t))) (Eq.symm (by unfold r_X7_down; first | simp only [if_pos h4, if_pos h16, if_neg h31, if_pos h84, if_pos h95, if_pos h123] | rfl)), congrArg (fun t => rwld cI cZ t ad) (Eq.symm (by unfold w_X7_down; first | simp only [if_pos h4, if_pos h16, if_neg h31, if_pos h84, if_pos h95, if_pos h123] | rfl))⟩
            · refine f_iconst F 1 dX7_down_126 rfl ?_
              refine g_goto F dX7_down_127 (tgt := 131) rfl ?_
              refine f_callV F (As := [.int (Int32.ofNat v), .int (Int32.ofNat 2), .int (Int32.ofNat 1)]) (rest := []) (st' := []) (k_X7_sendUp l D cI cS cZ ad (su2 a 25 v ((a 25 v) + 1)) v 2 1 (out0 h4 hk) (by have := hq v (out0 h4 hk); omega : a 20 v ≤ 63)) ql_RM rfl tb_440 tb_438 tb_439 tb_608 tb_8 ⟨rfl, hdX7_sendUp⟩ ⟨rfl, rfl⟩ ⟨Nat.le_of_ble_eq_true rfl, Nat.le_of_ble_eq_true rfl⟩ rw_adr rfl rfl (Nat.le_of_ble_eq_true rfl) ⟨Nat.le_refl _, Nat.le_refl _⟩ dX7_down_131 rfl ?_
              refine g_aload_n F dX7_down_134 4 rfl ?_
              refine f_get F inX7 ql_RM rfl 1 (by decide) tb_358 rfl (v := .ref (ad 2)) rfl dX7_down_135 ?_
              refine g_iload_n F dX7_down_138 5 rfl ?_
              refine g_iload F dX7_down_139 0 rfl ?_
              refine f_ast F 0 ql_1 rfl (j := v) (v := a 23 ((64 * v) + (a 25 v))) (by have g0 := out0 h4 hk; have g1 := hq _ g0; have g2 := hq _ g1.2.2.1; omega) (by decide) dX7_down_141 qs_1 ?_
              refine g_goto F dX7_down_142 (tgt := 264) rfl ?_
              refine g_iload F dX7_down_264 1 rfl ?_
              exact g_iret F hr hlk dX7_down_266 ⟨congrArg (fun t => some (Value.int (Int32.ofNat t))) (Eq.symm (by unfold r_X7_down; first | simp only [if_pos h4, if_pos h16, if_neg h31, if_pos h84, if_pos h95, if_neg h123] | rfl)), congrArg (fun t => rwld cI cZ t ad) (Eq.symm (by unfold w_X7_down; first | simp only [if_pos h4, if_pos h16, if_neg h31, if_pos h84, if_pos h95, if_neg h123] | rfl))⟩
          · refine g_aload_n F dX7_down_98 4 rfl ?_
            refine g_iload_n F dX7_down_99 5 rfl ?_
            refine f_callV F (As := [.int (Int32.ofNat v)]) (rest := []) (st' := []) (k_X7_cut l D cI cS cZ ad (su2 a 25 v ((a 25 v) + 1)) v (out0 h4 hk)) ql_RM rfl tb_437 tb_435 tb_436 tb_607 tb_8 ⟨rfl, hdX7_cut⟩ ⟨rfl, rfl⟩ ⟨Nat.le_of_ble_eq_true rfl, Nat.le_of_ble_eq_true rfl⟩ rw_adr rfl rfl (Nat.le_of_ble_eq_true rfl) ⟨Nat.le_refl _, Nat.le_refl _⟩ dX7_down_100 rfl ?_
            refine g_goto F dX7_down_103 (tgt := 264) rfl ?_
            refine g_iload F dX7_down_264 1 rfl ?_
            exact g_iret F hr hlk dX7_down_266 ⟨congrArg (fun t => some (Value.int (Int32.ofNat t))) (Eq.symm (by unfold r_X7_down; first | simp only [if_pos h4, if_pos h16, if_neg h31, if_pos h84, if_neg h95] | rfl)), congrArg (fun t => rwld cI cZ t ad) (Eq.symm (by unfold w_X7_down; first | simp only [if_pos h4, if_pos h16, if_neg h31, if_pos h84, if_neg h95] | rfl))⟩
      · refine f_iconst F 0 dX7_down_34 rfl ?_
        exact g_iret F hr hlk dX7_down_35 ⟨congrArg (fun t => some (Value.int (Int32.ofNat t))) (Eq.symm (by unfold r_X7_down; first | simp only [if_pos h4, if_pos h16, if_pos h31] | rfl)), congrArg (fun t => rwld cI cZ t ad) (Eq.symm (by unfold w_X7_down; first | simp only [if_pos h4, if_pos h16, if_pos h31] | rfl))⟩
  · refine f_iconst F 0 dX7_down_7 rfl ?_
    exact g_iret F hr hlk dX7_down_8 ⟨congrArg (fun t => some (Value.int (Int32.ofNat t))) (Eq.symm (by unfold r_X7_down; first | simp only [if_neg h4] | rfl)), congrArg (fun t => rwld cI cZ t ad) (Eq.symm (by unfold w_X7_down; first | simp only [if_neg h4] | rfl))⟩
def r_X7_mark (a : RS) (v k : Nat) : Nat := if Int32.ofNat (r_X7_out a v) = 0 then (if Int32.ofNat k < Int32.ofNat 1 then 0 else (if Int32.ofNat k ≤ Int32.ofNat (a 4 v) then (a 5 (((24 * v) + k) - 1)) else 0)) else 0
abbrev rm_X7_mark : Room := { frames := 1, cells := 0, slots := 0, locals := 20 }
set_option maxHeartbeats 4000000 in
set_option maxRecDepth 100000 in
theorem k_X7_mark (l : Launch) (D : va_G) (cI cS cZ : ClassId) (ad : Nat → Nat) (a : RS) (v k : Nat) (hk : v < 4294967296) (hk2 : k < 4294967296) (hq : RQ a) : gN l yX7_mark (Cond.code yX7_mark cX7_mark 3 (some .int) :: tb) rm_X7_mark D cls8 (tys3 cI cS cZ) [.ref (ad 0), .int (Int32.ofNat v), .int (Int32.ofNat k)] (rwld cI cZ a ad) (some (.int (Int32.ofNat (r_X7_mark a v k)))) (rwld cI cZ a ad) := by
  unfold gN
  refine g_head (by decide) rfl (Nat.le_of_ble_eq_true rfl) ?_
  intro p e s m args below meth cd A F hr hlk hnm
  refine g_eq rfl (L' := [(0, .ref (ad 0)), (1, .int (Int32.ofNat v)), (2, .int (Int32.ofNat k))]) rfl rfl rfl ?_
  refine g_iload_n F dX7_mark_0 1 rfl ?_
  refine f_callS F (av := [.int (Int32.ofNat v)]) (rest := []) (st' := [.int (Int32.ofNat (r_X7_out a v))]) (k_X7_out l D cI cS cZ ad a v) tb_430 tb_428 tb_429 tb_8 hdX7_out ⟨rfl, rfl⟩ ⟨Nat.le_of_ble_eq_true rfl, Nat.le_of_ble_eq_true rfl⟩ rw_adr rfl rfl (Nat.le_of_ble_eq_true rfl) ⟨Nat.le_refl _, Nat.le_refl _⟩ dX7_mark_1 rfl ?_
  refine g_if_eq F dX7_mark_4 (tgt := 9) rfl (fun h4 => ?_) (fun h4 => ?_)
  · refine g_iload_n F dX7_mark_9 2 rfl ?_
    refine f_iconst F 1 dX7_mark_10 rfl ?_
    refine g_icmp_lt F dX7_mark_11 (tgt := 24) rfl (fun h11 => ?_) (fun h11 => ?_)
    · refine f_iconst F 0 dX7_mark_24 rfl ?_
      refine g_goto F dX7_mark_25 (tgt := 41) rfl ?_
      exact g_iret F hr hlk dX7_mark_41 ⟨congrArg (fun t => some (Value.int (Int32.ofNat t))) (Eq.symm (by unfold r_X7_mark; first | simp only [if_pos h4, if_pos h11] | rfl)), rfl⟩
    · refine g_iload_n F dX7_mark_14 2 rfl ?_
      refine g_aload_n F dX7_mark_15 0 rfl ?_
      refine f_get F inX7 ql_RM rfl 4 (by decide) tb_361 rfl (v := .ref (ad 5)) rfl dX7_mark_16 ?_
      refine g_iload_n F dX7_mark_19 1 rfl ?_
      refine f_ald F 0 ql_4 rfl (j := v) (by have g0 := out0 h4 hk; have g1 := hq _ g0; have g2 := hq _ g1.2.2.1; omega) (by decide) dX7_mark_20 ?_
      refine g_icmp_le F dX7_mark_21 (tgt := 28) rfl (fun h21 => ?_) (fun h21 => ?_)
      · refine g_aload_n F dX7_mark_28 0 rfl ?_
        refine f_get F inX7 ql_RM rfl 5 (by decide) tb_362 rfl (v := .ref (ad 6)) rfl dX7_mark_29 ?_
        refine f_bipush F 24 dX7_mark_32 rfl ?_
        refine g_iload_n F dX7_mark_34 1 rfl ?_
        refine f_mul F dX7_mark_35 ?_
        refine g_iload_n F dX7_mark_36 2 rfl ?_
        refine f_add F dX7_mark_37 ?_
        refine f_iconst F 1 dX7_mark_38 rfl ?_
        refine f_sub F (by have := code_ge h11 hk2 (by decide); omega) dX7_mark_39 ?_
        refine f_ald F 0 ql_5 rfl (j := ((24 * v) + k) - 1) (by have g0 := out0 h4 hk; have g1 := hq _ g0; have g2 := code_ge h11 hk2 (by decide); have g3 := (ofN_le g2.2 (by omega)).mp h21; omega) (by decide) dX7_mark_40 ?_
        exact g_iret F hr hlk dX7_mark_41 ⟨congrArg (fun t => some (Value.int (Int32.ofNat t))) (Eq.symm (by unfold r_X7_mark; first | simp only [if_pos h4, if_neg h11, if_pos h21] | rfl)), rfl⟩
      · refine f_iconst F 0 dX7_mark_24 rfl ?_
        refine g_goto F dX7_mark_25 (tgt := 41) rfl ?_
        exact g_iret F hr hlk dX7_mark_41 ⟨congrArg (fun t => some (Value.int (Int32.ofNat t))) (Eq.symm (by unfold r_X7_mark; first | simp only [if_pos h4, if_neg h11, if_neg h21] | rfl)), rfl⟩
  · refine f_iconst F 0 dX7_mark_7 rfl ?_
    exact g_iret F hr hlk dX7_mark_8 ⟨congrArg (fun t => some (Value.int (Int32.ofNat t))) (Eq.symm (by unfold r_X7_mark; first | simp only [if_neg h4] | rfl)), rfl⟩
def r_X7_result (a : RS) (v k : Nat) : Nat := if Int32.ofNat (r_X7_out a v) = 0 then (if Int32.ofNat k < Int32.ofNat 1 then 4294967295 else (if Int32.ofNat k ≤ Int32.ofNat (a 3 v) then ((w_X7_work a v) 31 (k - 1)) else 4294967295)) else 4294967295
def w_X7_result (a : RS) (v k : Nat) : RS := if Int32.ofNat (r_X7_out a v) = 0 then (if Int32.ofNat k < Int32.ofNat 1 then a else (if Int32.ofNat k ≤ Int32.ofNat (a 3 v) then (w_X7_work a v) else a)) else a
abbrev rm_X7_result : Room := { frames := 3, cells := 0, slots := 0, locals := 73 }
set_option maxHeartbeats 4000000 in
set_option maxRecDepth 100000 in
theorem k_X7_result (l : Launch) (D : va_G) (cI cS cZ : ClassId) (ad : Nat → Nat) (a : RS) (v k : Nat) (hk : v < 4294967296) (hk2 : k < 4294967296) (hq : RQ a) (hev : ∀ s, s < 3 → EVa a s) : gN l yX7_result (Cond.code yX7_result cX7_result 3 (some .int) :: tb) rm_X7_result D cls8 (tys3 cI cS cZ) [.ref (ad 0), .int (Int32.ofNat v), .int (Int32.ofNat k)] (rwld cI cZ a ad) (some (.int (Int32.ofNat (r_X7_result a v k)))) (rwld cI cZ (w_X7_result a v k) ad) := by
  unfold gN
  refine g_head (by decide) rfl (Nat.le_of_ble_eq_true rfl) ?_
  intro p e s m args below meth cd A F hr hlk hnm
  refine g_eq rfl (L' := [(0, .ref (ad 0)), (1, .int (Int32.ofNat v)), (2, .int (Int32.ofNat k))]) rfl rfl rfl ?_
  refine g_iload_n F dX7_result_0 1 rfl ?_
  refine f_callS F (av := [.int (Int32.ofNat v)]) (rest := []) (st' := [.int (Int32.ofNat (r_X7_out a v))]) (k_X7_out l D cI cS cZ ad a v) tb_430 tb_428 tb_429 tb_8 hdX7_out ⟨rfl, rfl⟩ ⟨Nat.le_of_ble_eq_true rfl, Nat.le_of_ble_eq_true rfl⟩ rw_adr rfl rfl (Nat.le_of_ble_eq_true rfl) ⟨Nat.le_refl _, Nat.le_refl _⟩ dX7_result_1 rfl ?_
  refine g_if_eq F dX7_result_4 (tgt := 9) rfl (fun h4 => ?_) (fun h4 => ?_)
  · refine g_iload_n F dX7_result_9 2 rfl ?_
    refine f_iconst F 1 dX7_result_10 rfl ?_
    refine g_icmp_lt F dX7_result_11 (tgt := 24) rfl (fun h11 => ?_) (fun h11 => ?_)
    · refine f_iconst F 4294967295 dX7_result_24 rfl ?_
      exact g_iret F hr hlk dX7_result_25 ⟨congrArg (fun t => some (Value.int (Int32.ofNat t))) (Eq.symm (by unfold r_X7_result; first | simp only [if_pos h4, if_pos h11] | rfl)), congrArg (fun t => rwld cI cZ t ad) (Eq.symm (by unfold w_X7_result; first | simp only [if_pos h4, if_pos h11] | rfl))⟩
    · refine g_iload_n F dX7_result_14 2 rfl ?_
      refine g_aload_n F dX7_result_15 0 rfl ?_
      refine f_get F inX7 ql_RM rfl 3 (by decide) tb_360 rfl (v := .ref (ad 4)) rfl dX7_result_16 ?_
      refine g_iload_n F dX7_result_19 1 rfl ?_
      refine f_ald F 0 ql_3 rfl (j := v) (by have g0 := out0 h4 hk; have g1 := hq _ g0; have g2 := hq _ g1.2.2.1; omega) (by decide) dX7_result_20 ?_
      refine g_icmp_le F dX7_result_21 (tgt := 26) rfl (fun h21 => ?_) (fun h21 => ?_)
      · refine g_aload_n F dX7_result_26 0 rfl ?_
        refine g_iload_n F dX7_result_27 1 rfl ?_
        refine f_callV F (As := [.int (Int32.ofNat v)]) (rest := []) (st' := []) (k_X7_work l D cI cS cZ ad a v (out0 h4 hk) (by have := hq v (out0 h4 hk); omega) (hev v (out0 h4 hk))) ql_RM rfl tb_504 tb_502 tb_503 tb_619 tb_8 ⟨rfl, hdX7_work⟩ ⟨rfl, rfl⟩ ⟨Nat.le_of_ble_eq_true rfl, Nat.le_of_ble_eq_true rfl⟩ rw_adr rfl rfl (Nat.le_of_ble_eq_true rfl) ⟨Nat.le_refl _, Nat.le_refl _⟩ dX7_result_28 rfl ?_
        refine g_aload_n F dX7_result_31 0 rfl ?_
        refine f_get F inX7 ql_RM rfl 32 (by decide) tb_389 rfl (v := .ref (ad 32)) rfl dX7_result_32 ?_
        refine g_iload_n F dX7_result_35 2 rfl ?_
        refine f_iconst F 1 dX7_result_36 rfl ?_
        refine f_sub F (code_ge h11 hk2 (by decide)).1 dX7_result_37 ?_
        refine f_ald F 0 ql_31 rfl (j := k - 1) (by have g0 := out0 h4 hk; have g1 := hq _ g0; have g2 := code_ge h11 hk2 (by decide); have g3 := (ofN_le g2.2 (by omega)).mp h21; omega) (by decide) dX7_result_38 ?_
        exact g_iret F hr hlk dX7_result_39 ⟨congrArg (fun t => some (Value.int (Int32.ofNat t))) (Eq.symm (by unfold r_X7_result; first | simp only [if_pos h4, if_neg h11, if_pos h21] | rfl)), congrArg (fun t => rwld cI cZ t ad) (Eq.symm (by unfold w_X7_result; first | simp only [if_pos h4, if_neg h11, if_pos h21] | rfl))⟩
      · refine f_iconst F 4294967295 dX7_result_24 rfl ?_
        exact g_iret F hr hlk dX7_result_25 ⟨congrArg (fun t => some (Value.int (Int32.ofNat t))) (Eq.symm (by unfold r_X7_result; first | simp only [if_pos h4, if_neg h11, if_neg h21] | rfl)), congrArg (fun t => rwld cI cZ t ad) (Eq.symm (by unfold w_X7_result; first | simp only [if_pos h4, if_neg h11, if_neg h21] | rfl))⟩
  · refine f_iconst F 4294967295 dX7_result_7 rfl ?_
    exact g_iret F hr hlk dX7_result_8 ⟨congrArg (fun t => some (Value.int (Int32.ofNat t))) (Eq.symm (by unfold r_X7_result; first | simp only [if_neg h4] | rfl)), congrArg (fun t => rwld cI cZ t ad) (Eq.symm (by unfold w_X7_result; first | simp only [if_neg h4] | rfl))⟩
def r_X7_touch (a : RS) (v w : Nat) : Nat := if Int32.ofNat (r_X7_out a v) = 0 then (if Int32.ofNat w < Int32.ofNat 1 then 0 else (if Int32.ofNat w ≤ Int32.ofNat 4 then (if Int32.ofNat ((w_X7_work a v) 0 v) = Int32.ofNat 4 then (if Int32.ofNat ((w_X7_work a v) 30 w) = 0 then 0 else 1) else 0) else 0)) else 0
def w_X7_touch (a : RS) (v w : Nat) : RS := if Int32.ofNat (r_X7_out a v) = 0 then (if Int32.ofNat w < Int32.ofNat 1 then a else (if Int32.ofNat w ≤ Int32.ofNat 4 then (if Int32.ofNat ((w_X7_work a v) 0 v) = Int32.ofNat 4 then (if Int32.ofNat ((w_X7_work a v) 30 w) = 0 then (w_X7_work a v) else (su2 (w_X7_work a v) 13 ((5 * v) + w) 0)) else (w_X7_work a v)) else a)) else a
abbrev rm_X7_touch : Room := { frames := 3, cells := 0, slots := 0, locals := 73 }
set_option maxHeartbeats 4000000 in
set_option maxRecDepth 100000 in
theorem k_X7_touch (l : Launch) (D : va_G) (cI cS cZ : ClassId) (ad : Nat → Nat) (a : RS) (v w : Nat) (hk : v < 4294967296) (hk2 : w < 4294967296) (hq : RQ a) (hev : ∀ s, s < 3 → EVa a s) : gN l yX7_touch (Cond.code yX7_touch cX7_touch 3 (some .boolean) :: tb) rm_X7_touch D cls8 (tys3 cI cS cZ) [.ref (ad 0), .int (Int32.ofNat v), .int (Int32.ofNat w)] (rwld cI cZ a ad) (some (.int (Int32.ofNat (r_X7_touch a v w)))) (rwld cI cZ (w_X7_touch a v w) ad) := by
  unfold gN
  refine g_head (by decide) rfl (Nat.le_of_ble_eq_true rfl) ?_
  intro p e s m args below meth cd A F hr hlk hnm
  refine g_eq rfl (L' := [(0, .ref (ad 0)), (1, .int (Int32.ofNat v)), (2, .int (Int32.ofNat w))]) rfl rfl rfl ?_
  refine g_iload_n F dX7_touch_0 1 rfl ?_
  refine f_callS F (av := [.int (Int32.ofNat v)]) (rest := []) (st' := [.int (Int32.ofNat (r_X7_out a v))]) (k_X7_out l D cI cS cZ ad a v) tb_430 tb_428 tb_429 tb_8 hdX7_out ⟨rfl, rfl⟩ ⟨Nat.le_of_ble_eq_true rfl, Nat.le_of_ble_eq_true rfl⟩ rw_adr rfl rfl (Nat.le_of_ble_eq_true rfl) ⟨Nat.le_refl _, Nat.le_refl _⟩ dX7_touch_1 rfl ?_
  refine g_if_ne F dX7_touch_4 (tgt := 17) rfl (fun h4 => ?_) (fun h4 => ?_)
  · refine f_iconst F 0 dX7_touch_17 rfl ?_
    exact g_zret F hr hlk rfl dX7_touch_18 ⟨congrArg (fun t => some (Value.int (Int32.ofNat t))) (Eq.symm (by unfold r_X7_touch; first | simp only [if_neg h4] | rfl)), congrArg (fun t => rwld cI cZ t ad) (Eq.symm (by unfold w_X7_touch; first | simp only [if_neg h4] | rfl))⟩
  · refine g_iload_n F dX7_touch_7 2 rfl ?_
    refine f_iconst F 1 dX7_touch_8 rfl ?_
    refine g_icmp_lt F dX7_touch_9 (tgt := 17) rfl (fun h9 => ?_) (fun h9 => ?_)
    · refine f_iconst F 0 dX7_touch_17 rfl ?_
      exact g_zret F hr hlk rfl dX7_touch_18 ⟨congrArg (fun t => some (Value.int (Int32.ofNat t))) (Eq.symm (by unfold r_X7_touch; first | simp only [if_pos h4, if_pos h9] | rfl)), congrArg (fun t => rwld cI cZ t ad) (Eq.symm (by unfold w_X7_touch; first | simp only [if_pos h4, if_pos h9] | rfl))⟩
    · refine g_iload_n F dX7_touch_12 2 rfl ?_
      refine f_iconst F 4 dX7_touch_13 rfl ?_
      refine g_icmp_le F dX7_touch_14 (tgt := 19) rfl (fun h14 => ?_) (fun h14 => ?_)
      · refine g_aload_n F dX7_touch_19 0 rfl ?_
        refine g_iload_n F dX7_touch_20 1 rfl ?_
        refine f_callV F (As := [.int (Int32.ofNat v)]) (rest := []) (st' := []) (k_X7_work l D cI cS cZ ad a v (out0 h4 hk) (by have := hq v (out0 h4 hk); omega) (hev v (out0 h4 hk))) ql_RM rfl tb_504 tb_502 tb_503 tb_619 tb_8 ⟨rfl, hdX7_work⟩ ⟨rfl, rfl⟩ ⟨Nat.le_of_ble_eq_true rfl, Nat.le_of_ble_eq_true rfl⟩ rw_adr rfl rfl (Nat.le_of_ble_eq_true rfl) ⟨Nat.le_refl _, Nat.le_refl _⟩ dX7_touch_21 rfl ?_
        refine g_aload_n F dX7_touch_24 0 rfl ?_
        refine f_get F inX7 ql_RM rfl 0 (by decide) tb_357 rfl (v := .ref (ad 1)) rfl dX7_touch_25 ?_
        refine g_iload_n F dX7_touch_28 1 rfl ?_
        refine f_ald F 0 ql_0 rfl (j := v) (by have g0 := out0 h4 hk; have g2 := code_ge h9 hk2 (by decide); have g3 := (ofN_le g2.2 (by decide)).mp h14; omega) (by decide) dX7_touch_29 ?_
        refine f_iconst F 4 dX7_touch_30 rfl ?_
        refine g_icmp_ne F dX7_touch_31 (tgt := 43) rfl (fun h31 => ?_) (fun h31 => ?_)
        · refine f_iconst F 0 dX7_touch_43 rfl ?_
          exact g_zret F hr hlk rfl dX7_touch_44 ⟨congrArg (fun t => some (Value.int (Int32.ofNat t))) (Eq.symm (by unfold r_X7_touch; first | simp only [if_pos h4, if_neg h9, if_pos h14, if_neg h31] | rfl)), congrArg (fun t => rwld cI cZ t ad) (Eq.symm (by unfold w_X7_touch; first | simp only [if_pos h4, if_neg h9, if_pos h14, if_neg h31] | rfl))⟩
        · refine g_aload_n F dX7_touch_34 0 rfl ?_
          refine f_get F inX7 ql_RM rfl 31 (by decide) tb_388 rfl (v := .ref (ad 31)) rfl dX7_touch_35 ?_
          refine g_iload_n F dX7_touch_38 2 rfl ?_
          refine f_zald F 2 ql_30 rfl (j := w) (by have g0 := out0 h4 hk; have g2 := code_ge h9 hk2 (by decide); have g3 := (ofN_le g2.2 (by decide)).mp h14; omega) (by decide) dX7_touch_39 ?_
          refine g_if_ne F dX7_touch_40 (tgt := 45) rfl (fun h40 => ?_) (fun h40 => ?_)
          · refine g_aload_n F dX7_touch_45 0 rfl ?_
            refine f_get F inX7 ql_RM rfl 13 (by decide) tb_370 rfl (v := .ref (ad 14)) rfl dX7_touch_46 ?_
            refine f_iconst F 5 dX7_touch_49 rfl ?_
            refine g_iload_n F dX7_touch_50 1 rfl ?_
            refine f_mul F dX7_touch_51 ?_
            refine g_iload_n F dX7_touch_52 2 rfl ?_
            refine f_add F dX7_touch_53 ?_
            refine f_iconst F 0 dX7_touch_54 rfl ?_
            refine f_ast F 0 ql_13 rfl (j := (5 * v) + w) (v := 0) (by have g0 := out0 h4 hk; have g2 := code_ge h9 hk2 (by decide); have g3 := (ofN_le g2.2 (by decide)).mp h14; omega) (by decide) dX7_touch_55 qs_13 ?_
            refine f_iconst F 1 dX7_touch_56 rfl ?_
            exact g_zret F hr hlk rfl dX7_touch_57 ⟨congrArg (fun t => some (Value.int (Int32.ofNat t))) (Eq.symm (by unfold r_X7_touch; first | simp only [if_pos h4, if_neg h9, if_pos h14, if_pos h31, if_neg h40] | rfl)), congrArg (fun t => rwld cI cZ t ad) (Eq.symm (by unfold w_X7_touch; first | simp only [if_pos h4, if_neg h9, if_pos h14, if_pos h31, if_neg h40] | rfl))⟩
          · refine f_iconst F 0 dX7_touch_43 rfl ?_
            exact g_zret F hr hlk rfl dX7_touch_44 ⟨congrArg (fun t => some (Value.int (Int32.ofNat t))) (Eq.symm (by unfold r_X7_touch; first | simp only [if_pos h4, if_neg h9, if_pos h14, if_pos h31, if_pos h40] | rfl)), congrArg (fun t => rwld cI cZ t ad) (Eq.symm (by unfold w_X7_touch; first | simp only [if_pos h4, if_neg h9, if_pos h14, if_pos h31, if_pos h40] | rfl))⟩
      · refine f_iconst F 0 dX7_touch_17 rfl ?_
        exact g_zret F hr hlk rfl dX7_touch_18 ⟨congrArg (fun t => some (Value.int (Int32.ofNat t))) (Eq.symm (by unfold r_X7_touch; first | simp only [if_pos h4, if_neg h9, if_neg h14] | rfl)), congrArg (fun t => rwld cI cZ t ad) (Eq.symm (by unfold w_X7_touch; first | simp only [if_pos h4, if_neg h9, if_neg h14] | rfl))⟩
def r_X7_node (a : RS) (v pa wh : Nat) : Nat := if Int32.ofNat (r_X7_out a v) = 0 then (if Int32.ofNat pa < 0 then 0 else (if Int32.ofNat 511 < Int32.ofNat pa then 0 else (if Int32.ofNat wh < 0 then 0 else (if Int32.ofNat wh ≤ Int32.ofNat 4 then (if Int32.ofNat pa = 0 then (if Int32.ofNat wh = 0 then 1 else (if Int32.ofNat wh = Int32.ofNat 3 then (r_X7_children (w_X7_work a v) pa) else 0)) else (if 0 ≤ Int32.ofNat (r_X7_find (w_X7_work a v) pa) then (if Int32.ofNat wh = 0 then 1 else (if Int32.ofNat wh = Int32.ofNat 3 then (r_X7_children (w_X7_work a v) pa) else (if Int32.ofNat wh = Int32.ofNat 1 then ((w_X7_work a v) 27 (r_X7_find (w_X7_work a v) pa)) else (if Int32.ofNat wh = Int32.ofNat 2 then ((w_X7_work a v) 28 (r_X7_find (w_X7_work a v) pa)) else ((w_X7_work a v) 29 (r_X7_find (w_X7_work a v) pa)))))) else 0)) else 0)))) else 0
def w_X7_node (a : RS) (v pa wh : Nat) : RS := if Int32.ofNat (r_X7_out a v) = 0 then (if Int32.ofNat pa < 0 then a else (if Int32.ofNat 511 < Int32.ofNat pa then a else (if Int32.ofNat wh < 0 then a else (if Int32.ofNat wh ≤ Int32.ofNat 4 then (w_X7_work a v) else a)))) else a
abbrev rm_X7_node : Room := { frames := 3, cells := 0, slots := 0, locals := 73 }
set_option maxHeartbeats 4000000 in
set_option maxRecDepth 100000 in
theorem k_X7_node (l : Launch) (D : va_G) (cI cS cZ : ClassId) (ad : Nat → Nat) (a : RS) (v pa wh : Nat) (hk : v < 4294967296) (hq : RQ a) (hev : ∀ s, s < 3 → EVa a s) : gN l yX7_node (Cond.code yX7_node cX7_node 5 (some .int) :: tb) rm_X7_node D cls8 (tys3 cI cS cZ) [.ref (ad 0), .int (Int32.ofNat v), .int (Int32.ofNat pa), .int (Int32.ofNat wh)] (rwld cI cZ a ad) (some (.int (Int32.ofNat (r_X7_node a v pa wh)))) (rwld cI cZ (w_X7_node a v pa wh) ad) := by
  unfold gN
  refine g_head (by decide) rfl (Nat.le_of_ble_eq_true rfl) ?_
  intro p e s m args below meth cd A F hr hlk hnm
  refine g_eq rfl (L' := [(0, .ref (ad 0)), (1, .int (Int32.ofNat v)), (2, .int (Int32.ofNat pa)), (3, .int (Int32.ofNat wh))]) rfl rfl rfl ?_
  refine g_iload_n F dX7_node_0 1 rfl ?_
  refine f_callS F (av := [.int (Int32.ofNat v)]) (rest := []) (st' := [.int (Int32.ofNat (r_X7_out a v))]) (k_X7_out l D cI cS cZ ad a v) tb_430 tb_428 tb_429 tb_8 hdX7_out ⟨rfl, rfl⟩ ⟨Nat.le_of_ble_eq_true rfl, Nat.le_of_ble_eq_true rfl⟩ rw_adr rfl rfl (Nat.le_of_ble_eq_true rfl) ⟨Nat.le_refl _, Nat.le_refl _⟩ dX7_node_1 rfl ?_
  refine g_if_ne F dX7_node_4 (tgt := 27) rfl (fun h4 => ?_) (fun h4 => ?_)
  · refine f_iconst F 0 dX7_node_27 rfl ?_
    exact g_iret F hr hlk dX7_node_28 ⟨congrArg (fun t => some (Value.int (Int32.ofNat t))) (Eq.symm (by unfold r_X7_node; first | simp only [if_neg h4] | rfl)), congrArg (fun t => rwld cI cZ t ad) (Eq.symm (by unfold w_X7_node; first | simp only [if_neg h4] | rfl))⟩
  · refine g_iload_n F dX7_node_7 2 rfl ?_
    refine g_if_lt F dX7_node_8 (tgt := 27) rfl (fun h8 => ?_) (fun h8 => ?_)
    · refine f_iconst F 0 dX7_node_27 rfl ?_
      exact g_iret F hr hlk dX7_node_28 ⟨congrArg (fun t => some (Value.int (Int32.ofNat t))) (Eq.symm (by unfold r_X7_node; first | simp only [if_pos h4, if_pos h8] | rfl)), congrArg (fun t => rwld cI cZ t ad) (Eq.symm (by unfold w_X7_node; first | simp only [if_pos h4, if_pos h8] | rfl))⟩
    · refine g_iload_n F dX7_node_11 2 rfl ?_
      refine f_sipush F 511 dX7_node_12 rfl ?_
      refine g_icmp_gt F dX7_node_15 (tgt := 27) rfl (fun h15 => ?_) (fun h15 => ?_)
      · refine f_iconst F 0 dX7_node_27 rfl ?_
        exact g_iret F hr hlk dX7_node_28 ⟨congrArg (fun t => some (Value.int (Int32.ofNat t))) (Eq.symm (by unfold r_X7_node; first | simp only [if_pos h4, if_neg h8, if_pos h15] | rfl)), congrArg (fun t => rwld cI cZ t ad) (Eq.symm (by unfold w_X7_node; first | simp only [if_pos h4, if_neg h8, if_pos h15] | rfl))⟩
      · refine g_iload_n F dX7_node_18 3 rfl ?_
        refine g_if_lt F dX7_node_19 (tgt := 27) rfl (fun h19 => ?_) (fun h19 => ?_)
        · refine f_iconst F 0 dX7_node_27 rfl ?_
          exact g_iret F hr hlk dX7_node_28 ⟨congrArg (fun t => some (Value.int (Int32.ofNat t))) (Eq.symm (by unfold r_X7_node; first | simp only [if_pos h4, if_neg h8, if_neg h15, if_pos h19] | rfl)), congrArg (fun t => rwld cI cZ t ad) (Eq.symm (by unfold w_X7_node; first | simp only [if_pos h4, if_neg h8, if_neg h15, if_pos h19] | rfl))⟩
        · refine g_iload_n F dX7_node_22 3 rfl ?_
          refine f_iconst F 4 dX7_node_23 rfl ?_
          refine g_icmp_le F dX7_node_24 (tgt := 29) rfl (fun h24 => ?_) (fun h24 => ?_)
          · refine g_aload_n F dX7_node_29 0 rfl ?_
            refine g_iload_n F dX7_node_30 1 rfl ?_
            refine f_callV F (As := [.int (Int32.ofNat v)]) (rest := []) (st' := []) (k_X7_work l D cI cS cZ ad a v (out0 h4 hk) (by have := hq v (out0 h4 hk); omega) (hev v (out0 h4 hk))) ql_RM rfl tb_504 tb_502 tb_503 tb_619 tb_8 ⟨rfl, hdX7_work⟩ ⟨rfl, rfl⟩ ⟨Nat.le_of_ble_eq_true rfl, Nat.le_of_ble_eq_true rfl⟩ rw_adr rfl rfl (Nat.le_of_ble_eq_true rfl) ⟨Nat.le_refl _, Nat.le_refl _⟩ dX7_node_31 rfl ?_
            refine g_aload_n F dX7_node_34 0 rfl ?_
            refine g_iload_n F dX7_node_35 2 rfl ?_
            refine f_callV F (As := [.int (Int32.ofNat pa)]) (rest := []) (st' := [.int (Int32.ofNat (r_X7_find (w_X7_work a v) pa))]) (k_X7_find l D cI cS cZ ad (w_X7_work a v) pa (by have := hq v (out0 h4 hk); exact sz_work (by omega))) ql_RM rfl tb_510 tb_508 tb_509 tb_621 tb_8 ⟨rfl, hdX7_find⟩ ⟨rfl, rfl⟩ ⟨Nat.le_of_ble_eq_true rfl, Nat.le_of_ble_eq_true rfl⟩ rw_adr rfl rfl (Nat.le_of_ble_eq_true rfl) ⟨Nat.le_refl _, Nat.le_refl _⟩ dX7_node_36 rfl ?_
            refine g_istore F [(4, .int (Int32.ofNat (r_X7_find (w_X7_work a v) pa))), (0, .ref (ad 0)), (1, .int (Int32.ofNat v)), (2, .int (Int32.ofNat pa)), (3, .int (Int32.ofNat wh))] dX7_node_39 (by decide) rfl ?_
            refine g_iload_n F dX7_node_41 3 rfl ?_
            refine g_if_eq F dX7_node_42 (tgt := 52) rfl (fun h42 => ?_) (fun h42 => ?_)
            · refine g_iload_n F dX7_node_52 4 rfl ?_
              refine g_if_ne F dX7_node_53 (tgt := 58) rfl (fun h53 => ?_) (fun h53 => ?_)
              · refine g_iload_n F dX7_node_58 4 rfl ?_
                refine f_iconst F 3 dX7_node_59 rfl ?_
                refine g_icmp_ne F dX7_node_60 (tgt := 69) rfl (fun h60 => ?_) (fun h60 => ?_)
                · refine g_iload_n F dX7_node_69 3 rfl ?_
                  refine g_if_ne F dX7_node_70 (tgt := 75) rfl (fun h70 => ?_) (fun h70 => ?_)
                  · exact absurd h42 h70
                  refine f_iconst F 0 dX7_node_73 rfl ?_
                  exact g_iret F hr hlk dX7_node_74 ⟨congrArg (fun t => some (Value.int (Int32.ofNat t))) (Eq.symm (by unfold r_X7_node; first | simp only [if_pos h4, if_neg h8, if_neg h15, if_neg h19, if_pos h24, if_pos h42, if_neg h53, if_neg h60] | rfl)), congrArg (fun t => rwld cI cZ t ad) (Eq.symm (by unfold w_X7_node; first | simp only [if_pos h4, if_neg h8, if_neg h15, if_neg h19, if_pos h24, if_pos h42, if_neg h53, if_neg h60] | rfl))⟩
                · refine g_aload_n F dX7_node_63 1 rfl ?_
                  refine g_iload_n F dX7_node_64 3 rfl ?_
                  refine f_callV F (As := [.int (Int32.ofNat pa)]) (rest := []) (st' := [.int (Int32.ofNat (r_X7_children (w_X7_work a v) pa))]) (k_X7_children l D cI cS cZ ad (w_X7_work a v) pa (by have := hq v (out0 h4 hk); exact sz_work (by omega))) ql_RM rfl tb_516 tb_514 tb_515 tb_623 tb_8 ⟨rfl, hdX7_children⟩ ⟨rfl, rfl⟩ ⟨Nat.le_of_ble_eq_true rfl, Nat.le_of_ble_eq_true rfl⟩ rw_adr rfl rfl (Nat.le_of_ble_eq_true rfl) ⟨Nat.le_refl _, Nat.le_refl _⟩ dX7_node_65 rfl ?_
                  exact g_iret F hr hlk dX7_node_68 ⟨congrArg (fun t => some (Value.int (Int32.ofNat t))) (Eq.symm (by unfold r_X7_node; first | simp only [if_pos h4, if_neg h8, if_neg h15, if_neg h19, if_pos h24, if_pos h42, if_neg h53, if_pos h60] | rfl)), congrArg (fun t => rwld cI cZ t ad) (Eq.symm (by unfold w_X7_node; first | simp only [if_pos h4, if_neg h8, if_neg h15, if_neg h19, if_pos h24, if_pos h42, if_neg h53, if_pos h60] | rfl))⟩
              · refine f_iconst F 1 dX7_node_56 rfl ?_
                exact g_iret F hr hlk dX7_node_57 ⟨congrArg (fun t => some (Value.int (Int32.ofNat t))) (Eq.symm (by unfold r_X7_node; first | simp only [if_pos h4, if_neg h8, if_neg h15, if_neg h19, if_pos h24, if_pos h42, if_pos h53] | rfl)), congrArg (fun t => rwld cI cZ t ad) (Eq.symm (by unfold w_X7_node; first | simp only [if_pos h4, if_neg h8, if_neg h15, if_neg h19, if_pos h24, if_pos h42, if_pos h53] | rfl))⟩
            · refine g_iload F dX7_node_45 0 rfl ?_
              refine g_if_ge F dX7_node_47 (tgt := 52) rfl (fun h47 => ?_) (fun h47 => ?_)
              · refine g_iload_n F dX7_node_52 4 rfl ?_
                refine g_if_ne F dX7_node_53 (tgt := 58) rfl (fun h53 => ?_) (fun h53 => ?_)
                · refine g_iload_n F dX7_node_58 4 rfl ?_
                  refine f_iconst F 3 dX7_node_59 rfl ?_
                  refine g_icmp_ne F dX7_node_60 (tgt := 69) rfl (fun h60 => ?_) (fun h60 => ?_)
                  · refine g_iload_n F dX7_node_69 3 rfl ?_
                    refine g_if_ne F dX7_node_70 (tgt := 75) rfl (fun h70 => ?_) (fun h70 => ?_)
                    rotate_left
                    · exact absurd h70 h42
                    refine g_iload_n F dX7_node_75 4 rfl ?_
                    refine f_iconst F 1 dX7_node_76 rfl ?_
                    refine g_icmp_ne F dX7_node_77 (tgt := 90) rfl (fun h77 => ?_) (fun h77 => ?_)
                    · refine g_iload_n F dX7_node_90 4 rfl ?_
                      refine f_iconst F 2 dX7_node_91 rfl ?_
                      refine g_icmp_ne F dX7_node_92 (tgt := 105) rfl (fun h92 => ?_) (fun h92 => ?_)
                      · refine g_aload_n F dX7_node_105 1 rfl ?_
                        refine f_get F inX7 ql_RM rfl 30 (by decide) tb_387 rfl (v := .ref (ad 30)) rfl dX7_node_106 ?_
                        refine g_iload F dX7_node_109 0 rfl ?_
                        refine f_ald F 0 ql_29 rfl (j := r_X7_find (w_X7_work a v) pa) (by have := find_ge h47; have := sz_work (a := a) (v := v) (by have := hq v (out0 h4 hk); omega); omega) (by decide) dX7_node_111 ?_
                        exact g_iret F hr hlk dX7_node_112 ⟨congrArg (fun t => some (Value.int (Int32.ofNat t))) (Eq.symm (by unfold r_X7_node; first | simp only [if_pos h4, if_neg h8, if_neg h15, if_neg h19, if_pos h24, if_neg h42, if_pos h47, if_neg h53, if_neg h60, if_neg h77, if_neg h92] | rfl)), congrArg (fun t => rwld cI cZ t ad) (Eq.symm (by unfold w_X7_node; first | simp only [if_pos h4, if_neg h8, if_neg h15, if_neg h19, if_pos h24, if_neg h42, if_pos h47, if_neg h53, if_neg h60, if_neg h77, if_neg h92] | rfl))⟩
                      · refine g_aload_n F dX7_node_95 1 rfl ?_
                        refine f_get F inX7 ql_RM rfl 29 (by decide) tb_386 rfl (v := .ref (ad 29)) rfl dX7_node_96 ?_
                        refine g_iload F dX7_node_99 0 rfl ?_
                        refine f_ald F 0 ql_28 rfl (j := r_X7_find (w_X7_work a v) pa) (by have := find_ge h47; have := sz_work (a := a) (v := v) (by have := hq v (out0 h4 hk); omega); omega) (by decide) dX7_node_101 ?_
                        refine g_goto F dX7_node_102 (tgt := 112) rfl ?_
                        exact g_iret F hr hlk dX7_node_112 ⟨congrArg (fun t => some (Value.int (Int32.ofNat t))) (Eq.symm (by unfold r_X7_node; first | simp only [if_pos h4, if_neg h8, if_neg h15, if_neg h19, if_pos h24, if_neg h42, if_pos h47, if_neg h53, if_neg h60, if_neg h77, if_pos h92] | rfl)), congrArg (fun t => rwld cI cZ t ad) (Eq.symm (by unfold w_X7_node; first | simp only [if_pos h4, if_neg h8, if_neg h15, if_neg h19, if_pos h24, if_neg h42, if_pos h47, if_neg h53, if_neg h60, if_neg h77, if_pos h92] | rfl))⟩
                    · refine g_aload_n F dX7_node_80 1 rfl ?_
                      refine f_get F inX7 ql_RM rfl 28 (by decide) tb_385 rfl (v := .ref (ad 28)) rfl dX7_node_81 ?_
                      refine g_iload F dX7_node_84 0 rfl ?_
                      refine f_ald F 0 ql_27 rfl (j := r_X7_find (w_X7_work a v) pa) (by have := find_ge h47; have := sz_work (a := a) (v := v) (by have := hq v (out0 h4 hk); omega); omega) (by decide) dX7_node_86 ?_
                      refine g_goto F dX7_node_87 (tgt := 112) rfl ?_
                      exact g_iret F hr hlk dX7_node_112 ⟨congrArg (fun t => some (Value.int (Int32.ofNat t))) (Eq.symm (by unfold r_X7_node; first | simp only [if_pos h4, if_neg h8, if_neg h15, if_neg h19, if_pos h24, if_neg h42, if_pos h47, if_neg h53, if_neg h60, if_pos h77] | rfl)), congrArg (fun t => rwld cI cZ t ad) (Eq.symm (by unfold w_X7_node; first | simp only [if_pos h4, if_neg h8, if_neg h15, if_neg h19, if_pos h24, if_neg h42, if_pos h47, if_neg h53, if_neg h60, if_pos h77] | rfl))⟩
                  · refine g_aload_n F dX7_node_63 1 rfl ?_
                    refine g_iload_n F dX7_node_64 3 rfl ?_
                    refine f_callV F (As := [.int (Int32.ofNat pa)]) (rest := []) (st' := [.int (Int32.ofNat (r_X7_children (w_X7_work a v) pa))]) (k_X7_children l D cI cS cZ ad (w_X7_work a v) pa (by have := hq v (out0 h4 hk); exact sz_work (by omega))) ql_RM rfl tb_516 tb_514 tb_515 tb_623 tb_8 ⟨rfl, hdX7_children⟩ ⟨rfl, rfl⟩ ⟨Nat.le_of_ble_eq_true rfl, Nat.le_of_ble_eq_true rfl⟩ rw_adr rfl rfl (Nat.le_of_ble_eq_true rfl) ⟨Nat.le_refl _, Nat.le_refl _⟩ dX7_node_65 rfl ?_
                    exact g_iret F hr hlk dX7_node_68 ⟨congrArg (fun t => some (Value.int (Int32.ofNat t))) (Eq.symm (by unfold r_X7_node; first | simp only [if_pos h4, if_neg h8, if_neg h15, if_neg h19, if_pos h24, if_neg h42, if_pos h47, if_neg h53, if_pos h60] | rfl)), congrArg (fun t => rwld cI cZ t ad) (Eq.symm (by unfold w_X7_node; first | simp only [if_pos h4, if_neg h8, if_neg h15, if_neg h19, if_pos h24, if_neg h42, if_pos h47, if_neg h53, if_pos h60] | rfl))⟩
                · refine f_iconst F 1 dX7_node_56 rfl ?_
                  exact g_iret F hr hlk dX7_node_57 ⟨congrArg (fun t => some (Value.int (Int32.ofNat t))) (Eq.symm (by unfold r_X7_node; first | simp only [if_pos h4, if_neg h8, if_neg h15, if_neg h19, if_pos h24, if_neg h42, if_pos h47, if_pos h53] | rfl)), congrArg (fun t => rwld cI cZ t ad) (Eq.symm (by unfold w_X7_node; first | simp only [if_pos h4, if_neg h8, if_neg h15, if_neg h19, if_pos h24, if_neg h42, if_pos h47, if_pos h53] | rfl))⟩
              · refine f_iconst F 0 dX7_node_50 rfl ?_
                exact g_iret F hr hlk dX7_node_51 ⟨congrArg (fun t => some (Value.int (Int32.ofNat t))) (Eq.symm (by unfold r_X7_node; first | simp only [if_pos h4, if_neg h8, if_neg h15, if_neg h19, if_pos h24, if_neg h42, if_neg h47] | rfl)), congrArg (fun t => rwld cI cZ t ad) (Eq.symm (by unfold w_X7_node; first | simp only [if_pos h4, if_neg h8, if_neg h15, if_neg h19, if_pos h24, if_neg h42, if_neg h47] | rfl))⟩
          · refine f_iconst F 0 dX7_node_27 rfl ?_
            exact g_iret F hr hlk dX7_node_28 ⟨congrArg (fun t => some (Value.int (Int32.ofNat t))) (Eq.symm (by unfold r_X7_node; first | simp only [if_pos h4, if_neg h8, if_neg h15, if_neg h19, if_neg h24] | rfl)), congrArg (fun t => rwld cI cZ t ad) (Eq.symm (by unfold w_X7_node; first | simp only [if_pos h4, if_neg h8, if_neg h15, if_neg h19, if_neg h24] | rfl))⟩
def lpn_X7_tree_18 (a : RS) (v : Nat) : Nat → Nat → Nat → Nat
  | 0, k, n => n
  | d + 1, k, n => if Int32.ofNat ((w_X7_work a v) 26 k) ≤ 0 then (lpn_X7_tree_18 a v d (k + 1) n) else (lpn_X7_tree_18 a v d (k + 1) (n + 1))
def lpn_X7_tree_51 (a : RS) (v : Nat) : Nat → Nat → Nat → Nat
  | 0, k, n => n
  | d + 1, k, n => if Int32.ofNat ((w_X7_work a v) 30 k) = 0 then (lpn_X7_tree_51 a v d (k + 1) n) else (lpn_X7_tree_51 a v d (k + 1) (n + (nc ((Int32.ofNat 64) <<< ((Int32.ofNat k) &&& 31)))))
def r_X7_tree (a : RS) (v : Nat) : Nat := if Int32.ofNat (r_X7_out a v) = 0 then (lpn_X7_tree_51 a v 4 1 (lpn_X7_tree_18 a v ((w_X7_work a v) 32 0) 0 0)) else 4294967295
def w_X7_tree (a : RS) (v : Nat) : RS := if Int32.ofNat (r_X7_out a v) = 0 then (w_X7_work a v) else a
abbrev rm_X7_tree : Room := { frames := 3, cells := 0, slots := 0, locals := 73 }
set_option maxHeartbeats 4000000 in
set_option maxRecDepth 100000 in
theorem k_X7_tree (l : Launch) (D : va_G) (cI cS cZ : ClassId) (ad : Nat → Nat) (a : RS) (v : Nat) (hk : v < 4294967296) (hq : RQ a) (hev : ∀ s, s < 3 → EVa a s) : gN l yX7_tree (Cond.code yX7_tree cX7_tree 4 (some .int) :: tb) rm_X7_tree D cls8 (tys3 cI cS cZ) [.ref (ad 0), .int (Int32.ofNat v)] (rwld cI cZ a ad) (some (.int (Int32.ofNat (r_X7_tree a v)))) (rwld cI cZ (w_X7_tree a v) ad) := by
  unfold gN
  refine g_head (by decide) rfl (Nat.le_of_ble_eq_true rfl) ?_
  intro p e s m args below meth cd A F hr hlk hnm
  refine g_eq rfl (L' := [(0, .ref (ad 0)), (1, .int (Int32.ofNat v))]) rfl rfl rfl ?_
  refine g_iload_n F dX7_tree_0 1 rfl ?_
  refine f_callS F (av := [.int (Int32.ofNat v)]) (rest := []) (st' := [.int (Int32.ofNat (r_X7_out a v))]) (k_X7_out l D cI cS cZ ad a v) tb_430 tb_428 tb_429 tb_8 hdX7_out ⟨rfl, rfl⟩ ⟨Nat.le_of_ble_eq_true rfl, Nat.le_of_ble_eq_true rfl⟩ rw_adr rfl rfl (Nat.le_of_ble_eq_true rfl) ⟨Nat.le_refl _, Nat.le_refl _⟩ dX7_tree_1 rfl ?_
  refine g_if_eq F dX7_tree_4 (tgt := 9) rfl (fun h4 => ?_) (fun h4 => ?_)
  · refine g_aload_n F dX7_tree_9 0 rfl ?_
    refine g_iload_n F dX7_tree_10 1 rfl ?_
    refine f_callV F (As := [.int (Int32.ofNat v)]) (rest := []) (st' := []) (k_X7_work l D cI cS cZ ad a v (out0 h4 hk) (by have := hq v (out0 h4 hk); omega) (hev v (out0 h4 hk))) ql_RM rfl tb_504 tb_502 tb_503 tb_619 tb_8 ⟨rfl, hdX7_work⟩ ⟨rfl, rfl⟩ ⟨Nat.le_of_ble_eq_true rfl, Nat.le_of_ble_eq_true rfl⟩ rw_adr rfl rfl (Nat.le_of_ble_eq_true rfl) ⟨Nat.le_refl _, Nat.le_refl _⟩ dX7_tree_11 rfl ?_
    refine f_iconst F 0 dX7_tree_14 rfl ?_
    refine g_istore_n F [(2, .int (Int32.ofNat 0)), (0, .ref (ad 0)), (1, .int (Int32.ofNat v))] dX7_tree_15 (by decide) rfl ?_
    refine f_iconst F 0 dX7_tree_16 rfl ?_
    refine g_istore_n F [(3, .int (Int32.ofNat 0)), (2, .int (Int32.ofNat 0)), (0, .ref (ad 0)), (1, .int (Int32.ofNat v))] dX7_tree_17 (by decide) rfl ?_
    have loop18 : ∀ (Q : State → Prop) (d k n : Nat), (k + d = (w_X7_work a v) 32 0) → ((w_X7_work a v) 32 0 ≤ 24) → gw p l e (headSpec (Cond.code yX7_tree cX7_tree 4 (some .int) :: tb) rm_X7_tree).room s m args below meth cd 4 D cls8 A Q 0 0 49 [(2, .int (Int32.ofNat (lpn_X7_tree_18 a v d k n))), (0, .ref (ad 0)), (1, .int (Int32.ofNat v))] [] (rwld cI cZ (w_X7_work a v) ad) → gw p l e (headSpec (Cond.code yX7_tree cX7_tree 4 (some .int) :: tb) rm_X7_tree).room s m args below meth cd 4 D cls8 A Q 0 0 18 [(3, .int (Int32.ofNat k)), (2, .int (Int32.ofNat n)), (0, .ref (ad 0)), (1, .int (Int32.ofNat v))] [] (rwld cI cZ (w_X7_work a v) ad) := by
      intro Q d
      induction d with
      | zero =>
        intro k n hj hw K
        refine g_iload_n F dX7_tree_18 0 rfl ?_
        refine g_aload_n F dX7_tree_19 2 rfl ?_
        refine f_get F inX7 ql_RM rfl 26 (by decide) tb_383 rfl (v := .int (Int32.ofNat ((w_X7_work a v) 32 0))) rfl dX7_tree_20 ?_
        refine g_icmp_ge F dX7_tree_23 (tgt := 49) rfl (fun h23 => ?_) (fun h23 => ?_)
        rotate_left
        · exact absurd h23 (by rw [ofN_le (by omega) (by omega)]; omega)
        refine g_locals [(2, .int (Int32.ofNat n)), (0, .ref (ad 0)), (1, .int (Int32.ofNat v))] [1, 2, 3] rfl ?_
        exact K
      | succ d ih =>
        intro k n hj hw K
        refine g_iload_n F dX7_tree_18 0 rfl ?_
        refine g_aload_n F dX7_tree_19 2 rfl ?_
        refine f_get F inX7 ql_RM rfl 26 (by decide) tb_383 rfl (v := .int (Int32.ofNat ((w_X7_work a v) 32 0))) rfl dX7_tree_20 ?_
        refine g_icmp_ge F dX7_tree_23 (tgt := 49) rfl (fun h23 => ?_) (fun h23 => ?_)
        · exact absurd h23 (by rw [ofN_le (by omega) (by omega)]; omega)
        refine g_aload_n F dX7_tree_26 2 rfl ?_
        refine f_get F inX7 ql_RM rfl 27 (by decide) tb_384 rfl (v := .ref (ad 27)) rfl dX7_tree_27 ?_
        refine g_iload_n F dX7_tree_30 0 rfl ?_
        refine f_ald F 0 ql_26 rfl (j := k) (by omega) (by decide) dX7_tree_31 ?_
        refine g_if_le F dX7_tree_32 (tgt := 41) rfl (fun h32 => ?_) (fun h32 => ?_)
        · refine g_iload_n F dX7_tree_41 1 rfl ?_
          refine g_istore_n F [(2, .int (Int32.ofNat n)), (3, .int (Int32.ofNat k)), (0, .ref (ad 0)), (1, .int (Int32.ofNat v))] dX7_tree_42 (by decide) rfl ?_
          refine f_iinc F (k + 1) [(3, .int (Int32.ofNat (k + 1))), (2, .int (Int32.ofNat n)), (0, .ref (ad 0)), (1, .int (Int32.ofNat v))] dX7_tree_43 1 rfl (ofN_inc _) (by decide) rfl ?_
          refine g_goto F dX7_tree_46 (tgt := 18) rfl ?_
          exact ih (k + 1) n (by omega) hw (g_eq rfl (by simp only [lpn_X7_tree_18, if_pos h32]) rfl rfl K)
        · refine g_iload_n F dX7_tree_35 1 rfl ?_
          refine f_iconst F 1 dX7_tree_36 rfl ?_
          refine f_add F dX7_tree_37 ?_
          refine g_goto F dX7_tree_38 (tgt := 42) rfl ?_
          refine g_istore_n F [(2, .int (Int32.ofNat (n + 1))), (3, .int (Int32.ofNat k)), (0, .ref (ad 0)), (1, .int (Int32.ofNat v))] dX7_tree_42 (by decide) rfl ?_
          refine f_iinc F (k + 1) [(3, .int (Int32.ofNat (k + 1))), (2, .int (Int32.ofNat (n + 1))), (0, .ref (ad 0)), (1, .int (Int32.ofNat v))] dX7_tree_43 1 rfl (ofN_inc _) (by decide) rfl ?_
          refine g_goto F dX7_tree_46 (tgt := 18) rfl ?_
          exact ih (k + 1) (n + 1) (by omega) hw (g_eq rfl (by simp only [lpn_X7_tree_18, if_neg h32]) rfl rfl K)
    refine loop18 _ ((w_X7_work a v) 32 0) 0 0 (Nat.zero_add _) (by have := hq v (out0 h4 hk); exact sz_work (by omega)) ?_
    refine f_iconst F 1 dX7_tree_49 rfl ?_
    refine g_istore_n F [(3, .int (Int32.ofNat 1)), (2, .int (Int32.ofNat (lpn_X7_tree_18 a v ((w_X7_work a v) 32 0) 0 0))), (0, .ref (ad 0)), (1, .int (Int32.ofNat v))] dX7_tree_50 (by decide) rfl ?_
    have loop51 : ∀ (Q : State → Prop) (d k n : Nat), (k + d = 5) → gw p l e (headSpec (Cond.code yX7_tree cX7_tree 4 (some .int) :: tb) rm_X7_tree).room s m args below meth cd 4 D cls8 A Q 0 0 82 [(2, .int (Int32.ofNat (lpn_X7_tree_51 a v d k n))), (0, .ref (ad 0)), (1, .int (Int32.ofNat v))] [] (rwld cI cZ (w_X7_work a v) ad) → gw p l e (headSpec (Cond.code yX7_tree cX7_tree 4 (some .int) :: tb) rm_X7_tree).room s m args below meth cd 4 D cls8 A Q 0 0 51 [(3, .int (Int32.ofNat k)), (2, .int (Int32.ofNat n)), (0, .ref (ad 0)), (1, .int (Int32.ofNat v))] [] (rwld cI cZ (w_X7_work a v) ad) := by
      intro Q d
      induction d with
      | zero =>
        intro k n hj K
        refine g_iload_n F dX7_tree_51 0 rfl ?_
        refine f_iconst F 4 dX7_tree_52 rfl ?_
        refine g_icmp_gt F dX7_tree_53 (tgt := 82) rfl (fun h53 => ?_) (fun h53 => ?_)
        rotate_left
        · exact absurd h53 (by rw [ofN_lt (by omega) (by omega)]; omega)
        refine g_locals [(2, .int (Int32.ofNat n)), (0, .ref (ad 0)), (1, .int (Int32.ofNat v))] [1, 2, 3] rfl ?_
        exact K
      | succ d ih =>
        intro k n hj K
        refine g_iload_n F dX7_tree_51 0 rfl ?_
        refine f_iconst F 4 dX7_tree_52 rfl ?_
        refine g_icmp_gt F dX7_tree_53 (tgt := 82) rfl (fun h53 => ?_) (fun h53 => ?_)
        · exact absurd h53 (by rw [ofN_lt (by omega) (by omega)]; omega)
        refine g_aload_n F dX7_tree_56 2 rfl ?_
        refine f_get F inX7 ql_RM rfl 31 (by decide) tb_388 rfl (v := .ref (ad 31)) rfl dX7_tree_57 ?_
        refine g_iload_n F dX7_tree_60 0 rfl ?_
        refine f_zald F 2 ql_30 rfl (j := k) (by omega) (by decide) dX7_tree_61 ?_
        refine g_if_eq F dX7_tree_62 (tgt := 74) rfl (fun h62 => ?_) (fun h62 => ?_)
        · refine g_iload_n F dX7_tree_74 1 rfl ?_
          refine g_istore_n F [(2, .int (Int32.ofNat n)), (3, .int (Int32.ofNat k)), (0, .ref (ad 0)), (1, .int (Int32.ofNat v))] dX7_tree_75 (by decide) rfl ?_
          refine f_iinc F (k + 1) [(3, .int (Int32.ofNat (k + 1))), (2, .int (Int32.ofNat n)), (0, .ref (ad 0)), (1, .int (Int32.ofNat v))] dX7_tree_76 1 rfl (ofN_inc _) (by decide) rfl ?_
          refine g_goto F dX7_tree_79 (tgt := 51) rfl ?_
          exact ih (k + 1) n (by omega) (g_eq rfl (by simp only [lpn_X7_tree_51, if_pos h62]) rfl rfl K)
        · refine g_iload_n F dX7_tree_65 1 rfl ?_
          refine f_bipush F 64 dX7_tree_66 rfl ?_
          refine g_iload_n F dX7_tree_68 0 rfl ?_
          refine g_ishl F dX7_tree_69 ?_
          refine f_code ?_
          refine f_add F dX7_tree_70 ?_
          refine g_goto F dX7_tree_71 (tgt := 75) rfl ?_
          refine g_istore_n F [(2, .int (Int32.ofNat (n + (nc ((Int32.ofNat 64) <<< ((Int32.ofNat k) &&& 31)))))), (3, .int (Int32.ofNat k)), (0, .ref (ad 0)), (1, .int (Int32.ofNat v))] dX7_tree_75 (by decide) rfl ?_
          refine f_iinc F (k + 1) [(3, .int (Int32.ofNat (k + 1))), (2, .int (Int32.ofNat (n + (nc ((Int32.ofNat 64) <<< ((Int32.ofNat k) &&& 31)))))), (0, .ref (ad 0)), (1, .int (Int32.ofNat v))] dX7_tree_76 1 rfl (ofN_inc _) (by decide) rfl ?_
          refine g_goto F dX7_tree_79 (tgt := 51) rfl ?_
          exact ih (k + 1) (n + (nc ((Int32.ofNat 64) <<< ((Int32.ofNat k) &&& 31)))) (by omega) (g_eq rfl (by simp only [lpn_X7_tree_51, if_neg h62]) rfl rfl K)
    refine loop51 _ 4 1 (lpn_X7_tree_18 a v ((w_X7_work a v) 32 0) 0 0) rfl ?_
    refine g_iload_n F dX7_tree_82 0 rfl ?_
    exact g_iret F hr hlk dX7_tree_83 ⟨congrArg (fun t => some (Value.int (Int32.ofNat t))) (Eq.symm (by unfold r_X7_tree; first | simp only [if_pos h4] | rfl)), congrArg (fun t => rwld cI cZ t ad) (Eq.symm (by unfold w_X7_tree; first | simp only [if_pos h4] | rfl))⟩
  · refine f_iconst F 4294967295 dX7_tree_7 rfl ?_
    exact g_iret F hr hlk dX7_tree_8 ⟨congrArg (fun t => some (Value.int (Int32.ofNat t))) (Eq.symm (by unfold r_X7_tree; first | simp only [if_neg h4] | rfl)), congrArg (fun t => rwld cI cZ t ad) (Eq.symm (by unfold w_X7_tree; first | simp only [if_neg h4] | rfl))⟩
def r_X7_waiting (a : RS) (v up : Nat) : Nat := if Int32.ofNat (r_X7_out a v) = 0 then (if Int32.ofNat (a 0 v) = Int32.ofNat 2 then (if Int32.ofNat up = 0 then (nc ((Int32.ofNat (a 24 v)) - (Int32.ofNat (a 25 v)))) else (nc ((Int32.ofNat (a 20 v)) - (Int32.ofNat (a 21 v))))) else 0) else 0
abbrev rm_X7_waiting : Room := { frames := 1, cells := 0, slots := 0, locals := 20 }
set_option maxHeartbeats 4000000 in
set_option maxRecDepth 100000 in
theorem k_X7_waiting (l : Launch) (D : va_G) (cI cS cZ : ClassId) (ad : Nat → Nat) (a : RS) (v up : Nat) (hk : v < 4294967296) : gN l yX7_waiting (Cond.code yX7_waiting cX7_waiting 3 (some .int) :: tb) rm_X7_waiting D cls8 (tys3 cI cS cZ) [.ref (ad 0), .int (Int32.ofNat v), .int (Int32.ofNat up)] (rwld cI cZ a ad) (some (.int (Int32.ofNat (r_X7_waiting a v up)))) (rwld cI cZ a ad) := by
  unfold gN
  refine g_head (by decide) rfl (Nat.le_of_ble_eq_true rfl) ?_
  intro p e s m args below meth cd A F hr hlk hnm
  refine g_eq rfl (L' := [(0, .ref (ad 0)), (1, .int (Int32.ofNat v)), (2, .int (Int32.ofNat up))]) rfl rfl rfl ?_
  refine g_iload_n F dX7_waiting_0 1 rfl ?_
  refine f_callS F (av := [.int (Int32.ofNat v)]) (rest := []) (st' := [.int (Int32.ofNat (r_X7_out a v))]) (k_X7_out l D cI cS cZ ad a v) tb_430 tb_428 tb_429 tb_8 hdX7_out ⟨rfl, rfl⟩ ⟨Nat.le_of_ble_eq_true rfl, Nat.le_of_ble_eq_true rfl⟩ rw_adr rfl rfl (Nat.le_of_ble_eq_true rfl) ⟨Nat.le_refl _, Nat.le_refl _⟩ dX7_waiting_1 rfl ?_
  refine g_if_eq F dX7_waiting_4 (tgt := 9) rfl (fun h4 => ?_) (fun h4 => ?_)
  · refine g_aload_n F dX7_waiting_9 0 rfl ?_
    refine f_get F inX7 ql_RM rfl 0 (by decide) tb_357 rfl (v := .ref (ad 1)) rfl dX7_waiting_10 ?_
    refine g_iload_n F dX7_waiting_13 1 rfl ?_
    refine f_ald F 0 ql_0 rfl (j := v) (by have g0 := out0 h4 hk; omega) (by decide) dX7_waiting_14 ?_
    refine f_iconst F 2 dX7_waiting_15 rfl ?_
    refine g_icmp_eq F dX7_waiting_16 (tgt := 21) rfl (fun h16 => ?_) (fun h16 => ?_)
    · refine g_iload_n F dX7_waiting_21 2 rfl ?_
      refine g_if_eq F dX7_waiting_22 (tgt := 41) rfl (fun h22 => ?_) (fun h22 => ?_)
      · refine g_aload_n F dX7_waiting_41 0 rfl ?_
        refine f_get F inX7 ql_RM rfl 24 (by decide) tb_381 rfl (v := .ref (ad 25)) rfl dX7_waiting_42 ?_
        refine g_iload_n F dX7_waiting_45 1 rfl ?_
        refine f_ald F 0 ql_24 rfl (j := v) (by have g0 := out0 h4 hk; omega) (by decide) dX7_waiting_46 ?_
        refine g_aload_n F dX7_waiting_47 0 rfl ?_
        refine f_get F inX7 ql_RM rfl 25 (by decide) tb_382 rfl (v := .ref (ad 26)) rfl dX7_waiting_48 ?_
        refine g_iload_n F dX7_waiting_51 1 rfl ?_
        refine f_ald F 0 ql_25 rfl (j := v) (by have g0 := out0 h4 hk; omega) (by decide) dX7_waiting_52 ?_
        refine g_isub F dX7_waiting_53 ?_
        refine f_code ?_
        exact g_iret F hr hlk dX7_waiting_54 ⟨congrArg (fun t => some (Value.int (Int32.ofNat t))) (Eq.symm (by unfold r_X7_waiting; first | simp only [if_pos h4, if_pos h16, if_pos h22] | rfl)), rfl⟩
      · refine g_aload_n F dX7_waiting_25 0 rfl ?_
        refine f_get F inX7 ql_RM rfl 20 (by decide) tb_377 rfl (v := .ref (ad 21)) rfl dX7_waiting_26 ?_
        refine g_iload_n F dX7_waiting_29 1 rfl ?_
        refine f_ald F 0 ql_20 rfl (j := v) (by have g0 := out0 h4 hk; omega) (by decide) dX7_waiting_30 ?_
        refine g_aload_n F dX7_waiting_31 0 rfl ?_
        refine f_get F inX7 ql_RM rfl 21 (by decide) tb_378 rfl (v := .ref (ad 22)) rfl dX7_waiting_32 ?_
        refine g_iload_n F dX7_waiting_35 1 rfl ?_
        refine f_ald F 0 ql_21 rfl (j := v) (by have g0 := out0 h4 hk; omega) (by decide) dX7_waiting_36 ?_
        refine g_isub F dX7_waiting_37 ?_
        refine f_code ?_
        refine g_goto F dX7_waiting_38 (tgt := 54) rfl ?_
        exact g_iret F hr hlk dX7_waiting_54 ⟨congrArg (fun t => some (Value.int (Int32.ofNat t))) (Eq.symm (by unfold r_X7_waiting; first | simp only [if_pos h4, if_pos h16, if_neg h22] | rfl)), rfl⟩
    · refine f_iconst F 0 dX7_waiting_19 rfl ?_
      exact g_iret F hr hlk dX7_waiting_20 ⟨congrArg (fun t => some (Value.int (Int32.ofNat t))) (Eq.symm (by unfold r_X7_waiting; first | simp only [if_pos h4, if_neg h16] | rfl)), rfl⟩
  · refine f_iconst F 0 dX7_waiting_7 rfl ?_
    exact g_iret F hr hlk dX7_waiting_8 ⟨congrArg (fun t => some (Value.int (Int32.ofNat t))) (Eq.symm (by unfold r_X7_waiting; first | simp only [if_neg h4] | rfl)), rfl⟩
