def w_X7_sendUp (a : RS) (f kd vl : Nat) : RS := su2 (su2 (su2 a 18 ((64 * f) + (a 20 f)) kd) 19 ((64 * f) + (a 20 f)) vl) 20 f ((a 20 f) + 1)
abbrev rm_X7_sendUp : Room := { frames := 0, cells := 0, slots := 0, locals := 0 }
set_option maxHeartbeats 4000000 in
set_option maxRecDepth 100000 in
theorem k_X7_sendUp (l : Launch) (D : va_G) (cI cS cZ : ClassId) (ad : Nat → Nat) (a : RS) (f kd vl : Nat) (hf : f < 3) (hb : a 20 f ≤ 63) : gN l yX7_sendUp (Cond.code yX7_sendUp cX7_sendUp 5 none :: tb) rm_X7_sendUp D cls8 (tys3 cI cS cZ) [.ref (ad 0), .int (Int32.ofNat f), .int (Int32.ofNat kd), .int (Int32.ofNat vl)] (rwld cI cZ a ad) none (rwld cI cZ (w_X7_sendUp a f kd vl) ad) := by
  unfold gN
  refine g_head (by decide) rfl (Nat.le_of_ble_eq_true rfl) ?_
  intro p e s m args below meth cd A F hr hlk hnm
  refine g_eq rfl (L' := [(0, .ref (ad 0)), (1, .int (Int32.ofNat f)), (2, .int (Int32.ofNat kd)), (3, .int (Int32.ofNat vl))]) rfl rfl rfl ?_
  refine f_bipush F 64 dX7_sendUp_0 rfl ?_
  refine g_iload_n F dX7_sendUp_2 1 rfl ?_
  refine f_mul F dX7_sendUp_3 ?_
  refine g_aload_n F dX7_sendUp_4 0 rfl ?_
  refine f_get F inX7 ql_RM rfl 20 (by decide) tb_377 rfl (v := .ref (ad 21)) rfl dX7_sendUp_5 ?_
  refine g_iload_n F dX7_sendUp_8 1 rfl ?_
  refine f_ald F 0 ql_20 rfl (j := f) (by omega) (by decide) dX7_sendUp_9 ?_
  refine f_add F dX7_sendUp_10 ?_
  refine g_istore F [(4, .int (Int32.ofNat ((64 * f) + (a 20 f)))), (0, .ref (ad 0)), (1, .int (Int32.ofNat f)), (2, .int (Int32.ofNat kd)), (3, .int (Int32.ofNat vl))] dX7_sendUp_11 (by decide) rfl ?_
  refine g_aload_n F dX7_sendUp_13 1 rfl ?_
  refine f_get F inX7 ql_RM rfl 18 (by decide) tb_375 rfl (v := .ref (ad 19)) rfl dX7_sendUp_14 ?_
  refine g_iload F dX7_sendUp_17 0 rfl ?_
  refine g_iload_n F dX7_sendUp_19 3 rfl ?_
  refine f_ast F 0 ql_18 rfl (j := (64 * f) + (a 20 f)) (v := kd) (by omega) (by decide) dX7_sendUp_20 qs_18 ?_
  refine g_aload_n F dX7_sendUp_21 1 rfl ?_
  refine f_get F inX7 ql_RM rfl 19 (by decide) tb_376 rfl (v := .ref (ad 20)) rfl dX7_sendUp_22 ?_
  refine g_iload F dX7_sendUp_25 0 rfl ?_
  refine g_iload_n F dX7_sendUp_27 4 rfl ?_
  refine f_ast F 0 ql_19 rfl (j := (64 * f) + (a 20 f)) (v := vl) (by omega) (by decide) dX7_sendUp_28 qs_19 ?_
  refine g_aload_n F dX7_sendUp_29 1 rfl ?_
  refine f_get F inX7 ql_RM rfl 20 (by decide) tb_377 rfl (v := .ref (ad 21)) rfl dX7_sendUp_30 ?_
  refine g_iload_n F dX7_sendUp_33 2 rfl ?_
  refine g_dup2 F dX7_sendUp_34 rfl rfl ?_
  refine f_ald F 0 ql_20 rfl (j := f) (by omega) (by decide) dX7_sendUp_35 ?_
  refine g_eq rfl rfl (st' := [.int (Int32.ofNat (a 20 f)), .int (Int32.ofNat f), .ref (ad 21)]) rfl rfl ?_
  refine f_iconst F 1 dX7_sendUp_36 rfl ?_
  refine f_add F dX7_sendUp_37 ?_
  refine f_ast F 0 ql_20 rfl (j := f) (v := (a 20 f) + 1) (by omega) (by decide) dX7_sendUp_38 qs_20 ?_
  exact g_vret F hr hlk dX7_sendUp_39 ⟨rfl, congrArg (fun t => rwld cI cZ t ad) rfl⟩
def w_X7_sendDown (a : RS) (f kd vl : Nat) : RS := su2 (su2 (su2 a 22 ((64 * f) + (a 24 f)) kd) 23 ((64 * f) + (a 24 f)) vl) 24 f ((a 24 f) + 1)
abbrev rm_X7_sendDown : Room := { frames := 0, cells := 0, slots := 0, locals := 0 }
set_option maxHeartbeats 4000000 in
set_option maxRecDepth 100000 in
theorem k_X7_sendDown (l : Launch) (D : va_G) (cI cS cZ : ClassId) (ad : Nat → Nat) (a : RS) (f kd vl : Nat) (hf : f < 3) (hb : a 24 f ≤ 63) : gN l yX7_sendDown (Cond.code yX7_sendDown cX7_sendDown 5 none :: tb) rm_X7_sendDown D cls8 (tys3 cI cS cZ) [.ref (ad 0), .int (Int32.ofNat f), .int (Int32.ofNat kd), .int (Int32.ofNat vl)] (rwld cI cZ a ad) none (rwld cI cZ (w_X7_sendDown a f kd vl) ad) := by
  unfold gN
  refine g_head (by decide) rfl (Nat.le_of_ble_eq_true rfl) ?_
  intro p e s m args below meth cd A F hr hlk hnm
  refine g_eq rfl (L' := [(0, .ref (ad 0)), (1, .int (Int32.ofNat f)), (2, .int (Int32.ofNat kd)), (3, .int (Int32.ofNat vl))]) rfl rfl rfl ?_
  refine f_bipush F 64 dX7_sendDown_0 rfl ?_
  refine g_iload_n F dX7_sendDown_2 1 rfl ?_
  refine f_mul F dX7_sendDown_3 ?_
  refine g_aload_n F dX7_sendDown_4 0 rfl ?_
  refine f_get F inX7 ql_RM rfl 24 (by decide) tb_381 rfl (v := .ref (ad 25)) rfl dX7_sendDown_5 ?_
  refine g_iload_n F dX7_sendDown_8 1 rfl ?_
  refine f_ald F 0 ql_24 rfl (j := f) (by omega) (by decide) dX7_sendDown_9 ?_
  refine f_add F dX7_sendDown_10 ?_
  refine g_istore F [(4, .int (Int32.ofNat ((64 * f) + (a 24 f)))), (0, .ref (ad 0)), (1, .int (Int32.ofNat f)), (2, .int (Int32.ofNat kd)), (3, .int (Int32.ofNat vl))] dX7_sendDown_11 (by decide) rfl ?_
  refine g_aload_n F dX7_sendDown_13 1 rfl ?_
  refine f_get F inX7 ql_RM rfl 22 (by decide) tb_379 rfl (v := .ref (ad 23)) rfl dX7_sendDown_14 ?_
  refine g_iload F dX7_sendDown_17 0 rfl ?_
  refine g_iload_n F dX7_sendDown_19 3 rfl ?_
  refine f_ast F 0 ql_22 rfl (j := (64 * f) + (a 24 f)) (v := kd) (by omega) (by decide) dX7_sendDown_20 qs_22 ?_
  refine g_aload_n F dX7_sendDown_21 1 rfl ?_
  refine f_get F inX7 ql_RM rfl 23 (by decide) tb_380 rfl (v := .ref (ad 24)) rfl dX7_sendDown_22 ?_
  refine g_iload F dX7_sendDown_25 0 rfl ?_
  refine g_iload_n F dX7_sendDown_27 4 rfl ?_
  refine f_ast F 0 ql_23 rfl (j := (64 * f) + (a 24 f)) (v := vl) (by omega) (by decide) dX7_sendDown_28 qs_23 ?_
  refine g_aload_n F dX7_sendDown_29 1 rfl ?_
  refine f_get F inX7 ql_RM rfl 24 (by decide) tb_381 rfl (v := .ref (ad 25)) rfl dX7_sendDown_30 ?_
  refine g_iload_n F dX7_sendDown_33 2 rfl ?_
  refine g_dup2 F dX7_sendDown_34 rfl rfl ?_
  refine f_ald F 0 ql_24 rfl (j := f) (by omega) (by decide) dX7_sendDown_35 ?_
  refine g_eq rfl rfl (st' := [.int (Int32.ofNat (a 24 f)), .int (Int32.ofNat f), .ref (ad 25)]) rfl rfl ?_
  refine f_iconst F 1 dX7_sendDown_36 rfl ?_
  refine f_add F dX7_sendDown_37 ?_
  refine f_ast F 0 ql_24 rfl (j := f) (v := (a 24 f) + 1) (by omega) (by decide) dX7_sendDown_38 qs_24 ?_
  exact g_vret F hr hlk dX7_sendDown_39 ⟨rfl, congrArg (fun t => rwld cI cZ t ad) rfl⟩
def w_X7_newLeader (a : RS) (f g : Nat) : RS := w_X7_sendDown (su2 (su2 a 15 f 0) 16 f 1) f 5 (a 4 g)
abbrev rm_X7_newLeader : Room := { frames := 1, cells := 0, slots := 0, locals := 24 }
set_option maxHeartbeats 4000000 in
set_option maxRecDepth 100000 in
theorem k_X7_newLeader (l : Launch) (D : va_G) (cI cS cZ : ClassId) (ad : Nat → Nat) (a : RS) (f g : Nat) (hf : f < 3) (hg : g < 3) (hb : a 24 f ≤ 63) : gN l yX7_newLeader (Cond.code yX7_newLeader cX7_newLeader 3 none :: tb) rm_X7_newLeader D cls8 (tys3 cI cS cZ) [.ref (ad 0), .int (Int32.ofNat f), .int (Int32.ofNat g)] (rwld cI cZ a ad) none (rwld cI cZ (w_X7_newLeader a f g) ad) := by
  unfold gN
  refine g_head (by decide) rfl (Nat.le_of_ble_eq_true rfl) ?_
  intro p e s m args below meth cd A F hr hlk hnm
  refine g_eq rfl (L' := [(0, .ref (ad 0)), (1, .int (Int32.ofNat f)), (2, .int (Int32.ofNat g))]) rfl rfl rfl ?_
  refine g_aload_n F dX7_newLeader_0 0 rfl ?_
  refine f_get F inX7 ql_RM rfl 15 (by decide) tb_372 rfl (v := .ref (ad 16)) rfl dX7_newLeader_1 ?_
  refine g_iload_n F dX7_newLeader_4 1 rfl ?_
  refine f_iconst F 0 dX7_newLeader_5 rfl ?_
  refine f_zast F 2 ql_15 rfl (j := f) (v := 0) (by omega) (by decide) rfl dX7_newLeader_6 qs_15 ?_
  refine g_aload_n F dX7_newLeader_7 0 rfl ?_
  refine f_get F inX7 ql_RM rfl 16 (by decide) tb_373 rfl (v := .ref (ad 17)) rfl dX7_newLeader_8 ?_
  refine g_iload_n F dX7_newLeader_11 1 rfl ?_
  refine f_iconst F 1 dX7_newLeader_12 rfl ?_
  refine f_zast F 2 ql_16 rfl (j := f) (v := 1) (by omega) (by decide) rfl dX7_newLeader_13 qs_16 ?_
  refine g_aload_n F dX7_newLeader_14 0 rfl ?_
  refine g_iload_n F dX7_newLeader_15 1 rfl ?_
  refine f_iconst F 5 dX7_newLeader_16 rfl ?_
  refine g_aload_n F dX7_newLeader_17 0 rfl ?_
  refine f_get F inX7 ql_RM rfl 4 (by decide) tb_361 rfl (v := .ref (ad 5)) rfl dX7_newLeader_18 ?_
  refine g_iload_n F dX7_newLeader_21 2 rfl ?_
  refine f_ald F 0 ql_4 rfl (j := g) (by omega) (by decide) dX7_newLeader_22 ?_
  refine g_eq rfl rfl (st' := [.int (Int32.ofNat (a 4 g)), .int (Int32.ofNat 5), .int (Int32.ofNat f), .ref (ad 0)]) rfl rfl ?_
  refine f_callV F (As := [.int (Int32.ofNat f), .int (Int32.ofNat 5), .int (Int32.ofNat (a 4 g))]) (rest := []) (st' := []) (k_X7_sendDown l D cI cS cZ ad (su2 (su2 a 15 f 0) 16 f 1) f 5 (a 4 g) (by first | assumption | omega) (by first | assumption | omega)) ql_RM rfl tb_465 tb_463 tb_464 tb_611 tb_8 ⟨rfl, hdX7_sendDown⟩ ⟨rfl, rfl⟩ ⟨Nat.le_of_ble_eq_true rfl, Nat.le_of_ble_eq_true rfl⟩ rw_adr rfl rfl (Nat.le_of_ble_eq_true rfl) ⟨Nat.le_refl _, Nat.le_refl _⟩ dX7_newLeader_23 rfl ?_
  exact g_vret F hr hlk dX7_newLeader_26 ⟨rfl, congrArg (fun t => rwld cI cZ t ad) rfl⟩
def w_X7_copyEntry (a : RS) (f t : Nat) : RS := su2 (su2 (su2 (su2 (su2 a 5 t (a 5 f)) 6 t (a 6 f)) 7 t (a 7 f)) 8 t (a 8 f)) 9 t (a 9 f)
abbrev rm_X7_copyEntry : Room := { frames := 0, cells := 0, slots := 0, locals := 0 }
set_option maxHeartbeats 4000000 in
set_option maxRecDepth 100000 in
theorem k_X7_copyEntry (l : Launch) (D : va_G) (cI cS cZ : ClassId) (ad : Nat → Nat) (a : RS) (f t : Nat) (hf : f < 72) (ht : t < 72) : gN l yX7_copyEntry (Cond.code yX7_copyEntry cX7_copyEntry 3 none :: tb) rm_X7_copyEntry D cls8 (tys3 cI cS cZ) [.ref (ad 0), .int (Int32.ofNat f), .int (Int32.ofNat t)] (rwld cI cZ a ad) none (rwld cI cZ (w_X7_copyEntry a f t) ad) := by
  unfold gN
  refine g_head (by decide) rfl (Nat.le_of_ble_eq_true rfl) ?_
  intro p e s m args below meth cd A F hr hlk hnm
  refine g_eq rfl (L' := [(0, .ref (ad 0)), (1, .int (Int32.ofNat f)), (2, .int (Int32.ofNat t))]) rfl rfl rfl ?_
  refine g_aload_n F dX7_copyEntry_0 0 rfl ?_
  refine f_get F inX7 ql_RM rfl 5 (by decide) tb_362 rfl (v := .ref (ad 6)) rfl dX7_copyEntry_1 ?_
  refine g_iload_n F dX7_copyEntry_4 2 rfl ?_
  refine g_aload_n F dX7_copyEntry_5 0 rfl ?_
  refine f_get F inX7 ql_RM rfl 5 (by decide) tb_362 rfl (v := .ref (ad 6)) rfl dX7_copyEntry_6 ?_
  refine g_iload_n F dX7_copyEntry_9 1 rfl ?_
  refine f_ald F 0 ql_5 rfl (j := f) (by omega) (by decide) dX7_copyEntry_10 ?_
  refine f_ast F 0 ql_5 rfl (j := t) (v := a 5 f) (by omega) (by decide) dX7_copyEntry_11 qs_5 ?_
  refine g_aload_n F dX7_copyEntry_12 0 rfl ?_
  refine f_get F inX7 ql_RM rfl 6 (by decide) tb_363 rfl (v := .ref (ad 7)) rfl dX7_copyEntry_13 ?_
  refine g_iload_n F dX7_copyEntry_16 2 rfl ?_
  refine g_aload_n F dX7_copyEntry_17 0 rfl ?_
  refine f_get F inX7 ql_RM rfl 6 (by decide) tb_363 rfl (v := .ref (ad 7)) rfl dX7_copyEntry_18 ?_
  refine g_iload_n F dX7_copyEntry_21 1 rfl ?_
  refine f_ald F 0 ql_6 rfl (j := f) (by omega) (by decide) dX7_copyEntry_22 ?_
  refine g_eq rfl rfl (st' := [.int (Int32.ofNat (a 6 f)), .int (Int32.ofNat t), .ref (ad 7)]) rfl rfl ?_
  refine f_ast F 0 ql_6 rfl (j := t) (v := a 6 f) (by omega) (by decide) dX7_copyEntry_23 qs_6 ?_
  refine g_aload_n F dX7_copyEntry_24 0 rfl ?_
  refine f_get F inX7 ql_RM rfl 7 (by decide) tb_364 rfl (v := .ref (ad 8)) rfl dX7_copyEntry_25 ?_
  refine g_iload_n F dX7_copyEntry_28 2 rfl ?_
  refine g_aload_n F dX7_copyEntry_29 0 rfl ?_
  refine f_get F inX7 ql_RM rfl 7 (by decide) tb_364 rfl (v := .ref (ad 8)) rfl dX7_copyEntry_30 ?_
  refine g_iload_n F dX7_copyEntry_33 1 rfl ?_
  refine f_ald F 0 ql_7 rfl (j := f) (by omega) (by decide) dX7_copyEntry_34 ?_
  refine g_eq rfl rfl (st' := [.int (Int32.ofNat (a 7 f)), .int (Int32.ofNat t), .ref (ad 8)]) rfl rfl ?_
  refine f_ast F 0 ql_7 rfl (j := t) (v := a 7 f) (by omega) (by decide) dX7_copyEntry_35 qs_7 ?_
  refine g_aload_n F dX7_copyEntry_36 0 rfl ?_
  refine f_get F inX7 ql_RM rfl 8 (by decide) tb_365 rfl (v := .ref (ad 9)) rfl dX7_copyEntry_37 ?_
  refine g_iload_n F dX7_copyEntry_40 2 rfl ?_
  refine g_aload_n F dX7_copyEntry_41 0 rfl ?_
  refine f_get F inX7 ql_RM rfl 8 (by decide) tb_365 rfl (v := .ref (ad 9)) rfl dX7_copyEntry_42 ?_
  refine g_iload_n F dX7_copyEntry_45 1 rfl ?_
  refine f_ald F 0 ql_8 rfl (j := f) (by omega) (by decide) dX7_copyEntry_46 ?_
  refine g_eq rfl rfl (st' := [.int (Int32.ofNat (a 8 f)), .int (Int32.ofNat t), .ref (ad 9)]) rfl rfl ?_
  refine f_ast F 0 ql_8 rfl (j := t) (v := a 8 f) (by omega) (by decide) dX7_copyEntry_47 qs_8 ?_
  refine g_aload_n F dX7_copyEntry_48 0 rfl ?_
  refine f_get F inX7 ql_RM rfl 9 (by decide) tb_366 rfl (v := .ref (ad 10)) rfl dX7_copyEntry_49 ?_
  refine g_iload_n F dX7_copyEntry_52 2 rfl ?_
  refine g_aload_n F dX7_copyEntry_53 0 rfl ?_
  refine f_get F inX7 ql_RM rfl 9 (by decide) tb_366 rfl (v := .ref (ad 10)) rfl dX7_copyEntry_54 ?_
  refine g_iload_n F dX7_copyEntry_57 1 rfl ?_
  refine f_ald F 0 ql_9 rfl (j := f) (by omega) (by decide) dX7_copyEntry_58 ?_
  refine g_eq rfl rfl (st' := [.int (Int32.ofNat (a 9 f)), .int (Int32.ofNat t), .ref (ad 10)]) rfl rfl ?_
  refine f_ast F 0 ql_9 rfl (j := t) (v := a 9 f) (by omega) (by decide) dX7_copyEntry_59 qs_9 ?_
  exact g_vret F hr hlk dX7_copyEntry_60 ⟨rfl, congrArg (fun t => rwld cI cZ t ad) rfl⟩
def lpw_X7_copy_3 (a : RS) (f t n : Nat) : Nat → Nat → RS → RS
  | 0, k, x => x
  | d + 1, k, x => lpw_X7_copy_3 a f t n d (k + 1) (w_X7_copyEntry x ((24 * f) + k) ((24 * t) + k))
def w_X7_copy (a : RS) (f t n : Nat) : RS := su2 (lpw_X7_copy_3 a f t n n 0 a) 4 t n
abbrev rm_X7_copy : Room := { frames := 1, cells := 0, slots := 0, locals := 22 }
set_option maxHeartbeats 4000000 in
set_option maxRecDepth 100000 in
theorem k_X7_copy (l : Launch) (D : va_G) (cI cS cZ : ClassId) (ad : Nat → Nat) (a : RS) (f t n : Nat) (hf : f < 3) (ht : t < 3) (hn : n ≤ 24) : gN l yX7_copy (Cond.code yX7_copy cX7_copy 5 none :: tb) rm_X7_copy D cls8 (tys3 cI cS cZ) [.ref (ad 0), .int (Int32.ofNat f), .int (Int32.ofNat t), .int (Int32.ofNat n)] (rwld cI cZ a ad) none (rwld cI cZ (w_X7_copy a f t n) ad) := by
  unfold gN
  refine g_head (by decide) rfl (Nat.le_of_ble_eq_true rfl) ?_
  intro p e s m args below meth cd A F hr hlk hnm
  refine g_eq rfl (L' := [(0, .ref (ad 0)), (1, .int (Int32.ofNat f)), (2, .int (Int32.ofNat t)), (3, .int (Int32.ofNat n))]) rfl rfl rfl ?_
  refine f_iconst F 0 dX7_copy_0 rfl ?_
  refine g_istore F [(4, .int (Int32.ofNat 0)), (0, .ref (ad 0)), (1, .int (Int32.ofNat f)), (2, .int (Int32.ofNat t)), (3, .int (Int32.ofNat n))] dX7_copy_1 (by decide) rfl ?_
  have loop3 : ∀ (Q : State → Prop) (d k : Nat) (x : RS), (k + d = n) → gw p l e (headSpec (Cond.code yX7_copy cX7_copy 5 none :: tb) rm_X7_copy).room s m args below meth cd 5 D cls8 A Q 0 0 33 [(0, .ref (ad 0)), (1, .int (Int32.ofNat f)), (2, .int (Int32.ofNat t)), (3, .int (Int32.ofNat n))] [] (rwld cI cZ (lpw_X7_copy_3 a f t n d k x) ad) → gw p l e (headSpec (Cond.code yX7_copy cX7_copy 5 none :: tb) rm_X7_copy).room s m args below meth cd 5 D cls8 A Q 0 0 3 [(4, .int (Int32.ofNat k)), (0, .ref (ad 0)), (1, .int (Int32.ofNat f)), (2, .int (Int32.ofNat t)), (3, .int (Int32.ofNat n))] [] (rwld cI cZ x ad) := by
    intro Q d
    induction d with
    | zero =>
      intro k x hk K
      refine g_iload F dX7_copy_3 0 rfl ?_
      refine g_iload_n F dX7_copy_5 4 rfl ?_
      refine g_icmp_ge F dX7_copy_6 (tgt := 33) rfl (fun h6 => ?_) (fun h6 => ?_)
      rotate_left
      · exact absurd h6 (by rw [ofN_le (by omega) (by omega)]; omega)
      refine g_locals [(0, .ref (ad 0)), (1, .int (Int32.ofNat f)), (2, .int (Int32.ofNat t)), (3, .int (Int32.ofNat n))] [1, 2, 3, 4] rfl ?_
      exact K
    | succ d ih =>
      intro k x hk K
      refine g_iload F dX7_copy_3 0 rfl ?_
      refine g_iload_n F dX7_copy_5 4 rfl ?_
      refine g_icmp_ge F dX7_copy_6 (tgt := 33) rfl (fun h6 => ?_) (fun h6 => ?_)
      · exact absurd h6 (by rw [ofN_le (by omega) (by omega)]; omega)
      refine g_aload_n F dX7_copy_9 1 rfl ?_
      refine f_bipush F 24 dX7_copy_10 rfl ?_
      refine g_iload_n F dX7_copy_12 2 rfl ?_
      refine f_mul F dX7_copy_13 ?_
      refine g_iload F dX7_copy_14 0 rfl ?_
      refine f_add F dX7_copy_16 ?_
      refine f_bipush F 24 dX7_copy_17 rfl ?_
      refine g_iload_n F dX7_copy_19 3 rfl ?_
      refine f_mul F dX7_copy_20 ?_
      refine g_iload F dX7_copy_21 0 rfl ?_
      refine f_add F dX7_copy_23 ?_
      refine f_callV F (As := [.int (Int32.ofNat ((24 * f) + k)), .int (Int32.ofNat ((24 * t) + k))]) (rest := []) (st' := []) (k_X7_copyEntry l D cI cS cZ ad x ((24 * f) + k) ((24 * t) + k) (by first | assumption | omega) (by first | assumption | omega)) ql_RM rfl tb_480 tb_478 tb_479 tb_616 tb_8 ⟨rfl, hdX7_copyEntry⟩ ⟨rfl, rfl⟩ ⟨Nat.le_of_ble_eq_true rfl, Nat.le_of_ble_eq_true rfl⟩ rw_adr rfl rfl (Nat.le_of_ble_eq_true rfl) ⟨Nat.le_refl _, Nat.le_refl _⟩ dX7_copy_24 rfl ?_
      refine f_iinc F (k + 1) [(4, .int (Int32.ofNat (k + 1))), (0, .ref (ad 0)), (1, .int (Int32.ofNat f)), (2, .int (Int32.ofNat t)), (3, .int (Int32.ofNat n))] dX7_copy_27 0 rfl (ofN_inc _) (by decide) rfl ?_
      refine g_goto F dX7_copy_30 (tgt := 3) rfl ?_
      exact ih (k + 1) (w_X7_copyEntry x ((24 * f) + k) ((24 * t) + k)) (by omega) (g_eq rfl rfl rfl (congrArg (fun t => rwld cI cZ t ad) (by simp only [lpw_X7_copy_3])) K)
  refine loop3 _ n 0 a (Nat.zero_add _) ?_
  refine g_aload_n F dX7_copy_33 0 rfl ?_
  refine f_get F inX7 ql_RM rfl 4 (by decide) tb_361 rfl (v := .ref (ad 5)) rfl dX7_copy_34 ?_
  refine g_iload_n F dX7_copy_37 2 rfl ?_
  refine g_iload_n F dX7_copy_38 3 rfl ?_
  refine f_ast F 0 ql_4 rfl (j := t) (v := n) (by omega) (by decide) dX7_copy_39 qs_4 ?_
  exact g_vret F hr hlk dX7_copy_40 ⟨rfl, congrArg (fun t => rwld cI cZ t ad) rfl⟩
theorem ne0_of {v : Nat} (h : ¬ Int32.ofNat v = 0) : v ≠ 0 := fun e => h (by rw [e]; rfl)
theorem sd24 {x : RS} {f kd vl g : Nat} (h : g ≠ f) : w_X7_sendDown x f kd vl 24 g = x 24 g := by unfold w_X7_sendDown; simp [su2, h]
theorem sd24_le {x : RS} {f kd vl g : Nat} : w_X7_sendDown x f kd vl 24 g ≤ x 24 g + 1 := by
  by_cases h : g = f
  · subst h; unfold w_X7_sendDown; rw [su2_same]; exact Nat.le_refl _
  · rw [sd24 h]; exact Nat.le_succ _
theorem fr_sendDown {x : RS} {f kd vl q : Nat} (h : q ≠ 22 ∧ q ≠ 23 ∧ q ≠ 24) : w_X7_sendDown x f kd vl q = x q := by unfold w_X7_sendDown; rw [su2_ne h.2.2, su2_ne h.2.1, su2_ne h.1]
theorem nl24 {x : RS} {f g g2 : Nat} (h : g2 ≠ f) : w_X7_newLeader x f g 24 g2 = x 24 g2 := by unfold w_X7_newLeader; rw [sd24 h, su2_ne (by decide), su2_ne (by decide)]
theorem nl24_le {x : RS} {f g g2 : Nat} : w_X7_newLeader x f g 24 g2 ≤ x 24 g2 + 1 := by unfold w_X7_newLeader; exact sd24_le
theorem fr_copyEntry {x : RS} {f t q : Nat} (h : q < 5 ∨ 9 < q) : w_X7_copyEntry x f t q = x q := by
  unfold w_X7_copyEntry; rw [su2_ne (by omega), su2_ne (by omega), su2_ne (by omega), su2_ne (by omega), su2_ne (by omega)]
theorem fr_copy_lp {a : RS} {f t n q : Nat} (h : q < 5 ∨ 9 < q) : ∀ (d k : Nat) (x : RS), lpw_X7_copy_3 a f t n d k x q = x q := by
  intro d
  induction d with
  | zero => intro k x; rfl
  | succ d ih => intro k x; simp only [lpw_X7_copy_3]; rw [ih, fr_copyEntry h]
theorem fr_copy {x : RS} {f t n q : Nat} (h : q < 4 ∨ 9 < q) : w_X7_copy x f t n q = x q := by
  unfold w_X7_copy; rw [su2_ne (by omega), fr_copy_lp (by omega)]
def r_X7_lastMark (a : RS) (v : Nat) : Nat := if Int32.ofNat (a 4 v) = 0 then 0 else (a 5 (((24 * v) + (a 4 v)) - 1))
abbrev rm_X7_lastMark : Room := { frames := 0, cells := 0, slots := 0, locals := 0 }
set_option maxHeartbeats 4000000 in
set_option maxRecDepth 100000 in
theorem k_X7_lastMark (l : Launch) (D : va_G) (cI cS cZ : ClassId) (ad : Nat → Nat) (a : RS) (v : Nat) (hv : v < 3) (hb : a 4 v ≤ 24) : gN l yX7_lastMark (Cond.code yX7_lastMark cX7_lastMark 2 (some .int) :: tb) rm_X7_lastMark D cls8 (tys3 cI cS cZ) [.ref (ad 0), .int (Int32.ofNat v)] (rwld cI cZ a ad) (some (.int (Int32.ofNat (r_X7_lastMark a v)))) (rwld cI cZ a ad) := by
  unfold gN
  refine g_head (by decide) rfl (Nat.le_of_ble_eq_true rfl) ?_
  intro p e s m args below meth cd A F hr hlk hnm
  refine g_eq rfl (L' := [(0, .ref (ad 0)), (1, .int (Int32.ofNat v))]) rfl rfl rfl ?_
  refine g_aload_n F dX7_lastMark_0 0 rfl ?_
  refine f_get F inX7 ql_RM rfl 4 (by decide) tb_361 rfl (v := .ref (ad 5)) rfl dX7_lastMark_1 ?_
  refine g_iload_n F dX7_lastMark_4 1 rfl ?_
  refine f_ald F 0 ql_4 rfl (j := v) (by omega) (by decide) dX7_lastMark_5 ?_
  refine g_if_ne F dX7_lastMark_6 (tgt := 13) rfl (fun h6 => ?_) (fun h6 => ?_)
  · refine g_aload_n F dX7_lastMark_13 0 rfl ?_
    refine f_get F inX7 ql_RM rfl 5 (by decide) tb_362 rfl (v := .ref (ad 6)) rfl dX7_lastMark_14 ?_
    refine f_bipush F 24 dX7_lastMark_17 rfl ?_
    refine g_iload_n F dX7_lastMark_19 1 rfl ?_
    refine f_mul F dX7_lastMark_20 ?_
    refine g_aload_n F dX7_lastMark_21 0 rfl ?_
    refine f_get F inX7 ql_RM rfl 4 (by decide) tb_361 rfl (v := .ref (ad 5)) rfl dX7_lastMark_22 ?_
    refine g_iload_n F dX7_lastMark_25 1 rfl ?_
    refine f_ald F 0 ql_4 rfl (j := v) (by omega) (by decide) dX7_lastMark_26 ?_
    refine f_add F dX7_lastMark_27 ?_
    refine f_iconst F 1 dX7_lastMark_28 rfl ?_
    refine f_sub F (by have := ne0_of h6; omega) dX7_lastMark_29 ?_
    refine f_ald F 0 ql_5 rfl (j := ((24 * v) + (a 4 v)) - 1) (by omega) (by decide) dX7_lastMark_30 ?_
    exact g_iret F hr hlk dX7_lastMark_31 ⟨congrArg (fun t => some (Value.int (Int32.ofNat t))) (Eq.symm (by unfold r_X7_lastMark; first | simp only [if_neg h6] | rfl)), rfl⟩
  · refine f_iconst F 0 dX7_lastMark_9 rfl ?_
    refine g_goto F dX7_lastMark_10 (tgt := 31) rfl ?_
    exact g_iret F hr hlk dX7_lastMark_31 ⟨congrArg (fun t => some (Value.int (Int32.ofNat t))) (Eq.symm (by unfold r_X7_lastMark; first | simp only [if_pos h6] | rfl)), rfl⟩
def lpw_X7_accepted_111 (a : RS) (f g fr : Nat) : Nat → Nat → RS → RS
  | 0, k, x => x
  | d + 1, k, x => if Int32.ofNat (r_X7_follows x k g) = 0 then (lpw_X7_accepted_111 a f g fr d (k + 1) x) else (if Int32.ofNat (x 15 k) = 0 then (lpw_X7_accepted_111 a f g fr d (k + 1) x) else (lpw_X7_accepted_111 a f g fr d (k + 1) (w_X7_newLeader x k g)))
def w_X7_accepted (a : RS) (f g fr : Nat) : RS := if Int32.ofNat (a 11 g) = 0 then (if Int32.ofNat fr = 0 then (su2 a 15 f 1) else (if Int32.ofNat (a 2 g) < Int32.ofNat (a 2 f) then (lpw_X7_accepted_111 a f g fr 3 0 (w_X7_newLeader (su2 (su2 (w_X7_copy a f g (a 4 f)) 2 g ((w_X7_copy a f g (a 4 f)) 10 g)) 11 g 1) f g)) else (if Int32.ofNat (a 2 f) = Int32.ofNat (a 2 g) then (if Int32.ofNat (r_X7_lastMark a f) ≤ Int32.ofNat (r_X7_lastMark a g) then (lpw_X7_accepted_111 a f g fr 3 0 (w_X7_newLeader (su2 (su2 a 2 g (a 10 g)) 11 g 1) f g)) else (lpw_X7_accepted_111 a f g fr 3 0 (w_X7_newLeader (su2 (su2 (w_X7_copy a f g (a 4 f)) 2 g ((w_X7_copy a f g (a 4 f)) 10 g)) 11 g 1) f g))) else (lpw_X7_accepted_111 a f g fr 3 0 (w_X7_newLeader (su2 (su2 a 2 g (a 10 g)) 11 g 1) f g))))) else (w_X7_newLeader a f g)
abbrev rm_X7_accepted : Room := { frames := 2, cells := 0, slots := 0, locals := 46 }
set_option maxHeartbeats 4000000 in
set_option maxRecDepth 100000 in
theorem k_X7_accepted (l : Launch) (D : va_G) (cI cS cZ : ClassId) (ad : Nat → Nat) (a : RS) (f g fr : Nat) (hf : f < 3) (hg : g < 3) (hq : ∀ s, s < 3 → a 4 s ≤ 24 ∧ a 24 s ≤ 62) : gN l yX7_accepted (Cond.code yX7_accepted cX7_accepted 5 none :: tb) rm_X7_accepted D cls8 (tys3 cI cS cZ) [.ref (ad 0), .int (Int32.ofNat f), .int (Int32.ofNat g), .int (Int32.ofNat fr)] (rwld cI cZ a ad) none (rwld cI cZ (w_X7_accepted a f g fr) ad) := by
  unfold gN
  refine g_head (by decide) rfl (Nat.le_of_ble_eq_true rfl) ?_
  intro p e s m args below meth cd A F hr hlk hnm
  refine g_eq rfl (L' := [(0, .ref (ad 0)), (1, .int (Int32.ofNat f)), (2, .int (Int32.ofNat g)), (3, .int (Int32.ofNat fr))]) rfl rfl rfl ?_
  refine g_aload_n F dX7_accepted_0 0 rfl ?_
  refine f_get F inX7 ql_RM rfl 11 (by decide) tb_368 rfl (v := .ref (ad 12)) rfl dX7_accepted_1 ?_
  refine g_iload_n F dX7_accepted_4 2 rfl ?_
  refine f_zald F 2 ql_11 rfl (j := g) (by omega) (by decide) dX7_accepted_5 ?_
  refine g_if_eq F dX7_accepted_6 (tgt := 16) rfl (fun h6 => ?_) (fun h6 => ?_)
  · refine g_iload_n F dX7_accepted_16 3 rfl ?_
    refine g_if_ne F dX7_accepted_17 (tgt := 28) rfl (fun h17 => ?_) (fun h17 => ?_)
    · refine g_aload_n F dX7_accepted_28 0 rfl ?_
      refine f_get F inX7 ql_RM rfl 2 (by decide) tb_359 rfl (v := .ref (ad 3)) rfl dX7_accepted_29 ?_
      refine g_iload_n F dX7_accepted_32 1 rfl ?_
      refine f_ald F 0 ql_2 rfl (j := f) (by omega) (by decide) dX7_accepted_33 ?_
      refine g_aload_n F dX7_accepted_34 0 rfl ?_
      refine f_get F inX7 ql_RM rfl 2 (by decide) tb_359 rfl (v := .ref (ad 3)) rfl dX7_accepted_35 ?_
      refine g_iload_n F dX7_accepted_38 2 rfl ?_
      refine f_ald F 0 ql_2 rfl (j := g) (by omega) (by decide) dX7_accepted_39 ?_
      refine g_icmp_gt F dX7_accepted_40 (tgt := 71) rfl (fun h40 => ?_) (fun h40 => ?_)
      · refine g_aload_n F dX7_accepted_71 0 rfl ?_
        refine g_iload_n F dX7_accepted_72 1 rfl ?_
        refine g_iload_n F dX7_accepted_73 2 rfl ?_
        refine g_aload_n F dX7_accepted_74 0 rfl ?_
        refine f_get F inX7 ql_RM rfl 4 (by decide) tb_361 rfl (v := .ref (ad 5)) rfl dX7_accepted_75 ?_
        refine g_iload_n F dX7_accepted_78 1 rfl ?_
        refine f_ald F 0 ql_4 rfl (j := f) (by omega) (by decide) dX7_accepted_79 ?_
        refine f_callV F (As := [.int (Int32.ofNat f), .int (Int32.ofNat g), .int (Int32.ofNat (a 4 f))]) (rest := []) (st' := []) (k_X7_copy l D cI cS cZ ad a f g (a 4 f) (by first | assumption | omega) (by first | assumption | omega) (hq f hf).1) ql_RM rfl tb_477 tb_475 tb_476 tb_615 tb_8 ⟨rfl, hdX7_copy⟩ ⟨rfl, rfl⟩ ⟨Nat.le_of_ble_eq_true rfl, Nat.le_of_ble_eq_true rfl⟩ rw_adr rfl rfl (Nat.le_of_ble_eq_true rfl) ⟨Nat.le_refl _, Nat.le_refl _⟩ dX7_accepted_80 rfl ?_
        refine g_aload_n F dX7_accepted_83 0 rfl ?_
        refine f_get F inX7 ql_RM rfl 2 (by decide) tb_359 rfl (v := .ref (ad 3)) rfl dX7_accepted_84 ?_
        refine g_iload_n F dX7_accepted_87 2 rfl ?_
        refine g_aload_n F dX7_accepted_88 0 rfl ?_
        refine f_get F inX7 ql_RM rfl 10 (by decide) tb_367 rfl (v := .ref (ad 11)) rfl dX7_accepted_89 ?_
        refine g_iload_n F dX7_accepted_92 2 rfl ?_
        refine f_ald F 0 ql_10 rfl (j := g) (by omega) (by decide) dX7_accepted_93 ?_
        refine f_ast F 0 ql_2 rfl (j := g) (v := (w_X7_copy a f g (a 4 f)) 10 g) (by omega) (by decide) dX7_accepted_94 qs_2 ?_
        refine g_aload_n F dX7_accepted_95 0 rfl ?_
        refine f_get F inX7 ql_RM rfl 11 (by decide) tb_368 rfl (v := .ref (ad 12)) rfl dX7_accepted_96 ?_
        refine g_iload_n F dX7_accepted_99 2 rfl ?_
        refine f_iconst F 1 dX7_accepted_100 rfl ?_
        refine f_zast F 2 ql_11 rfl (j := g) (v := 1) (by omega) (by decide) rfl dX7_accepted_101 qs_11 ?_
        refine g_aload_n F dX7_accepted_102 0 rfl ?_
        refine g_iload_n F dX7_accepted_103 1 rfl ?_
        refine g_iload_n F dX7_accepted_104 2 rfl ?_
        refine f_callV F (As := [.int (Int32.ofNat f), .int (Int32.ofNat g)]) (rest := []) (st' := []) (k_X7_newLeader l D cI cS cZ ad (su2 (su2 (w_X7_copy a f g (a 4 f)) 2 g ((w_X7_copy a f g (a 4 f)) 10 g)) 11 g 1) f g (by first | assumption | omega) (by first | assumption | omega) (Nat.le_trans (by first | exact (by have := hq f (by omega); omega : a 24 f ≤ 62) | exact (by rw [fr_copy (by decide)]; have := hq f (by omega); omega : w_X7_copy a f g (a 4 f) 24 f ≤ 62)) (by decide))) ql_RM rfl tb_471 tb_469 tb_470 tb_613 tb_8 ⟨rfl, hdX7_newLeader⟩ ⟨rfl, rfl⟩ ⟨Nat.le_of_ble_eq_true rfl, Nat.le_of_ble_eq_true rfl⟩ rw_adr rfl rfl (Nat.le_of_ble_eq_true rfl) ⟨Nat.le_refl _, Nat.le_refl _⟩ dX7_accepted_105 rfl ?_
        refine f_iconst F 0 dX7_accepted_108 rfl ?_
        refine g_istore F [(4, .int (Int32.ofNat 0)), (0, .ref (ad 0)), (1, .int (Int32.ofNat f)), (2, .int (Int32.ofNat g)), (3, .int (Int32.ofNat fr))] dX7_accepted_109 (by decide) rfl ?_
        have loop111 : ∀ (Q : State → Prop) (d k : Nat) (x : RS), (k + d = 3) → (∀ q, k ≤ q → q < 3 → x 24 q ≤ 63) → gw p l e (headSpec (Cond.code yX7_accepted cX7_accepted 5 none :: tb) rm_X7_accepted).room s m args below meth cd 5 D cls8 A Q 0 0 150 [(0, .ref (ad 0)), (1, .int (Int32.ofNat f)), (2, .int (Int32.ofNat g)), (3, .int (Int32.ofNat fr))] [] (rwld cI cZ (lpw_X7_accepted_111 a f g fr d k x) ad) → gw p l e (headSpec (Cond.code yX7_accepted cX7_accepted 5 none :: tb) rm_X7_accepted).room s m args below meth cd 5 D cls8 A Q 0 0 111 [(4, .int (Int32.ofNat k)), (0, .ref (ad 0)), (1, .int (Int32.ofNat f)), (2, .int (Int32.ofNat g)), (3, .int (Int32.ofNat fr))] [] (rwld cI cZ x ad) := by
          intro Q d
          induction d with
          | zero =>
            intro k x hk hx K
            refine g_iload F dX7_accepted_111 0 rfl ?_
            refine f_iconst F 3 dX7_accepted_113 rfl ?_
            refine g_icmp_ge F dX7_accepted_114 (tgt := 150) rfl (fun h114 => ?_) (fun h114 => ?_)
            rotate_left
            · exact absurd h114 (by rw [ofN_le (by omega) (by omega)]; omega)
            refine g_locals [(0, .ref (ad 0)), (1, .int (Int32.ofNat f)), (2, .int (Int32.ofNat g)), (3, .int (Int32.ofNat fr))] [1, 2, 3, 4] rfl ?_
            exact K
          | succ d ih =>
            intro k x hk hx K
            refine g_iload F dX7_accepted_111 0 rfl ?_
            refine f_iconst F 3 dX7_accepted_113 rfl ?_
            refine g_icmp_ge F dX7_accepted_114 (tgt := 150) rfl (fun h114 => ?_) (fun h114 => ?_)
            · exact absurd h114 (by rw [ofN_le (by omega) (by omega)]; omega)
            refine g_aload_n F dX7_accepted_117 1 rfl ?_
            refine g_iload F dX7_accepted_118 0 rfl ?_
            refine g_iload_n F dX7_accepted_120 3 rfl ?_
            refine f_callV F (As := [.int (Int32.ofNat k), .int (Int32.ofNat g)]) (rest := []) (st' := [.int (Int32.ofNat (r_X7_follows x k g))]) (k_X7_follows l D cI cS cZ ad x k g (by first | assumption | omega)) ql_RM rfl tb_450 tb_448 tb_449 tb_610 tb_8 ⟨rfl, hdX7_follows⟩ ⟨rfl, rfl⟩ ⟨Nat.le_of_ble_eq_true rfl, Nat.le_of_ble_eq_true rfl⟩ rw_adr rfl rfl (Nat.le_of_ble_eq_true rfl) ⟨Nat.le_refl _, Nat.le_refl _⟩ dX7_accepted_121 rfl ?_
            refine g_if_eq F dX7_accepted_124 (tgt := 144) rfl (fun h124 => ?_) (fun h124 => ?_)
            · refine f_iinc F (k + 1) [(4, .int (Int32.ofNat (k + 1))), (0, .ref (ad 0)), (1, .int (Int32.ofNat f)), (2, .int (Int32.ofNat g)), (3, .int (Int32.ofNat fr))] dX7_accepted_144 0 rfl (ofN_inc _) (by decide) rfl ?_
              refine g_goto F dX7_accepted_147 (tgt := 111) rfl ?_
              exact ih (k + 1) x (by omega) (fun q h1 h2 => hx q (by omega) h2) (g_eq rfl rfl rfl (congrArg (fun t => rwld cI cZ t ad) (by simp only [lpw_X7_accepted_111, if_pos h124])) K)
            · refine g_aload_n F dX7_accepted_127 1 rfl ?_
              refine f_get F inX7 ql_RM rfl 15 (by decide) tb_372 rfl (v := .ref (ad 16)) rfl dX7_accepted_128 ?_
              refine g_iload F dX7_accepted_131 0 rfl ?_
              refine f_zald F 2 ql_15 rfl (j := k) (by omega) (by decide) dX7_accepted_133 ?_
              refine g_if_eq F dX7_accepted_134 (tgt := 144) rfl (fun h134 => ?_) (fun h134 => ?_)
              · refine f_iinc F (k + 1) [(4, .int (Int32.ofNat (k + 1))), (0, .ref (ad 0)), (1, .int (Int32.ofNat f)), (2, .int (Int32.ofNat g)), (3, .int (Int32.ofNat fr))] dX7_accepted_144 0 rfl (ofN_inc _) (by decide) rfl ?_
                refine g_goto F dX7_accepted_147 (tgt := 111) rfl ?_
                exact ih (k + 1) x (by omega) (fun q h1 h2 => hx q (by omega) h2) (g_eq rfl rfl rfl (congrArg (fun t => rwld cI cZ t ad) (by simp only [lpw_X7_accepted_111, if_neg h124, if_pos h134])) K)
              · refine g_aload_n F dX7_accepted_137 1 rfl ?_
                refine g_iload F dX7_accepted_138 0 rfl ?_
                refine g_iload_n F dX7_accepted_140 3 rfl ?_
                refine f_callV F (As := [.int (Int32.ofNat k), .int (Int32.ofNat g)]) (rest := []) (st' := []) (k_X7_newLeader l D cI cS cZ ad x k g (by first | assumption | omega) (by first | assumption | omega) (hx k (Nat.le_refl _) (by omega))) ql_RM rfl tb_471 tb_469 tb_470 tb_613 tb_8 ⟨rfl, hdX7_newLeader⟩ ⟨rfl, rfl⟩ ⟨Nat.le_of_ble_eq_true rfl, Nat.le_of_ble_eq_true rfl⟩ rw_adr rfl rfl (Nat.le_of_ble_eq_true rfl) ⟨Nat.le_refl _, Nat.le_refl _⟩ dX7_accepted_141 rfl ?_
                refine f_iinc F (k + 1) [(4, .int (Int32.ofNat (k + 1))), (0, .ref (ad 0)), (1, .int (Int32.ofNat f)), (2, .int (Int32.ofNat g)), (3, .int (Int32.ofNat fr))] dX7_accepted_144 0 rfl (ofN_inc _) (by decide) rfl ?_
                refine g_goto F dX7_accepted_147 (tgt := 111) rfl ?_
                exact ih (k + 1) (w_X7_newLeader x k g) (by omega) (fun q h1 h2 => by rw [nl24 (by omega)]; exact hx q (by omega) h2) (g_eq rfl rfl rfl (congrArg (fun t => rwld cI cZ t ad) (by simp only [lpw_X7_accepted_111, if_neg h124, if_neg h134])) K)
        refine loop111 _ 3 0 (w_X7_newLeader (su2 (su2 (w_X7_copy a f g (a 4 f)) 2 g ((w_X7_copy a f g (a 4 f)) 10 g)) 11 g 1) f g) (Nat.zero_add _) (fun q _ h2 => Nat.le_trans nl24_le (Nat.succ_le_succ (by first | exact (by have := hq q (by omega); omega : a 24 q ≤ 62) | exact (by rw [fr_copy (by decide)]; have := hq q (by omega); omega : w_X7_copy a f g (a 4 f) 24 q ≤ 62)))) ?_
        exact g_vret F hr hlk dX7_accepted_150 ⟨rfl, congrArg (fun t => rwld cI cZ t ad) (Eq.symm (by unfold w_X7_accepted; first | simp only [if_pos h6, if_neg h17, if_pos h40] | rfl))⟩
      · refine g_aload_n F dX7_accepted_43 0 rfl ?_
        refine f_get F inX7 ql_RM rfl 2 (by decide) tb_359 rfl (v := .ref (ad 3)) rfl dX7_accepted_44 ?_
        refine g_iload_n F dX7_accepted_47 1 rfl ?_
        refine f_ald F 0 ql_2 rfl (j := f) (by omega) (by decide) dX7_accepted_48 ?_
        refine g_aload_n F dX7_accepted_49 0 rfl ?_
        refine f_get F inX7 ql_RM rfl 2 (by decide) tb_359 rfl (v := .ref (ad 3)) rfl dX7_accepted_50 ?_
        refine g_iload_n F dX7_accepted_53 2 rfl ?_
        refine f_ald F 0 ql_2 rfl (j := g) (by omega) (by decide) dX7_accepted_54 ?_
        refine g_icmp_ne F dX7_accepted_55 (tgt := 83) rfl (fun h55 => ?_) (fun h55 => ?_)
        · refine g_aload_n F dX7_accepted_83 0 rfl ?_
          refine f_get F inX7 ql_RM rfl 2 (by decide) tb_359 rfl (v := .ref (ad 3)) rfl dX7_accepted_84 ?_
          refine g_iload_n F dX7_accepted_87 2 rfl ?_
          refine g_aload_n F dX7_accepted_88 0 rfl ?_
          refine f_get F inX7 ql_RM rfl 10 (by decide) tb_367 rfl (v := .ref (ad 11)) rfl dX7_accepted_89 ?_
          refine g_iload_n F dX7_accepted_92 2 rfl ?_
          refine f_ald F 0 ql_10 rfl (j := g) (by omega) (by decide) dX7_accepted_93 ?_
          refine f_ast F 0 ql_2 rfl (j := g) (v := a 10 g) (by omega) (by decide) dX7_accepted_94 qs_2 ?_
          refine g_aload_n F dX7_accepted_95 0 rfl ?_
          refine f_get F inX7 ql_RM rfl 11 (by decide) tb_368 rfl (v := .ref (ad 12)) rfl dX7_accepted_96 ?_
          refine g_iload_n F dX7_accepted_99 2 rfl ?_
          refine f_iconst F 1 dX7_accepted_100 rfl ?_
          refine f_zast F 2 ql_11 rfl (j := g) (v := 1) (by omega) (by decide) rfl dX7_accepted_101 qs_11 ?_
          refine g_aload_n F dX7_accepted_102 0 rfl ?_
          refine g_iload_n F dX7_accepted_103 1 rfl ?_
          refine g_iload_n F dX7_accepted_104 2 rfl ?_
          refine f_callV F (As := [.int (Int32.ofNat f), .int (Int32.ofNat g)]) (rest := []) (st' := []) (k_X7_newLeader l D cI cS cZ ad (su2 (su2 a 2 g (a 10 g)) 11 g 1) f g (by first | assumption | omega) (by first | assumption | omega) (Nat.le_trans (by first | exact (by have := hq f (by omega); omega : a 24 f ≤ 62) | exact (by rw [fr_copy (by decide)]; have := hq f (by omega); omega : w_X7_copy a f g (a 4 f) 24 f ≤ 62)) (by decide))) ql_RM rfl tb_471 tb_469 tb_470 tb_613 tb_8 ⟨rfl, hdX7_newLeader⟩ ⟨rfl, rfl⟩ ⟨Nat.le_of_ble_eq_true rfl, Nat.le_of_ble_eq_true rfl⟩ rw_adr rfl rfl (Nat.le_of_ble_eq_true rfl) ⟨Nat.le_refl _, Nat.le_refl _⟩ dX7_accepted_105 rfl ?_
          refine f_iconst F 0 dX7_accepted_108 rfl ?_
          refine g_istore F [(4, .int (Int32.ofNat 0)), (0, .ref (ad 0)), (1, .int (Int32.ofNat f)), (2, .int (Int32.ofNat g)), (3, .int (Int32.ofNat fr))] dX7_accepted_109 (by decide) rfl ?_
          have loop111 : ∀ (Q : State → Prop) (d k : Nat) (x : RS), (k + d = 3) → (∀ q, k ≤ q → q < 3 → x 24 q ≤ 63) → gw p l e (headSpec (Cond.code yX7_accepted cX7_accepted 5 none :: tb) rm_X7_accepted).room s m args below meth cd 5 D cls8 A Q 0 0 150 [(0, .ref (ad 0)), (1, .int (Int32.ofNat f)), (2, .int (Int32.ofNat g)), (3, .int (Int32.ofNat fr))] [] (rwld cI cZ (lpw_X7_accepted_111 a f g fr d k x) ad) → gw p l e (headSpec (Cond.code yX7_accepted cX7_accepted 5 none :: tb) rm_X7_accepted).room s m args below meth cd 5 D cls8 A Q 0 0 111 [(4, .int (Int32.ofNat k)), (0, .ref (ad 0)), (1, .int (Int32.ofNat f)), (2, .int (Int32.ofNat g)), (3, .int (Int32.ofNat fr))] [] (rwld cI cZ x ad) := by
            intro Q d
            induction d with
            | zero =>
              intro k x hk hx K
              refine g_iload F dX7_accepted_111 0 rfl ?_
              refine f_iconst F 3 dX7_accepted_113 rfl ?_
              refine g_icmp_ge F dX7_accepted_114 (tgt := 150) rfl (fun h114 => ?_) (fun h114 => ?_)
              rotate_left
              · exact absurd h114 (by rw [ofN_le (by omega) (by omega)]; omega)
              refine g_locals [(0, .ref (ad 0)), (1, .int (Int32.ofNat f)), (2, .int (Int32.ofNat g)), (3, .int (Int32.ofNat fr))] [1, 2, 3, 4] rfl ?_
              exact K
            | succ d ih =>
              intro k x hk hx K
              refine g_iload F dX7_accepted_111 0 rfl ?_
              refine f_iconst F 3 dX7_accepted_113 rfl ?_
              refine g_icmp_ge F dX7_accepted_114 (tgt := 150) rfl (fun h114 => ?_) (fun h114 => ?_)
              · exact absurd h114 (by rw [ofN_le (by omega) (by omega)]; omega)
              refine g_aload_n F dX7_accepted_117 1 rfl ?_
              refine g_iload F dX7_accepted_118 0 rfl ?_
              refine g_iload_n F dX7_accepted_120 3 rfl ?_
              refine f_callV F (As := [.int (Int32.ofNat k), .int (Int32.ofNat g)]) (rest := []) (st' := [.int (Int32.ofNat (r_X7_follows x k g))]) (k_X7_follows l D cI cS cZ ad x k g (by first | assumption | omega)) ql_RM rfl tb_450 tb_448 tb_449 tb_610 tb_8 ⟨rfl, hdX7_follows⟩ ⟨rfl, rfl⟩ ⟨Nat.le_of_ble_eq_true rfl, Nat.le_of_ble_eq_true rfl⟩ rw_adr rfl rfl (Nat.le_of_ble_eq_true rfl) ⟨Nat.le_refl _, Nat.le_refl _⟩ dX7_accepted_121 rfl ?_
              refine g_if_eq F dX7_accepted_124 (tgt := 144) rfl (fun h124 => ?_) (fun h124 => ?_)
              · refine f_iinc F (k + 1) [(4, .int (Int32.ofNat (k + 1))), (0, .ref (ad 0)), (1, .int (Int32.ofNat f)), (2, .int (Int32.ofNat g)), (3, .int (Int32.ofNat fr))] dX7_accepted_144 0 rfl (ofN_inc _) (by decide) rfl ?_
                refine g_goto F dX7_accepted_147 (tgt := 111) rfl ?_
                exact ih (k + 1) x (by omega) (fun q h1 h2 => hx q (by omega) h2) (g_eq rfl rfl rfl (congrArg (fun t => rwld cI cZ t ad) (by simp only [lpw_X7_accepted_111, if_pos h124])) K)
              · refine g_aload_n F dX7_accepted_127 1 rfl ?_
                refine f_get F inX7 ql_RM rfl 15 (by decide) tb_372 rfl (v := .ref (ad 16)) rfl dX7_accepted_128 ?_
                refine g_iload F dX7_accepted_131 0 rfl ?_
                refine f_zald F 2 ql_15 rfl (j := k) (by omega) (by decide) dX7_accepted_133 ?_
                refine g_if_eq F dX7_accepted_134 (tgt := 144) rfl (fun h134 => ?_) (fun h134 => ?_)
                · refine f_iinc F (k + 1) [(4, .int (Int32.ofNat (k + 1))), (0, .ref (ad 0)), (1, .int (Int32.ofNat f)), (2, .int (Int32.ofNat g)), (3, .int (Int32.ofNat fr))] dX7_accepted_144 0 rfl (ofN_inc _) (by decide) rfl ?_
                  refine g_goto F dX7_accepted_147 (tgt := 111) rfl ?_
                  exact ih (k + 1) x (by omega) (fun q h1 h2 => hx q (by omega) h2) (g_eq rfl rfl rfl (congrArg (fun t => rwld cI cZ t ad) (by simp only [lpw_X7_accepted_111, if_neg h124, if_pos h134])) K)
                · refine g_aload_n F dX7_accepted_137 1 rfl ?_
                  refine g_iload F dX7_accepted_138 0 rfl ?_
                  refine g_iload_n F dX7_accepted_140 3 rfl ?_
                  refine f_callV F (As := [.int (Int32.ofNat k), .int (Int32.ofNat g)]) (rest := []) (st' := []) (k_X7_newLeader l D cI cS cZ ad x k g (by first | assumption | omega) (by first | assumption | omega) (hx k (Nat.le_refl _) (by omega))) ql_RM rfl tb_471 tb_469 tb_470 tb_613 tb_8 ⟨rfl, hdX7_newLeader⟩ ⟨rfl, rfl⟩ ⟨Nat.le_of_ble_eq_true rfl, Nat.le_of_ble_eq_true rfl⟩ rw_adr rfl rfl (Nat.le_of_ble_eq_true rfl) ⟨Nat.le_refl _, Nat.le_refl _⟩ dX7_accepted_141 rfl ?_
                  refine f_iinc F (k + 1) [(4, .int (Int32.ofNat (k + 1))), (0, .ref (ad 0)), (1, .int (Int32.ofNat f)), (2, .int (Int32.ofNat g)), (3, .int (Int32.ofNat fr))] dX7_accepted_144 0 rfl (ofN_inc _) (by decide) rfl ?_
                  refine g_goto F dX7_accepted_147 (tgt := 111) rfl ?_
                  exact ih (k + 1) (w_X7_newLeader x k g) (by omega) (fun q h1 h2 => by rw [nl24 (by omega)]; exact hx q (by omega) h2) (g_eq rfl rfl rfl (congrArg (fun t => rwld cI cZ t ad) (by simp only [lpw_X7_accepted_111, if_neg h124, if_neg h134])) K)
          refine loop111 _ 3 0 (w_X7_newLeader (su2 (su2 a 2 g (a 10 g)) 11 g 1) f g) (Nat.zero_add _) (fun q _ h2 => Nat.le_trans nl24_le (Nat.succ_le_succ (by first | exact (by have := hq q (by omega); omega : a 24 q ≤ 62) | exact (by rw [fr_copy (by decide)]; have := hq q (by omega); omega : w_X7_copy a f g (a 4 f) 24 q ≤ 62)))) ?_
          exact g_vret F hr hlk dX7_accepted_150 ⟨rfl, congrArg (fun t => rwld cI cZ t ad) (Eq.symm (by unfold w_X7_accepted; first | simp only [if_pos h6, if_neg h17, if_neg h40, if_neg h55] | rfl))⟩
        · refine g_aload_n F dX7_accepted_58 0 rfl ?_
          refine g_iload_n F dX7_accepted_59 1 rfl ?_
          refine f_callV F (As := [.int (Int32.ofNat f)]) (rest := []) (st' := [.int (Int32.ofNat (r_X7_lastMark a f))]) (k_X7_lastMark l D cI cS cZ ad a f hf (hq f hf).1) ql_RM rfl tb_474 tb_472 tb_473 tb_614 tb_8 ⟨rfl, hdX7_lastMark⟩ ⟨rfl, rfl⟩ ⟨Nat.le_of_ble_eq_true rfl, Nat.le_of_ble_eq_true rfl⟩ rw_adr rfl rfl (Nat.le_of_ble_eq_true rfl) ⟨Nat.le_refl _, Nat.le_refl _⟩ dX7_accepted_60 rfl ?_
          refine g_aload_n F dX7_accepted_63 0 rfl ?_
          refine g_iload_n F dX7_accepted_64 2 rfl ?_
          refine f_callV F (As := [.int (Int32.ofNat g)]) (rest := [.int (Int32.ofNat (r_X7_lastMark a f))]) (st' := [.int (Int32.ofNat (r_X7_lastMark a g)), .int (Int32.ofNat (r_X7_lastMark a f))]) (k_X7_lastMark l D cI cS cZ ad a g hg (hq g hg).1) ql_RM rfl tb_474 tb_472 tb_473 tb_614 tb_8 ⟨rfl, hdX7_lastMark⟩ ⟨rfl, rfl⟩ ⟨Nat.le_of_ble_eq_true rfl, Nat.le_of_ble_eq_true rfl⟩ rw_adr rfl rfl (Nat.le_of_ble_eq_true rfl) ⟨Nat.le_refl _, Nat.le_refl _⟩ dX7_accepted_65 rfl ?_
          refine g_icmp_le F dX7_accepted_68 (tgt := 83) rfl (fun h68 => ?_) (fun h68 => ?_)
          · refine g_aload_n F dX7_accepted_83 0 rfl ?_
            refine f_get F inX7 ql_RM rfl 2 (by decide) tb_359 rfl (v := .ref (ad 3)) rfl dX7_accepted_84 ?_
            refine g_iload_n F dX7_accepted_87 2 rfl ?_
            refine g_aload_n F dX7_accepted_88 0 rfl ?_
            refine f_get F inX7 ql_RM rfl 10 (by decide) tb_367 rfl (v := .ref (ad 11)) rfl dX7_accepted_89 ?_
            refine g_iload_n F dX7_accepted_92 2 rfl ?_
            refine f_ald F 0 ql_10 rfl (j := g) (by omega) (by decide) dX7_accepted_93 ?_
            refine f_ast F 0 ql_2 rfl (j := g) (v := a 10 g) (by omega) (by decide) dX7_accepted_94 qs_2 ?_
            refine g_aload_n F dX7_accepted_95 0 rfl ?_
            refine f_get F inX7 ql_RM rfl 11 (by decide) tb_368 rfl (v := .ref (ad 12)) rfl dX7_accepted_96 ?_
            refine g_iload_n F dX7_accepted_99 2 rfl ?_
            refine f_iconst F 1 dX7_accepted_100 rfl ?_
            refine f_zast F 2 ql_11 rfl (j := g) (v := 1) (by omega) (by decide) rfl dX7_accepted_101 qs_11 ?_
            refine g_aload_n F dX7_accepted_102 0 rfl ?_
            refine g_iload_n F dX7_accepted_103 1 rfl ?_
            refine g_iload_n F dX7_accepted_104 2 rfl ?_
            refine f_callV F (As := [.int (Int32.ofNat f), .int (Int32.ofNat g)]) (rest := []) (st' := []) (k_X7_newLeader l D cI cS cZ ad (su2 (su2 a 2 g (a 10 g)) 11 g 1) f g (by first | assumption | omega) (by first | assumption | omega) (Nat.le_trans (by first | exact (by have := hq f (by omega); omega : a 24 f ≤ 62) | exact (by rw [fr_copy (by decide)]; have := hq f (by omega); omega : w_X7_copy a f g (a 4 f) 24 f ≤ 62)) (by decide))) ql_RM rfl tb_471 tb_469 tb_470 tb_613 tb_8 ⟨rfl, hdX7_newLeader⟩ ⟨rfl, rfl⟩ ⟨Nat.le_of_ble_eq_true rfl, Nat.le_of_ble_eq_true rfl⟩ rw_adr rfl rfl (Nat.le_of_ble_eq_true rfl) ⟨Nat.le_refl _, Nat.le_refl _⟩ dX7_accepted_105 rfl ?_
            refine f_iconst F 0 dX7_accepted_108 rfl ?_
            refine g_istore F [(4, .int (Int32.ofNat 0)), (0, .ref (ad 0)), (1, .int (Int32.ofNat f)), (2, .int (Int32.ofNat g)), (3, .int (Int32.ofNat fr))] dX7_accepted_109 (by decide) rfl ?_
            have loop111 : ∀ (Q : State → Prop) (d k : Nat) (x : RS), (k + d = 3) → (∀ q, k ≤ q → q < 3 → x 24 q ≤ 63) → gw p l e (headSpec (Cond.code yX7_accepted cX7_accepted 5 none :: tb) rm_X7_accepted).room s m args below meth cd 5 D cls8 A Q 0 0 150 [(0, .ref (ad 0)), (1, .int (Int32.ofNat f)), (2, .int (Int32.ofNat g)), (3, .int (Int32.ofNat fr))] [] (rwld cI cZ (lpw_X7_accepted_111 a f g fr d k x) ad) → gw p l e (headSpec (Cond.code yX7_accepted cX7_accepted 5 none :: tb) rm_X7_accepted).room s m args below meth cd 5 D cls8 A Q 0 0 111 [(4, .int (Int32.ofNat k)), (0, .ref (ad 0)), (1, .int (Int32.ofNat f)), (2, .int (Int32.ofNat g)), (3, .int (Int32.ofNat fr))] [] (rwld cI cZ x ad) := by
              intro Q d
              induction d with
              | zero =>
                intro k x hk hx K
                refine g_iload F dX7_accepted_111 0 rfl ?_
                refine f_iconst F 3 dX7_accepted_113 rfl ?_
                refine g_icmp_ge F dX7_accepted_114 (tgt := 150) rfl (fun h114 => ?_) (fun h114 => ?_)
                rotate_left
                · exact absurd h114 (by rw [ofN_le (by omega) (by omega)]; omega)
                refine g_locals [(0, .ref (ad 0)), (1, .int (Int32.ofNat f)), (2, .int (Int32.ofNat g)), (3, .int (Int32.ofNat fr))] [1, 2, 3, 4] rfl ?_
                exact K
              | succ d ih =>
                intro k x hk hx K
                refine g_iload F dX7_accepted_111 0 rfl ?_
                refine f_iconst F 3 dX7_accepted_113 rfl ?_
                refine g_icmp_ge F dX7_accepted_114 (tgt := 150) rfl (fun h114 => ?_) (fun h114 => ?_)
                · exact absurd h114 (by rw [ofN_le (by omega) (by omega)]; omega)
                refine g_aload_n F dX7_accepted_117 1 rfl ?_
                refine g_iload F dX7_accepted_118 0 rfl ?_
                refine g_iload_n F dX7_accepted_120 3 rfl ?_
                refine f_callV F (As := [.int (Int32.ofNat k), .int (Int32.ofNat g)]) (rest := []) (st' := [.int (Int32.ofNat (r_X7_follows x k g))]) (k_X7_follows l D cI cS cZ ad x k g (by first | assumption | omega)) ql_RM rfl tb_450 tb_448 tb_449 tb_610 tb_8 ⟨rfl, hdX7_follows⟩ ⟨rfl, rfl⟩ ⟨Nat.le_of_ble_eq_true rfl, Nat.le_of_ble_eq_true rfl⟩ rw_adr rfl rfl (Nat.le_of_ble_eq_true rfl) ⟨Nat.le_refl _, Nat.le_refl _⟩ dX7_accepted_121 rfl ?_
                refine g_if_eq F dX7_accepted_124 (tgt := 144) rfl (fun h124 => ?_) (fun h124 => ?_)
                · refine f_iinc F (k + 1) [(4, .int (Int32.ofNat (k + 1))), (0, .ref (ad 0)), (1, .int (Int32.ofNat f)), (2, .int (Int32.ofNat g)), (3, .int (Int32.ofNat fr))] dX7_accepted_144 0 rfl (ofN_inc _) (by decide) rfl ?_
                  refine g_goto F dX7_accepted_147 (tgt := 111) rfl ?_
                  exact ih (k + 1) x (by omega) (fun q h1 h2 => hx q (by omega) h2) (g_eq rfl rfl rfl (congrArg (fun t => rwld cI cZ t ad) (by simp only [lpw_X7_accepted_111, if_pos h124])) K)
                · refine g_aload_n F dX7_accepted_127 1 rfl ?_
                  refine f_get F inX7 ql_RM rfl 15 (by decide) tb_372 rfl (v := .ref (ad 16)) rfl dX7_accepted_128 ?_
                  refine g_iload F dX7_accepted_131 0 rfl ?_
                  refine f_zald F 2 ql_15 rfl (j := k) (by omega) (by decide) dX7_accepted_133 ?_
                  refine g_if_eq F dX7_accepted_134 (tgt := 144) rfl (fun h134 => ?_) (fun h134 => ?_)
                  · refine f_iinc F (k + 1) [(4, .int (Int32.ofNat (k + 1))), (0, .ref (ad 0)), (1, .int (Int32.ofNat f)), (2, .int (Int32.ofNat g)), (3, .int (Int32.ofNat fr))] dX7_accepted_144 0 rfl (ofN_inc _) (by decide) rfl ?_
                    refine g_goto F dX7_accepted_147 (tgt := 111) rfl ?_
                    exact ih (k + 1) x (by omega) (fun q h1 h2 => hx q (by omega) h2) (g_eq rfl rfl rfl (congrArg (fun t => rwld cI cZ t ad) (by simp only [lpw_X7_accepted_111, if_neg h124, if_pos h134])) K)
                  · refine g_aload_n F dX7_accepted_137 1 rfl ?_
                    refine g_iload F dX7_accepted_138 0 rfl ?_
                    refine g_iload_n F dX7_accepted_140 3 rfl ?_
                    refine f_callV F (As := [.int (Int32.ofNat k), .int (Int32.ofNat g)]) (rest := []) (st' := []) (k_X7_newLeader l D cI cS cZ ad x k g (by first | assumption | omega) (by first | assumption | omega) (hx k (Nat.le_refl _) (by omega))) ql_RM rfl tb_471 tb_469 tb_470 tb_613 tb_8 ⟨rfl, hdX7_newLeader⟩ ⟨rfl, rfl⟩ ⟨Nat.le_of_ble_eq_true rfl, Nat.le_of_ble_eq_true rfl⟩ rw_adr rfl rfl (Nat.le_of_ble_eq_true rfl) ⟨Nat.le_refl _, Nat.le_refl _⟩ dX7_accepted_141 rfl ?_
                    refine f_iinc F (k + 1) [(4, .int (Int32.ofNat (k + 1))), (0, .ref (ad 0)), (1, .int (Int32.ofNat f)), (2, .int (Int32.ofNat g)), (3, .int (Int32.ofNat fr))] dX7_accepted_144 0 rfl (ofN_inc _) (by decide) rfl ?_
                    refine g_goto F dX7_accepted_147 (tgt := 111) rfl ?_
                    exact ih (k + 1) (w_X7_newLeader x k g) (by omega) (fun q h1 h2 => by rw [nl24 (by omega)]; exact hx q (by omega) h2) (g_eq rfl rfl rfl (congrArg (fun t => rwld cI cZ t ad) (by simp only [lpw_X7_accepted_111, if_neg h124, if_neg h134])) K)
            refine loop111 _ 3 0 (w_X7_newLeader (su2 (su2 a 2 g (a 10 g)) 11 g 1) f g) (Nat.zero_add _) (fun q _ h2 => Nat.le_trans nl24_le (Nat.succ_le_succ (by first | exact (by have := hq q (by omega); omega : a 24 q ≤ 62) | exact (by rw [fr_copy (by decide)]; have := hq q (by omega); omega : w_X7_copy a f g (a 4 f) 24 q ≤ 62)))) ?_
            exact g_vret F hr hlk dX7_accepted_150 ⟨rfl, congrArg (fun t => rwld cI cZ t ad) (Eq.symm (by unfold w_X7_accepted; first | simp only [if_pos h6, if_neg h17, if_neg h40, if_pos h55, if_pos h68] | rfl))⟩
          · refine g_aload_n F dX7_accepted_71 0 rfl ?_
            refine g_iload_n F dX7_accepted_72 1 rfl ?_
            refine g_iload_n F dX7_accepted_73 2 rfl ?_
            refine g_aload_n F dX7_accepted_74 0 rfl ?_
            refine f_get F inX7 ql_RM rfl 4 (by decide) tb_361 rfl (v := .ref (ad 5)) rfl dX7_accepted_75 ?_
            refine g_iload_n F dX7_accepted_78 1 rfl ?_
            refine f_ald F 0 ql_4 rfl (j := f) (by omega) (by decide) dX7_accepted_79 ?_
            refine f_callV F (As := [.int (Int32.ofNat f), .int (Int32.ofNat g), .int (Int32.ofNat (a 4 f))]) (rest := []) (st' := []) (k_X7_copy l D cI cS cZ ad a f g (a 4 f) (by first | assumption | omega) (by first | assumption | omega) (hq f hf).1) ql_RM rfl tb_477 tb_475 tb_476 tb_615 tb_8 ⟨rfl, hdX7_copy⟩ ⟨rfl, rfl⟩ ⟨Nat.le_of_ble_eq_true rfl, Nat.le_of_ble_eq_true rfl⟩ rw_adr rfl rfl (Nat.le_of_ble_eq_true rfl) ⟨Nat.le_refl _, Nat.le_refl _⟩ dX7_accepted_80 rfl ?_
            refine g_aload_n F dX7_accepted_83 0 rfl ?_
            refine f_get F inX7 ql_RM rfl 2 (by decide) tb_359 rfl (v := .ref (ad 3)) rfl dX7_accepted_84 ?_
            refine g_iload_n F dX7_accepted_87 2 rfl ?_
            refine g_aload_n F dX7_accepted_88 0 rfl ?_
            refine f_get F inX7 ql_RM rfl 10 (by decide) tb_367 rfl (v := .ref (ad 11)) rfl dX7_accepted_89 ?_
            refine g_iload_n F dX7_accepted_92 2 rfl ?_
            refine f_ald F 0 ql_10 rfl (j := g) (by omega) (by decide) dX7_accepted_93 ?_
            refine f_ast F 0 ql_2 rfl (j := g) (v := (w_X7_copy a f g (a 4 f)) 10 g) (by omega) (by decide) dX7_accepted_94 qs_2 ?_
            refine g_aload_n F dX7_accepted_95 0 rfl ?_
            refine f_get F inX7 ql_RM rfl 11 (by decide) tb_368 rfl (v := .ref (ad 12)) rfl dX7_accepted_96 ?_
            refine g_iload_n F dX7_accepted_99 2 rfl ?_
            refine f_iconst F 1 dX7_accepted_100 rfl ?_
            refine f_zast F 2 ql_11 rfl (j := g) (v := 1) (by omega) (by decide) rfl dX7_accepted_101 qs_11 ?_
            refine g_aload_n F dX7_accepted_102 0 rfl ?_
            refine g_iload_n F dX7_accepted_103 1 rfl ?_
            refine g_iload_n F dX7_accepted_104 2 rfl ?_
            refine f_callV F (As := [.int (Int32.ofNat f), .int (Int32.ofNat g)]) (rest := []) (st' := []) (k_X7_newLeader l D cI cS cZ ad (su2 (su2 (w_X7_copy a f g (a 4 f)) 2 g ((w_X7_copy a f g (a 4 f)) 10 g)) 11 g 1) f g (by first | assumption | omega) (by first | assumption | omega) (Nat.le_trans (by first | exact (by have := hq f (by omega); omega : a 24 f ≤ 62) | exact (by rw [fr_copy (by decide)]; have := hq f (by omega); omega : w_X7_copy a f g (a 4 f) 24 f ≤ 62)) (by decide))) ql_RM rfl tb_471 tb_469 tb_470 tb_613 tb_8 ⟨rfl, hdX7_newLeader⟩ ⟨rfl, rfl⟩ ⟨Nat.le_of_ble_eq_true rfl, Nat.le_of_ble_eq_true rfl⟩ rw_adr rfl rfl (Nat.le_of_ble_eq_true rfl) ⟨Nat.le_refl _, Nat.le_refl _⟩ dX7_accepted_105 rfl ?_
            refine f_iconst F 0 dX7_accepted_108 rfl ?_
            refine g_istore F [(4, .int (Int32.ofNat 0)), (0, .ref (ad 0)), (1, .int (Int32.ofNat f)), (2, .int (Int32.ofNat g)), (3, .int (Int32.ofNat fr))] dX7_accepted_109 (by decide) rfl ?_
            have loop111 : ∀ (Q : State → Prop) (d k : Nat) (x : RS), (k + d = 3) → (∀ q, k ≤ q → q < 3 → x 24 q ≤ 63) → gw p l e (headSpec (Cond.code yX7_accepted cX7_accepted 5 none :: tb) rm_X7_accepted).room s m args below meth cd 5 D cls8 A Q 0 0 150 [(0, .ref (ad 0)), (1, .int (Int32.ofNat f)), (2, .int (Int32.ofNat g)), (3, .int (Int32.ofNat fr))] [] (rwld cI cZ (lpw_X7_accepted_111 a f g fr d k x) ad) → gw p l e (headSpec (Cond.code yX7_accepted cX7_accepted 5 none :: tb) rm_X7_accepted).room s m args below meth cd 5 D cls8 A Q 0 0 111 [(4, .int (Int32.ofNat k)), (0, .ref (ad 0)), (1, .int (Int32.ofNat f)), (2, .int (Int32.ofNat g)), (3, .int (Int32.ofNat fr))] [] (rwld cI cZ x ad) := by
              intro Q d
              induction d with
              | zero =>
                intro k x hk hx K
                refine g_iload F dX7_accepted_111 0 rfl ?_
                refine f_iconst F 3 dX7_accepted_113 rfl ?_
                refine g_icmp_ge F dX7_accepted_114 (tgt := 150) rfl (fun h114 => ?_) (fun h114 => ?_)
                rotate_left
                · exact absurd h114 (by rw [ofN_le (by omega) (by omega)]; omega)
                refine g_locals [(0, .ref (ad 0)), (1, .int (Int32.ofNat f)), (2, .int (Int32.ofNat g)), (3, .int (Int32.ofNat fr))] [1, 2, 3, 4] rfl ?_
                exact K
              | succ d ih =>
                intro k x hk hx K
                refine g_iload F dX7_accepted_111 0 rfl ?_
                refine f_iconst F 3 dX7_accepted_113 rfl ?_
                refine g_icmp_ge F dX7_accepted_114 (tgt := 150) rfl (fun h114 => ?_) (fun h114 => ?_)
                · exact absurd h114 (by rw [ofN_le (by omega) (by omega)]; omega)
                refine g_aload_n F dX7_accepted_117 1 rfl ?_
                refine g_iload F dX7_accepted_118 0 rfl ?_
                refine g_iload_n F dX7_accepted_120 3 rfl ?_
                refine f_callV F (As := [.int (Int32.ofNat k), .int (Int32.ofNat g)]) (rest := []) (st' := [.int (Int32.ofNat (r_X7_follows x k g))]) (k_X7_follows l D cI cS cZ ad x k g (by first | assumption | omega)) ql_RM rfl tb_450 tb_448 tb_449 tb_610 tb_8 ⟨rfl, hdX7_follows⟩ ⟨rfl, rfl⟩ ⟨Nat.le_of_ble_eq_true rfl, Nat.le_of_ble_eq_true rfl⟩ rw_adr rfl rfl (Nat.le_of_ble_eq_true rfl) ⟨Nat.le_refl _, Nat.le_refl _⟩ dX7_accepted_121 rfl ?_
                refine g_if_eq F dX7_accepted_124 (tgt := 144) rfl (fun h124 => ?_) (fun h124 => ?_)
                · refine f_iinc F (k + 1) [(4, .int (Int32.ofNat (k + 1))), (0, .ref (ad 0)), (1, .int (Int32.ofNat f)), (2, .int (Int32.ofNat g)), (3, .int (Int32.ofNat fr))] dX7_accepted_144 0 rfl (ofN_inc _) (by decide) rfl ?_
                  refine g_goto F dX7_accepted_147 (tgt := 111) rfl ?_
                  exact ih (k + 1) x (by omega) (fun q h1 h2 => hx q (by omega) h2) (g_eq rfl rfl rfl (congrArg (fun t => rwld cI cZ t ad) (by simp only [lpw_X7_accepted_111, if_pos h124])) K)
                · refine g_aload_n F dX7_accepted_127 1 rfl ?_
                  refine f_get F inX7 ql_RM rfl 15 (by decide) tb_372 rfl (v := .ref (ad 16)) rfl dX7_accepted_128 ?_
                  refine g_iload F dX7_accepted_131 0 rfl ?_
                  refine f_zald F 2 ql_15 rfl (j := k) (by omega) (by decide) dX7_accepted_133 ?_
                  refine g_if_eq F dX7_accepted_134 (tgt := 144) rfl (fun h134 => ?_) (fun h134 => ?_)
                  · refine f_iinc F (k + 1) [(4, .int (Int32.ofNat (k + 1))), (0, .ref (ad 0)), (1, .int (Int32.ofNat f)), (2, .int (Int32.ofNat g)), (3, .int (Int32.ofNat fr))] dX7_accepted_144 0 rfl (ofN_inc _) (by decide) rfl ?_
                    refine g_goto F dX7_accepted_147 (tgt := 111) rfl ?_
                    exact ih (k + 1) x (by omega) (fun q h1 h2 => hx q (by omega) h2) (g_eq rfl rfl rfl (congrArg (fun t => rwld cI cZ t ad) (by simp only [lpw_X7_accepted_111, if_neg h124, if_pos h134])) K)
                  · refine g_aload_n F dX7_accepted_137 1 rfl ?_
                    refine g_iload F dX7_accepted_138 0 rfl ?_
                    refine g_iload_n F dX7_accepted_140 3 rfl ?_
                    refine f_callV F (As := [.int (Int32.ofNat k), .int (Int32.ofNat g)]) (rest := []) (st' := []) (k_X7_newLeader l D cI cS cZ ad x k g (by first | assumption | omega) (by first | assumption | omega) (hx k (Nat.le_refl _) (by omega))) ql_RM rfl tb_471 tb_469 tb_470 tb_613 tb_8 ⟨rfl, hdX7_newLeader⟩ ⟨rfl, rfl⟩ ⟨Nat.le_of_ble_eq_true rfl, Nat.le_of_ble_eq_true rfl⟩ rw_adr rfl rfl (Nat.le_of_ble_eq_true rfl) ⟨Nat.le_refl _, Nat.le_refl _⟩ dX7_accepted_141 rfl ?_
                    refine f_iinc F (k + 1) [(4, .int (Int32.ofNat (k + 1))), (0, .ref (ad 0)), (1, .int (Int32.ofNat f)), (2, .int (Int32.ofNat g)), (3, .int (Int32.ofNat fr))] dX7_accepted_144 0 rfl (ofN_inc _) (by decide) rfl ?_
                    refine g_goto F dX7_accepted_147 (tgt := 111) rfl ?_
                    exact ih (k + 1) (w_X7_newLeader x k g) (by omega) (fun q h1 h2 => by rw [nl24 (by omega)]; exact hx q (by omega) h2) (g_eq rfl rfl rfl (congrArg (fun t => rwld cI cZ t ad) (by simp only [lpw_X7_accepted_111, if_neg h124, if_neg h134])) K)
            refine loop111 _ 3 0 (w_X7_newLeader (su2 (su2 (w_X7_copy a f g (a 4 f)) 2 g ((w_X7_copy a f g (a 4 f)) 10 g)) 11 g 1) f g) (Nat.zero_add _) (fun q _ h2 => Nat.le_trans nl24_le (Nat.succ_le_succ (by first | exact (by have := hq q (by omega); omega : a 24 q ≤ 62) | exact (by rw [fr_copy (by decide)]; have := hq q (by omega); omega : w_X7_copy a f g (a 4 f) 24 q ≤ 62)))) ?_
            exact g_vret F hr hlk dX7_accepted_150 ⟨rfl, congrArg (fun t => rwld cI cZ t ad) (Eq.symm (by unfold w_X7_accepted; first | simp only [if_pos h6, if_neg h17, if_neg h40, if_pos h55, if_neg h68] | rfl))⟩
    · refine g_aload_n F dX7_accepted_20 0 rfl ?_
      refine f_get F inX7 ql_RM rfl 15 (by decide) tb_372 rfl (v := .ref (ad 16)) rfl dX7_accepted_21 ?_
      refine g_iload_n F dX7_accepted_24 1 rfl ?_
      refine f_iconst F 1 dX7_accepted_25 rfl ?_
      refine f_zast F 2 ql_15 rfl (j := f) (v := 1) (by omega) (by decide) rfl dX7_accepted_26 qs_15 ?_
      exact g_vret F hr hlk dX7_accepted_27 ⟨rfl, congrArg (fun t => rwld cI cZ t ad) (Eq.symm (by unfold w_X7_accepted; first | simp only [if_pos h6, if_pos h17] | rfl))⟩
  · refine g_aload_n F dX7_accepted_9 0 rfl ?_
    refine g_iload_n F dX7_accepted_10 1 rfl ?_
    refine g_iload_n F dX7_accepted_11 2 rfl ?_
    refine f_callV F (As := [.int (Int32.ofNat f), .int (Int32.ofNat g)]) (rest := []) (st' := []) (k_X7_newLeader l D cI cS cZ ad a f g (by first | assumption | omega) (by first | assumption | omega) (by have := hq f hf; omega)) ql_RM rfl tb_471 tb_469 tb_470 tb_613 tb_8 ⟨rfl, hdX7_newLeader⟩ ⟨rfl, rfl⟩ ⟨Nat.le_of_ble_eq_true rfl, Nat.le_of_ble_eq_true rfl⟩ rw_adr rfl rfl (Nat.le_of_ble_eq_true rfl) ⟨Nat.le_refl _, Nat.le_refl _⟩ dX7_accepted_12 rfl ?_
    exact g_vret F hr hlk dX7_accepted_15 ⟨rfl, congrArg (fun t => rwld cI cZ t ad) (Eq.symm (by unfold w_X7_accepted; first | simp only [if_neg h6] | rfl))⟩
def lpw_X7_acknowledged_79 (a : RS) (f g k : Nat) : Nat → Nat → RS → RS
  | 0, t, x => x
  | d + 1, t, x => if Int32.ofNat (r_X7_follows x t g) = 0 then (lpw_X7_acknowledged_79 a f g k d (t + 1) x) else (if Int32.ofNat (x 16 t) = 0 then (lpw_X7_acknowledged_79 a f g k d (t + 1) x) else (lpw_X7_acknowledged_79 a f g k d (t + 1) (w_X7_sendDown x t 7 k)))
def lpw_X7_acknowledged_35 (a : RS) (f g k : Nat) : Nat → Nat → RS → RS
  | 0, b, x => x
  | d + 1, b, x => lpw_X7_acknowledged_35 a f g k d (b + 1) (su2 x 13 ((5 * g) + b) 0)
def w_X7_acknowledged (a : RS) (f g k : Nat) : RS := if Int32.ofNat (a 0 g) = Int32.ofNat 3 then (if Int32.ofNat k ≤ Int32.ofNat ((lpw_X7_acknowledged_35 a f g k 5 0 (su2 (su2 a 17 f 1) 0 g 4)) 3 g) then (if Int32.ofNat (a 17 f) = 0 then (w_X7_sendDown (lpw_X7_acknowledged_35 a f g k 5 0 (su2 (su2 a 17 f 1) 0 g 4)) f 7 ((lpw_X7_acknowledged_35 a f g k 5 0 (su2 (su2 a 17 f 1) 0 g 4)) 3 g)) else (lpw_X7_acknowledged_35 a f g k 5 0 (su2 (su2 a 17 f 1) 0 g 4))) else (lpw_X7_acknowledged_79 a f g k 3 0 (su2 (lpw_X7_acknowledged_35 a f g k 5 0 (su2 (su2 a 17 f 1) 0 g 4)) 3 g k))) else (if Int32.ofNat k ≤ Int32.ofNat (a 3 g) then (if Int32.ofNat (a 17 f) = 0 then (w_X7_sendDown (su2 a 17 f 1) f 7 (a 3 g)) else (su2 a 17 f 1)) else (lpw_X7_acknowledged_79 a f g k 3 0 (su2 (su2 a 17 f 1) 3 g k)))
theorem fr_ack35 {a : RS} {f g k q : Nat} (h : q ≠ 13) : ∀ {d b : Nat} {x : RS}, lpw_X7_acknowledged_35 a f g k d b x q = x q := by
  intro d
  induction d with
  | zero => intro b x; rfl
  | succ d ih => intro b x; simp only [lpw_X7_acknowledged_35]; rw [ih, su2_ne h]
abbrev rm_X7_acknowledged : Room := { frames := 1, cells := 0, slots := 0, locals := 24 }
set_option maxHeartbeats 4000000 in
set_option maxRecDepth 100000 in
theorem k_X7_acknowledged (l : Launch) (D : va_G) (cI cS cZ : ClassId) (ad : Nat → Nat) (a : RS) (f g k : Nat) (hf : f < 3) (hg : g < 3) (hq : ∀ s, s < 3 → a 24 s ≤ 62) : gN l yX7_acknowledged (Cond.code yX7_acknowledged cX7_acknowledged 6 none :: tb) rm_X7_acknowledged D cls8 (tys3 cI cS cZ) [.ref (ad 0), .int (Int32.ofNat f), .int (Int32.ofNat g), .int (Int32.ofNat k)] (rwld cI cZ a ad) none (rwld cI cZ (w_X7_acknowledged a f g k) ad) := by
  unfold gN
  refine g_head (by decide) rfl (Nat.le_of_ble_eq_true rfl) ?_
  intro p e s m args below meth cd A F hr hlk hnm
  refine g_eq rfl (L' := [(0, .ref (ad 0)), (1, .int (Int32.ofNat f)), (2, .int (Int32.ofNat g)), (3, .int (Int32.ofNat k))]) rfl rfl rfl ?_
  refine g_aload_n F dX7_acknowledged_0 0 rfl ?_
  refine f_get F inX7 ql_RM rfl 17 (by decide) tb_374 rfl (v := .ref (ad 18)) rfl dX7_acknowledged_1 ?_
  refine g_iload_n F dX7_acknowledged_4 1 rfl ?_
  refine f_zald F 2 ql_17 rfl (j := f) (by omega) (by decide) dX7_acknowledged_5 ?_
  refine g_istore F [(4, .int (Int32.ofNat (a 17 f))), (0, .ref (ad 0)), (1, .int (Int32.ofNat f)), (2, .int (Int32.ofNat g)), (3, .int (Int32.ofNat k))] dX7_acknowledged_6 (by decide) rfl ?_
  refine g_aload_n F dX7_acknowledged_8 1 rfl ?_
  refine f_get F inX7 ql_RM rfl 17 (by decide) tb_374 rfl (v := .ref (ad 18)) rfl dX7_acknowledged_9 ?_
  refine g_iload_n F dX7_acknowledged_12 2 rfl ?_
  refine f_iconst F 1 dX7_acknowledged_13 rfl ?_
  refine f_zast F 2 ql_17 rfl (j := f) (v := 1) (by omega) (by decide) rfl dX7_acknowledged_14 qs_17 ?_
  refine g_aload_n F dX7_acknowledged_15 1 rfl ?_
  refine f_get F inX7 ql_RM rfl 0 (by decide) tb_357 rfl (v := .ref (ad 1)) rfl dX7_acknowledged_16 ?_
  refine g_iload_n F dX7_acknowledged_19 3 rfl ?_
  refine f_ald F 0 ql_0 rfl (j := g) (by omega) (by decide) dX7_acknowledged_20 ?_
  refine g_eq rfl rfl (st' := [.int (Int32.ofNat (a 0 g))]) rfl rfl ?_
  refine f_iconst F 3 dX7_acknowledged_21 rfl ?_
  refine g_icmp_ne F dX7_acknowledged_22 (tgt := 59) rfl (fun h22 => ?_) (fun h22 => ?_)
  · refine g_iload_n F dX7_acknowledged_59 4 rfl ?_
    refine g_aload_n F dX7_acknowledged_60 1 rfl ?_
    refine f_get F inX7 ql_RM rfl 3 (by decide) tb_360 rfl (v := .ref (ad 4)) rfl dX7_acknowledged_61 ?_
    refine g_iload_n F dX7_acknowledged_64 3 rfl ?_
    refine f_ald F 0 ql_3 rfl (j := g) (by omega) (by decide) dX7_acknowledged_65 ?_
    refine g_eq rfl rfl (st' := [.int (Int32.ofNat (a 3 g)), .int (Int32.ofNat k)]) rfl rfl ?_
    refine g_icmp_le F dX7_acknowledged_66 (tgt := 123) rfl (fun h66 => ?_) (fun h66 => ?_)
    · refine g_iload F dX7_acknowledged_123 0 rfl ?_
      refine g_if_ne F dX7_acknowledged_125 (tgt := 141) rfl (fun h125 => ?_) (fun h125 => ?_)
      · exact g_vret F hr hlk dX7_acknowledged_141 ⟨rfl, congrArg (fun t => rwld cI cZ t ad) (Eq.symm (by unfold w_X7_acknowledged; first | simp only [if_neg h22, if_pos h66, if_neg h125] | rfl))⟩
      · refine g_aload_n F dX7_acknowledged_128 1 rfl ?_
        refine g_iload_n F dX7_acknowledged_129 2 rfl ?_
        refine f_bipush F 7 dX7_acknowledged_130 rfl ?_
        refine g_aload_n F dX7_acknowledged_132 1 rfl ?_
        refine f_get F inX7 ql_RM rfl 3 (by decide) tb_360 rfl (v := .ref (ad 4)) rfl dX7_acknowledged_133 ?_
        refine g_iload_n F dX7_acknowledged_136 3 rfl ?_
        refine f_ald F 0 ql_3 rfl (j := g) (by omega) (by decide) dX7_acknowledged_137 ?_
        refine g_eq rfl rfl (st' := [.int (Int32.ofNat (a 3 g)), .int (Int32.ofNat 7), .int (Int32.ofNat f), .ref (ad 0)]) rfl rfl ?_
        refine f_callV F (As := [.int (Int32.ofNat f), .int (Int32.ofNat 7), .int (Int32.ofNat (a 3 g))]) (rest := []) (st' := []) (k_X7_sendDown l D cI cS cZ ad (su2 a 17 f 1) f 7 (a 3 g) (by first | assumption | omega) (by first | exact (by have := hq f (by omega); omega : a 24 f ≤ 63) | exact (by rw [fr_ack35 (by decide)]; exact (by have := hq f (by omega); omega : a 24 f ≤ 63) : lpw_X7_acknowledged_35 a f g k 5 0 (su2 (su2 a 17 f 1) 0 g 4) 24 f ≤ 63))) ql_RM rfl tb_465 tb_463 tb_464 tb_611 tb_8 ⟨rfl, hdX7_sendDown⟩ ⟨rfl, rfl⟩ ⟨Nat.le_of_ble_eq_true rfl, Nat.le_of_ble_eq_true rfl⟩ rw_adr rfl rfl (Nat.le_of_ble_eq_true rfl) ⟨Nat.le_refl _, Nat.le_refl _⟩ dX7_acknowledged_138 rfl ?_
        exact g_vret F hr hlk dX7_acknowledged_141 ⟨rfl, congrArg (fun t => rwld cI cZ t ad) (Eq.symm (by unfold w_X7_acknowledged; first | simp only [if_neg h22, if_pos h66, if_pos h125] | rfl))⟩
    · refine g_aload_n F dX7_acknowledged_69 1 rfl ?_
      refine f_get F inX7 ql_RM rfl 3 (by decide) tb_360 rfl (v := .ref (ad 4)) rfl dX7_acknowledged_70 ?_
      refine g_iload_n F dX7_acknowledged_73 3 rfl ?_
      refine g_iload_n F dX7_acknowledged_74 4 rfl ?_
      refine f_ast F 0 ql_3 rfl (j := g) (v := k) (by omega) (by decide) dX7_acknowledged_75 qs_3 ?_
      refine f_iconst F 0 dX7_acknowledged_76 rfl ?_
      refine g_istore F [(5, .int (Int32.ofNat 0)), (4, .int (Int32.ofNat (a 17 f))), (0, .ref (ad 0)), (1, .int (Int32.ofNat f)), (2, .int (Int32.ofNat g)), (3, .int (Int32.ofNat k))] dX7_acknowledged_77 (by decide) rfl ?_
      have loop79 : ∀ (Q : State → Prop) (d t : Nat) (x : RS), (t + d = 3) → (∀ q, t ≤ q → q < 3 → x 24 q ≤ 63) → gw p l e (headSpec (Cond.code yX7_acknowledged cX7_acknowledged 6 none :: tb) rm_X7_acknowledged).room s m args below meth cd 6 D cls8 A Q 0 0 120 [(4, .int (Int32.ofNat (a 17 f))), (0, .ref (ad 0)), (1, .int (Int32.ofNat f)), (2, .int (Int32.ofNat g)), (3, .int (Int32.ofNat k))] [] (rwld cI cZ (lpw_X7_acknowledged_79 a f g k d t x) ad) → gw p l e (headSpec (Cond.code yX7_acknowledged cX7_acknowledged 6 none :: tb) rm_X7_acknowledged).room s m args below meth cd 6 D cls8 A Q 0 0 79 [(5, .int (Int32.ofNat t)), (4, .int (Int32.ofNat (a 17 f))), (0, .ref (ad 0)), (1, .int (Int32.ofNat f)), (2, .int (Int32.ofNat g)), (3, .int (Int32.ofNat k))] [] (rwld cI cZ x ad) := by
        intro Q d
        induction d with
        | zero =>
          intro t x hk hx K
          refine g_iload F dX7_acknowledged_79 0 rfl ?_
          refine f_iconst F 3 dX7_acknowledged_81 rfl ?_
          refine g_icmp_ge F dX7_acknowledged_82 (tgt := 120) rfl (fun h82 => ?_) (fun h82 => ?_)
          rotate_left
          · exact absurd h82 (by rw [ofN_le (by omega) (by omega)]; omega)
          refine g_locals [(4, .int (Int32.ofNat (a 17 f))), (0, .ref (ad 0)), (1, .int (Int32.ofNat f)), (2, .int (Int32.ofNat g)), (3, .int (Int32.ofNat k))] [1, 2, 3, 4, 5] rfl ?_
          exact K
        | succ d ih =>
          intro t x hk hx K
          refine g_iload F dX7_acknowledged_79 0 rfl ?_
          refine f_iconst F 3 dX7_acknowledged_81 rfl ?_
          refine g_icmp_ge F dX7_acknowledged_82 (tgt := 120) rfl (fun h82 => ?_) (fun h82 => ?_)
          · exact absurd h82 (by rw [ofN_le (by omega) (by omega)]; omega)
          refine g_aload_n F dX7_acknowledged_85 2 rfl ?_
          refine g_iload F dX7_acknowledged_86 0 rfl ?_
          refine g_iload_n F dX7_acknowledged_88 4 rfl ?_
          refine f_callV F (As := [.int (Int32.ofNat t), .int (Int32.ofNat g)]) (rest := []) (st' := [.int (Int32.ofNat (r_X7_follows x t g))]) (k_X7_follows l D cI cS cZ ad x t g (by first | assumption | omega)) ql_RM rfl tb_450 tb_448 tb_449 tb_610 tb_8 ⟨rfl, hdX7_follows⟩ ⟨rfl, rfl⟩ ⟨Nat.le_of_ble_eq_true rfl, Nat.le_of_ble_eq_true rfl⟩ rw_adr rfl rfl (Nat.le_of_ble_eq_true rfl) ⟨Nat.le_refl _, Nat.le_refl _⟩ dX7_acknowledged_89 rfl ?_
          refine g_if_eq F dX7_acknowledged_92 (tgt := 114) rfl (fun h92 => ?_) (fun h92 => ?_)
          · refine f_iinc F (t + 1) [(5, .int (Int32.ofNat (t + 1))), (4, .int (Int32.ofNat (a 17 f))), (0, .ref (ad 0)), (1, .int (Int32.ofNat f)), (2, .int (Int32.ofNat g)), (3, .int (Int32.ofNat k))] dX7_acknowledged_114 0 rfl (ofN_inc _) (by decide) rfl ?_
            refine g_goto F dX7_acknowledged_117 (tgt := 79) rfl ?_
            exact ih (t + 1) x (by omega) (fun q h1 h2 => hx q (by omega) h2) (g_eq rfl rfl rfl (congrArg (fun t => rwld cI cZ t ad) (by simp only [lpw_X7_acknowledged_79, if_pos h92])) K)
          · refine g_aload_n F dX7_acknowledged_95 2 rfl ?_
            refine f_get F inX7 ql_RM rfl 16 (by decide) tb_373 rfl (v := .ref (ad 17)) rfl dX7_acknowledged_96 ?_
            refine g_iload F dX7_acknowledged_99 0 rfl ?_
            refine f_zald F 2 ql_16 rfl (j := t) (by omega) (by decide) dX7_acknowledged_101 ?_
            refine g_if_eq F dX7_acknowledged_102 (tgt := 114) rfl (fun h102 => ?_) (fun h102 => ?_)
            · refine f_iinc F (t + 1) [(5, .int (Int32.ofNat (t + 1))), (4, .int (Int32.ofNat (a 17 f))), (0, .ref (ad 0)), (1, .int (Int32.ofNat f)), (2, .int (Int32.ofNat g)), (3, .int (Int32.ofNat k))] dX7_acknowledged_114 0 rfl (ofN_inc _) (by decide) rfl ?_
              refine g_goto F dX7_acknowledged_117 (tgt := 79) rfl ?_
              exact ih (t + 1) x (by omega) (fun q h1 h2 => hx q (by omega) h2) (g_eq rfl rfl rfl (congrArg (fun t => rwld cI cZ t ad) (by simp only [lpw_X7_acknowledged_79, if_neg h92, if_pos h102])) K)
            · refine g_aload_n F dX7_acknowledged_105 2 rfl ?_
              refine g_iload F dX7_acknowledged_106 0 rfl ?_
              refine f_bipush F 7 dX7_acknowledged_108 rfl ?_
              refine g_iload_n F dX7_acknowledged_110 5 rfl ?_
              refine f_callV F (As := [.int (Int32.ofNat t), .int (Int32.ofNat 7), .int (Int32.ofNat k)]) (rest := []) (st' := []) (k_X7_sendDown l D cI cS cZ ad x t 7 k (by first | assumption | omega) (hx t (Nat.le_refl _) (by omega))) ql_RM rfl tb_465 tb_463 tb_464 tb_611 tb_8 ⟨rfl, hdX7_sendDown⟩ ⟨rfl, rfl⟩ ⟨Nat.le_of_ble_eq_true rfl, Nat.le_of_ble_eq_true rfl⟩ rw_adr rfl rfl (Nat.le_of_ble_eq_true rfl) ⟨Nat.le_refl _, Nat.le_refl _⟩ dX7_acknowledged_111 rfl ?_
              refine f_iinc F (t + 1) [(5, .int (Int32.ofNat (t + 1))), (4, .int (Int32.ofNat (a 17 f))), (0, .ref (ad 0)), (1, .int (Int32.ofNat f)), (2, .int (Int32.ofNat g)), (3, .int (Int32.ofNat k))] dX7_acknowledged_114 0 rfl (ofN_inc _) (by decide) rfl ?_
              refine g_goto F dX7_acknowledged_117 (tgt := 79) rfl ?_
              exact ih (t + 1) (w_X7_sendDown x t 7 k) (by omega) (fun q h1 h2 => by rw [sd24 (by omega)]; exact hx q (by omega) h2) (g_eq rfl rfl rfl (congrArg (fun t => rwld cI cZ t ad) (by simp only [lpw_X7_acknowledged_79, if_neg h92, if_neg h102])) K)
      refine loop79 _ 3 0 (su2 (su2 a 17 f 1) 3 g k) (Nat.zero_add _) (fun q _ h2 => (by first | exact (by have := hq q (by omega); omega : a 24 q ≤ 63) | exact (by rw [fr_ack35 (by decide)]; exact (by have := hq q (by omega); omega : a 24 q ≤ 63) : lpw_X7_acknowledged_35 a f g k 5 0 (su2 (su2 a 17 f 1) 0 g 4) 24 q ≤ 63))) ?_
      refine g_goto F dX7_acknowledged_120 (tgt := 141) rfl ?_
      exact g_vret F hr hlk dX7_acknowledged_141 ⟨rfl, congrArg (fun t => rwld cI cZ t ad) (Eq.symm (by unfold w_X7_acknowledged; first | simp only [if_neg h22, if_neg h66] | rfl))⟩
  · refine g_aload_n F dX7_acknowledged_25 1 rfl ?_
    refine f_get F inX7 ql_RM rfl 0 (by decide) tb_357 rfl (v := .ref (ad 1)) rfl dX7_acknowledged_26 ?_
    refine g_iload_n F dX7_acknowledged_29 3 rfl ?_
    refine f_iconst F 4 dX7_acknowledged_30 rfl ?_
    refine f_ast F 0 ql_0 rfl (j := g) (v := 4) (by omega) (by decide) dX7_acknowledged_31 qs_0 ?_
    refine f_iconst F 0 dX7_acknowledged_32 rfl ?_
    refine g_istore F [(5, .int (Int32.ofNat 0)), (4, .int (Int32.ofNat (a 17 f))), (0, .ref (ad 0)), (1, .int (Int32.ofNat f)), (2, .int (Int32.ofNat g)), (3, .int (Int32.ofNat k))] dX7_acknowledged_33 (by decide) rfl ?_
    have loop35 : ∀ (Q : State → Prop) (d b : Nat) (x : RS), (b + d = 5) → gw p l e (headSpec (Cond.code yX7_acknowledged cX7_acknowledged 6 none :: tb) rm_X7_acknowledged).room s m args below meth cd 6 D cls8 A Q 0 0 59 [(4, .int (Int32.ofNat (a 17 f))), (0, .ref (ad 0)), (1, .int (Int32.ofNat f)), (2, .int (Int32.ofNat g)), (3, .int (Int32.ofNat k))] [] (rwld cI cZ (lpw_X7_acknowledged_35 a f g k d b x) ad) → gw p l e (headSpec (Cond.code yX7_acknowledged cX7_acknowledged 6 none :: tb) rm_X7_acknowledged).room s m args below meth cd 6 D cls8 A Q 0 0 35 [(5, .int (Int32.ofNat b)), (4, .int (Int32.ofNat (a 17 f))), (0, .ref (ad 0)), (1, .int (Int32.ofNat f)), (2, .int (Int32.ofNat g)), (3, .int (Int32.ofNat k))] [] (rwld cI cZ x ad) := by
      intro Q d
      induction d with
      | zero =>
        intro b x hk K
        refine g_iload F dX7_acknowledged_35 0 rfl ?_
        refine f_iconst F 5 dX7_acknowledged_37 rfl ?_
        refine g_icmp_ge F dX7_acknowledged_38 (tgt := 59) rfl (fun h38 => ?_) (fun h38 => ?_)
        rotate_left
        · exact absurd h38 (by rw [ofN_le (by omega) (by omega)]; omega)
        refine g_locals [(4, .int (Int32.ofNat (a 17 f))), (0, .ref (ad 0)), (1, .int (Int32.ofNat f)), (2, .int (Int32.ofNat g)), (3, .int (Int32.ofNat k))] [1, 2, 3, 4, 5] rfl ?_
        exact K
      | succ d ih =>
        intro b x hk K
        refine g_iload F dX7_acknowledged_35 0 rfl ?_
        refine f_iconst F 5 dX7_acknowledged_37 rfl ?_
        refine g_icmp_ge F dX7_acknowledged_38 (tgt := 59) rfl (fun h38 => ?_) (fun h38 => ?_)
        · exact absurd h38 (by rw [ofN_le (by omega) (by omega)]; omega)
        refine g_aload_n F dX7_acknowledged_41 2 rfl ?_
        refine f_get F inX7 ql_RM rfl 13 (by decide) tb_370 rfl (v := .ref (ad 14)) rfl dX7_acknowledged_42 ?_
        refine f_iconst F 5 dX7_acknowledged_45 rfl ?_
        refine g_iload_n F dX7_acknowledged_46 4 rfl ?_
        refine f_mul F dX7_acknowledged_47 ?_
        refine g_iload F dX7_acknowledged_48 0 rfl ?_
        refine f_add F dX7_acknowledged_50 ?_
        refine f_iconst F 0 dX7_acknowledged_51 rfl ?_
        refine f_ast F 0 ql_13 rfl (j := (5 * g) + b) (v := 0) (by omega) (by decide) dX7_acknowledged_52 qs_13 ?_
        refine f_iinc F (b + 1) [(5, .int (Int32.ofNat (b + 1))), (4, .int (Int32.ofNat (a 17 f))), (0, .ref (ad 0)), (1, .int (Int32.ofNat f)), (2, .int (Int32.ofNat g)), (3, .int (Int32.ofNat k))] dX7_acknowledged_53 0 rfl (ofN_inc _) (by decide) rfl ?_
        refine g_goto F dX7_acknowledged_56 (tgt := 35) rfl ?_
        exact ih (b + 1) (su2 x 13 ((5 * g) + b) 0) (by omega) (g_eq rfl rfl rfl (congrArg (fun t => rwld cI cZ t ad) (by simp only [lpw_X7_acknowledged_35])) K)
    refine loop35 _ 5 0 (su2 (su2 a 17 f 1) 0 g 4) (Nat.zero_add _) ?_
    refine g_iload_n F dX7_acknowledged_59 4 rfl ?_
    refine g_aload_n F dX7_acknowledged_60 1 rfl ?_
    refine f_get F inX7 ql_RM rfl 3 (by decide) tb_360 rfl (v := .ref (ad 4)) rfl dX7_acknowledged_61 ?_
    refine g_iload_n F dX7_acknowledged_64 3 rfl ?_
    refine f_ald F 0 ql_3 rfl (j := g) (by omega) (by decide) dX7_acknowledged_65 ?_
    refine g_icmp_le F dX7_acknowledged_66 (tgt := 123) rfl (fun h66 => ?_) (fun h66 => ?_)
    · refine g_iload F dX7_acknowledged_123 0 rfl ?_
      refine g_if_ne F dX7_acknowledged_125 (tgt := 141) rfl (fun h125 => ?_) (fun h125 => ?_)
      · exact g_vret F hr hlk dX7_acknowledged_141 ⟨rfl, congrArg (fun t => rwld cI cZ t ad) (Eq.symm (by unfold w_X7_acknowledged; first | simp only [if_pos h22, if_pos h66, if_neg h125] | rfl))⟩
      · refine g_aload_n F dX7_acknowledged_128 1 rfl ?_
        refine g_iload_n F dX7_acknowledged_129 2 rfl ?_
        refine f_bipush F 7 dX7_acknowledged_130 rfl ?_
        refine g_aload_n F dX7_acknowledged_132 1 rfl ?_
        refine f_get F inX7 ql_RM rfl 3 (by decide) tb_360 rfl (v := .ref (ad 4)) rfl dX7_acknowledged_133 ?_
        refine g_iload_n F dX7_acknowledged_136 3 rfl ?_
        refine f_ald F 0 ql_3 rfl (j := g) (by omega) (by decide) dX7_acknowledged_137 ?_
        refine f_callV F (As := [.int (Int32.ofNat f), .int (Int32.ofNat 7), .int (Int32.ofNat ((lpw_X7_acknowledged_35 a f g k 5 0 (su2 (su2 a 17 f 1) 0 g 4)) 3 g))]) (rest := []) (st' := []) (k_X7_sendDown l D cI cS cZ ad (lpw_X7_acknowledged_35 a f g k 5 0 (su2 (su2 a 17 f 1) 0 g 4)) f 7 ((lpw_X7_acknowledged_35 a f g k 5 0 (su2 (su2 a 17 f 1) 0 g 4)) 3 g) (by first | assumption | omega) (by first | exact (by have := hq f (by omega); omega : a 24 f ≤ 63) | exact (by rw [fr_ack35 (by decide)]; exact (by have := hq f (by omega); omega : a 24 f ≤ 63) : lpw_X7_acknowledged_35 a f g k 5 0 (su2 (su2 a 17 f 1) 0 g 4) 24 f ≤ 63))) ql_RM rfl tb_465 tb_463 tb_464 tb_611 tb_8 ⟨rfl, hdX7_sendDown⟩ ⟨rfl, rfl⟩ ⟨Nat.le_of_ble_eq_true rfl, Nat.le_of_ble_eq_true rfl⟩ rw_adr rfl rfl (Nat.le_of_ble_eq_true rfl) ⟨Nat.le_refl _, Nat.le_refl _⟩ dX7_acknowledged_138 rfl ?_
        exact g_vret F hr hlk dX7_acknowledged_141 ⟨rfl, congrArg (fun t => rwld cI cZ t ad) (Eq.symm (by unfold w_X7_acknowledged; first | simp only [if_pos h22, if_pos h66, if_pos h125] | rfl))⟩
    · refine g_aload_n F dX7_acknowledged_69 1 rfl ?_
      refine f_get F inX7 ql_RM rfl 3 (by decide) tb_360 rfl (v := .ref (ad 4)) rfl dX7_acknowledged_70 ?_
      refine g_iload_n F dX7_acknowledged_73 3 rfl ?_
      refine g_iload_n F dX7_acknowledged_74 4 rfl ?_
      refine f_ast F 0 ql_3 rfl (j := g) (v := k) (by omega) (by decide) dX7_acknowledged_75 qs_3 ?_
      refine f_iconst F 0 dX7_acknowledged_76 rfl ?_
      refine g_istore F [(5, .int (Int32.ofNat 0)), (4, .int (Int32.ofNat (a 17 f))), (0, .ref (ad 0)), (1, .int (Int32.ofNat f)), (2, .int (Int32.ofNat g)), (3, .int (Int32.ofNat k))] dX7_acknowledged_77 (by decide) rfl ?_
      have loop79 : ∀ (Q : State → Prop) (d t : Nat) (x : RS), (t + d = 3) → (∀ q, t ≤ q → q < 3 → x 24 q ≤ 63) → gw p l e (headSpec (Cond.code yX7_acknowledged cX7_acknowledged 6 none :: tb) rm_X7_acknowledged).room s m args below meth cd 6 D cls8 A Q 0 0 120 [(4, .int (Int32.ofNat (a 17 f))), (0, .ref (ad 0)), (1, .int (Int32.ofNat f)), (2, .int (Int32.ofNat g)), (3, .int (Int32.ofNat k))] [] (rwld cI cZ (lpw_X7_acknowledged_79 a f g k d t x) ad) → gw p l e (headSpec (Cond.code yX7_acknowledged cX7_acknowledged 6 none :: tb) rm_X7_acknowledged).room s m args below meth cd 6 D cls8 A Q 0 0 79 [(5, .int (Int32.ofNat t)), (4, .int (Int32.ofNat (a 17 f))), (0, .ref (ad 0)), (1, .int (Int32.ofNat f)), (2, .int (Int32.ofNat g)), (3, .int (Int32.ofNat k))] [] (rwld cI cZ x ad) := by
        intro Q d
        induction d with
        | zero =>
          intro t x hk hx K
          refine g_iload F dX7_acknowledged_79 0 rfl ?_
          refine f_iconst F 3 dX7_acknowledged_81 rfl ?_
          refine g_icmp_ge F dX7_acknowledged_82 (tgt := 120) rfl (fun h82 => ?_) (fun h82 => ?_)
          rotate_left
          · exact absurd h82 (by rw [ofN_le (by omega) (by omega)]; omega)
          refine g_locals [(4, .int (Int32.ofNat (a 17 f))), (0, .ref (ad 0)), (1, .int (Int32.ofNat f)), (2, .int (Int32.ofNat g)), (3, .int (Int32.ofNat k))] [1, 2, 3, 4, 5] rfl ?_
          exact K
        | succ d ih =>
          intro t x hk hx K
          refine g_iload F dX7_acknowledged_79 0 rfl ?_
          refine f_iconst F 3 dX7_acknowledged_81 rfl ?_
          refine g_icmp_ge F dX7_acknowledged_82 (tgt := 120) rfl (fun h82 => ?_) (fun h82 => ?_)
          · exact absurd h82 (by rw [ofN_le (by omega) (by omega)]; omega)
          refine g_aload_n F dX7_acknowledged_85 2 rfl ?_
          refine g_iload F dX7_acknowledged_86 0 rfl ?_
          refine g_iload_n F dX7_acknowledged_88 4 rfl ?_
          refine f_callV F (As := [.int (Int32.ofNat t), .int (Int32.ofNat g)]) (rest := []) (st' := [.int (Int32.ofNat (r_X7_follows x t g))]) (k_X7_follows l D cI cS cZ ad x t g (by first | assumption | omega)) ql_RM rfl tb_450 tb_448 tb_449 tb_610 tb_8 ⟨rfl, hdX7_follows⟩ ⟨rfl, rfl⟩ ⟨Nat.le_of_ble_eq_true rfl, Nat.le_of_ble_eq_true rfl⟩ rw_adr rfl rfl (Nat.le_of_ble_eq_true rfl) ⟨Nat.le_refl _, Nat.le_refl _⟩ dX7_acknowledged_89 rfl ?_
          refine g_if_eq F dX7_acknowledged_92 (tgt := 114) rfl (fun h92 => ?_) (fun h92 => ?_)
          · refine f_iinc F (t + 1) [(5, .int (Int32.ofNat (t + 1))), (4, .int (Int32.ofNat (a 17 f))), (0, .ref (ad 0)), (1, .int (Int32.ofNat f)), (2, .int (Int32.ofNat g)), (3, .int (Int32.ofNat k))] dX7_acknowledged_114 0 rfl (ofN_inc _) (by decide) rfl ?_
            refine g_goto F dX7_acknowledged_117 (tgt := 79) rfl ?_
            exact ih (t + 1) x (by omega) (fun q h1 h2 => hx q (by omega) h2) (g_eq rfl rfl rfl (congrArg (fun t => rwld cI cZ t ad) (by simp only [lpw_X7_acknowledged_79, if_pos h92])) K)
          · refine g_aload_n F dX7_acknowledged_95 2 rfl ?_
            refine f_get F inX7 ql_RM rfl 16 (by decide) tb_373 rfl (v := .ref (ad 17)) rfl dX7_acknowledged_96 ?_
            refine g_iload F dX7_acknowledged_99 0 rfl ?_
            refine f_zald F 2 ql_16 rfl (j := t) (by omega) (by decide) dX7_acknowledged_101 ?_
            refine g_if_eq F dX7_acknowledged_102 (tgt := 114) rfl (fun h102 => ?_) (fun h102 => ?_)
            · refine f_iinc F (t + 1) [(5, .int (Int32.ofNat (t + 1))), (4, .int (Int32.ofNat (a 17 f))), (0, .ref (ad 0)), (1, .int (Int32.ofNat f)), (2, .int (Int32.ofNat g)), (3, .int (Int32.ofNat k))] dX7_acknowledged_114 0 rfl (ofN_inc _) (by decide) rfl ?_
              refine g_goto F dX7_acknowledged_117 (tgt := 79) rfl ?_
              exact ih (t + 1) x (by omega) (fun q h1 h2 => hx q (by omega) h2) (g_eq rfl rfl rfl (congrArg (fun t => rwld cI cZ t ad) (by simp only [lpw_X7_acknowledged_79, if_neg h92, if_pos h102])) K)
            · refine g_aload_n F dX7_acknowledged_105 2 rfl ?_
              refine g_iload F dX7_acknowledged_106 0 rfl ?_
              refine f_bipush F 7 dX7_acknowledged_108 rfl ?_
              refine g_iload_n F dX7_acknowledged_110 5 rfl ?_
              refine f_callV F (As := [.int (Int32.ofNat t), .int (Int32.ofNat 7), .int (Int32.ofNat k)]) (rest := []) (st' := []) (k_X7_sendDown l D cI cS cZ ad x t 7 k (by first | assumption | omega) (hx t (Nat.le_refl _) (by omega))) ql_RM rfl tb_465 tb_463 tb_464 tb_611 tb_8 ⟨rfl, hdX7_sendDown⟩ ⟨rfl, rfl⟩ ⟨Nat.le_of_ble_eq_true rfl, Nat.le_of_ble_eq_true rfl⟩ rw_adr rfl rfl (Nat.le_of_ble_eq_true rfl) ⟨Nat.le_refl _, Nat.le_refl _⟩ dX7_acknowledged_111 rfl ?_
              refine f_iinc F (t + 1) [(5, .int (Int32.ofNat (t + 1))), (4, .int (Int32.ofNat (a 17 f))), (0, .ref (ad 0)), (1, .int (Int32.ofNat f)), (2, .int (Int32.ofNat g)), (3, .int (Int32.ofNat k))] dX7_acknowledged_114 0 rfl (ofN_inc _) (by decide) rfl ?_
              refine g_goto F dX7_acknowledged_117 (tgt := 79) rfl ?_
              exact ih (t + 1) (w_X7_sendDown x t 7 k) (by omega) (fun q h1 h2 => by rw [sd24 (by omega)]; exact hx q (by omega) h2) (g_eq rfl rfl rfl (congrArg (fun t => rwld cI cZ t ad) (by simp only [lpw_X7_acknowledged_79, if_neg h92, if_neg h102])) K)
      refine loop79 _ 3 0 (su2 (lpw_X7_acknowledged_35 a f g k 5 0 (su2 (su2 a 17 f 1) 0 g 4)) 3 g k) (Nat.zero_add _) (fun q _ h2 => (by first | exact (by have := hq q (by omega); omega : a 24 q ≤ 63) | exact (by rw [fr_ack35 (by decide)]; exact (by have := hq q (by omega); omega : a 24 q ≤ 63) : lpw_X7_acknowledged_35 a f g k 5 0 (su2 (su2 a 17 f 1) 0 g 4) 24 q ≤ 63))) ?_
      refine g_goto F dX7_acknowledged_120 (tgt := 141) rfl ?_
      exact g_vret F hr hlk dX7_acknowledged_141 ⟨rfl, congrArg (fun t => rwld cI cZ t ad) (Eq.symm (by unfold w_X7_acknowledged; first | simp only [if_pos h22, if_neg h66] | rfl))⟩
def lpw_X7_make_84 (a : RS) (g kd pa va vb : Nat) : Nat → Nat → RS → RS
  | 0, k, x => x
  | d + 1, k, x => if Int32.ofNat (r_X7_follows x k g) = 0 then (lpw_X7_make_84 a g kd pa va vb d (k + 1) x) else (if Int32.ofNat (x 16 k) = 0 then (lpw_X7_make_84 a g kd pa va vb d (k + 1) x) else (lpw_X7_make_84 a g kd pa va vb d (k + 1) (w_X7_sendDown x k 6 (x 4 g))))
def w_X7_make (a : RS) (g kd pa va vb : Nat) : RS := su2 (lpw_X7_make_84 a g kd pa va vb 3 0 (su2 (su2 (su2 (su2 (su2 (su2 a 12 g ((a 12 g) + 1)) 5 ((24 * g) + (a 4 g)) ((1000 * (a 2 g)) + ((a 12 g) + 1))) 6 ((24 * g) + (a 4 g)) kd) 7 ((24 * g) + (a 4 g)) pa) 8 ((24 * g) + (a 4 g)) va) 9 ((24 * g) + (a 4 g)) vb)) 4 g (((lpw_X7_make_84 a g kd pa va vb 3 0 (su2 (su2 (su2 (su2 (su2 (su2 a 12 g ((a 12 g) + 1)) 5 ((24 * g) + (a 4 g)) ((1000 * (a 2 g)) + ((a 12 g) + 1))) 6 ((24 * g) + (a 4 g)) kd) 7 ((24 * g) + (a 4 g)) pa) 8 ((24 * g) + (a 4 g)) va) 9 ((24 * g) + (a 4 g)) vb)) 4 g) + 1)
abbrev rm_X7_make : Room := { frames := 1, cells := 0, slots := 0, locals := 24 }
set_option maxHeartbeats 4000000 in
set_option maxRecDepth 100000 in
theorem k_X7_make (l : Launch) (D : va_G) (cI cS cZ : ClassId) (ad : Nat → Nat) (a : RS) (g kd pa va vb : Nat) (hg : g < 3) (hln : a 4 g < 24) (hq : ∀ s, s < 3 → a 24 s ≤ 63) : gN l yX7_make (Cond.code yX7_make cX7_make 8 none :: tb) rm_X7_make D cls8 (tys3 cI cS cZ) [.ref (ad 0), .int (Int32.ofNat g), .int (Int32.ofNat kd), .int (Int32.ofNat pa), .int (Int32.ofNat va), .int (Int32.ofNat vb)] (rwld cI cZ a ad) none (rwld cI cZ (w_X7_make a g kd pa va vb) ad) := by
  unfold gN
  refine g_head (by decide) rfl (Nat.le_of_ble_eq_true rfl) ?_
  intro p e s m args below meth cd A F hr hlk hnm
  refine g_eq rfl (L' := [(0, .ref (ad 0)), (1, .int (Int32.ofNat g)), (2, .int (Int32.ofNat kd)), (3, .int (Int32.ofNat pa)), (4, .int (Int32.ofNat va)), (5, .int (Int32.ofNat vb))]) rfl rfl rfl ?_
  refine f_bipush F 24 dX7_make_0 rfl ?_
  refine g_iload_n F dX7_make_2 1 rfl ?_
  refine f_mul F dX7_make_3 ?_
  refine g_aload_n F dX7_make_4 0 rfl ?_
  refine f_get F inX7 ql_RM rfl 4 (by decide) tb_361 rfl (v := .ref (ad 5)) rfl dX7_make_5 ?_
  refine g_iload_n F dX7_make_8 1 rfl ?_
  refine f_ald F 0 ql_4 rfl (j := g) (by omega) (by decide) dX7_make_9 ?_
  refine f_add F dX7_make_10 ?_
  refine g_istore F [(6, .int (Int32.ofNat ((24 * g) + (a 4 g)))), (0, .ref (ad 0)), (1, .int (Int32.ofNat g)), (2, .int (Int32.ofNat kd)), (3, .int (Int32.ofNat pa)), (4, .int (Int32.ofNat va)), (5, .int (Int32.ofNat vb))] dX7_make_11 (by decide) rfl ?_
  refine g_aload_n F dX7_make_13 1 rfl ?_
  refine f_get F inX7 ql_RM rfl 12 (by decide) tb_369 rfl (v := .ref (ad 13)) rfl dX7_make_14 ?_
  refine g_iload_n F dX7_make_17 2 rfl ?_
  refine g_dup2 F dX7_make_18 rfl rfl ?_
  refine f_ald F 0 ql_12 rfl (j := g) (by omega) (by decide) dX7_make_19 ?_
  refine f_iconst F 1 dX7_make_20 rfl ?_
  refine f_add F dX7_make_21 ?_
  refine f_ast F 0 ql_12 rfl (j := g) (v := (a 12 g) + 1) (by omega) (by decide) dX7_make_22 qs_12 ?_
  refine g_aload_n F dX7_make_23 1 rfl ?_
  refine f_get F inX7 ql_RM rfl 5 (by decide) tb_362 rfl (v := .ref (ad 6)) rfl dX7_make_24 ?_
  refine g_iload F dX7_make_27 0 rfl ?_
  refine f_sipush F 1000 dX7_make_29 rfl ?_
  refine g_aload_n F dX7_make_32 1 rfl ?_
  refine f_get F inX7 ql_RM rfl 2 (by decide) tb_359 rfl (v := .ref (ad 3)) rfl dX7_make_33 ?_
  refine g_iload_n F dX7_make_36 2 rfl ?_
  refine f_ald F 0 ql_2 rfl (j := g) (by omega) (by decide) dX7_make_37 ?_
  refine g_eq rfl rfl (st' := [.int (Int32.ofNat (a 2 g)), .int (Int32.ofNat 1000), .int (Int32.ofNat ((24 * g) + (a 4 g))), .ref (ad 6)]) rfl rfl ?_
  refine f_mul F dX7_make_38 ?_
  refine g_aload_n F dX7_make_39 1 rfl ?_
  refine f_get F inX7 ql_RM rfl 12 (by decide) tb_369 rfl (v := .ref (ad 13)) rfl dX7_make_40 ?_
  refine g_iload_n F dX7_make_43 2 rfl ?_
  refine f_ald F 0 ql_12 rfl (j := g) (by omega) (by decide) dX7_make_44 ?_
  refine g_eq rfl rfl (st' := [.int (Int32.ofNat ((su2 a 12 g ((a 12 g) + 1)) 12 g)), .int (Int32.ofNat (1000 * (a 2 g))), .int (Int32.ofNat ((24 * g) + (a 4 g))), .ref (ad 6)]) rfl rfl ?_
  refine g_eq rfl rfl (st' := [.int (Int32.ofNat ((a 12 g) + 1)), .int (Int32.ofNat (1000 * (a 2 g))), .int (Int32.ofNat ((24 * g) + (a 4 g))), .ref (ad 6)]) (by rw [su2_same]) rfl ?_
  refine f_add F dX7_make_45 ?_
  refine f_ast F 0 ql_5 rfl (j := (24 * g) + (a 4 g)) (v := (1000 * (a 2 g)) + ((a 12 g) + 1)) (by omega) (by decide) dX7_make_46 qs_5 ?_
  refine g_aload_n F dX7_make_47 1 rfl ?_
  refine f_get F inX7 ql_RM rfl 6 (by decide) tb_363 rfl (v := .ref (ad 7)) rfl dX7_make_48 ?_
  refine g_iload F dX7_make_51 0 rfl ?_
  refine g_iload_n F dX7_make_53 3 rfl ?_
  refine f_ast F 0 ql_6 rfl (j := (24 * g) + (a 4 g)) (v := kd) (by omega) (by decide) dX7_make_54 qs_6 ?_
  refine g_aload_n F dX7_make_55 1 rfl ?_
  refine f_get F inX7 ql_RM rfl 7 (by decide) tb_364 rfl (v := .ref (ad 8)) rfl dX7_make_56 ?_
  refine g_iload F dX7_make_59 0 rfl ?_
  refine g_iload_n F dX7_make_61 4 rfl ?_
  refine f_ast F 0 ql_7 rfl (j := (24 * g) + (a 4 g)) (v := pa) (by omega) (by decide) dX7_make_62 qs_7 ?_
  refine g_aload_n F dX7_make_63 1 rfl ?_
  refine f_get F inX7 ql_RM rfl 8 (by decide) tb_365 rfl (v := .ref (ad 9)) rfl dX7_make_64 ?_
  refine g_iload F dX7_make_67 0 rfl ?_
  refine g_iload F dX7_make_69 5 rfl ?_
  refine f_ast F 0 ql_8 rfl (j := (24 * g) + (a 4 g)) (v := va) (by omega) (by decide) dX7_make_71 qs_8 ?_
  refine g_aload_n F dX7_make_72 1 rfl ?_
  refine f_get F inX7 ql_RM rfl 9 (by decide) tb_366 rfl (v := .ref (ad 10)) rfl dX7_make_73 ?_
  refine g_iload F dX7_make_76 0 rfl ?_
  refine g_iload F dX7_make_78 6 rfl ?_
  refine f_ast F 0 ql_9 rfl (j := (24 * g) + (a 4 g)) (v := vb) (by omega) (by decide) dX7_make_80 qs_9 ?_
  refine f_iconst F 0 dX7_make_81 rfl ?_
  refine g_istore F [(7, .int (Int32.ofNat 0)), (6, .int (Int32.ofNat ((24 * g) + (a 4 g)))), (0, .ref (ad 0)), (1, .int (Int32.ofNat g)), (2, .int (Int32.ofNat kd)), (3, .int (Int32.ofNat pa)), (4, .int (Int32.ofNat va)), (5, .int (Int32.ofNat vb))] dX7_make_82 (by decide) rfl ?_
  have loop84 : ∀ (Q : State → Prop) (d k : Nat) (x : RS), (k + d = 3) → (∀ q, k ≤ q → q < 3 → x 24 q ≤ 63) → gw p l e (headSpec (Cond.code yX7_make cX7_make 8 none :: tb) rm_X7_make).room s m args below meth cd 8 D cls8 A Q 0 0 130 [(6, .int (Int32.ofNat ((24 * g) + (a 4 g)))), (0, .ref (ad 0)), (1, .int (Int32.ofNat g)), (2, .int (Int32.ofNat kd)), (3, .int (Int32.ofNat pa)), (4, .int (Int32.ofNat va)), (5, .int (Int32.ofNat vb))] [] (rwld cI cZ (lpw_X7_make_84 a g kd pa va vb d k x) ad) → gw p l e (headSpec (Cond.code yX7_make cX7_make 8 none :: tb) rm_X7_make).room s m args below meth cd 8 D cls8 A Q 0 0 84 [(7, .int (Int32.ofNat k)), (6, .int (Int32.ofNat ((24 * g) + (a 4 g)))), (0, .ref (ad 0)), (1, .int (Int32.ofNat g)), (2, .int (Int32.ofNat kd)), (3, .int (Int32.ofNat pa)), (4, .int (Int32.ofNat va)), (5, .int (Int32.ofNat vb))] [] (rwld cI cZ x ad) := by
    intro Q d
    induction d with
    | zero =>
      intro k x hk hx K
      refine g_iload F dX7_make_84 0 rfl ?_
      refine f_iconst F 3 dX7_make_86 rfl ?_
      refine g_icmp_ge F dX7_make_87 (tgt := 130) rfl (fun h87 => ?_) (fun h87 => ?_)
      rotate_left
      · exact absurd h87 (by rw [ofN_le (by omega) (by omega)]; omega)
      refine g_locals [(6, .int (Int32.ofNat ((24 * g) + (a 4 g)))), (0, .ref (ad 0)), (1, .int (Int32.ofNat g)), (2, .int (Int32.ofNat kd)), (3, .int (Int32.ofNat pa)), (4, .int (Int32.ofNat va)), (5, .int (Int32.ofNat vb))] [1, 2, 3, 4, 5, 6, 7] rfl ?_
      exact K
    | succ d ih =>
      intro k x hk hx K
      refine g_iload F dX7_make_84 0 rfl ?_
      refine f_iconst F 3 dX7_make_86 rfl ?_
      refine g_icmp_ge F dX7_make_87 (tgt := 130) rfl (fun h87 => ?_) (fun h87 => ?_)
      · exact absurd h87 (by rw [ofN_le (by omega) (by omega)]; omega)
      refine g_aload_n F dX7_make_90 2 rfl ?_
      refine g_iload F dX7_make_91 0 rfl ?_
      refine g_iload_n F dX7_make_93 3 rfl ?_
      refine f_callV F (As := [.int (Int32.ofNat k), .int (Int32.ofNat g)]) (rest := []) (st' := [.int (Int32.ofNat (r_X7_follows x k g))]) (k_X7_follows l D cI cS cZ ad x k g (by first | assumption | omega)) ql_RM rfl tb_450 tb_448 tb_449 tb_610 tb_8 ⟨rfl, hdX7_follows⟩ ⟨rfl, rfl⟩ ⟨Nat.le_of_ble_eq_true rfl, Nat.le_of_ble_eq_true rfl⟩ rw_adr rfl rfl (Nat.le_of_ble_eq_true rfl) ⟨Nat.le_refl _, Nat.le_refl _⟩ dX7_make_94 rfl ?_
      refine g_if_eq F dX7_make_97 (tgt := 124) rfl (fun h97 => ?_) (fun h97 => ?_)
      · refine f_iinc F (k + 1) [(7, .int (Int32.ofNat (k + 1))), (6, .int (Int32.ofNat ((24 * g) + (a 4 g)))), (0, .ref (ad 0)), (1, .int (Int32.ofNat g)), (2, .int (Int32.ofNat kd)), (3, .int (Int32.ofNat pa)), (4, .int (Int32.ofNat va)), (5, .int (Int32.ofNat vb))] dX7_make_124 0 rfl (ofN_inc _) (by decide) rfl ?_
        refine g_goto F dX7_make_127 (tgt := 84) rfl ?_
        exact ih (k + 1) x (by omega) (fun q h1 h2 => hx q (by omega) h2) (g_eq rfl rfl rfl (congrArg (fun t => rwld cI cZ t ad) (by simp only [lpw_X7_make_84, if_pos h97])) K)
      · refine g_aload_n F dX7_make_100 2 rfl ?_
        refine f_get F inX7 ql_RM rfl 16 (by decide) tb_373 rfl (v := .ref (ad 17)) rfl dX7_make_101 ?_
        refine g_iload F dX7_make_104 0 rfl ?_
        refine f_zald F 2 ql_16 rfl (j := k) (by omega) (by decide) dX7_make_106 ?_
        refine g_if_eq F dX7_make_107 (tgt := 124) rfl (fun h107 => ?_) (fun h107 => ?_)
        · refine f_iinc F (k + 1) [(7, .int (Int32.ofNat (k + 1))), (6, .int (Int32.ofNat ((24 * g) + (a 4 g)))), (0, .ref (ad 0)), (1, .int (Int32.ofNat g)), (2, .int (Int32.ofNat kd)), (3, .int (Int32.ofNat pa)), (4, .int (Int32.ofNat va)), (5, .int (Int32.ofNat vb))] dX7_make_124 0 rfl (ofN_inc _) (by decide) rfl ?_
          refine g_goto F dX7_make_127 (tgt := 84) rfl ?_
          exact ih (k + 1) x (by omega) (fun q h1 h2 => hx q (by omega) h2) (g_eq rfl rfl rfl (congrArg (fun t => rwld cI cZ t ad) (by simp only [lpw_X7_make_84, if_neg h97, if_pos h107])) K)
        · refine g_aload_n F dX7_make_110 2 rfl ?_
          refine g_iload F dX7_make_111 0 rfl ?_
          refine f_bipush F 6 dX7_make_113 rfl ?_
          refine g_aload_n F dX7_make_115 2 rfl ?_
          refine f_get F inX7 ql_RM rfl 4 (by decide) tb_361 rfl (v := .ref (ad 5)) rfl dX7_make_116 ?_
          refine g_iload_n F dX7_make_119 3 rfl ?_
          refine f_ald F 0 ql_4 rfl (j := g) (by omega) (by decide) dX7_make_120 ?_
          refine f_callV F (As := [.int (Int32.ofNat k), .int (Int32.ofNat 6), .int (Int32.ofNat (x 4 g))]) (rest := []) (st' := []) (k_X7_sendDown l D cI cS cZ ad x k 6 (x 4 g) (by first | assumption | omega) (hx k (Nat.le_refl _) (by omega))) ql_RM rfl tb_465 tb_463 tb_464 tb_611 tb_8 ⟨rfl, hdX7_sendDown⟩ ⟨rfl, rfl⟩ ⟨Nat.le_of_ble_eq_true rfl, Nat.le_of_ble_eq_true rfl⟩ rw_adr rfl rfl (Nat.le_of_ble_eq_true rfl) ⟨Nat.le_refl _, Nat.le_refl _⟩ dX7_make_121 rfl ?_
          refine f_iinc F (k + 1) [(7, .int (Int32.ofNat (k + 1))), (6, .int (Int32.ofNat ((24 * g) + (a 4 g)))), (0, .ref (ad 0)), (1, .int (Int32.ofNat g)), (2, .int (Int32.ofNat kd)), (3, .int (Int32.ofNat pa)), (4, .int (Int32.ofNat va)), (5, .int (Int32.ofNat vb))] dX7_make_124 0 rfl (ofN_inc _) (by decide) rfl ?_
          refine g_goto F dX7_make_127 (tgt := 84) rfl ?_
          exact ih (k + 1) (w_X7_sendDown x k 6 (x 4 g)) (by omega) (fun q h1 h2 => by rw [sd24 (by omega)]; exact hx q (by omega) h2) (g_eq rfl rfl rfl (congrArg (fun t => rwld cI cZ t ad) (by simp only [lpw_X7_make_84, if_neg h97, if_neg h107])) K)
  refine loop84 _ 3 0 (su2 (su2 (su2 (su2 (su2 (su2 a 12 g ((a 12 g) + 1)) 5 ((24 * g) + (a 4 g)) ((1000 * (a 2 g)) + ((a 12 g) + 1))) 6 ((24 * g) + (a 4 g)) kd) 7 ((24 * g) + (a 4 g)) pa) 8 ((24 * g) + (a 4 g)) va) 9 ((24 * g) + (a 4 g)) vb) (Nat.zero_add _) (fun q _ h2 => hq q h2) ?_
  refine g_aload_n F dX7_make_130 1 rfl ?_
  refine f_get F inX7 ql_RM rfl 4 (by decide) tb_361 rfl (v := .ref (ad 5)) rfl dX7_make_131 ?_
  refine g_iload_n F dX7_make_134 2 rfl ?_
  refine g_dup2 F dX7_make_135 rfl rfl ?_
  refine f_ald F 0 ql_4 rfl (j := g) (by omega) (by decide) dX7_make_136 ?_
  refine f_iconst F 1 dX7_make_137 rfl ?_
  refine f_add F dX7_make_138 ?_
  refine f_ast F 0 ql_4 rfl (j := g) (v := ((lpw_X7_make_84 a g kd pa va vb 3 0 (su2 (su2 (su2 (su2 (su2 (su2 a 12 g ((a 12 g) + 1)) 5 ((24 * g) + (a 4 g)) ((1000 * (a 2 g)) + ((a 12 g) + 1))) 6 ((24 * g) + (a 4 g)) kd) 7 ((24 * g) + (a 4 g)) pa) 8 ((24 * g) + (a 4 g)) va) 9 ((24 * g) + (a 4 g)) vb)) 4 g) + 1) (by omega) (by decide) dX7_make_139 qs_4 ?_
  exact g_vret F hr hlk dX7_make_140 ⟨rfl, congrArg (fun t => rwld cI cZ t ad) rfl⟩
def r_X7_isPath (a : RS) (pa : Nat) : Nat := if Int32.ofNat pa < Int32.ofNat 1 then 0 else (if Int32.ofNat pa ≤ Int32.ofNat 511 then (if Int32.ofNat (nc ((Int32.ofNat pa) - (Int32.ofNat pa) / (Int32.ofNat 8) * (Int32.ofNat 8))) = 0 then 0 else (if Int32.ofNat pa < Int32.ofNat 8 then 1 else (if Int32.ofNat (nc ((Int32.ofNat (nc ((Int32.ofNat pa) / (Int32.ofNat 8)))) - (Int32.ofNat (nc ((Int32.ofNat pa) / (Int32.ofNat 8)))) / (Int32.ofNat 8) * (Int32.ofNat 8))) = 0 then 0 else 1))) else 0)
abbrev rm_X7_isPath : Room := { frames := 0, cells := 0, slots := 0, locals := 0 }
set_option maxHeartbeats 4000000 in
set_option maxRecDepth 100000 in
theorem k_X7_isPath (l : Launch) (D : va_G) (cI cS cZ : ClassId) (ad : Nat → Nat) (a : RS) (pa : Nat) : gN l yX7_isPath (Cond.code yX7_isPath cX7_isPath 1 (some .boolean) :: tb) rm_X7_isPath D cls8 (tys3 cI cS cZ) [.int (Int32.ofNat pa)] (rwld cI cZ a ad) (some (.int (Int32.ofNat (r_X7_isPath a pa)))) (rwld cI cZ a ad) := by
  unfold gN
  refine g_head (by decide) rfl (Nat.le_of_ble_eq_true rfl) ?_
  intro p e s m args below meth cd A F hr hlk hnm
  refine g_eq rfl (L' := [(0, .int (Int32.ofNat pa))]) rfl rfl rfl ?_
  refine g_iload_n F dX7_isPath_0 0 rfl ?_
  refine f_iconst F 1 dX7_isPath_1 rfl ?_
  refine g_icmp_lt F dX7_isPath_2 (tgt := 12) rfl (fun h2 => ?_) (fun h2 => ?_)
  · refine f_iconst F 0 dX7_isPath_12 rfl ?_
    exact g_zret F hr hlk rfl dX7_isPath_13 ⟨congrArg (fun t => some (Value.int (Int32.ofNat t))) (Eq.symm (by unfold r_X7_isPath; first | simp only [if_pos h2] | rfl)), rfl⟩
  · refine g_iload_n F dX7_isPath_5 0 rfl ?_
    refine f_sipush F 511 dX7_isPath_6 rfl ?_
    refine g_icmp_le F dX7_isPath_9 (tgt := 14) rfl (fun h9 => ?_) (fun h9 => ?_)
    · refine g_iload_n F dX7_isPath_14 0 rfl ?_
      refine f_bipush F 8 dX7_isPath_15 rfl ?_
      refine g_irem F dX7_isPath_17 (by decide) ?_
      refine f_code ?_
      refine g_if_eq F dX7_isPath_18 (tgt := 41) rfl (fun h18 => ?_) (fun h18 => ?_)
      · refine f_iconst F 0 dX7_isPath_41 rfl ?_
        exact g_zret F hr hlk rfl dX7_isPath_42 ⟨congrArg (fun t => some (Value.int (Int32.ofNat t))) (Eq.symm (by unfold r_X7_isPath; first | simp only [if_neg h2, if_pos h9, if_pos h18] | rfl)), rfl⟩
      · refine g_iload_n F dX7_isPath_21 0 rfl ?_
        refine f_bipush F 8 dX7_isPath_22 rfl ?_
        refine g_icmp_lt F dX7_isPath_24 (tgt := 37) rfl (fun h24 => ?_) (fun h24 => ?_)
        · refine f_iconst F 1 dX7_isPath_37 rfl ?_
          refine g_goto F dX7_isPath_38 (tgt := 42) rfl ?_
          exact g_zret F hr hlk rfl dX7_isPath_42 ⟨congrArg (fun t => some (Value.int (Int32.ofNat t))) (Eq.symm (by unfold r_X7_isPath; first | simp only [if_neg h2, if_pos h9, if_neg h18, if_pos h24] | rfl)), rfl⟩
        · refine g_iload_n F dX7_isPath_27 0 rfl ?_
          refine f_bipush F 8 dX7_isPath_28 rfl ?_
          refine g_idiv F dX7_isPath_30 (by decide) ?_
          refine f_code ?_
          refine f_bipush F 8 dX7_isPath_31 rfl ?_
          refine g_irem F dX7_isPath_33 (by decide) ?_
          refine f_code ?_
          refine g_if_eq F dX7_isPath_34 (tgt := 41) rfl (fun h34 => ?_) (fun h34 => ?_)
          · refine f_iconst F 0 dX7_isPath_41 rfl ?_
            exact g_zret F hr hlk rfl dX7_isPath_42 ⟨congrArg (fun t => some (Value.int (Int32.ofNat t))) (Eq.symm (by unfold r_X7_isPath; first | simp only [if_neg h2, if_pos h9, if_neg h18, if_neg h24, if_pos h34] | rfl)), rfl⟩
          · refine f_iconst F 1 dX7_isPath_37 rfl ?_
            refine g_goto F dX7_isPath_38 (tgt := 42) rfl ?_
            exact g_zret F hr hlk rfl dX7_isPath_42 ⟨congrArg (fun t => some (Value.int (Int32.ofNat t))) (Eq.symm (by unfold r_X7_isPath; first | simp only [if_neg h2, if_pos h9, if_neg h18, if_neg h24, if_neg h34] | rfl)), rfl⟩
    · refine f_iconst F 0 dX7_isPath_12 rfl ?_
      exact g_zret F hr hlk rfl dX7_isPath_13 ⟨congrArg (fun t => some (Value.int (Int32.ofNat t))) (Eq.symm (by unfold r_X7_isPath; first | simp only [if_neg h2, if_neg h9] | rfl)), rfl⟩
