section GCC
variable {p : Program} {l : Launch} {e : Env} {R : Room} {s : State} {m : MethodId} {args : Array Value} {below : List Frame} {meth : Method} {c : Code}
variable {nL : Nat} {D : va_G} {cl : List vw_C} {A : Nat → Prop} {Q : State → Prop} {cells slots pc : Nat} {L : List (Nat × Value)} {st : List Value} {ws ws' : va_W}
variable {cc : ByteArray} {t0 : Cond} {own : String} {tys : List (ClassId × FieldType)}
theorem f_callC (F : gf p s m args meth c nL D cl A cc (t0 :: tb) own tys) {y : MethodName} {bytes : ByteArray} {maxL n index mc ms : Nat} {host : String} {rm : Room} {As rest : List Value} {b : Nat} {e0 : va_E} {e1 : (Nat → Nat) → va_E} {nw : (Nat → Nat) → va_W} (hM : gM l y (Cond.code y bytes maxL none :: tb) rm D cl tys (.ref b :: As) [(b, e0)] (fun v w => v = none ∧ ∃ q, w = (b, e1 q) :: nw q) mc ms) (hcode : Cond.code y bytes maxL none ∈ tb) (hl : Cond.methodLinkNest own index y host ∈ nb) (hi : Cond.instanceMethod y ∈ tb) (hini : Cond.initialized y.cls ∈ tb) (hy1 : y.name = "<init>") (hdd : y.cls ≠ "java/lang/invoke/MethodHandle" ∧ y.cls ≠ "java/lang/invoke/VarHandle" ∧ (parseMethodDescriptor y.desc).map (fun d => d.parameters.length) = some n) (hz : rm.cells = mc ∧ rm.slots = ms) (hR : rm.frames + 1 ≤ R.frames ∧ 8 + (maxL + 11) + rm.locals ≤ R.locals) (i : Nat) (he : ws[i]? = some (b, e0)) (hn : As.length = n) (hst : st = As.reverse ++ .ref b :: rest) (hW : (rest.map fun v => v.category).sum ≤ 8) (hf : cells + mc ≤ R.cells ∧ slots + ms ≤ R.slots) (hd : decode cc pc = .ok (.invokespecial index, 3))
    (k : ∀ q : Nat → Nat, gw p l e R s m args below meth c nL D cl A Q (cells + mc) (slots + ms) (pc + 3) L rest (ws.set i (b, e1 q) ++ nw q)) : gw p l e R s m args below meth c nL D cl A Q cells slots pc L st ws := by
  refine g_callIN F hM ⟨va_cnB n F.1.2.2.2.2 (tb_in hcode) rfl hz.1 hz.2 (F.2.2.2 _ hl) (gf_w F hini) hdd hR, hy1, gf_w F hi⟩ [i] (by simp [he]) (by simp [va_nd]) hn hst hW hf hd (fun v w hp => ?_) (fun w1 nw' hp hadr => ?_)
  · obtain ⟨h1, q, h2⟩ := hp
    exact ⟨h1, [(b, e1 q)], nw q, h2, rfl⟩
  · obtain ⟨-, q, h2⟩ := hp
    match w1, hadr with
    | [x], _ =>
      have h3 : x = (b, e1 q) ∧ nw' = nw q := by simpa using h2
      rw [h3.1, h3.2]
      exact k q
theorem g_pick (is : List Nat) (ws' : va_W) (hs : is.map (fun i => ws[i]?) = ws'.map some) (hnd : va_nd is = true) (k : gw p l e R s m args below meth c nL D cl A Q cells slots pc L st ws') : gw p l e R s m args below meth c nL D cl A Q cells slots pc L st ws :=
  fun ls H locs h1 h2 h3 h4 => k ls H locs h1 (fun j q hq => by
    obtain ⟨i, -, h⟩ := (g_at hs).1 j q hq
    exact h2 i q h) (h3.sub is hnd hs) h4
end GCC
abbrev rm_X2_init_27 : Room := { frames := 1, cells := 2, slots := 54, locals := 12 }
set_option maxHeartbeats 4000000 in
set_option maxRecDepth 100000 in
theorem k_X2_init_27 (l : Launch) (D : va_G) (cI cS cZ : ClassId) (b : Nat) : gM l yX2_init (Cond.code yX2_init cX2_init 2 none :: tb) rm_X2_init_27 D cls8 (tys3 cI cS cZ) [.ref b, .int (Int32.ofNat 27)] [(b, .inr (2, [.null, .null, .int 0, .int 0]))] (fun v w => v = none ∧ ∃ q : Nat → Nat, w = (b, .inr (2, [.ref (q 0), .ref (q 1), .int 0, .int 0])) :: [((q 0), .inl (cI, 27, .inl (fun _ => 0))), ((q 1), .inl (cI, 27, .inl (fun _ => 0)))]) 2 54 := by
  refine g_head (by decide) rfl (Nat.le_of_ble_eq_true rfl) ?_
  intro p e s m args below meth cd A F hr hlk hnm
  refine g_eq rfl (L' := [(0, .ref b), (1, .int (Int32.ofNat 27))]) rfl rfl rfl ?_
  refine g_aload_n F dX2_init_0 0 rfl ?_
  refine g_objInit F (gf_w F tb_65) (gf_w F tb_14) (gf_w F tb_15) dX2_init_1 (Nat.le_of_ble_eq_true rfl) (Nat.le_of_ble_eq_true rfl) ?_
  refine g_aload_n F dX2_init_4 0 rfl ?_
  refine g_iload_n F dX2_init_5 1 rfl ?_
  refine g_newi F 0 rfl (gf_w F tb_38) (N := 27) (by decide) (by decide) (by decide) (Nat.le_of_ble_eq_true rfl) (Nat.le_of_ble_eq_true rfl) dX2_init_6 (fun q0 => ?_)
  refine g_world (ws' := [(b, .inr (2, [.null, .null, .int 0, .int 0])), (q0, .inl (cI, 27, .inl (fun _ => 0)))]) rfl ?_
  refine g_putF F (in_c inX2) tyX2 tyX2_ok nmX2 0 rfl rfl 0 (by decide) (gf_w F tb_66) (fun _ h => h) rfl hnm rfl (tyX2_ok 0 (by decide)) rfl rfl (Nat.le_of_ble_eq_true rfl) dX2_init_8 [(b, .inr (2, [.ref q0, .null, .int 0, .int 0])), (q0, .inl (cI, 27, .inl (fun _ => 0)))] rfl ?_
  refine g_aload_n F dX2_init_11 0 rfl ?_
  refine g_iload_n F dX2_init_12 1 rfl ?_
  refine g_newi F 0 rfl (gf_w F tb_38) (N := 27) (by decide) (by decide) (by decide) (Nat.le_of_ble_eq_true rfl) (Nat.le_of_ble_eq_true rfl) dX2_init_13 (fun q1 => ?_)
  refine g_world (ws' := [(b, .inr (2, [.ref q0, .null, .int 0, .int 0])), (q0, .inl (cI, 27, .inl (fun _ => 0))), (q1, .inl (cI, 27, .inl (fun _ => 0)))]) rfl ?_
  refine g_putF F (in_c inX2) tyX2 tyX2_ok nmX2 0 rfl rfl 1 (by decide) (gf_w F tb_67) (fun _ h => h) rfl hnm rfl (tyX2_ok 1 (by decide)) rfl rfl (Nat.le_of_ble_eq_true rfl) dX2_init_15 [(b, .inr (2, [.ref q0, .ref q1, .int 0, .int 0])), (q0, .inl (cI, 27, .inl (fun _ => 0))), (q1, .inl (cI, 27, .inl (fun _ => 0)))] rfl ?_
  exact g_vret F hr hlk dX2_init_18 ⟨rfl, fun n => ([q0, q1] : List Nat).getD n 0, rfl⟩
abbrev rm_X2_init_51 : Room := { frames := 1, cells := 2, slots := 102, locals := 12 }
set_option maxHeartbeats 4000000 in
set_option maxRecDepth 100000 in
theorem k_X2_init_51 (l : Launch) (D : va_G) (cI cS cZ : ClassId) (b : Nat) : gM l yX2_init (Cond.code yX2_init cX2_init 2 none :: tb) rm_X2_init_51 D cls8 (tys3 cI cS cZ) [.ref b, .int (Int32.ofNat 51)] [(b, .inr (2, [.null, .null, .int 0, .int 0]))] (fun v w => v = none ∧ ∃ q : Nat → Nat, w = (b, .inr (2, [.ref (q 0), .ref (q 1), .int 0, .int 0])) :: [((q 0), .inl (cI, 51, .inl (fun _ => 0))), ((q 1), .inl (cI, 51, .inl (fun _ => 0)))]) 2 102 := by
  refine g_head (by decide) rfl (Nat.le_of_ble_eq_true rfl) ?_
  intro p e s m args below meth cd A F hr hlk hnm
  refine g_eq rfl (L' := [(0, .ref b), (1, .int (Int32.ofNat 51))]) rfl rfl rfl ?_
  refine g_aload_n F dX2_init_0 0 rfl ?_
  refine g_objInit F (gf_w F tb_65) (gf_w F tb_14) (gf_w F tb_15) dX2_init_1 (Nat.le_of_ble_eq_true rfl) (Nat.le_of_ble_eq_true rfl) ?_
  refine g_aload_n F dX2_init_4 0 rfl ?_
  refine g_iload_n F dX2_init_5 1 rfl ?_
  refine g_newi F 0 rfl (gf_w F tb_38) (N := 51) (by decide) (by decide) (by decide) (Nat.le_of_ble_eq_true rfl) (Nat.le_of_ble_eq_true rfl) dX2_init_6 (fun q0 => ?_)
  refine g_world (ws' := [(b, .inr (2, [.null, .null, .int 0, .int 0])), (q0, .inl (cI, 51, .inl (fun _ => 0)))]) rfl ?_
  refine g_putF F (in_c inX2) tyX2 tyX2_ok nmX2 0 rfl rfl 0 (by decide) (gf_w F tb_66) (fun _ h => h) rfl hnm rfl (tyX2_ok 0 (by decide)) rfl rfl (Nat.le_of_ble_eq_true rfl) dX2_init_8 [(b, .inr (2, [.ref q0, .null, .int 0, .int 0])), (q0, .inl (cI, 51, .inl (fun _ => 0)))] rfl ?_
  refine g_aload_n F dX2_init_11 0 rfl ?_
  refine g_iload_n F dX2_init_12 1 rfl ?_
  refine g_newi F 0 rfl (gf_w F tb_38) (N := 51) (by decide) (by decide) (by decide) (Nat.le_of_ble_eq_true rfl) (Nat.le_of_ble_eq_true rfl) dX2_init_13 (fun q1 => ?_)
  refine g_world (ws' := [(b, .inr (2, [.ref q0, .null, .int 0, .int 0])), (q0, .inl (cI, 51, .inl (fun _ => 0))), (q1, .inl (cI, 51, .inl (fun _ => 0)))]) rfl ?_
  refine g_putF F (in_c inX2) tyX2 tyX2_ok nmX2 0 rfl rfl 1 (by decide) (gf_w F tb_67) (fun _ h => h) rfl hnm rfl (tyX2_ok 1 (by decide)) rfl rfl (Nat.le_of_ble_eq_true rfl) dX2_init_15 [(b, .inr (2, [.ref q0, .ref q1, .int 0, .int 0])), (q0, .inl (cI, 51, .inl (fun _ => 0))), (q1, .inl (cI, 51, .inl (fun _ => 0)))] rfl ?_
  exact g_vret F hr hlk dX2_init_18 ⟨rfl, fun n => ([q0, q1] : List Nat).getD n 0, rfl⟩
abbrev rm_X0_init : Room := { frames := 1, cells := 5, slots := 120, locals := 12 }
set_option maxHeartbeats 4000000 in
set_option maxRecDepth 100000 in
theorem k_X0_init (l : Launch) (D : va_G) (cI cS cZ : ClassId) (b : Nat) : gM l yX0_init (Cond.code yX0_init cX0_init 1 none :: tb) rm_X0_init D cls8 (tys3 cI cS cZ) [.ref b] [(b, .inr (0, [.null, .null, .null, .null, .null, .int 0]))] (fun v w => v = none ∧ ∃ q : Nat → Nat, w = (b, .inr (0, [.ref (q 0), .ref (q 1), .ref (q 2), .ref (q 3), .ref (q 4), .int 0])) :: [((q 0), .inl (cI, 24, .inl (fun _ => 0))), ((q 1), .inl (cI, 24, .inl (fun _ => 0))), ((q 2), .inl (cI, 24, .inl (fun _ => 0))), ((q 3), .inl (cI, 24, .inl (fun _ => 0))), ((q 4), .inl (cI, 24, .inl (fun _ => 0)))]) 5 120 := by
  refine g_head (by decide) rfl (Nat.le_of_ble_eq_true rfl) ?_
  intro p e s m args below meth cd A F hr hlk hnm
  refine g_eq rfl (L' := [(0, .ref b)]) rfl rfl rfl ?_
  refine g_aload_n F dX0_init_0 0 rfl ?_
  refine g_objInit F (gf_w F tb_25) (gf_w F tb_14) (gf_w F tb_15) dX0_init_1 (Nat.le_of_ble_eq_true rfl) (Nat.le_of_ble_eq_true rfl) ?_
  refine g_aload_n F dX0_init_4 0 rfl ?_
  refine f_bipush F 24 dX0_init_5 rfl ?_
  refine g_newi F 0 rfl (gf_w F tb_38) (N := 24) (by decide) (by decide) (by decide) (Nat.le_of_ble_eq_true rfl) (Nat.le_of_ble_eq_true rfl) dX0_init_7 (fun q0 => ?_)
  refine g_world (ws' := [(b, .inr (0, [.null, .null, .null, .null, .null, .int 0])), (q0, .inl (cI, 24, .inl (fun _ => 0)))]) rfl ?_
  refine g_putF F (in_c inX0) tyX0 tyX0_ok nmX0 0 rfl rfl 0 (by decide) (gf_w F tb_26) (fun _ h => h) rfl hnm rfl (tyX0_ok 0 (by decide)) rfl rfl (Nat.le_of_ble_eq_true rfl) dX0_init_9 [(b, .inr (0, [.ref q0, .null, .null, .null, .null, .int 0])), (q0, .inl (cI, 24, .inl (fun _ => 0)))] rfl ?_
  refine g_aload_n F dX0_init_12 0 rfl ?_
  refine f_bipush F 24 dX0_init_13 rfl ?_
  refine g_newi F 0 rfl (gf_w F tb_38) (N := 24) (by decide) (by decide) (by decide) (Nat.le_of_ble_eq_true rfl) (Nat.le_of_ble_eq_true rfl) dX0_init_15 (fun q1 => ?_)
  refine g_world (ws' := [(b, .inr (0, [.ref q0, .null, .null, .null, .null, .int 0])), (q0, .inl (cI, 24, .inl (fun _ => 0))), (q1, .inl (cI, 24, .inl (fun _ => 0)))]) rfl ?_
  refine g_putF F (in_c inX0) tyX0 tyX0_ok nmX0 0 rfl rfl 1 (by decide) (gf_w F tb_27) (fun _ h => h) rfl hnm rfl (tyX0_ok 1 (by decide)) rfl rfl (Nat.le_of_ble_eq_true rfl) dX0_init_17 [(b, .inr (0, [.ref q0, .ref q1, .null, .null, .null, .int 0])), (q0, .inl (cI, 24, .inl (fun _ => 0))), (q1, .inl (cI, 24, .inl (fun _ => 0)))] rfl ?_
  refine g_aload_n F dX0_init_20 0 rfl ?_
  refine f_bipush F 24 dX0_init_21 rfl ?_
  refine g_newi F 0 rfl (gf_w F tb_38) (N := 24) (by decide) (by decide) (by decide) (Nat.le_of_ble_eq_true rfl) (Nat.le_of_ble_eq_true rfl) dX0_init_23 (fun q2 => ?_)
  refine g_world (ws' := [(b, .inr (0, [.ref q0, .ref q1, .null, .null, .null, .int 0])), (q0, .inl (cI, 24, .inl (fun _ => 0))), (q1, .inl (cI, 24, .inl (fun _ => 0))), (q2, .inl (cI, 24, .inl (fun _ => 0)))]) rfl ?_
  refine g_putF F (in_c inX0) tyX0 tyX0_ok nmX0 0 rfl rfl 2 (by decide) (gf_w F tb_28) (fun _ h => h) rfl hnm rfl (tyX0_ok 2 (by decide)) rfl rfl (Nat.le_of_ble_eq_true rfl) dX0_init_25 [(b, .inr (0, [.ref q0, .ref q1, .ref q2, .null, .null, .int 0])), (q0, .inl (cI, 24, .inl (fun _ => 0))), (q1, .inl (cI, 24, .inl (fun _ => 0))), (q2, .inl (cI, 24, .inl (fun _ => 0)))] rfl ?_
  refine g_aload_n F dX0_init_28 0 rfl ?_
  refine f_bipush F 24 dX0_init_29 rfl ?_
  refine g_newi F 0 rfl (gf_w F tb_38) (N := 24) (by decide) (by decide) (by decide) (Nat.le_of_ble_eq_true rfl) (Nat.le_of_ble_eq_true rfl) dX0_init_31 (fun q3 => ?_)
  refine g_world (ws' := [(b, .inr (0, [.ref q0, .ref q1, .ref q2, .null, .null, .int 0])), (q0, .inl (cI, 24, .inl (fun _ => 0))), (q1, .inl (cI, 24, .inl (fun _ => 0))), (q2, .inl (cI, 24, .inl (fun _ => 0))), (q3, .inl (cI, 24, .inl (fun _ => 0)))]) rfl ?_
  refine g_putF F (in_c inX0) tyX0 tyX0_ok nmX0 0 rfl rfl 3 (by decide) (gf_w F tb_29) (fun _ h => h) rfl hnm rfl (tyX0_ok 3 (by decide)) rfl rfl (Nat.le_of_ble_eq_true rfl) dX0_init_33 [(b, .inr (0, [.ref q0, .ref q1, .ref q2, .ref q3, .null, .int 0])), (q0, .inl (cI, 24, .inl (fun _ => 0))), (q1, .inl (cI, 24, .inl (fun _ => 0))), (q2, .inl (cI, 24, .inl (fun _ => 0))), (q3, .inl (cI, 24, .inl (fun _ => 0)))] rfl ?_
  refine g_aload_n F dX0_init_36 0 rfl ?_
  refine f_bipush F 24 dX0_init_37 rfl ?_
  refine g_newi F 0 rfl (gf_w F tb_38) (N := 24) (by decide) (by decide) (by decide) (Nat.le_of_ble_eq_true rfl) (Nat.le_of_ble_eq_true rfl) dX0_init_39 (fun q4 => ?_)
  refine g_world (ws' := [(b, .inr (0, [.ref q0, .ref q1, .ref q2, .ref q3, .null, .int 0])), (q0, .inl (cI, 24, .inl (fun _ => 0))), (q1, .inl (cI, 24, .inl (fun _ => 0))), (q2, .inl (cI, 24, .inl (fun _ => 0))), (q3, .inl (cI, 24, .inl (fun _ => 0))), (q4, .inl (cI, 24, .inl (fun _ => 0)))]) rfl ?_
  refine g_putF F (in_c inX0) tyX0 tyX0_ok nmX0 0 rfl rfl 4 (by decide) (gf_w F tb_30) (fun _ h => h) rfl hnm rfl (tyX0_ok 4 (by decide)) rfl rfl (Nat.le_of_ble_eq_true rfl) dX0_init_41 [(b, .inr (0, [.ref q0, .ref q1, .ref q2, .ref q3, .ref q4, .int 0])), (q0, .inl (cI, 24, .inl (fun _ => 0))), (q1, .inl (cI, 24, .inl (fun _ => 0))), (q2, .inl (cI, 24, .inl (fun _ => 0))), (q3, .inl (cI, 24, .inl (fun _ => 0))), (q4, .inl (cI, 24, .inl (fun _ => 0)))] rfl ?_
  exact g_vret F hr hlk dX0_init_44 ⟨rfl, fun n => ([q0, q1, q2, q3, q4] : List Nat).getD n 0, rfl⟩
abbrev rm_X5_init : Room := { frames := 1, cells := 4, slots := 96, locals := 12 }
set_option maxHeartbeats 4000000 in
set_option maxRecDepth 100000 in
theorem k_X5_init (l : Launch) (D : va_G) (cI cS cZ : ClassId) (b : Nat) : gM l yX5_init (Cond.code yX5_init cX5_init 1 none :: tb) rm_X5_init D cls8 (tys3 cI cS cZ) [.ref b] [(b, .inr (5, [.null, .null, .null, .null, .int 0, .int 0]))] (fun v w => v = none ∧ ∃ q : Nat → Nat, w = (b, .inr (5, [.ref (q 0), .ref (q 1), .ref (q 2), .ref (q 3), .int 0, .int 0])) :: [((q 0), .inl (cI, 24, .inl (fun _ => 0))), ((q 1), .inl (cI, 24, .inl (fun _ => 0))), ((q 2), .inl (cI, 24, .inl (fun _ => 0))), ((q 3), .inl (cI, 24, .inl (fun _ => 0)))]) 4 96 := by
  refine g_head (by decide) rfl (Nat.le_of_ble_eq_true rfl) ?_
  intro p e s m args below meth cd A F hr hlk hnm
  refine g_eq rfl (L' := [(0, .ref b)]) rfl rfl rfl ?_
  refine g_aload_n F dX5_init_0 0 rfl ?_
  refine g_objInit F (gf_w F tb_43) (gf_w F tb_14) (gf_w F tb_15) dX5_init_1 (Nat.le_of_ble_eq_true rfl) (Nat.le_of_ble_eq_true rfl) ?_
  refine g_aload_n F dX5_init_4 0 rfl ?_
  refine f_bipush F 24 dX5_init_5 rfl ?_
  refine g_newi F 0 rfl (gf_w F tb_38) (N := 24) (by decide) (by decide) (by decide) (Nat.le_of_ble_eq_true rfl) (Nat.le_of_ble_eq_true rfl) dX5_init_7 (fun q0 => ?_)
  refine g_world (ws' := [(b, .inr (5, [.null, .null, .null, .null, .int 0, .int 0])), (q0, .inl (cI, 24, .inl (fun _ => 0)))]) rfl ?_
  refine g_putF F (in_c inX5) tyX5 tyX5_ok nmX5 0 rfl rfl 0 (by decide) (gf_w F tb_44) (fun _ h => h) rfl hnm rfl (tyX5_ok 0 (by decide)) rfl rfl (Nat.le_of_ble_eq_true rfl) dX5_init_9 [(b, .inr (5, [.ref q0, .null, .null, .null, .int 0, .int 0])), (q0, .inl (cI, 24, .inl (fun _ => 0)))] rfl ?_
  refine g_aload_n F dX5_init_12 0 rfl ?_
  refine f_bipush F 24 dX5_init_13 rfl ?_
  refine g_newi F 0 rfl (gf_w F tb_38) (N := 24) (by decide) (by decide) (by decide) (Nat.le_of_ble_eq_true rfl) (Nat.le_of_ble_eq_true rfl) dX5_init_15 (fun q1 => ?_)
  refine g_world (ws' := [(b, .inr (5, [.ref q0, .null, .null, .null, .int 0, .int 0])), (q0, .inl (cI, 24, .inl (fun _ => 0))), (q1, .inl (cI, 24, .inl (fun _ => 0)))]) rfl ?_
  refine g_putF F (in_c inX5) tyX5 tyX5_ok nmX5 0 rfl rfl 1 (by decide) (gf_w F tb_45) (fun _ h => h) rfl hnm rfl (tyX5_ok 1 (by decide)) rfl rfl (Nat.le_of_ble_eq_true rfl) dX5_init_17 [(b, .inr (5, [.ref q0, .ref q1, .null, .null, .int 0, .int 0])), (q0, .inl (cI, 24, .inl (fun _ => 0))), (q1, .inl (cI, 24, .inl (fun _ => 0)))] rfl ?_
  refine g_aload_n F dX5_init_20 0 rfl ?_
  refine f_bipush F 24 dX5_init_21 rfl ?_
  refine g_newi F 0 rfl (gf_w F tb_38) (N := 24) (by decide) (by decide) (by decide) (Nat.le_of_ble_eq_true rfl) (Nat.le_of_ble_eq_true rfl) dX5_init_23 (fun q2 => ?_)
  refine g_world (ws' := [(b, .inr (5, [.ref q0, .ref q1, .null, .null, .int 0, .int 0])), (q0, .inl (cI, 24, .inl (fun _ => 0))), (q1, .inl (cI, 24, .inl (fun _ => 0))), (q2, .inl (cI, 24, .inl (fun _ => 0)))]) rfl ?_
  refine g_putF F (in_c inX5) tyX5 tyX5_ok nmX5 0 rfl rfl 2 (by decide) (gf_w F tb_46) (fun _ h => h) rfl hnm rfl (tyX5_ok 2 (by decide)) rfl rfl (Nat.le_of_ble_eq_true rfl) dX5_init_25 [(b, .inr (5, [.ref q0, .ref q1, .ref q2, .null, .int 0, .int 0])), (q0, .inl (cI, 24, .inl (fun _ => 0))), (q1, .inl (cI, 24, .inl (fun _ => 0))), (q2, .inl (cI, 24, .inl (fun _ => 0)))] rfl ?_
  refine g_aload_n F dX5_init_28 0 rfl ?_
  refine f_bipush F 24 dX5_init_29 rfl ?_
  refine g_newi F 0 rfl (gf_w F tb_38) (N := 24) (by decide) (by decide) (by decide) (Nat.le_of_ble_eq_true rfl) (Nat.le_of_ble_eq_true rfl) dX5_init_31 (fun q3 => ?_)
  refine g_world (ws' := [(b, .inr (5, [.ref q0, .ref q1, .ref q2, .null, .int 0, .int 0])), (q0, .inl (cI, 24, .inl (fun _ => 0))), (q1, .inl (cI, 24, .inl (fun _ => 0))), (q2, .inl (cI, 24, .inl (fun _ => 0))), (q3, .inl (cI, 24, .inl (fun _ => 0)))]) rfl ?_
  refine g_putF F (in_c inX5) tyX5 tyX5_ok nmX5 0 rfl rfl 3 (by decide) (gf_w F tb_47) (fun _ h => h) rfl hnm rfl (tyX5_ok 3 (by decide)) rfl rfl (Nat.le_of_ble_eq_true rfl) dX5_init_33 [(b, .inr (5, [.ref q0, .ref q1, .ref q2, .ref q3, .int 0, .int 0])), (q0, .inl (cI, 24, .inl (fun _ => 0))), (q1, .inl (cI, 24, .inl (fun _ => 0))), (q2, .inl (cI, 24, .inl (fun _ => 0))), (q3, .inl (cI, 24, .inl (fun _ => 0)))] rfl ?_
  exact g_vret F hr hlk dX5_init_36 ⟨rfl, fun n => ([q0, q1, q2, q3] : List Nat).getD n 0, rfl⟩
abbrev rm_X4_init : Room := { frames := 1, cells := 1, slots := 5, locals := 12 }
set_option maxHeartbeats 4000000 in
set_option maxRecDepth 100000 in
theorem k_X4_init (l : Launch) (D : va_G) (cI cS cZ : ClassId) (b : Nat) : gM l yX4_init (Cond.code yX4_init cX4_init 1 none :: tb) rm_X4_init D cls8 (tys3 cI cS cZ) [.ref b] [(b, .inr (4, [.int 0, .int 0, .int 0, .null]))] (fun v w => v = none ∧ ∃ q : Nat → Nat, w = (b, .inr (4, [.int 0, .int 0, .int 0, .ref (q 0)])) :: [((q 0), .inl (cI, 5, .inl (fun _ => 0)))]) 1 5 := by
  refine g_head (by decide) rfl (Nat.le_of_ble_eq_true rfl) ?_
  intro p e s m args below meth cd A F hr hlk hnm
  refine g_eq rfl (L' := [(0, .ref b)]) rfl rfl rfl ?_
  refine g_aload_n F dX4_init_0 0 rfl ?_
  refine g_objInit F (gf_w F tb_88) (gf_w F tb_14) (gf_w F tb_15) dX4_init_1 (Nat.le_of_ble_eq_true rfl) (Nat.le_of_ble_eq_true rfl) ?_
  refine g_aload_n F dX4_init_4 0 rfl ?_
  refine f_iconst F 5 dX4_init_5 rfl ?_
  refine g_newi F 0 rfl (gf_w F tb_38) (N := 5) (by decide) (by decide) (by decide) (Nat.le_of_ble_eq_true rfl) (Nat.le_of_ble_eq_true rfl) dX4_init_6 (fun q0 => ?_)
  refine g_world (ws' := [(b, .inr (4, [.int 0, .int 0, .int 0, .null])), (q0, .inl (cI, 5, .inl (fun _ => 0)))]) rfl ?_
  refine g_putF F (in_c inX4) tyX4 tyX4_ok nmX4 0 rfl rfl 3 (by decide) (gf_w F tb_92) (fun _ h => h) rfl hnm rfl (tyX4_ok 3 (by decide)) rfl rfl (Nat.le_of_ble_eq_true rfl) dX4_init_8 [(b, .inr (4, [.int 0, .int 0, .int 0, .ref q0])), (q0, .inl (cI, 5, .inl (fun _ => 0)))] rfl ?_
  exact g_vret F hr hlk dX4_init_11 ⟨rfl, fun n => ([q0] : List Nat).getD n 0, rfl⟩
abbrev rm_X1_init : Room := { frames := 2, cells := 6, slots := 164, locals := 33 }
set_option maxHeartbeats 4000000 in
set_option maxRecDepth 100000 in
theorem k_X1_init (l : Launch) (D : va_G) (cI cS cZ : ClassId) (b : Nat) : gM l yX1_init (Cond.code yX1_init cX1_init 1 none :: tb) rm_X1_init D cls8 (tys3 cI cS cZ) [.ref b] [(b, .inr (1, [.null, .null, .int 0, .int 0, .int 0]))] (fun v w => v = none ∧ ∃ q : Nat → Nat, w = (b, .inr (1, [.ref (q 0), .ref (q 3), .int 0, .int 0, .int 0])) :: [((q 0), .inr (2, [.ref (q 1), .ref (q 2), .int 0, .int 0])), ((q 1), .inl (cI, 27, .inl (fun _ => 0))), ((q 2), .inl (cI, 27, .inl (fun _ => 0))), ((q 3), .inr (2, [.ref (q 4), .ref (q 5), .int 0, .int 0])), ((q 4), .inl (cI, 51, .inl (fun _ => 0))), ((q 5), .inl (cI, 51, .inl (fun _ => 0)))]) 6 164 := by
  refine g_head (by decide) rfl (Nat.le_of_ble_eq_true rfl) ?_
  intro p e s m args below meth cd A F hr hlk hnm
  refine g_eq rfl (L' := [(0, .ref b)]) rfl rfl rfl ?_
  refine g_aload_n F dX1_init_0 0 rfl ?_
  refine g_objInit F (gf_w F tb_60) (gf_w F tb_14) (gf_w F tb_15) dX1_init_1 (Nat.le_of_ble_eq_true rfl) (Nat.le_of_ble_eq_true rfl) ?_
  refine g_aload_n F dX1_init_4 0 rfl ?_
  refine g_new F (in_c inX2) tyX2 tyX2_ok (gf_w F tb_61) (gf_w F tb_62) (gf_w F tb_5) (ci := 2) rfl (fs := [.null, .null, .int 0, .int 0]) (fun j hj => by rcases (show j = 0 ∨ j = 1 ∨ j = 2 ∨ j = 3 by omega) with rfl | rfl | rfl | rfl <;> rfl) (Nat.le_of_ble_eq_true rfl) (Nat.le_of_ble_eq_true rfl) dX1_init_5 (fun q0 => ?_)
  refine g_world (ws' := [(b, .inr (1, [.null, .null, .int 0, .int 0, .int 0])), (q0, .inr (2, [.null, .null, .int 0, .int 0]))]) rfl ?_
  refine g_dup F dX1_init_8 rfl ?_
  refine f_bipush F 27 dX1_init_9 rfl ?_
  refine f_callC F (As := [.int (Int32.ofNat 27)]) (rest := [.ref q0, .ref b]) (k_X2_init_27 l D cI cS cZ q0) tb_64 nb_11 tb_63 tb_5 rfl hdX2_init ⟨rfl, rfl⟩ ⟨(Nat.le_of_ble_eq_true rfl), (Nat.le_of_ble_eq_true rfl)⟩ 1 rfl rfl rfl (Nat.le_of_ble_eq_true rfl) ⟨(Nat.le_of_ble_eq_true rfl), (Nat.le_of_ble_eq_true rfl)⟩ dX1_init_11 (fun f1 => ?_)
  refine g_world (ws' := [(b, .inr (1, [.null, .null, .int 0, .int 0, .int 0])), (q0, .inr (2, [.ref (f1 0), .ref (f1 1), .int 0, .int 0])), ((f1 0), .inl (cI, 27, .inl (fun _ => 0))), ((f1 1), .inl (cI, 27, .inl (fun _ => 0)))]) rfl ?_
  refine g_putF F (in_c inX1) tyX1 tyX1_ok nmX1 0 rfl rfl 0 (by decide) (gf_w F tb_74) (fun _ h => h) rfl hnm rfl (tyX1_ok 0 (by decide)) rfl rfl (Nat.le_of_ble_eq_true rfl) dX1_init_14 [(b, .inr (1, [.ref q0, .null, .int 0, .int 0, .int 0])), (q0, .inr (2, [.ref (f1 0), .ref (f1 1), .int 0, .int 0])), ((f1 0), .inl (cI, 27, .inl (fun _ => 0))), ((f1 1), .inl (cI, 27, .inl (fun _ => 0)))] rfl ?_
  refine g_aload_n F dX1_init_17 0 rfl ?_
  refine g_new F (in_c inX2) tyX2 tyX2_ok (gf_w F tb_61) (gf_w F tb_62) (gf_w F tb_5) (ci := 2) rfl (fs := [.null, .null, .int 0, .int 0]) (fun j hj => by rcases (show j = 0 ∨ j = 1 ∨ j = 2 ∨ j = 3 by omega) with rfl | rfl | rfl | rfl <;> rfl) (Nat.le_of_ble_eq_true rfl) (Nat.le_of_ble_eq_true rfl) dX1_init_18 (fun q2 => ?_)
  refine g_world (ws' := [(b, .inr (1, [.ref q0, .null, .int 0, .int 0, .int 0])), (q0, .inr (2, [.ref (f1 0), .ref (f1 1), .int 0, .int 0])), ((f1 0), .inl (cI, 27, .inl (fun _ => 0))), ((f1 1), .inl (cI, 27, .inl (fun _ => 0))), (q2, .inr (2, [.null, .null, .int 0, .int 0]))]) rfl ?_
  refine g_dup F dX1_init_21 rfl ?_
  refine f_bipush F 51 dX1_init_22 rfl ?_
  refine f_callC F (As := [.int (Int32.ofNat 51)]) (rest := [.ref q2, .ref b]) (k_X2_init_51 l D cI cS cZ q2) tb_64 nb_11 tb_63 tb_5 rfl hdX2_init ⟨rfl, rfl⟩ ⟨(Nat.le_of_ble_eq_true rfl), (Nat.le_of_ble_eq_true rfl)⟩ 4 rfl rfl rfl (Nat.le_of_ble_eq_true rfl) ⟨(Nat.le_of_ble_eq_true rfl), (Nat.le_of_ble_eq_true rfl)⟩ dX1_init_24 (fun f3 => ?_)
  refine g_world (ws' := [(b, .inr (1, [.ref q0, .null, .int 0, .int 0, .int 0])), (q0, .inr (2, [.ref (f1 0), .ref (f1 1), .int 0, .int 0])), ((f1 0), .inl (cI, 27, .inl (fun _ => 0))), ((f1 1), .inl (cI, 27, .inl (fun _ => 0))), (q2, .inr (2, [.ref (f3 0), .ref (f3 1), .int 0, .int 0])), ((f3 0), .inl (cI, 51, .inl (fun _ => 0))), ((f3 1), .inl (cI, 51, .inl (fun _ => 0)))]) rfl ?_
  refine g_putF F (in_c inX1) tyX1 tyX1_ok nmX1 0 rfl rfl 1 (by decide) (gf_w F tb_75) (fun _ h => h) rfl hnm rfl (tyX1_ok 1 (by decide)) rfl rfl (Nat.le_of_ble_eq_true rfl) dX1_init_27 [(b, .inr (1, [.ref q0, .ref q2, .int 0, .int 0, .int 0])), (q0, .inr (2, [.ref (f1 0), .ref (f1 1), .int 0, .int 0])), ((f1 0), .inl (cI, 27, .inl (fun _ => 0))), ((f1 1), .inl (cI, 27, .inl (fun _ => 0))), (q2, .inr (2, [.ref (f3 0), .ref (f3 1), .int 0, .int 0])), ((f3 0), .inl (cI, 51, .inl (fun _ => 0))), ((f3 1), .inl (cI, 51, .inl (fun _ => 0)))] rfl ?_
  exact g_vret F hr hlk dX1_init_30 ⟨rfl, fun n => ([q0, (f1 0), (f1 1), q2, (f3 0), (f3 1)] : List Nat).getD n 0, rfl⟩
abbrev rm_X3_init : Room := { frames := 3, cells := 21, slots := 430, locals := 53 }
set_option maxHeartbeats 4000000 in
set_option maxRecDepth 100000 in
theorem k_X3_init (l : Launch) (D : va_G) (cI cS cZ : ClassId) (b : Nat) (n : Nat) : gM l yX3_init (Cond.code yX3_init cX3_init 2 none :: tb) rm_X3_init D cls8 (tys3 cI cS cZ) [.ref b, .int (Int32.ofNat n)] [(b, .inr (3, [.int 0, .int 0, .int 0, .null, .int 0, .int 0, .int 0, .null, .null, .null, .null]))] (fun v w => v = none ∧ ∃ q : Nat → Nat, w = (b, .inr (3, [.int (Int32.ofNat n), .int 0, .int 0, .ref (q 0), .int (Int32.ofNat 1), .int 0, .int 0, .ref (q 6), .ref (q 7), .ref (q 12), .ref (q 19)])) :: [((q 0), .inr (0, [.ref (q 1), .ref (q 2), .ref (q 3), .ref (q 4), .ref (q 5), .int 0])), ((q 1), .inl (cI, 24, .inl (fun _ => 0))), ((q 2), .inl (cI, 24, .inl (fun _ => 0))), ((q 3), .inl (cI, 24, .inl (fun _ => 0))), ((q 4), .inl (cI, 24, .inl (fun _ => 0))), ((q 5), .inl (cI, 24, .inl (fun _ => 0))), ((q 6), .inl (cI, 24, .inl (fun _ => 0))), ((q 7), .inr (5, [.ref (q 8), .ref (q 9), .ref (q 10), .ref (q 11), .int 0, .int 0])), ((q 8), .inl (cI, 24, .inl (fun _ => 0))), ((q 9), .inl (cI, 24, .inl (fun _ => 0))), ((q 10), .inl (cI, 24, .inl (fun _ => 0))), ((q 11), .inl (cI, 24, .inl (fun _ => 0))), ((q 12), .inr (1, [.ref (q 13), .ref (q 16), .int 0, .int 0, .int 0])), ((q 13), .inr (2, [.ref (q 14), .ref (q 15), .int 0, .int 0])), ((q 14), .inl (cI, 27, .inl (fun _ => 0))), ((q 15), .inl (cI, 27, .inl (fun _ => 0))), ((q 16), .inr (2, [.ref (q 17), .ref (q 18), .int 0, .int 0])), ((q 17), .inl (cI, 51, .inl (fun _ => 0))), ((q 18), .inl (cI, 51, .inl (fun _ => 0))), ((q 19), .inr (4, [.int 0, .int 0, .int 0, .ref (q 20)])), ((q 20), .inl (cI, 5, .inl (fun _ => 0)))]) 21 430 := by
  refine g_head (by decide) rfl (Nat.le_of_ble_eq_true rfl) ?_
  intro p e s m args below meth cd A F hr hlk hnm
  refine g_eq rfl (L' := [(0, .ref b), (1, .int (Int32.ofNat n))]) rfl rfl rfl ?_
  refine g_aload_n F dX3_init_0 0 rfl ?_
  refine g_objInit F (gf_w F tb_20) (gf_w F tb_14) (gf_w F tb_15) dX3_init_1 (Nat.le_of_ble_eq_true rfl) (Nat.le_of_ble_eq_true rfl) ?_
  refine g_aload_n F dX3_init_4 0 rfl ?_
  refine g_iload_n F dX3_init_5 1 rfl ?_
  refine g_putF F (in_c inX3) tyX3 tyX3_ok nmX3 0 rfl rfl 0 (by decide) (gf_w F tb_97) (fun _ h => h) rfl hnm rfl (tyX3_ok 0 (by decide)) rfl rfl (Nat.le_of_ble_eq_true rfl) dX3_init_6 [(b, .inr (3, [.int (Int32.ofNat n), .int 0, .int 0, .null, .int 0, .int 0, .int 0, .null, .null, .null, .null]))] rfl ?_
  refine g_aload_n F dX3_init_9 0 rfl ?_
  refine g_new F (in_c inX0) tyX0 tyX0_ok (gf_w F tb_21) (gf_w F tb_22) (gf_w F tb_2) (ci := 0) rfl (fs := [.null, .null, .null, .null, .null, .int 0]) (fun j hj => by rcases (show j = 0 ∨ j = 1 ∨ j = 2 ∨ j = 3 ∨ j = 4 ∨ j = 5 by omega) with rfl | rfl | rfl | rfl | rfl | rfl <;> rfl) (Nat.le_of_ble_eq_true rfl) (Nat.le_of_ble_eq_true rfl) dX3_init_10 (fun q0 => ?_)
  refine g_world (ws' := [(b, .inr (3, [.int (Int32.ofNat n), .int 0, .int 0, .null, .int 0, .int 0, .int 0, .null, .null, .null, .null])), (q0, .inr (0, [.null, .null, .null, .null, .null, .int 0]))]) rfl ?_
  refine g_dup F dX3_init_13 rfl ?_
  refine f_callC F (As := []) (rest := [.ref q0, .ref b]) (k_X0_init l D cI cS cZ q0) tb_24 nb_2 tb_23 tb_2 rfl hdX0_init ⟨rfl, rfl⟩ ⟨(Nat.le_of_ble_eq_true rfl), (Nat.le_of_ble_eq_true rfl)⟩ 1 rfl rfl rfl (Nat.le_of_ble_eq_true rfl) ⟨(Nat.le_of_ble_eq_true rfl), (Nat.le_of_ble_eq_true rfl)⟩ dX3_init_14 (fun f1 => ?_)
  refine g_world (ws' := [(b, .inr (3, [.int (Int32.ofNat n), .int 0, .int 0, .null, .int 0, .int 0, .int 0, .null, .null, .null, .null])), (q0, .inr (0, [.ref (f1 0), .ref (f1 1), .ref (f1 2), .ref (f1 3), .ref (f1 4), .int 0])), ((f1 0), .inl (cI, 24, .inl (fun _ => 0))), ((f1 1), .inl (cI, 24, .inl (fun _ => 0))), ((f1 2), .inl (cI, 24, .inl (fun _ => 0))), ((f1 3), .inl (cI, 24, .inl (fun _ => 0))), ((f1 4), .inl (cI, 24, .inl (fun _ => 0)))]) rfl ?_
  refine g_putF F (in_c inX3) tyX3 tyX3_ok nmX3 0 rfl rfl 3 (by decide) (gf_w F tb_98) (fun _ h => h) rfl hnm rfl (tyX3_ok 3 (by decide)) rfl rfl (Nat.le_of_ble_eq_true rfl) dX3_init_17 [(b, .inr (3, [.int (Int32.ofNat n), .int 0, .int 0, .ref q0, .int 0, .int 0, .int 0, .null, .null, .null, .null])), (q0, .inr (0, [.ref (f1 0), .ref (f1 1), .ref (f1 2), .ref (f1 3), .ref (f1 4), .int 0])), ((f1 0), .inl (cI, 24, .inl (fun _ => 0))), ((f1 1), .inl (cI, 24, .inl (fun _ => 0))), ((f1 2), .inl (cI, 24, .inl (fun _ => 0))), ((f1 3), .inl (cI, 24, .inl (fun _ => 0))), ((f1 4), .inl (cI, 24, .inl (fun _ => 0)))] rfl ?_
  refine g_aload_n F dX3_init_20 0 rfl ?_
  refine f_iconst F 1 dX3_init_21 rfl ?_
  refine f_put F inX3 tyX3_ok nmX3 (q0 := 0) rfl rfl 4 (by decide) tb_99 rfl rfl rfl rfl (Nat.le_of_ble_eq_true rfl) dX3_init_22 (ws' := [(b, .inr (3, [.int (Int32.ofNat n), .int 0, .int 0, .ref q0, .int (Int32.ofNat 1), .int 0, .int 0, .null, .null, .null, .null])), (q0, .inr (0, [.ref (f1 0), .ref (f1 1), .ref (f1 2), .ref (f1 3), .ref (f1 4), .int 0])), ((f1 0), .inl (cI, 24, .inl (fun _ => 0))), ((f1 1), .inl (cI, 24, .inl (fun _ => 0))), ((f1 2), .inl (cI, 24, .inl (fun _ => 0))), ((f1 3), .inl (cI, 24, .inl (fun _ => 0))), ((f1 4), .inl (cI, 24, .inl (fun _ => 0)))]) rfl ?_
  refine g_aload_n F dX3_init_25 0 rfl ?_
  refine f_bipush F 24 dX3_init_26 rfl ?_
  refine g_newi F 0 rfl (gf_w F tb_38) (N := 24) (by decide) (by decide) (by decide) (Nat.le_of_ble_eq_true rfl) (Nat.le_of_ble_eq_true rfl) dX3_init_28 (fun q2 => ?_)
  refine g_world (ws' := [(b, .inr (3, [.int (Int32.ofNat n), .int 0, .int 0, .ref q0, .int (Int32.ofNat 1), .int 0, .int 0, .null, .null, .null, .null])), (q0, .inr (0, [.ref (f1 0), .ref (f1 1), .ref (f1 2), .ref (f1 3), .ref (f1 4), .int 0])), ((f1 0), .inl (cI, 24, .inl (fun _ => 0))), ((f1 1), .inl (cI, 24, .inl (fun _ => 0))), ((f1 2), .inl (cI, 24, .inl (fun _ => 0))), ((f1 3), .inl (cI, 24, .inl (fun _ => 0))), ((f1 4), .inl (cI, 24, .inl (fun _ => 0))), (q2, .inl (cI, 24, .inl (fun _ => 0)))]) rfl ?_
  refine g_putF F (in_c inX3) tyX3 tyX3_ok nmX3 0 rfl rfl 7 (by decide) (gf_w F tb_101) (fun _ h => h) rfl hnm rfl (tyX3_ok 7 (by decide)) rfl rfl (Nat.le_of_ble_eq_true rfl) dX3_init_30 [(b, .inr (3, [.int (Int32.ofNat n), .int 0, .int 0, .ref q0, .int (Int32.ofNat 1), .int 0, .int 0, .ref q2, .null, .null, .null])), (q0, .inr (0, [.ref (f1 0), .ref (f1 1), .ref (f1 2), .ref (f1 3), .ref (f1 4), .int 0])), ((f1 0), .inl (cI, 24, .inl (fun _ => 0))), ((f1 1), .inl (cI, 24, .inl (fun _ => 0))), ((f1 2), .inl (cI, 24, .inl (fun _ => 0))), ((f1 3), .inl (cI, 24, .inl (fun _ => 0))), ((f1 4), .inl (cI, 24, .inl (fun _ => 0))), (q2, .inl (cI, 24, .inl (fun _ => 0)))] rfl ?_
  refine g_aload_n F dX3_init_33 0 rfl ?_
  refine g_new F (in_c inX5) tyX5 tyX5_ok (gf_w F tb_39) (gf_w F tb_40) (gf_w F tb_3) (ci := 5) rfl (fs := [.null, .null, .null, .null, .int 0, .int 0]) (fun j hj => by rcases (show j = 0 ∨ j = 1 ∨ j = 2 ∨ j = 3 ∨ j = 4 ∨ j = 5 by omega) with rfl | rfl | rfl | rfl | rfl | rfl <;> rfl) (Nat.le_of_ble_eq_true rfl) (Nat.le_of_ble_eq_true rfl) dX3_init_34 (fun q3 => ?_)
  refine g_world (ws' := [(b, .inr (3, [.int (Int32.ofNat n), .int 0, .int 0, .ref q0, .int (Int32.ofNat 1), .int 0, .int 0, .ref q2, .null, .null, .null])), (q0, .inr (0, [.ref (f1 0), .ref (f1 1), .ref (f1 2), .ref (f1 3), .ref (f1 4), .int 0])), ((f1 0), .inl (cI, 24, .inl (fun _ => 0))), ((f1 1), .inl (cI, 24, .inl (fun _ => 0))), ((f1 2), .inl (cI, 24, .inl (fun _ => 0))), ((f1 3), .inl (cI, 24, .inl (fun _ => 0))), ((f1 4), .inl (cI, 24, .inl (fun _ => 0))), (q2, .inl (cI, 24, .inl (fun _ => 0))), (q3, .inr (5, [.null, .null, .null, .null, .int 0, .int 0]))]) rfl ?_
  refine g_dup F dX3_init_37 rfl ?_
  refine f_callC F (As := []) (rest := [.ref q3, .ref b]) (k_X5_init l D cI cS cZ q3) tb_42 nb_9 tb_41 tb_3 rfl hdX5_init ⟨rfl, rfl⟩ ⟨(Nat.le_of_ble_eq_true rfl), (Nat.le_of_ble_eq_true rfl)⟩ 8 rfl rfl rfl (Nat.le_of_ble_eq_true rfl) ⟨(Nat.le_of_ble_eq_true rfl), (Nat.le_of_ble_eq_true rfl)⟩ dX3_init_38 (fun f4 => ?_)
  refine g_world (ws' := [(b, .inr (3, [.int (Int32.ofNat n), .int 0, .int 0, .ref q0, .int (Int32.ofNat 1), .int 0, .int 0, .ref q2, .null, .null, .null])), (q0, .inr (0, [.ref (f1 0), .ref (f1 1), .ref (f1 2), .ref (f1 3), .ref (f1 4), .int 0])), ((f1 0), .inl (cI, 24, .inl (fun _ => 0))), ((f1 1), .inl (cI, 24, .inl (fun _ => 0))), ((f1 2), .inl (cI, 24, .inl (fun _ => 0))), ((f1 3), .inl (cI, 24, .inl (fun _ => 0))), ((f1 4), .inl (cI, 24, .inl (fun _ => 0))), (q2, .inl (cI, 24, .inl (fun _ => 0))), (q3, .inr (5, [.ref (f4 0), .ref (f4 1), .ref (f4 2), .ref (f4 3), .int 0, .int 0])), ((f4 0), .inl (cI, 24, .inl (fun _ => 0))), ((f4 1), .inl (cI, 24, .inl (fun _ => 0))), ((f4 2), .inl (cI, 24, .inl (fun _ => 0))), ((f4 3), .inl (cI, 24, .inl (fun _ => 0)))]) rfl ?_
  refine g_putF F (in_c inX3) tyX3 tyX3_ok nmX3 0 rfl rfl 8 (by decide) (gf_w F tb_102) (fun _ h => h) rfl hnm rfl (tyX3_ok 8 (by decide)) rfl rfl (Nat.le_of_ble_eq_true rfl) dX3_init_41 [(b, .inr (3, [.int (Int32.ofNat n), .int 0, .int 0, .ref q0, .int (Int32.ofNat 1), .int 0, .int 0, .ref q2, .ref q3, .null, .null])), (q0, .inr (0, [.ref (f1 0), .ref (f1 1), .ref (f1 2), .ref (f1 3), .ref (f1 4), .int 0])), ((f1 0), .inl (cI, 24, .inl (fun _ => 0))), ((f1 1), .inl (cI, 24, .inl (fun _ => 0))), ((f1 2), .inl (cI, 24, .inl (fun _ => 0))), ((f1 3), .inl (cI, 24, .inl (fun _ => 0))), ((f1 4), .inl (cI, 24, .inl (fun _ => 0))), (q2, .inl (cI, 24, .inl (fun _ => 0))), (q3, .inr (5, [.ref (f4 0), .ref (f4 1), .ref (f4 2), .ref (f4 3), .int 0, .int 0])), ((f4 0), .inl (cI, 24, .inl (fun _ => 0))), ((f4 1), .inl (cI, 24, .inl (fun _ => 0))), ((f4 2), .inl (cI, 24, .inl (fun _ => 0))), ((f4 3), .inl (cI, 24, .inl (fun _ => 0)))] rfl ?_
  refine g_aload_n F dX3_init_44 0 rfl ?_
  refine g_new F (in_c inX1) tyX1 tyX1_ok (gf_w F tb_56) (gf_w F tb_57) (gf_w F tb_4) (ci := 1) rfl (fs := [.null, .null, .int 0, .int 0, .int 0]) (fun j hj => by rcases (show j = 0 ∨ j = 1 ∨ j = 2 ∨ j = 3 ∨ j = 4 by omega) with rfl | rfl | rfl | rfl | rfl <;> rfl) (Nat.le_of_ble_eq_true rfl) (Nat.le_of_ble_eq_true rfl) dX3_init_45 (fun q5 => ?_)
  refine g_world (ws' := [(b, .inr (3, [.int (Int32.ofNat n), .int 0, .int 0, .ref q0, .int (Int32.ofNat 1), .int 0, .int 0, .ref q2, .ref q3, .null, .null])), (q0, .inr (0, [.ref (f1 0), .ref (f1 1), .ref (f1 2), .ref (f1 3), .ref (f1 4), .int 0])), ((f1 0), .inl (cI, 24, .inl (fun _ => 0))), ((f1 1), .inl (cI, 24, .inl (fun _ => 0))), ((f1 2), .inl (cI, 24, .inl (fun _ => 0))), ((f1 3), .inl (cI, 24, .inl (fun _ => 0))), ((f1 4), .inl (cI, 24, .inl (fun _ => 0))), (q2, .inl (cI, 24, .inl (fun _ => 0))), (q3, .inr (5, [.ref (f4 0), .ref (f4 1), .ref (f4 2), .ref (f4 3), .int 0, .int 0])), ((f4 0), .inl (cI, 24, .inl (fun _ => 0))), ((f4 1), .inl (cI, 24, .inl (fun _ => 0))), ((f4 2), .inl (cI, 24, .inl (fun _ => 0))), ((f4 3), .inl (cI, 24, .inl (fun _ => 0))), (q5, .inr (1, [.null, .null, .int 0, .int 0, .int 0]))]) rfl ?_
  refine g_dup F dX3_init_48 rfl ?_
  refine f_callC F (As := []) (rest := [.ref q5, .ref b]) (k_X1_init l D cI cS cZ q5) tb_59 nb_10 tb_58 tb_4 rfl hdX1_init ⟨rfl, rfl⟩ ⟨(Nat.le_of_ble_eq_true rfl), (Nat.le_of_ble_eq_true rfl)⟩ 13 rfl rfl rfl (Nat.le_of_ble_eq_true rfl) ⟨(Nat.le_of_ble_eq_true rfl), (Nat.le_of_ble_eq_true rfl)⟩ dX3_init_49 (fun f6 => ?_)
  refine g_world (ws' := [(b, .inr (3, [.int (Int32.ofNat n), .int 0, .int 0, .ref q0, .int (Int32.ofNat 1), .int 0, .int 0, .ref q2, .ref q3, .null, .null])), (q0, .inr (0, [.ref (f1 0), .ref (f1 1), .ref (f1 2), .ref (f1 3), .ref (f1 4), .int 0])), ((f1 0), .inl (cI, 24, .inl (fun _ => 0))), ((f1 1), .inl (cI, 24, .inl (fun _ => 0))), ((f1 2), .inl (cI, 24, .inl (fun _ => 0))), ((f1 3), .inl (cI, 24, .inl (fun _ => 0))), ((f1 4), .inl (cI, 24, .inl (fun _ => 0))), (q2, .inl (cI, 24, .inl (fun _ => 0))), (q3, .inr (5, [.ref (f4 0), .ref (f4 1), .ref (f4 2), .ref (f4 3), .int 0, .int 0])), ((f4 0), .inl (cI, 24, .inl (fun _ => 0))), ((f4 1), .inl (cI, 24, .inl (fun _ => 0))), ((f4 2), .inl (cI, 24, .inl (fun _ => 0))), ((f4 3), .inl (cI, 24, .inl (fun _ => 0))), (q5, .inr (1, [.ref (f6 0), .ref (f6 3), .int 0, .int 0, .int 0])), ((f6 0), .inr (2, [.ref (f6 1), .ref (f6 2), .int 0, .int 0])), ((f6 1), .inl (cI, 27, .inl (fun _ => 0))), ((f6 2), .inl (cI, 27, .inl (fun _ => 0))), ((f6 3), .inr (2, [.ref (f6 4), .ref (f6 5), .int 0, .int 0])), ((f6 4), .inl (cI, 51, .inl (fun _ => 0))), ((f6 5), .inl (cI, 51, .inl (fun _ => 0)))]) rfl ?_
  refine g_putF F (in_c inX3) tyX3 tyX3_ok nmX3 0 rfl rfl 9 (by decide) (gf_w F tb_103) (fun _ h => h) rfl hnm rfl (tyX3_ok 9 (by decide)) rfl rfl (Nat.le_of_ble_eq_true rfl) dX3_init_52 [(b, .inr (3, [.int (Int32.ofNat n), .int 0, .int 0, .ref q0, .int (Int32.ofNat 1), .int 0, .int 0, .ref q2, .ref q3, .ref q5, .null])), (q0, .inr (0, [.ref (f1 0), .ref (f1 1), .ref (f1 2), .ref (f1 3), .ref (f1 4), .int 0])), ((f1 0), .inl (cI, 24, .inl (fun _ => 0))), ((f1 1), .inl (cI, 24, .inl (fun _ => 0))), ((f1 2), .inl (cI, 24, .inl (fun _ => 0))), ((f1 3), .inl (cI, 24, .inl (fun _ => 0))), ((f1 4), .inl (cI, 24, .inl (fun _ => 0))), (q2, .inl (cI, 24, .inl (fun _ => 0))), (q3, .inr (5, [.ref (f4 0), .ref (f4 1), .ref (f4 2), .ref (f4 3), .int 0, .int 0])), ((f4 0), .inl (cI, 24, .inl (fun _ => 0))), ((f4 1), .inl (cI, 24, .inl (fun _ => 0))), ((f4 2), .inl (cI, 24, .inl (fun _ => 0))), ((f4 3), .inl (cI, 24, .inl (fun _ => 0))), (q5, .inr (1, [.ref (f6 0), .ref (f6 3), .int 0, .int 0, .int 0])), ((f6 0), .inr (2, [.ref (f6 1), .ref (f6 2), .int 0, .int 0])), ((f6 1), .inl (cI, 27, .inl (fun _ => 0))), ((f6 2), .inl (cI, 27, .inl (fun _ => 0))), ((f6 3), .inr (2, [.ref (f6 4), .ref (f6 5), .int 0, .int 0])), ((f6 4), .inl (cI, 51, .inl (fun _ => 0))), ((f6 5), .inl (cI, 51, .inl (fun _ => 0)))] rfl ?_
  refine g_aload_n F dX3_init_55 0 rfl ?_
  refine g_new F (in_c inX4) tyX4 tyX4_ok (gf_w F tb_84) (gf_w F tb_85) (gf_w F tb_6) (ci := 4) rfl (fs := [.int 0, .int 0, .int 0, .null]) (fun j hj => by rcases (show j = 0 ∨ j = 1 ∨ j = 2 ∨ j = 3 by omega) with rfl | rfl | rfl | rfl <;> rfl) (Nat.le_of_ble_eq_true rfl) (Nat.le_of_ble_eq_true rfl) dX3_init_56 (fun q7 => ?_)
  refine g_world (ws' := [(b, .inr (3, [.int (Int32.ofNat n), .int 0, .int 0, .ref q0, .int (Int32.ofNat 1), .int 0, .int 0, .ref q2, .ref q3, .ref q5, .null])), (q0, .inr (0, [.ref (f1 0), .ref (f1 1), .ref (f1 2), .ref (f1 3), .ref (f1 4), .int 0])), ((f1 0), .inl (cI, 24, .inl (fun _ => 0))), ((f1 1), .inl (cI, 24, .inl (fun _ => 0))), ((f1 2), .inl (cI, 24, .inl (fun _ => 0))), ((f1 3), .inl (cI, 24, .inl (fun _ => 0))), ((f1 4), .inl (cI, 24, .inl (fun _ => 0))), (q2, .inl (cI, 24, .inl (fun _ => 0))), (q3, .inr (5, [.ref (f4 0), .ref (f4 1), .ref (f4 2), .ref (f4 3), .int 0, .int 0])), ((f4 0), .inl (cI, 24, .inl (fun _ => 0))), ((f4 1), .inl (cI, 24, .inl (fun _ => 0))), ((f4 2), .inl (cI, 24, .inl (fun _ => 0))), ((f4 3), .inl (cI, 24, .inl (fun _ => 0))), (q5, .inr (1, [.ref (f6 0), .ref (f6 3), .int 0, .int 0, .int 0])), ((f6 0), .inr (2, [.ref (f6 1), .ref (f6 2), .int 0, .int 0])), ((f6 1), .inl (cI, 27, .inl (fun _ => 0))), ((f6 2), .inl (cI, 27, .inl (fun _ => 0))), ((f6 3), .inr (2, [.ref (f6 4), .ref (f6 5), .int 0, .int 0])), ((f6 4), .inl (cI, 51, .inl (fun _ => 0))), ((f6 5), .inl (cI, 51, .inl (fun _ => 0))), (q7, .inr (4, [.int 0, .int 0, .int 0, .null]))]) rfl ?_
  refine g_dup F dX3_init_59 rfl ?_
  refine f_callC F (As := []) (rest := [.ref q7, .ref b]) (k_X4_init l D cI cS cZ q7) tb_87 nb_17 tb_86 tb_6 rfl hdX4_init ⟨rfl, rfl⟩ ⟨(Nat.le_of_ble_eq_true rfl), (Nat.le_of_ble_eq_true rfl)⟩ 20 rfl rfl rfl (Nat.le_of_ble_eq_true rfl) ⟨(Nat.le_of_ble_eq_true rfl), (Nat.le_of_ble_eq_true rfl)⟩ dX3_init_60 (fun f8 => ?_)
  refine g_world (ws' := [(b, .inr (3, [.int (Int32.ofNat n), .int 0, .int 0, .ref q0, .int (Int32.ofNat 1), .int 0, .int 0, .ref q2, .ref q3, .ref q5, .null])), (q0, .inr (0, [.ref (f1 0), .ref (f1 1), .ref (f1 2), .ref (f1 3), .ref (f1 4), .int 0])), ((f1 0), .inl (cI, 24, .inl (fun _ => 0))), ((f1 1), .inl (cI, 24, .inl (fun _ => 0))), ((f1 2), .inl (cI, 24, .inl (fun _ => 0))), ((f1 3), .inl (cI, 24, .inl (fun _ => 0))), ((f1 4), .inl (cI, 24, .inl (fun _ => 0))), (q2, .inl (cI, 24, .inl (fun _ => 0))), (q3, .inr (5, [.ref (f4 0), .ref (f4 1), .ref (f4 2), .ref (f4 3), .int 0, .int 0])), ((f4 0), .inl (cI, 24, .inl (fun _ => 0))), ((f4 1), .inl (cI, 24, .inl (fun _ => 0))), ((f4 2), .inl (cI, 24, .inl (fun _ => 0))), ((f4 3), .inl (cI, 24, .inl (fun _ => 0))), (q5, .inr (1, [.ref (f6 0), .ref (f6 3), .int 0, .int 0, .int 0])), ((f6 0), .inr (2, [.ref (f6 1), .ref (f6 2), .int 0, .int 0])), ((f6 1), .inl (cI, 27, .inl (fun _ => 0))), ((f6 2), .inl (cI, 27, .inl (fun _ => 0))), ((f6 3), .inr (2, [.ref (f6 4), .ref (f6 5), .int 0, .int 0])), ((f6 4), .inl (cI, 51, .inl (fun _ => 0))), ((f6 5), .inl (cI, 51, .inl (fun _ => 0))), (q7, .inr (4, [.int 0, .int 0, .int 0, .ref (f8 0)])), ((f8 0), .inl (cI, 5, .inl (fun _ => 0)))]) rfl ?_
  refine g_putF F (in_c inX3) tyX3 tyX3_ok nmX3 0 rfl rfl 10 (by decide) (gf_w F tb_104) (fun _ h => h) rfl hnm rfl (tyX3_ok 10 (by decide)) rfl rfl (Nat.le_of_ble_eq_true rfl) dX3_init_63 [(b, .inr (3, [.int (Int32.ofNat n), .int 0, .int 0, .ref q0, .int (Int32.ofNat 1), .int 0, .int 0, .ref q2, .ref q3, .ref q5, .ref q7])), (q0, .inr (0, [.ref (f1 0), .ref (f1 1), .ref (f1 2), .ref (f1 3), .ref (f1 4), .int 0])), ((f1 0), .inl (cI, 24, .inl (fun _ => 0))), ((f1 1), .inl (cI, 24, .inl (fun _ => 0))), ((f1 2), .inl (cI, 24, .inl (fun _ => 0))), ((f1 3), .inl (cI, 24, .inl (fun _ => 0))), ((f1 4), .inl (cI, 24, .inl (fun _ => 0))), (q2, .inl (cI, 24, .inl (fun _ => 0))), (q3, .inr (5, [.ref (f4 0), .ref (f4 1), .ref (f4 2), .ref (f4 3), .int 0, .int 0])), ((f4 0), .inl (cI, 24, .inl (fun _ => 0))), ((f4 1), .inl (cI, 24, .inl (fun _ => 0))), ((f4 2), .inl (cI, 24, .inl (fun _ => 0))), ((f4 3), .inl (cI, 24, .inl (fun _ => 0))), (q5, .inr (1, [.ref (f6 0), .ref (f6 3), .int 0, .int 0, .int 0])), ((f6 0), .inr (2, [.ref (f6 1), .ref (f6 2), .int 0, .int 0])), ((f6 1), .inl (cI, 27, .inl (fun _ => 0))), ((f6 2), .inl (cI, 27, .inl (fun _ => 0))), ((f6 3), .inr (2, [.ref (f6 4), .ref (f6 5), .int 0, .int 0])), ((f6 4), .inl (cI, 51, .inl (fun _ => 0))), ((f6 5), .inl (cI, 51, .inl (fun _ => 0))), (q7, .inr (4, [.int 0, .int 0, .int 0, .ref (f8 0)])), ((f8 0), .inl (cI, 5, .inl (fun _ => 0)))] rfl ?_
  exact g_vret F hr hlk dX3_init_66 ⟨rfl, fun n => ([q0, (f1 0), (f1 1), (f1 2), (f1 3), (f1 4), q2, q3, (f4 0), (f4 1), (f4 2), (f4 3), q5, (f6 0), (f6 1), (f6 2), (f6 3), (f6 4), (f6 5), q7, (f8 0)] : List Nat).getD n 0, rfl⟩
