def r_X7_submit (a : RS) (v kd pa va vb : Nat) : Nat := if Int32.ofNat (r_X7_out a v) = 0 then (if Int32.ofNat kd < Int32.ofNat 1 then 4294967295 else (if Int32.ofNat kd ≤ Int32.ofNat 5 then (if Int32.ofNat 3 < Int32.ofNat kd then (if Int32.ofNat kd = Int32.ofNat 1 then (if Int32.ofNat vb < 0 then 4294967295 else (if Int32.ofNat vb ≤ Int32.ofNat 4 then (if Int32.ofNat kd = Int32.ofNat 2 then (if Int32.ofNat 4294967295 ≤ Int32.ofNat vb then (if Int32.ofNat kd < Int32.ofNat 4 then (if Int32.ofNat (a 0 v) = Int32.ofNat 4 then (if Int32.ofNat (a 4 v) = Int32.ofNat 24 then 4294967293 else ((w_X7_make a v kd pa va vb) 4 v)) else 4294967294) else (if Int32.ofNat vb < Int32.ofNat 1 then 4294967295 else (if Int32.ofNat (a 0 v) = Int32.ofNat 4 then (if Int32.ofNat (a 4 v) = Int32.ofNat 24 then 4294967293 else ((w_X7_make a v kd pa va vb) 4 v)) else 4294967294))) else 4294967295) else (if Int32.ofNat kd = Int32.ofNat 3 then (if Int32.ofNat 4294967295 ≤ Int32.ofNat vb then (if Int32.ofNat kd < Int32.ofNat 4 then (if Int32.ofNat (a 0 v) = Int32.ofNat 4 then (if Int32.ofNat (a 4 v) = Int32.ofNat 24 then 4294967293 else ((w_X7_make a v kd pa va vb) 4 v)) else 4294967294) else (if Int32.ofNat vb < Int32.ofNat 1 then 4294967295 else (if Int32.ofNat (a 0 v) = Int32.ofNat 4 then (if Int32.ofNat (a 4 v) = Int32.ofNat 24 then 4294967293 else ((w_X7_make a v kd pa va vb) 4 v)) else 4294967294))) else 4294967295) else (if Int32.ofNat kd < Int32.ofNat 4 then (if Int32.ofNat (a 0 v) = Int32.ofNat 4 then (if Int32.ofNat (a 4 v) = Int32.ofNat 24 then 4294967293 else ((w_X7_make a v kd pa va vb) 4 v)) else 4294967294) else (if Int32.ofNat vb < Int32.ofNat 1 then 4294967295 else (if Int32.ofNat (a 0 v) = Int32.ofNat 4 then (if Int32.ofNat (a 4 v) = Int32.ofNat 24 then 4294967293 else ((w_X7_make a v kd pa va vb) 4 v)) else 4294967294))))) else 4294967295)) else (if Int32.ofNat kd = Int32.ofNat 2 then (if Int32.ofNat 4294967295 ≤ Int32.ofNat vb then (if Int32.ofNat kd < Int32.ofNat 4 then (if Int32.ofNat (a 0 v) = Int32.ofNat 4 then (if Int32.ofNat (a 4 v) = Int32.ofNat 24 then 4294967293 else ((w_X7_make a v kd pa va vb) 4 v)) else 4294967294) else (if Int32.ofNat vb < Int32.ofNat 1 then 4294967295 else (if Int32.ofNat vb ≤ Int32.ofNat 4 then (if Int32.ofNat (a 0 v) = Int32.ofNat 4 then (if Int32.ofNat (a 4 v) = Int32.ofNat 24 then 4294967293 else ((w_X7_make a v kd pa va vb) 4 v)) else 4294967294) else 4294967295))) else 4294967295) else (if Int32.ofNat kd = Int32.ofNat 3 then (if Int32.ofNat 4294967295 ≤ Int32.ofNat vb then (if Int32.ofNat kd < Int32.ofNat 4 then (if Int32.ofNat (a 0 v) = Int32.ofNat 4 then (if Int32.ofNat (a 4 v) = Int32.ofNat 24 then 4294967293 else ((w_X7_make a v kd pa va vb) 4 v)) else 4294967294) else (if Int32.ofNat vb < Int32.ofNat 1 then 4294967295 else (if Int32.ofNat vb ≤ Int32.ofNat 4 then (if Int32.ofNat (a 0 v) = Int32.ofNat 4 then (if Int32.ofNat (a 4 v) = Int32.ofNat 24 then 4294967293 else ((w_X7_make a v kd pa va vb) 4 v)) else 4294967294) else 4294967295))) else 4294967295) else (if Int32.ofNat kd < Int32.ofNat 4 then (if Int32.ofNat (a 0 v) = Int32.ofNat 4 then (if Int32.ofNat (a 4 v) = Int32.ofNat 24 then 4294967293 else ((w_X7_make a v kd pa va vb) 4 v)) else 4294967294) else (if Int32.ofNat vb < Int32.ofNat 1 then 4294967295 else (if Int32.ofNat vb ≤ Int32.ofNat 4 then (if Int32.ofNat (a 0 v) = Int32.ofNat 4 then (if Int32.ofNat (a 4 v) = Int32.ofNat 24 then 4294967293 else ((w_X7_make a v kd pa va vb) 4 v)) else 4294967294) else 4294967295)))))) else (if Int32.ofNat (r_X7_isPath a pa) = 0 then 4294967295 else (if Int32.ofNat kd = Int32.ofNat 1 then (if Int32.ofNat vb < 0 then 4294967295 else (if Int32.ofNat vb ≤ Int32.ofNat 4 then (if Int32.ofNat kd = Int32.ofNat 2 then (if Int32.ofNat 4294967295 ≤ Int32.ofNat vb then (if Int32.ofNat kd < Int32.ofNat 4 then (if Int32.ofNat (a 0 v) = Int32.ofNat 4 then (if Int32.ofNat (a 4 v) = Int32.ofNat 24 then 4294967293 else ((w_X7_make a v kd pa va vb) 4 v)) else 4294967294) else (if Int32.ofNat vb < Int32.ofNat 1 then 4294967295 else (if Int32.ofNat (a 0 v) = Int32.ofNat 4 then (if Int32.ofNat (a 4 v) = Int32.ofNat 24 then 4294967293 else ((w_X7_make a v kd pa va vb) 4 v)) else 4294967294))) else 4294967295) else (if Int32.ofNat kd = Int32.ofNat 3 then (if Int32.ofNat 4294967295 ≤ Int32.ofNat vb then (if Int32.ofNat kd < Int32.ofNat 4 then (if Int32.ofNat (a 0 v) = Int32.ofNat 4 then (if Int32.ofNat (a 4 v) = Int32.ofNat 24 then 4294967293 else ((w_X7_make a v kd pa va vb) 4 v)) else 4294967294) else (if Int32.ofNat vb < Int32.ofNat 1 then 4294967295 else (if Int32.ofNat (a 0 v) = Int32.ofNat 4 then (if Int32.ofNat (a 4 v) = Int32.ofNat 24 then 4294967293 else ((w_X7_make a v kd pa va vb) 4 v)) else 4294967294))) else 4294967295) else (if Int32.ofNat kd < Int32.ofNat 4 then (if Int32.ofNat (a 0 v) = Int32.ofNat 4 then (if Int32.ofNat (a 4 v) = Int32.ofNat 24 then 4294967293 else ((w_X7_make a v kd pa va vb) 4 v)) else 4294967294) else (if Int32.ofNat vb < Int32.ofNat 1 then 4294967295 else (if Int32.ofNat (a 0 v) = Int32.ofNat 4 then (if Int32.ofNat (a 4 v) = Int32.ofNat 24 then 4294967293 else ((w_X7_make a v kd pa va vb) 4 v)) else 4294967294))))) else 4294967295)) else (if Int32.ofNat kd = Int32.ofNat 2 then (if Int32.ofNat 4294967295 ≤ Int32.ofNat vb then (if Int32.ofNat kd < Int32.ofNat 4 then (if Int32.ofNat (a 0 v) = Int32.ofNat 4 then (if Int32.ofNat (a 4 v) = Int32.ofNat 24 then 4294967293 else ((w_X7_make a v kd pa va vb) 4 v)) else 4294967294) else (if Int32.ofNat vb < Int32.ofNat 1 then 4294967295 else (if Int32.ofNat vb ≤ Int32.ofNat 4 then (if Int32.ofNat (a 0 v) = Int32.ofNat 4 then (if Int32.ofNat (a 4 v) = Int32.ofNat 24 then 4294967293 else ((w_X7_make a v kd pa va vb) 4 v)) else 4294967294) else 4294967295))) else 4294967295) else (if Int32.ofNat kd = Int32.ofNat 3 then (if Int32.ofNat 4294967295 ≤ Int32.ofNat vb then (if Int32.ofNat kd < Int32.ofNat 4 then (if Int32.ofNat (a 0 v) = Int32.ofNat 4 then (if Int32.ofNat (a 4 v) = Int32.ofNat 24 then 4294967293 else ((w_X7_make a v kd pa va vb) 4 v)) else 4294967294) else (if Int32.ofNat vb < Int32.ofNat 1 then 4294967295 else (if Int32.ofNat vb ≤ Int32.ofNat 4 then (if Int32.ofNat (a 0 v) = Int32.ofNat 4 then (if Int32.ofNat (a 4 v) = Int32.ofNat 24 then 4294967293 else ((w_X7_make a v kd pa va vb) 4 v)) else 4294967294) else 4294967295))) else 4294967295) else (if Int32.ofNat kd < Int32.ofNat 4 then (if Int32.ofNat (a 0 v) = Int32.ofNat 4 then (if Int32.ofNat (a 4 v) = Int32.ofNat 24 then 4294967293 else ((w_X7_make a v kd pa va vb) 4 v)) else 4294967294) else (if Int32.ofNat vb < Int32.ofNat 1 then 4294967295 else (if Int32.ofNat vb ≤ Int32.ofNat 4 then (if Int32.ofNat (a 0 v) = Int32.ofNat 4 then (if Int32.ofNat (a 4 v) = Int32.ofNat 24 then 4294967293 else ((w_X7_make a v kd pa va vb) 4 v)) else 4294967294) else 4294967295)))))))) else 4294967295)) else 4294967295
def w_X7_submit (a : RS) (v kd pa va vb : Nat) : RS := if Int32.ofNat (r_X7_out a v) = 0 then (if Int32.ofNat kd < Int32.ofNat 1 then a else (if Int32.ofNat kd ≤ Int32.ofNat 5 then (if Int32.ofNat 3 < Int32.ofNat kd then (if Int32.ofNat kd = Int32.ofNat 1 then (if Int32.ofNat vb < 0 then a else (if Int32.ofNat vb ≤ Int32.ofNat 4 then (if Int32.ofNat kd = Int32.ofNat 2 then (if Int32.ofNat 4294967295 ≤ Int32.ofNat vb then (if Int32.ofNat kd < Int32.ofNat 4 then (if Int32.ofNat (a 0 v) = Int32.ofNat 4 then (if Int32.ofNat (a 4 v) = Int32.ofNat 24 then a else (w_X7_make a v kd pa va vb)) else a) else (if Int32.ofNat vb < Int32.ofNat 1 then a else (if Int32.ofNat (a 0 v) = Int32.ofNat 4 then (if Int32.ofNat (a 4 v) = Int32.ofNat 24 then a else (w_X7_make a v kd pa va vb)) else a))) else a) else (if Int32.ofNat kd = Int32.ofNat 3 then (if Int32.ofNat 4294967295 ≤ Int32.ofNat vb then (if Int32.ofNat kd < Int32.ofNat 4 then (if Int32.ofNat (a 0 v) = Int32.ofNat 4 then (if Int32.ofNat (a 4 v) = Int32.ofNat 24 then a else (w_X7_make a v kd pa va vb)) else a) else (if Int32.ofNat vb < Int32.ofNat 1 then a else (if Int32.ofNat (a 0 v) = Int32.ofNat 4 then (if Int32.ofNat (a 4 v) = Int32.ofNat 24 then a else (w_X7_make a v kd pa va vb)) else a))) else a) else (if Int32.ofNat kd < Int32.ofNat 4 then (if Int32.ofNat (a 0 v) = Int32.ofNat 4 then (if Int32.ofNat (a 4 v) = Int32.ofNat 24 then a else (w_X7_make a v kd pa va vb)) else a) else (if Int32.ofNat vb < Int32.ofNat 1 then a else (if Int32.ofNat (a 0 v) = Int32.ofNat 4 then (if Int32.ofNat (a 4 v) = Int32.ofNat 24 then a else (w_X7_make a v kd pa va vb)) else a))))) else a)) else (if Int32.ofNat kd = Int32.ofNat 2 then (if Int32.ofNat 4294967295 ≤ Int32.ofNat vb then (if Int32.ofNat kd < Int32.ofNat 4 then (if Int32.ofNat (a 0 v) = Int32.ofNat 4 then (if Int32.ofNat (a 4 v) = Int32.ofNat 24 then a else (w_X7_make a v kd pa va vb)) else a) else (if Int32.ofNat vb < Int32.ofNat 1 then a else (if Int32.ofNat vb ≤ Int32.ofNat 4 then (if Int32.ofNat (a 0 v) = Int32.ofNat 4 then (if Int32.ofNat (a 4 v) = Int32.ofNat 24 then a else (w_X7_make a v kd pa va vb)) else a) else a))) else a) else (if Int32.ofNat kd = Int32.ofNat 3 then (if Int32.ofNat 4294967295 ≤ Int32.ofNat vb then (if Int32.ofNat kd < Int32.ofNat 4 then (if Int32.ofNat (a 0 v) = Int32.ofNat 4 then (if Int32.ofNat (a 4 v) = Int32.ofNat 24 then a else (w_X7_make a v kd pa va vb)) else a) else (if Int32.ofNat vb < Int32.ofNat 1 then a else (if Int32.ofNat vb ≤ Int32.ofNat 4 then (if Int32.ofNat (a 0 v) = Int32.ofNat 4 then (if Int32.ofNat (a 4 v) = Int32.ofNat 24 then a else (w_X7_make a v kd pa va vb)) else a) else a))) else a) else (if Int32.ofNat kd < Int32.ofNat 4 then (if Int32.ofNat (a 0 v) = Int32.ofNat 4 then (if Int32.ofNat (a 4 v) = Int32.ofNat 24 then a else (w_X7_make a v kd pa va vb)) else a) else (if Int32.ofNat vb < Int32.ofNat 1 then a else (if Int32.ofNat vb ≤ Int32.ofNat 4 then (if Int32.ofNat (a 0 v) = Int32.ofNat 4 then (if Int32.ofNat (a 4 v) = Int32.ofNat 24 then a else (w_X7_make a v kd pa va vb)) else a) else a)))))) else (if Int32.ofNat (r_X7_isPath a pa) = 0 then a else (if Int32.ofNat kd = Int32.ofNat 1 then (if Int32.ofNat vb < 0 then a else (if Int32.ofNat vb ≤ Int32.ofNat 4 then (if Int32.ofNat kd = Int32.ofNat 2 then (if Int32.ofNat 4294967295 ≤ Int32.ofNat vb then (if Int32.ofNat kd < Int32.ofNat 4 then (if Int32.ofNat (a 0 v) = Int32.ofNat 4 then (if Int32.ofNat (a 4 v) = Int32.ofNat 24 then a else (w_X7_make a v kd pa va vb)) else a) else (if Int32.ofNat vb < Int32.ofNat 1 then a else (if Int32.ofNat (a 0 v) = Int32.ofNat 4 then (if Int32.ofNat (a 4 v) = Int32.ofNat 24 then a else (w_X7_make a v kd pa va vb)) else a))) else a) else (if Int32.ofNat kd = Int32.ofNat 3 then (if Int32.ofNat 4294967295 ≤ Int32.ofNat vb then (if Int32.ofNat kd < Int32.ofNat 4 then (if Int32.ofNat (a 0 v) = Int32.ofNat 4 then (if Int32.ofNat (a 4 v) = Int32.ofNat 24 then a else (w_X7_make a v kd pa va vb)) else a) else (if Int32.ofNat vb < Int32.ofNat 1 then a else (if Int32.ofNat (a 0 v) = Int32.ofNat 4 then (if Int32.ofNat (a 4 v) = Int32.ofNat 24 then a else (w_X7_make a v kd pa va vb)) else a))) else a) else (if Int32.ofNat kd < Int32.ofNat 4 then (if Int32.ofNat (a 0 v) = Int32.ofNat 4 then (if Int32.ofNat (a 4 v) = Int32.ofNat 24 then a else (w_X7_make a v kd pa va vb)) else a) else (if Int32.ofNat vb < Int32.ofNat 1 then a else (if Int32.ofNat (a 0 v) = Int32.ofNat 4 then (if Int32.ofNat (a 4 v) = Int32.ofNat 24 then a else (w_X7_make a v kd pa va vb)) else a))))) else a)) else (if Int32.ofNat kd = Int32.ofNat 2 then (if Int32.ofNat 4294967295 ≤ Int32.ofNat vb then (if Int32.ofNat kd < Int32.ofNat 4 then (if Int32.ofNat (a 0 v) = Int32.ofNat 4 then (if Int32.ofNat (a 4 v) = Int32.ofNat 24 then a else (w_X7_make a v kd pa va vb)) else a) else (if Int32.ofNat vb < Int32.ofNat 1 then a else (if Int32.ofNat vb ≤ Int32.ofNat 4 then (if Int32.ofNat (a 0 v) = Int32.ofNat 4 then (if Int32.ofNat (a 4 v) = Int32.ofNat 24 then a else (w_X7_make a v kd pa va vb)) else a) else a))) else a) else (if Int32.ofNat kd = Int32.ofNat 3 then (if Int32.ofNat 4294967295 ≤ Int32.ofNat vb then (if Int32.ofNat kd < Int32.ofNat 4 then (if Int32.ofNat (a 0 v) = Int32.ofNat 4 then (if Int32.ofNat (a 4 v) = Int32.ofNat 24 then a else (w_X7_make a v kd pa va vb)) else a) else (if Int32.ofNat vb < Int32.ofNat 1 then a else (if Int32.ofNat vb ≤ Int32.ofNat 4 then (if Int32.ofNat (a 0 v) = Int32.ofNat 4 then (if Int32.ofNat (a 4 v) = Int32.ofNat 24 then a else (w_X7_make a v kd pa va vb)) else a) else a))) else a) else (if Int32.ofNat kd < Int32.ofNat 4 then (if Int32.ofNat (a 0 v) = Int32.ofNat 4 then (if Int32.ofNat (a 4 v) = Int32.ofNat 24 then a else (w_X7_make a v kd pa va vb)) else a) else (if Int32.ofNat vb < Int32.ofNat 1 then a else (if Int32.ofNat vb ≤ Int32.ofNat 4 then (if Int32.ofNat (a 0 v) = Int32.ofNat 4 then (if Int32.ofNat (a 4 v) = Int32.ofNat 24 then a else (w_X7_make a v kd pa va vb)) else a) else a)))))))) else a)) else a
abbrev rm_X7_submit : Room := { frames := 2, cells := 0, slots := 0, locals := 51 }
set_option maxHeartbeats 4000000 in
set_option maxRecDepth 100000 in
theorem k_X7_submit (l : Launch) (D : va_G) (cI cS cZ : ClassId) (ad : Nat → Nat) (a : RS) (v kd pa va vb : Nat) (hk : v < 4294967296) (hq : RQ a) : gN l yX7_submit (Cond.code yX7_submit cX7_submit 6 (some .int) :: tb) rm_X7_submit D cls8 (tys3 cI cS cZ) [.ref (ad 0), .int (Int32.ofNat v), .int (Int32.ofNat kd), .int (Int32.ofNat pa), .int (Int32.ofNat va), .int (Int32.ofNat vb)] (rwld cI cZ a ad) (some (.int (Int32.ofNat (r_X7_submit a v kd pa va vb)))) (rwld cI cZ (w_X7_submit a v kd pa va vb) ad) := by
  unfold gN
  refine g_head (by decide) rfl (Nat.le_of_ble_eq_true rfl) ?_
  intro p e s m args below meth cd A F hr hlk hnm
  refine g_eq rfl (L' := [(0, .ref (ad 0)), (1, .int (Int32.ofNat v)), (2, .int (Int32.ofNat kd)), (3, .int (Int32.ofNat pa)), (4, .int (Int32.ofNat va)), (5, .int (Int32.ofNat vb))]) rfl rfl rfl ?_
  refine g_iload_n F dX7_submit_0 1 rfl ?_
  refine f_callS F (av := [.int (Int32.ofNat v)]) (rest := []) (st' := [.int (Int32.ofNat (r_X7_out a v))]) (k_X7_out l D cI cS cZ ad a v) tb_430 tb_428 tb_429 tb_8 hdX7_out ⟨rfl, rfl⟩ ⟨Nat.le_of_ble_eq_true rfl, Nat.le_of_ble_eq_true rfl⟩ rw_adr rfl rfl (Nat.le_of_ble_eq_true rfl) ⟨Nat.le_refl _, Nat.le_refl _⟩ dX7_submit_1 rfl ?_
  refine g_if_ne F dX7_submit_4 (tgt := 17) rfl (fun h4 => ?_) (fun h4 => ?_)
  · refine f_iconst F 4294967295 dX7_submit_17 rfl ?_
    exact g_iret F hr hlk dX7_submit_18 ⟨congrArg (fun t => some (Value.int (Int32.ofNat t))) (Eq.symm (by unfold r_X7_submit; first | simp only [if_neg h4] | rfl)), congrArg (fun t => rwld cI cZ t ad) (Eq.symm (by unfold w_X7_submit; first | simp only [if_neg h4] | rfl))⟩
  · refine g_iload_n F dX7_submit_7 2 rfl ?_
    refine f_iconst F 1 dX7_submit_8 rfl ?_
    refine g_icmp_lt F dX7_submit_9 (tgt := 17) rfl (fun h9 => ?_) (fun h9 => ?_)
    · refine f_iconst F 4294967295 dX7_submit_17 rfl ?_
      exact g_iret F hr hlk dX7_submit_18 ⟨congrArg (fun t => some (Value.int (Int32.ofNat t))) (Eq.symm (by unfold r_X7_submit; first | simp only [if_pos h4, if_pos h9] | rfl)), congrArg (fun t => rwld cI cZ t ad) (Eq.symm (by unfold w_X7_submit; first | simp only [if_pos h4, if_pos h9] | rfl))⟩
    · refine g_iload_n F dX7_submit_12 2 rfl ?_
      refine f_iconst F 5 dX7_submit_13 rfl ?_
      refine g_icmp_le F dX7_submit_14 (tgt := 19) rfl (fun h14 => ?_) (fun h14 => ?_)
      · refine g_iload_n F dX7_submit_19 2 rfl ?_
        refine f_iconst F 3 dX7_submit_20 rfl ?_
        refine g_icmp_gt F dX7_submit_21 (tgt := 33) rfl (fun h21 => ?_) (fun h21 => ?_)
        · refine g_iload_n F dX7_submit_33 2 rfl ?_
          refine f_iconst F 1 dX7_submit_34 rfl ?_
          refine g_icmp_ne F dX7_submit_35 (tgt := 51) rfl (fun h35 => ?_) (fun h35 => ?_)
          · refine g_iload_n F dX7_submit_51 2 rfl ?_
            refine f_iconst F 2 dX7_submit_52 rfl ?_
            refine g_icmp_eq F dX7_submit_53 (tgt := 61) rfl (fun h53 => ?_) (fun h53 => ?_)
            · refine g_iload F dX7_submit_61 5 rfl ?_
              refine f_iconst F 4294967295 dX7_submit_63 rfl ?_
              refine g_icmp_ge F dX7_submit_64 (tgt := 69) rfl (fun h64 => ?_) (fun h64 => ?_)
              · refine g_iload_n F dX7_submit_69 2 rfl ?_
                refine f_iconst F 4 dX7_submit_70 rfl ?_
                refine g_icmp_lt F dX7_submit_71 (tgt := 88) rfl (fun h71 => ?_) (fun h71 => ?_)
                · refine g_aload_n F dX7_submit_88 0 rfl ?_
                  refine f_get F inX7 ql_RM rfl 0 (by decide) tb_357 rfl (v := .ref (ad 1)) rfl dX7_submit_89 ?_
                  refine g_iload_n F dX7_submit_92 1 rfl ?_
                  refine f_ald F 0 ql_0 rfl (j := v) (by have g0 := out0 h4 hk; omega) (by decide) dX7_submit_93 ?_
                  refine f_iconst F 4 dX7_submit_94 rfl ?_
                  refine g_icmp_eq F dX7_submit_95 (tgt := 101) rfl (fun h95 => ?_) (fun h95 => ?_)
                  · refine g_aload_n F dX7_submit_101 0 rfl ?_
                    refine f_get F inX7 ql_RM rfl 4 (by decide) tb_361 rfl (v := .ref (ad 5)) rfl dX7_submit_102 ?_
                    refine g_iload_n F dX7_submit_105 1 rfl ?_
                    refine f_ald F 0 ql_4 rfl (j := v) (by have g0 := out0 h4 hk; omega) (by decide) dX7_submit_106 ?_
                    refine f_bipush F 24 dX7_submit_107 rfl ?_
                    refine g_icmp_ne F dX7_submit_109 (tgt := 115) rfl (fun h109 => ?_) (fun h109 => ?_)
                    · refine g_aload_n F dX7_submit_115 0 rfl ?_
                      refine g_iload_n F dX7_submit_116 1 rfl ?_
                      refine g_iload_n F dX7_submit_117 2 rfl ?_
                      refine g_iload_n F dX7_submit_118 3 rfl ?_
                      refine g_iload F dX7_submit_119 4 rfl ?_
                      refine g_iload F dX7_submit_121 5 rfl ?_
                      refine f_callV F (As := [.int (Int32.ofNat v), .int (Int32.ofNat kd), .int (Int32.ofNat pa), .int (Int32.ofNat va), .int (Int32.ofNat vb)]) (rest := []) (st' := []) (k_X7_make l D cI cS cZ ad a v kd pa va vb (out0 h4 hk) (by have g1 := hq v (out0 h4 hk); have g2 : a 4 v ≠ 24 := fun e => h109 (by rw [e]); omega) (fun s hs => by have := hq s hs; omega)) ql_RM rfl tb_497 tb_495 tb_496 tb_618 tb_8 ⟨rfl, hdX7_make⟩ ⟨rfl, rfl⟩ ⟨Nat.le_of_ble_eq_true rfl, Nat.le_of_ble_eq_true rfl⟩ rw_adr rfl rfl (Nat.le_of_ble_eq_true rfl) ⟨Nat.le_refl _, Nat.le_refl _⟩ dX7_submit_123 rfl ?_
                      refine g_aload_n F dX7_submit_126 0 rfl ?_
                      refine f_get F inX7 ql_RM rfl 4 (by decide) tb_361 rfl (v := .ref (ad 5)) rfl dX7_submit_127 ?_
                      refine g_iload_n F dX7_submit_130 1 rfl ?_
                      refine f_ald F 0 ql_4 rfl (j := v) (by have g0 := out0 h4 hk; omega) (by decide) dX7_submit_131 ?_
                      exact g_iret F hr hlk dX7_submit_132 ⟨congrArg (fun t => some (Value.int (Int32.ofNat t))) (Eq.symm (by unfold r_X7_submit; first | simp only [if_pos h4, if_neg h9, if_pos h14, if_pos h21, if_neg h35, if_pos h53, if_pos h64, if_pos h71, if_pos h95, if_neg h109] | rfl)), congrArg (fun t => rwld cI cZ t ad) (Eq.symm (by unfold w_X7_submit; first | simp only [if_pos h4, if_neg h9, if_pos h14, if_pos h21, if_neg h35, if_pos h53, if_pos h64, if_pos h71, if_pos h95, if_neg h109] | rfl))⟩
                    · refine f_bipush F 4294967293 dX7_submit_112 rfl ?_
                      exact g_iret F hr hlk dX7_submit_114 ⟨congrArg (fun t => some (Value.int (Int32.ofNat t))) (Eq.symm (by unfold r_X7_submit; first | simp only [if_pos h4, if_neg h9, if_pos h14, if_pos h21, if_neg h35, if_pos h53, if_pos h64, if_pos h71, if_pos h95, if_pos h109] | rfl)), congrArg (fun t => rwld cI cZ t ad) (Eq.symm (by unfold w_X7_submit; first | simp only [if_pos h4, if_neg h9, if_pos h14, if_pos h21, if_neg h35, if_pos h53, if_pos h64, if_pos h71, if_pos h95, if_pos h109] | rfl))⟩
                  · refine f_bipush F 4294967294 dX7_submit_98 rfl ?_
                    exact g_iret F hr hlk dX7_submit_100 ⟨congrArg (fun t => some (Value.int (Int32.ofNat t))) (Eq.symm (by unfold r_X7_submit; first | simp only [if_pos h4, if_neg h9, if_pos h14, if_pos h21, if_neg h35, if_pos h53, if_pos h64, if_pos h71, if_neg h95] | rfl)), congrArg (fun t => rwld cI cZ t ad) (Eq.symm (by unfold w_X7_submit; first | simp only [if_pos h4, if_neg h9, if_pos h14, if_pos h21, if_neg h35, if_pos h53, if_pos h64, if_pos h71, if_neg h95] | rfl))⟩
                · refine g_iload F dX7_submit_74 5 rfl ?_
                  refine f_iconst F 1 dX7_submit_76 rfl ?_
                  refine g_icmp_lt F dX7_submit_77 (tgt := 86) rfl (fun h77 => ?_) (fun h77 => ?_)
                  · refine f_iconst F 4294967295 dX7_submit_86 rfl ?_
                    exact g_iret F hr hlk dX7_submit_87 ⟨congrArg (fun t => some (Value.int (Int32.ofNat t))) (Eq.symm (by unfold r_X7_submit; first | simp only [if_pos h4, if_neg h9, if_pos h14, if_pos h21, if_neg h35, if_pos h53, if_pos h64, if_neg h71, if_pos h77] | rfl)), congrArg (fun t => rwld cI cZ t ad) (Eq.symm (by unfold w_X7_submit; first | simp only [if_pos h4, if_neg h9, if_pos h14, if_pos h21, if_neg h35, if_pos h53, if_pos h64, if_neg h71, if_pos h77] | rfl))⟩
                  · refine g_iload F dX7_submit_80 5 rfl ?_
                    refine f_iconst F 4 dX7_submit_82 rfl ?_
                    refine g_icmp_le F dX7_submit_83 (tgt := 88) rfl (fun h83 => ?_) (fun h83 => ?_)
                    · refine g_aload_n F dX7_submit_88 0 rfl ?_
                      refine f_get F inX7 ql_RM rfl 0 (by decide) tb_357 rfl (v := .ref (ad 1)) rfl dX7_submit_89 ?_
                      refine g_iload_n F dX7_submit_92 1 rfl ?_
                      refine f_ald F 0 ql_0 rfl (j := v) (by have g0 := out0 h4 hk; omega) (by decide) dX7_submit_93 ?_
                      refine f_iconst F 4 dX7_submit_94 rfl ?_
                      refine g_icmp_eq F dX7_submit_95 (tgt := 101) rfl (fun h95 => ?_) (fun h95 => ?_)
                      · refine g_aload_n F dX7_submit_101 0 rfl ?_
                        refine f_get F inX7 ql_RM rfl 4 (by decide) tb_361 rfl (v := .ref (ad 5)) rfl dX7_submit_102 ?_
                        refine g_iload_n F dX7_submit_105 1 rfl ?_
                        refine f_ald F 0 ql_4 rfl (j := v) (by have g0 := out0 h4 hk; omega) (by decide) dX7_submit_106 ?_
                        refine f_bipush F 24 dX7_submit_107 rfl ?_
                        refine g_icmp_ne F dX7_submit_109 (tgt := 115) rfl (fun h109 => ?_) (fun h109 => ?_)
                        · refine g_aload_n F dX7_submit_115 0 rfl ?_
                          refine g_iload_n F dX7_submit_116 1 rfl ?_
                          refine g_iload_n F dX7_submit_117 2 rfl ?_
                          refine g_iload_n F dX7_submit_118 3 rfl ?_
                          refine g_iload F dX7_submit_119 4 rfl ?_
                          refine g_iload F dX7_submit_121 5 rfl ?_
                          refine f_callV F (As := [.int (Int32.ofNat v), .int (Int32.ofNat kd), .int (Int32.ofNat pa), .int (Int32.ofNat va), .int (Int32.ofNat vb)]) (rest := []) (st' := []) (k_X7_make l D cI cS cZ ad a v kd pa va vb (out0 h4 hk) (by have g1 := hq v (out0 h4 hk); have g2 : a 4 v ≠ 24 := fun e => h109 (by rw [e]); omega) (fun s hs => by have := hq s hs; omega)) ql_RM rfl tb_497 tb_495 tb_496 tb_618 tb_8 ⟨rfl, hdX7_make⟩ ⟨rfl, rfl⟩ ⟨Nat.le_of_ble_eq_true rfl, Nat.le_of_ble_eq_true rfl⟩ rw_adr rfl rfl (Nat.le_of_ble_eq_true rfl) ⟨Nat.le_refl _, Nat.le_refl _⟩ dX7_submit_123 rfl ?_
                          refine g_aload_n F dX7_submit_126 0 rfl ?_
                          refine f_get F inX7 ql_RM rfl 4 (by decide) tb_361 rfl (v := .ref (ad 5)) rfl dX7_submit_127 ?_
                          refine g_iload_n F dX7_submit_130 1 rfl ?_
                          refine f_ald F 0 ql_4 rfl (j := v) (by have g0 := out0 h4 hk; omega) (by decide) dX7_submit_131 ?_
                          exact g_iret F hr hlk dX7_submit_132 ⟨congrArg (fun t => some (Value.int (Int32.ofNat t))) (Eq.symm (by unfold r_X7_submit; first | simp only [if_pos h4, if_neg h9, if_pos h14, if_pos h21, if_neg h35, if_pos h53, if_pos h64, if_neg h71, if_neg h77, if_pos h83, if_pos h95, if_neg h109] | rfl)), congrArg (fun t => rwld cI cZ t ad) (Eq.symm (by unfold w_X7_submit; first | simp only [if_pos h4, if_neg h9, if_pos h14, if_pos h21, if_neg h35, if_pos h53, if_pos h64, if_neg h71, if_neg h77, if_pos h83, if_pos h95, if_neg h109] | rfl))⟩
                        · refine f_bipush F 4294967293 dX7_submit_112 rfl ?_
                          exact g_iret F hr hlk dX7_submit_114 ⟨congrArg (fun t => some (Value.int (Int32.ofNat t))) (Eq.symm (by unfold r_X7_submit; first | simp only [if_pos h4, if_neg h9, if_pos h14, if_pos h21, if_neg h35, if_pos h53, if_pos h64, if_neg h71, if_neg h77, if_pos h83, if_pos h95, if_pos h109] | rfl)), congrArg (fun t => rwld cI cZ t ad) (Eq.symm (by unfold w_X7_submit; first | simp only [if_pos h4, if_neg h9, if_pos h14, if_pos h21, if_neg h35, if_pos h53, if_pos h64, if_neg h71, if_neg h77, if_pos h83, if_pos h95, if_pos h109] | rfl))⟩
                      · refine f_bipush F 4294967294 dX7_submit_98 rfl ?_
                        exact g_iret F hr hlk dX7_submit_100 ⟨congrArg (fun t => some (Value.int (Int32.ofNat t))) (Eq.symm (by unfold r_X7_submit; first | simp only [if_pos h4, if_neg h9, if_pos h14, if_pos h21, if_neg h35, if_pos h53, if_pos h64, if_neg h71, if_neg h77, if_pos h83, if_neg h95] | rfl)), congrArg (fun t => rwld cI cZ t ad) (Eq.symm (by unfold w_X7_submit; first | simp only [if_pos h4, if_neg h9, if_pos h14, if_pos h21, if_neg h35, if_pos h53, if_pos h64, if_neg h71, if_neg h77, if_pos h83, if_neg h95] | rfl))⟩
                    · refine f_iconst F 4294967295 dX7_submit_86 rfl ?_
                      exact g_iret F hr hlk dX7_submit_87 ⟨congrArg (fun t => some (Value.int (Int32.ofNat t))) (Eq.symm (by unfold r_X7_submit; first | simp only [if_pos h4, if_neg h9, if_pos h14, if_pos h21, if_neg h35, if_pos h53, if_pos h64, if_neg h71, if_neg h77, if_neg h83] | rfl)), congrArg (fun t => rwld cI cZ t ad) (Eq.symm (by unfold w_X7_submit; first | simp only [if_pos h4, if_neg h9, if_pos h14, if_pos h21, if_neg h35, if_pos h53, if_pos h64, if_neg h71, if_neg h77, if_neg h83] | rfl))⟩
              · refine f_iconst F 4294967295 dX7_submit_67 rfl ?_
                exact g_iret F hr hlk dX7_submit_68 ⟨congrArg (fun t => some (Value.int (Int32.ofNat t))) (Eq.symm (by unfold r_X7_submit; first | simp only [if_pos h4, if_neg h9, if_pos h14, if_pos h21, if_neg h35, if_pos h53, if_neg h64] | rfl)), congrArg (fun t => rwld cI cZ t ad) (Eq.symm (by unfold w_X7_submit; first | simp only [if_pos h4, if_neg h9, if_pos h14, if_pos h21, if_neg h35, if_pos h53, if_neg h64] | rfl))⟩
            · refine g_iload_n F dX7_submit_56 2 rfl ?_
              refine f_iconst F 3 dX7_submit_57 rfl ?_
              refine g_icmp_ne F dX7_submit_58 (tgt := 69) rfl (fun h58 => ?_) (fun h58 => ?_)
              · refine g_iload_n F dX7_submit_69 2 rfl ?_
                refine f_iconst F 4 dX7_submit_70 rfl ?_
                refine g_icmp_lt F dX7_submit_71 (tgt := 88) rfl (fun h71 => ?_) (fun h71 => ?_)
                · refine g_aload_n F dX7_submit_88 0 rfl ?_
                  refine f_get F inX7 ql_RM rfl 0 (by decide) tb_357 rfl (v := .ref (ad 1)) rfl dX7_submit_89 ?_
                  refine g_iload_n F dX7_submit_92 1 rfl ?_
                  refine f_ald F 0 ql_0 rfl (j := v) (by have g0 := out0 h4 hk; omega) (by decide) dX7_submit_93 ?_
                  refine f_iconst F 4 dX7_submit_94 rfl ?_
                  refine g_icmp_eq F dX7_submit_95 (tgt := 101) rfl (fun h95 => ?_) (fun h95 => ?_)
                  · refine g_aload_n F dX7_submit_101 0 rfl ?_
                    refine f_get F inX7 ql_RM rfl 4 (by decide) tb_361 rfl (v := .ref (ad 5)) rfl dX7_submit_102 ?_
                    refine g_iload_n F dX7_submit_105 1 rfl ?_
                    refine f_ald F 0 ql_4 rfl (j := v) (by have g0 := out0 h4 hk; omega) (by decide) dX7_submit_106 ?_
                    refine f_bipush F 24 dX7_submit_107 rfl ?_
                    refine g_icmp_ne F dX7_submit_109 (tgt := 115) rfl (fun h109 => ?_) (fun h109 => ?_)
                    · refine g_aload_n F dX7_submit_115 0 rfl ?_
                      refine g_iload_n F dX7_submit_116 1 rfl ?_
                      refine g_iload_n F dX7_submit_117 2 rfl ?_
                      refine g_iload_n F dX7_submit_118 3 rfl ?_
                      refine g_iload F dX7_submit_119 4 rfl ?_
                      refine g_iload F dX7_submit_121 5 rfl ?_
                      refine f_callV F (As := [.int (Int32.ofNat v), .int (Int32.ofNat kd), .int (Int32.ofNat pa), .int (Int32.ofNat va), .int (Int32.ofNat vb)]) (rest := []) (st' := []) (k_X7_make l D cI cS cZ ad a v kd pa va vb (out0 h4 hk) (by have g1 := hq v (out0 h4 hk); have g2 : a 4 v ≠ 24 := fun e => h109 (by rw [e]); omega) (fun s hs => by have := hq s hs; omega)) ql_RM rfl tb_497 tb_495 tb_496 tb_618 tb_8 ⟨rfl, hdX7_make⟩ ⟨rfl, rfl⟩ ⟨Nat.le_of_ble_eq_true rfl, Nat.le_of_ble_eq_true rfl⟩ rw_adr rfl rfl (Nat.le_of_ble_eq_true rfl) ⟨Nat.le_refl _, Nat.le_refl _⟩ dX7_submit_123 rfl ?_
                      refine g_aload_n F dX7_submit_126 0 rfl ?_
                      refine f_get F inX7 ql_RM rfl 4 (by decide) tb_361 rfl (v := .ref (ad 5)) rfl dX7_submit_127 ?_
                      refine g_iload_n F dX7_submit_130 1 rfl ?_
                      refine f_ald F 0 ql_4 rfl (j := v) (by have g0 := out0 h4 hk; omega) (by decide) dX7_submit_131 ?_
                      exact g_iret F hr hlk dX7_submit_132 ⟨congrArg (fun t => some (Value.int (Int32.ofNat t))) (Eq.symm (by unfold r_X7_submit; first | simp only [if_pos h4, if_neg h9, if_pos h14, if_pos h21, if_neg h35, if_neg h53, if_neg h58, if_pos h71, if_pos h95, if_neg h109] | rfl)), congrArg (fun t => rwld cI cZ t ad) (Eq.symm (by unfold w_X7_submit; first | simp only [if_pos h4, if_neg h9, if_pos h14, if_pos h21, if_neg h35, if_neg h53, if_neg h58, if_pos h71, if_pos h95, if_neg h109] | rfl))⟩
                    · refine f_bipush F 4294967293 dX7_submit_112 rfl ?_
                      exact g_iret F hr hlk dX7_submit_114 ⟨congrArg (fun t => some (Value.int (Int32.ofNat t))) (Eq.symm (by unfold r_X7_submit; first | simp only [if_pos h4, if_neg h9, if_pos h14, if_pos h21, if_neg h35, if_neg h53, if_neg h58, if_pos h71, if_pos h95, if_pos h109] | rfl)), congrArg (fun t => rwld cI cZ t ad) (Eq.symm (by unfold w_X7_submit; first | simp only [if_pos h4, if_neg h9, if_pos h14, if_pos h21, if_neg h35, if_neg h53, if_neg h58, if_pos h71, if_pos h95, if_pos h109] | rfl))⟩
                  · refine f_bipush F 4294967294 dX7_submit_98 rfl ?_
                    exact g_iret F hr hlk dX7_submit_100 ⟨congrArg (fun t => some (Value.int (Int32.ofNat t))) (Eq.symm (by unfold r_X7_submit; first | simp only [if_pos h4, if_neg h9, if_pos h14, if_pos h21, if_neg h35, if_neg h53, if_neg h58, if_pos h71, if_neg h95] | rfl)), congrArg (fun t => rwld cI cZ t ad) (Eq.symm (by unfold w_X7_submit; first | simp only [if_pos h4, if_neg h9, if_pos h14, if_pos h21, if_neg h35, if_neg h53, if_neg h58, if_pos h71, if_neg h95] | rfl))⟩
                · refine g_iload F dX7_submit_74 5 rfl ?_
                  refine f_iconst F 1 dX7_submit_76 rfl ?_
                  refine g_icmp_lt F dX7_submit_77 (tgt := 86) rfl (fun h77 => ?_) (fun h77 => ?_)
                  · refine f_iconst F 4294967295 dX7_submit_86 rfl ?_
                    exact g_iret F hr hlk dX7_submit_87 ⟨congrArg (fun t => some (Value.int (Int32.ofNat t))) (Eq.symm (by unfold r_X7_submit; first | simp only [if_pos h4, if_neg h9, if_pos h14, if_pos h21, if_neg h35, if_neg h53, if_neg h58, if_neg h71, if_pos h77] | rfl)), congrArg (fun t => rwld cI cZ t ad) (Eq.symm (by unfold w_X7_submit; first | simp only [if_pos h4, if_neg h9, if_pos h14, if_pos h21, if_neg h35, if_neg h53, if_neg h58, if_neg h71, if_pos h77] | rfl))⟩
                  · refine g_iload F dX7_submit_80 5 rfl ?_
                    refine f_iconst F 4 dX7_submit_82 rfl ?_
                    refine g_icmp_le F dX7_submit_83 (tgt := 88) rfl (fun h83 => ?_) (fun h83 => ?_)
                    · refine g_aload_n F dX7_submit_88 0 rfl ?_
                      refine f_get F inX7 ql_RM rfl 0 (by decide) tb_357 rfl (v := .ref (ad 1)) rfl dX7_submit_89 ?_
                      refine g_iload_n F dX7_submit_92 1 rfl ?_
                      refine f_ald F 0 ql_0 rfl (j := v) (by have g0 := out0 h4 hk; omega) (by decide) dX7_submit_93 ?_
                      refine f_iconst F 4 dX7_submit_94 rfl ?_
                      refine g_icmp_eq F dX7_submit_95 (tgt := 101) rfl (fun h95 => ?_) (fun h95 => ?_)
                      · refine g_aload_n F dX7_submit_101 0 rfl ?_
                        refine f_get F inX7 ql_RM rfl 4 (by decide) tb_361 rfl (v := .ref (ad 5)) rfl dX7_submit_102 ?_
                        refine g_iload_n F dX7_submit_105 1 rfl ?_
                        refine f_ald F 0 ql_4 rfl (j := v) (by have g0 := out0 h4 hk; omega) (by decide) dX7_submit_106 ?_
                        refine f_bipush F 24 dX7_submit_107 rfl ?_
                        refine g_icmp_ne F dX7_submit_109 (tgt := 115) rfl (fun h109 => ?_) (fun h109 => ?_)
                        · refine g_aload_n F dX7_submit_115 0 rfl ?_
                          refine g_iload_n F dX7_submit_116 1 rfl ?_
                          refine g_iload_n F dX7_submit_117 2 rfl ?_
                          refine g_iload_n F dX7_submit_118 3 rfl ?_
                          refine g_iload F dX7_submit_119 4 rfl ?_
                          refine g_iload F dX7_submit_121 5 rfl ?_
                          refine f_callV F (As := [.int (Int32.ofNat v), .int (Int32.ofNat kd), .int (Int32.ofNat pa), .int (Int32.ofNat va), .int (Int32.ofNat vb)]) (rest := []) (st' := []) (k_X7_make l D cI cS cZ ad a v kd pa va vb (out0 h4 hk) (by have g1 := hq v (out0 h4 hk); have g2 : a 4 v ≠ 24 := fun e => h109 (by rw [e]); omega) (fun s hs => by have := hq s hs; omega)) ql_RM rfl tb_497 tb_495 tb_496 tb_618 tb_8 ⟨rfl, hdX7_make⟩ ⟨rfl, rfl⟩ ⟨Nat.le_of_ble_eq_true rfl, Nat.le_of_ble_eq_true rfl⟩ rw_adr rfl rfl (Nat.le_of_ble_eq_true rfl) ⟨Nat.le_refl _, Nat.le_refl _⟩ dX7_submit_123 rfl ?_
                          refine g_aload_n F dX7_submit_126 0 rfl ?_
                          refine f_get F inX7 ql_RM rfl 4 (by decide) tb_361 rfl (v := .ref (ad 5)) rfl dX7_submit_127 ?_
                          refine g_iload_n F dX7_submit_130 1 rfl ?_
                          refine f_ald F 0 ql_4 rfl (j := v) (by have g0 := out0 h4 hk; omega) (by decide) dX7_submit_131 ?_
                          exact g_iret F hr hlk dX7_submit_132 ⟨congrArg (fun t => some (Value.int (Int32.ofNat t))) (Eq.symm (by unfold r_X7_submit; first | simp only [if_pos h4, if_neg h9, if_pos h14, if_pos h21, if_neg h35, if_neg h53, if_neg h58, if_neg h71, if_neg h77, if_pos h83, if_pos h95, if_neg h109] | rfl)), congrArg (fun t => rwld cI cZ t ad) (Eq.symm (by unfold w_X7_submit; first | simp only [if_pos h4, if_neg h9, if_pos h14, if_pos h21, if_neg h35, if_neg h53, if_neg h58, if_neg h71, if_neg h77, if_pos h83, if_pos h95, if_neg h109] | rfl))⟩
                        · refine f_bipush F 4294967293 dX7_submit_112 rfl ?_
                          exact g_iret F hr hlk dX7_submit_114 ⟨congrArg (fun t => some (Value.int (Int32.ofNat t))) (Eq.symm (by unfold r_X7_submit; first | simp only [if_pos h4, if_neg h9, if_pos h14, if_pos h21, if_neg h35, if_neg h53, if_neg h58, if_neg h71, if_neg h77, if_pos h83, if_pos h95, if_pos h109] | rfl)), congrArg (fun t => rwld cI cZ t ad) (Eq.symm (by unfold w_X7_submit; first | simp only [if_pos h4, if_neg h9, if_pos h14, if_pos h21, if_neg h35, if_neg h53, if_neg h58, if_neg h71, if_neg h77, if_pos h83, if_pos h95, if_pos h109] | rfl))⟩
                      · refine f_bipush F 4294967294 dX7_submit_98 rfl ?_
                        exact g_iret F hr hlk dX7_submit_100 ⟨congrArg (fun t => some (Value.int (Int32.ofNat t))) (Eq.symm (by unfold r_X7_submit; first | simp only [if_pos h4, if_neg h9, if_pos h14, if_pos h21, if_neg h35, if_neg h53, if_neg h58, if_neg h71, if_neg h77, if_pos h83, if_neg h95] | rfl)), congrArg (fun t => rwld cI cZ t ad) (Eq.symm (by unfold w_X7_submit; first | simp only [if_pos h4, if_neg h9, if_pos h14, if_pos h21, if_neg h35, if_neg h53, if_neg h58, if_neg h71, if_neg h77, if_pos h83, if_neg h95] | rfl))⟩
                    · refine f_iconst F 4294967295 dX7_submit_86 rfl ?_
                      exact g_iret F hr hlk dX7_submit_87 ⟨congrArg (fun t => some (Value.int (Int32.ofNat t))) (Eq.symm (by unfold r_X7_submit; first | simp only [if_pos h4, if_neg h9, if_pos h14, if_pos h21, if_neg h35, if_neg h53, if_neg h58, if_neg h71, if_neg h77, if_neg h83] | rfl)), congrArg (fun t => rwld cI cZ t ad) (Eq.symm (by unfold w_X7_submit; first | simp only [if_pos h4, if_neg h9, if_pos h14, if_pos h21, if_neg h35, if_neg h53, if_neg h58, if_neg h71, if_neg h77, if_neg h83] | rfl))⟩
              · refine g_iload F dX7_submit_61 5 rfl ?_
                refine f_iconst F 4294967295 dX7_submit_63 rfl ?_
                refine g_icmp_ge F dX7_submit_64 (tgt := 69) rfl (fun h64 => ?_) (fun h64 => ?_)
                · refine g_iload_n F dX7_submit_69 2 rfl ?_
                  refine f_iconst F 4 dX7_submit_70 rfl ?_
                  refine g_icmp_lt F dX7_submit_71 (tgt := 88) rfl (fun h71 => ?_) (fun h71 => ?_)
                  · refine g_aload_n F dX7_submit_88 0 rfl ?_
                    refine f_get F inX7 ql_RM rfl 0 (by decide) tb_357 rfl (v := .ref (ad 1)) rfl dX7_submit_89 ?_
                    refine g_iload_n F dX7_submit_92 1 rfl ?_
                    refine f_ald F 0 ql_0 rfl (j := v) (by have g0 := out0 h4 hk; omega) (by decide) dX7_submit_93 ?_
                    refine f_iconst F 4 dX7_submit_94 rfl ?_
                    refine g_icmp_eq F dX7_submit_95 (tgt := 101) rfl (fun h95 => ?_) (fun h95 => ?_)
                    · refine g_aload_n F dX7_submit_101 0 rfl ?_
                      refine f_get F inX7 ql_RM rfl 4 (by decide) tb_361 rfl (v := .ref (ad 5)) rfl dX7_submit_102 ?_
                      refine g_iload_n F dX7_submit_105 1 rfl ?_
                      refine f_ald F 0 ql_4 rfl (j := v) (by have g0 := out0 h4 hk; omega) (by decide) dX7_submit_106 ?_
                      refine f_bipush F 24 dX7_submit_107 rfl ?_
                      refine g_icmp_ne F dX7_submit_109 (tgt := 115) rfl (fun h109 => ?_) (fun h109 => ?_)
                      · refine g_aload_n F dX7_submit_115 0 rfl ?_
                        refine g_iload_n F dX7_submit_116 1 rfl ?_
                        refine g_iload_n F dX7_submit_117 2 rfl ?_
                        refine g_iload_n F dX7_submit_118 3 rfl ?_
                        refine g_iload F dX7_submit_119 4 rfl ?_
                        refine g_iload F dX7_submit_121 5 rfl ?_
                        refine f_callV F (As := [.int (Int32.ofNat v), .int (Int32.ofNat kd), .int (Int32.ofNat pa), .int (Int32.ofNat va), .int (Int32.ofNat vb)]) (rest := []) (st' := []) (k_X7_make l D cI cS cZ ad a v kd pa va vb (out0 h4 hk) (by have g1 := hq v (out0 h4 hk); have g2 : a 4 v ≠ 24 := fun e => h109 (by rw [e]); omega) (fun s hs => by have := hq s hs; omega)) ql_RM rfl tb_497 tb_495 tb_496 tb_618 tb_8 ⟨rfl, hdX7_make⟩ ⟨rfl, rfl⟩ ⟨Nat.le_of_ble_eq_true rfl, Nat.le_of_ble_eq_true rfl⟩ rw_adr rfl rfl (Nat.le_of_ble_eq_true rfl) ⟨Nat.le_refl _, Nat.le_refl _⟩ dX7_submit_123 rfl ?_
                        refine g_aload_n F dX7_submit_126 0 rfl ?_
                        refine f_get F inX7 ql_RM rfl 4 (by decide) tb_361 rfl (v := .ref (ad 5)) rfl dX7_submit_127 ?_
                        refine g_iload_n F dX7_submit_130 1 rfl ?_
                        refine f_ald F 0 ql_4 rfl (j := v) (by have g0 := out0 h4 hk; omega) (by decide) dX7_submit_131 ?_
                        exact g_iret F hr hlk dX7_submit_132 ⟨congrArg (fun t => some (Value.int (Int32.ofNat t))) (Eq.symm (by unfold r_X7_submit; first | simp only [if_pos h4, if_neg h9, if_pos h14, if_pos h21, if_neg h35, if_neg h53, if_pos h58, if_pos h64, if_pos h71, if_pos h95, if_neg h109] | rfl)), congrArg (fun t => rwld cI cZ t ad) (Eq.symm (by unfold w_X7_submit; first | simp only [if_pos h4, if_neg h9, if_pos h14, if_pos h21, if_neg h35, if_neg h53, if_pos h58, if_pos h64, if_pos h71, if_pos h95, if_neg h109] | rfl))⟩
                      · refine f_bipush F 4294967293 dX7_submit_112 rfl ?_
                        exact g_iret F hr hlk dX7_submit_114 ⟨congrArg (fun t => some (Value.int (Int32.ofNat t))) (Eq.symm (by unfold r_X7_submit; first | simp only [if_pos h4, if_neg h9, if_pos h14, if_pos h21, if_neg h35, if_neg h53, if_pos h58, if_pos h64, if_pos h71, if_pos h95, if_pos h109] | rfl)), congrArg (fun t => rwld cI cZ t ad) (Eq.symm (by unfold w_X7_submit; first | simp only [if_pos h4, if_neg h9, if_pos h14, if_pos h21, if_neg h35, if_neg h53, if_pos h58, if_pos h64, if_pos h71, if_pos h95, if_pos h109] | rfl))⟩
                    · refine f_bipush F 4294967294 dX7_submit_98 rfl ?_
                      exact g_iret F hr hlk dX7_submit_100 ⟨congrArg (fun t => some (Value.int (Int32.ofNat t))) (Eq.symm (by unfold r_X7_submit; first | simp only [if_pos h4, if_neg h9, if_pos h14, if_pos h21, if_neg h35, if_neg h53, if_pos h58, if_pos h64, if_pos h71, if_neg h95] | rfl)), congrArg (fun t => rwld cI cZ t ad) (Eq.symm (by unfold w_X7_submit; first | simp only [if_pos h4, if_neg h9, if_pos h14, if_pos h21, if_neg h35, if_neg h53, if_pos h58, if_pos h64, if_pos h71, if_neg h95] | rfl))⟩
                  · refine g_iload F dX7_submit_74 5 rfl ?_
                    refine f_iconst F 1 dX7_submit_76 rfl ?_
                    refine g_icmp_lt F dX7_submit_77 (tgt := 86) rfl (fun h77 => ?_) (fun h77 => ?_)
                    · refine f_iconst F 4294967295 dX7_submit_86 rfl ?_
                      exact g_iret F hr hlk dX7_submit_87 ⟨congrArg (fun t => some (Value.int (Int32.ofNat t))) (Eq.symm (by unfold r_X7_submit; first | simp only [if_pos h4, if_neg h9, if_pos h14, if_pos h21, if_neg h35, if_neg h53, if_pos h58, if_pos h64, if_neg h71, if_pos h77] | rfl)), congrArg (fun t => rwld cI cZ t ad) (Eq.symm (by unfold w_X7_submit; first | simp only [if_pos h4, if_neg h9, if_pos h14, if_pos h21, if_neg h35, if_neg h53, if_pos h58, if_pos h64, if_neg h71, if_pos h77] | rfl))⟩
                    · refine g_iload F dX7_submit_80 5 rfl ?_
                      refine f_iconst F 4 dX7_submit_82 rfl ?_
                      refine g_icmp_le F dX7_submit_83 (tgt := 88) rfl (fun h83 => ?_) (fun h83 => ?_)
                      · refine g_aload_n F dX7_submit_88 0 rfl ?_
                        refine f_get F inX7 ql_RM rfl 0 (by decide) tb_357 rfl (v := .ref (ad 1)) rfl dX7_submit_89 ?_
                        refine g_iload_n F dX7_submit_92 1 rfl ?_
                        refine f_ald F 0 ql_0 rfl (j := v) (by have g0 := out0 h4 hk; omega) (by decide) dX7_submit_93 ?_
                        refine f_iconst F 4 dX7_submit_94 rfl ?_
                        refine g_icmp_eq F dX7_submit_95 (tgt := 101) rfl (fun h95 => ?_) (fun h95 => ?_)
                        · refine g_aload_n F dX7_submit_101 0 rfl ?_
                          refine f_get F inX7 ql_RM rfl 4 (by decide) tb_361 rfl (v := .ref (ad 5)) rfl dX7_submit_102 ?_
                          refine g_iload_n F dX7_submit_105 1 rfl ?_
                          refine f_ald F 0 ql_4 rfl (j := v) (by have g0 := out0 h4 hk; omega) (by decide) dX7_submit_106 ?_
                          refine f_bipush F 24 dX7_submit_107 rfl ?_
                          refine g_icmp_ne F dX7_submit_109 (tgt := 115) rfl (fun h109 => ?_) (fun h109 => ?_)
                          · refine g_aload_n F dX7_submit_115 0 rfl ?_
                            refine g_iload_n F dX7_submit_116 1 rfl ?_
                            refine g_iload_n F dX7_submit_117 2 rfl ?_
                            refine g_iload_n F dX7_submit_118 3 rfl ?_
                            refine g_iload F dX7_submit_119 4 rfl ?_
                            refine g_iload F dX7_submit_121 5 rfl ?_
                            refine f_callV F (As := [.int (Int32.ofNat v), .int (Int32.ofNat kd), .int (Int32.ofNat pa), .int (Int32.ofNat va), .int (Int32.ofNat vb)]) (rest := []) (st' := []) (k_X7_make l D cI cS cZ ad a v kd pa va vb (out0 h4 hk) (by have g1 := hq v (out0 h4 hk); have g2 : a 4 v ≠ 24 := fun e => h109 (by rw [e]); omega) (fun s hs => by have := hq s hs; omega)) ql_RM rfl tb_497 tb_495 tb_496 tb_618 tb_8 ⟨rfl, hdX7_make⟩ ⟨rfl, rfl⟩ ⟨Nat.le_of_ble_eq_true rfl, Nat.le_of_ble_eq_true rfl⟩ rw_adr rfl rfl (Nat.le_of_ble_eq_true rfl) ⟨Nat.le_refl _, Nat.le_refl _⟩ dX7_submit_123 rfl ?_
                            refine g_aload_n F dX7_submit_126 0 rfl ?_
                            refine f_get F inX7 ql_RM rfl 4 (by decide) tb_361 rfl (v := .ref (ad 5)) rfl dX7_submit_127 ?_
                            refine g_iload_n F dX7_submit_130 1 rfl ?_
                            refine f_ald F 0 ql_4 rfl (j := v) (by have g0 := out0 h4 hk; omega) (by decide) dX7_submit_131 ?_
                            exact g_iret F hr hlk dX7_submit_132 ⟨congrArg (fun t => some (Value.int (Int32.ofNat t))) (Eq.symm (by unfold r_X7_submit; first | simp only [if_pos h4, if_neg h9, if_pos h14, if_pos h21, if_neg h35, if_neg h53, if_pos h58, if_pos h64, if_neg h71, if_neg h77, if_pos h83, if_pos h95, if_neg h109] | rfl)), congrArg (fun t => rwld cI cZ t ad) (Eq.symm (by unfold w_X7_submit; first | simp only [if_pos h4, if_neg h9, if_pos h14, if_pos h21, if_neg h35, if_neg h53, if_pos h58, if_pos h64, if_neg h71, if_neg h77, if_pos h83, if_pos h95, if_neg h109] | rfl))⟩
                          · refine f_bipush F 4294967293 dX7_submit_112 rfl ?_
                            exact g_iret F hr hlk dX7_submit_114 ⟨congrArg (fun t => some (Value.int (Int32.ofNat t))) (Eq.symm (by unfold r_X7_submit; first | simp only [if_pos h4, if_neg h9, if_pos h14, if_pos h21, if_neg h35, if_neg h53, if_pos h58, if_pos h64, if_neg h71, if_neg h77, if_pos h83, if_pos h95, if_pos h109] | rfl)), congrArg (fun t => rwld cI cZ t ad) (Eq.symm (by unfold w_X7_submit; first | simp only [if_pos h4, if_neg h9, if_pos h14, if_pos h21, if_neg h35, if_neg h53, if_pos h58, if_pos h64, if_neg h71, if_neg h77, if_pos h83, if_pos h95, if_pos h109] | rfl))⟩
                        · refine f_bipush F 4294967294 dX7_submit_98 rfl ?_
                          exact g_iret F hr hlk dX7_submit_100 ⟨congrArg (fun t => some (Value.int (Int32.ofNat t))) (Eq.symm (by unfold r_X7_submit; first | simp only [if_pos h4, if_neg h9, if_pos h14, if_pos h21, if_neg h35, if_neg h53, if_pos h58, if_pos h64, if_neg h71, if_neg h77, if_pos h83, if_neg h95] | rfl)), congrArg (fun t => rwld cI cZ t ad) (Eq.symm (by unfold w_X7_submit; first | simp only [if_pos h4, if_neg h9, if_pos h14, if_pos h21, if_neg h35, if_neg h53, if_pos h58, if_pos h64, if_neg h71, if_neg h77, if_pos h83, if_neg h95] | rfl))⟩
                      · refine f_iconst F 4294967295 dX7_submit_86 rfl ?_
                        exact g_iret F hr hlk dX7_submit_87 ⟨congrArg (fun t => some (Value.int (Int32.ofNat t))) (Eq.symm (by unfold r_X7_submit; first | simp only [if_pos h4, if_neg h9, if_pos h14, if_pos h21, if_neg h35, if_neg h53, if_pos h58, if_pos h64, if_neg h71, if_neg h77, if_neg h83] | rfl)), congrArg (fun t => rwld cI cZ t ad) (Eq.symm (by unfold w_X7_submit; first | simp only [if_pos h4, if_neg h9, if_pos h14, if_pos h21, if_neg h35, if_neg h53, if_pos h58, if_pos h64, if_neg h71, if_neg h77, if_neg h83] | rfl))⟩
                · refine f_iconst F 4294967295 dX7_submit_67 rfl ?_
                  exact g_iret F hr hlk dX7_submit_68 ⟨congrArg (fun t => some (Value.int (Int32.ofNat t))) (Eq.symm (by unfold r_X7_submit; first | simp only [if_pos h4, if_neg h9, if_pos h14, if_pos h21, if_neg h35, if_neg h53, if_pos h58, if_neg h64] | rfl)), congrArg (fun t => rwld cI cZ t ad) (Eq.symm (by unfold w_X7_submit; first | simp only [if_pos h4, if_neg h9, if_pos h14, if_pos h21, if_neg h35, if_neg h53, if_pos h58, if_neg h64] | rfl))⟩
          · refine g_iload F dX7_submit_38 5 rfl ?_
            refine g_if_lt F dX7_submit_40 (tgt := 49) rfl (fun h40 => ?_) (fun h40 => ?_)
            · refine f_iconst F 4294967295 dX7_submit_49 rfl ?_
              exact g_iret F hr hlk dX7_submit_50 ⟨congrArg (fun t => some (Value.int (Int32.ofNat t))) (Eq.symm (by unfold r_X7_submit; first | simp only [if_pos h4, if_neg h9, if_pos h14, if_pos h21, if_pos h35, if_pos h40] | rfl)), congrArg (fun t => rwld cI cZ t ad) (Eq.symm (by unfold w_X7_submit; first | simp only [if_pos h4, if_neg h9, if_pos h14, if_pos h21, if_pos h35, if_pos h40] | rfl))⟩
            · refine g_iload F dX7_submit_43 5 rfl ?_
              refine f_iconst F 4 dX7_submit_45 rfl ?_
              refine g_icmp_le F dX7_submit_46 (tgt := 51) rfl (fun h46 => ?_) (fun h46 => ?_)
              · refine g_iload_n F dX7_submit_51 2 rfl ?_
                refine f_iconst F 2 dX7_submit_52 rfl ?_
                refine g_icmp_eq F dX7_submit_53 (tgt := 61) rfl (fun h53 => ?_) (fun h53 => ?_)
                · refine g_iload F dX7_submit_61 5 rfl ?_
                  refine f_iconst F 4294967295 dX7_submit_63 rfl ?_
                  refine g_icmp_ge F dX7_submit_64 (tgt := 69) rfl (fun h64 => ?_) (fun h64 => ?_)
                  · refine g_iload_n F dX7_submit_69 2 rfl ?_
                    refine f_iconst F 4 dX7_submit_70 rfl ?_
                    refine g_icmp_lt F dX7_submit_71 (tgt := 88) rfl (fun h71 => ?_) (fun h71 => ?_)
                    · refine g_aload_n F dX7_submit_88 0 rfl ?_
                      refine f_get F inX7 ql_RM rfl 0 (by decide) tb_357 rfl (v := .ref (ad 1)) rfl dX7_submit_89 ?_
                      refine g_iload_n F dX7_submit_92 1 rfl ?_
                      refine f_ald F 0 ql_0 rfl (j := v) (by have g0 := out0 h4 hk; omega) (by decide) dX7_submit_93 ?_
                      refine f_iconst F 4 dX7_submit_94 rfl ?_
                      refine g_icmp_eq F dX7_submit_95 (tgt := 101) rfl (fun h95 => ?_) (fun h95 => ?_)
                      · refine g_aload_n F dX7_submit_101 0 rfl ?_
                        refine f_get F inX7 ql_RM rfl 4 (by decide) tb_361 rfl (v := .ref (ad 5)) rfl dX7_submit_102 ?_
                        refine g_iload_n F dX7_submit_105 1 rfl ?_
                        refine f_ald F 0 ql_4 rfl (j := v) (by have g0 := out0 h4 hk; omega) (by decide) dX7_submit_106 ?_
                        refine f_bipush F 24 dX7_submit_107 rfl ?_
                        refine g_icmp_ne F dX7_submit_109 (tgt := 115) rfl (fun h109 => ?_) (fun h109 => ?_)
                        · refine g_aload_n F dX7_submit_115 0 rfl ?_
                          refine g_iload_n F dX7_submit_116 1 rfl ?_
                          refine g_iload_n F dX7_submit_117 2 rfl ?_
                          refine g_iload_n F dX7_submit_118 3 rfl ?_
                          refine g_iload F dX7_submit_119 4 rfl ?_
                          refine g_iload F dX7_submit_121 5 rfl ?_
                          refine f_callV F (As := [.int (Int32.ofNat v), .int (Int32.ofNat kd), .int (Int32.ofNat pa), .int (Int32.ofNat va), .int (Int32.ofNat vb)]) (rest := []) (st' := []) (k_X7_make l D cI cS cZ ad a v kd pa va vb (out0 h4 hk) (by have g1 := hq v (out0 h4 hk); have g2 : a 4 v ≠ 24 := fun e => h109 (by rw [e]); omega) (fun s hs => by have := hq s hs; omega)) ql_RM rfl tb_497 tb_495 tb_496 tb_618 tb_8 ⟨rfl, hdX7_make⟩ ⟨rfl, rfl⟩ ⟨Nat.le_of_ble_eq_true rfl, Nat.le_of_ble_eq_true rfl⟩ rw_adr rfl rfl (Nat.le_of_ble_eq_true rfl) ⟨Nat.le_refl _, Nat.le_refl _⟩ dX7_submit_123 rfl ?_
                          refine g_aload_n F dX7_submit_126 0 rfl ?_
                          refine f_get F inX7 ql_RM rfl 4 (by decide) tb_361 rfl (v := .ref (ad 5)) rfl dX7_submit_127 ?_
                          refine g_iload_n F dX7_submit_130 1 rfl ?_
                          refine f_ald F 0 ql_4 rfl (j := v) (by have g0 := out0 h4 hk; omega) (by decide) dX7_submit_131 ?_
                          exact g_iret F hr hlk dX7_submit_132 ⟨congrArg (fun t => some (Value.int (Int32.ofNat t))) (Eq.symm (by unfold r_X7_submit; first | simp only [if_pos h4, if_neg h9, if_pos h14, if_pos h21, if_pos h35, if_neg h40, if_pos h46, if_pos h53, if_pos h64, if_pos h71, if_pos h95, if_neg h109] | rfl)), congrArg (fun t => rwld cI cZ t ad) (Eq.symm (by unfold w_X7_submit; first | simp only [if_pos h4, if_neg h9, if_pos h14, if_pos h21, if_pos h35, if_neg h40, if_pos h46, if_pos h53, if_pos h64, if_pos h71, if_pos h95, if_neg h109] | rfl))⟩
                        · refine f_bipush F 4294967293 dX7_submit_112 rfl ?_
                          exact g_iret F hr hlk dX7_submit_114 ⟨congrArg (fun t => some (Value.int (Int32.ofNat t))) (Eq.symm (by unfold r_X7_submit; first | simp only [if_pos h4, if_neg h9, if_pos h14, if_pos h21, if_pos h35, if_neg h40, if_pos h46, if_pos h53, if_pos h64, if_pos h71, if_pos h95, if_pos h109] | rfl)), congrArg (fun t => rwld cI cZ t ad) (Eq.symm (by unfold w_X7_submit; first | simp only [if_pos h4, if_neg h9, if_pos h14, if_pos h21, if_pos h35, if_neg h40, if_pos h46, if_pos h53, if_pos h64, if_pos h71, if_pos h95, if_pos h109] | rfl))⟩
                      · refine f_bipush F 4294967294 dX7_submit_98 rfl ?_
                        exact g_iret F hr hlk dX7_submit_100 ⟨congrArg (fun t => some (Value.int (Int32.ofNat t))) (Eq.symm (by unfold r_X7_submit; first | simp only [if_pos h4, if_neg h9, if_pos h14, if_pos h21, if_pos h35, if_neg h40, if_pos h46, if_pos h53, if_pos h64, if_pos h71, if_neg h95] | rfl)), congrArg (fun t => rwld cI cZ t ad) (Eq.symm (by unfold w_X7_submit; first | simp only [if_pos h4, if_neg h9, if_pos h14, if_pos h21, if_pos h35, if_neg h40, if_pos h46, if_pos h53, if_pos h64, if_pos h71, if_neg h95] | rfl))⟩
                    · refine g_iload F dX7_submit_74 5 rfl ?_
                      refine f_iconst F 1 dX7_submit_76 rfl ?_
                      refine g_icmp_lt F dX7_submit_77 (tgt := 86) rfl (fun h77 => ?_) (fun h77 => ?_)
                      · refine f_iconst F 4294967295 dX7_submit_86 rfl ?_
                        exact g_iret F hr hlk dX7_submit_87 ⟨congrArg (fun t => some (Value.int (Int32.ofNat t))) (Eq.symm (by unfold r_X7_submit; first | simp only [if_pos h4, if_neg h9, if_pos h14, if_pos h21, if_pos h35, if_neg h40, if_pos h46, if_pos h53, if_pos h64, if_neg h71, if_pos h77] | rfl)), congrArg (fun t => rwld cI cZ t ad) (Eq.symm (by unfold w_X7_submit; first | simp only [if_pos h4, if_neg h9, if_pos h14, if_pos h21, if_pos h35, if_neg h40, if_pos h46, if_pos h53, if_pos h64, if_neg h71, if_pos h77] | rfl))⟩
                      · refine g_iload F dX7_submit_80 5 rfl ?_
                        refine f_iconst F 4 dX7_submit_82 rfl ?_
                        refine g_icmp_le F dX7_submit_83 (tgt := 88) rfl (fun h83 => ?_) (fun h83 => ?_)
                        rotate_left
                        · exact absurd h46 h83
                        refine g_aload_n F dX7_submit_88 0 rfl ?_
                        refine f_get F inX7 ql_RM rfl 0 (by decide) tb_357 rfl (v := .ref (ad 1)) rfl dX7_submit_89 ?_
                        refine g_iload_n F dX7_submit_92 1 rfl ?_
                        refine f_ald F 0 ql_0 rfl (j := v) (by have g0 := out0 h4 hk; omega) (by decide) dX7_submit_93 ?_
                        refine f_iconst F 4 dX7_submit_94 rfl ?_
                        refine g_icmp_eq F dX7_submit_95 (tgt := 101) rfl (fun h95 => ?_) (fun h95 => ?_)
                        · refine g_aload_n F dX7_submit_101 0 rfl ?_
                          refine f_get F inX7 ql_RM rfl 4 (by decide) tb_361 rfl (v := .ref (ad 5)) rfl dX7_submit_102 ?_
                          refine g_iload_n F dX7_submit_105 1 rfl ?_
                          refine f_ald F 0 ql_4 rfl (j := v) (by have g0 := out0 h4 hk; omega) (by decide) dX7_submit_106 ?_
                          refine f_bipush F 24 dX7_submit_107 rfl ?_
                          refine g_icmp_ne F dX7_submit_109 (tgt := 115) rfl (fun h109 => ?_) (fun h109 => ?_)
                          · refine g_aload_n F dX7_submit_115 0 rfl ?_
                            refine g_iload_n F dX7_submit_116 1 rfl ?_
                            refine g_iload_n F dX7_submit_117 2 rfl ?_
                            refine g_iload_n F dX7_submit_118 3 rfl ?_
                            refine g_iload F dX7_submit_119 4 rfl ?_
                            refine g_iload F dX7_submit_121 5 rfl ?_
                            refine f_callV F (As := [.int (Int32.ofNat v), .int (Int32.ofNat kd), .int (Int32.ofNat pa), .int (Int32.ofNat va), .int (Int32.ofNat vb)]) (rest := []) (st' := []) (k_X7_make l D cI cS cZ ad a v kd pa va vb (out0 h4 hk) (by have g1 := hq v (out0 h4 hk); have g2 : a 4 v ≠ 24 := fun e => h109 (by rw [e]); omega) (fun s hs => by have := hq s hs; omega)) ql_RM rfl tb_497 tb_495 tb_496 tb_618 tb_8 ⟨rfl, hdX7_make⟩ ⟨rfl, rfl⟩ ⟨Nat.le_of_ble_eq_true rfl, Nat.le_of_ble_eq_true rfl⟩ rw_adr rfl rfl (Nat.le_of_ble_eq_true rfl) ⟨Nat.le_refl _, Nat.le_refl _⟩ dX7_submit_123 rfl ?_
                            refine g_aload_n F dX7_submit_126 0 rfl ?_
                            refine f_get F inX7 ql_RM rfl 4 (by decide) tb_361 rfl (v := .ref (ad 5)) rfl dX7_submit_127 ?_
                            refine g_iload_n F dX7_submit_130 1 rfl ?_
                            refine f_ald F 0 ql_4 rfl (j := v) (by have g0 := out0 h4 hk; omega) (by decide) dX7_submit_131 ?_
                            exact g_iret F hr hlk dX7_submit_132 ⟨congrArg (fun t => some (Value.int (Int32.ofNat t))) (Eq.symm (by unfold r_X7_submit; first | simp only [if_pos h4, if_neg h9, if_pos h14, if_pos h21, if_pos h35, if_neg h40, if_pos h46, if_pos h53, if_pos h64, if_neg h71, if_neg h77, if_pos h95, if_neg h109] | rfl)), congrArg (fun t => rwld cI cZ t ad) (Eq.symm (by unfold w_X7_submit; first | simp only [if_pos h4, if_neg h9, if_pos h14, if_pos h21, if_pos h35, if_neg h40, if_pos h46, if_pos h53, if_pos h64, if_neg h71, if_neg h77, if_pos h95, if_neg h109] | rfl))⟩
                          · refine f_bipush F 4294967293 dX7_submit_112 rfl ?_
                            exact g_iret F hr hlk dX7_submit_114 ⟨congrArg (fun t => some (Value.int (Int32.ofNat t))) (Eq.symm (by unfold r_X7_submit; first | simp only [if_pos h4, if_neg h9, if_pos h14, if_pos h21, if_pos h35, if_neg h40, if_pos h46, if_pos h53, if_pos h64, if_neg h71, if_neg h77, if_pos h95, if_pos h109] | rfl)), congrArg (fun t => rwld cI cZ t ad) (Eq.symm (by unfold w_X7_submit; first | simp only [if_pos h4, if_neg h9, if_pos h14, if_pos h21, if_pos h35, if_neg h40, if_pos h46, if_pos h53, if_pos h64, if_neg h71, if_neg h77, if_pos h95, if_pos h109] | rfl))⟩
                        · refine f_bipush F 4294967294 dX7_submit_98 rfl ?_
                          exact g_iret F hr hlk dX7_submit_100 ⟨congrArg (fun t => some (Value.int (Int32.ofNat t))) (Eq.symm (by unfold r_X7_submit; first | simp only [if_pos h4, if_neg h9, if_pos h14, if_pos h21, if_pos h35, if_neg h40, if_pos h46, if_pos h53, if_pos h64, if_neg h71, if_neg h77, if_neg h95] | rfl)), congrArg (fun t => rwld cI cZ t ad) (Eq.symm (by unfold w_X7_submit; first | simp only [if_pos h4, if_neg h9, if_pos h14, if_pos h21, if_pos h35, if_neg h40, if_pos h46, if_pos h53, if_pos h64, if_neg h71, if_neg h77, if_neg h95] | rfl))⟩
                  · refine f_iconst F 4294967295 dX7_submit_67 rfl ?_
                    exact g_iret F hr hlk dX7_submit_68 ⟨congrArg (fun t => some (Value.int (Int32.ofNat t))) (Eq.symm (by unfold r_X7_submit; first | simp only [if_pos h4, if_neg h9, if_pos h14, if_pos h21, if_pos h35, if_neg h40, if_pos h46, if_pos h53, if_neg h64] | rfl)), congrArg (fun t => rwld cI cZ t ad) (Eq.symm (by unfold w_X7_submit; first | simp only [if_pos h4, if_neg h9, if_pos h14, if_pos h21, if_pos h35, if_neg h40, if_pos h46, if_pos h53, if_neg h64] | rfl))⟩
                · refine g_iload_n F dX7_submit_56 2 rfl ?_
                  refine f_iconst F 3 dX7_submit_57 rfl ?_
                  refine g_icmp_ne F dX7_submit_58 (tgt := 69) rfl (fun h58 => ?_) (fun h58 => ?_)
                  · refine g_iload_n F dX7_submit_69 2 rfl ?_
                    refine f_iconst F 4 dX7_submit_70 rfl ?_
                    refine g_icmp_lt F dX7_submit_71 (tgt := 88) rfl (fun h71 => ?_) (fun h71 => ?_)
                    · refine g_aload_n F dX7_submit_88 0 rfl ?_
                      refine f_get F inX7 ql_RM rfl 0 (by decide) tb_357 rfl (v := .ref (ad 1)) rfl dX7_submit_89 ?_
                      refine g_iload_n F dX7_submit_92 1 rfl ?_
                      refine f_ald F 0 ql_0 rfl (j := v) (by have g0 := out0 h4 hk; omega) (by decide) dX7_submit_93 ?_
                      refine f_iconst F 4 dX7_submit_94 rfl ?_
                      refine g_icmp_eq F dX7_submit_95 (tgt := 101) rfl (fun h95 => ?_) (fun h95 => ?_)
                      · refine g_aload_n F dX7_submit_101 0 rfl ?_
                        refine f_get F inX7 ql_RM rfl 4 (by decide) tb_361 rfl (v := .ref (ad 5)) rfl dX7_submit_102 ?_
                        refine g_iload_n F dX7_submit_105 1 rfl ?_
                        refine f_ald F 0 ql_4 rfl (j := v) (by have g0 := out0 h4 hk; omega) (by decide) dX7_submit_106 ?_
                        refine f_bipush F 24 dX7_submit_107 rfl ?_
                        refine g_icmp_ne F dX7_submit_109 (tgt := 115) rfl (fun h109 => ?_) (fun h109 => ?_)
                        · refine g_aload_n F dX7_submit_115 0 rfl ?_
                          refine g_iload_n F dX7_submit_116 1 rfl ?_
                          refine g_iload_n F dX7_submit_117 2 rfl ?_
                          refine g_iload_n F dX7_submit_118 3 rfl ?_
                          refine g_iload F dX7_submit_119 4 rfl ?_
                          refine g_iload F dX7_submit_121 5 rfl ?_
                          refine f_callV F (As := [.int (Int32.ofNat v), .int (Int32.ofNat kd), .int (Int32.ofNat pa), .int (Int32.ofNat va), .int (Int32.ofNat vb)]) (rest := []) (st' := []) (k_X7_make l D cI cS cZ ad a v kd pa va vb (out0 h4 hk) (by have g1 := hq v (out0 h4 hk); have g2 : a 4 v ≠ 24 := fun e => h109 (by rw [e]); omega) (fun s hs => by have := hq s hs; omega)) ql_RM rfl tb_497 tb_495 tb_496 tb_618 tb_8 ⟨rfl, hdX7_make⟩ ⟨rfl, rfl⟩ ⟨Nat.le_of_ble_eq_true rfl, Nat.le_of_ble_eq_true rfl⟩ rw_adr rfl rfl (Nat.le_of_ble_eq_true rfl) ⟨Nat.le_refl _, Nat.le_refl _⟩ dX7_submit_123 rfl ?_
                          refine g_aload_n F dX7_submit_126 0 rfl ?_
                          refine f_get F inX7 ql_RM rfl 4 (by decide) tb_361 rfl (v := .ref (ad 5)) rfl dX7_submit_127 ?_
                          refine g_iload_n F dX7_submit_130 1 rfl ?_
                          refine f_ald F 0 ql_4 rfl (j := v) (by have g0 := out0 h4 hk; omega) (by decide) dX7_submit_131 ?_
                          exact g_iret F hr hlk dX7_submit_132 ⟨congrArg (fun t => some (Value.int (Int32.ofNat t))) (Eq.symm (by unfold r_X7_submit; first | simp only [if_pos h4, if_neg h9, if_pos h14, if_pos h21, if_pos h35, if_neg h40, if_pos h46, if_neg h53, if_neg h58, if_pos h71, if_pos h95, if_neg h109] | rfl)), congrArg (fun t => rwld cI cZ t ad) (Eq.symm (by unfold w_X7_submit; first | simp only [if_pos h4, if_neg h9, if_pos h14, if_pos h21, if_pos h35, if_neg h40, if_pos h46, if_neg h53, if_neg h58, if_pos h71, if_pos h95, if_neg h109] | rfl))⟩
                        · refine f_bipush F 4294967293 dX7_submit_112 rfl ?_
                          exact g_iret F hr hlk dX7_submit_114 ⟨congrArg (fun t => some (Value.int (Int32.ofNat t))) (Eq.symm (by unfold r_X7_submit; first | simp only [if_pos h4, if_neg h9, if_pos h14, if_pos h21, if_pos h35, if_neg h40, if_pos h46, if_neg h53, if_neg h58, if_pos h71, if_pos h95, if_pos h109] | rfl)), congrArg (fun t => rwld cI cZ t ad) (Eq.symm (by unfold w_X7_submit; first | simp only [if_pos h4, if_neg h9, if_pos h14, if_pos h21, if_pos h35, if_neg h40, if_pos h46, if_neg h53, if_neg h58, if_pos h71, if_pos h95, if_pos h109] | rfl))⟩
                      · refine f_bipush F 4294967294 dX7_submit_98 rfl ?_
                        exact g_iret F hr hlk dX7_submit_100 ⟨congrArg (fun t => some (Value.int (Int32.ofNat t))) (Eq.symm (by unfold r_X7_submit; first | simp only [if_pos h4, if_neg h9, if_pos h14, if_pos h21, if_pos h35, if_neg h40, if_pos h46, if_neg h53, if_neg h58, if_pos h71, if_neg h95] | rfl)), congrArg (fun t => rwld cI cZ t ad) (Eq.symm (by unfold w_X7_submit; first | simp only [if_pos h4, if_neg h9, if_pos h14, if_pos h21, if_pos h35, if_neg h40, if_pos h46, if_neg h53, if_neg h58, if_pos h71, if_neg h95] | rfl))⟩
                    · refine g_iload F dX7_submit_74 5 rfl ?_
                      refine f_iconst F 1 dX7_submit_76 rfl ?_
                      refine g_icmp_lt F dX7_submit_77 (tgt := 86) rfl (fun h77 => ?_) (fun h77 => ?_)
                      · refine f_iconst F 4294967295 dX7_submit_86 rfl ?_
                        exact g_iret F hr hlk dX7_submit_87 ⟨congrArg (fun t => some (Value.int (Int32.ofNat t))) (Eq.symm (by unfold r_X7_submit; first | simp only [if_pos h4, if_neg h9, if_pos h14, if_pos h21, if_pos h35, if_neg h40, if_pos h46, if_neg h53, if_neg h58, if_neg h71, if_pos h77] | rfl)), congrArg (fun t => rwld cI cZ t ad) (Eq.symm (by unfold w_X7_submit; first | simp only [if_pos h4, if_neg h9, if_pos h14, if_pos h21, if_pos h35, if_neg h40, if_pos h46, if_neg h53, if_neg h58, if_neg h71, if_pos h77] | rfl))⟩
                      · refine g_iload F dX7_submit_80 5 rfl ?_
                        refine f_iconst F 4 dX7_submit_82 rfl ?_
                        refine g_icmp_le F dX7_submit_83 (tgt := 88) rfl (fun h83 => ?_) (fun h83 => ?_)
                        rotate_left
                        · exact absurd h46 h83
                        refine g_aload_n F dX7_submit_88 0 rfl ?_
                        refine f_get F inX7 ql_RM rfl 0 (by decide) tb_357 rfl (v := .ref (ad 1)) rfl dX7_submit_89 ?_
                        refine g_iload_n F dX7_submit_92 1 rfl ?_
                        refine f_ald F 0 ql_0 rfl (j := v) (by have g0 := out0 h4 hk; omega) (by decide) dX7_submit_93 ?_
                        refine f_iconst F 4 dX7_submit_94 rfl ?_
                        refine g_icmp_eq F dX7_submit_95 (tgt := 101) rfl (fun h95 => ?_) (fun h95 => ?_)
                        · refine g_aload_n F dX7_submit_101 0 rfl ?_
                          refine f_get F inX7 ql_RM rfl 4 (by decide) tb_361 rfl (v := .ref (ad 5)) rfl dX7_submit_102 ?_
                          refine g_iload_n F dX7_submit_105 1 rfl ?_
                          refine f_ald F 0 ql_4 rfl (j := v) (by have g0 := out0 h4 hk; omega) (by decide) dX7_submit_106 ?_
                          refine f_bipush F 24 dX7_submit_107 rfl ?_
                          refine g_icmp_ne F dX7_submit_109 (tgt := 115) rfl (fun h109 => ?_) (fun h109 => ?_)
                          · refine g_aload_n F dX7_submit_115 0 rfl ?_
                            refine g_iload_n F dX7_submit_116 1 rfl ?_
                            refine g_iload_n F dX7_submit_117 2 rfl ?_
                            refine g_iload_n F dX7_submit_118 3 rfl ?_
                            refine g_iload F dX7_submit_119 4 rfl ?_
                            refine g_iload F dX7_submit_121 5 rfl ?_
                            refine f_callV F (As := [.int (Int32.ofNat v), .int (Int32.ofNat kd), .int (Int32.ofNat pa), .int (Int32.ofNat va), .int (Int32.ofNat vb)]) (rest := []) (st' := []) (k_X7_make l D cI cS cZ ad a v kd pa va vb (out0 h4 hk) (by have g1 := hq v (out0 h4 hk); have g2 : a 4 v ≠ 24 := fun e => h109 (by rw [e]); omega) (fun s hs => by have := hq s hs; omega)) ql_RM rfl tb_497 tb_495 tb_496 tb_618 tb_8 ⟨rfl, hdX7_make⟩ ⟨rfl, rfl⟩ ⟨Nat.le_of_ble_eq_true rfl, Nat.le_of_ble_eq_true rfl⟩ rw_adr rfl rfl (Nat.le_of_ble_eq_true rfl) ⟨Nat.le_refl _, Nat.le_refl _⟩ dX7_submit_123 rfl ?_
                            refine g_aload_n F dX7_submit_126 0 rfl ?_
                            refine f_get F inX7 ql_RM rfl 4 (by decide) tb_361 rfl (v := .ref (ad 5)) rfl dX7_submit_127 ?_
                            refine g_iload_n F dX7_submit_130 1 rfl ?_
                            refine f_ald F 0 ql_4 rfl (j := v) (by have g0 := out0 h4 hk; omega) (by decide) dX7_submit_131 ?_
                            exact g_iret F hr hlk dX7_submit_132 ⟨congrArg (fun t => some (Value.int (Int32.ofNat t))) (Eq.symm (by unfold r_X7_submit; first | simp only [if_pos h4, if_neg h9, if_pos h14, if_pos h21, if_pos h35, if_neg h40, if_pos h46, if_neg h53, if_neg h58, if_neg h71, if_neg h77, if_pos h95, if_neg h109] | rfl)), congrArg (fun t => rwld cI cZ t ad) (Eq.symm (by unfold w_X7_submit; first | simp only [if_pos h4, if_neg h9, if_pos h14, if_pos h21, if_pos h35, if_neg h40, if_pos h46, if_neg h53, if_neg h58, if_neg h71, if_neg h77, if_pos h95, if_neg h109] | rfl))⟩
                          · refine f_bipush F 4294967293 dX7_submit_112 rfl ?_
                            exact g_iret F hr hlk dX7_submit_114 ⟨congrArg (fun t => some (Value.int (Int32.ofNat t))) (Eq.symm (by unfold r_X7_submit; first | simp only [if_pos h4, if_neg h9, if_pos h14, if_pos h21, if_pos h35, if_neg h40, if_pos h46, if_neg h53, if_neg h58, if_neg h71, if_neg h77, if_pos h95, if_pos h109] | rfl)), congrArg (fun t => rwld cI cZ t ad) (Eq.symm (by unfold w_X7_submit; first | simp only [if_pos h4, if_neg h9, if_pos h14, if_pos h21, if_pos h35, if_neg h40, if_pos h46, if_neg h53, if_neg h58, if_neg h71, if_neg h77, if_pos h95, if_pos h109] | rfl))⟩
                        · refine f_bipush F 4294967294 dX7_submit_98 rfl ?_
                          exact g_iret F hr hlk dX7_submit_100 ⟨congrArg (fun t => some (Value.int (Int32.ofNat t))) (Eq.symm (by unfold r_X7_submit; first | simp only [if_pos h4, if_neg h9, if_pos h14, if_pos h21, if_pos h35, if_neg h40, if_pos h46, if_neg h53, if_neg h58, if_neg h71, if_neg h77, if_neg h95] | rfl)), congrArg (fun t => rwld cI cZ t ad) (Eq.symm (by unfold w_X7_submit; first | simp only [if_pos h4, if_neg h9, if_pos h14, if_pos h21, if_pos h35, if_neg h40, if_pos h46, if_neg h53, if_neg h58, if_neg h71, if_neg h77, if_neg h95] | rfl))⟩
                  · refine g_iload F dX7_submit_61 5 rfl ?_
                    refine f_iconst F 4294967295 dX7_submit_63 rfl ?_
                    refine g_icmp_ge F dX7_submit_64 (tgt := 69) rfl (fun h64 => ?_) (fun h64 => ?_)
                    · refine g_iload_n F dX7_submit_69 2 rfl ?_
                      refine f_iconst F 4 dX7_submit_70 rfl ?_
                      refine g_icmp_lt F dX7_submit_71 (tgt := 88) rfl (fun h71 => ?_) (fun h71 => ?_)
                      · refine g_aload_n F dX7_submit_88 0 rfl ?_
                        refine f_get F inX7 ql_RM rfl 0 (by decide) tb_357 rfl (v := .ref (ad 1)) rfl dX7_submit_89 ?_
                        refine g_iload_n F dX7_submit_92 1 rfl ?_
                        refine f_ald F 0 ql_0 rfl (j := v) (by have g0 := out0 h4 hk; omega) (by decide) dX7_submit_93 ?_
                        refine f_iconst F 4 dX7_submit_94 rfl ?_
                        refine g_icmp_eq F dX7_submit_95 (tgt := 101) rfl (fun h95 => ?_) (fun h95 => ?_)
                        · refine g_aload_n F dX7_submit_101 0 rfl ?_
                          refine f_get F inX7 ql_RM rfl 4 (by decide) tb_361 rfl (v := .ref (ad 5)) rfl dX7_submit_102 ?_
                          refine g_iload_n F dX7_submit_105 1 rfl ?_
                          refine f_ald F 0 ql_4 rfl (j := v) (by have g0 := out0 h4 hk; omega) (by decide) dX7_submit_106 ?_
                          refine f_bipush F 24 dX7_submit_107 rfl ?_
                          refine g_icmp_ne F dX7_submit_109 (tgt := 115) rfl (fun h109 => ?_) (fun h109 => ?_)
                          · refine g_aload_n F dX7_submit_115 0 rfl ?_
                            refine g_iload_n F dX7_submit_116 1 rfl ?_
                            refine g_iload_n F dX7_submit_117 2 rfl ?_
                            refine g_iload_n F dX7_submit_118 3 rfl ?_
                            refine g_iload F dX7_submit_119 4 rfl ?_
                            refine g_iload F dX7_submit_121 5 rfl ?_
                            refine f_callV F (As := [.int (Int32.ofNat v), .int (Int32.ofNat kd), .int (Int32.ofNat pa), .int (Int32.ofNat va), .int (Int32.ofNat vb)]) (rest := []) (st' := []) (k_X7_make l D cI cS cZ ad a v kd pa va vb (out0 h4 hk) (by have g1 := hq v (out0 h4 hk); have g2 : a 4 v ≠ 24 := fun e => h109 (by rw [e]); omega) (fun s hs => by have := hq s hs; omega)) ql_RM rfl tb_497 tb_495 tb_496 tb_618 tb_8 ⟨rfl, hdX7_make⟩ ⟨rfl, rfl⟩ ⟨Nat.le_of_ble_eq_true rfl, Nat.le_of_ble_eq_true rfl⟩ rw_adr rfl rfl (Nat.le_of_ble_eq_true rfl) ⟨Nat.le_refl _, Nat.le_refl _⟩ dX7_submit_123 rfl ?_
                            refine g_aload_n F dX7_submit_126 0 rfl ?_
                            refine f_get F inX7 ql_RM rfl 4 (by decide) tb_361 rfl (v := .ref (ad 5)) rfl dX7_submit_127 ?_
                            refine g_iload_n F dX7_submit_130 1 rfl ?_
                            refine f_ald F 0 ql_4 rfl (j := v) (by have g0 := out0 h4 hk; omega) (by decide) dX7_submit_131 ?_
                            exact g_iret F hr hlk dX7_submit_132 ⟨congrArg (fun t => some (Value.int (Int32.ofNat t))) (Eq.symm (by unfold r_X7_submit; first | simp only [if_pos h4, if_neg h9, if_pos h14, if_pos h21, if_pos h35, if_neg h40, if_pos h46, if_neg h53, if_pos h58, if_pos h64, if_pos h71, if_pos h95, if_neg h109] | rfl)), congrArg (fun t => rwld cI cZ t ad) (Eq.symm (by unfold w_X7_submit; first | simp only [if_pos h4, if_neg h9, if_pos h14, if_pos h21, if_pos h35, if_neg h40, if_pos h46, if_neg h53, if_pos h58, if_pos h64, if_pos h71, if_pos h95, if_neg h109] | rfl))⟩
                          · refine f_bipush F 4294967293 dX7_submit_112 rfl ?_
                            exact g_iret F hr hlk dX7_submit_114 ⟨congrArg (fun t => some (Value.int (Int32.ofNat t))) (Eq.symm (by unfold r_X7_submit; first | simp only [if_pos h4, if_neg h9, if_pos h14, if_pos h21, if_pos h35, if_neg h40, if_pos h46, if_neg h53, if_pos h58, if_pos h64, if_pos h71, if_pos h95, if_pos h109] | rfl)), congrArg (fun t => rwld cI cZ t ad) (Eq.symm (by unfold w_X7_submit; first | simp only [if_pos h4, if_neg h9, if_pos h14, if_pos h21, if_pos h35, if_neg h40, if_pos h46, if_neg h53, if_pos h58, if_pos h64, if_pos h71, if_pos h95, if_pos h109] | rfl))⟩
                        · refine f_bipush F 4294967294 dX7_submit_98 rfl ?_
                          exact g_iret F hr hlk dX7_submit_100 ⟨congrArg (fun t => some (Value.int (Int32.ofNat t))) (Eq.symm (by unfold r_X7_submit; first | simp only [if_pos h4, if_neg h9, if_pos h14, if_pos h21, if_pos h35, if_neg h40, if_pos h46, if_neg h53, if_pos h58, if_pos h64, if_pos h71, if_neg h95] | rfl)), congrArg (fun t => rwld cI cZ t ad) (Eq.symm (by unfold w_X7_submit; first | simp only [if_pos h4, if_neg h9, if_pos h14, if_pos h21, if_pos h35, if_neg h40, if_pos h46, if_neg h53, if_pos h58, if_pos h64, if_pos h71, if_neg h95] | rfl))⟩
                      · refine g_iload F dX7_submit_74 5 rfl ?_
                        refine f_iconst F 1 dX7_submit_76 rfl ?_
                        refine g_icmp_lt F dX7_submit_77 (tgt := 86) rfl (fun h77 => ?_) (fun h77 => ?_)
                        · refine f_iconst F 4294967295 dX7_submit_86 rfl ?_
                          exact g_iret F hr hlk dX7_submit_87 ⟨congrArg (fun t => some (Value.int (Int32.ofNat t))) (Eq.symm (by unfold r_X7_submit; first | simp only [if_pos h4, if_neg h9, if_pos h14, if_pos h21, if_pos h35, if_neg h40, if_pos h46, if_neg h53, if_pos h58, if_pos h64, if_neg h71, if_pos h77] | rfl)), congrArg (fun t => rwld cI cZ t ad) (Eq.symm (by unfold w_X7_submit; first | simp only [if_pos h4, if_neg h9, if_pos h14, if_pos h21, if_pos h35, if_neg h40, if_pos h46, if_neg h53, if_pos h58, if_pos h64, if_neg h71, if_pos h77] | rfl))⟩
                        · refine g_iload F dX7_submit_80 5 rfl ?_
                          refine f_iconst F 4 dX7_submit_82 rfl ?_
                          refine g_icmp_le F dX7_submit_83 (tgt := 88) rfl (fun h83 => ?_) (fun h83 => ?_)
                          rotate_left
                          · exact absurd h46 h83
                          refine g_aload_n F dX7_submit_88 0 rfl ?_
                          refine f_get F inX7 ql_RM rfl 0 (by decide) tb_357 rfl (v := .ref (ad 1)) rfl dX7_submit_89 ?_
                          refine g_iload_n F dX7_submit_92 1 rfl ?_
                          refine f_ald F 0 ql_0 rfl (j := v) (by have g0 := out0 h4 hk; omega) (by decide) dX7_submit_93 ?_
                          refine f_iconst F 4 dX7_submit_94 rfl ?_
                          refine g_icmp_eq F dX7_submit_95 (tgt := 101) rfl (fun h95 => ?_) (fun h95 => ?_)
                          · refine g_aload_n F dX7_submit_101 0 rfl ?_
                            refine f_get F inX7 ql_RM rfl 4 (by decide) tb_361 rfl (v := .ref (ad 5)) rfl dX7_submit_102 ?_
                            refine g_iload_n F dX7_submit_105 1 rfl ?_
                            refine f_ald F 0 ql_4 rfl (j := v) (by have g0 := out0 h4 hk; omega) (by decide) dX7_submit_106 ?_
                            refine f_bipush F 24 dX7_submit_107 rfl ?_
                            refine g_icmp_ne F dX7_submit_109 (tgt := 115) rfl (fun h109 => ?_) (fun h109 => ?_)
                            · refine g_aload_n F dX7_submit_115 0 rfl ?_
                              refine g_iload_n F dX7_submit_116 1 rfl ?_
                              refine g_iload_n F dX7_submit_117 2 rfl ?_
                              refine g_iload_n F dX7_submit_118 3 rfl ?_
                              refine g_iload F dX7_submit_119 4 rfl ?_
                              refine g_iload F dX7_submit_121 5 rfl ?_
                              refine f_callV F (As := [.int (Int32.ofNat v), .int (Int32.ofNat kd), .int (Int32.ofNat pa), .int (Int32.ofNat va), .int (Int32.ofNat vb)]) (rest := []) (st' := []) (k_X7_make l D cI cS cZ ad a v kd pa va vb (out0 h4 hk) (by have g1 := hq v (out0 h4 hk); have g2 : a 4 v ≠ 24 := fun e => h109 (by rw [e]); omega) (fun s hs => by have := hq s hs; omega)) ql_RM rfl tb_497 tb_495 tb_496 tb_618 tb_8 ⟨rfl, hdX7_make⟩ ⟨rfl, rfl⟩ ⟨Nat.le_of_ble_eq_true rfl, Nat.le_of_ble_eq_true rfl⟩ rw_adr rfl rfl (Nat.le_of_ble_eq_true rfl) ⟨Nat.le_refl _, Nat.le_refl _⟩ dX7_submit_123 rfl ?_
                              refine g_aload_n F dX7_submit_126 0 rfl ?_
                              refine f_get F inX7 ql_RM rfl 4 (by decide) tb_361 rfl (v := .ref (ad 5)) rfl dX7_submit_127 ?_
                              refine g_iload_n F dX7_submit_130 1 rfl ?_
                              refine f_ald F 0 ql_4 rfl (j := v) (by have g0 := out0 h4 hk; omega) (by decide) dX7_submit_131 ?_
                              exact g_iret F hr hlk dX7_submit_132 ⟨congrArg (fun t => some (Value.int (Int32.ofNat t))) (Eq.symm (by unfold r_X7_submit; first | simp only [if_pos h4, if_neg h9, if_pos h14, if_pos h21, if_pos h35, if_neg h40, if_pos h46, if_neg h53, if_pos h58, if_pos h64, if_neg h71, if_neg h77, if_pos h95, if_neg h109] | rfl)), congrArg (fun t => rwld cI cZ t ad) (Eq.symm (by unfold w_X7_submit; first | simp only [if_pos h4, if_neg h9, if_pos h14, if_pos h21, if_pos h35, if_neg h40, if_pos h46, if_neg h53, if_pos h58, if_pos h64, if_neg h71, if_neg h77, if_pos h95, if_neg h109] | rfl))⟩
                            · refine f_bipush F 4294967293 dX7_submit_112 rfl ?_
                              exact g_iret F hr hlk dX7_submit_114 ⟨congrArg (fun t => some (Value.int (Int32.ofNat t))) (Eq.symm (by unfold r_X7_submit; first | simp only [if_pos h4, if_neg h9, if_pos h14, if_pos h21, if_pos h35, if_neg h40, if_pos h46, if_neg h53, if_pos h58, if_pos h64, if_neg h71, if_neg h77, if_pos h95, if_pos h109] | rfl)), congrArg (fun t => rwld cI cZ t ad) (Eq.symm (by unfold w_X7_submit; first | simp only [if_pos h4, if_neg h9, if_pos h14, if_pos h21, if_pos h35, if_neg h40, if_pos h46, if_neg h53, if_pos h58, if_pos h64, if_neg h71, if_neg h77, if_pos h95, if_pos h109] | rfl))⟩
                          · refine f_bipush F 4294967294 dX7_submit_98 rfl ?_
                            exact g_iret F hr hlk dX7_submit_100 ⟨congrArg (fun t => some (Value.int (Int32.ofNat t))) (Eq.symm (by unfold r_X7_submit; first | simp only [if_pos h4, if_neg h9, if_pos h14, if_pos h21, if_pos h35, if_neg h40, if_pos h46, if_neg h53, if_pos h58, if_pos h64, if_neg h71, if_neg h77, if_neg h95] | rfl)), congrArg (fun t => rwld cI cZ t ad) (Eq.symm (by unfold w_X7_submit; first | simp only [if_pos h4, if_neg h9, if_pos h14, if_pos h21, if_pos h35, if_neg h40, if_pos h46, if_neg h53, if_pos h58, if_pos h64, if_neg h71, if_neg h77, if_neg h95] | rfl))⟩
                    · refine f_iconst F 4294967295 dX7_submit_67 rfl ?_
                      exact g_iret F hr hlk dX7_submit_68 ⟨congrArg (fun t => some (Value.int (Int32.ofNat t))) (Eq.symm (by unfold r_X7_submit; first | simp only [if_pos h4, if_neg h9, if_pos h14, if_pos h21, if_pos h35, if_neg h40, if_pos h46, if_neg h53, if_pos h58, if_neg h64] | rfl)), congrArg (fun t => rwld cI cZ t ad) (Eq.symm (by unfold w_X7_submit; first | simp only [if_pos h4, if_neg h9, if_pos h14, if_pos h21, if_pos h35, if_neg h40, if_pos h46, if_neg h53, if_pos h58, if_neg h64] | rfl))⟩
              · refine f_iconst F 4294967295 dX7_submit_49 rfl ?_
                exact g_iret F hr hlk dX7_submit_50 ⟨congrArg (fun t => some (Value.int (Int32.ofNat t))) (Eq.symm (by unfold r_X7_submit; first | simp only [if_pos h4, if_neg h9, if_pos h14, if_pos h21, if_pos h35, if_neg h40, if_neg h46] | rfl)), congrArg (fun t => rwld cI cZ t ad) (Eq.symm (by unfold w_X7_submit; first | simp only [if_pos h4, if_neg h9, if_pos h14, if_pos h21, if_pos h35, if_neg h40, if_neg h46] | rfl))⟩
        · refine g_iload_n F dX7_submit_24 3 rfl ?_
          refine f_callS F (av := [.int (Int32.ofNat pa)]) (rest := []) (st' := [.int (Int32.ofNat (r_X7_isPath a pa))]) (k_X7_isPath l D cI cS cZ ad a pa) tb_494 tb_492 tb_493 tb_8 hdX7_isPath ⟨rfl, rfl⟩ ⟨Nat.le_of_ble_eq_true rfl, Nat.le_of_ble_eq_true rfl⟩ rw_adr rfl rfl (Nat.le_of_ble_eq_true rfl) ⟨Nat.le_refl _, Nat.le_refl _⟩ dX7_submit_25 rfl ?_
          refine g_if_ne F dX7_submit_28 (tgt := 33) rfl (fun h28 => ?_) (fun h28 => ?_)
          · refine g_iload_n F dX7_submit_33 2 rfl ?_
            refine f_iconst F 1 dX7_submit_34 rfl ?_
            refine g_icmp_ne F dX7_submit_35 (tgt := 51) rfl (fun h35 => ?_) (fun h35 => ?_)
            · refine g_iload_n F dX7_submit_51 2 rfl ?_
              refine f_iconst F 2 dX7_submit_52 rfl ?_
              refine g_icmp_eq F dX7_submit_53 (tgt := 61) rfl (fun h53 => ?_) (fun h53 => ?_)
              · refine g_iload F dX7_submit_61 5 rfl ?_
                refine f_iconst F 4294967295 dX7_submit_63 rfl ?_
                refine g_icmp_ge F dX7_submit_64 (tgt := 69) rfl (fun h64 => ?_) (fun h64 => ?_)
                · refine g_iload_n F dX7_submit_69 2 rfl ?_
                  refine f_iconst F 4 dX7_submit_70 rfl ?_
                  refine g_icmp_lt F dX7_submit_71 (tgt := 88) rfl (fun h71 => ?_) (fun h71 => ?_)
                  · refine g_aload_n F dX7_submit_88 0 rfl ?_
                    refine f_get F inX7 ql_RM rfl 0 (by decide) tb_357 rfl (v := .ref (ad 1)) rfl dX7_submit_89 ?_
                    refine g_iload_n F dX7_submit_92 1 rfl ?_
                    refine f_ald F 0 ql_0 rfl (j := v) (by have g0 := out0 h4 hk; omega) (by decide) dX7_submit_93 ?_
                    refine f_iconst F 4 dX7_submit_94 rfl ?_
                    refine g_icmp_eq F dX7_submit_95 (tgt := 101) rfl (fun h95 => ?_) (fun h95 => ?_)
                    · refine g_aload_n F dX7_submit_101 0 rfl ?_
                      refine f_get F inX7 ql_RM rfl 4 (by decide) tb_361 rfl (v := .ref (ad 5)) rfl dX7_submit_102 ?_
                      refine g_iload_n F dX7_submit_105 1 rfl ?_
                      refine f_ald F 0 ql_4 rfl (j := v) (by have g0 := out0 h4 hk; omega) (by decide) dX7_submit_106 ?_
                      refine f_bipush F 24 dX7_submit_107 rfl ?_
                      refine g_icmp_ne F dX7_submit_109 (tgt := 115) rfl (fun h109 => ?_) (fun h109 => ?_)
                      · refine g_aload_n F dX7_submit_115 0 rfl ?_
                        refine g_iload_n F dX7_submit_116 1 rfl ?_
                        refine g_iload_n F dX7_submit_117 2 rfl ?_
                        refine g_iload_n F dX7_submit_118 3 rfl ?_
                        refine g_iload F dX7_submit_119 4 rfl ?_
                        refine g_iload F dX7_submit_121 5 rfl ?_
                        refine f_callV F (As := [.int (Int32.ofNat v), .int (Int32.ofNat kd), .int (Int32.ofNat pa), .int (Int32.ofNat va), .int (Int32.ofNat vb)]) (rest := []) (st' := []) (k_X7_make l D cI cS cZ ad a v kd pa va vb (out0 h4 hk) (by have g1 := hq v (out0 h4 hk); have g2 : a 4 v ≠ 24 := fun e => h109 (by rw [e]); omega) (fun s hs => by have := hq s hs; omega)) ql_RM rfl tb_497 tb_495 tb_496 tb_618 tb_8 ⟨rfl, hdX7_make⟩ ⟨rfl, rfl⟩ ⟨Nat.le_of_ble_eq_true rfl, Nat.le_of_ble_eq_true rfl⟩ rw_adr rfl rfl (Nat.le_of_ble_eq_true rfl) ⟨Nat.le_refl _, Nat.le_refl _⟩ dX7_submit_123 rfl ?_
                        refine g_aload_n F dX7_submit_126 0 rfl ?_
                        refine f_get F inX7 ql_RM rfl 4 (by decide) tb_361 rfl (v := .ref (ad 5)) rfl dX7_submit_127 ?_
                        refine g_iload_n F dX7_submit_130 1 rfl ?_
                        refine f_ald F 0 ql_4 rfl (j := v) (by have g0 := out0 h4 hk; omega) (by decide) dX7_submit_131 ?_
                        exact g_iret F hr hlk dX7_submit_132 ⟨congrArg (fun t => some (Value.int (Int32.ofNat t))) (Eq.symm (by unfold r_X7_submit; first | simp only [if_pos h4, if_neg h9, if_pos h14, if_neg h21, if_neg h28, if_neg h35, if_pos h53, if_pos h64, if_pos h71, if_pos h95, if_neg h109] | rfl)), congrArg (fun t => rwld cI cZ t ad) (Eq.symm (by unfold w_X7_submit; first | simp only [if_pos h4, if_neg h9, if_pos h14, if_neg h21, if_neg h28, if_neg h35, if_pos h53, if_pos h64, if_pos h71, if_pos h95, if_neg h109] | rfl))⟩
                      · refine f_bipush F 4294967293 dX7_submit_112 rfl ?_
                        exact g_iret F hr hlk dX7_submit_114 ⟨congrArg (fun t => some (Value.int (Int32.ofNat t))) (Eq.symm (by unfold r_X7_submit; first | simp only [if_pos h4, if_neg h9, if_pos h14, if_neg h21, if_neg h28, if_neg h35, if_pos h53, if_pos h64, if_pos h71, if_pos h95, if_pos h109] | rfl)), congrArg (fun t => rwld cI cZ t ad) (Eq.symm (by unfold w_X7_submit; first | simp only [if_pos h4, if_neg h9, if_pos h14, if_neg h21, if_neg h28, if_neg h35, if_pos h53, if_pos h64, if_pos h71, if_pos h95, if_pos h109] | rfl))⟩
                    · refine f_bipush F 4294967294 dX7_submit_98 rfl ?_
                      exact g_iret F hr hlk dX7_submit_100 ⟨congrArg (fun t => some (Value.int (Int32.ofNat t))) (Eq.symm (by unfold r_X7_submit; first | simp only [if_pos h4, if_neg h9, if_pos h14, if_neg h21, if_neg h28, if_neg h35, if_pos h53, if_pos h64, if_pos h71, if_neg h95] | rfl)), congrArg (fun t => rwld cI cZ t ad) (Eq.symm (by unfold w_X7_submit; first | simp only [if_pos h4, if_neg h9, if_pos h14, if_neg h21, if_neg h28, if_neg h35, if_pos h53, if_pos h64, if_pos h71, if_neg h95] | rfl))⟩
                  · refine g_iload F dX7_submit_74 5 rfl ?_
                    refine f_iconst F 1 dX7_submit_76 rfl ?_
                    refine g_icmp_lt F dX7_submit_77 (tgt := 86) rfl (fun h77 => ?_) (fun h77 => ?_)
                    · refine f_iconst F 4294967295 dX7_submit_86 rfl ?_
                      exact g_iret F hr hlk dX7_submit_87 ⟨congrArg (fun t => some (Value.int (Int32.ofNat t))) (Eq.symm (by unfold r_X7_submit; first | simp only [if_pos h4, if_neg h9, if_pos h14, if_neg h21, if_neg h28, if_neg h35, if_pos h53, if_pos h64, if_neg h71, if_pos h77] | rfl)), congrArg (fun t => rwld cI cZ t ad) (Eq.symm (by unfold w_X7_submit; first | simp only [if_pos h4, if_neg h9, if_pos h14, if_neg h21, if_neg h28, if_neg h35, if_pos h53, if_pos h64, if_neg h71, if_pos h77] | rfl))⟩
                    · refine g_iload F dX7_submit_80 5 rfl ?_
                      refine f_iconst F 4 dX7_submit_82 rfl ?_
                      refine g_icmp_le F dX7_submit_83 (tgt := 88) rfl (fun h83 => ?_) (fun h83 => ?_)
                      · refine g_aload_n F dX7_submit_88 0 rfl ?_
                        refine f_get F inX7 ql_RM rfl 0 (by decide) tb_357 rfl (v := .ref (ad 1)) rfl dX7_submit_89 ?_
                        refine g_iload_n F dX7_submit_92 1 rfl ?_
                        refine f_ald F 0 ql_0 rfl (j := v) (by have g0 := out0 h4 hk; omega) (by decide) dX7_submit_93 ?_
                        refine f_iconst F 4 dX7_submit_94 rfl ?_
                        refine g_icmp_eq F dX7_submit_95 (tgt := 101) rfl (fun h95 => ?_) (fun h95 => ?_)
                        · refine g_aload_n F dX7_submit_101 0 rfl ?_
                          refine f_get F inX7 ql_RM rfl 4 (by decide) tb_361 rfl (v := .ref (ad 5)) rfl dX7_submit_102 ?_
                          refine g_iload_n F dX7_submit_105 1 rfl ?_
                          refine f_ald F 0 ql_4 rfl (j := v) (by have g0 := out0 h4 hk; omega) (by decide) dX7_submit_106 ?_
                          refine f_bipush F 24 dX7_submit_107 rfl ?_
                          refine g_icmp_ne F dX7_submit_109 (tgt := 115) rfl (fun h109 => ?_) (fun h109 => ?_)
                          · refine g_aload_n F dX7_submit_115 0 rfl ?_
                            refine g_iload_n F dX7_submit_116 1 rfl ?_
                            refine g_iload_n F dX7_submit_117 2 rfl ?_
                            refine g_iload_n F dX7_submit_118 3 rfl ?_
                            refine g_iload F dX7_submit_119 4 rfl ?_
                            refine g_iload F dX7_submit_121 5 rfl ?_
                            refine f_callV F (As := [.int (Int32.ofNat v), .int (Int32.ofNat kd), .int (Int32.ofNat pa), .int (Int32.ofNat va), .int (Int32.ofNat vb)]) (rest := []) (st' := []) (k_X7_make l D cI cS cZ ad a v kd pa va vb (out0 h4 hk) (by have g1 := hq v (out0 h4 hk); have g2 : a 4 v ≠ 24 := fun e => h109 (by rw [e]); omega) (fun s hs => by have := hq s hs; omega)) ql_RM rfl tb_497 tb_495 tb_496 tb_618 tb_8 ⟨rfl, hdX7_make⟩ ⟨rfl, rfl⟩ ⟨Nat.le_of_ble_eq_true rfl, Nat.le_of_ble_eq_true rfl⟩ rw_adr rfl rfl (Nat.le_of_ble_eq_true rfl) ⟨Nat.le_refl _, Nat.le_refl _⟩ dX7_submit_123 rfl ?_
                            refine g_aload_n F dX7_submit_126 0 rfl ?_
                            refine f_get F inX7 ql_RM rfl 4 (by decide) tb_361 rfl (v := .ref (ad 5)) rfl dX7_submit_127 ?_
                            refine g_iload_n F dX7_submit_130 1 rfl ?_
                            refine f_ald F 0 ql_4 rfl (j := v) (by have g0 := out0 h4 hk; omega) (by decide) dX7_submit_131 ?_
                            exact g_iret F hr hlk dX7_submit_132 ⟨congrArg (fun t => some (Value.int (Int32.ofNat t))) (Eq.symm (by unfold r_X7_submit; first | simp only [if_pos h4, if_neg h9, if_pos h14, if_neg h21, if_neg h28, if_neg h35, if_pos h53, if_pos h64, if_neg h71, if_neg h77, if_pos h83, if_pos h95, if_neg h109] | rfl)), congrArg (fun t => rwld cI cZ t ad) (Eq.symm (by unfold w_X7_submit; first | simp only [if_pos h4, if_neg h9, if_pos h14, if_neg h21, if_neg h28, if_neg h35, if_pos h53, if_pos h64, if_neg h71, if_neg h77, if_pos h83, if_pos h95, if_neg h109] | rfl))⟩
                          · refine f_bipush F 4294967293 dX7_submit_112 rfl ?_
                            exact g_iret F hr hlk dX7_submit_114 ⟨congrArg (fun t => some (Value.int (Int32.ofNat t))) (Eq.symm (by unfold r_X7_submit; first | simp only [if_pos h4, if_neg h9, if_pos h14, if_neg h21, if_neg h28, if_neg h35, if_pos h53, if_pos h64, if_neg h71, if_neg h77, if_pos h83, if_pos h95, if_pos h109] | rfl)), congrArg (fun t => rwld cI cZ t ad) (Eq.symm (by unfold w_X7_submit; first | simp only [if_pos h4, if_neg h9, if_pos h14, if_neg h21, if_neg h28, if_neg h35, if_pos h53, if_pos h64, if_neg h71, if_neg h77, if_pos h83, if_pos h95, if_pos h109] | rfl))⟩
                        · refine f_bipush F 4294967294 dX7_submit_98 rfl ?_
                          exact g_iret F hr hlk dX7_submit_100 ⟨congrArg (fun t => some (Value.int (Int32.ofNat t))) (Eq.symm (by unfold r_X7_submit; first | simp only [if_pos h4, if_neg h9, if_pos h14, if_neg h21, if_neg h28, if_neg h35, if_pos h53, if_pos h64, if_neg h71, if_neg h77, if_pos h83, if_neg h95] | rfl)), congrArg (fun t => rwld cI cZ t ad) (Eq.symm (by unfold w_X7_submit; first | simp only [if_pos h4, if_neg h9, if_pos h14, if_neg h21, if_neg h28, if_neg h35, if_pos h53, if_pos h64, if_neg h71, if_neg h77, if_pos h83, if_neg h95] | rfl))⟩
                      · refine f_iconst F 4294967295 dX7_submit_86 rfl ?_
                        exact g_iret F hr hlk dX7_submit_87 ⟨congrArg (fun t => some (Value.int (Int32.ofNat t))) (Eq.symm (by unfold r_X7_submit; first | simp only [if_pos h4, if_neg h9, if_pos h14, if_neg h21, if_neg h28, if_neg h35, if_pos h53, if_pos h64, if_neg h71, if_neg h77, if_neg h83] | rfl)), congrArg (fun t => rwld cI cZ t ad) (Eq.symm (by unfold w_X7_submit; first | simp only [if_pos h4, if_neg h9, if_pos h14, if_neg h21, if_neg h28, if_neg h35, if_pos h53, if_pos h64, if_neg h71, if_neg h77, if_neg h83] | rfl))⟩
                · refine f_iconst F 4294967295 dX7_submit_67 rfl ?_
                  exact g_iret F hr hlk dX7_submit_68 ⟨congrArg (fun t => some (Value.int (Int32.ofNat t))) (Eq.symm (by unfold r_X7_submit; first | simp only [if_pos h4, if_neg h9, if_pos h14, if_neg h21, if_neg h28, if_neg h35, if_pos h53, if_neg h64] | rfl)), congrArg (fun t => rwld cI cZ t ad) (Eq.symm (by unfold w_X7_submit; first | simp only [if_pos h4, if_neg h9, if_pos h14, if_neg h21, if_neg h28, if_neg h35, if_pos h53, if_neg h64] | rfl))⟩
              · refine g_iload_n F dX7_submit_56 2 rfl ?_
                refine f_iconst F 3 dX7_submit_57 rfl ?_
                refine g_icmp_ne F dX7_submit_58 (tgt := 69) rfl (fun h58 => ?_) (fun h58 => ?_)
                · refine g_iload_n F dX7_submit_69 2 rfl ?_
                  refine f_iconst F 4 dX7_submit_70 rfl ?_
                  refine g_icmp_lt F dX7_submit_71 (tgt := 88) rfl (fun h71 => ?_) (fun h71 => ?_)
                  · refine g_aload_n F dX7_submit_88 0 rfl ?_
                    refine f_get F inX7 ql_RM rfl 0 (by decide) tb_357 rfl (v := .ref (ad 1)) rfl dX7_submit_89 ?_
                    refine g_iload_n F dX7_submit_92 1 rfl ?_
                    refine f_ald F 0 ql_0 rfl (j := v) (by have g0 := out0 h4 hk; omega) (by decide) dX7_submit_93 ?_
                    refine f_iconst F 4 dX7_submit_94 rfl ?_
                    refine g_icmp_eq F dX7_submit_95 (tgt := 101) rfl (fun h95 => ?_) (fun h95 => ?_)
                    · refine g_aload_n F dX7_submit_101 0 rfl ?_
                      refine f_get F inX7 ql_RM rfl 4 (by decide) tb_361 rfl (v := .ref (ad 5)) rfl dX7_submit_102 ?_
                      refine g_iload_n F dX7_submit_105 1 rfl ?_
                      refine f_ald F 0 ql_4 rfl (j := v) (by have g0 := out0 h4 hk; omega) (by decide) dX7_submit_106 ?_
                      refine f_bipush F 24 dX7_submit_107 rfl ?_
                      refine g_icmp_ne F dX7_submit_109 (tgt := 115) rfl (fun h109 => ?_) (fun h109 => ?_)
                      · refine g_aload_n F dX7_submit_115 0 rfl ?_
                        refine g_iload_n F dX7_submit_116 1 rfl ?_
                        refine g_iload_n F dX7_submit_117 2 rfl ?_
                        refine g_iload_n F dX7_submit_118 3 rfl ?_
                        refine g_iload F dX7_submit_119 4 rfl ?_
                        refine g_iload F dX7_submit_121 5 rfl ?_
                        refine f_callV F (As := [.int (Int32.ofNat v), .int (Int32.ofNat kd), .int (Int32.ofNat pa), .int (Int32.ofNat va), .int (Int32.ofNat vb)]) (rest := []) (st' := []) (k_X7_make l D cI cS cZ ad a v kd pa va vb (out0 h4 hk) (by have g1 := hq v (out0 h4 hk); have g2 : a 4 v ≠ 24 := fun e => h109 (by rw [e]); omega) (fun s hs => by have := hq s hs; omega)) ql_RM rfl tb_497 tb_495 tb_496 tb_618 tb_8 ⟨rfl, hdX7_make⟩ ⟨rfl, rfl⟩ ⟨Nat.le_of_ble_eq_true rfl, Nat.le_of_ble_eq_true rfl⟩ rw_adr rfl rfl (Nat.le_of_ble_eq_true rfl) ⟨Nat.le_refl _, Nat.le_refl _⟩ dX7_submit_123 rfl ?_
                        refine g_aload_n F dX7_submit_126 0 rfl ?_
                        refine f_get F inX7 ql_RM rfl 4 (by decide) tb_361 rfl (v := .ref (ad 5)) rfl dX7_submit_127 ?_
                        refine g_iload_n F dX7_submit_130 1 rfl ?_
                        refine f_ald F 0 ql_4 rfl (j := v) (by have g0 := out0 h4 hk; omega) (by decide) dX7_submit_131 ?_
                        exact g_iret F hr hlk dX7_submit_132 ⟨congrArg (fun t => some (Value.int (Int32.ofNat t))) (Eq.symm (by unfold r_X7_submit; first | simp only [if_pos h4, if_neg h9, if_pos h14, if_neg h21, if_neg h28, if_neg h35, if_neg h53, if_neg h58, if_pos h71, if_pos h95, if_neg h109] | rfl)), congrArg (fun t => rwld cI cZ t ad) (Eq.symm (by unfold w_X7_submit; first | simp only [if_pos h4, if_neg h9, if_pos h14, if_neg h21, if_neg h28, if_neg h35, if_neg h53, if_neg h58, if_pos h71, if_pos h95, if_neg h109] | rfl))⟩
                      · refine f_bipush F 4294967293 dX7_submit_112 rfl ?_
                        exact g_iret F hr hlk dX7_submit_114 ⟨congrArg (fun t => some (Value.int (Int32.ofNat t))) (Eq.symm (by unfold r_X7_submit; first | simp only [if_pos h4, if_neg h9, if_pos h14, if_neg h21, if_neg h28, if_neg h35, if_neg h53, if_neg h58, if_pos h71, if_pos h95, if_pos h109] | rfl)), congrArg (fun t => rwld cI cZ t ad) (Eq.symm (by unfold w_X7_submit; first | simp only [if_pos h4, if_neg h9, if_pos h14, if_neg h21, if_neg h28, if_neg h35, if_neg h53, if_neg h58, if_pos h71, if_pos h95, if_pos h109] | rfl))⟩
                    · refine f_bipush F 4294967294 dX7_submit_98 rfl ?_
                      exact g_iret F hr hlk dX7_submit_100 ⟨congrArg (fun t => some (Value.int (Int32.ofNat t))) (Eq.symm (by unfold r_X7_submit; first | simp only [if_pos h4, if_neg h9, if_pos h14, if_neg h21, if_neg h28, if_neg h35, if_neg h53, if_neg h58, if_pos h71, if_neg h95] | rfl)), congrArg (fun t => rwld cI cZ t ad) (Eq.symm (by unfold w_X7_submit; first | simp only [if_pos h4, if_neg h9, if_pos h14, if_neg h21, if_neg h28, if_neg h35, if_neg h53, if_neg h58, if_pos h71, if_neg h95] | rfl))⟩
                  · refine g_iload F dX7_submit_74 5 rfl ?_
                    refine f_iconst F 1 dX7_submit_76 rfl ?_
                    refine g_icmp_lt F dX7_submit_77 (tgt := 86) rfl (fun h77 => ?_) (fun h77 => ?_)
                    · refine f_iconst F 4294967295 dX7_submit_86 rfl ?_
                      exact g_iret F hr hlk dX7_submit_87 ⟨congrArg (fun t => some (Value.int (Int32.ofNat t))) (Eq.symm (by unfold r_X7_submit; first | simp only [if_pos h4, if_neg h9, if_pos h14, if_neg h21, if_neg h28, if_neg h35, if_neg h53, if_neg h58, if_neg h71, if_pos h77] | rfl)), congrArg (fun t => rwld cI cZ t ad) (Eq.symm (by unfold w_X7_submit; first | simp only [if_pos h4, if_neg h9, if_pos h14, if_neg h21, if_neg h28, if_neg h35, if_neg h53, if_neg h58, if_neg h71, if_pos h77] | rfl))⟩
                    · refine g_iload F dX7_submit_80 5 rfl ?_
                      refine f_iconst F 4 dX7_submit_82 rfl ?_
                      refine g_icmp_le F dX7_submit_83 (tgt := 88) rfl (fun h83 => ?_) (fun h83 => ?_)
                      · refine g_aload_n F dX7_submit_88 0 rfl ?_
                        refine f_get F inX7 ql_RM rfl 0 (by decide) tb_357 rfl (v := .ref (ad 1)) rfl dX7_submit_89 ?_
                        refine g_iload_n F dX7_submit_92 1 rfl ?_
                        refine f_ald F 0 ql_0 rfl (j := v) (by have g0 := out0 h4 hk; omega) (by decide) dX7_submit_93 ?_
                        refine f_iconst F 4 dX7_submit_94 rfl ?_
                        refine g_icmp_eq F dX7_submit_95 (tgt := 101) rfl (fun h95 => ?_) (fun h95 => ?_)
                        · refine g_aload_n F dX7_submit_101 0 rfl ?_
                          refine f_get F inX7 ql_RM rfl 4 (by decide) tb_361 rfl (v := .ref (ad 5)) rfl dX7_submit_102 ?_
                          refine g_iload_n F dX7_submit_105 1 rfl ?_
                          refine f_ald F 0 ql_4 rfl (j := v) (by have g0 := out0 h4 hk; omega) (by decide) dX7_submit_106 ?_
                          refine f_bipush F 24 dX7_submit_107 rfl ?_
                          refine g_icmp_ne F dX7_submit_109 (tgt := 115) rfl (fun h109 => ?_) (fun h109 => ?_)
                          · refine g_aload_n F dX7_submit_115 0 rfl ?_
                            refine g_iload_n F dX7_submit_116 1 rfl ?_
                            refine g_iload_n F dX7_submit_117 2 rfl ?_
                            refine g_iload_n F dX7_submit_118 3 rfl ?_
                            refine g_iload F dX7_submit_119 4 rfl ?_
                            refine g_iload F dX7_submit_121 5 rfl ?_
                            refine f_callV F (As := [.int (Int32.ofNat v), .int (Int32.ofNat kd), .int (Int32.ofNat pa), .int (Int32.ofNat va), .int (Int32.ofNat vb)]) (rest := []) (st' := []) (k_X7_make l D cI cS cZ ad a v kd pa va vb (out0 h4 hk) (by have g1 := hq v (out0 h4 hk); have g2 : a 4 v ≠ 24 := fun e => h109 (by rw [e]); omega) (fun s hs => by have := hq s hs; omega)) ql_RM rfl tb_497 tb_495 tb_496 tb_618 tb_8 ⟨rfl, hdX7_make⟩ ⟨rfl, rfl⟩ ⟨Nat.le_of_ble_eq_true rfl, Nat.le_of_ble_eq_true rfl⟩ rw_adr rfl rfl (Nat.le_of_ble_eq_true rfl) ⟨Nat.le_refl _, Nat.le_refl _⟩ dX7_submit_123 rfl ?_
                            refine g_aload_n F dX7_submit_126 0 rfl ?_
                            refine f_get F inX7 ql_RM rfl 4 (by decide) tb_361 rfl (v := .ref (ad 5)) rfl dX7_submit_127 ?_
                            refine g_iload_n F dX7_submit_130 1 rfl ?_
                            refine f_ald F 0 ql_4 rfl (j := v) (by have g0 := out0 h4 hk; omega) (by decide) dX7_submit_131 ?_
                            exact g_iret F hr hlk dX7_submit_132 ⟨congrArg (fun t => some (Value.int (Int32.ofNat t))) (Eq.symm (by unfold r_X7_submit; first | simp only [if_pos h4, if_neg h9, if_pos h14, if_neg h21, if_neg h28, if_neg h35, if_neg h53, if_neg h58, if_neg h71, if_neg h77, if_pos h83, if_pos h95, if_neg h109] | rfl)), congrArg (fun t => rwld cI cZ t ad) (Eq.symm (by unfold w_X7_submit; first | simp only [if_pos h4, if_neg h9, if_pos h14, if_neg h21, if_neg h28, if_neg h35, if_neg h53, if_neg h58, if_neg h71, if_neg h77, if_pos h83, if_pos h95, if_neg h109] | rfl))⟩
                          · refine f_bipush F 4294967293 dX7_submit_112 rfl ?_
                            exact g_iret F hr hlk dX7_submit_114 ⟨congrArg (fun t => some (Value.int (Int32.ofNat t))) (Eq.symm (by unfold r_X7_submit; first | simp only [if_pos h4, if_neg h9, if_pos h14, if_neg h21, if_neg h28, if_neg h35, if_neg h53, if_neg h58, if_neg h71, if_neg h77, if_pos h83, if_pos h95, if_pos h109] | rfl)), congrArg (fun t => rwld cI cZ t ad) (Eq.symm (by unfold w_X7_submit; first | simp only [if_pos h4, if_neg h9, if_pos h14, if_neg h21, if_neg h28, if_neg h35, if_neg h53, if_neg h58, if_neg h71, if_neg h77, if_pos h83, if_pos h95, if_pos h109] | rfl))⟩
                        · refine f_bipush F 4294967294 dX7_submit_98 rfl ?_
                          exact g_iret F hr hlk dX7_submit_100 ⟨congrArg (fun t => some (Value.int (Int32.ofNat t))) (Eq.symm (by unfold r_X7_submit; first | simp only [if_pos h4, if_neg h9, if_pos h14, if_neg h21, if_neg h28, if_neg h35, if_neg h53, if_neg h58, if_neg h71, if_neg h77, if_pos h83, if_neg h95] | rfl)), congrArg (fun t => rwld cI cZ t ad) (Eq.symm (by unfold w_X7_submit; first | simp only [if_pos h4, if_neg h9, if_pos h14, if_neg h21, if_neg h28, if_neg h35, if_neg h53, if_neg h58, if_neg h71, if_neg h77, if_pos h83, if_neg h95] | rfl))⟩
                      · refine f_iconst F 4294967295 dX7_submit_86 rfl ?_
                        exact g_iret F hr hlk dX7_submit_87 ⟨congrArg (fun t => some (Value.int (Int32.ofNat t))) (Eq.symm (by unfold r_X7_submit; first | simp only [if_pos h4, if_neg h9, if_pos h14, if_neg h21, if_neg h28, if_neg h35, if_neg h53, if_neg h58, if_neg h71, if_neg h77, if_neg h83] | rfl)), congrArg (fun t => rwld cI cZ t ad) (Eq.symm (by unfold w_X7_submit; first | simp only [if_pos h4, if_neg h9, if_pos h14, if_neg h21, if_neg h28, if_neg h35, if_neg h53, if_neg h58, if_neg h71, if_neg h77, if_neg h83] | rfl))⟩
                · refine g_iload F dX7_submit_61 5 rfl ?_
                  refine f_iconst F 4294967295 dX7_submit_63 rfl ?_
                  refine g_icmp_ge F dX7_submit_64 (tgt := 69) rfl (fun h64 => ?_) (fun h64 => ?_)
                  · refine g_iload_n F dX7_submit_69 2 rfl ?_
                    refine f_iconst F 4 dX7_submit_70 rfl ?_
                    refine g_icmp_lt F dX7_submit_71 (tgt := 88) rfl (fun h71 => ?_) (fun h71 => ?_)
                    · refine g_aload_n F dX7_submit_88 0 rfl ?_
                      refine f_get F inX7 ql_RM rfl 0 (by decide) tb_357 rfl (v := .ref (ad 1)) rfl dX7_submit_89 ?_
                      refine g_iload_n F dX7_submit_92 1 rfl ?_
                      refine f_ald F 0 ql_0 rfl (j := v) (by have g0 := out0 h4 hk; omega) (by decide) dX7_submit_93 ?_
                      refine f_iconst F 4 dX7_submit_94 rfl ?_
                      refine g_icmp_eq F dX7_submit_95 (tgt := 101) rfl (fun h95 => ?_) (fun h95 => ?_)
                      · refine g_aload_n F dX7_submit_101 0 rfl ?_
                        refine f_get F inX7 ql_RM rfl 4 (by decide) tb_361 rfl (v := .ref (ad 5)) rfl dX7_submit_102 ?_
                        refine g_iload_n F dX7_submit_105 1 rfl ?_
                        refine f_ald F 0 ql_4 rfl (j := v) (by have g0 := out0 h4 hk; omega) (by decide) dX7_submit_106 ?_
                        refine f_bipush F 24 dX7_submit_107 rfl ?_
                        refine g_icmp_ne F dX7_submit_109 (tgt := 115) rfl (fun h109 => ?_) (fun h109 => ?_)
                        · refine g_aload_n F dX7_submit_115 0 rfl ?_
                          refine g_iload_n F dX7_submit_116 1 rfl ?_
                          refine g_iload_n F dX7_submit_117 2 rfl ?_
                          refine g_iload_n F dX7_submit_118 3 rfl ?_
                          refine g_iload F dX7_submit_119 4 rfl ?_
                          refine g_iload F dX7_submit_121 5 rfl ?_
                          refine f_callV F (As := [.int (Int32.ofNat v), .int (Int32.ofNat kd), .int (Int32.ofNat pa), .int (Int32.ofNat va), .int (Int32.ofNat vb)]) (rest := []) (st' := []) (k_X7_make l D cI cS cZ ad a v kd pa va vb (out0 h4 hk) (by have g1 := hq v (out0 h4 hk); have g2 : a 4 v ≠ 24 := fun e => h109 (by rw [e]); omega) (fun s hs => by have := hq s hs; omega)) ql_RM rfl tb_497 tb_495 tb_496 tb_618 tb_8 ⟨rfl, hdX7_make⟩ ⟨rfl, rfl⟩ ⟨Nat.le_of_ble_eq_true rfl, Nat.le_of_ble_eq_true rfl⟩ rw_adr rfl rfl (Nat.le_of_ble_eq_true rfl) ⟨Nat.le_refl _, Nat.le_refl _⟩ dX7_submit_123 rfl ?_
                          refine g_aload_n F dX7_submit_126 0 rfl ?_
                          refine f_get F inX7 ql_RM rfl 4 (by decide) tb_361 rfl (v := .ref (ad 5)) rfl dX7_submit_127 ?_
                          refine g_iload_n F dX7_submit_130 1 rfl ?_
                          refine f_ald F 0 ql_4 rfl (j := v) (by have g0 := out0 h4 hk; omega) (by decide) dX7_submit_131 ?_
                          exact g_iret F hr hlk dX7_submit_132 ⟨congrArg (fun t => some (Value.int (Int32.ofNat t))) (Eq.symm (by unfold r_X7_submit; first | simp only [if_pos h4, if_neg h9, if_pos h14, if_neg h21, if_neg h28, if_neg h35, if_neg h53, if_pos h58, if_pos h64, if_pos h71, if_pos h95, if_neg h109] | rfl)), congrArg (fun t => rwld cI cZ t ad) (Eq.symm (by unfold w_X7_submit; first | simp only [if_pos h4, if_neg h9, if_pos h14, if_neg h21, if_neg h28, if_neg h35, if_neg h53, if_pos h58, if_pos h64, if_pos h71, if_pos h95, if_neg h109] | rfl))⟩
                        · refine f_bipush F 4294967293 dX7_submit_112 rfl ?_
                          exact g_iret F hr hlk dX7_submit_114 ⟨congrArg (fun t => some (Value.int (Int32.ofNat t))) (Eq.symm (by unfold r_X7_submit; first | simp only [if_pos h4, if_neg h9, if_pos h14, if_neg h21, if_neg h28, if_neg h35, if_neg h53, if_pos h58, if_pos h64, if_pos h71, if_pos h95, if_pos h109] | rfl)), congrArg (fun t => rwld cI cZ t ad) (Eq.symm (by unfold w_X7_submit; first | simp only [if_pos h4, if_neg h9, if_pos h14, if_neg h21, if_neg h28, if_neg h35, if_neg h53, if_pos h58, if_pos h64, if_pos h71, if_pos h95, if_pos h109] | rfl))⟩
                      · refine f_bipush F 4294967294 dX7_submit_98 rfl ?_
                        exact g_iret F hr hlk dX7_submit_100 ⟨congrArg (fun t => some (Value.int (Int32.ofNat t))) (Eq.symm (by unfold r_X7_submit; first | simp only [if_pos h4, if_neg h9, if_pos h14, if_neg h21, if_neg h28, if_neg h35, if_neg h53, if_pos h58, if_pos h64, if_pos h71, if_neg h95] | rfl)), congrArg (fun t => rwld cI cZ t ad) (Eq.symm (by unfold w_X7_submit; first | simp only [if_pos h4, if_neg h9, if_pos h14, if_neg h21, if_neg h28, if_neg h35, if_neg h53, if_pos h58, if_pos h64, if_pos h71, if_neg h95] | rfl))⟩
                    · refine g_iload F dX7_submit_74 5 rfl ?_
                      refine f_iconst F 1 dX7_submit_76 rfl ?_
                      refine g_icmp_lt F dX7_submit_77 (tgt := 86) rfl (fun h77 => ?_) (fun h77 => ?_)
                      · refine f_iconst F 4294967295 dX7_submit_86 rfl ?_
                        exact g_iret F hr hlk dX7_submit_87 ⟨congrArg (fun t => some (Value.int (Int32.ofNat t))) (Eq.symm (by unfold r_X7_submit; first | simp only [if_pos h4, if_neg h9, if_pos h14, if_neg h21, if_neg h28, if_neg h35, if_neg h53, if_pos h58, if_pos h64, if_neg h71, if_pos h77] | rfl)), congrArg (fun t => rwld cI cZ t ad) (Eq.symm (by unfold w_X7_submit; first | simp only [if_pos h4, if_neg h9, if_pos h14, if_neg h21, if_neg h28, if_neg h35, if_neg h53, if_pos h58, if_pos h64, if_neg h71, if_pos h77] | rfl))⟩
                      · refine g_iload F dX7_submit_80 5 rfl ?_
                        refine f_iconst F 4 dX7_submit_82 rfl ?_
                        refine g_icmp_le F dX7_submit_83 (tgt := 88) rfl (fun h83 => ?_) (fun h83 => ?_)
                        · refine g_aload_n F dX7_submit_88 0 rfl ?_
                          refine f_get F inX7 ql_RM rfl 0 (by decide) tb_357 rfl (v := .ref (ad 1)) rfl dX7_submit_89 ?_
                          refine g_iload_n F dX7_submit_92 1 rfl ?_
                          refine f_ald F 0 ql_0 rfl (j := v) (by have g0 := out0 h4 hk; omega) (by decide) dX7_submit_93 ?_
                          refine f_iconst F 4 dX7_submit_94 rfl ?_
                          refine g_icmp_eq F dX7_submit_95 (tgt := 101) rfl (fun h95 => ?_) (fun h95 => ?_)
                          · refine g_aload_n F dX7_submit_101 0 rfl ?_
                            refine f_get F inX7 ql_RM rfl 4 (by decide) tb_361 rfl (v := .ref (ad 5)) rfl dX7_submit_102 ?_
                            refine g_iload_n F dX7_submit_105 1 rfl ?_
                            refine f_ald F 0 ql_4 rfl (j := v) (by have g0 := out0 h4 hk; omega) (by decide) dX7_submit_106 ?_
                            refine f_bipush F 24 dX7_submit_107 rfl ?_
                            refine g_icmp_ne F dX7_submit_109 (tgt := 115) rfl (fun h109 => ?_) (fun h109 => ?_)
                            · refine g_aload_n F dX7_submit_115 0 rfl ?_
                              refine g_iload_n F dX7_submit_116 1 rfl ?_
                              refine g_iload_n F dX7_submit_117 2 rfl ?_
                              refine g_iload_n F dX7_submit_118 3 rfl ?_
                              refine g_iload F dX7_submit_119 4 rfl ?_
                              refine g_iload F dX7_submit_121 5 rfl ?_
                              refine f_callV F (As := [.int (Int32.ofNat v), .int (Int32.ofNat kd), .int (Int32.ofNat pa), .int (Int32.ofNat va), .int (Int32.ofNat vb)]) (rest := []) (st' := []) (k_X7_make l D cI cS cZ ad a v kd pa va vb (out0 h4 hk) (by have g1 := hq v (out0 h4 hk); have g2 : a 4 v ≠ 24 := fun e => h109 (by rw [e]); omega) (fun s hs => by have := hq s hs; omega)) ql_RM rfl tb_497 tb_495 tb_496 tb_618 tb_8 ⟨rfl, hdX7_make⟩ ⟨rfl, rfl⟩ ⟨Nat.le_of_ble_eq_true rfl, Nat.le_of_ble_eq_true rfl⟩ rw_adr rfl rfl (Nat.le_of_ble_eq_true rfl) ⟨Nat.le_refl _, Nat.le_refl _⟩ dX7_submit_123 rfl ?_
                              refine g_aload_n F dX7_submit_126 0 rfl ?_
                              refine f_get F inX7 ql_RM rfl 4 (by decide) tb_361 rfl (v := .ref (ad 5)) rfl dX7_submit_127 ?_
                              refine g_iload_n F dX7_submit_130 1 rfl ?_
                              refine f_ald F 0 ql_4 rfl (j := v) (by have g0 := out0 h4 hk; omega) (by decide) dX7_submit_131 ?_
                              exact g_iret F hr hlk dX7_submit_132 ⟨congrArg (fun t => some (Value.int (Int32.ofNat t))) (Eq.symm (by unfold r_X7_submit; first | simp only [if_pos h4, if_neg h9, if_pos h14, if_neg h21, if_neg h28, if_neg h35, if_neg h53, if_pos h58, if_pos h64, if_neg h71, if_neg h77, if_pos h83, if_pos h95, if_neg h109] | rfl)), congrArg (fun t => rwld cI cZ t ad) (Eq.symm (by unfold w_X7_submit; first | simp only [if_pos h4, if_neg h9, if_pos h14, if_neg h21, if_neg h28, if_neg h35, if_neg h53, if_pos h58, if_pos h64, if_neg h71, if_neg h77, if_pos h83, if_pos h95, if_neg h109] | rfl))⟩
                            · refine f_bipush F 4294967293 dX7_submit_112 rfl ?_
                              exact g_iret F hr hlk dX7_submit_114 ⟨congrArg (fun t => some (Value.int (Int32.ofNat t))) (Eq.symm (by unfold r_X7_submit; first | simp only [if_pos h4, if_neg h9, if_pos h14, if_neg h21, if_neg h28, if_neg h35, if_neg h53, if_pos h58, if_pos h64, if_neg h71, if_neg h77, if_pos h83, if_pos h95, if_pos h109] | rfl)), congrArg (fun t => rwld cI cZ t ad) (Eq.symm (by unfold w_X7_submit; first | simp only [if_pos h4, if_neg h9, if_pos h14, if_neg h21, if_neg h28, if_neg h35, if_neg h53, if_pos h58, if_pos h64, if_neg h71, if_neg h77, if_pos h83, if_pos h95, if_pos h109] | rfl))⟩
                          · refine f_bipush F 4294967294 dX7_submit_98 rfl ?_
                            exact g_iret F hr hlk dX7_submit_100 ⟨congrArg (fun t => some (Value.int (Int32.ofNat t))) (Eq.symm (by unfold r_X7_submit; first | simp only [if_pos h4, if_neg h9, if_pos h14, if_neg h21, if_neg h28, if_neg h35, if_neg h53, if_pos h58, if_pos h64, if_neg h71, if_neg h77, if_pos h83, if_neg h95] | rfl)), congrArg (fun t => rwld cI cZ t ad) (Eq.symm (by unfold w_X7_submit; first | simp only [if_pos h4, if_neg h9, if_pos h14, if_neg h21, if_neg h28, if_neg h35, if_neg h53, if_pos h58, if_pos h64, if_neg h71, if_neg h77, if_pos h83, if_neg h95] | rfl))⟩
                        · refine f_iconst F 4294967295 dX7_submit_86 rfl ?_
                          exact g_iret F hr hlk dX7_submit_87 ⟨congrArg (fun t => some (Value.int (Int32.ofNat t))) (Eq.symm (by unfold r_X7_submit; first | simp only [if_pos h4, if_neg h9, if_pos h14, if_neg h21, if_neg h28, if_neg h35, if_neg h53, if_pos h58, if_pos h64, if_neg h71, if_neg h77, if_neg h83] | rfl)), congrArg (fun t => rwld cI cZ t ad) (Eq.symm (by unfold w_X7_submit; first | simp only [if_pos h4, if_neg h9, if_pos h14, if_neg h21, if_neg h28, if_neg h35, if_neg h53, if_pos h58, if_pos h64, if_neg h71, if_neg h77, if_neg h83] | rfl))⟩
                  · refine f_iconst F 4294967295 dX7_submit_67 rfl ?_
                    exact g_iret F hr hlk dX7_submit_68 ⟨congrArg (fun t => some (Value.int (Int32.ofNat t))) (Eq.symm (by unfold r_X7_submit; first | simp only [if_pos h4, if_neg h9, if_pos h14, if_neg h21, if_neg h28, if_neg h35, if_neg h53, if_pos h58, if_neg h64] | rfl)), congrArg (fun t => rwld cI cZ t ad) (Eq.symm (by unfold w_X7_submit; first | simp only [if_pos h4, if_neg h9, if_pos h14, if_neg h21, if_neg h28, if_neg h35, if_neg h53, if_pos h58, if_neg h64] | rfl))⟩
            · refine g_iload F dX7_submit_38 5 rfl ?_
              refine g_if_lt F dX7_submit_40 (tgt := 49) rfl (fun h40 => ?_) (fun h40 => ?_)
              · refine f_iconst F 4294967295 dX7_submit_49 rfl ?_
                exact g_iret F hr hlk dX7_submit_50 ⟨congrArg (fun t => some (Value.int (Int32.ofNat t))) (Eq.symm (by unfold r_X7_submit; first | simp only [if_pos h4, if_neg h9, if_pos h14, if_neg h21, if_neg h28, if_pos h35, if_pos h40] | rfl)), congrArg (fun t => rwld cI cZ t ad) (Eq.symm (by unfold w_X7_submit; first | simp only [if_pos h4, if_neg h9, if_pos h14, if_neg h21, if_neg h28, if_pos h35, if_pos h40] | rfl))⟩
              · refine g_iload F dX7_submit_43 5 rfl ?_
                refine f_iconst F 4 dX7_submit_45 rfl ?_
                refine g_icmp_le F dX7_submit_46 (tgt := 51) rfl (fun h46 => ?_) (fun h46 => ?_)
                · refine g_iload_n F dX7_submit_51 2 rfl ?_
                  refine f_iconst F 2 dX7_submit_52 rfl ?_
                  refine g_icmp_eq F dX7_submit_53 (tgt := 61) rfl (fun h53 => ?_) (fun h53 => ?_)
                  · refine g_iload F dX7_submit_61 5 rfl ?_
                    refine f_iconst F 4294967295 dX7_submit_63 rfl ?_
                    refine g_icmp_ge F dX7_submit_64 (tgt := 69) rfl (fun h64 => ?_) (fun h64 => ?_)
                    · refine g_iload_n F dX7_submit_69 2 rfl ?_
                      refine f_iconst F 4 dX7_submit_70 rfl ?_
                      refine g_icmp_lt F dX7_submit_71 (tgt := 88) rfl (fun h71 => ?_) (fun h71 => ?_)
                      · refine g_aload_n F dX7_submit_88 0 rfl ?_
                        refine f_get F inX7 ql_RM rfl 0 (by decide) tb_357 rfl (v := .ref (ad 1)) rfl dX7_submit_89 ?_
                        refine g_iload_n F dX7_submit_92 1 rfl ?_
                        refine f_ald F 0 ql_0 rfl (j := v) (by have g0 := out0 h4 hk; omega) (by decide) dX7_submit_93 ?_
                        refine f_iconst F 4 dX7_submit_94 rfl ?_
                        refine g_icmp_eq F dX7_submit_95 (tgt := 101) rfl (fun h95 => ?_) (fun h95 => ?_)
                        · refine g_aload_n F dX7_submit_101 0 rfl ?_
                          refine f_get F inX7 ql_RM rfl 4 (by decide) tb_361 rfl (v := .ref (ad 5)) rfl dX7_submit_102 ?_
                          refine g_iload_n F dX7_submit_105 1 rfl ?_
                          refine f_ald F 0 ql_4 rfl (j := v) (by have g0 := out0 h4 hk; omega) (by decide) dX7_submit_106 ?_
                          refine f_bipush F 24 dX7_submit_107 rfl ?_
                          refine g_icmp_ne F dX7_submit_109 (tgt := 115) rfl (fun h109 => ?_) (fun h109 => ?_)
                          · refine g_aload_n F dX7_submit_115 0 rfl ?_
                            refine g_iload_n F dX7_submit_116 1 rfl ?_
                            refine g_iload_n F dX7_submit_117 2 rfl ?_
                            refine g_iload_n F dX7_submit_118 3 rfl ?_
                            refine g_iload F dX7_submit_119 4 rfl ?_
                            refine g_iload F dX7_submit_121 5 rfl ?_
                            refine f_callV F (As := [.int (Int32.ofNat v), .int (Int32.ofNat kd), .int (Int32.ofNat pa), .int (Int32.ofNat va), .int (Int32.ofNat vb)]) (rest := []) (st' := []) (k_X7_make l D cI cS cZ ad a v kd pa va vb (out0 h4 hk) (by have g1 := hq v (out0 h4 hk); have g2 : a 4 v ≠ 24 := fun e => h109 (by rw [e]); omega) (fun s hs => by have := hq s hs; omega)) ql_RM rfl tb_497 tb_495 tb_496 tb_618 tb_8 ⟨rfl, hdX7_make⟩ ⟨rfl, rfl⟩ ⟨Nat.le_of_ble_eq_true rfl, Nat.le_of_ble_eq_true rfl⟩ rw_adr rfl rfl (Nat.le_of_ble_eq_true rfl) ⟨Nat.le_refl _, Nat.le_refl _⟩ dX7_submit_123 rfl ?_
                            refine g_aload_n F dX7_submit_126 0 rfl ?_
                            refine f_get F inX7 ql_RM rfl 4 (by decide) tb_361 rfl (v := .ref (ad 5)) rfl dX7_submit_127 ?_
                            refine g_iload_n F dX7_submit_130 1 rfl ?_
                            refine f_ald F 0 ql_4 rfl (j := v) (by have g0 := out0 h4 hk; omega) (by decide) dX7_submit_131 ?_
                            exact g_iret F hr hlk dX7_submit_132 ⟨congrArg (fun t => some (Value.int (Int32.ofNat t))) (Eq.symm (by unfold r_X7_submit; first | simp only [if_pos h4, if_neg h9, if_pos h14, if_neg h21, if_neg h28, if_pos h35, if_neg h40, if_pos h46, if_pos h53, if_pos h64, if_pos h71, if_pos h95, if_neg h109] | rfl)), congrArg (fun t => rwld cI cZ t ad) (Eq.symm (by unfold w_X7_submit; first | simp only [if_pos h4, if_neg h9, if_pos h14, if_neg h21, if_neg h28, if_pos h35, if_neg h40, if_pos h46, if_pos h53, if_pos h64, if_pos h71, if_pos h95, if_neg h109] | rfl))⟩
                          · refine f_bipush F 4294967293 dX7_submit_112 rfl ?_
                            exact g_iret F hr hlk dX7_submit_114 ⟨congrArg (fun t => some (Value.int (Int32.ofNat t))) (Eq.symm (by unfold r_X7_submit; first | simp only [if_pos h4, if_neg h9, if_pos h14, if_neg h21, if_neg h28, if_pos h35, if_neg h40, if_pos h46, if_pos h53, if_pos h64, if_pos h71, if_pos h95, if_pos h109] | rfl)), congrArg (fun t => rwld cI cZ t ad) (Eq.symm (by unfold w_X7_submit; first | simp only [if_pos h4, if_neg h9, if_pos h14, if_neg h21, if_neg h28, if_pos h35, if_neg h40, if_pos h46, if_pos h53, if_pos h64, if_pos h71, if_pos h95, if_pos h109] | rfl))⟩
                        · refine f_bipush F 4294967294 dX7_submit_98 rfl ?_
                          exact g_iret F hr hlk dX7_submit_100 ⟨congrArg (fun t => some (Value.int (Int32.ofNat t))) (Eq.symm (by unfold r_X7_submit; first | simp only [if_pos h4, if_neg h9, if_pos h14, if_neg h21, if_neg h28, if_pos h35, if_neg h40, if_pos h46, if_pos h53, if_pos h64, if_pos h71, if_neg h95] | rfl)), congrArg (fun t => rwld cI cZ t ad) (Eq.symm (by unfold w_X7_submit; first | simp only [if_pos h4, if_neg h9, if_pos h14, if_neg h21, if_neg h28, if_pos h35, if_neg h40, if_pos h46, if_pos h53, if_pos h64, if_pos h71, if_neg h95] | rfl))⟩
                      · refine g_iload F dX7_submit_74 5 rfl ?_
                        refine f_iconst F 1 dX7_submit_76 rfl ?_
                        refine g_icmp_lt F dX7_submit_77 (tgt := 86) rfl (fun h77 => ?_) (fun h77 => ?_)
                        · refine f_iconst F 4294967295 dX7_submit_86 rfl ?_
                          exact g_iret F hr hlk dX7_submit_87 ⟨congrArg (fun t => some (Value.int (Int32.ofNat t))) (Eq.symm (by unfold r_X7_submit; first | simp only [if_pos h4, if_neg h9, if_pos h14, if_neg h21, if_neg h28, if_pos h35, if_neg h40, if_pos h46, if_pos h53, if_pos h64, if_neg h71, if_pos h77] | rfl)), congrArg (fun t => rwld cI cZ t ad) (Eq.symm (by unfold w_X7_submit; first | simp only [if_pos h4, if_neg h9, if_pos h14, if_neg h21, if_neg h28, if_pos h35, if_neg h40, if_pos h46, if_pos h53, if_pos h64, if_neg h71, if_pos h77] | rfl))⟩
                        · refine g_iload F dX7_submit_80 5 rfl ?_
                          refine f_iconst F 4 dX7_submit_82 rfl ?_
                          refine g_icmp_le F dX7_submit_83 (tgt := 88) rfl (fun h83 => ?_) (fun h83 => ?_)
                          rotate_left
                          · exact absurd h46 h83
                          refine g_aload_n F dX7_submit_88 0 rfl ?_
                          refine f_get F inX7 ql_RM rfl 0 (by decide) tb_357 rfl (v := .ref (ad 1)) rfl dX7_submit_89 ?_
                          refine g_iload_n F dX7_submit_92 1 rfl ?_
                          refine f_ald F 0 ql_0 rfl (j := v) (by have g0 := out0 h4 hk; omega) (by decide) dX7_submit_93 ?_
                          refine f_iconst F 4 dX7_submit_94 rfl ?_
                          refine g_icmp_eq F dX7_submit_95 (tgt := 101) rfl (fun h95 => ?_) (fun h95 => ?_)
                          · refine g_aload_n F dX7_submit_101 0 rfl ?_
                            refine f_get F inX7 ql_RM rfl 4 (by decide) tb_361 rfl (v := .ref (ad 5)) rfl dX7_submit_102 ?_
                            refine g_iload_n F dX7_submit_105 1 rfl ?_
                            refine f_ald F 0 ql_4 rfl (j := v) (by have g0 := out0 h4 hk; omega) (by decide) dX7_submit_106 ?_
                            refine f_bipush F 24 dX7_submit_107 rfl ?_
                            refine g_icmp_ne F dX7_submit_109 (tgt := 115) rfl (fun h109 => ?_) (fun h109 => ?_)
                            · refine g_aload_n F dX7_submit_115 0 rfl ?_
                              refine g_iload_n F dX7_submit_116 1 rfl ?_
                              refine g_iload_n F dX7_submit_117 2 rfl ?_
                              refine g_iload_n F dX7_submit_118 3 rfl ?_
                              refine g_iload F dX7_submit_119 4 rfl ?_
                              refine g_iload F dX7_submit_121 5 rfl ?_
                              refine f_callV F (As := [.int (Int32.ofNat v), .int (Int32.ofNat kd), .int (Int32.ofNat pa), .int (Int32.ofNat va), .int (Int32.ofNat vb)]) (rest := []) (st' := []) (k_X7_make l D cI cS cZ ad a v kd pa va vb (out0 h4 hk) (by have g1 := hq v (out0 h4 hk); have g2 : a 4 v ≠ 24 := fun e => h109 (by rw [e]); omega) (fun s hs => by have := hq s hs; omega)) ql_RM rfl tb_497 tb_495 tb_496 tb_618 tb_8 ⟨rfl, hdX7_make⟩ ⟨rfl, rfl⟩ ⟨Nat.le_of_ble_eq_true rfl, Nat.le_of_ble_eq_true rfl⟩ rw_adr rfl rfl (Nat.le_of_ble_eq_true rfl) ⟨Nat.le_refl _, Nat.le_refl _⟩ dX7_submit_123 rfl ?_
                              refine g_aload_n F dX7_submit_126 0 rfl ?_
                              refine f_get F inX7 ql_RM rfl 4 (by decide) tb_361 rfl (v := .ref (ad 5)) rfl dX7_submit_127 ?_
                              refine g_iload_n F dX7_submit_130 1 rfl ?_
                              refine f_ald F 0 ql_4 rfl (j := v) (by have g0 := out0 h4 hk; omega) (by decide) dX7_submit_131 ?_
                              exact g_iret F hr hlk dX7_submit_132 ⟨congrArg (fun t => some (Value.int (Int32.ofNat t))) (Eq.symm (by unfold r_X7_submit; first | simp only [if_pos h4, if_neg h9, if_pos h14, if_neg h21, if_neg h28, if_pos h35, if_neg h40, if_pos h46, if_pos h53, if_pos h64, if_neg h71, if_neg h77, if_pos h95, if_neg h109] | rfl)), congrArg (fun t => rwld cI cZ t ad) (Eq.symm (by unfold w_X7_submit; first | simp only [if_pos h4, if_neg h9, if_pos h14, if_neg h21, if_neg h28, if_pos h35, if_neg h40, if_pos h46, if_pos h53, if_pos h64, if_neg h71, if_neg h77, if_pos h95, if_neg h109] | rfl))⟩
                            · refine f_bipush F 4294967293 dX7_submit_112 rfl ?_
                              exact g_iret F hr hlk dX7_submit_114 ⟨congrArg (fun t => some (Value.int (Int32.ofNat t))) (Eq.symm (by unfold r_X7_submit; first | simp only [if_pos h4, if_neg h9, if_pos h14, if_neg h21, if_neg h28, if_pos h35, if_neg h40, if_pos h46, if_pos h53, if_pos h64, if_neg h71, if_neg h77, if_pos h95, if_pos h109] | rfl)), congrArg (fun t => rwld cI cZ t ad) (Eq.symm (by unfold w_X7_submit; first | simp only [if_pos h4, if_neg h9, if_pos h14, if_neg h21, if_neg h28, if_pos h35, if_neg h40, if_pos h46, if_pos h53, if_pos h64, if_neg h71, if_neg h77, if_pos h95, if_pos h109] | rfl))⟩
                          · refine f_bipush F 4294967294 dX7_submit_98 rfl ?_
                            exact g_iret F hr hlk dX7_submit_100 ⟨congrArg (fun t => some (Value.int (Int32.ofNat t))) (Eq.symm (by unfold r_X7_submit; first | simp only [if_pos h4, if_neg h9, if_pos h14, if_neg h21, if_neg h28, if_pos h35, if_neg h40, if_pos h46, if_pos h53, if_pos h64, if_neg h71, if_neg h77, if_neg h95] | rfl)), congrArg (fun t => rwld cI cZ t ad) (Eq.symm (by unfold w_X7_submit; first | simp only [if_pos h4, if_neg h9, if_pos h14, if_neg h21, if_neg h28, if_pos h35, if_neg h40, if_pos h46, if_pos h53, if_pos h64, if_neg h71, if_neg h77, if_neg h95] | rfl))⟩
                    · refine f_iconst F 4294967295 dX7_submit_67 rfl ?_
                      exact g_iret F hr hlk dX7_submit_68 ⟨congrArg (fun t => some (Value.int (Int32.ofNat t))) (Eq.symm (by unfold r_X7_submit; first | simp only [if_pos h4, if_neg h9, if_pos h14, if_neg h21, if_neg h28, if_pos h35, if_neg h40, if_pos h46, if_pos h53, if_neg h64] | rfl)), congrArg (fun t => rwld cI cZ t ad) (Eq.symm (by unfold w_X7_submit; first | simp only [if_pos h4, if_neg h9, if_pos h14, if_neg h21, if_neg h28, if_pos h35, if_neg h40, if_pos h46, if_pos h53, if_neg h64] | rfl))⟩
                  · refine g_iload_n F dX7_submit_56 2 rfl ?_
                    refine f_iconst F 3 dX7_submit_57 rfl ?_
                    refine g_icmp_ne F dX7_submit_58 (tgt := 69) rfl (fun h58 => ?_) (fun h58 => ?_)
                    · refine g_iload_n F dX7_submit_69 2 rfl ?_
                      refine f_iconst F 4 dX7_submit_70 rfl ?_
                      refine g_icmp_lt F dX7_submit_71 (tgt := 88) rfl (fun h71 => ?_) (fun h71 => ?_)
                      · refine g_aload_n F dX7_submit_88 0 rfl ?_
                        refine f_get F inX7 ql_RM rfl 0 (by decide) tb_357 rfl (v := .ref (ad 1)) rfl dX7_submit_89 ?_
                        refine g_iload_n F dX7_submit_92 1 rfl ?_
                        refine f_ald F 0 ql_0 rfl (j := v) (by have g0 := out0 h4 hk; omega) (by decide) dX7_submit_93 ?_
                        refine f_iconst F 4 dX7_submit_94 rfl ?_
                        refine g_icmp_eq F dX7_submit_95 (tgt := 101) rfl (fun h95 => ?_) (fun h95 => ?_)
                        · refine g_aload_n F dX7_submit_101 0 rfl ?_
                          refine f_get F inX7 ql_RM rfl 4 (by decide) tb_361 rfl (v := .ref (ad 5)) rfl dX7_submit_102 ?_
                          refine g_iload_n F dX7_submit_105 1 rfl ?_
                          refine f_ald F 0 ql_4 rfl (j := v) (by have g0 := out0 h4 hk; omega) (by decide) dX7_submit_106 ?_
                          refine f_bipush F 24 dX7_submit_107 rfl ?_
                          refine g_icmp_ne F dX7_submit_109 (tgt := 115) rfl (fun h109 => ?_) (fun h109 => ?_)
                          · refine g_aload_n F dX7_submit_115 0 rfl ?_
                            refine g_iload_n F dX7_submit_116 1 rfl ?_
                            refine g_iload_n F dX7_submit_117 2 rfl ?_
                            refine g_iload_n F dX7_submit_118 3 rfl ?_
                            refine g_iload F dX7_submit_119 4 rfl ?_
                            refine g_iload F dX7_submit_121 5 rfl ?_
                            refine f_callV F (As := [.int (Int32.ofNat v), .int (Int32.ofNat kd), .int (Int32.ofNat pa), .int (Int32.ofNat va), .int (Int32.ofNat vb)]) (rest := []) (st' := []) (k_X7_make l D cI cS cZ ad a v kd pa va vb (out0 h4 hk) (by have g1 := hq v (out0 h4 hk); have g2 : a 4 v ≠ 24 := fun e => h109 (by rw [e]); omega) (fun s hs => by have := hq s hs; omega)) ql_RM rfl tb_497 tb_495 tb_496 tb_618 tb_8 ⟨rfl, hdX7_make⟩ ⟨rfl, rfl⟩ ⟨Nat.le_of_ble_eq_true rfl, Nat.le_of_ble_eq_true rfl⟩ rw_adr rfl rfl (Nat.le_of_ble_eq_true rfl) ⟨Nat.le_refl _, Nat.le_refl _⟩ dX7_submit_123 rfl ?_
                            refine g_aload_n F dX7_submit_126 0 rfl ?_
                            refine f_get F inX7 ql_RM rfl 4 (by decide) tb_361 rfl (v := .ref (ad 5)) rfl dX7_submit_127 ?_
                            refine g_iload_n F dX7_submit_130 1 rfl ?_
                            refine f_ald F 0 ql_4 rfl (j := v) (by have g0 := out0 h4 hk; omega) (by decide) dX7_submit_131 ?_
                            exact g_iret F hr hlk dX7_submit_132 ⟨congrArg (fun t => some (Value.int (Int32.ofNat t))) (Eq.symm (by unfold r_X7_submit; first | simp only [if_pos h4, if_neg h9, if_pos h14, if_neg h21, if_neg h28, if_pos h35, if_neg h40, if_pos h46, if_neg h53, if_neg h58, if_pos h71, if_pos h95, if_neg h109] | rfl)), congrArg (fun t => rwld cI cZ t ad) (Eq.symm (by unfold w_X7_submit; first | simp only [if_pos h4, if_neg h9, if_pos h14, if_neg h21, if_neg h28, if_pos h35, if_neg h40, if_pos h46, if_neg h53, if_neg h58, if_pos h71, if_pos h95, if_neg h109] | rfl))⟩
                          · refine f_bipush F 4294967293 dX7_submit_112 rfl ?_
                            exact g_iret F hr hlk dX7_submit_114 ⟨congrArg (fun t => some (Value.int (Int32.ofNat t))) (Eq.symm (by unfold r_X7_submit; first | simp only [if_pos h4, if_neg h9, if_pos h14, if_neg h21, if_neg h28, if_pos h35, if_neg h40, if_pos h46, if_neg h53, if_neg h58, if_pos h71, if_pos h95, if_pos h109] | rfl)), congrArg (fun t => rwld cI cZ t ad) (Eq.symm (by unfold w_X7_submit; first | simp only [if_pos h4, if_neg h9, if_pos h14, if_neg h21, if_neg h28, if_pos h35, if_neg h40, if_pos h46, if_neg h53, if_neg h58, if_pos h71, if_pos h95, if_pos h109] | rfl))⟩
                        · refine f_bipush F 4294967294 dX7_submit_98 rfl ?_
                          exact g_iret F hr hlk dX7_submit_100 ⟨congrArg (fun t => some (Value.int (Int32.ofNat t))) (Eq.symm (by unfold r_X7_submit; first | simp only [if_pos h4, if_neg h9, if_pos h14, if_neg h21, if_neg h28, if_pos h35, if_neg h40, if_pos h46, if_neg h53, if_neg h58, if_pos h71, if_neg h95] | rfl)), congrArg (fun t => rwld cI cZ t ad) (Eq.symm (by unfold w_X7_submit; first | simp only [if_pos h4, if_neg h9, if_pos h14, if_neg h21, if_neg h28, if_pos h35, if_neg h40, if_pos h46, if_neg h53, if_neg h58, if_pos h71, if_neg h95] | rfl))⟩
                      · refine g_iload F dX7_submit_74 5 rfl ?_
                        refine f_iconst F 1 dX7_submit_76 rfl ?_
                        refine g_icmp_lt F dX7_submit_77 (tgt := 86) rfl (fun h77 => ?_) (fun h77 => ?_)
                        · refine f_iconst F 4294967295 dX7_submit_86 rfl ?_
                          exact g_iret F hr hlk dX7_submit_87 ⟨congrArg (fun t => some (Value.int (Int32.ofNat t))) (Eq.symm (by unfold r_X7_submit; first | simp only [if_pos h4, if_neg h9, if_pos h14, if_neg h21, if_neg h28, if_pos h35, if_neg h40, if_pos h46, if_neg h53, if_neg h58, if_neg h71, if_pos h77] | rfl)), congrArg (fun t => rwld cI cZ t ad) (Eq.symm (by unfold w_X7_submit; first | simp only [if_pos h4, if_neg h9, if_pos h14, if_neg h21, if_neg h28, if_pos h35, if_neg h40, if_pos h46, if_neg h53, if_neg h58, if_neg h71, if_pos h77] | rfl))⟩
                        · refine g_iload F dX7_submit_80 5 rfl ?_
                          refine f_iconst F 4 dX7_submit_82 rfl ?_
                          refine g_icmp_le F dX7_submit_83 (tgt := 88) rfl (fun h83 => ?_) (fun h83 => ?_)
                          rotate_left
                          · exact absurd h46 h83
                          refine g_aload_n F dX7_submit_88 0 rfl ?_
                          refine f_get F inX7 ql_RM rfl 0 (by decide) tb_357 rfl (v := .ref (ad 1)) rfl dX7_submit_89 ?_
                          refine g_iload_n F dX7_submit_92 1 rfl ?_
                          refine f_ald F 0 ql_0 rfl (j := v) (by have g0 := out0 h4 hk; omega) (by decide) dX7_submit_93 ?_
                          refine f_iconst F 4 dX7_submit_94 rfl ?_
                          refine g_icmp_eq F dX7_submit_95 (tgt := 101) rfl (fun h95 => ?_) (fun h95 => ?_)
                          · refine g_aload_n F dX7_submit_101 0 rfl ?_
                            refine f_get F inX7 ql_RM rfl 4 (by decide) tb_361 rfl (v := .ref (ad 5)) rfl dX7_submit_102 ?_
                            refine g_iload_n F dX7_submit_105 1 rfl ?_
                            refine f_ald F 0 ql_4 rfl (j := v) (by have g0 := out0 h4 hk; omega) (by decide) dX7_submit_106 ?_
                            refine f_bipush F 24 dX7_submit_107 rfl ?_
                            refine g_icmp_ne F dX7_submit_109 (tgt := 115) rfl (fun h109 => ?_) (fun h109 => ?_)
                            · refine g_aload_n F dX7_submit_115 0 rfl ?_
                              refine g_iload_n F dX7_submit_116 1 rfl ?_
                              refine g_iload_n F dX7_submit_117 2 rfl ?_
                              refine g_iload_n F dX7_submit_118 3 rfl ?_
                              refine g_iload F dX7_submit_119 4 rfl ?_
                              refine g_iload F dX7_submit_121 5 rfl ?_
                              refine f_callV F (As := [.int (Int32.ofNat v), .int (Int32.ofNat kd), .int (Int32.ofNat pa), .int (Int32.ofNat va), .int (Int32.ofNat vb)]) (rest := []) (st' := []) (k_X7_make l D cI cS cZ ad a v kd pa va vb (out0 h4 hk) (by have g1 := hq v (out0 h4 hk); have g2 : a 4 v ≠ 24 := fun e => h109 (by rw [e]); omega) (fun s hs => by have := hq s hs; omega)) ql_RM rfl tb_497 tb_495 tb_496 tb_618 tb_8 ⟨rfl, hdX7_make⟩ ⟨rfl, rfl⟩ ⟨Nat.le_of_ble_eq_true rfl, Nat.le_of_ble_eq_true rfl⟩ rw_adr rfl rfl (Nat.le_of_ble_eq_true rfl) ⟨Nat.le_refl _, Nat.le_refl _⟩ dX7_submit_123 rfl ?_
                              refine g_aload_n F dX7_submit_126 0 rfl ?_
                              refine f_get F inX7 ql_RM rfl 4 (by decide) tb_361 rfl (v := .ref (ad 5)) rfl dX7_submit_127 ?_
                              refine g_iload_n F dX7_submit_130 1 rfl ?_
                              refine f_ald F 0 ql_4 rfl (j := v) (by have g0 := out0 h4 hk; omega) (by decide) dX7_submit_131 ?_
                              exact g_iret F hr hlk dX7_submit_132 ⟨congrArg (fun t => some (Value.int (Int32.ofNat t))) (Eq.symm (by unfold r_X7_submit; first | simp only [if_pos h4, if_neg h9, if_pos h14, if_neg h21, if_neg h28, if_pos h35, if_neg h40, if_pos h46, if_neg h53, if_neg h58, if_neg h71, if_neg h77, if_pos h95, if_neg h109] | rfl)), congrArg (fun t => rwld cI cZ t ad) (Eq.symm (by unfold w_X7_submit; first | simp only [if_pos h4, if_neg h9, if_pos h14, if_neg h21, if_neg h28, if_pos h35, if_neg h40, if_pos h46, if_neg h53, if_neg h58, if_neg h71, if_neg h77, if_pos h95, if_neg h109] | rfl))⟩
                            · refine f_bipush F 4294967293 dX7_submit_112 rfl ?_
                              exact g_iret F hr hlk dX7_submit_114 ⟨congrArg (fun t => some (Value.int (Int32.ofNat t))) (Eq.symm (by unfold r_X7_submit; first | simp only [if_pos h4, if_neg h9, if_pos h14, if_neg h21, if_neg h28, if_pos h35, if_neg h40, if_pos h46, if_neg h53, if_neg h58, if_neg h71, if_neg h77, if_pos h95, if_pos h109] | rfl)), congrArg (fun t => rwld cI cZ t ad) (Eq.symm (by unfold w_X7_submit; first | simp only [if_pos h4, if_neg h9, if_pos h14, if_neg h21, if_neg h28, if_pos h35, if_neg h40, if_pos h46, if_neg h53, if_neg h58, if_neg h71, if_neg h77, if_pos h95, if_pos h109] | rfl))⟩
                          · refine f_bipush F 4294967294 dX7_submit_98 rfl ?_
                            exact g_iret F hr hlk dX7_submit_100 ⟨congrArg (fun t => some (Value.int (Int32.ofNat t))) (Eq.symm (by unfold r_X7_submit; first | simp only [if_pos h4, if_neg h9, if_pos h14, if_neg h21, if_neg h28, if_pos h35, if_neg h40, if_pos h46, if_neg h53, if_neg h58, if_neg h71, if_neg h77, if_neg h95] | rfl)), congrArg (fun t => rwld cI cZ t ad) (Eq.symm (by unfold w_X7_submit; first | simp only [if_pos h4, if_neg h9, if_pos h14, if_neg h21, if_neg h28, if_pos h35, if_neg h40, if_pos h46, if_neg h53, if_neg h58, if_neg h71, if_neg h77, if_neg h95] | rfl))⟩
                    · refine g_iload F dX7_submit_61 5 rfl ?_
                      refine f_iconst F 4294967295 dX7_submit_63 rfl ?_
                      refine g_icmp_ge F dX7_submit_64 (tgt := 69) rfl (fun h64 => ?_) (fun h64 => ?_)
                      · refine g_iload_n F dX7_submit_69 2 rfl ?_
                        refine f_iconst F 4 dX7_submit_70 rfl ?_
                        refine g_icmp_lt F dX7_submit_71 (tgt := 88) rfl (fun h71 => ?_) (fun h71 => ?_)
                        · refine g_aload_n F dX7_submit_88 0 rfl ?_
                          refine f_get F inX7 ql_RM rfl 0 (by decide) tb_357 rfl (v := .ref (ad 1)) rfl dX7_submit_89 ?_
                          refine g_iload_n F dX7_submit_92 1 rfl ?_
                          refine f_ald F 0 ql_0 rfl (j := v) (by have g0 := out0 h4 hk; omega) (by decide) dX7_submit_93 ?_
                          refine f_iconst F 4 dX7_submit_94 rfl ?_
                          refine g_icmp_eq F dX7_submit_95 (tgt := 101) rfl (fun h95 => ?_) (fun h95 => ?_)
                          · refine g_aload_n F dX7_submit_101 0 rfl ?_
                            refine f_get F inX7 ql_RM rfl 4 (by decide) tb_361 rfl (v := .ref (ad 5)) rfl dX7_submit_102 ?_
                            refine g_iload_n F dX7_submit_105 1 rfl ?_
                            refine f_ald F 0 ql_4 rfl (j := v) (by have g0 := out0 h4 hk; omega) (by decide) dX7_submit_106 ?_
                            refine f_bipush F 24 dX7_submit_107 rfl ?_
                            refine g_icmp_ne F dX7_submit_109 (tgt := 115) rfl (fun h109 => ?_) (fun h109 => ?_)
                            · refine g_aload_n F dX7_submit_115 0 rfl ?_
                              refine g_iload_n F dX7_submit_116 1 rfl ?_
                              refine g_iload_n F dX7_submit_117 2 rfl ?_
                              refine g_iload_n F dX7_submit_118 3 rfl ?_
                              refine g_iload F dX7_submit_119 4 rfl ?_
                              refine g_iload F dX7_submit_121 5 rfl ?_
                              refine f_callV F (As := [.int (Int32.ofNat v), .int (Int32.ofNat kd), .int (Int32.ofNat pa), .int (Int32.ofNat va), .int (Int32.ofNat vb)]) (rest := []) (st' := []) (k_X7_make l D cI cS cZ ad a v kd pa va vb (out0 h4 hk) (by have g1 := hq v (out0 h4 hk); have g2 : a 4 v ≠ 24 := fun e => h109 (by rw [e]); omega) (fun s hs => by have := hq s hs; omega)) ql_RM rfl tb_497 tb_495 tb_496 tb_618 tb_8 ⟨rfl, hdX7_make⟩ ⟨rfl, rfl⟩ ⟨Nat.le_of_ble_eq_true rfl, Nat.le_of_ble_eq_true rfl⟩ rw_adr rfl rfl (Nat.le_of_ble_eq_true rfl) ⟨Nat.le_refl _, Nat.le_refl _⟩ dX7_submit_123 rfl ?_
                              refine g_aload_n F dX7_submit_126 0 rfl ?_
                              refine f_get F inX7 ql_RM rfl 4 (by decide) tb_361 rfl (v := .ref (ad 5)) rfl dX7_submit_127 ?_
                              refine g_iload_n F dX7_submit_130 1 rfl ?_
                              refine f_ald F 0 ql_4 rfl (j := v) (by have g0 := out0 h4 hk; omega) (by decide) dX7_submit_131 ?_
                              exact g_iret F hr hlk dX7_submit_132 ⟨congrArg (fun t => some (Value.int (Int32.ofNat t))) (Eq.symm (by unfold r_X7_submit; first | simp only [if_pos h4, if_neg h9, if_pos h14, if_neg h21, if_neg h28, if_pos h35, if_neg h40, if_pos h46, if_neg h53, if_pos h58, if_pos h64, if_pos h71, if_pos h95, if_neg h109] | rfl)), congrArg (fun t => rwld cI cZ t ad) (Eq.symm (by unfold w_X7_submit; first | simp only [if_pos h4, if_neg h9, if_pos h14, if_neg h21, if_neg h28, if_pos h35, if_neg h40, if_pos h46, if_neg h53, if_pos h58, if_pos h64, if_pos h71, if_pos h95, if_neg h109] | rfl))⟩
                            · refine f_bipush F 4294967293 dX7_submit_112 rfl ?_
                              exact g_iret F hr hlk dX7_submit_114 ⟨congrArg (fun t => some (Value.int (Int32.ofNat t))) (Eq.symm (by unfold r_X7_submit; first | simp only [if_pos h4, if_neg h9, if_pos h14, if_neg h21, if_neg h28, if_pos h35, if_neg h40, if_pos h46, if_neg h53, if_pos h58, if_pos h64, if_pos h71, if_pos h95, if_pos h109] | rfl)), congrArg (fun t => rwld cI cZ t ad) (Eq.symm (by unfold w_X7_submit; first | simp only [if_pos h4, if_neg h9, if_pos h14, if_neg h21, if_neg h28, if_pos h35, if_neg h40, if_pos h46, if_neg h53, if_pos h58, if_pos h64, if_pos h71, if_pos h95, if_pos h109] | rfl))⟩
                          · refine f_bipush F 4294967294 dX7_submit_98 rfl ?_
                            exact g_iret F hr hlk dX7_submit_100 ⟨congrArg (fun t => some (Value.int (Int32.ofNat t))) (Eq.symm (by unfold r_X7_submit; first | simp only [if_pos h4, if_neg h9, if_pos h14, if_neg h21, if_neg h28, if_pos h35, if_neg h40, if_pos h46, if_neg h53, if_pos h58, if_pos h64, if_pos h71, if_neg h95] | rfl)), congrArg (fun t => rwld cI cZ t ad) (Eq.symm (by unfold w_X7_submit; first | simp only [if_pos h4, if_neg h9, if_pos h14, if_neg h21, if_neg h28, if_pos h35, if_neg h40, if_pos h46, if_neg h53, if_pos h58, if_pos h64, if_pos h71, if_neg h95] | rfl))⟩
                        · refine g_iload F dX7_submit_74 5 rfl ?_
                          refine f_iconst F 1 dX7_submit_76 rfl ?_
                          refine g_icmp_lt F dX7_submit_77 (tgt := 86) rfl (fun h77 => ?_) (fun h77 => ?_)
                          · refine f_iconst F 4294967295 dX7_submit_86 rfl ?_
                            exact g_iret F hr hlk dX7_submit_87 ⟨congrArg (fun t => some (Value.int (Int32.ofNat t))) (Eq.symm (by unfold r_X7_submit; first | simp only [if_pos h4, if_neg h9, if_pos h14, if_neg h21, if_neg h28, if_pos h35, if_neg h40, if_pos h46, if_neg h53, if_pos h58, if_pos h64, if_neg h71, if_pos h77] | rfl)), congrArg (fun t => rwld cI cZ t ad) (Eq.symm (by unfold w_X7_submit; first | simp only [if_pos h4, if_neg h9, if_pos h14, if_neg h21, if_neg h28, if_pos h35, if_neg h40, if_pos h46, if_neg h53, if_pos h58, if_pos h64, if_neg h71, if_pos h77] | rfl))⟩
                          · refine g_iload F dX7_submit_80 5 rfl ?_
                            refine f_iconst F 4 dX7_submit_82 rfl ?_
                            refine g_icmp_le F dX7_submit_83 (tgt := 88) rfl (fun h83 => ?_) (fun h83 => ?_)
                            rotate_left
                            · exact absurd h46 h83
                            refine g_aload_n F dX7_submit_88 0 rfl ?_
                            refine f_get F inX7 ql_RM rfl 0 (by decide) tb_357 rfl (v := .ref (ad 1)) rfl dX7_submit_89 ?_
                            refine g_iload_n F dX7_submit_92 1 rfl ?_
                            refine f_ald F 0 ql_0 rfl (j := v) (by have g0 := out0 h4 hk; omega) (by decide) dX7_submit_93 ?_
                            refine f_iconst F 4 dX7_submit_94 rfl ?_
                            refine g_icmp_eq F dX7_submit_95 (tgt := 101) rfl (fun h95 => ?_) (fun h95 => ?_)
                            · refine g_aload_n F dX7_submit_101 0 rfl ?_
                              refine f_get F inX7 ql_RM rfl 4 (by decide) tb_361 rfl (v := .ref (ad 5)) rfl dX7_submit_102 ?_
                              refine g_iload_n F dX7_submit_105 1 rfl ?_
                              refine f_ald F 0 ql_4 rfl (j := v) (by have g0 := out0 h4 hk; omega) (by decide) dX7_submit_106 ?_
                              refine f_bipush F 24 dX7_submit_107 rfl ?_
                              refine g_icmp_ne F dX7_submit_109 (tgt := 115) rfl (fun h109 => ?_) (fun h109 => ?_)
                              · refine g_aload_n F dX7_submit_115 0 rfl ?_
                                refine g_iload_n F dX7_submit_116 1 rfl ?_
                                refine g_iload_n F dX7_submit_117 2 rfl ?_
                                refine g_iload_n F dX7_submit_118 3 rfl ?_
                                refine g_iload F dX7_submit_119 4 rfl ?_
                                refine g_iload F dX7_submit_121 5 rfl ?_
                                refine f_callV F (As := [.int (Int32.ofNat v), .int (Int32.ofNat kd), .int (Int32.ofNat pa), .int (Int32.ofNat va), .int (Int32.ofNat vb)]) (rest := []) (st' := []) (k_X7_make l D cI cS cZ ad a v kd pa va vb (out0 h4 hk) (by have g1 := hq v (out0 h4 hk); have g2 : a 4 v ≠ 24 := fun e => h109 (by rw [e]); omega) (fun s hs => by have := hq s hs; omega)) ql_RM rfl tb_497 tb_495 tb_496 tb_618 tb_8 ⟨rfl, hdX7_make⟩ ⟨rfl, rfl⟩ ⟨Nat.le_of_ble_eq_true rfl, Nat.le_of_ble_eq_true rfl⟩ rw_adr rfl rfl (Nat.le_of_ble_eq_true rfl) ⟨Nat.le_refl _, Nat.le_refl _⟩ dX7_submit_123 rfl ?_
                                refine g_aload_n F dX7_submit_126 0 rfl ?_
                                refine f_get F inX7 ql_RM rfl 4 (by decide) tb_361 rfl (v := .ref (ad 5)) rfl dX7_submit_127 ?_
                                refine g_iload_n F dX7_submit_130 1 rfl ?_
                                refine f_ald F 0 ql_4 rfl (j := v) (by have g0 := out0 h4 hk; omega) (by decide) dX7_submit_131 ?_
                                exact g_iret F hr hlk dX7_submit_132 ⟨congrArg (fun t => some (Value.int (Int32.ofNat t))) (Eq.symm (by unfold r_X7_submit; first | simp only [if_pos h4, if_neg h9, if_pos h14, if_neg h21, if_neg h28, if_pos h35, if_neg h40, if_pos h46, if_neg h53, if_pos h58, if_pos h64, if_neg h71, if_neg h77, if_pos h95, if_neg h109] | rfl)), congrArg (fun t => rwld cI cZ t ad) (Eq.symm (by unfold w_X7_submit; first | simp only [if_pos h4, if_neg h9, if_pos h14, if_neg h21, if_neg h28, if_pos h35, if_neg h40, if_pos h46, if_neg h53, if_pos h58, if_pos h64, if_neg h71, if_neg h77, if_pos h95, if_neg h109] | rfl))⟩
                              · refine f_bipush F 4294967293 dX7_submit_112 rfl ?_
                                exact g_iret F hr hlk dX7_submit_114 ⟨congrArg (fun t => some (Value.int (Int32.ofNat t))) (Eq.symm (by unfold r_X7_submit; first | simp only [if_pos h4, if_neg h9, if_pos h14, if_neg h21, if_neg h28, if_pos h35, if_neg h40, if_pos h46, if_neg h53, if_pos h58, if_pos h64, if_neg h71, if_neg h77, if_pos h95, if_pos h109] | rfl)), congrArg (fun t => rwld cI cZ t ad) (Eq.symm (by unfold w_X7_submit; first | simp only [if_pos h4, if_neg h9, if_pos h14, if_neg h21, if_neg h28, if_pos h35, if_neg h40, if_pos h46, if_neg h53, if_pos h58, if_pos h64, if_neg h71, if_neg h77, if_pos h95, if_pos h109] | rfl))⟩
                            · refine f_bipush F 4294967294 dX7_submit_98 rfl ?_
                              exact g_iret F hr hlk dX7_submit_100 ⟨congrArg (fun t => some (Value.int (Int32.ofNat t))) (Eq.symm (by unfold r_X7_submit; first | simp only [if_pos h4, if_neg h9, if_pos h14, if_neg h21, if_neg h28, if_pos h35, if_neg h40, if_pos h46, if_neg h53, if_pos h58, if_pos h64, if_neg h71, if_neg h77, if_neg h95] | rfl)), congrArg (fun t => rwld cI cZ t ad) (Eq.symm (by unfold w_X7_submit; first | simp only [if_pos h4, if_neg h9, if_pos h14, if_neg h21, if_neg h28, if_pos h35, if_neg h40, if_pos h46, if_neg h53, if_pos h58, if_pos h64, if_neg h71, if_neg h77, if_neg h95] | rfl))⟩
                      · refine f_iconst F 4294967295 dX7_submit_67 rfl ?_
                        exact g_iret F hr hlk dX7_submit_68 ⟨congrArg (fun t => some (Value.int (Int32.ofNat t))) (Eq.symm (by unfold r_X7_submit; first | simp only [if_pos h4, if_neg h9, if_pos h14, if_neg h21, if_neg h28, if_pos h35, if_neg h40, if_pos h46, if_neg h53, if_pos h58, if_neg h64] | rfl)), congrArg (fun t => rwld cI cZ t ad) (Eq.symm (by unfold w_X7_submit; first | simp only [if_pos h4, if_neg h9, if_pos h14, if_neg h21, if_neg h28, if_pos h35, if_neg h40, if_pos h46, if_neg h53, if_pos h58, if_neg h64] | rfl))⟩
                · refine f_iconst F 4294967295 dX7_submit_49 rfl ?_
                  exact g_iret F hr hlk dX7_submit_50 ⟨congrArg (fun t => some (Value.int (Int32.ofNat t))) (Eq.symm (by unfold r_X7_submit; first | simp only [if_pos h4, if_neg h9, if_pos h14, if_neg h21, if_neg h28, if_pos h35, if_neg h40, if_neg h46] | rfl)), congrArg (fun t => rwld cI cZ t ad) (Eq.symm (by unfold w_X7_submit; first | simp only [if_pos h4, if_neg h9, if_pos h14, if_neg h21, if_neg h28, if_pos h35, if_neg h40, if_neg h46] | rfl))⟩
          · refine f_iconst F 4294967295 dX7_submit_31 rfl ?_
            exact g_iret F hr hlk dX7_submit_32 ⟨congrArg (fun t => some (Value.int (Int32.ofNat t))) (Eq.symm (by unfold r_X7_submit; first | simp only [if_pos h4, if_neg h9, if_pos h14, if_neg h21, if_pos h28] | rfl)), congrArg (fun t => rwld cI cZ t ad) (Eq.symm (by unfold w_X7_submit; first | simp only [if_pos h4, if_neg h9, if_pos h14, if_neg h21, if_pos h28] | rfl))⟩
      · refine f_iconst F 4294967295 dX7_submit_17 rfl ?_
        exact g_iret F hr hlk dX7_submit_18 ⟨congrArg (fun t => some (Value.int (Int32.ofNat t))) (Eq.symm (by unfold r_X7_submit; first | simp only [if_pos h4, if_neg h9, if_neg h14] | rfl)), congrArg (fun t => rwld cI cZ t ad) (Eq.symm (by unfold w_X7_submit; first | simp only [if_pos h4, if_neg h9, if_neg h14] | rfl))⟩
def TI (x : RS) (K : Nat) : Prop := ∀ s, s < 3 → x 3 s ≤ x 4 s ∧ x 4 s ≤ 24 ∧ EVa x s ∧ x 24 s ≤ K
theorem ti_13 {y : RS} {K j v : Nat} (h : TI y K) : TI (su2 y 13 j v) K := fun s hs => h s hs
theorem ti_mono {x : RS} {K K' : Nat} (hK : K ≤ K') (h : TI x K) : TI x K' := fun s hs => ⟨(h s hs).1, (h s hs).2.1, (h s hs).2.2.1, Nat.le_trans (h s hs).2.2.2 hK⟩
theorem ti_work {x : RS} {K v : Nat} (h : TI x K) : TI (w_X7_work x v) K := by
  intro s hs
  have e3 := fr_work (a := x) (v := v) (q := 3) (by decide)
  have e4 := fr_work (a := x) (v := v) (q := 4) (by decide)
  have e6 := fr_work (a := x) (v := v) (q := 6) (by decide)
  have e9 := fr_work (a := x) (v := v) (q := 9) (by decide)
  have e24 := fr_work (a := x) (v := v) (q := 24) (by decide)
  unfold EVa
  rw [e3, e4, e6, e9, e24]
  exact h s hs
theorem fr_make_lp {a : RS} {g kd pa va vb q : Nat} (h : q ≠ 22 ∧ q ≠ 23 ∧ q ≠ 24) : ∀ (d k : Nat) (x : RS), lpw_X7_make_84 a g kd pa va vb d k x q = x q := by
  intro d
  induction d with
  | zero => intro k x; rfl
  | succ d ih =>
    intro k x
    simp only [lpw_X7_make_84]
    repeat' split
    all_goals first | exact ih _ _ | (rw [ih, fr_sendDown h])
theorem make_lp24 {a : RS} {g kd pa va vb : Nat} : ∀ (d k : Nat) (x : RS) (s : Nat), lpw_X7_make_84 a g kd pa va vb d k x 24 s ≤ x 24 s + 1 ∧ (s < k → lpw_X7_make_84 a g kd pa va vb d k x 24 s = x 24 s) := by
  intro d
  induction d with
  | zero => intro k x s; exact ⟨Nat.le_succ _, fun _ => rfl⟩
  | succ d ih =>
    intro k x s
    have step : ∀ y : RS, (s ≠ k → y 24 s = x 24 s) → y 24 s ≤ x 24 s + 1 → lpw_X7_make_84 a g kd pa va vb d (k + 1) y 24 s ≤ x 24 s + 1 ∧ (s < k → lpw_X7_make_84 a g kd pa va vb d (k + 1) y 24 s = x 24 s) := by
      intro y h1 h2
      have hi := ih (k + 1) y s
      refine ⟨?_, fun hs => ?_⟩
      · by_cases e : s = k
        · rw [hi.2 (by omega)]; exact h2
        · have := h1 e; omega
      · rw [hi.2 (by omega)]; exact h1 (by omega)
    simp only [lpw_X7_make_84]
    repeat' split
    all_goals first | exact step _ (fun _ => rfl) (Nat.le_succ _) | exact step _ (fun e => sd24 e) sd24_le
def x_make (y : RS) (g kd pa va vb : Nat) : RS := su2 (su2 (su2 (su2 (su2 (su2 y 12 g (y 12 g + 1)) 5 (24 * g + y 4 g) (1000 * y 2 g + (y 12 g + 1))) 6 (24 * g + y 4 g) kd) 7 (24 * g + y 4 g) pa) 8 (24 * g + y 4 g) va) 9 (24 * g + y 4 g) vb
theorem ti_make {y : RS} {K g vb kd pa va : Nat} (h : TI y K) (hg : g < 3) (hl : y 4 g < 24) (hb : vb < 5) : TI (w_X7_make y g kd pa va vb) (K + 1) := by
  intro s hs
  obtain ⟨h1, h2, h3, h4⟩ := h s hs
  unfold w_X7_make
  have f : ∀ q, q ≠ 22 ∧ q ≠ 23 ∧ q ≠ 24 → lpw_X7_make_84 y g kd pa va vb 3 0 (x_make y g kd pa va vb) q = x_make y g kd pa va vb q := fun q hq => fr_make_lp hq 3 0 _
  have f24 := (make_lp24 (a := y) (g := g) (kd := kd) (pa := pa) (va := va) (vb := vb) 3 0 (x_make y g kd pa va vb) s).1
  revert f f24
  show _ → _ → su2 (lpw_X7_make_84 y g kd pa va vb 3 0 (x_make y g kd pa va vb)) 4 g (lpw_X7_make_84 y g kd pa va vb 3 0 (x_make y g kd pa va vb) 4 g + 1) 3 s ≤ su2 (lpw_X7_make_84 y g kd pa va vb 3 0 (x_make y g kd pa va vb)) 4 g (lpw_X7_make_84 y g kd pa va vb 3 0 (x_make y g kd pa va vb) 4 g + 1) 4 s ∧ su2 (lpw_X7_make_84 y g kd pa va vb 3 0 (x_make y g kd pa va vb)) 4 g (lpw_X7_make_84 y g kd pa va vb 3 0 (x_make y g kd pa va vb) 4 g + 1) 4 s ≤ 24 ∧ EVa (su2 (lpw_X7_make_84 y g kd pa va vb 3 0 (x_make y g kd pa va vb)) 4 g (lpw_X7_make_84 y g kd pa va vb 3 0 (x_make y g kd pa va vb) 4 g + 1)) s ∧ su2 (lpw_X7_make_84 y g kd pa va vb 3 0 (x_make y g kd pa va vb)) 4 g (lpw_X7_make_84 y g kd pa va vb 3 0 (x_make y g kd pa va vb) 4 g + 1) 24 s ≤ K + 1
  generalize lpw_X7_make_84 y g kd pa va vb 3 0 (x_make y g kd pa va vb) = z
  intro f f24
  have z3 : z 3 = y 3 := f 3 (by decide)
  have z4 : z 4 = y 4 := f 4 (by decide)
  have z6 : z 6 = su2 y 6 (24 * g + y 4 g) kd 6 := f 6 (by decide)
  have z9 : z 9 = su2 y 9 (24 * g + y 4 g) vb 9 := f 9 (by decide)
  have lg : su2 z 4 g (z 4 g + 1) 4 s = if s = g then y 4 g + 1 else y 4 s := by
    rw [z4]
    by_cases e : s = g
    · subst e; rw [su2_same, if_pos rfl]
    · rw [if_neg e]; show (if s = g then _ else z 4 s) = _; rw [if_neg e, z4]
  refine ⟨?_, ?_, ?_, ?_⟩
  · rw [lg]; show z 3 s ≤ _; rw [z3]
    by_cases e : s = g
    · subst e; rw [if_pos rfl]; omega
    · rw [if_neg e]; exact h1
  · rw [lg]
    by_cases e : s = g
    · rw [if_pos e]; omega
    · rw [if_neg e]; exact h2
  · intro j hj
    have hj' : j < y 3 s := by rw [← z3]; exact hj
    have ne : 24 * s + j ≠ 24 * g + y 4 g := by
      intro e
      have : s = g := by omega
      subst this; omega
    have w6 : su2 z 4 g (z 4 g + 1) 6 (24 * s + j) = y 6 (24 * s + j) := by
      show z 6 _ = _; rw [z6]; simp [su2, ne]
    have w9 : su2 z 4 g (z 4 g + 1) 9 (24 * s + j) = y 9 (24 * s + j) := by
      show z 9 _ = _; rw [z9]; simp [su2, ne]
    rw [w6, w9]; exact h3 j hj'
  · exact Nat.le_trans f24 (Nat.succ_le_succ h4)
def lpw_X7_tick_26 (a : RS) (k : Nat) : Nat → Nat → RS → RS
  | 0, j, y => y
  | d + 1, j, y => if Int32.ofNat 3 ≤ Int32.ofNat (y 13 ((5 * k) + j)) then (if Int32.ofNat (y 30 j) = 0 then (lpw_X7_tick_26 a k d (j + 1) (su2 y 13 ((5 * k) + j) 0)) else (lpw_X7_tick_26 a k d (j + 1) (su2 y 13 ((5 * k) + j) 3))) else (if Int32.ofNat (y 30 j) = 0 then (lpw_X7_tick_26 a k d (j + 1) (su2 y 13 ((5 * k) + j) 0)) else (lpw_X7_tick_26 a k d (j + 1) (su2 y 13 ((5 * k) + j) ((y 13 ((5 * k) + j)) + 1))))
def lpmm_X7_tick_96 (a : RS) (k : Nat) : Nat → Nat → Nat → RS → Nat
  | 0, j, mm, y => mm
  | d + 1, j, mm, y => if Int32.ofNat (y 13 ((5 * k) + j)) = Int32.ofNat 3 then (if Int32.ofNat 24 ≤ Int32.ofNat (y 4 k) then (lpmm_X7_tick_96 a k d (j + 1) mm y) else (lpmm_X7_tick_96 a k d (j + 1) (mm + 1) (su2 (w_X7_make y k 5 0 0 j) 13 ((5 * k) + j) 0))) else (lpmm_X7_tick_96 a k d (j + 1) mm y)
def lpw_X7_tick_96 (a : RS) (k : Nat) : Nat → Nat → Nat → RS → RS
  | 0, j, mm, y => y
  | d + 1, j, mm, y => if Int32.ofNat (y 13 ((5 * k) + j)) = Int32.ofNat 3 then (if Int32.ofNat 24 ≤ Int32.ofNat (y 4 k) then (lpw_X7_tick_96 a k d (j + 1) mm y) else (lpw_X7_tick_96 a k d (j + 1) (mm + 1) (su2 (w_X7_make y k 5 0 0 j) 13 ((5 * k) + j) 0))) else (lpw_X7_tick_96 a k d (j + 1) mm y)
def lpn_X7_tick_4 (a : RS) : Nat → Nat → Nat → RS → Nat
  | 0, k, n, x => n
  | d + 1, k, n, x => if Int32.ofNat (x 0 k) = Int32.ofNat 4 then (lpn_X7_tick_4 a d (k + 1) (lpmm_X7_tick_96 a k 4 1 n (lpw_X7_tick_26 a k 4 1 (w_X7_work x k))) (lpw_X7_tick_96 a k 4 1 n (lpw_X7_tick_26 a k 4 1 (w_X7_work x k)))) else (lpn_X7_tick_4 a d (k + 1) n x)
def lpw_X7_tick_4 (a : RS) : Nat → Nat → Nat → RS → RS
  | 0, k, n, x => x
  | d + 1, k, n, x => if Int32.ofNat (x 0 k) = Int32.ofNat 4 then (lpw_X7_tick_4 a d (k + 1) (lpmm_X7_tick_96 a k 4 1 n (lpw_X7_tick_26 a k 4 1 (w_X7_work x k))) (lpw_X7_tick_96 a k 4 1 n (lpw_X7_tick_26 a k 4 1 (w_X7_work x k)))) else (lpw_X7_tick_4 a d (k + 1) n x)
def r_X7_tick (a : RS) : Nat := lpn_X7_tick_4 a 3 0 0 a
def w_X7_tick (a : RS) : RS := lpw_X7_tick_4 a 3 0 0 a
theorem ti_lp26 {a : RS} {k K : Nat} : ∀ {d j : Nat} {y : RS}, TI y K → TI (lpw_X7_tick_26 a k d j y) K := by
  intro d
  induction d with
  | zero => intro j y h; exact h
  | succ d ih =>
    intro j y h
    simp only [lpw_X7_tick_26]
    repeat' split
    all_goals exact ih (ti_13 h)
theorem ti_lp96 {a : RS} {k : Nat} (hk : k < 3) : ∀ {d j mm : Nat} {y : RS}, j + d = 5 → TI y (50 + 4 * k + j) → TI (lpw_X7_tick_96 a k d j mm y) (55 + 4 * k) := by
  intro d
  induction d with
  | zero => intro j mm y hj h; exact ti_mono (by omega) h
  | succ d ih =>
    intro j mm y hj h
    simp only [lpw_X7_tick_96]
    repeat' split
    all_goals first | exact ih (by omega) (ti_mono (by omega) h) | (rename_i h1 h2; exact ih (by omega) (ti_13 (ti_make h hk (lt_of_nle h2 (by decide) (by have := h k hk; omega)) (by omega))))
abbrev rm_X7_tick : Room := { frames := 3, cells := 0, slots := 0, locals := 73 }
set_option maxHeartbeats 4000000 in
set_option maxRecDepth 100000 in
theorem k_X7_tick (l : Launch) (D : va_G) (cI cS cZ : ClassId) (ad : Nat → Nat) (a : RS) (hq : TI a 51) : gN l yX7_tick (Cond.code yX7_tick cX7_tick 5 (some .int) :: tb) rm_X7_tick D cls8 (tys3 cI cS cZ) [.ref (ad 0)] (rwld cI cZ a ad) (some (.int (Int32.ofNat (r_X7_tick a)))) (rwld cI cZ (w_X7_tick a) ad) := by
  unfold gN
  refine g_head (by decide) rfl (Nat.le_of_ble_eq_true rfl) ?_
  intro p e s m args below meth cd A F hr hlk hnm
  refine g_eq rfl (L' := [(0, .ref (ad 0))]) rfl rfl rfl ?_
  refine f_iconst F 0 dX7_tick_0 rfl ?_
  refine g_istore_n F [(1, .int (Int32.ofNat 0)), (0, .ref (ad 0))] dX7_tick_1 (by decide) rfl ?_
  refine f_iconst F 0 dX7_tick_2 rfl ?_
  refine g_istore_n F [(2, .int (Int32.ofNat 0)), (1, .int (Int32.ofNat 0)), (0, .ref (ad 0))] dX7_tick_3 (by decide) rfl ?_
  have loop4 : ∀ (Q : State → Prop) (d k n : Nat) (x : RS), (k + d = 3) → (TI x (51 + 4 * k)) → gw p l e (headSpec (Cond.code yX7_tick cX7_tick 5 (some .int) :: tb) rm_X7_tick).room s m args below meth cd 5 D cls8 A Q 0 0 161 [(1, .int (Int32.ofNat (lpn_X7_tick_4 a d k n x))), (0, .ref (ad 0))] [] (rwld cI cZ (lpw_X7_tick_4 a d k n x) ad) → gw p l e (headSpec (Cond.code yX7_tick cX7_tick 5 (some .int) :: tb) rm_X7_tick).room s m args below meth cd 5 D cls8 A Q 0 0 4 [(2, .int (Int32.ofNat k)), (1, .int (Int32.ofNat n)), (0, .ref (ad 0))] [] (rwld cI cZ x ad) := by
    intro Q d
    induction d with
    | zero =>
      intro k n x hk hx K
      refine g_iload_n F dX7_tick_4 0 rfl ?_
      refine f_iconst F 3 dX7_tick_5 rfl ?_
      refine g_icmp_ge F dX7_tick_6 (tgt := 161) rfl (fun h6 => ?_) (fun h6 => ?_)
      rotate_left
      · exact absurd h6 (by rw [ofN_le (by omega) (by omega)]; omega)
      refine g_locals [(1, .int (Int32.ofNat n)), (0, .ref (ad 0))] [1, 2] rfl ?_
      exact K
    | succ d ih =>
      intro k n x hk hx K
      refine g_iload_n F dX7_tick_4 0 rfl ?_
      refine f_iconst F 3 dX7_tick_5 rfl ?_
      refine g_icmp_ge F dX7_tick_6 (tgt := 161) rfl (fun h6 => ?_) (fun h6 => ?_)
      · exact absurd h6 (by rw [ofN_le (by omega) (by omega)]; omega)
      refine g_aload_n F dX7_tick_9 2 rfl ?_
      refine f_get F inX7 ql_RM rfl 0 (by decide) tb_357 rfl (v := .ref (ad 1)) rfl dX7_tick_10 ?_
      refine g_iload_n F dX7_tick_13 0 rfl ?_
      refine f_ald F 0 ql_0 rfl (j := k) (by omega) (by decide) dX7_tick_14 ?_
      refine f_iconst F 4 dX7_tick_15 rfl ?_
      refine g_icmp_ne F dX7_tick_16 (tgt := 155) rfl (fun h16 => ?_) (fun h16 => ?_)
      · refine f_iinc F (k + 1) [(2, .int (Int32.ofNat (k + 1))), (1, .int (Int32.ofNat n)), (0, .ref (ad 0))] dX7_tick_155 0 rfl (ofN_inc _) (by decide) rfl ?_
        refine g_goto F dX7_tick_158 (tgt := 4) rfl ?_
        exact ih (k + 1) n x (by omega) (ti_mono (by omega) hx) (g_eq rfl (by simp only [lpn_X7_tick_4, lpw_X7_tick_4, if_neg h16]) rfl (congrArg (fun t => rwld cI cZ t ad) (by simp only [lpn_X7_tick_4, lpw_X7_tick_4, if_neg h16])) K)
      · refine g_aload_n F dX7_tick_19 2 rfl ?_
        refine g_iload_n F dX7_tick_20 0 rfl ?_
        refine f_callV F (As := [.int (Int32.ofNat k)]) (rest := []) (st' := []) (k_X7_work l D cI cS cZ ad x k (by omega) (by have := hx k (by omega); omega) (hx k (by omega)).2.2.1) ql_RM rfl tb_504 tb_502 tb_503 tb_619 tb_8 ⟨rfl, hdX7_work⟩ ⟨rfl, rfl⟩ ⟨Nat.le_of_ble_eq_true rfl, Nat.le_of_ble_eq_true rfl⟩ rw_adr rfl rfl (Nat.le_of_ble_eq_true rfl) ⟨Nat.le_refl _, Nat.le_refl _⟩ dX7_tick_21 rfl ?_
        refine f_iconst F 1 dX7_tick_24 rfl ?_
        refine g_istore_n F [(3, .int (Int32.ofNat 1)), (2, .int (Int32.ofNat k)), (1, .int (Int32.ofNat n)), (0, .ref (ad 0))] dX7_tick_25 (by decide) rfl ?_
        have loop26 : ∀ (Q : State → Prop) (d j : Nat) (y : RS), (j + d = 5) → (TI y (51 + 4 * k)) → gw p l e (headSpec (Cond.code yX7_tick cX7_tick 5 (some .int) :: tb) rm_X7_tick).room s m args below meth cd 5 D cls8 A Q 0 0 94 [(2, .int (Int32.ofNat k)), (1, .int (Int32.ofNat n)), (0, .ref (ad 0))] [] (rwld cI cZ (lpw_X7_tick_26 a k d j y) ad) → gw p l e (headSpec (Cond.code yX7_tick cX7_tick 5 (some .int) :: tb) rm_X7_tick).room s m args below meth cd 5 D cls8 A Q 0 0 26 [(3, .int (Int32.ofNat j)), (2, .int (Int32.ofNat k)), (1, .int (Int32.ofNat n)), (0, .ref (ad 0))] [] (rwld cI cZ y ad) := by
          intro Q d
          induction d with
          | zero =>
            intro j y hj hy K
            refine g_iload_n F dX7_tick_26 0 rfl ?_
            refine f_iconst F 4 dX7_tick_27 rfl ?_
            refine g_icmp_gt F dX7_tick_28 (tgt := 94) rfl (fun h28 => ?_) (fun h28 => ?_)
            rotate_left
            · exact absurd h28 (by rw [ofN_lt (by omega) (by omega)]; omega)
            refine g_locals [(2, .int (Int32.ofNat k)), (1, .int (Int32.ofNat n)), (0, .ref (ad 0))] [1, 2, 3] rfl ?_
            exact K
          | succ d ih =>
            intro j y hj hy K
            refine g_iload_n F dX7_tick_26 0 rfl ?_
            refine f_iconst F 4 dX7_tick_27 rfl ?_
            refine g_icmp_gt F dX7_tick_28 (tgt := 94) rfl (fun h28 => ?_) (fun h28 => ?_)
            · exact absurd h28 (by rw [ofN_lt (by omega) (by omega)]; omega)
            refine g_aload_n F dX7_tick_31 3 rfl ?_
            refine f_get F inX7 ql_RM rfl 13 (by decide) tb_370 rfl (v := .ref (ad 14)) rfl dX7_tick_32 ?_
            refine f_iconst F 5 dX7_tick_35 rfl ?_
            refine g_iload_n F dX7_tick_36 1 rfl ?_
            refine f_mul F dX7_tick_37 ?_
            refine g_iload_n F dX7_tick_38 0 rfl ?_
            refine f_add F dX7_tick_39 ?_
            refine f_ald F 0 ql_13 rfl (j := (5 * k) + j) (by omega) (by decide) dX7_tick_40 ?_
            refine f_iconst F 3 dX7_tick_41 rfl ?_
            refine g_icmp_ge F dX7_tick_42 (tgt := 60) rfl (fun h42 => ?_) (fun h42 => ?_)
            · refine f_iconst F 3 dX7_tick_60 rfl ?_
              refine g_istore F [(4, .int (Int32.ofNat 3)), (3, .int (Int32.ofNat j)), (2, .int (Int32.ofNat k)), (1, .int (Int32.ofNat n)), (0, .ref (ad 0))] dX7_tick_61 (by decide) rfl ?_
              refine g_aload_n F dX7_tick_63 4 rfl ?_
              refine f_get F inX7 ql_RM rfl 13 (by decide) tb_370 rfl (v := .ref (ad 14)) rfl dX7_tick_64 ?_
              refine f_iconst F 5 dX7_tick_67 rfl ?_
              refine g_iload_n F dX7_tick_68 2 rfl ?_
              refine f_mul F dX7_tick_69 ?_
              refine g_iload_n F dX7_tick_70 1 rfl ?_
              refine f_add F dX7_tick_71 ?_
              refine g_aload_n F dX7_tick_72 4 rfl ?_
              refine f_get F inX7 ql_RM rfl 31 (by decide) tb_388 rfl (v := .ref (ad 31)) rfl dX7_tick_73 ?_
              refine g_iload_n F dX7_tick_76 1 rfl ?_
              refine f_zald F 2 ql_30 rfl (j := j) (by omega) (by decide) dX7_tick_77 ?_
              refine g_if_eq F dX7_tick_78 (tgt := 86) rfl (fun h78 => ?_) (fun h78 => ?_)
              · refine f_iconst F 0 dX7_tick_86 rfl ?_
                refine f_ast F 0 ql_13 rfl (j := (5 * k) + j) (v := 0) (by omega) (by decide) dX7_tick_87 qs_13 ?_
                refine f_iinc F (j + 1) [(3, .int (Int32.ofNat (j + 1))), (4, .int (Int32.ofNat 3)), (2, .int (Int32.ofNat k)), (1, .int (Int32.ofNat n)), (0, .ref (ad 0))] dX7_tick_88 1 rfl (ofN_inc _) (by decide) rfl ?_
                refine g_goto F dX7_tick_91 (tgt := 26) rfl ?_
                refine g_locals [(3, .int (Int32.ofNat (j + 1))), (2, .int (Int32.ofNat k)), (1, .int (Int32.ofNat n)), (0, .ref (ad 0))] [0, 2, 3, 4] rfl ?_
                exact ih (j + 1) (su2 y 13 ((5 * k) + j) 0) (by omega) (ti_13 hy) (g_eq rfl rfl rfl (congrArg (fun t => rwld cI cZ t ad) (by simp only [lpw_X7_tick_26, if_pos h42, if_pos h78])) K)
              · refine g_iload F dX7_tick_81 0 rfl ?_
                refine g_goto F dX7_tick_83 (tgt := 87) rfl ?_
                refine f_ast F 0 ql_13 rfl (j := (5 * k) + j) (v := 3) (by omega) (by decide) dX7_tick_87 qs_13 ?_
                refine f_iinc F (j + 1) [(3, .int (Int32.ofNat (j + 1))), (4, .int (Int32.ofNat 3)), (2, .int (Int32.ofNat k)), (1, .int (Int32.ofNat n)), (0, .ref (ad 0))] dX7_tick_88 1 rfl (ofN_inc _) (by decide) rfl ?_
                refine g_goto F dX7_tick_91 (tgt := 26) rfl ?_
                refine g_locals [(3, .int (Int32.ofNat (j + 1))), (2, .int (Int32.ofNat k)), (1, .int (Int32.ofNat n)), (0, .ref (ad 0))] [0, 2, 3, 4] rfl ?_
                exact ih (j + 1) (su2 y 13 ((5 * k) + j) 3) (by omega) (ti_13 hy) (g_eq rfl rfl rfl (congrArg (fun t => rwld cI cZ t ad) (by simp only [lpw_X7_tick_26, if_pos h42, if_neg h78])) K)
            · refine g_aload_n F dX7_tick_45 3 rfl ?_
              refine f_get F inX7 ql_RM rfl 13 (by decide) tb_370 rfl (v := .ref (ad 14)) rfl dX7_tick_46 ?_
              refine f_iconst F 5 dX7_tick_49 rfl ?_
              refine g_iload_n F dX7_tick_50 1 rfl ?_
              refine f_mul F dX7_tick_51 ?_
              refine g_iload_n F dX7_tick_52 0 rfl ?_
              refine f_add F dX7_tick_53 ?_
              refine f_ald F 0 ql_13 rfl (j := (5 * k) + j) (by omega) (by decide) dX7_tick_54 ?_
              refine f_iconst F 1 dX7_tick_55 rfl ?_
              refine f_add F dX7_tick_56 ?_
              refine g_goto F dX7_tick_57 (tgt := 61) rfl ?_
              refine g_istore F [(4, .int (Int32.ofNat ((y 13 ((5 * k) + j)) + 1))), (3, .int (Int32.ofNat j)), (2, .int (Int32.ofNat k)), (1, .int (Int32.ofNat n)), (0, .ref (ad 0))] dX7_tick_61 (by decide) rfl ?_
              refine g_aload_n F dX7_tick_63 4 rfl ?_
              refine f_get F inX7 ql_RM rfl 13 (by decide) tb_370 rfl (v := .ref (ad 14)) rfl dX7_tick_64 ?_
              refine f_iconst F 5 dX7_tick_67 rfl ?_
              refine g_iload_n F dX7_tick_68 2 rfl ?_
              refine f_mul F dX7_tick_69 ?_
              refine g_iload_n F dX7_tick_70 1 rfl ?_
              refine f_add F dX7_tick_71 ?_
              refine g_aload_n F dX7_tick_72 4 rfl ?_
              refine f_get F inX7 ql_RM rfl 31 (by decide) tb_388 rfl (v := .ref (ad 31)) rfl dX7_tick_73 ?_
              refine g_iload_n F dX7_tick_76 1 rfl ?_
              refine f_zald F 2 ql_30 rfl (j := j) (by omega) (by decide) dX7_tick_77 ?_
              refine g_if_eq F dX7_tick_78 (tgt := 86) rfl (fun h78 => ?_) (fun h78 => ?_)
              · refine f_iconst F 0 dX7_tick_86 rfl ?_
                refine f_ast F 0 ql_13 rfl (j := (5 * k) + j) (v := 0) (by omega) (by decide) dX7_tick_87 qs_13 ?_
                refine f_iinc F (j + 1) [(3, .int (Int32.ofNat (j + 1))), (4, .int (Int32.ofNat ((y 13 ((5 * k) + j)) + 1))), (2, .int (Int32.ofNat k)), (1, .int (Int32.ofNat n)), (0, .ref (ad 0))] dX7_tick_88 1 rfl (ofN_inc _) (by decide) rfl ?_
                refine g_goto F dX7_tick_91 (tgt := 26) rfl ?_
                refine g_locals [(3, .int (Int32.ofNat (j + 1))), (2, .int (Int32.ofNat k)), (1, .int (Int32.ofNat n)), (0, .ref (ad 0))] [0, 2, 3, 4] rfl ?_
                exact ih (j + 1) (su2 y 13 ((5 * k) + j) 0) (by omega) (ti_13 hy) (g_eq rfl rfl rfl (congrArg (fun t => rwld cI cZ t ad) (by simp only [lpw_X7_tick_26, if_neg h42, if_pos h78])) K)
              · refine g_iload F dX7_tick_81 0 rfl ?_
                refine g_goto F dX7_tick_83 (tgt := 87) rfl ?_
                refine f_ast F 0 ql_13 rfl (j := (5 * k) + j) (v := (y 13 ((5 * k) + j)) + 1) (by omega) (by decide) dX7_tick_87 qs_13 ?_
                refine f_iinc F (j + 1) [(3, .int (Int32.ofNat (j + 1))), (4, .int (Int32.ofNat ((y 13 ((5 * k) + j)) + 1))), (2, .int (Int32.ofNat k)), (1, .int (Int32.ofNat n)), (0, .ref (ad 0))] dX7_tick_88 1 rfl (ofN_inc _) (by decide) rfl ?_
                refine g_goto F dX7_tick_91 (tgt := 26) rfl ?_
                refine g_locals [(3, .int (Int32.ofNat (j + 1))), (2, .int (Int32.ofNat k)), (1, .int (Int32.ofNat n)), (0, .ref (ad 0))] [0, 2, 3, 4] rfl ?_
                exact ih (j + 1) (su2 y 13 ((5 * k) + j) ((y 13 ((5 * k) + j)) + 1)) (by omega) (ti_13 hy) (g_eq rfl rfl rfl (congrArg (fun t => rwld cI cZ t ad) (by simp only [lpw_X7_tick_26, if_neg h42, if_neg h78])) K)
        refine loop26 _ 4 1 (w_X7_work x k) rfl (ti_work hx) ?_
        refine f_iconst F 1 dX7_tick_94 rfl ?_
        refine g_istore_n F [(3, .int (Int32.ofNat 1)), (2, .int (Int32.ofNat k)), (1, .int (Int32.ofNat n)), (0, .ref (ad 0))] dX7_tick_95 (by decide) rfl ?_
        have loop96 : ∀ (Q : State → Prop) (d j mm : Nat) (y : RS), (j + d = 5) → (1 ≤ j) → (TI y (50 + 4 * k + j)) → gw p l e (headSpec (Cond.code yX7_tick cX7_tick 5 (some .int) :: tb) rm_X7_tick).room s m args below meth cd 5 D cls8 A Q 0 0 155 [(2, .int (Int32.ofNat k)), (1, .int (Int32.ofNat (lpmm_X7_tick_96 a k d j mm y))), (0, .ref (ad 0))] [] (rwld cI cZ (lpw_X7_tick_96 a k d j mm y) ad) → gw p l e (headSpec (Cond.code yX7_tick cX7_tick 5 (some .int) :: tb) rm_X7_tick).room s m args below meth cd 5 D cls8 A Q 0 0 96 [(3, .int (Int32.ofNat j)), (2, .int (Int32.ofNat k)), (1, .int (Int32.ofNat mm)), (0, .ref (ad 0))] [] (rwld cI cZ y ad) := by
          intro Q d
          induction d with
          | zero =>
            intro j mm y hj hj1 hy K
            refine g_iload_n F dX7_tick_96 0 rfl ?_
            refine f_iconst F 4 dX7_tick_97 rfl ?_
            refine g_icmp_gt F dX7_tick_98 (tgt := 155) rfl (fun h98 => ?_) (fun h98 => ?_)
            rotate_left
            · exact absurd h98 (by rw [ofN_lt (by omega) (by omega)]; omega)
            refine g_locals [(2, .int (Int32.ofNat k)), (1, .int (Int32.ofNat mm)), (0, .ref (ad 0))] [1, 2, 3] rfl ?_
            exact K
          | succ d ih =>
            intro j mm y hj hj1 hy K
            refine g_iload_n F dX7_tick_96 0 rfl ?_
            refine f_iconst F 4 dX7_tick_97 rfl ?_
            refine g_icmp_gt F dX7_tick_98 (tgt := 155) rfl (fun h98 => ?_) (fun h98 => ?_)
            · exact absurd h98 (by rw [ofN_lt (by omega) (by omega)]; omega)
            refine g_aload_n F dX7_tick_101 3 rfl ?_
            refine f_get F inX7 ql_RM rfl 13 (by decide) tb_370 rfl (v := .ref (ad 14)) rfl dX7_tick_102 ?_
            refine f_iconst F 5 dX7_tick_105 rfl ?_
            refine g_iload_n F dX7_tick_106 1 rfl ?_
            refine f_mul F dX7_tick_107 ?_
            refine g_iload_n F dX7_tick_108 0 rfl ?_
            refine f_add F dX7_tick_109 ?_
            refine f_ald F 0 ql_13 rfl (j := (5 * k) + j) (by omega) (by decide) dX7_tick_110 ?_
            refine f_iconst F 3 dX7_tick_111 rfl ?_
            refine g_icmp_ne F dX7_tick_112 (tgt := 149) rfl (fun h112 => ?_) (fun h112 => ?_)
            · refine f_iinc F (j + 1) [(3, .int (Int32.ofNat (j + 1))), (2, .int (Int32.ofNat k)), (1, .int (Int32.ofNat mm)), (0, .ref (ad 0))] dX7_tick_149 0 rfl (ofN_inc _) (by decide) rfl ?_
              refine g_goto F dX7_tick_152 (tgt := 96) rfl ?_
              exact ih (j + 1) mm y (by omega) (by omega) (ti_mono (by omega) hy) (g_eq rfl (by simp only [lpmm_X7_tick_96, lpw_X7_tick_96, if_neg h112]) rfl (congrArg (fun t => rwld cI cZ t ad) (by simp only [lpmm_X7_tick_96, lpw_X7_tick_96, if_neg h112])) K)
            · refine g_aload_n F dX7_tick_115 3 rfl ?_
              refine f_get F inX7 ql_RM rfl 4 (by decide) tb_361 rfl (v := .ref (ad 5)) rfl dX7_tick_116 ?_
              refine g_iload_n F dX7_tick_119 1 rfl ?_
              refine f_ald F 0 ql_4 rfl (j := k) (by omega) (by decide) dX7_tick_120 ?_
              refine f_bipush F 24 dX7_tick_121 rfl ?_
              refine g_icmp_ge F dX7_tick_123 (tgt := 149) rfl (fun h123 => ?_) (fun h123 => ?_)
              · refine f_iinc F (j + 1) [(3, .int (Int32.ofNat (j + 1))), (2, .int (Int32.ofNat k)), (1, .int (Int32.ofNat mm)), (0, .ref (ad 0))] dX7_tick_149 0 rfl (ofN_inc _) (by decide) rfl ?_
                refine g_goto F dX7_tick_152 (tgt := 96) rfl ?_
                exact ih (j + 1) mm y (by omega) (by omega) (ti_mono (by omega) hy) (g_eq rfl (by simp only [lpmm_X7_tick_96, lpw_X7_tick_96, if_pos h112, if_pos h123]) rfl (congrArg (fun t => rwld cI cZ t ad) (by simp only [lpmm_X7_tick_96, lpw_X7_tick_96, if_pos h112, if_pos h123])) K)
              · refine g_aload_n F dX7_tick_126 3 rfl ?_
                refine g_iload_n F dX7_tick_127 1 rfl ?_
                refine f_iconst F 5 dX7_tick_128 rfl ?_
                refine f_iconst F 0 dX7_tick_129 rfl ?_
                refine f_iconst F 0 dX7_tick_130 rfl ?_
                refine g_iload_n F dX7_tick_131 0 rfl ?_
                refine f_callV F (As := [.int (Int32.ofNat k), .int (Int32.ofNat 5), .int (Int32.ofNat 0), .int (Int32.ofNat 0), .int (Int32.ofNat j)]) (rest := []) (st' := []) (k_X7_make l D cI cS cZ ad y k 5 0 0 j (by omega) (lt_of_nle h123 (by decide) (by have := hy k (by omega); omega)) (fun s hs => by have := (hy s hs).2.2.2; omega)) ql_RM rfl tb_497 tb_495 tb_496 tb_618 tb_8 ⟨rfl, hdX7_make⟩ ⟨rfl, rfl⟩ ⟨Nat.le_of_ble_eq_true rfl, Nat.le_of_ble_eq_true rfl⟩ rw_adr rfl rfl (Nat.le_of_ble_eq_true rfl) ⟨Nat.le_refl _, Nat.le_refl _⟩ dX7_tick_132 rfl ?_
                refine g_aload_n F dX7_tick_135 3 rfl ?_
                refine f_get F inX7 ql_RM rfl 13 (by decide) tb_370 rfl (v := .ref (ad 14)) rfl dX7_tick_136 ?_
                refine f_iconst F 5 dX7_tick_139 rfl ?_
                refine g_iload_n F dX7_tick_140 1 rfl ?_
                refine f_mul F dX7_tick_141 ?_
                refine g_iload_n F dX7_tick_142 0 rfl ?_
                refine f_add F dX7_tick_143 ?_
                refine f_iconst F 0 dX7_tick_144 rfl ?_
                refine f_ast F 0 ql_13 rfl (j := (5 * k) + j) (v := 0) (by omega) (by decide) dX7_tick_145 qs_13 ?_
                refine f_iinc F (mm + 1) [(1, .int (Int32.ofNat (mm + 1))), (3, .int (Int32.ofNat j)), (2, .int (Int32.ofNat k)), (0, .ref (ad 0))] dX7_tick_146 2 rfl (ofN_inc _) (by decide) rfl ?_
                refine f_iinc F (j + 1) [(3, .int (Int32.ofNat (j + 1))), (1, .int (Int32.ofNat (mm + 1))), (2, .int (Int32.ofNat k)), (0, .ref (ad 0))] dX7_tick_149 1 rfl (ofN_inc _) (by decide) rfl ?_
                refine g_goto F dX7_tick_152 (tgt := 96) rfl ?_
                refine g_locals [(3, .int (Int32.ofNat (j + 1))), (2, .int (Int32.ofNat k)), (1, .int (Int32.ofNat (mm + 1))), (0, .ref (ad 0))] [0, 2, 1, 3] rfl ?_
                exact ih (j + 1) (mm + 1) (su2 (w_X7_make y k 5 0 0 j) 13 ((5 * k) + j) 0) (by omega) (by omega) (ti_13 (ti_make hy (by omega) (lt_of_nle h123 (by decide) (by have := hy k (by omega); omega)) (by omega))) (g_eq rfl (by simp only [lpmm_X7_tick_96, lpw_X7_tick_96, if_pos h112, if_neg h123]) rfl (congrArg (fun t => rwld cI cZ t ad) (by simp only [lpmm_X7_tick_96, lpw_X7_tick_96, if_pos h112, if_neg h123])) K)
        refine loop96 _ 4 1 n (lpw_X7_tick_26 a k 4 1 (w_X7_work x k)) rfl (by decide) (ti_mono (by omega) (ti_lp26 (ti_work hx))) ?_
        refine f_iinc F (k + 1) [(2, .int (Int32.ofNat (k + 1))), (1, .int (Int32.ofNat (lpmm_X7_tick_96 a k 4 1 n (lpw_X7_tick_26 a k 4 1 (w_X7_work x k))))), (0, .ref (ad 0))] dX7_tick_155 0 rfl (ofN_inc _) (by decide) rfl ?_
        refine g_goto F dX7_tick_158 (tgt := 4) rfl ?_
        exact ih (k + 1) (lpmm_X7_tick_96 a k 4 1 n (lpw_X7_tick_26 a k 4 1 (w_X7_work x k))) (lpw_X7_tick_96 a k 4 1 n (lpw_X7_tick_26 a k 4 1 (w_X7_work x k))) (by omega) (ti_mono (by omega) (ti_lp96 (by omega) (by omega) (ti_mono (by omega) (ti_lp26 (ti_work hx))))) (g_eq rfl (by simp only [lpn_X7_tick_4, lpw_X7_tick_4, if_pos h16]) rfl (congrArg (fun t => rwld cI cZ t ad) (by simp only [lpn_X7_tick_4, lpw_X7_tick_4, if_pos h16])) K)
  refine loop4 _ 3 0 0 a (Nat.zero_add _) hq ?_
  refine g_iload_n F dX7_tick_161 0 rfl ?_
  exact g_iret F hr hlk dX7_tick_162 ⟨congrArg (fun t => some (Value.int (Int32.ofNat t))) rfl, congrArg (fun t => rwld cI cZ t ad) rfl⟩
