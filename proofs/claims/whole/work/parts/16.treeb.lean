theorem find_lt {c : CS} {i pa : Nat} (h : ¬ Int32.ofNat (r_X5_find c i pa) = Int32.ofNat 4294967295) : r_X5_find c i pa < c 7 i 0 := by
  have key : ∀ (d k : Nat), k + d = c 7 i 0 → lpr_X5_find_2 c i pa d k = 4294967295 ∨ lpr_X5_find_2 c i pa d k < c 7 i 0 := by
    intro d
    induction d with
    | zero => intro k _; left; simp only [lpr_X5_find_2]
    | succ d ih =>
      intro k hk
      simp only [lpr_X5_find_2]
      split
      · right; omega
      · exact ih (k + 1) (by omega)
  rcases key (c 7 i 0) 0 (Nat.zero_add _) with h1 | h1
  · exact absurd (by unfold r_X5_find; rw [h1]) h
  · exact h1
theorem nonneg_code {k : Nat} (h : k < 2147483648) : ¬ Int32.ofNat k < 0 := by
  rw [Int32.lt_iff_toInt_lt, Int32.toInt_ofNat_of_lt h]
  have : Int32.toInt 0 = 0 := by decide
  omega
theorem nc_ofN {k : Nat} (h : k < 4294967296) : nc (Int32.ofNat k) = k := by
  unfold nc
  rw [Int32.toUInt32_ofNat']
  exact UInt32.toNat_ofNat_of_lt' h
theorem sub1_code {n : Nat} (h : n < 2147483648) : nc (Int32.ofNat n - Int32.ofNat 1) = if n = 0 then 4294967295 else n - 1 := by
  cases n with
  | zero => decide
  | succ n =>
    rw [show Int32.ofNat (n + 1) - Int32.ofNat 1 = Int32.ofNat n by rw [← ofN_add]; simp, nc_ofN (by omega)]
    simp
theorem dec_code {k d : Nat} (h : k = d) : Int32.ofNat k + Int32.ofInt (-1) = Int32.ofNat (if d = 0 then 4294967295 else d - 1) := by
  subst h
  cases k with
  | zero => decide
  | succ n =>
    rw [← ofN_add]
    have : Int32.ofNat 1 + Int32.ofInt (-1) = 0 := by decide
    rw [Int32.add_assoc, this]
    simp
def r_X5_look (c : CS) (i pa wh : Nat) : Nat := if Int32.ofNat pa = 0 then (r_X5_lookAtRoot c i wh) else (if Int32.ofNat (r_X5_find c i pa) = Int32.ofNat 4294967295 then 0 else (if Int32.ofNat wh = Int32.ofNat 0 then 1 else (if Int32.ofNat wh = Int32.ofNat 1 then (c 27 i (r_X5_find c i pa)) else (if Int32.ofNat wh = Int32.ofNat 2 then (c 28 i (r_X5_find c i pa)) else (if Int32.ofNat wh = Int32.ofNat 3 then (r_X5_countChildren c i pa) else (if Int32.ofNat wh = Int32.ofNat 4 then (c 29 i (r_X5_find c i pa)) else 0))))))
abbrev rm_X5_look : Room := { frames := 2, cells := 0, slots := 0, locals := 44 }
set_option maxHeartbeats 4000000 in
set_option maxRecDepth 100000 in
theorem k_X5_look (l : Launch) (D : va_G) (cI cS cZ : ClassId) (ad : Nat → Nat) (c : CS) (i pa wh : Nat) (h_i : i < 3) (hb : c 7 i 0 ≤ 24) : gN l yX5_look (Cond.code yX5_look cX5_look 4 (some .int) :: tb) rm_X5_look D cls8 (tys3 cI cS cZ) [.ref (ad (2 + 22 * i + 2)), .int (Int32.ofNat pa), .int (Int32.ofNat wh)] (cwld cI cS c ad) (some (.int (Int32.ofNat (r_X5_look c i pa wh)))) (cwld cI cS c ad) := by
  unfold gN
  refine g_head (by decide) rfl (Nat.le_of_ble_eq_true rfl) ?_
  intro p e s m args below meth cd A F hr hlk hnm
  refine g_eq rfl (L' := [(0, .ref (ad (2 + 22 * i + 2))), (1, .int (Int32.ofNat pa)), (2, .int (Int32.ofNat wh))]) rfl rfl rfl ?_
  refine g_iload_n F dX5_look_0 1 rfl ?_
  refine g_if_ne F dX5_look_1 (tgt := 10) rfl (fun h1 => ?_) (fun h1 => ?_)
  · refine g_aload_n F dX5_look_10 0 rfl ?_
    refine g_iload_n F dX5_look_11 1 rfl ?_
    refine f_callV F (As := [.int (Int32.ofNat pa)]) (rest := []) (st' := [.int (Int32.ofNat (r_X5_find c i pa))]) (k_X5_find l D cI cS cZ ad c i pa h_i (by assumption)) (pl_TR h_i) rfl tb_237 tb_235 tb_236 tb_590 tb_4 ⟨rfl, hdX5_find⟩ ⟨rfl, rfl⟩ ⟨Nat.le_of_ble_eq_true rfl, Nat.le_of_ble_eq_true rfl⟩ cw_adr rfl rfl (Nat.le_of_ble_eq_true rfl) ⟨Nat.le_refl _, Nat.le_refl _⟩ dX5_look_12 rfl ?_
    refine g_istore_n F [(3, .int (Int32.ofNat (r_X5_find c i pa))), (0, .ref (ad (2 + 22 * i + 2))), (1, .int (Int32.ofNat pa)), (2, .int (Int32.ofNat wh))] dX5_look_15 (by decide) rfl ?_
    refine g_iload_n F dX5_look_16 0 rfl ?_
    refine f_iconst F 4294967295 dX5_look_17 rfl ?_
    refine g_icmp_ne F dX5_look_18 (tgt := 23) rfl (fun h18 => ?_) (fun h18 => ?_)
    · refine g_iload_n F dX5_look_23 3 rfl ?_
      by_cases h24_0 : Int32.ofNat wh = Int32.ofNat 0
      · refine g_tableIn F dX5_look_24 (by rw [h24_0]; decide) (by rw [h24_0]; decide) (off := 36) (by rw [h24_0]; rfl) (tgt := 60) rfl ?_
        refine f_iconst F 1 dX5_look_60 rfl ?_
        exact g_iret F hr hlk dX5_look_61 ⟨congrArg (fun t => some (Value.int (Int32.ofNat t))) (Eq.symm (by unfold r_X5_look; first | simp only [if_neg h1, if_neg h18, if_pos h24_0] | rfl)), rfl⟩
      by_cases h24_1 : Int32.ofNat wh = Int32.ofNat 1
      · refine g_tableIn F dX5_look_24 (by rw [h24_1]; decide) (by rw [h24_1]; decide) (off := 38) (by rw [h24_1]; rfl) (tgt := 62) rfl ?_
        refine g_aload_n F dX5_look_62 1 rfl ?_
        refine f_get F inX5 (pl_TR h_i) rfl 1 (by decide) tb_48 rfl (v := .ref (ad (2 + 22 * i + 14))) rfl dX5_look_63 ?_
        refine g_iload_n F dX5_look_66 0 rfl ?_
        refine f_ald F 0 (pl_27 h_i) rfl (j := r_X5_find c i pa) (by have := find_lt h18; omega) (by decide) dX5_look_67 ?_
        exact g_iret F hr hlk dX5_look_68 ⟨congrArg (fun t => some (Value.int (Int32.ofNat t))) (Eq.symm (by unfold r_X5_look; first | simp only [if_neg h1, if_neg h18, if_neg h24_0, if_pos h24_1] | rfl)), rfl⟩
      by_cases h24_2 : Int32.ofNat wh = Int32.ofNat 2
      · refine g_tableIn F dX5_look_24 (by rw [h24_2]; decide) (by rw [h24_2]; decide) (off := 45) (by rw [h24_2]; rfl) (tgt := 69) rfl ?_
        refine g_aload_n F dX5_look_69 1 rfl ?_
        refine f_get F inX5 (pl_TR h_i) rfl 2 (by decide) tb_49 rfl (v := .ref (ad (2 + 22 * i + 15))) rfl dX5_look_70 ?_
        refine g_iload_n F dX5_look_73 0 rfl ?_
        refine f_ald F 0 (pl_28 h_i) rfl (j := r_X5_find c i pa) (by have := find_lt h18; omega) (by decide) dX5_look_74 ?_
        exact g_iret F hr hlk dX5_look_75 ⟨congrArg (fun t => some (Value.int (Int32.ofNat t))) (Eq.symm (by unfold r_X5_look; first | simp only [if_neg h1, if_neg h18, if_neg h24_0, if_neg h24_1, if_pos h24_2] | rfl)), rfl⟩
      by_cases h24_3 : Int32.ofNat wh = Int32.ofNat 3
      · refine g_tableIn F dX5_look_24 (by rw [h24_3]; decide) (by rw [h24_3]; decide) (off := 52) (by rw [h24_3]; rfl) (tgt := 76) rfl ?_
        refine g_aload_n F dX5_look_76 1 rfl ?_
        refine g_iload_n F dX5_look_77 2 rfl ?_
        refine f_callV F (As := [.int (Int32.ofNat pa)]) (rest := []) (st' := [.int (Int32.ofNat (r_X5_countChildren c i pa))]) (k_X5_countChildren l D cI cS cZ ad c i pa h_i (by assumption)) (pl_TR h_i) rfl tb_249 tb_247 tb_248 tb_594 tb_4 ⟨rfl, hdX5_countChildren⟩ ⟨rfl, rfl⟩ ⟨Nat.le_of_ble_eq_true rfl, Nat.le_of_ble_eq_true rfl⟩ cw_adr rfl rfl (Nat.le_of_ble_eq_true rfl) ⟨Nat.le_refl _, Nat.le_refl _⟩ dX5_look_78 rfl ?_
        exact g_iret F hr hlk dX5_look_81 ⟨congrArg (fun t => some (Value.int (Int32.ofNat t))) (Eq.symm (by unfold r_X5_look; first | simp only [if_neg h1, if_neg h18, if_neg h24_0, if_neg h24_1, if_neg h24_2, if_pos h24_3] | rfl)), rfl⟩
      by_cases h24_4 : Int32.ofNat wh = Int32.ofNat 4
      · refine g_tableIn F dX5_look_24 (by rw [h24_4]; decide) (by rw [h24_4]; decide) (off := 58) (by rw [h24_4]; rfl) (tgt := 82) rfl ?_
        refine g_aload_n F dX5_look_82 1 rfl ?_
        refine f_get F inX5 (pl_TR h_i) rfl 3 (by decide) tb_50 rfl (v := .ref (ad (2 + 22 * i + 16))) rfl dX5_look_83 ?_
        refine g_iload_n F dX5_look_86 0 rfl ?_
        refine f_ald F 0 (pl_29 h_i) rfl (j := r_X5_find c i pa) (by have := find_lt h18; omega) (by decide) dX5_look_87 ?_
        exact g_iret F hr hlk dX5_look_88 ⟨congrArg (fun t => some (Value.int (Int32.ofNat t))) (Eq.symm (by unfold r_X5_look; first | simp only [if_neg h1, if_neg h18, if_neg h24_0, if_neg h24_1, if_neg h24_2, if_neg h24_3, if_pos h24_4] | rfl)), rfl⟩
      refine g_tableOut F dX5_look_24 (by have e0 : (Int32.ofNat wh).toInt ≠ 0 := fun h => h24_0 (Int32.toInt_inj.mp (h.trans (by decide))); have e1 : (Int32.ofNat wh).toInt ≠ 1 := fun h => h24_1 (Int32.toInt_inj.mp (h.trans (by decide))); have e2 : (Int32.ofNat wh).toInt ≠ 2 := fun h => h24_2 (Int32.toInt_inj.mp (h.trans (by decide))); have e3 : (Int32.ofNat wh).toInt ≠ 3 := fun h => h24_3 (Int32.toInt_inj.mp (h.trans (by decide))); have e4 : (Int32.ofNat wh).toInt ≠ 4 := fun h => h24_4 (Int32.toInt_inj.mp (h.trans (by decide))); omega) (tgt := 89) rfl ?_
      refine f_iconst F 0 dX5_look_89 rfl ?_
      exact g_iret F hr hlk dX5_look_90 ⟨congrArg (fun t => some (Value.int (Int32.ofNat t))) (Eq.symm (by unfold r_X5_look; first | simp only [if_neg h1, if_neg h18, if_neg h24_0, if_neg h24_1, if_neg h24_2, if_neg h24_3, if_neg h24_4] | rfl)), rfl⟩
    · refine f_iconst F 0 dX5_look_21 rfl ?_
      exact g_iret F hr hlk dX5_look_22 ⟨congrArg (fun t => some (Value.int (Int32.ofNat t))) (Eq.symm (by unfold r_X5_look; first | simp only [if_neg h1, if_pos h18] | rfl)), rfl⟩
  · refine g_aload_n F dX5_look_4 0 rfl ?_
    refine g_iload_n F dX5_look_5 2 rfl ?_
    refine f_callV F (As := [.int (Int32.ofNat wh)]) (rest := []) (st' := [.int (Int32.ofNat (r_X5_lookAtRoot c i wh))]) (k_X5_lookAtRoot l D cI cS cZ ad c i wh h_i (by assumption)) (pl_TR h_i) rfl tb_340 tb_338 tb_339 tb_605 tb_4 ⟨rfl, hdX5_lookAtRoot⟩ ⟨rfl, rfl⟩ ⟨Nat.le_of_ble_eq_true rfl, Nat.le_of_ble_eq_true rfl⟩ cw_adr rfl rfl (Nat.le_of_ble_eq_true rfl) ⟨Nat.le_refl _, Nat.le_refl _⟩ dX5_look_6 rfl ?_
    exact g_iret F hr hlk dX5_look_9 ⟨congrArg (fun t => some (Value.int (Int32.ofNat t))) (Eq.symm (by unfold r_X5_look; first | simp only [if_pos h1] | rfl)), rfl⟩
def w_X5_add (c : CS) (i pa va ow : Nat) : CS := if Int32.ofNat 24 ≤ Int32.ofNat (c 7 i 0) then c else (su3 (su3 (su3 (su3 (su3 c 26 i (c 7 i 0) pa) 27 i (c 7 i 0) va) 28 i (c 7 i 0) 0) 29 i (c 7 i 0) ow) 7 i 0 ((c 7 i 0) + 1))
abbrev rm_X5_add : Room := { frames := 0, cells := 0, slots := 0, locals := 0 }
set_option maxHeartbeats 4000000 in
set_option maxRecDepth 100000 in
theorem k_X5_add (l : Launch) (D : va_G) (cI cS cZ : ClassId) (ad : Nat → Nat) (c : CS) (i pa va ow : Nat) (h_i : i < 3) (hb : c 7 i 0 ≤ 24) : gN l yX5_add (Cond.code yX5_add cX5_add 4 none :: tb) rm_X5_add D cls8 (tys3 cI cS cZ) [.ref (ad (2 + 22 * i + 2)), .int (Int32.ofNat pa), .int (Int32.ofNat va), .int (Int32.ofNat ow)] (cwld cI cS c ad) none (cwld cI cS (w_X5_add c i pa va ow) ad) := by
  unfold gN
  refine g_head (by decide) rfl (Nat.le_of_ble_eq_true rfl) ?_
  intro p e s m args below meth cd A F hr hlk hnm
  refine g_eq rfl (L' := [(0, .ref (ad (2 + 22 * i + 2))), (1, .int (Int32.ofNat pa)), (2, .int (Int32.ofNat va)), (3, .int (Int32.ofNat ow))]) rfl rfl rfl ?_
  refine g_aload_n F dX5_add_0 0 rfl ?_
  refine f_get F inX5 (pl_TR h_i) rfl 4 (by decide) tb_51 rfl (v := .int (Int32.ofNat (c 7 i 0))) rfl dX5_add_1 ?_
  refine f_bipush F 24 dX5_add_4 rfl ?_
  refine g_icmp_ge F dX5_add_6 (tgt := 59) rfl (fun h6 => ?_) (fun h6 => ?_)
  · exact g_vret F hr hlk dX5_add_59 ⟨rfl, congrArg (fun t => cwld cI cS t ad) (Eq.symm (by unfold w_X5_add; first | simp only [if_pos h6] | rfl))⟩
  · refine g_aload_n F dX5_add_9 0 rfl ?_
    refine f_get F inX5 (pl_TR h_i) rfl 0 (by decide) tb_47 rfl (v := .ref (ad (2 + 22 * i + 13))) rfl dX5_add_10 ?_
    refine g_aload_n F dX5_add_13 0 rfl ?_
    refine f_get F inX5 (pl_TR h_i) rfl 4 (by decide) tb_51 rfl (v := .int (Int32.ofNat (c 7 i 0))) rfl dX5_add_14 ?_
    refine g_iload_n F dX5_add_17 1 rfl ?_
    refine f_ast F 0 (pl_26 h_i) rfl (j := c 7 i 0) (v := pa) (lt_of_nle h6 (by decide) (by omega)) (by decide) dX5_add_18 (ps_26 h_i) ?_
    refine g_aload_n F dX5_add_19 0 rfl ?_
    refine f_get F inX5 (pl_TR h_i) rfl 1 (by decide) tb_48 rfl (v := .ref (ad (2 + 22 * i + 14))) rfl dX5_add_20 ?_
    refine g_aload_n F dX5_add_23 0 rfl ?_
    refine f_get F inX5 (pl_TR h_i) rfl 4 (by decide) tb_51 rfl (v := .int (Int32.ofNat (c 7 i 0))) rfl dX5_add_24 ?_
    refine g_iload_n F dX5_add_27 2 rfl ?_
    refine f_ast F 0 (pl_27 h_i) rfl (j := c 7 i 0) (v := va) (lt_of_nle h6 (by decide) (by omega)) (by decide) dX5_add_28 (ps_27 h_i) ?_
    refine g_aload_n F dX5_add_29 0 rfl ?_
    refine f_get F inX5 (pl_TR h_i) rfl 2 (by decide) tb_49 rfl (v := .ref (ad (2 + 22 * i + 15))) rfl dX5_add_30 ?_
    refine g_aload_n F dX5_add_33 0 rfl ?_
    refine f_get F inX5 (pl_TR h_i) rfl 4 (by decide) tb_51 rfl (v := .int (Int32.ofNat (c 7 i 0))) rfl dX5_add_34 ?_
    refine f_iconst F 0 dX5_add_37 rfl ?_
    refine f_ast F 0 (pl_28 h_i) rfl (j := c 7 i 0) (v := 0) (lt_of_nle h6 (by decide) (by omega)) (by decide) dX5_add_38 (ps_28 h_i) ?_
    refine g_aload_n F dX5_add_39 0 rfl ?_
    refine f_get F inX5 (pl_TR h_i) rfl 3 (by decide) tb_50 rfl (v := .ref (ad (2 + 22 * i + 16))) rfl dX5_add_40 ?_
    refine g_aload_n F dX5_add_43 0 rfl ?_
    refine f_get F inX5 (pl_TR h_i) rfl 4 (by decide) tb_51 rfl (v := .int (Int32.ofNat (c 7 i 0))) rfl dX5_add_44 ?_
    refine g_iload_n F dX5_add_47 3 rfl ?_
    refine f_ast F 0 (pl_29 h_i) rfl (j := c 7 i 0) (v := ow) (lt_of_nle h6 (by decide) (by omega)) (by decide) dX5_add_48 (ps_29 h_i) ?_
    refine g_aload_n F dX5_add_49 0 rfl ?_
    refine g_dup F dX5_add_50 rfl ?_
    refine f_get F inX5 (pl_TR h_i) rfl 4 (by decide) tb_51 rfl (v := .int (Int32.ofNat (c 7 i 0))) rfl dX5_add_51 ?_
    refine f_iconst F 1 dX5_add_54 rfl ?_
    refine f_add F dX5_add_55 ?_
    refine f_put F inX5 tyX5_ok nmX5 (pl_TR h_i) rfl 4 (by decide) tb_51 rfl rfl rfl rfl (Nat.le_of_ble_eq_true rfl) dX5_add_56 (ps_7 h_i) ?_
    exact g_vret F hr hlk dX5_add_59 ⟨rfl, congrArg (fun t => cwld cI cS t ad) (Eq.symm (by unfold w_X5_add; first | simp only [if_neg h6] | rfl))⟩
def w_X5_remove (c : CS) (i at_ : Nat) : CS := su3 (su3 (su3 (su3 (su3 c 7 i 0 ((c 7 i 0) - 1)) 26 i at_ (c 26 i ((c 7 i 0) - 1))) 27 i at_ (c 27 i ((c 7 i 0) - 1))) 28 i at_ (c 28 i ((c 7 i 0) - 1))) 29 i at_ (c 29 i ((c 7 i 0) - 1))
abbrev rm_X5_remove : Room := { frames := 0, cells := 0, slots := 0, locals := 0 }
set_option maxHeartbeats 4000000 in
set_option maxRecDepth 100000 in
theorem k_X5_remove (l : Launch) (D : va_G) (cI cS cZ : ClassId) (ad : Nat → Nat) (c : CS) (i at_ : Nat) (h_i : i < 3) (hb : c 7 i 0 ≤ 24) (hp : 1 ≤ c 7 i 0) (hat : at_ < 24) : gN l yX5_remove (Cond.code yX5_remove cX5_remove 2 none :: tb) rm_X5_remove D cls8 (tys3 cI cS cZ) [.ref (ad (2 + 22 * i + 2)), .int (Int32.ofNat at_)] (cwld cI cS c ad) none (cwld cI cS (w_X5_remove c i at_) ad) := by
  unfold gN
  refine g_head (by decide) rfl (Nat.le_of_ble_eq_true rfl) ?_
  intro p e s m args below meth cd A F hr hlk hnm
  refine g_eq rfl (L' := [(0, .ref (ad (2 + 22 * i + 2))), (1, .int (Int32.ofNat at_))]) rfl rfl rfl ?_
  refine g_aload_n F dX5_remove_0 0 rfl ?_
  refine g_dup F dX5_remove_1 rfl ?_
  refine f_get F inX5 (pl_TR h_i) rfl 4 (by decide) tb_51 rfl (v := .int (Int32.ofNat (c 7 i 0))) rfl dX5_remove_2 ?_
  refine f_iconst F 1 dX5_remove_5 rfl ?_
  refine f_sub F hp dX5_remove_6 ?_
  refine f_put F inX5 tyX5_ok nmX5 (pl_TR h_i) rfl 4 (by decide) tb_51 rfl rfl rfl rfl (Nat.le_of_ble_eq_true rfl) dX5_remove_7 (ps_7 h_i) ?_
  refine g_aload_n F dX5_remove_10 0 rfl ?_
  refine f_get F inX5 (pl_TR h_i) rfl 0 (by decide) tb_47 rfl (v := .ref (ad (2 + 22 * i + 13))) rfl dX5_remove_11 ?_
  refine g_iload_n F dX5_remove_14 1 rfl ?_
  refine g_aload_n F dX5_remove_15 0 rfl ?_
  refine f_get F inX5 (pl_TR h_i) rfl 0 (by decide) tb_47 rfl (v := .ref (ad (2 + 22 * i + 13))) rfl dX5_remove_16 ?_
  refine g_aload_n F dX5_remove_19 0 rfl ?_
  refine f_get F inX5 (pl_TR h_i) rfl 4 (by decide) tb_51 rfl (v := .int (Int32.ofNat ((su3 c 7 i 0 ((c 7 i 0) - 1)) 7 i 0))) rfl dX5_remove_20 ?_
  refine g_eq rfl rfl (st' := [.int (Int32.ofNat ((c 7 i 0) - 1)), .ref (ad (2 + 22 * i + 13)), .int (Int32.ofNat at_), .ref (ad (2 + 22 * i + 13))]) (by rw [su3_same]) rfl ?_
  refine f_ald F 0 (pl_26 h_i) rfl (j := (c 7 i 0) - 1) (by omega) (by decide) dX5_remove_23 ?_
  refine g_eq rfl rfl (st' := [.int (Int32.ofNat (c 26 i ((c 7 i 0) - 1))), .int (Int32.ofNat at_), .ref (ad (2 + 22 * i + 13))]) rfl rfl ?_
  refine f_ast F 0 (pl_26 h_i) rfl (j := at_) (v := c 26 i ((c 7 i 0) - 1)) (by omega) (by decide) dX5_remove_24 (ps_26 h_i) ?_
  refine g_aload_n F dX5_remove_25 0 rfl ?_
  refine f_get F inX5 (pl_TR h_i) rfl 1 (by decide) tb_48 rfl (v := .ref (ad (2 + 22 * i + 14))) rfl dX5_remove_26 ?_
  refine g_iload_n F dX5_remove_29 1 rfl ?_
  refine g_aload_n F dX5_remove_30 0 rfl ?_
  refine f_get F inX5 (pl_TR h_i) rfl 1 (by decide) tb_48 rfl (v := .ref (ad (2 + 22 * i + 14))) rfl dX5_remove_31 ?_
  refine g_aload_n F dX5_remove_34 0 rfl ?_
  refine f_get F inX5 (pl_TR h_i) rfl 4 (by decide) tb_51 rfl (v := .int (Int32.ofNat ((su3 c 7 i 0 ((c 7 i 0) - 1)) 7 i 0))) rfl dX5_remove_35 ?_
  refine g_eq rfl rfl (st' := [.int (Int32.ofNat ((c 7 i 0) - 1)), .ref (ad (2 + 22 * i + 14)), .int (Int32.ofNat at_), .ref (ad (2 + 22 * i + 14))]) (by rw [su3_same]) rfl ?_
  refine f_ald F 0 (pl_27 h_i) rfl (j := (c 7 i 0) - 1) (by omega) (by decide) dX5_remove_38 ?_
  refine g_eq rfl rfl (st' := [.int (Int32.ofNat (c 27 i ((c 7 i 0) - 1))), .int (Int32.ofNat at_), .ref (ad (2 + 22 * i + 14))]) rfl rfl ?_
  refine f_ast F 0 (pl_27 h_i) rfl (j := at_) (v := c 27 i ((c 7 i 0) - 1)) (by omega) (by decide) dX5_remove_39 (ps_27 h_i) ?_
  refine g_aload_n F dX5_remove_40 0 rfl ?_
  refine f_get F inX5 (pl_TR h_i) rfl 2 (by decide) tb_49 rfl (v := .ref (ad (2 + 22 * i + 15))) rfl dX5_remove_41 ?_
  refine g_iload_n F dX5_remove_44 1 rfl ?_
  refine g_aload_n F dX5_remove_45 0 rfl ?_
  refine f_get F inX5 (pl_TR h_i) rfl 2 (by decide) tb_49 rfl (v := .ref (ad (2 + 22 * i + 15))) rfl dX5_remove_46 ?_
  refine g_aload_n F dX5_remove_49 0 rfl ?_
  refine f_get F inX5 (pl_TR h_i) rfl 4 (by decide) tb_51 rfl (v := .int (Int32.ofNat ((su3 c 7 i 0 ((c 7 i 0) - 1)) 7 i 0))) rfl dX5_remove_50 ?_
  refine g_eq rfl rfl (st' := [.int (Int32.ofNat ((c 7 i 0) - 1)), .ref (ad (2 + 22 * i + 15)), .int (Int32.ofNat at_), .ref (ad (2 + 22 * i + 15))]) (by rw [su3_same]) rfl ?_
  refine f_ald F 0 (pl_28 h_i) rfl (j := (c 7 i 0) - 1) (by omega) (by decide) dX5_remove_53 ?_
  refine g_eq rfl rfl (st' := [.int (Int32.ofNat (c 28 i ((c 7 i 0) - 1))), .int (Int32.ofNat at_), .ref (ad (2 + 22 * i + 15))]) rfl rfl ?_
  refine f_ast F 0 (pl_28 h_i) rfl (j := at_) (v := c 28 i ((c 7 i 0) - 1)) (by omega) (by decide) dX5_remove_54 (ps_28 h_i) ?_
  refine g_aload_n F dX5_remove_55 0 rfl ?_
  refine f_get F inX5 (pl_TR h_i) rfl 3 (by decide) tb_50 rfl (v := .ref (ad (2 + 22 * i + 16))) rfl dX5_remove_56 ?_
  refine g_iload_n F dX5_remove_59 1 rfl ?_
  refine g_aload_n F dX5_remove_60 0 rfl ?_
  refine f_get F inX5 (pl_TR h_i) rfl 3 (by decide) tb_50 rfl (v := .ref (ad (2 + 22 * i + 16))) rfl dX5_remove_61 ?_
  refine g_aload_n F dX5_remove_64 0 rfl ?_
  refine f_get F inX5 (pl_TR h_i) rfl 4 (by decide) tb_51 rfl (v := .int (Int32.ofNat ((su3 c 7 i 0 ((c 7 i 0) - 1)) 7 i 0))) rfl dX5_remove_65 ?_
  refine g_eq rfl rfl (st' := [.int (Int32.ofNat ((c 7 i 0) - 1)), .ref (ad (2 + 22 * i + 16)), .int (Int32.ofNat at_), .ref (ad (2 + 22 * i + 16))]) (by rw [su3_same]) rfl ?_
  refine f_ald F 0 (pl_29 h_i) rfl (j := (c 7 i 0) - 1) (by omega) (by decide) dX5_remove_68 ?_
  refine g_eq rfl rfl (st' := [.int (Int32.ofNat (c 29 i ((c 7 i 0) - 1))), .int (Int32.ofNat at_), .ref (ad (2 + 22 * i + 16))]) rfl rfl ?_
  refine f_ast F 0 (pl_29 h_i) rfl (j := at_) (v := c 29 i ((c 7 i 0) - 1)) (by omega) (by decide) dX5_remove_69 (ps_29 h_i) ?_
  exact g_vret F hr hlk dX5_remove_70 ⟨rfl, congrArg (fun t => cwld cI cS t ad) rfl⟩
def r_X5_create (c : CS) (i pa va ow : Nat) : Nat := if Int32.ofNat ow = 0 then (if Int32.ofNat (r_X5_find c i pa) = Int32.ofNat 4294967295 then (if Int32.ofNat (nc ((Int32.ofNat pa) / (Int32.ofNat 8))) = 0 then (if Int32.ofNat (r_X5_find c i (nc ((Int32.ofNat pa) / (Int32.ofNat 8)))) = Int32.ofNat 4294967295 then 0 else (if Int32.ofNat (c 29 i (r_X5_find c i (nc ((Int32.ofNat pa) / (Int32.ofNat 8))))) = 0 then 0 else 3)) else (if Int32.ofNat (r_X5_find c i (nc ((Int32.ofNat pa) / (Int32.ofNat 8)))) = Int32.ofNat 4294967295 then 1 else (if Int32.ofNat (c 29 i (r_X5_find c i (nc ((Int32.ofNat pa) / (Int32.ofNat 8))))) = 0 then 0 else 3))) else 2) else (if Int32.ofNat (r_X5_isOpen c i ow) = 0 then 6 else (if Int32.ofNat (r_X5_find c i pa) = Int32.ofNat 4294967295 then (if Int32.ofNat (nc ((Int32.ofNat pa) / (Int32.ofNat 8))) = 0 then (if Int32.ofNat (r_X5_find c i (nc ((Int32.ofNat pa) / (Int32.ofNat 8)))) = Int32.ofNat 4294967295 then 0 else (if Int32.ofNat (c 29 i (r_X5_find c i (nc ((Int32.ofNat pa) / (Int32.ofNat 8))))) = 0 then 0 else 3)) else (if Int32.ofNat (r_X5_find c i (nc ((Int32.ofNat pa) / (Int32.ofNat 8)))) = Int32.ofNat 4294967295 then 1 else (if Int32.ofNat (c 29 i (r_X5_find c i (nc ((Int32.ofNat pa) / (Int32.ofNat 8))))) = 0 then 0 else 3))) else 2))
def w_X5_create (c : CS) (i pa va ow : Nat) : CS := if Int32.ofNat ow = 0 then (if Int32.ofNat (r_X5_find c i pa) = Int32.ofNat 4294967295 then (if Int32.ofNat (nc ((Int32.ofNat pa) / (Int32.ofNat 8))) = 0 then (if Int32.ofNat (r_X5_find c i (nc ((Int32.ofNat pa) / (Int32.ofNat 8)))) = Int32.ofNat 4294967295 then (w_X5_add c i pa va ow) else (if Int32.ofNat (c 29 i (r_X5_find c i (nc ((Int32.ofNat pa) / (Int32.ofNat 8))))) = 0 then (w_X5_add c i pa va ow) else c)) else (if Int32.ofNat (r_X5_find c i (nc ((Int32.ofNat pa) / (Int32.ofNat 8)))) = Int32.ofNat 4294967295 then c else (if Int32.ofNat (c 29 i (r_X5_find c i (nc ((Int32.ofNat pa) / (Int32.ofNat 8))))) = 0 then (w_X5_add c i pa va ow) else c))) else c) else (if Int32.ofNat (r_X5_isOpen c i ow) = 0 then c else (if Int32.ofNat (r_X5_find c i pa) = Int32.ofNat 4294967295 then (if Int32.ofNat (nc ((Int32.ofNat pa) / (Int32.ofNat 8))) = 0 then (if Int32.ofNat (r_X5_find c i (nc ((Int32.ofNat pa) / (Int32.ofNat 8)))) = Int32.ofNat 4294967295 then (w_X5_add c i pa va ow) else (if Int32.ofNat (c 29 i (r_X5_find c i (nc ((Int32.ofNat pa) / (Int32.ofNat 8))))) = 0 then (w_X5_add c i pa va ow) else c)) else (if Int32.ofNat (r_X5_find c i (nc ((Int32.ofNat pa) / (Int32.ofNat 8)))) = Int32.ofNat 4294967295 then c else (if Int32.ofNat (c 29 i (r_X5_find c i (nc ((Int32.ofNat pa) / (Int32.ofNat 8))))) = 0 then (w_X5_add c i pa va ow) else c))) else c))
abbrev rm_X5_create : Room := { frames := 2, cells := 0, slots := 0, locals := 41 }
set_option maxHeartbeats 4000000 in
set_option maxRecDepth 100000 in
theorem k_X5_create (l : Launch) (D : va_G) (cI cS cZ : ClassId) (ad : Nat → Nat) (c : CS) (i pa va ow : Nat) (h_i : i < 3) (hb : c 7 i 0 ≤ 24) : gN l yX5_create (Cond.code yX5_create cX5_create 6 (some .int) :: tb) rm_X5_create D cls8 (tys3 cI cS cZ) [.ref (ad (2 + 22 * i + 2)), .int (Int32.ofNat pa), .int (Int32.ofNat va), .int (Int32.ofNat ow)] (cwld cI cS c ad) (some (.int (Int32.ofNat (r_X5_create c i pa va ow)))) (cwld cI cS (w_X5_create c i pa va ow) ad) := by
  unfold gN
  refine g_head (by decide) rfl (Nat.le_of_ble_eq_true rfl) ?_
  intro p e s m args below meth cd A F hr hlk hnm
  refine g_eq rfl (L' := [(0, .ref (ad (2 + 22 * i + 2))), (1, .int (Int32.ofNat pa)), (2, .int (Int32.ofNat va)), (3, .int (Int32.ofNat ow))]) rfl rfl rfl ?_
  refine g_iload_n F dX5_create_0 3 rfl ?_
  refine g_if_eq F dX5_create_1 (tgt := 15) rfl (fun h1 => ?_) (fun h1 => ?_)
  · refine g_aload_n F dX5_create_15 0 rfl ?_
    refine g_iload_n F dX5_create_16 1 rfl ?_
    refine f_callV F (As := [.int (Int32.ofNat pa)]) (rest := []) (st' := [.int (Int32.ofNat (r_X5_find c i pa))]) (k_X5_find l D cI cS cZ ad c i pa h_i (by assumption)) (pl_TR h_i) rfl tb_237 tb_235 tb_236 tb_590 tb_4 ⟨rfl, hdX5_find⟩ ⟨rfl, rfl⟩ ⟨Nat.le_of_ble_eq_true rfl, Nat.le_of_ble_eq_true rfl⟩ cw_adr rfl rfl (Nat.le_of_ble_eq_true rfl) ⟨Nat.le_refl _, Nat.le_refl _⟩ dX5_create_17 rfl ?_
    refine f_iconst F 4294967295 dX5_create_20 rfl ?_
    refine g_icmp_eq F dX5_create_21 (tgt := 26) rfl (fun h21 => ?_) (fun h21 => ?_)
    · refine g_iload_n F dX5_create_26 1 rfl ?_
      refine f_bipush F 8 dX5_create_27 rfl ?_
      refine g_idiv F dX5_create_29 (by decide) ?_
      refine f_code ?_
      refine g_istore F [(4, .int (Int32.ofNat (nc ((Int32.ofNat pa) / (Int32.ofNat 8))))), (0, .ref (ad (2 + 22 * i + 2))), (1, .int (Int32.ofNat pa)), (2, .int (Int32.ofNat va)), (3, .int (Int32.ofNat ow))] dX5_create_30 (by decide) rfl ?_
      refine g_aload_n F dX5_create_32 1 rfl ?_
      refine g_iload F dX5_create_33 0 rfl ?_
      refine f_callV F (As := [.int (Int32.ofNat (nc ((Int32.ofNat pa) / (Int32.ofNat 8))))]) (rest := []) (st' := [.int (Int32.ofNat (r_X5_find c i (nc ((Int32.ofNat pa) / (Int32.ofNat 8)))))]) (k_X5_find l D cI cS cZ ad c i (nc ((Int32.ofNat pa) / (Int32.ofNat 8))) h_i (by assumption)) (pl_TR h_i) rfl tb_237 tb_235 tb_236 tb_590 tb_4 ⟨rfl, hdX5_find⟩ ⟨rfl, rfl⟩ ⟨Nat.le_of_ble_eq_true rfl, Nat.le_of_ble_eq_true rfl⟩ cw_adr rfl rfl (Nat.le_of_ble_eq_true rfl) ⟨Nat.le_refl _, Nat.le_refl _⟩ dX5_create_35 rfl ?_
      refine g_istore F [(5, .int (Int32.ofNat (r_X5_find c i (nc ((Int32.ofNat pa) / (Int32.ofNat 8)))))), (4, .int (Int32.ofNat (nc ((Int32.ofNat pa) / (Int32.ofNat 8))))), (0, .ref (ad (2 + 22 * i + 2))), (1, .int (Int32.ofNat pa)), (2, .int (Int32.ofNat va)), (3, .int (Int32.ofNat ow))] dX5_create_38 (by decide) rfl ?_
      refine g_iload F dX5_create_40 1 rfl ?_
      refine g_if_eq F dX5_create_42 (tgt := 53) rfl (fun h42 => ?_) (fun h42 => ?_)
      · refine g_iload F dX5_create_53 0 rfl ?_
        refine f_iconst F 4294967295 dX5_create_55 rfl ?_
        refine g_icmp_eq F dX5_create_56 (tgt := 71) rfl (fun h56 => ?_) (fun h56 => ?_)
        · refine g_aload_n F dX5_create_71 2 rfl ?_
          refine g_iload_n F dX5_create_72 3 rfl ?_
          refine g_iload_n F dX5_create_73 4 rfl ?_
          refine g_iload_n F dX5_create_74 5 rfl ?_
          refine f_callV F (As := [.int (Int32.ofNat pa), .int (Int32.ofNat va), .int (Int32.ofNat ow)]) (rest := []) (st' := []) (k_X5_add l D cI cS cZ ad c i pa va ow h_i (by assumption)) (pl_TR h_i) rfl tb_240 tb_238 tb_239 tb_591 tb_4 ⟨rfl, hdX5_add⟩ ⟨rfl, rfl⟩ ⟨Nat.le_of_ble_eq_true rfl, Nat.le_of_ble_eq_true rfl⟩ cw_adr rfl rfl (Nat.le_of_ble_eq_true rfl) ⟨Nat.le_refl _, Nat.le_refl _⟩ dX5_create_75 rfl ?_
          refine f_iconst F 0 dX5_create_78 rfl ?_
          exact g_iret F hr hlk dX5_create_79 ⟨congrArg (fun t => some (Value.int (Int32.ofNat t))) (Eq.symm (by unfold r_X5_create; first | simp only [if_pos h1, if_pos h21, if_pos h42, if_pos h56] | rfl)), congrArg (fun t => cwld cI cS t ad) (Eq.symm (by unfold w_X5_create; first | simp only [if_pos h1, if_pos h21, if_pos h42, if_pos h56] | rfl))⟩
        · refine g_aload_n F dX5_create_59 2 rfl ?_
          refine f_get F inX5 (pl_TR h_i) rfl 3 (by decide) tb_50 rfl (v := .ref (ad (2 + 22 * i + 16))) rfl dX5_create_60 ?_
          refine g_iload F dX5_create_63 0 rfl ?_
          refine f_ald F 0 (pl_29 h_i) rfl (j := r_X5_find c i (nc ((Int32.ofNat pa) / (Int32.ofNat 8)))) (by have := find_lt h56; omega) (by decide) dX5_create_65 ?_
          refine g_if_eq F dX5_create_66 (tgt := 71) rfl (fun h66 => ?_) (fun h66 => ?_)
          · refine g_aload_n F dX5_create_71 2 rfl ?_
            refine g_iload_n F dX5_create_72 3 rfl ?_
            refine g_iload_n F dX5_create_73 4 rfl ?_
            refine g_iload_n F dX5_create_74 5 rfl ?_
            refine f_callV F (As := [.int (Int32.ofNat pa), .int (Int32.ofNat va), .int (Int32.ofNat ow)]) (rest := []) (st' := []) (k_X5_add l D cI cS cZ ad c i pa va ow h_i (by assumption)) (pl_TR h_i) rfl tb_240 tb_238 tb_239 tb_591 tb_4 ⟨rfl, hdX5_add⟩ ⟨rfl, rfl⟩ ⟨Nat.le_of_ble_eq_true rfl, Nat.le_of_ble_eq_true rfl⟩ cw_adr rfl rfl (Nat.le_of_ble_eq_true rfl) ⟨Nat.le_refl _, Nat.le_refl _⟩ dX5_create_75 rfl ?_
            refine f_iconst F 0 dX5_create_78 rfl ?_
            exact g_iret F hr hlk dX5_create_79 ⟨congrArg (fun t => some (Value.int (Int32.ofNat t))) (Eq.symm (by unfold r_X5_create; first | simp only [if_pos h1, if_pos h21, if_pos h42, if_neg h56, if_pos h66] | rfl)), congrArg (fun t => cwld cI cS t ad) (Eq.symm (by unfold w_X5_create; first | simp only [if_pos h1, if_pos h21, if_pos h42, if_neg h56, if_pos h66] | rfl))⟩
          · refine f_iconst F 3 dX5_create_69 rfl ?_
            exact g_iret F hr hlk dX5_create_70 ⟨congrArg (fun t => some (Value.int (Int32.ofNat t))) (Eq.symm (by unfold r_X5_create; first | simp only [if_pos h1, if_pos h21, if_pos h42, if_neg h56, if_neg h66] | rfl)), congrArg (fun t => cwld cI cS t ad) (Eq.symm (by unfold w_X5_create; first | simp only [if_pos h1, if_pos h21, if_pos h42, if_neg h56, if_neg h66] | rfl))⟩
      · refine g_iload F dX5_create_45 0 rfl ?_
        refine f_iconst F 4294967295 dX5_create_47 rfl ?_
        refine g_icmp_ne F dX5_create_48 (tgt := 53) rfl (fun h48 => ?_) (fun h48 => ?_)
        · refine g_iload F dX5_create_53 0 rfl ?_
          refine f_iconst F 4294967295 dX5_create_55 rfl ?_
          refine g_icmp_eq F dX5_create_56 (tgt := 71) rfl (fun h56 => ?_) (fun h56 => ?_)
          · exact absurd h56 h48
          refine g_aload_n F dX5_create_59 2 rfl ?_
          refine f_get F inX5 (pl_TR h_i) rfl 3 (by decide) tb_50 rfl (v := .ref (ad (2 + 22 * i + 16))) rfl dX5_create_60 ?_
          refine g_iload F dX5_create_63 0 rfl ?_
          refine f_ald F 0 (pl_29 h_i) rfl (j := r_X5_find c i (nc ((Int32.ofNat pa) / (Int32.ofNat 8)))) (by have := find_lt h56; omega) (by decide) dX5_create_65 ?_
          refine g_if_eq F dX5_create_66 (tgt := 71) rfl (fun h66 => ?_) (fun h66 => ?_)
          · refine g_aload_n F dX5_create_71 2 rfl ?_
            refine g_iload_n F dX5_create_72 3 rfl ?_
            refine g_iload_n F dX5_create_73 4 rfl ?_
            refine g_iload_n F dX5_create_74 5 rfl ?_
            refine f_callV F (As := [.int (Int32.ofNat pa), .int (Int32.ofNat va), .int (Int32.ofNat ow)]) (rest := []) (st' := []) (k_X5_add l D cI cS cZ ad c i pa va ow h_i (by assumption)) (pl_TR h_i) rfl tb_240 tb_238 tb_239 tb_591 tb_4 ⟨rfl, hdX5_add⟩ ⟨rfl, rfl⟩ ⟨Nat.le_of_ble_eq_true rfl, Nat.le_of_ble_eq_true rfl⟩ cw_adr rfl rfl (Nat.le_of_ble_eq_true rfl) ⟨Nat.le_refl _, Nat.le_refl _⟩ dX5_create_75 rfl ?_
            refine f_iconst F 0 dX5_create_78 rfl ?_
            exact g_iret F hr hlk dX5_create_79 ⟨congrArg (fun t => some (Value.int (Int32.ofNat t))) (Eq.symm (by unfold r_X5_create; first | simp only [if_pos h1, if_pos h21, if_neg h42, if_neg h48, if_pos h66] | rfl)), congrArg (fun t => cwld cI cS t ad) (Eq.symm (by unfold w_X5_create; first | simp only [if_pos h1, if_pos h21, if_neg h42, if_neg h48, if_pos h66] | rfl))⟩
          · refine f_iconst F 3 dX5_create_69 rfl ?_
            exact g_iret F hr hlk dX5_create_70 ⟨congrArg (fun t => some (Value.int (Int32.ofNat t))) (Eq.symm (by unfold r_X5_create; first | simp only [if_pos h1, if_pos h21, if_neg h42, if_neg h48, if_neg h66] | rfl)), congrArg (fun t => cwld cI cS t ad) (Eq.symm (by unfold w_X5_create; first | simp only [if_pos h1, if_pos h21, if_neg h42, if_neg h48, if_neg h66] | rfl))⟩
        · refine f_iconst F 1 dX5_create_51 rfl ?_
          exact g_iret F hr hlk dX5_create_52 ⟨congrArg (fun t => some (Value.int (Int32.ofNat t))) (Eq.symm (by unfold r_X5_create; first | simp only [if_pos h1, if_pos h21, if_neg h42, if_pos h48] | rfl)), congrArg (fun t => cwld cI cS t ad) (Eq.symm (by unfold w_X5_create; first | simp only [if_pos h1, if_pos h21, if_neg h42, if_pos h48] | rfl))⟩
    · refine f_iconst F 2 dX5_create_24 rfl ?_
      exact g_iret F hr hlk dX5_create_25 ⟨congrArg (fun t => some (Value.int (Int32.ofNat t))) (Eq.symm (by unfold r_X5_create; first | simp only [if_pos h1, if_neg h21] | rfl)), congrArg (fun t => cwld cI cS t ad) (Eq.symm (by unfold w_X5_create; first | simp only [if_pos h1, if_neg h21] | rfl))⟩
  · refine g_aload_n F dX5_create_4 0 rfl ?_
    refine g_iload_n F dX5_create_5 3 rfl ?_
    refine f_callV F (As := [.int (Int32.ofNat ow)]) (rest := []) (st' := [.int (Int32.ofNat (r_X5_isOpen c i ow))]) (k_X5_isOpen l D cI cS cZ ad c i ow h_i) (pl_TR h_i) rfl tb_232 tb_230 tb_231 tb_589 tb_4 ⟨rfl, hdX5_isOpen⟩ ⟨rfl, rfl⟩ ⟨Nat.le_of_ble_eq_true rfl, Nat.le_of_ble_eq_true rfl⟩ cw_adr rfl rfl (Nat.le_of_ble_eq_true rfl) ⟨Nat.le_refl _, Nat.le_refl _⟩ dX5_create_6 rfl ?_
    refine g_if_ne F dX5_create_9 (tgt := 15) rfl (fun h9 => ?_) (fun h9 => ?_)
    · refine g_aload_n F dX5_create_15 0 rfl ?_
      refine g_iload_n F dX5_create_16 1 rfl ?_
      refine f_callV F (As := [.int (Int32.ofNat pa)]) (rest := []) (st' := [.int (Int32.ofNat (r_X5_find c i pa))]) (k_X5_find l D cI cS cZ ad c i pa h_i (by assumption)) (pl_TR h_i) rfl tb_237 tb_235 tb_236 tb_590 tb_4 ⟨rfl, hdX5_find⟩ ⟨rfl, rfl⟩ ⟨Nat.le_of_ble_eq_true rfl, Nat.le_of_ble_eq_true rfl⟩ cw_adr rfl rfl (Nat.le_of_ble_eq_true rfl) ⟨Nat.le_refl _, Nat.le_refl _⟩ dX5_create_17 rfl ?_
      refine f_iconst F 4294967295 dX5_create_20 rfl ?_
      refine g_icmp_eq F dX5_create_21 (tgt := 26) rfl (fun h21 => ?_) (fun h21 => ?_)
      · refine g_iload_n F dX5_create_26 1 rfl ?_
        refine f_bipush F 8 dX5_create_27 rfl ?_
        refine g_idiv F dX5_create_29 (by decide) ?_
        refine f_code ?_
        refine g_istore F [(4, .int (Int32.ofNat (nc ((Int32.ofNat pa) / (Int32.ofNat 8))))), (0, .ref (ad (2 + 22 * i + 2))), (1, .int (Int32.ofNat pa)), (2, .int (Int32.ofNat va)), (3, .int (Int32.ofNat ow))] dX5_create_30 (by decide) rfl ?_
        refine g_aload_n F dX5_create_32 1 rfl ?_
        refine g_iload F dX5_create_33 0 rfl ?_
        refine f_callV F (As := [.int (Int32.ofNat (nc ((Int32.ofNat pa) / (Int32.ofNat 8))))]) (rest := []) (st' := [.int (Int32.ofNat (r_X5_find c i (nc ((Int32.ofNat pa) / (Int32.ofNat 8)))))]) (k_X5_find l D cI cS cZ ad c i (nc ((Int32.ofNat pa) / (Int32.ofNat 8))) h_i (by assumption)) (pl_TR h_i) rfl tb_237 tb_235 tb_236 tb_590 tb_4 ⟨rfl, hdX5_find⟩ ⟨rfl, rfl⟩ ⟨Nat.le_of_ble_eq_true rfl, Nat.le_of_ble_eq_true rfl⟩ cw_adr rfl rfl (Nat.le_of_ble_eq_true rfl) ⟨Nat.le_refl _, Nat.le_refl _⟩ dX5_create_35 rfl ?_
        refine g_istore F [(5, .int (Int32.ofNat (r_X5_find c i (nc ((Int32.ofNat pa) / (Int32.ofNat 8)))))), (4, .int (Int32.ofNat (nc ((Int32.ofNat pa) / (Int32.ofNat 8))))), (0, .ref (ad (2 + 22 * i + 2))), (1, .int (Int32.ofNat pa)), (2, .int (Int32.ofNat va)), (3, .int (Int32.ofNat ow))] dX5_create_38 (by decide) rfl ?_
        refine g_iload F dX5_create_40 1 rfl ?_
        refine g_if_eq F dX5_create_42 (tgt := 53) rfl (fun h42 => ?_) (fun h42 => ?_)
        · refine g_iload F dX5_create_53 0 rfl ?_
          refine f_iconst F 4294967295 dX5_create_55 rfl ?_
          refine g_icmp_eq F dX5_create_56 (tgt := 71) rfl (fun h56 => ?_) (fun h56 => ?_)
          · refine g_aload_n F dX5_create_71 2 rfl ?_
            refine g_iload_n F dX5_create_72 3 rfl ?_
            refine g_iload_n F dX5_create_73 4 rfl ?_
            refine g_iload_n F dX5_create_74 5 rfl ?_
            refine f_callV F (As := [.int (Int32.ofNat pa), .int (Int32.ofNat va), .int (Int32.ofNat ow)]) (rest := []) (st' := []) (k_X5_add l D cI cS cZ ad c i pa va ow h_i (by assumption)) (pl_TR h_i) rfl tb_240 tb_238 tb_239 tb_591 tb_4 ⟨rfl, hdX5_add⟩ ⟨rfl, rfl⟩ ⟨Nat.le_of_ble_eq_true rfl, Nat.le_of_ble_eq_true rfl⟩ cw_adr rfl rfl (Nat.le_of_ble_eq_true rfl) ⟨Nat.le_refl _, Nat.le_refl _⟩ dX5_create_75 rfl ?_
            refine f_iconst F 0 dX5_create_78 rfl ?_
            exact g_iret F hr hlk dX5_create_79 ⟨congrArg (fun t => some (Value.int (Int32.ofNat t))) (Eq.symm (by unfold r_X5_create; first | simp only [if_neg h1, if_neg h9, if_pos h21, if_pos h42, if_pos h56] | rfl)), congrArg (fun t => cwld cI cS t ad) (Eq.symm (by unfold w_X5_create; first | simp only [if_neg h1, if_neg h9, if_pos h21, if_pos h42, if_pos h56] | rfl))⟩
          · refine g_aload_n F dX5_create_59 2 rfl ?_
            refine f_get F inX5 (pl_TR h_i) rfl 3 (by decide) tb_50 rfl (v := .ref (ad (2 + 22 * i + 16))) rfl dX5_create_60 ?_
            refine g_iload F dX5_create_63 0 rfl ?_
            refine f_ald F 0 (pl_29 h_i) rfl (j := r_X5_find c i (nc ((Int32.ofNat pa) / (Int32.ofNat 8)))) (by have := find_lt h56; omega) (by decide) dX5_create_65 ?_
            refine g_if_eq F dX5_create_66 (tgt := 71) rfl (fun h66 => ?_) (fun h66 => ?_)
            · refine g_aload_n F dX5_create_71 2 rfl ?_
              refine g_iload_n F dX5_create_72 3 rfl ?_
              refine g_iload_n F dX5_create_73 4 rfl ?_
              refine g_iload_n F dX5_create_74 5 rfl ?_
              refine f_callV F (As := [.int (Int32.ofNat pa), .int (Int32.ofNat va), .int (Int32.ofNat ow)]) (rest := []) (st' := []) (k_X5_add l D cI cS cZ ad c i pa va ow h_i (by assumption)) (pl_TR h_i) rfl tb_240 tb_238 tb_239 tb_591 tb_4 ⟨rfl, hdX5_add⟩ ⟨rfl, rfl⟩ ⟨Nat.le_of_ble_eq_true rfl, Nat.le_of_ble_eq_true rfl⟩ cw_adr rfl rfl (Nat.le_of_ble_eq_true rfl) ⟨Nat.le_refl _, Nat.le_refl _⟩ dX5_create_75 rfl ?_
              refine f_iconst F 0 dX5_create_78 rfl ?_
              exact g_iret F hr hlk dX5_create_79 ⟨congrArg (fun t => some (Value.int (Int32.ofNat t))) (Eq.symm (by unfold r_X5_create; first | simp only [if_neg h1, if_neg h9, if_pos h21, if_pos h42, if_neg h56, if_pos h66] | rfl)), congrArg (fun t => cwld cI cS t ad) (Eq.symm (by unfold w_X5_create; first | simp only [if_neg h1, if_neg h9, if_pos h21, if_pos h42, if_neg h56, if_pos h66] | rfl))⟩
            · refine f_iconst F 3 dX5_create_69 rfl ?_
              exact g_iret F hr hlk dX5_create_70 ⟨congrArg (fun t => some (Value.int (Int32.ofNat t))) (Eq.symm (by unfold r_X5_create; first | simp only [if_neg h1, if_neg h9, if_pos h21, if_pos h42, if_neg h56, if_neg h66] | rfl)), congrArg (fun t => cwld cI cS t ad) (Eq.symm (by unfold w_X5_create; first | simp only [if_neg h1, if_neg h9, if_pos h21, if_pos h42, if_neg h56, if_neg h66] | rfl))⟩
        · refine g_iload F dX5_create_45 0 rfl ?_
          refine f_iconst F 4294967295 dX5_create_47 rfl ?_
          refine g_icmp_ne F dX5_create_48 (tgt := 53) rfl (fun h48 => ?_) (fun h48 => ?_)
          · refine g_iload F dX5_create_53 0 rfl ?_
            refine f_iconst F 4294967295 dX5_create_55 rfl ?_
            refine g_icmp_eq F dX5_create_56 (tgt := 71) rfl (fun h56 => ?_) (fun h56 => ?_)
            · exact absurd h56 h48
            refine g_aload_n F dX5_create_59 2 rfl ?_
            refine f_get F inX5 (pl_TR h_i) rfl 3 (by decide) tb_50 rfl (v := .ref (ad (2 + 22 * i + 16))) rfl dX5_create_60 ?_
            refine g_iload F dX5_create_63 0 rfl ?_
            refine f_ald F 0 (pl_29 h_i) rfl (j := r_X5_find c i (nc ((Int32.ofNat pa) / (Int32.ofNat 8)))) (by have := find_lt h56; omega) (by decide) dX5_create_65 ?_
            refine g_if_eq F dX5_create_66 (tgt := 71) rfl (fun h66 => ?_) (fun h66 => ?_)
            · refine g_aload_n F dX5_create_71 2 rfl ?_
              refine g_iload_n F dX5_create_72 3 rfl ?_
              refine g_iload_n F dX5_create_73 4 rfl ?_
              refine g_iload_n F dX5_create_74 5 rfl ?_
              refine f_callV F (As := [.int (Int32.ofNat pa), .int (Int32.ofNat va), .int (Int32.ofNat ow)]) (rest := []) (st' := []) (k_X5_add l D cI cS cZ ad c i pa va ow h_i (by assumption)) (pl_TR h_i) rfl tb_240 tb_238 tb_239 tb_591 tb_4 ⟨rfl, hdX5_add⟩ ⟨rfl, rfl⟩ ⟨Nat.le_of_ble_eq_true rfl, Nat.le_of_ble_eq_true rfl⟩ cw_adr rfl rfl (Nat.le_of_ble_eq_true rfl) ⟨Nat.le_refl _, Nat.le_refl _⟩ dX5_create_75 rfl ?_
              refine f_iconst F 0 dX5_create_78 rfl ?_
              exact g_iret F hr hlk dX5_create_79 ⟨congrArg (fun t => some (Value.int (Int32.ofNat t))) (Eq.symm (by unfold r_X5_create; first | simp only [if_neg h1, if_neg h9, if_pos h21, if_neg h42, if_neg h48, if_pos h66] | rfl)), congrArg (fun t => cwld cI cS t ad) (Eq.symm (by unfold w_X5_create; first | simp only [if_neg h1, if_neg h9, if_pos h21, if_neg h42, if_neg h48, if_pos h66] | rfl))⟩
            · refine f_iconst F 3 dX5_create_69 rfl ?_
              exact g_iret F hr hlk dX5_create_70 ⟨congrArg (fun t => some (Value.int (Int32.ofNat t))) (Eq.symm (by unfold r_X5_create; first | simp only [if_neg h1, if_neg h9, if_pos h21, if_neg h42, if_neg h48, if_neg h66] | rfl)), congrArg (fun t => cwld cI cS t ad) (Eq.symm (by unfold w_X5_create; first | simp only [if_neg h1, if_neg h9, if_pos h21, if_neg h42, if_neg h48, if_neg h66] | rfl))⟩
          · refine f_iconst F 1 dX5_create_51 rfl ?_
            exact g_iret F hr hlk dX5_create_52 ⟨congrArg (fun t => some (Value.int (Int32.ofNat t))) (Eq.symm (by unfold r_X5_create; first | simp only [if_neg h1, if_neg h9, if_pos h21, if_neg h42, if_pos h48] | rfl)), congrArg (fun t => cwld cI cS t ad) (Eq.symm (by unfold w_X5_create; first | simp only [if_neg h1, if_neg h9, if_pos h21, if_neg h42, if_pos h48] | rfl))⟩
      · refine f_iconst F 2 dX5_create_24 rfl ?_
        exact g_iret F hr hlk dX5_create_25 ⟨congrArg (fun t => some (Value.int (Int32.ofNat t))) (Eq.symm (by unfold r_X5_create; first | simp only [if_neg h1, if_neg h9, if_neg h21] | rfl)), congrArg (fun t => cwld cI cS t ad) (Eq.symm (by unfold w_X5_create; first | simp only [if_neg h1, if_neg h9, if_neg h21] | rfl))⟩
    · refine f_bipush F 6 dX5_create_12 rfl ?_
      exact g_iret F hr hlk dX5_create_14 ⟨congrArg (fun t => some (Value.int (Int32.ofNat t))) (Eq.symm (by unfold r_X5_create; first | simp only [if_neg h1, if_pos h9] | rfl)), congrArg (fun t => cwld cI cS t ad) (Eq.symm (by unfold w_X5_create; first | simp only [if_neg h1, if_pos h9] | rfl))⟩
def r_X5_set (c : CS) (i pa va ve : Nat) : Nat := if Int32.ofNat (r_X5_find c i pa) = Int32.ofNat 4294967295 then 1 else (if Int32.ofNat ve = Int32.ofNat 4294967295 then 0 else (if Int32.ofNat ve = Int32.ofNat (c 28 i (r_X5_find c i pa)) then 0 else 5))
def w_X5_set (c : CS) (i pa va ve : Nat) : CS := if Int32.ofNat (r_X5_find c i pa) = Int32.ofNat 4294967295 then c else (if Int32.ofNat ve = Int32.ofNat 4294967295 then (su3 (su3 c 27 i (r_X5_find c i pa) va) 28 i (r_X5_find c i pa) ((c 28 i (r_X5_find c i pa)) + 1)) else (if Int32.ofNat ve = Int32.ofNat (c 28 i (r_X5_find c i pa)) then (su3 (su3 c 27 i (r_X5_find c i pa) va) 28 i (r_X5_find c i pa) ((c 28 i (r_X5_find c i pa)) + 1)) else c))
abbrev rm_X5_set : Room := { frames := 1, cells := 0, slots := 0, locals := 22 }
set_option maxHeartbeats 4000000 in
set_option maxRecDepth 100000 in
theorem k_X5_set (l : Launch) (D : va_G) (cI cS cZ : ClassId) (ad : Nat → Nat) (c : CS) (i pa va ve : Nat) (h_i : i < 3) (hb : c 7 i 0 ≤ 24) : gN l yX5_set (Cond.code yX5_set cX5_set 5 (some .int) :: tb) rm_X5_set D cls8 (tys3 cI cS cZ) [.ref (ad (2 + 22 * i + 2)), .int (Int32.ofNat pa), .int (Int32.ofNat va), .int (Int32.ofNat ve)] (cwld cI cS c ad) (some (.int (Int32.ofNat (r_X5_set c i pa va ve)))) (cwld cI cS (w_X5_set c i pa va ve) ad) := by
  unfold gN
  refine g_head (by decide) rfl (Nat.le_of_ble_eq_true rfl) ?_
  intro p e s m args below meth cd A F hr hlk hnm
  refine g_eq rfl (L' := [(0, .ref (ad (2 + 22 * i + 2))), (1, .int (Int32.ofNat pa)), (2, .int (Int32.ofNat va)), (3, .int (Int32.ofNat ve))]) rfl rfl rfl ?_
  refine g_aload_n F dX5_set_0 0 rfl ?_
  refine g_iload_n F dX5_set_1 1 rfl ?_
  refine f_callV F (As := [.int (Int32.ofNat pa)]) (rest := []) (st' := [.int (Int32.ofNat (r_X5_find c i pa))]) (k_X5_find l D cI cS cZ ad c i pa h_i (by assumption)) (pl_TR h_i) rfl tb_237 tb_235 tb_236 tb_590 tb_4 ⟨rfl, hdX5_find⟩ ⟨rfl, rfl⟩ ⟨Nat.le_of_ble_eq_true rfl, Nat.le_of_ble_eq_true rfl⟩ cw_adr rfl rfl (Nat.le_of_ble_eq_true rfl) ⟨Nat.le_refl _, Nat.le_refl _⟩ dX5_set_2 rfl ?_
  refine g_istore F [(4, .int (Int32.ofNat (r_X5_find c i pa))), (0, .ref (ad (2 + 22 * i + 2))), (1, .int (Int32.ofNat pa)), (2, .int (Int32.ofNat va)), (3, .int (Int32.ofNat ve))] dX5_set_5 (by decide) rfl ?_
  refine g_iload F dX5_set_7 0 rfl ?_
  refine f_iconst F 4294967295 dX5_set_9 rfl ?_
  refine g_icmp_ne F dX5_set_10 (tgt := 15) rfl (fun h10 => ?_) (fun h10 => ?_)
  · refine g_iload_n F dX5_set_15 4 rfl ?_
    refine f_iconst F 4294967295 dX5_set_16 rfl ?_
    refine g_icmp_eq F dX5_set_17 (tgt := 33) rfl (fun h17 => ?_) (fun h17 => ?_)
    · refine g_aload_n F dX5_set_33 1 rfl ?_
      refine f_get F inX5 (pl_TR h_i) rfl 1 (by decide) tb_48 rfl (v := .ref (ad (2 + 22 * i + 14))) rfl dX5_set_34 ?_
      refine g_iload F dX5_set_37 0 rfl ?_
      refine g_iload_n F dX5_set_39 3 rfl ?_
      refine f_ast F 0 (pl_27 h_i) rfl (j := r_X5_find c i pa) (v := va) (by have := find_lt h10; omega) (by decide) dX5_set_40 (ps_27 h_i) ?_
      refine g_aload_n F dX5_set_41 1 rfl ?_
      refine f_get F inX5 (pl_TR h_i) rfl 2 (by decide) tb_49 rfl (v := .ref (ad (2 + 22 * i + 15))) rfl dX5_set_42 ?_
      refine g_iload F dX5_set_45 0 rfl ?_
      refine g_dup2 F dX5_set_47 rfl rfl ?_
      refine f_ald F 0 (pl_28 h_i) rfl (j := r_X5_find c i pa) (by have := find_lt h10; omega) (by decide) dX5_set_48 ?_
      refine g_eq rfl rfl (st' := [.int (Int32.ofNat (c 28 i (r_X5_find c i pa))), .int (Int32.ofNat (r_X5_find c i pa)), .ref (ad (2 + 22 * i + 15))]) rfl rfl ?_
      refine f_iconst F 1 dX5_set_49 rfl ?_
      refine f_add F dX5_set_50 ?_
      refine f_ast F 0 (pl_28 h_i) rfl (j := r_X5_find c i pa) (v := (c 28 i (r_X5_find c i pa)) + 1) (by have := find_lt h10; omega) (by decide) dX5_set_51 (ps_28 h_i) ?_
      refine f_iconst F 0 dX5_set_52 rfl ?_
      exact g_iret F hr hlk dX5_set_53 ⟨congrArg (fun t => some (Value.int (Int32.ofNat t))) (Eq.symm (by unfold r_X5_set; first | simp only [if_neg h10, if_pos h17] | rfl)), congrArg (fun t => cwld cI cS t ad) (Eq.symm (by unfold w_X5_set; first | simp only [if_neg h10, if_pos h17] | rfl))⟩
    · refine g_iload_n F dX5_set_20 4 rfl ?_
      refine g_aload_n F dX5_set_21 1 rfl ?_
      refine f_get F inX5 (pl_TR h_i) rfl 2 (by decide) tb_49 rfl (v := .ref (ad (2 + 22 * i + 15))) rfl dX5_set_22 ?_
      refine g_iload F dX5_set_25 0 rfl ?_
      refine f_ald F 0 (pl_28 h_i) rfl (j := r_X5_find c i pa) (by have := find_lt h10; omega) (by decide) dX5_set_27 ?_
      refine g_icmp_eq F dX5_set_28 (tgt := 33) rfl (fun h28 => ?_) (fun h28 => ?_)
      · refine g_aload_n F dX5_set_33 1 rfl ?_
        refine f_get F inX5 (pl_TR h_i) rfl 1 (by decide) tb_48 rfl (v := .ref (ad (2 + 22 * i + 14))) rfl dX5_set_34 ?_
        refine g_iload F dX5_set_37 0 rfl ?_
        refine g_iload_n F dX5_set_39 3 rfl ?_
        refine f_ast F 0 (pl_27 h_i) rfl (j := r_X5_find c i pa) (v := va) (by have := find_lt h10; omega) (by decide) dX5_set_40 (ps_27 h_i) ?_
        refine g_aload_n F dX5_set_41 1 rfl ?_
        refine f_get F inX5 (pl_TR h_i) rfl 2 (by decide) tb_49 rfl (v := .ref (ad (2 + 22 * i + 15))) rfl dX5_set_42 ?_
        refine g_iload F dX5_set_45 0 rfl ?_
        refine g_dup2 F dX5_set_47 rfl rfl ?_
        refine f_ald F 0 (pl_28 h_i) rfl (j := r_X5_find c i pa) (by have := find_lt h10; omega) (by decide) dX5_set_48 ?_
        refine g_eq rfl rfl (st' := [.int (Int32.ofNat (c 28 i (r_X5_find c i pa))), .int (Int32.ofNat (r_X5_find c i pa)), .ref (ad (2 + 22 * i + 15))]) rfl rfl ?_
        refine f_iconst F 1 dX5_set_49 rfl ?_
        refine f_add F dX5_set_50 ?_
        refine f_ast F 0 (pl_28 h_i) rfl (j := r_X5_find c i pa) (v := (c 28 i (r_X5_find c i pa)) + 1) (by have := find_lt h10; omega) (by decide) dX5_set_51 (ps_28 h_i) ?_
        refine f_iconst F 0 dX5_set_52 rfl ?_
        exact g_iret F hr hlk dX5_set_53 ⟨congrArg (fun t => some (Value.int (Int32.ofNat t))) (Eq.symm (by unfold r_X5_set; first | simp only [if_neg h10, if_neg h17, if_pos h28] | rfl)), congrArg (fun t => cwld cI cS t ad) (Eq.symm (by unfold w_X5_set; first | simp only [if_neg h10, if_neg h17, if_pos h28] | rfl))⟩
      · refine f_iconst F 5 dX5_set_31 rfl ?_
        exact g_iret F hr hlk dX5_set_32 ⟨congrArg (fun t => some (Value.int (Int32.ofNat t))) (Eq.symm (by unfold r_X5_set; first | simp only [if_neg h10, if_neg h17, if_neg h28] | rfl)), congrArg (fun t => cwld cI cS t ad) (Eq.symm (by unfold w_X5_set; first | simp only [if_neg h10, if_neg h17, if_neg h28] | rfl))⟩
  · refine f_iconst F 1 dX5_set_13 rfl ?_
    exact g_iret F hr hlk dX5_set_14 ⟨congrArg (fun t => some (Value.int (Int32.ofNat t))) (Eq.symm (by unfold r_X5_set; first | simp only [if_pos h10] | rfl)), congrArg (fun t => cwld cI cS t ad) (Eq.symm (by unfold w_X5_set; first | simp only [if_pos h10] | rfl))⟩
def r_X5_delete (c : CS) (i pa ve : Nat) : Nat := if Int32.ofNat (r_X5_find c i pa) = Int32.ofNat 4294967295 then 1 else (if Int32.ofNat ve = Int32.ofNat 4294967295 then (if Int32.ofNat (r_X5_countChildren c i pa) ≤ 0 then 0 else 4) else (if Int32.ofNat ve = Int32.ofNat (c 28 i (r_X5_find c i pa)) then (if Int32.ofNat (r_X5_countChildren c i pa) ≤ 0 then 0 else 4) else 5))
def w_X5_delete (c : CS) (i pa ve : Nat) : CS := if Int32.ofNat (r_X5_find c i pa) = Int32.ofNat 4294967295 then c else (if Int32.ofNat ve = Int32.ofNat 4294967295 then (if Int32.ofNat (r_X5_countChildren c i pa) ≤ 0 then (w_X5_remove c i (r_X5_find c i pa)) else c) else (if Int32.ofNat ve = Int32.ofNat (c 28 i (r_X5_find c i pa)) then (if Int32.ofNat (r_X5_countChildren c i pa) ≤ 0 then (w_X5_remove c i (r_X5_find c i pa)) else c) else c))
abbrev rm_X5_delete : Room := { frames := 1, cells := 0, slots := 0, locals := 23 }
set_option maxHeartbeats 4000000 in
set_option maxRecDepth 100000 in
theorem k_X5_delete (l : Launch) (D : va_G) (cI cS cZ : ClassId) (ad : Nat → Nat) (c : CS) (i pa ve : Nat) (h_i : i < 3) (hb : c 7 i 0 ≤ 24) : gN l yX5_delete (Cond.code yX5_delete cX5_delete 4 (some .int) :: tb) rm_X5_delete D cls8 (tys3 cI cS cZ) [.ref (ad (2 + 22 * i + 2)), .int (Int32.ofNat pa), .int (Int32.ofNat ve)] (cwld cI cS c ad) (some (.int (Int32.ofNat (r_X5_delete c i pa ve)))) (cwld cI cS (w_X5_delete c i pa ve) ad) := by
  unfold gN
  refine g_head (by decide) rfl (Nat.le_of_ble_eq_true rfl) ?_
  intro p e s m args below meth cd A F hr hlk hnm
  refine g_eq rfl (L' := [(0, .ref (ad (2 + 22 * i + 2))), (1, .int (Int32.ofNat pa)), (2, .int (Int32.ofNat ve))]) rfl rfl rfl ?_
  refine g_aload_n F dX5_delete_0 0 rfl ?_
  refine g_iload_n F dX5_delete_1 1 rfl ?_
  refine f_callV F (As := [.int (Int32.ofNat pa)]) (rest := []) (st' := [.int (Int32.ofNat (r_X5_find c i pa))]) (k_X5_find l D cI cS cZ ad c i pa h_i (by assumption)) (pl_TR h_i) rfl tb_237 tb_235 tb_236 tb_590 tb_4 ⟨rfl, hdX5_find⟩ ⟨rfl, rfl⟩ ⟨Nat.le_of_ble_eq_true rfl, Nat.le_of_ble_eq_true rfl⟩ cw_adr rfl rfl (Nat.le_of_ble_eq_true rfl) ⟨Nat.le_refl _, Nat.le_refl _⟩ dX5_delete_2 rfl ?_
  refine g_istore_n F [(3, .int (Int32.ofNat (r_X5_find c i pa))), (0, .ref (ad (2 + 22 * i + 2))), (1, .int (Int32.ofNat pa)), (2, .int (Int32.ofNat ve))] dX5_delete_5 (by decide) rfl ?_
  refine g_iload_n F dX5_delete_6 0 rfl ?_
  refine f_iconst F 4294967295 dX5_delete_7 rfl ?_
  refine g_icmp_ne F dX5_delete_8 (tgt := 13) rfl (fun h8 => ?_) (fun h8 => ?_)
  · refine g_iload_n F dX5_delete_13 3 rfl ?_
    refine f_iconst F 4294967295 dX5_delete_14 rfl ?_
    refine g_icmp_eq F dX5_delete_15 (tgt := 30) rfl (fun h15 => ?_) (fun h15 => ?_)
    · refine g_aload_n F dX5_delete_30 1 rfl ?_
      refine g_iload_n F dX5_delete_31 2 rfl ?_
      refine f_callV F (As := [.int (Int32.ofNat pa)]) (rest := []) (st' := [.int (Int32.ofNat (r_X5_countChildren c i pa))]) (k_X5_countChildren l D cI cS cZ ad c i pa h_i (by assumption)) (pl_TR h_i) rfl tb_249 tb_247 tb_248 tb_594 tb_4 ⟨rfl, hdX5_countChildren⟩ ⟨rfl, rfl⟩ ⟨Nat.le_of_ble_eq_true rfl, Nat.le_of_ble_eq_true rfl⟩ cw_adr rfl rfl (Nat.le_of_ble_eq_true rfl) ⟨Nat.le_refl _, Nat.le_refl _⟩ dX5_delete_32 rfl ?_
      refine g_if_le F dX5_delete_35 (tgt := 40) rfl (fun h35 => ?_) (fun h35 => ?_)
      · refine g_aload_n F dX5_delete_40 1 rfl ?_
        refine g_iload_n F dX5_delete_41 0 rfl ?_
        refine f_callV F (As := [.int (Int32.ofNat (r_X5_find c i pa))]) (rest := []) (st' := []) (k_X5_remove l D cI cS cZ ad c i (r_X5_find c i pa) h_i (by assumption) (by have := find_lt h8; omega) (by have := find_lt h8; omega)) (pl_TR h_i) rfl tb_252 tb_250 tb_251 tb_595 tb_4 ⟨rfl, hdX5_remove⟩ ⟨rfl, rfl⟩ ⟨Nat.le_of_ble_eq_true rfl, Nat.le_of_ble_eq_true rfl⟩ cw_adr rfl rfl (Nat.le_of_ble_eq_true rfl) ⟨Nat.le_refl _, Nat.le_refl _⟩ dX5_delete_42 rfl ?_
        refine f_iconst F 0 dX5_delete_45 rfl ?_
        exact g_iret F hr hlk dX5_delete_46 ⟨congrArg (fun t => some (Value.int (Int32.ofNat t))) (Eq.symm (by unfold r_X5_delete; first | simp only [if_neg h8, if_pos h15, if_pos h35] | rfl)), congrArg (fun t => cwld cI cS t ad) (Eq.symm (by unfold w_X5_delete; first | simp only [if_neg h8, if_pos h15, if_pos h35] | rfl))⟩
      · refine f_iconst F 4 dX5_delete_38 rfl ?_
        exact g_iret F hr hlk dX5_delete_39 ⟨congrArg (fun t => some (Value.int (Int32.ofNat t))) (Eq.symm (by unfold r_X5_delete; first | simp only [if_neg h8, if_pos h15, if_neg h35] | rfl)), congrArg (fun t => cwld cI cS t ad) (Eq.symm (by unfold w_X5_delete; first | simp only [if_neg h8, if_pos h15, if_neg h35] | rfl))⟩
    · refine g_iload_n F dX5_delete_18 3 rfl ?_
      refine g_aload_n F dX5_delete_19 1 rfl ?_
      refine f_get F inX5 (pl_TR h_i) rfl 2 (by decide) tb_49 rfl (v := .ref (ad (2 + 22 * i + 15))) rfl dX5_delete_20 ?_
      refine g_iload_n F dX5_delete_23 0 rfl ?_
      refine f_ald F 0 (pl_28 h_i) rfl (j := r_X5_find c i pa) (by have := find_lt h8; omega) (by decide) dX5_delete_24 ?_
      refine g_icmp_eq F dX5_delete_25 (tgt := 30) rfl (fun h25 => ?_) (fun h25 => ?_)
      · refine g_aload_n F dX5_delete_30 1 rfl ?_
        refine g_iload_n F dX5_delete_31 2 rfl ?_
        refine f_callV F (As := [.int (Int32.ofNat pa)]) (rest := []) (st' := [.int (Int32.ofNat (r_X5_countChildren c i pa))]) (k_X5_countChildren l D cI cS cZ ad c i pa h_i (by assumption)) (pl_TR h_i) rfl tb_249 tb_247 tb_248 tb_594 tb_4 ⟨rfl, hdX5_countChildren⟩ ⟨rfl, rfl⟩ ⟨Nat.le_of_ble_eq_true rfl, Nat.le_of_ble_eq_true rfl⟩ cw_adr rfl rfl (Nat.le_of_ble_eq_true rfl) ⟨Nat.le_refl _, Nat.le_refl _⟩ dX5_delete_32 rfl ?_
        refine g_if_le F dX5_delete_35 (tgt := 40) rfl (fun h35 => ?_) (fun h35 => ?_)
        · refine g_aload_n F dX5_delete_40 1 rfl ?_
          refine g_iload_n F dX5_delete_41 0 rfl ?_
          refine f_callV F (As := [.int (Int32.ofNat (r_X5_find c i pa))]) (rest := []) (st' := []) (k_X5_remove l D cI cS cZ ad c i (r_X5_find c i pa) h_i (by assumption) (by have := find_lt h8; omega) (by have := find_lt h8; omega)) (pl_TR h_i) rfl tb_252 tb_250 tb_251 tb_595 tb_4 ⟨rfl, hdX5_remove⟩ ⟨rfl, rfl⟩ ⟨Nat.le_of_ble_eq_true rfl, Nat.le_of_ble_eq_true rfl⟩ cw_adr rfl rfl (Nat.le_of_ble_eq_true rfl) ⟨Nat.le_refl _, Nat.le_refl _⟩ dX5_delete_42 rfl ?_
          refine f_iconst F 0 dX5_delete_45 rfl ?_
          exact g_iret F hr hlk dX5_delete_46 ⟨congrArg (fun t => some (Value.int (Int32.ofNat t))) (Eq.symm (by unfold r_X5_delete; first | simp only [if_neg h8, if_neg h15, if_pos h25, if_pos h35] | rfl)), congrArg (fun t => cwld cI cS t ad) (Eq.symm (by unfold w_X5_delete; first | simp only [if_neg h8, if_neg h15, if_pos h25, if_pos h35] | rfl))⟩
        · refine f_iconst F 4 dX5_delete_38 rfl ?_
          exact g_iret F hr hlk dX5_delete_39 ⟨congrArg (fun t => some (Value.int (Int32.ofNat t))) (Eq.symm (by unfold r_X5_delete; first | simp only [if_neg h8, if_neg h15, if_pos h25, if_neg h35] | rfl)), congrArg (fun t => cwld cI cS t ad) (Eq.symm (by unfold w_X5_delete; first | simp only [if_neg h8, if_neg h15, if_pos h25, if_neg h35] | rfl))⟩
      · refine f_iconst F 5 dX5_delete_28 rfl ?_
        exact g_iret F hr hlk dX5_delete_29 ⟨congrArg (fun t => some (Value.int (Int32.ofNat t))) (Eq.symm (by unfold r_X5_delete; first | simp only [if_neg h8, if_neg h15, if_neg h25] | rfl)), congrArg (fun t => cwld cI cS t ad) (Eq.symm (by unfold w_X5_delete; first | simp only [if_neg h8, if_neg h15, if_neg h25] | rfl))⟩
  · refine f_iconst F 1 dX5_delete_11 rfl ?_
    exact g_iret F hr hlk dX5_delete_12 ⟨congrArg (fun t => some (Value.int (Int32.ofNat t))) (Eq.symm (by unfold r_X5_delete; first | simp only [if_pos h8] | rfl)), congrArg (fun t => cwld cI cS t ad) (Eq.symm (by unfold w_X5_delete; first | simp only [if_pos h8] | rfl))⟩
def r_X5_open (c : CS) (i v : Nat) : Nat := if Int32.ofNat (r_X5_isOpen c i v) = 0 then 0 else 2
def w_X5_open (c : CS) (i v : Nat) : CS := if Int32.ofNat (r_X5_isOpen c i v) = 0 then (su3 c 8 i 0 (nc ((Int32.ofNat (c 8 i 0)) ||| (Int32.ofNat (nc ((Int32.ofNat 1) <<< ((Int32.ofNat v) &&& 31))))))) else c
abbrev rm_X5_open : Room := { frames := 2, cells := 0, slots := 0, locals := 41 }
set_option maxHeartbeats 4000000 in
set_option maxRecDepth 100000 in
theorem k_X5_open (l : Launch) (D : va_G) (cI cS cZ : ClassId) (ad : Nat → Nat) (c : CS) (i v : Nat) (h_i : i < 3) : gN l yX5_open (Cond.code yX5_open cX5_open 2 (some .int) :: tb) rm_X5_open D cls8 (tys3 cI cS cZ) [.ref (ad (2 + 22 * i + 2)), .int (Int32.ofNat v)] (cwld cI cS c ad) (some (.int (Int32.ofNat (r_X5_open c i v)))) (cwld cI cS (w_X5_open c i v) ad) := by
  unfold gN
  refine g_head (by decide) rfl (Nat.le_of_ble_eq_true rfl) ?_
  intro p e s m args below meth cd A F hr hlk hnm
  refine g_eq rfl (L' := [(0, .ref (ad (2 + 22 * i + 2))), (1, .int (Int32.ofNat v))]) rfl rfl rfl ?_
  refine g_aload_n F dX5_open_0 0 rfl ?_
  refine g_iload_n F dX5_open_1 1 rfl ?_
  refine f_callV F (As := [.int (Int32.ofNat v)]) (rest := []) (st' := [.int (Int32.ofNat (r_X5_isOpen c i v))]) (k_X5_isOpen l D cI cS cZ ad c i v h_i) (pl_TR h_i) rfl tb_232 tb_230 tb_231 tb_589 tb_4 ⟨rfl, hdX5_isOpen⟩ ⟨rfl, rfl⟩ ⟨Nat.le_of_ble_eq_true rfl, Nat.le_of_ble_eq_true rfl⟩ cw_adr rfl rfl (Nat.le_of_ble_eq_true rfl) ⟨Nat.le_refl _, Nat.le_refl _⟩ dX5_open_2 rfl ?_
  refine g_if_eq F dX5_open_5 (tgt := 10) rfl (fun h5 => ?_) (fun h5 => ?_)
  · refine g_aload_n F dX5_open_10 0 rfl ?_
    refine g_dup F dX5_open_11 rfl ?_
    refine f_get F inX5 (pl_TR h_i) rfl 5 (by decide) tb_52 rfl (v := .int (Int32.ofNat (c 8 i 0))) rfl dX5_open_12 ?_
    refine f_iconst F 1 dX5_open_15 rfl ?_
    refine g_iload_n F dX5_open_16 1 rfl ?_
    refine g_ishl F dX5_open_17 ?_
    refine f_code ?_
    refine g_ior F dX5_open_18 ?_
    refine f_code ?_
    refine f_put F inX5 tyX5_ok nmX5 (pl_TR h_i) rfl 5 (by decide) tb_52 rfl rfl rfl rfl (Nat.le_of_ble_eq_true rfl) dX5_open_19 (ps_8 h_i) ?_
    refine f_iconst F 0 dX5_open_22 rfl ?_
    exact g_iret F hr hlk dX5_open_23 ⟨congrArg (fun t => some (Value.int (Int32.ofNat t))) (Eq.symm (by unfold r_X5_open; first | simp only [if_pos h5] | rfl)), congrArg (fun t => cwld cI cS t ad) (Eq.symm (by unfold w_X5_open; first | simp only [if_pos h5] | rfl))⟩
  · refine f_iconst F 2 dX5_open_8 rfl ?_
    exact g_iret F hr hlk dX5_open_9 ⟨congrArg (fun t => some (Value.int (Int32.ofNat t))) (Eq.symm (by unfold r_X5_open; first | simp only [if_neg h5] | rfl)), congrArg (fun t => cwld cI cS t ad) (Eq.symm (by unfold w_X5_open; first | simp only [if_neg h5] | rfl))⟩
theorem remove_size {c : CS} {i at_ : Nat} : w_X5_remove c i at_ 7 i 0 = c 7 i 0 - 1 := by
  unfold w_X5_remove; simp [su3]
def lpw_X5_close_18 (c : CS) (i v : Nat) : Nat → Nat → CS → CS
  | 0, k, x => x
  | d + 1, k, x => if Int32.ofNat (x 29 i k) = Int32.ofNat v then (lpw_X5_close_18 c i v d (if d = 0 then 4294967295 else d - 1) (w_X5_remove x i k)) else (lpw_X5_close_18 c i v d (if d = 0 then 4294967295 else d - 1) x)
def r_X5_close (c : CS) (i v : Nat) : Nat := if Int32.ofNat (r_X5_isOpen c i v) = 0 then 6 else 0
def w_X5_close (c : CS) (i v : Nat) : CS := if Int32.ofNat (r_X5_isOpen c i v) = 0 then c else (su3 (lpw_X5_close_18 c i v (c 7 i 0) (nc ((Int32.ofNat (c 7 i 0)) - (Int32.ofNat 1))) c) 8 i 0 (nc ((Int32.ofNat ((lpw_X5_close_18 c i v (c 7 i 0) (nc ((Int32.ofNat (c 7 i 0)) - (Int32.ofNat 1))) c) 8 i 0)) &&& (Int32.ofNat (nc ((Int32.ofNat (nc ((Int32.ofNat 1) <<< ((Int32.ofNat v) &&& 31)))) ^^^ (Int32.ofNat 4294967295)))))))
abbrev rm_X5_close : Room := { frames := 2, cells := 0, slots := 0, locals := 41 }
set_option maxHeartbeats 4000000 in
set_option maxRecDepth 100000 in
theorem k_X5_close (l : Launch) (D : va_G) (cI cS cZ : ClassId) (ad : Nat → Nat) (c : CS) (i v : Nat) (h_i : i < 3) (hb : c 7 i 0 ≤ 24) : gN l yX5_close (Cond.code yX5_close cX5_close 3 (some .int) :: tb) rm_X5_close D cls8 (tys3 cI cS cZ) [.ref (ad (2 + 22 * i + 2)), .int (Int32.ofNat v)] (cwld cI cS c ad) (some (.int (Int32.ofNat (r_X5_close c i v)))) (cwld cI cS (w_X5_close c i v) ad) := by
  unfold gN
  refine g_head (by decide) rfl (Nat.le_of_ble_eq_true rfl) ?_
  intro p e s m args below meth cd A F hr hlk hnm
  refine g_eq rfl (L' := [(0, .ref (ad (2 + 22 * i + 2))), (1, .int (Int32.ofNat v))]) rfl rfl rfl ?_
  refine g_aload_n F dX5_close_0 0 rfl ?_
  refine g_iload_n F dX5_close_1 1 rfl ?_
  refine f_callV F (As := [.int (Int32.ofNat v)]) (rest := []) (st' := [.int (Int32.ofNat (r_X5_isOpen c i v))]) (k_X5_isOpen l D cI cS cZ ad c i v h_i) (pl_TR h_i) rfl tb_232 tb_230 tb_231 tb_589 tb_4 ⟨rfl, hdX5_isOpen⟩ ⟨rfl, rfl⟩ ⟨Nat.le_of_ble_eq_true rfl, Nat.le_of_ble_eq_true rfl⟩ cw_adr rfl rfl (Nat.le_of_ble_eq_true rfl) ⟨Nat.le_refl _, Nat.le_refl _⟩ dX5_close_2 rfl ?_
  refine g_if_ne F dX5_close_5 (tgt := 11) rfl (fun h5 => ?_) (fun h5 => ?_)
  · refine g_aload_n F dX5_close_11 0 rfl ?_
    refine f_get F inX5 (pl_TR h_i) rfl 4 (by decide) tb_51 rfl (v := .int (Int32.ofNat (c 7 i 0))) rfl dX5_close_12 ?_
    refine f_iconst F 1 dX5_close_15 rfl ?_
    refine g_isub F dX5_close_16 ?_
    refine f_code ?_
    refine g_istore_n F [(2, .int (Int32.ofNat (nc ((Int32.ofNat (c 7 i 0)) - (Int32.ofNat 1))))), (0, .ref (ad (2 + 22 * i + 2))), (1, .int (Int32.ofNat v))] dX5_close_17 (by decide) rfl ?_
    have loop18 : ∀ (Q : State → Prop) (d k : Nat) (x : CS), (k = (if d = 0 then 4294967295 else d - 1)) → (d ≤ x 7 i 0 ∧ x 7 i 0 ≤ 24) → gw p l e (headSpec (Cond.code yX5_close cX5_close 3 (some .int) :: tb) rm_X5_close).room s m args below meth cd 3 D cls8 A Q 0 0 43 [(0, .ref (ad (2 + 22 * i + 2))), (1, .int (Int32.ofNat v))] [] (cwld cI cS (lpw_X5_close_18 c i v d k x) ad) → gw p l e (headSpec (Cond.code yX5_close cX5_close 3 (some .int) :: tb) rm_X5_close).room s m args below meth cd 3 D cls8 A Q 0 0 18 [(2, .int (Int32.ofNat k)), (0, .ref (ad (2 + 22 * i + 2))), (1, .int (Int32.ofNat v))] [] (cwld cI cS x ad) := by
      intro Q d
      induction d with
      | zero =>
        intro k x hk hs K
        refine g_iload_n F dX5_close_18 0 rfl ?_
        refine g_if_lt F dX5_close_19 (tgt := 43) rfl (fun h19 => ?_) (fun h19 => ?_)
        rotate_left
        · exact absurd h19 (by rw [hk]; decide)
        refine g_locals [(0, .ref (ad (2 + 22 * i + 2))), (1, .int (Int32.ofNat v))] [1, 2] rfl ?_
        exact K
      | succ d ih =>
        intro k x hk hs K
        have hk' : k = d := by simpa using hk
        refine g_iload_n F dX5_close_18 0 rfl ?_
        refine g_if_lt F dX5_close_19 (tgt := 43) rfl (fun h19 => ?_) (fun h19 => ?_)
        · exact absurd h19 (nonneg_code (by omega))
        refine g_aload_n F dX5_close_22 1 rfl ?_
        refine f_get F inX5 (pl_TR h_i) rfl 3 (by decide) tb_50 rfl (v := .ref (ad (2 + 22 * i + 16))) rfl dX5_close_23 ?_
        refine g_iload_n F dX5_close_26 0 rfl ?_
        refine f_ald F 0 (pl_29 h_i) rfl (j := k) (by omega) (by decide) dX5_close_27 ?_
        refine g_iload_n F dX5_close_28 2 rfl ?_
        refine g_icmp_ne F dX5_close_29 (tgt := 37) rfl (fun h29 => ?_) (fun h29 => ?_)
        · refine f_iinc F (if d = 0 then 4294967295 else d - 1) [(2, .int (Int32.ofNat (if d = 0 then 4294967295 else d - 1))), (0, .ref (ad (2 + 22 * i + 2))), (1, .int (Int32.ofNat v))] dX5_close_37 0 rfl (dec_code hk') (by decide) rfl ?_
          refine g_goto F dX5_close_40 (tgt := 18) rfl ?_
          exact ih (if d = 0 then 4294967295 else d - 1) x rfl (by omega) (g_eq rfl rfl rfl (congrArg (fun t => cwld cI cS t ad) (by simp only [lpw_X5_close_18, if_neg h29])) K)
        · refine g_aload_n F dX5_close_32 1 rfl ?_
          refine g_iload_n F dX5_close_33 0 rfl ?_
          refine f_callV F (As := [.int (Int32.ofNat k)]) (rest := []) (st' := []) (k_X5_remove l D cI cS cZ ad x i k h_i hs.2 (by omega) (by omega)) (pl_TR h_i) rfl tb_252 tb_250 tb_251 tb_595 tb_4 ⟨rfl, hdX5_remove⟩ ⟨rfl, rfl⟩ ⟨Nat.le_of_ble_eq_true rfl, Nat.le_of_ble_eq_true rfl⟩ cw_adr rfl rfl (Nat.le_of_ble_eq_true rfl) ⟨Nat.le_refl _, Nat.le_refl _⟩ dX5_close_34 rfl ?_
          refine f_iinc F (if d = 0 then 4294967295 else d - 1) [(2, .int (Int32.ofNat (if d = 0 then 4294967295 else d - 1))), (0, .ref (ad (2 + 22 * i + 2))), (1, .int (Int32.ofNat v))] dX5_close_37 0 rfl (dec_code hk') (by decide) rfl ?_
          refine g_goto F dX5_close_40 (tgt := 18) rfl ?_
          exact ih (if d = 0 then 4294967295 else d - 1) (w_X5_remove x i k) rfl (by rw [remove_size]; omega) (g_eq rfl rfl rfl (congrArg (fun t => cwld cI cS t ad) (by simp only [lpw_X5_close_18, if_pos h29])) K)
    refine loop18 _ (c 7 i 0) (nc ((Int32.ofNat (c 7 i 0)) - (Int32.ofNat 1))) c (sub1_code (by omega)) ⟨Nat.le_refl _, hb⟩ ?_
    refine g_aload_n F dX5_close_43 0 rfl ?_
    refine g_dup F dX5_close_44 rfl ?_
    refine f_get F inX5 (pl_TR h_i) rfl 5 (by decide) tb_52 rfl (v := .int (Int32.ofNat ((lpw_X5_close_18 c i v (c 7 i 0) (nc ((Int32.ofNat (c 7 i 0)) - (Int32.ofNat 1))) c) 8 i 0))) rfl dX5_close_45 ?_
    refine f_iconst F 1 dX5_close_48 rfl ?_
    refine g_iload_n F dX5_close_49 1 rfl ?_
    refine g_ishl F dX5_close_50 ?_
    refine f_code ?_
    refine f_iconst F 4294967295 dX5_close_51 rfl ?_
    refine g_ixor F dX5_close_52 ?_
    refine f_code ?_
    refine g_iand F dX5_close_53 ?_
    refine f_code ?_
    refine f_put F inX5 tyX5_ok nmX5 (pl_TR h_i) rfl 5 (by decide) tb_52 rfl rfl rfl rfl (Nat.le_of_ble_eq_true rfl) dX5_close_54 (ps_8 h_i) ?_
    refine f_iconst F 0 dX5_close_57 rfl ?_
    exact g_iret F hr hlk dX5_close_58 ⟨congrArg (fun t => some (Value.int (Int32.ofNat t))) (Eq.symm (by unfold r_X5_close; first | simp only [if_neg h5] | rfl)), congrArg (fun t => cwld cI cS t ad) (Eq.symm (by unfold w_X5_close; first | simp only [if_neg h5] | rfl))⟩
  · refine f_bipush F 6 dX5_close_8 rfl ?_
    exact g_iret F hr hlk dX5_close_10 ⟨congrArg (fun t => some (Value.int (Int32.ofNat t))) (Eq.symm (by unfold r_X5_close; first | simp only [if_pos h5] | rfl)), congrArg (fun t => cwld cI cS t ad) (Eq.symm (by unfold w_X5_close; first | simp only [if_pos h5] | rfl))⟩
def r_X5_change (c : CS) (i kd pa va vb : Nat) : Nat := if Int32.ofNat kd = Int32.ofNat 1 then (r_X5_create c i pa va vb) else (if Int32.ofNat kd = Int32.ofNat 2 then (r_X5_set c i pa va vb) else (if Int32.ofNat kd = Int32.ofNat 3 then (r_X5_delete c i pa vb) else (if Int32.ofNat kd = Int32.ofNat 4 then (r_X5_open c i vb) else (r_X5_close c i vb))))
def w_X5_change (c : CS) (i kd pa va vb : Nat) : CS := if Int32.ofNat kd = Int32.ofNat 1 then (w_X5_create c i pa va vb) else (if Int32.ofNat kd = Int32.ofNat 2 then (w_X5_set c i pa va vb) else (if Int32.ofNat kd = Int32.ofNat 3 then (w_X5_delete c i pa vb) else (if Int32.ofNat kd = Int32.ofNat 4 then (w_X5_open c i vb) else (w_X5_close c i vb))))
abbrev rm_X5_change : Room := { frames := 3, cells := 0, slots := 0, locals := 66 }
set_option maxHeartbeats 4000000 in
set_option maxRecDepth 100000 in
theorem k_X5_change (l : Launch) (D : va_G) (cI cS cZ : ClassId) (ad : Nat → Nat) (c : CS) (i kd pa va vb : Nat) (h_i : i < 3) (hb : c 7 i 0 ≤ 24) : gN l yX5_change (Cond.code yX5_change cX5_change 5 (some .int) :: tb) rm_X5_change D cls8 (tys3 cI cS cZ) [.ref (ad (2 + 22 * i + 2)), .int (Int32.ofNat kd), .int (Int32.ofNat pa), .int (Int32.ofNat va), .int (Int32.ofNat vb)] (cwld cI cS c ad) (some (.int (Int32.ofNat (r_X5_change c i kd pa va vb)))) (cwld cI cS (w_X5_change c i kd pa va vb) ad) := by
  unfold gN
  refine g_head (by decide) rfl (Nat.le_of_ble_eq_true rfl) ?_
  intro p e s m args below meth cd A F hr hlk hnm
  refine g_eq rfl (L' := [(0, .ref (ad (2 + 22 * i + 2))), (1, .int (Int32.ofNat kd)), (2, .int (Int32.ofNat pa)), (3, .int (Int32.ofNat va)), (4, .int (Int32.ofNat vb))]) rfl rfl rfl ?_
  refine g_iload_n F dX5_change_0 1 rfl ?_
  by_cases h1_1 : Int32.ofNat kd = Int32.ofNat 1
  · refine g_tableIn F dX5_change_1 (by rw [h1_1]; decide) (by rw [h1_1]; decide) (off := 31) (by rw [h1_1]; rfl) (tgt := 32) rfl ?_
    refine g_aload_n F dX5_change_32 0 rfl ?_
    refine g_iload_n F dX5_change_33 2 rfl ?_
    refine g_iload_n F dX5_change_34 3 rfl ?_
    refine g_iload F dX5_change_35 4 rfl ?_
    refine f_callV F (As := [.int (Int32.ofNat pa), .int (Int32.ofNat va), .int (Int32.ofNat vb)]) (rest := []) (st' := [.int (Int32.ofNat (r_X5_create c i pa va vb))]) (k_X5_create l D cI cS cZ ad c i pa va vb h_i (by assumption)) (pl_TR h_i) rfl tb_229 tb_227 tb_228 tb_588 tb_4 ⟨rfl, hdX5_create⟩ ⟨rfl, rfl⟩ ⟨Nat.le_of_ble_eq_true rfl, Nat.le_of_ble_eq_true rfl⟩ cw_adr rfl rfl (Nat.le_of_ble_eq_true rfl) ⟨Nat.le_refl _, Nat.le_refl _⟩ dX5_change_37 rfl ?_
    exact g_iret F hr hlk dX5_change_40 ⟨congrArg (fun t => some (Value.int (Int32.ofNat t))) (Eq.symm (by unfold r_X5_change; first | simp only [if_pos h1_1] | rfl)), congrArg (fun t => cwld cI cS t ad) (Eq.symm (by unfold w_X5_change; first | simp only [if_pos h1_1] | rfl))⟩
  by_cases h1_2 : Int32.ofNat kd = Int32.ofNat 2
  · refine g_tableIn F dX5_change_1 (by rw [h1_2]; decide) (by rw [h1_2]; decide) (off := 40) (by rw [h1_2]; rfl) (tgt := 41) rfl ?_
    refine g_aload_n F dX5_change_41 0 rfl ?_
    refine g_iload_n F dX5_change_42 2 rfl ?_
    refine g_iload_n F dX5_change_43 3 rfl ?_
    refine g_iload F dX5_change_44 4 rfl ?_
    refine f_callV F (As := [.int (Int32.ofNat pa), .int (Int32.ofNat va), .int (Int32.ofNat vb)]) (rest := []) (st' := [.int (Int32.ofNat (r_X5_set c i pa va vb))]) (k_X5_set l D cI cS cZ ad c i pa va vb h_i (by assumption)) (pl_TR h_i) rfl tb_243 tb_241 tb_242 tb_592 tb_4 ⟨rfl, hdX5_set⟩ ⟨rfl, rfl⟩ ⟨Nat.le_of_ble_eq_true rfl, Nat.le_of_ble_eq_true rfl⟩ cw_adr rfl rfl (Nat.le_of_ble_eq_true rfl) ⟨Nat.le_refl _, Nat.le_refl _⟩ dX5_change_46 rfl ?_
    exact g_iret F hr hlk dX5_change_49 ⟨congrArg (fun t => some (Value.int (Int32.ofNat t))) (Eq.symm (by unfold r_X5_change; first | simp only [if_neg h1_1, if_pos h1_2] | rfl)), congrArg (fun t => cwld cI cS t ad) (Eq.symm (by unfold w_X5_change; first | simp only [if_neg h1_1, if_pos h1_2] | rfl))⟩
  by_cases h1_3 : Int32.ofNat kd = Int32.ofNat 3
  · refine g_tableIn F dX5_change_1 (by rw [h1_3]; decide) (by rw [h1_3]; decide) (off := 49) (by rw [h1_3]; rfl) (tgt := 50) rfl ?_
    refine g_aload_n F dX5_change_50 0 rfl ?_
    refine g_iload_n F dX5_change_51 2 rfl ?_
    refine g_iload F dX5_change_52 4 rfl ?_
    refine f_callV F (As := [.int (Int32.ofNat pa), .int (Int32.ofNat vb)]) (rest := []) (st' := [.int (Int32.ofNat (r_X5_delete c i pa vb))]) (k_X5_delete l D cI cS cZ ad c i pa vb h_i (by assumption)) (pl_TR h_i) rfl tb_246 tb_244 tb_245 tb_593 tb_4 ⟨rfl, hdX5_delete⟩ ⟨rfl, rfl⟩ ⟨Nat.le_of_ble_eq_true rfl, Nat.le_of_ble_eq_true rfl⟩ cw_adr rfl rfl (Nat.le_of_ble_eq_true rfl) ⟨Nat.le_refl _, Nat.le_refl _⟩ dX5_change_54 rfl ?_
    exact g_iret F hr hlk dX5_change_57 ⟨congrArg (fun t => some (Value.int (Int32.ofNat t))) (Eq.symm (by unfold r_X5_change; first | simp only [if_neg h1_1, if_neg h1_2, if_pos h1_3] | rfl)), congrArg (fun t => cwld cI cS t ad) (Eq.symm (by unfold w_X5_change; first | simp only [if_neg h1_1, if_neg h1_2, if_pos h1_3] | rfl))⟩
  by_cases h1_4 : Int32.ofNat kd = Int32.ofNat 4
  · refine g_tableIn F dX5_change_1 (by rw [h1_4]; decide) (by rw [h1_4]; decide) (off := 57) (by rw [h1_4]; rfl) (tgt := 58) rfl ?_
    refine g_aload_n F dX5_change_58 0 rfl ?_
    refine g_iload F dX5_change_59 4 rfl ?_
    refine f_callV F (As := [.int (Int32.ofNat vb)]) (rest := []) (st' := [.int (Int32.ofNat (r_X5_open c i vb))]) (k_X5_open l D cI cS cZ ad c i vb h_i) (pl_TR h_i) rfl tb_255 tb_253 tb_254 tb_596 tb_4 ⟨rfl, hdX5_open⟩ ⟨rfl, rfl⟩ ⟨Nat.le_of_ble_eq_true rfl, Nat.le_of_ble_eq_true rfl⟩ cw_adr rfl rfl (Nat.le_of_ble_eq_true rfl) ⟨Nat.le_refl _, Nat.le_refl _⟩ dX5_change_61 rfl ?_
    exact g_iret F hr hlk dX5_change_64 ⟨congrArg (fun t => some (Value.int (Int32.ofNat t))) (Eq.symm (by unfold r_X5_change; first | simp only [if_neg h1_1, if_neg h1_2, if_neg h1_3, if_pos h1_4] | rfl)), congrArg (fun t => cwld cI cS t ad) (Eq.symm (by unfold w_X5_change; first | simp only [if_neg h1_1, if_neg h1_2, if_neg h1_3, if_pos h1_4] | rfl))⟩
  refine g_tableOut F dX5_change_1 (by have e1 : (Int32.ofNat kd).toInt ≠ 1 := fun h => h1_1 (Int32.toInt_inj.mp (h.trans (by decide))); have e2 : (Int32.ofNat kd).toInt ≠ 2 := fun h => h1_2 (Int32.toInt_inj.mp (h.trans (by decide))); have e3 : (Int32.ofNat kd).toInt ≠ 3 := fun h => h1_3 (Int32.toInt_inj.mp (h.trans (by decide))); have e4 : (Int32.ofNat kd).toInt ≠ 4 := fun h => h1_4 (Int32.toInt_inj.mp (h.trans (by decide))); omega) (tgt := 65) rfl ?_
  refine g_aload_n F dX5_change_65 0 rfl ?_
  refine g_iload F dX5_change_66 4 rfl ?_
  refine f_callV F (As := [.int (Int32.ofNat vb)]) (rest := []) (st' := [.int (Int32.ofNat (r_X5_close c i vb))]) (k_X5_close l D cI cS cZ ad c i vb h_i (by assumption)) (pl_TR h_i) rfl tb_258 tb_256 tb_257 tb_597 tb_4 ⟨rfl, hdX5_close⟩ ⟨rfl, rfl⟩ ⟨Nat.le_of_ble_eq_true rfl, Nat.le_of_ble_eq_true rfl⟩ cw_adr rfl rfl (Nat.le_of_ble_eq_true rfl) ⟨Nat.le_refl _, Nat.le_refl _⟩ dX5_change_68 rfl ?_
  exact g_iret F hr hlk dX5_change_71 ⟨congrArg (fun t => some (Value.int (Int32.ofNat t))) (Eq.symm (by unfold r_X5_change; first | simp only [if_neg h1_1, if_neg h1_2, if_neg h1_3, if_neg h1_4] | rfl)), congrArg (fun t => cwld cI cS t ad) (Eq.symm (by unfold w_X5_change; first | simp only [if_neg h1_1, if_neg h1_2, if_neg h1_3, if_neg h1_4] | rfl))⟩
