/-! The law's rows: calls of the class's and the reference's methods over both worlds at once; the script's elements. -/
theorem rng_map (z w0 : va_W) : ∀ (pre : va_W), (List.range' pre.length w0.length).map (fun i => (pre ++ (w0 ++ z))[i]?) = w0.map some := by
  induction w0 with
  | nil => intro pre; rfl
  | cons x w ih =>
    intro pre
    have h := ih (pre ++ [x])
    rw [List.length_append, List.length_singleton, List.append_assoc] at h
    rw [List.length_cons, List.range'_succ, List.map_cons, List.map_cons]
    have h0 : (pre ++ (x :: w ++ z))[pre.length]? = some x := by
      rw [List.getElem?_append_right (Nat.le_refl _), Nat.sub_self]; rfl
    rw [h0]
    exact congrArg (List.cons (some x)) h
theorem gput_app (z : va_W) : ∀ (w0 w1 : va_W), w1.length = w0.length → ∀ (pre : va_W), gput (pre ++ (w0 ++ z)) (List.range' pre.length w0.length) w1 = pre ++ (w1 ++ z)
  | [], [], _, pre => rfl
  | [], _ :: _, h, _ => by simp at h
  | _ :: _, [], h, _ => by simp at h
  | x :: w, y :: v, h, pre => by
    have h1 := gput_app z w v (by simpa using h) (pre ++ [y])
    rw [List.length_append, List.length_singleton, List.append_assoc, List.append_assoc] at h1
    rw [List.length_cons, List.range'_succ]
    show gput ((pre ++ (x :: (w ++ z))).set pre.length y) (List.range' (pre.length + 1) w.length) v = _
    rw [List.set_append_right _ _ (Nat.le_refl _), Nat.sub_self, List.set_cons_zero]
    exact h1
theorem nd_range : ∀ (n a : Nat), va_nd (List.range' a n) = true
  | 0, _ => rfl
  | n + 1, a => by
    rw [List.range'_succ]
    simp only [va_nd, nd_range n (a + 1), Bool.and_true, decide_eq_true_eq, List.mem_range'_1]
    omega
section LWC
variable {p : Program} {l : Launch} {e : Env} {R : Room} {s : State} {m : MethodId} {args : Array Value} {below : List Frame} {meth : Method} {c : Code}
variable {nL : Nat} {D : va_G} {cl : List vw_C} {A : Nat → Prop} {Q : State → Prop} {cells slots pc : Nat} {L L' : List (Nat × Value)} {st : List Value} {ws ws' : va_W}
variable {cc : ByteArray} {Ts : List Cond} {t0 : Cond} {own : String} {tys : List (ClassId × FieldType)} {a : Nat}
theorem f_calP (F : gf p s m args meth c nL D cl A cc (t0 :: tb) own tys) {y : MethodName} {bytes : ByteArray} {maxL n index : Nat} {ret : Option FieldType} {rm : Room} {As rest : List Value} {rv : Option Value} {C : vw_C} {ci b q0 : Nat} {fs : List Value} {w0 w1 : va_W} (pre z : va_W) (hM : gN l y (Cond.code y bytes maxL ret :: tb) rm D cl tys (.ref b :: As) w0 rv w1) (he : w0[q0]? = some (b, .inr (ci, fs))) (hcl : cl[ci]? = some C) (hcode : Cond.code y bytes maxL ret ∈ tb) (hl : Cond.methodLink own index y ∈ tb) (hi : Cond.instanceMethod y ∈ tb) (hse : Cond.selects C.1 y y ∈ tb) (hini : Cond.initialized y.cls ∈ tb) (hdd : y.cls ≠ "java/lang/invoke/MethodHandle" ∧ y.cls ≠ "java/lang/invoke/VarHandle" ∧ (parseMethodDescriptor y.desc).map (fun d => d.parameters.length) = some n) (hz : rm.cells = 0 ∧ rm.slots = 0) (hR : rm.frames + 1 ≤ R.frames ∧ 8 + (maxL + 11) + rm.locals ≤ R.locals) (hadr : w1.map Prod.fst = w0.map Prod.fst) (hn : As.length = n) (hst : st = As.reverse ++ .ref b :: rest) (hW : (rest.map fun v => v.category).sum ≤ 8) (hf : cells ≤ R.cells ∧ slots ≤ R.slots) (hd : decode cc pc = .ok (.invokevirtual index, 3)) {st' : List Value} (hst' : rv.toList ++ rest = st')
    (k : gw p l e R s m args below meth c nL D cl A Q cells slots (pc + 3) L st' (pre ++ (w1 ++ z))) : gw p l e R s m args below meth c nL D cl A Q cells slots pc L st (pre ++ (w0 ++ z)) :=
  g_call F (av := .ref b :: As) (List.range' pre.length w0.length) (rng_map z w0 pre) hadr (fun ls H locs h1 h2 h3 g1 g2 => va_runV F.1 (hM H.size) ⟨callB_of n F.1.2.2.2.2 (tb_in hcode) rfl hz.1 hz.2 (gf_w F hini) (gf_w F hl) hdd hR, gf_w F hi, gf_w F hse⟩ ⟨gP_blind, va_recv F.2.1 g1 hcl he, gP_pre F g1 g2⟩ rfl hn h1.1 hst (lv_room hW) hd hf) (nd_range _ _) _ (gput_app z w0 w1 (by simpa using congrArg List.length hadr) pre) (by rw [hst']; exact k)
theorem f_calC (F : gf p s m args meth c nL D cl A cc (t0 :: tb) own tys) {y : MethodName} {bytes : ByteArray} {maxL n index : Nat} {ret : Option FieldType} {rm : Room} {As rest : List Value} {rv : Option Value} {C : vw_C} {ci b q0 : Nat} {fs : List Value} {w0 w1 z : va_W} (hM : gN l y (Cond.code y bytes maxL ret :: tb) rm D cl tys (.ref b :: As) w0 rv w1) (he : w0[q0]? = some (b, .inr (ci, fs))) (hcl : cl[ci]? = some C) (hcode : Cond.code y bytes maxL ret ∈ tb) (hl : Cond.methodLink own index y ∈ tb) (hi : Cond.instanceMethod y ∈ tb) (hse : Cond.selects C.1 y y ∈ tb) (hini : Cond.initialized y.cls ∈ tb) (hdd : y.cls ≠ "java/lang/invoke/MethodHandle" ∧ y.cls ≠ "java/lang/invoke/VarHandle" ∧ (parseMethodDescriptor y.desc).map (fun d => d.parameters.length) = some n) (hz : rm.cells = 0 ∧ rm.slots = 0) (hR : rm.frames + 1 ≤ R.frames ∧ 8 + (maxL + 11) + rm.locals ≤ R.locals) (hadr : w1.map Prod.fst = w0.map Prod.fst) (hn : As.length = n) (hst : st = As.reverse ++ .ref b :: rest) (hW : (rest.map fun v => v.category).sum ≤ 8) (hf : cells ≤ R.cells ∧ slots ≤ R.slots) (hd : decode cc pc = .ok (.invokevirtual index, 3)) {st' : List Value} (hst' : rv.toList ++ rest = st')
    (k : gw p l e R s m args below meth c nL D cl A Q cells slots (pc + 3) L st' (w1 ++ z)) : gw p l e R s m args below meth c nL D cl A Q cells slots pc L st (w0 ++ z) :=
  f_calP F [] z hM he hcl hcode hl hi hse hini hdd hz hR hadr hn hst hW hf hd hst' k
theorem f_calR (F : gf p s m args meth c nL D cl A cc (t0 :: tb) own tys) {y : MethodName} {bytes : ByteArray} {maxL n index : Nat} {ret : Option FieldType} {rm : Room} {As rest : List Value} {rv : Option Value} {C : vw_C} {ci b q0 : Nat} {fs : List Value} {w0 w1 pre : va_W} (hM : gN l y (Cond.code y bytes maxL ret :: tb) rm D cl tys (.ref b :: As) w0 rv w1) (he : w0[q0]? = some (b, .inr (ci, fs))) (hcl : cl[ci]? = some C) (hcode : Cond.code y bytes maxL ret ∈ tb) (hl : Cond.methodLink own index y ∈ tb) (hi : Cond.instanceMethod y ∈ tb) (hse : Cond.selects C.1 y y ∈ tb) (hini : Cond.initialized y.cls ∈ tb) (hdd : y.cls ≠ "java/lang/invoke/MethodHandle" ∧ y.cls ≠ "java/lang/invoke/VarHandle" ∧ (parseMethodDescriptor y.desc).map (fun d => d.parameters.length) = some n) (hz : rm.cells = 0 ∧ rm.slots = 0) (hR : rm.frames + 1 ≤ R.frames ∧ 8 + (maxL + 11) + rm.locals ≤ R.locals) (hadr : w1.map Prod.fst = w0.map Prod.fst) (hn : As.length = n) (hst : st = As.reverse ++ .ref b :: rest) (hW : (rest.map fun v => v.category).sum ≤ 8) (hf : cells ≤ R.cells ∧ slots ≤ R.slots) (hd : decode cc pc = .ok (.invokevirtual index, 3)) {st' : List Value} (hst' : rv.toList ++ rest = st')
    (k : gw p l e R s m args below meth c nL D cl A Q cells slots (pc + 3) L st' (pre ++ w1)) : gw p l e R s m args below meth c nL D cl A Q cells slots pc L st (pre ++ w0) := by
  have h := f_calP (Q := Q) (L := L) (below := below) (e := e) F pre [] hM he hcl hcode hl hi hse hini hdd hz hR hadr hn hst hW hf hd hst' (by rw [List.append_nil]; exact k)
  rw [List.append_nil] at h
  exact h
-- a constructor's call, by a plain link: the new cells come behind
theorem f_calK (F : gf p s m args meth c nL D cl A cc (t0 :: tb) own tys) {y : MethodName} {bytes : ByteArray} {maxL index mc ms : Nat} {rm : Room} {rest : List Value} {x : va_E} {post : (Nat → Nat) → va_W} {b : Nat} (hM : gM l y (Cond.code y bytes maxL none :: tb) rm D cl tys [.ref b] [(b, x)] (fun v w => v = none ∧ ∃ ad : Nat → Nat, ad 0 = b ∧ w = post ad) mc ms) (hy : y.name = "<init>") (hcode : Cond.code y bytes maxL none ∈ tb) (hl : Cond.methodLink own index y ∈ tb) (hi : Cond.instanceMethod y ∈ tb) (hini : Cond.initialized y.cls ∈ tb) (hdd : y.cls ≠ "java/lang/invoke/MethodHandle" ∧ y.cls ≠ "java/lang/invoke/VarHandle" ∧ (parseMethodDescriptor y.desc).map (fun d => d.parameters.length) = some 0) (hz : rm.cells = mc ∧ rm.slots = ms) (hR : rm.frames + 1 ≤ R.frames ∧ 8 + (maxL + 11) + rm.locals ≤ R.locals) (hst : st = .ref b :: rest) (hW : (rest.map fun v => v.category).sum ≤ 8) (hf : cells + mc ≤ R.cells ∧ slots + ms ≤ R.slots) (hd : decode cc pc = .ok (.invokespecial index, 3)) (pre : va_W)
    (hpost : ∀ ad : Nat → Nat, ∃ (x1 : va_E) (nw : va_W), post ad = (ad 0, x1) :: nw)
    (k : ∀ ad : Nat → Nat, ad 0 = b → gw p l e R s m args below meth c nL D cl A Q (cells + mc) (slots + ms) (pc + 3) L rest (pre ++ post ad)) : gw p l e R s m args below meth c nL D cl A Q cells slots pc L st (pre ++ [(b, x)]) := by
  intro ls H locs h1 h2 h3 h4 T hT X
  have hC : (List.range' pre.length 1).map (fun i => (pre ++ [(b, x)])[i]?) = [(b, x)].map some := rng_map [] [(b, x)] pre
  have hP0 : va_P D cl [(b, x)] H := fun j q hq => by
    obtain ⟨i, -, h⟩ := (g_at hC).1 j q hq
    exact h2 i q h
  have hD0 : va_D A [(b, x)] := h3.sub _ (nd_range 1 pre.length) hC
  have hF := va_free (wc := [(b, x)]) h3 h4 F.2.2.1 _ hC
  obtain ⟨v, st₀, t, T', Lc, e0, X', hL, e1, e2, ⟨⟨v', w', hv, hpo, hP1, -, hD1⟩, hzz, hk⟩, stp⟩ := va_runI (b := b) (As := []) (rest := rest) F.1 (hM H.size) ⟨callB_of 0 F.1.2.2.2.2 (tb_in hcode) rfl hz.1 hz.2 (gf_w F hini) (gf_w F hl) hdd hR, hy, gf_w F hi⟩ ⟨gP_blind, gP_pre F hP0 (hD0.weaken (fun _ _ _ _ => trivial))⟩ rfl rfl h1.1 hst (lv_room hW) hd hf T hT X
  cases hv
  obtain ⟨rfl, ad, hb, rfl⟩ := hpo
  obtain ⟨x1, nw, hw⟩ := hpost ad
  rw [e0] at hzz hk
  rw [hw] at hP1 hD1
  have hadr : [(ad 0, x1)].map Prod.fst = [(b, x)].map Prod.fst := by rw [hb]; rfl
  obtain ⟨j1, j2⟩ := gput_more (H1 := t.heap) (w1 := [(ad 0, x1)]) (nw := nw) h2 h3 hC hadr hk hF hP1 hD1
  have hg : gput (pre ++ [(b, x)]) (List.range' pre.length 1) [(ad 0, x1)] = pre ++ [(ad 0, x1)] := gput_app [] [(b, x)] [(ad 0, x1)] rfl pre
  rw [hg, List.append_assoc, List.singleton_append, ← hw] at j1 j2
  rw [← e1] at j1
  obtain ⟨t2, a1, b1⟩ := k ad hb ls T'.heap (locs ++ Lc) h1 j1 j2 ⟨Nat.le_trans h4.1 (by rw [e1]; exact hzz), fun q g1 g2 => by rw [e1, hk q (Nat.lt_of_lt_of_le g1 h4.1) (fun z => g2 (hF q z))]; exact h4.2.1 q g1 g2, fun q hq => by
      rcases List.mem_append.mp hq with h | h
      · exact h4.2.2 q h
      · exact hF _ (hL q h)⟩ T' rfl X'
  exact ⟨t2, stp t2 a1, b1⟩
-- the script: it lies among the cells that nothing writes to
theorem f_slen (F : gf p s m args meth c nL D cl A cc Ts own tys) {b Ln : Nat} {xs : Nat → Int32} (hX : va_X b Ln xs s s.heap) (hbl : b < s.heap.size) (hbA : ¬ A b) (hd : decode cc pc = .ok (.arraylength, 1))
    (k : gw p l e R s m args below meth c nL D cl A Q cells slots (pc + 1) L (.int (Int32.ofNat Ln) :: st) ws) : gw p l e R s m args below meth c nL D cl A Q cells slots pc L (.ref b :: st) ws :=
  fun ls H locs h1 h2 h3 h4 => va_slen F.1.1 F.1.2.1 hX hbl hbA h4 hd (k ls H locs h1 h2 h3 h4)
theorem f_sld (F : gf p s m args meth c nL D cl A cc Ts own tys) {b Ln : Nat} {xs : Nat → Int32} (hX : va_X b Ln xs s s.heap) (hbl : b < s.heap.size) (hbA : ¬ A b) {j : Nat} (hj : j < Ln) (hn : Ln ≤ 2147483648) (hd : decode cc pc = .ok (.iaload, 1))
    (k : gw p l e R s m args below meth c nL D cl A Q cells slots (pc + 1) L (.int (Int32.ofNat (nc (xs j))) :: st) ws) : gw p l e R s m args below meth c nL D cl A Q cells slots pc L (.int (Int32.ofNat j) :: .ref b :: st) ws := by
  intro ls H locs h1 h2 h3 h4
  refine va_sld F.1.1 F.1.2.1 hX hbl hbA h4 (ofN_in hj hn) hd ?_
  rw [ofN_toNat (by omega), ← ofN_nc (xs j)]
  exact k ls H locs h1 h2 h3 h4
-- an argument: script[i + v]
theorem f_arg (F : gf p s m args meth c nL D cl A cc Ts own tys) {b Ln i : Nat} {xs : Nat → Int32} (hX : va_X b Ln xs s s.heap) (hbl : b < s.heap.size) (hbA : ¬ A b) (hn : Ln ≤ 2147483648) (v : Nat) {n : Int} (hv : Int32.ofInt n = Int32.ofNat v) (hj : i + v < Ln) (j3 j0 : Nat) (hL3 : L[j3]? = some (3, .int (Int32.ofNat i))) (hL0 : L[j0]? = some (0, .ref b))
    (d0 : decode cc pc = .ok (.aload_n 0, 1)) (d1 : decode cc (pc + 1) = .ok (.iload_n 3, 1)) (d2 : decode cc (pc + 2) = .ok (.iconst n, 1)) (d3 : decode cc (pc + 3) = .ok (.iadd, 1)) (d4 : decode cc (pc + 4) = .ok (.iaload, 1))
    (k : gw p l e R s m args below meth c nL D cl A Q cells slots (pc + 5) L (.int (Int32.ofNat (nc (xs (i + v)))) :: st) ws) : gw p l e R s m args below meth c nL D cl A Q cells slots pc L st ws :=
  g_aload_n F d0 j0 hL0 (g_iload_n F d1 j3 hL3 (f_iconst F v d2 hv (f_add F d3 (f_sld F hX hbl hbA hj hn d4 k))))
end LWC
theorem law_K {s : State} {args : Array Value} (ht : ∀ w ∈ tb, w.before args s = true) (hn : ∀ w ∈ nb, w.before args s = true) : ∃ (D : va_G) (cI cS cZ : ClassId), va_K D cls8 (tys3 cI cS cZ) s ∧ NW s := by
  obtain ⟨c0, i0, h0⟩ := u_known ht inX0 (ht _ tb_25)
  obtain ⟨c1, i1, h1⟩ := u_known ht inX1 (ht _ tb_60)
  obtain ⟨c2, i2, h2⟩ := u_known ht inX2 (ht _ tb_65)
  obtain ⟨c3, i3, h3⟩ := u_known ht inX3 (ht _ tb_20)
  obtain ⟨c4, i4, h4⟩ := u_known ht inX4 (ht _ tb_88)
  obtain ⟨c5, i5, h5⟩ := u_known ht inX5 (ht _ tb_43)
  obtain ⟨c6, i6, h6⟩ := u_known ht inX6 (ht _ tb_12)
  obtain ⟨c7, i7, h7⟩ := u_known ht inX7 (ht _ tb_352)
  obtain ⟨cI, kI, oI, a1, a2, a3⟩ := Cond.arrayClass_spec (ht _ tb_41)
  obtain ⟨cZ, kZ, oZ, b1, b2, b3⟩ := Cond.arrayClass_spec (ht _ tb_423)
  obtain ⟨oS, cS, kS, g1, -, g3, g4, g5⟩ := Cond.arrayOver_spec (hn _ nb_0)
  refine ⟨(fun k => match k with | 0 => c0 | 1 => c1 | 2 => c2 | 3 => c3 | 4 => c4 | 5 => c5 | 6 => c6 | _ => c7, fun k => match k with | 0 => i0 | 1 => i1 | 2 => i2 | 3 => i3 | 4 => i4 | 5 => i5 | 6 => i6 | _ => i7), cI, cS, cZ, ⟨fun k q hq => ?_, fun k q hq => ?_⟩, fun w hw => ?_⟩
  · match k, hq with
    | 0, hq => cases Option.some.inj hq; exact h0
    | 1, hq => cases Option.some.inj hq; exact h1
    | 2, hq => cases Option.some.inj hq; exact h2
    | 3, hq => cases Option.some.inj hq; exact h3
    | 4, hq => cases Option.some.inj hq; exact h4
    | 5, hq => cases Option.some.inj hq; exact h5
    | 6, hq => cases Option.some.inj hq; exact h6
    | 7, hq => cases Option.some.inj hq; exact h7
    | n + 8, hq => simp at hq
  · match k, hq with
    | 0, hq => cases Option.some.inj hq; exact ⟨fun n z => ⟨fun k h => (by cases h), kI, a2, oI, a3⟩, a1⟩
    | 1, hq => cases Option.some.inj hq; exact ⟨fun n z => ⟨fun k h => (by cases h), kS, g3, oS, g4⟩, kS, oS, g3, g4, g1, g5⟩
    | 2, hq => cases Option.some.inj hq; exact ⟨fun n z => ⟨fun k h => (by cases h), kZ, b2, oZ, b3⟩, b1⟩
    | n + 3, hq => simp at hq
  · have h := hn w hw
    rcases nest_kind (List.all_eq_true.mp nb_nest w hw) with ⟨a, i, b, n, d, q, rfl⟩ | ⟨a, i, x, q, rfl⟩ | ⟨C, rfl⟩
    · exact va_Nw.of rfl h
    · exact va_Nw.of rfl h
    · exact va_AO.of h
