section GN
theorem ofN_add (a b : Nat) : Int32.ofNat a + Int32.ofNat b = Int32.ofNat (a + b) := (Int32.ofNat_add a b).symm
theorem ofN_mul (a b : Nat) : Int32.ofNat a * Int32.ofNat b = Int32.ofNat (a * b) := (Int32.ofNat_mul a b).symm
theorem ofN_toNat {j : Nat} (h : j < 2147483648) : (Int32.ofNat j).toNatClampNeg = j := Int32.toNatClampNeg_ofNat_of_lt h
theorem ofN_lt {a b : Nat} (ha : a < 2147483648) (hb : b < 2147483648) : (Int32.ofNat a < Int32.ofNat b) ↔ a < b := by
  rw [Int32.lt_iff_toInt_lt, Int32.toInt_ofNat_of_lt ha, Int32.toInt_ofNat_of_lt hb]; omega
theorem ofN_le {a b : Nat} (ha : a < 2147483648) (hb : b < 2147483648) : (Int32.ofNat a ≤ Int32.ofNat b) ↔ a ≤ b := by
  rw [Int32.le_iff_toInt_le, Int32.toInt_ofNat_of_lt ha, Int32.toInt_ofNat_of_lt hb]; omega
theorem ofN_eq {a b : Nat} (ha : a < 2147483648) (hb : b < 2147483648) : (Int32.ofNat a = Int32.ofNat b) ↔ a = b := by
  rw [← Int32.toInt_inj, Int32.toInt_ofNat_of_lt ha, Int32.toInt_ofNat_of_lt hb]; omega
theorem ofN_in {j n : Nat} (h : j < n) (hn : n ≤ 2147483648) : vp_in (Int32.ofNat j) n := by
  unfold vp_in
  rw [ofN_toNat (by omega), Int32.lt_iff_toInt_lt, Int32.toInt_ofNat_of_lt (by omega)]
  have : Int32.toInt 0 = 0 := by decide
  omega
def nc (x : Int32) : Nat := x.toUInt32.toNat
theorem ofN_nc (x : Int32) : Int32.ofNat (nc x) = x := Int32.toBitVec.inj (by
  rw [Int32.toBitVec_ofNat']
  show BitVec.ofNat 32 x.toBitVec.toNat = x.toBitVec
  simp)
end GN
section GN2
variable {p : Program} {l : Launch} {e : Env} {R : Room} {s : State} {m : MethodId} {args : Array Value} {below : List Frame} {meth : Method} {c : Code}
variable {nL : Nat} {D : va_G} {cl : List vw_C} {A : Nat → Prop} {Q : State → Prop} {cells slots pc : Nat} {L L' : List (Nat × Value)} {st : List Value} {ws ws' : va_W}
variable {cc : ByteArray} {Ts : List Cond} {t0 : Cond} {own : String} {tys : List (ClassId × FieldType)} {a : Nat}
theorem gf_w (F : gf p s m args meth c nL D cl A cc (t0 :: tb) own tys) {w : Cond} (h : w ∈ tb) : w.before args s = true := F.1.2.2.2.2 _ (List.mem_cons_of_mem _ h)
theorem gf_n (F : gf p s m args meth c nL D cl A cc (t0 :: tb) own tys) {w : Cond} (h : w ∈ nb) : w.before args s = true := NW.use F.2.2.2 h
theorem in_c {C : String} {T : u_T} {N : Nat} (h : ∀ w ∈ u_ws C T N, w ∈ tb) : ∀ w ∈ u_ws C T N, w ∈ t0 :: tb := fun w hw => List.mem_cons_of_mem _ (h w hw)
-- fields
theorem f_get (F : gf p s m args meth c nL D cl A cc (t0 :: tb) own tys) {ref C : String} {T : u_T} {N ci index : Nat} (hin : ∀ w ∈ u_ws C T N, w ∈ tb) {q0 : Nat} {fs : List Value} (he : ws[q0]? = some (a, .inr (ci, fs))) (hc : cl[ci]? = some (C, T, N)) (j : Nat) (hj : j < N) (hlink : Cond.fieldLink own index ref (T j).2.1 (T j).2.2.1 ∈ tb) (hr : (T j).1 = ref) {v : Value} (hv : fs[j]? = some v) (hd : decode cc pc = .ok (.getfield index, 3))
    (k : gw p l e R s m args below meth c nL D cl A Q cells slots (pc + 3) L (v :: st) ws) : gw p l e R s m args below meth c nL D cl A Q cells slots pc L (.ref a :: st) ws :=
  g_get F (in_c hin) q0 he hc j hj (gf_w F hlink) (fun _ h => by rw [hr] at h; exact h) hv hd k
theorem f_getN (F : gf p s m args meth c nL D cl A cc (t0 :: tb) own tys) {ref C : String} {T : u_T} {N ci index : Nat} {host : String} (hin : ∀ w ∈ u_ws C T N, w ∈ tb) {q0 : Nat} {fs : List Value} (he : ws[q0]? = some (a, .inr (ci, fs))) (hc : cl[ci]? = some (C, T, N)) (j : Nat) (hj : j < N) (hlink : Cond.fieldLinkNest own index ref (T j).2.1 (T j).2.2.1 host ∈ nb) (hr : (T j).1 = ref) {v : Value} (hv : fs[j]? = some v) (hd : decode cc pc = .ok (.getfield index, 3))
    (k : gw p l e R s m args below meth c nL D cl A Q cells slots (pc + 3) L (v :: st) ws) : gw p l e R s m args below meth c nL D cl A Q cells slots pc L (.ref a :: st) ws :=
  g_getN F (in_c hin) q0 he hc j hj (gf_n F hlink) (fun _ h => by rw [hr] at h; exact h) hv hd k
theorem f_put (F : gf p s m args meth c nL D cl A cc (t0 :: tb) own tys) {ref C : String} {T : u_T} {N ci index : Nat} (hin : ∀ w ∈ u_ws C T N, w ∈ tb) {ty0 : Nat → FieldType} (hty : ∀ k, k < N → parseFieldDescriptor (T k).2.2.1 = some (ty0 k)) (hnm : ∀ a, a < N → ∀ b, b < N → a ≠ b → (T a).2.1 ≠ (T b).2.1) {q0 : Nat} {fs : List Value} (he : ws[q0]? = some (a, .inr (ci, fs))) (hc : cl[ci]? = some (C, T, N)) (j : Nat) (hj : j < N) (hlink : Cond.fieldLink own index ref (T j).2.1 (T j).2.2.1 ∈ tb) (hr : (T j).1 = ref) (hfin : (T j).2.2.2 = false) {v : Value} (hn : narrow (ty0 j) v = v) (hfit : fits (ty0 j) v = true) (hlen : j < fs.length) (hd : decode cc pc = .ok (.putfield index, 3)) {ws' : va_W} (hws : ws.set q0 (a, .inr (ci, fs.set j v)) = ws')
    (k : gw p l e R s m args below meth c nL D cl A Q cells slots (pc + 3) L st ws') : gw p l e R s m args below meth c nL D cl A Q cells slots pc L (v :: .ref a :: st) ws :=
  g_put F (in_c hin) ty0 hty hnm q0 he hc j hj (gf_w F hlink) (fun _ h => by rw [hr] at h; exact h) hfin (hty j hj) hn hfit hlen hd ws' hws k
theorem f_putN (F : gf p s m args meth c nL D cl A cc (t0 :: tb) own tys) {ref C : String} {T : u_T} {N ci index : Nat} {host : String} (hin : ∀ w ∈ u_ws C T N, w ∈ tb) {ty0 : Nat → FieldType} (hty : ∀ k, k < N → parseFieldDescriptor (T k).2.2.1 = some (ty0 k)) (hnm : ∀ a, a < N → ∀ b, b < N → a ≠ b → (T a).2.1 ≠ (T b).2.1) {q0 : Nat} {fs : List Value} (he : ws[q0]? = some (a, .inr (ci, fs))) (hc : cl[ci]? = some (C, T, N)) (j : Nat) (hj : j < N) (hlink : Cond.fieldLinkNest own index ref (T j).2.1 (T j).2.2.1 host ∈ nb) (hr : (T j).1 = ref) (hfin : (T j).2.2.2 = false) {v : Value} (hn : narrow (ty0 j) v = v) (hfit : fits (ty0 j) v = true) (hlen : j < fs.length) (hd : decode cc pc = .ok (.putfield index, 3)) {ws' : va_W} (hws : ws.set q0 (a, .inr (ci, fs.set j v)) = ws')
    (k : gw p l e R s m args below meth c nL D cl A Q cells slots (pc + 3) L st ws') : gw p l e R s m args below meth c nL D cl A Q cells slots pc L (v :: .ref a :: st) ws :=
  g_putN F (in_c hin) ty0 hty hnm q0 he hc j hj (gf_n F hlink) (fun _ h => by rw [hr] at h; exact h) hfin (hty j hj) hn hfit hlen hd ws' hws k
-- arrays of codes
theorem f_ald (F : gf p s m args meth c nL D cl A cc Ts own tys) {q0 : Nat} (ti : Nat) {cA : ClassId} {n : Nat} {f : Nat → Nat} (ha : ws[q0]? = some (a, .inl (cA, n, .inl (fun t => Int32.ofNat (f t))))) (ht : tys[ti]? = some (cA, .int)) {j : Nat} (hj : j < n) (hn : n ≤ 2147483648) (hd : decode cc pc = .ok (.iaload, 1))
    (k : gw p l e R s m args below meth c nL D cl A Q cells slots (pc + 1) L (.int (Int32.ofNat (f j)) :: st) ws) : gw p l e R s m args below meth c nL D cl A Q cells slots pc L (.int (Int32.ofNat j) :: .ref a :: st) ws :=
  g_iald F q0 ti ha ht (ofN_in hj hn) (by rw [ofN_toNat (by omega)]) hd k
theorem upd_code {f : Nat → Nat} {j v : Nat} (hj : j < 2147483648) : upd (fun t => Int32.ofNat (f t)) (Int32.ofNat j).toNatClampNeg (Int32.ofNat v) = fun t => Int32.ofNat (if t = j then v else f t) := by
  rw [ofN_toNat hj]; funext t; unfold upd; split <;> rfl
theorem f_ast (F : gf p s m args meth c nL D cl A cc Ts own tys) {q0 : Nat} (ti : Nat) {cA : ClassId} {n : Nat} {f : Nat → Nat} (ha : ws[q0]? = some (a, .inl (cA, n, .inl (fun t => Int32.ofNat (f t))))) (ht : tys[ti]? = some (cA, .int)) {j v : Nat} (hj : j < n) (hn : n ≤ 2147483648) (hd : decode cc pc = .ok (.iastore, 1)) {ws' : va_W} (hws : ws.set q0 (a, .inl (cA, n, .inl (fun t => Int32.ofNat (if t = j then v else f t)))) = ws')
    (k : gw p l e R s m args below meth c nL D cl A Q cells slots (pc + 1) L st ws') : gw p l e R s m args below meth c nL D cl A Q cells slots pc L (.int (Int32.ofNat v) :: .int (Int32.ofNat j) :: .ref a :: st) ws :=
  g_iast F q0 ti ha ht (ofN_in hj hn) hd ws' (by rw [upd_code (by omega)]; exact hws) k
theorem f_zald (F : gf p s m args meth c nL D cl A cc Ts own tys) {q0 : Nat} (ti : Nat) {cA : ClassId} {n : Nat} {f : Nat → Nat} (ha : ws[q0]? = some (a, .inl (cA, n, .inl (fun t => Int32.ofNat (f t))))) (ht : tys[ti]? = some (cA, .boolean)) {j : Nat} (hj : j < n) (hn : n ≤ 2147483648) (hd : decode cc pc = .ok (.baload, 1))
    (k : gw p l e R s m args below meth c nL D cl A Q cells slots (pc + 1) L (.int (Int32.ofNat (f j)) :: st) ws) : gw p l e R s m args below meth c nL D cl A Q cells slots pc L (.int (Int32.ofNat j) :: .ref a :: st) ws := by
  intro ls H locs h1 h2 h3 h4
  refine va_zald F.1.1 F.1.2.1 F.2.1 h2 q0 ti ha ht (ofN_in hj hn) hd ?_
  rw [ofN_toNat (by omega)]
  exact k ls H locs h1 h2 h3 h4
theorem f_zast (F : gf p s m args meth c nL D cl A cc Ts own tys) {q0 : Nat} (ti : Nat) {cA : ClassId} {n : Nat} {f : Nat → Nat} (ha : ws[q0]? = some (a, .inl (cA, n, .inl (fun t => Int32.ofNat (f t))))) (ht : tys[ti]? = some (cA, .boolean)) {j v : Nat} (hj : j < n) (hn : n ≤ 2147483648) (hv : vp_nar .boolean (Int32.ofNat v) = Int32.ofNat v) (hd : decode cc pc = .ok (.bastore, 1)) {ws' : va_W} (hws : ws.set q0 (a, .inl (cA, n, .inl (fun t => Int32.ofNat (if t = j then v else f t)))) = ws')
    (k : gw p l e R s m args below meth c nL D cl A Q cells slots (pc + 1) L st ws') : gw p l e R s m args below meth c nL D cl A Q cells slots pc L (.int (Int32.ofNat v) :: .int (Int32.ofNat j) :: .ref a :: st) ws := by
  subst hws
  intro ls H locs h1 h2 h3 h4
  refine va_zast F.1.1 F.1.2.1 F.2.1 h2 h3 h4 q0 ti ha ht (ofN_in hj hn) hd ?_
  rw [hv, upd_code (by omega)]
  exact fun H1 locs1 g1 g2 g3 => k ls H1 locs1 h1 g1 g2 g3
-- arithmetic of codes
theorem f_add (F : gf p s m args meth c nL D cl A cc Ts own tys) {x y : Nat} (hd : decode cc pc = .ok (.iadd, 1))
    (k : gw p l e R s m args below meth c nL D cl A Q cells slots (pc + 1) L (.int (Int32.ofNat (x + y)) :: st) ws) : gw p l e R s m args below meth c nL D cl A Q cells slots pc L (.int (Int32.ofNat y) :: .int (Int32.ofNat x) :: st) ws := by
  rw [← ofN_add] at k; exact g_iadd F hd k
theorem f_mul (F : gf p s m args meth c nL D cl A cc Ts own tys) {x y : Nat} (hd : decode cc pc = .ok (.imul, 1))
    (k : gw p l e R s m args below meth c nL D cl A Q cells slots (pc + 1) L (.int (Int32.ofNat (x * y)) :: st) ws) : gw p l e R s m args below meth c nL D cl A Q cells slots pc L (.int (Int32.ofNat y) :: .int (Int32.ofNat x) :: st) ws := by
  rw [← ofN_mul] at k; exact g_imul F hd k
theorem f_sub (F : gf p s m args meth c nL D cl A cc Ts own tys) {x y : Nat} (hxy : y ≤ x) (hd : decode cc pc = .ok (.isub, 1))
    (k : gw p l e R s m args below meth c nL D cl A Q cells slots (pc + 1) L (.int (Int32.ofNat (x - y)) :: st) ws) : gw p l e R s m args below meth c nL D cl A Q cells slots pc L (.int (Int32.ofNat y) :: .int (Int32.ofNat x) :: st) ws := by
  refine g_isub F hd ?_
  have : Int32.ofNat x - Int32.ofNat y = Int32.ofNat (x - y) := by
    conv => lhs; rw [show x = (x - y) + y by omega, ← ofN_add]
    simp
  rw [this]; exact k
-- a number becomes a code
theorem f_code {x : Int32} (k : gw p l e R s m args below meth c nL D cl A Q cells slots pc L (.int (Int32.ofNat (nc x)) :: st) ws) : gw p l e R s m args below meth c nL D cl A Q cells slots pc L (.int x :: st) ws := by
  rw [ofN_nc] at k; exact k
theorem f_iconst (F : gf p s m args meth c nL D cl A cc Ts own tys) {n : Int} (v : Nat) (hd : decode cc pc = .ok (.iconst n, 1)) (hv : Int32.ofInt n = Int32.ofNat v)
    (k : gw p l e R s m args below meth c nL D cl A Q cells slots (pc + 1) L (.int (Int32.ofNat v) :: st) ws) : gw p l e R s m args below meth c nL D cl A Q cells slots pc L st ws := g_iconst F hd hv k
theorem f_bipush (F : gf p s m args meth c nL D cl A cc Ts own tys) {n : Int} (v : Nat) (hd : decode cc pc = .ok (.bipush n, 2)) (hv : (Int8.ofInt n).toInt32 = Int32.ofNat v)
    (k : gw p l e R s m args below meth c nL D cl A Q cells slots (pc + 2) L (.int (Int32.ofNat v) :: st) ws) : gw p l e R s m args below meth c nL D cl A Q cells slots pc L st ws := g_bipush F hd hv k
theorem f_sipush (F : gf p s m args meth c nL D cl A cc Ts own tys) {n : Int} (v : Nat) (hd : decode cc pc = .ok (.sipush n, 3)) (hv : (Int16.ofInt n).toInt32 = Int32.ofNat v)
    (k : gw p l e R s m args below meth c nL D cl A Q cells slots (pc + 3) L (.int (Int32.ofNat v) :: st) ws) : gw p l e R s m args below meth c nL D cl A Q cells slots pc L st ws := g_sipush F hd hv k
theorem f_iinc (F : gf p s m args meth c nL D cl A cc Ts own tys) {i : Nat} {n : Int} {x : Nat} (v : Nat) (L' : List (Nat × Value)) (hd : decode cc pc = .ok (.iinc i n, 3)) (j : Nat) (hj : L[j]? = some (i, .int (Int32.ofNat x))) (hv : Int32.ofNat x + Int32.ofInt n = Int32.ofNat v) (hn : i < nL) (hl : (i, Value.int (Int32.ofNat v)) :: L.filter (fun q => !(q.1 == i) && !(q.1 + 1 == i && q.2.category == 2)) = L')
    (k : gw p l e R s m args below meth c nL D cl A Q cells slots (pc + 3) L' st ws) : gw p l e R s m args below meth c nL D cl A Q cells slots pc L st ws := g_iinc F L' hd j hj hv hn hl k
theorem ofN_inc (x : Nat) : Int32.ofNat x + Int32.ofInt 1 = Int32.ofNat (x + 1) := ofN_add x 1
-- calls over the whole world; every method's words are its own code and tb
theorem tb_in {t t' : Cond} (h : t' ∈ tb) : GoodIn (t :: tb) (t' :: tb) := by
  intro w hw
  have hw : w ∈ tb := by rcases List.mem_cons.mp hw with e | h'; rw [e]; exact h; exact h'
  exact ⟨List.mem_cons_of_mem _ hw, good_of_word (List.all_eq_true.mp tb_good w hw)⟩
theorem tb_ins {t t' : Cond} {pre : List Cond} (hp : ∀ w ∈ pre, w ∈ tb) (h : t' ∈ tb) : GoodIn (t :: tb) (pre ++ (t' :: tb)) := by
  intro w hw
  have hw : w ∈ tb := by
    rcases List.mem_append.mp hw with h' | h'
    · exact hp w h'
    · rcases List.mem_cons.mp h' with e | h'; rw [e]; exact h; exact h'
  exact ⟨List.mem_cons_of_mem _ hw, good_of_word (List.all_eq_true.mp tb_good w hw)⟩
theorem f_callS (F : gf p s m args meth c nL D cl A cc (t0 :: tb) own tys) {y : MethodName} {bytes : ByteArray} {maxL n index : Nat} {ret : Option FieldType} {rm : Room} {av rest : List Value} {rv : Option Value} (hM : gN l y (Cond.code y bytes maxL ret :: tb) rm D cl tys av ws rv ws') (hcode : Cond.code y bytes maxL ret ∈ tb) (hl : Cond.methodLink own index y ∈ tb) (hst0 : Cond.static y ∈ tb) (hini : Cond.initialized y.cls ∈ tb) (hdd : y.cls ≠ "java/lang/invoke/MethodHandle" ∧ y.cls ≠ "java/lang/invoke/VarHandle" ∧ (parseMethodDescriptor y.desc).map (fun d => d.parameters.length) = some n) (hz : rm.cells = 0 ∧ rm.slots = 0) (hR : rm.frames + 1 ≤ R.frames ∧ 8 + (maxL + 11) + rm.locals ≤ R.locals) (hadr : ws'.map Prod.fst = ws.map Prod.fst) (hn : av.length = n) (hst : st = av.reverse ++ rest) (hW : (rest.map fun v => v.category).sum ≤ 8) (hf : cells ≤ R.cells ∧ slots ≤ R.slots) (hd : decode cc pc = .ok (.invokestatic index, 3)) {st' : List Value} (hst' : rv.toList ++ rest = st')
    (k : gw p l e R s m args below meth c nL D cl A Q cells slots (pc + 3) L st' ws') : gw p l e R s m args below meth c nL D cl A Q cells slots pc L st ws :=
  g_callA F (av := av) hadr (fun ls H locs h1 h2 h3 => va_runS F.1 (hM H.size) ⟨callB_of n F.1.2.2.2.2 (tb_in hcode) rfl hz.1 hz.2 (gf_w F hini) (gf_w F hl) hdd hR, gf_w F hst0⟩ ⟨gP_blind, gP_pre F h2 h3⟩ rfl hn h1.1 hst (lv_room hW) hd hf) (by rw [hst']; exact k)
theorem f_callV (F : gf p s m args meth c nL D cl A cc (t0 :: tb) own tys) {y : MethodName} {bytes : ByteArray} {maxL n index : Nat} {ret : Option FieldType} {rm : Room} {As rest : List Value} {rv : Option Value} {C : vw_C} {ci b q0 : Nat} {fs : List Value} (hM : gN l y (Cond.code y bytes maxL ret :: tb) rm D cl tys (.ref b :: As) ws rv ws') (he : ws[q0]? = some (b, .inr (ci, fs))) (hcl : cl[ci]? = some C) (hcode : Cond.code y bytes maxL ret ∈ tb) (hl : Cond.methodLink own index y ∈ tb) (hi : Cond.instanceMethod y ∈ tb) (hse : Cond.selects C.1 y y ∈ tb) (hini : Cond.initialized y.cls ∈ tb) (hdd : y.cls = C.1 ∧ y.cls ≠ "java/lang/invoke/MethodHandle" ∧ y.cls ≠ "java/lang/invoke/VarHandle" ∧ (parseMethodDescriptor y.desc).map (fun d => d.parameters.length) = some n) (hz : rm.cells = 0 ∧ rm.slots = 0) (hR : rm.frames + 1 ≤ R.frames ∧ 8 + (maxL + 11) + rm.locals ≤ R.locals) (hadr : ws'.map Prod.fst = ws.map Prod.fst) (hn : As.length = n) (hst : st = As.reverse ++ .ref b :: rest) (hW : (rest.map fun v => v.category).sum ≤ 8) (hf : cells ≤ R.cells ∧ slots ≤ R.slots) (hd : decode cc pc = .ok (.invokevirtual index, 3)) {st' : List Value} (hst' : rv.toList ++ rest = st')
    (k : gw p l e R s m args below meth c nL D cl A Q cells slots (pc + 3) L st' ws') : gw p l e R s m args below meth c nL D cl A Q cells slots pc L st ws :=
  g_callA F (av := .ref b :: As) hadr (fun ls H locs h1 h2 h3 => va_runV F.1 (hM H.size) ⟨callB_of n F.1.2.2.2.2 (tb_in hcode) rfl hz.1 hz.2 (gf_w F hini) (gf_w F hl) hdd.2 hR, gf_w F hi, gf_w F hse⟩ ⟨gP_blind, va_recv F.2.1 h2 hcl he, gP_pre F h2 h3⟩ rfl hn h1.1 hst (lv_room hW) hd hf) (by rw [hst']; exact k)
theorem f_callVN (F : gf p s m args meth c nL D cl A cc (t0 :: tb) own tys) {y : MethodName} {bytes : ByteArray} {maxL n index : Nat} {host : String} {ret : Option FieldType} {rm : Room} {As rest : List Value} {rv : Option Value} {C : vw_C} {ci b q0 : Nat} {fs : List Value} (hM : gN l y (Cond.code y bytes maxL ret :: tb) rm D cl tys (.ref b :: As) ws rv ws') (he : ws[q0]? = some (b, .inr (ci, fs))) (hcl : cl[ci]? = some C) (hcode : Cond.code y bytes maxL ret ∈ tb) (hl : Cond.methodLinkNest own index y host ∈ nb) (hi : Cond.instanceMethod y ∈ tb) (hse : Cond.selects C.1 y y ∈ tb) (hini : Cond.initialized y.cls ∈ tb) (hdd : y.cls ≠ "java/lang/invoke/MethodHandle" ∧ y.cls ≠ "java/lang/invoke/VarHandle" ∧ (parseMethodDescriptor y.desc).map (fun d => d.parameters.length) = some n) (hz : rm.cells = 0 ∧ rm.slots = 0) (hR : rm.frames + 1 ≤ R.frames ∧ 8 + (maxL + 11) + rm.locals ≤ R.locals) (hadr : ws'.map Prod.fst = ws.map Prod.fst) (hn : As.length = n) (hst : st = As.reverse ++ .ref b :: rest) (hW : (rest.map fun v => v.category).sum ≤ 8) (hf : cells ≤ R.cells ∧ slots ≤ R.slots) (hd : decode cc pc = .ok (.invokevirtual index, 3)) {st' : List Value} (hst' : rv.toList ++ rest = st')
    (k : gw p l e R s m args below meth c nL D cl A Q cells slots (pc + 3) L st' ws') : gw p l e R s m args below meth c nL D cl A Q cells slots pc L st ws :=
  g_callA F (av := .ref b :: As) hadr (fun ls H locs h1 h2 h3 => va_runVN F.1 (hM H.size) ⟨va_cnB n F.1.2.2.2.2 (tb_in hcode) rfl hz.1 hz.2 (F.2.2.2 _ hl) (gf_w F hini) hdd hR, gf_w F hi, gf_w F hse⟩ ⟨gP_blind, va_recv F.2.1 h2 hcl he, gP_pre F h2 h3⟩ rfl hn h1.1 hst (lv_room hW) hd hf) (by rw [hst']; exact k)
theorem f_callSN (F : gf p s m args meth c nL D cl A cc (t0 :: tb) own tys) {y : MethodName} {bytes : ByteArray} {maxL n index : Nat} {host : String} {ret : Option FieldType} {rm : Room} {av rest : List Value} {rv : Option Value} (hM : gN l y (Cond.code y bytes maxL ret :: tb) rm D cl tys av ws rv ws') (hcode : Cond.code y bytes maxL ret ∈ tb) (hl : Cond.methodLinkNest own index y host ∈ nb) (hst0 : Cond.static y ∈ tb) (hini : Cond.initialized y.cls ∈ tb) (hdd : y.cls ≠ "java/lang/invoke/MethodHandle" ∧ y.cls ≠ "java/lang/invoke/VarHandle" ∧ (parseMethodDescriptor y.desc).map (fun d => d.parameters.length) = some n) (hz : rm.cells = 0 ∧ rm.slots = 0) (hR : rm.frames + 1 ≤ R.frames ∧ 8 + (maxL + 11) + rm.locals ≤ R.locals) (hadr : ws'.map Prod.fst = ws.map Prod.fst) (hn : av.length = n) (hst : st = av.reverse ++ rest) (hW : (rest.map fun v => v.category).sum ≤ 8) (hf : cells ≤ R.cells ∧ slots ≤ R.slots) (hd : decode cc pc = .ok (.invokestatic index, 3)) {st' : List Value} (hst' : rv.toList ++ rest = st')
    (k : gw p l e R s m args below meth c nL D cl A Q cells slots (pc + 3) L st' ws') : gw p l e R s m args below meth c nL D cl A Q cells slots pc L st ws :=
  g_callA F (av := av) hadr (fun ls H locs h1 h2 h3 => va_runSN F.1 (hM H.size) ⟨va_cnB n F.1.2.2.2.2 (tb_in hcode) rfl hz.1 hz.2 (F.2.2.2 _ hl) (gf_w F hini) hdd hR, gf_w F hst0, trivial⟩ ⟨gP_blind, gP_pre F h2 h3⟩ rfl hn h1.1 hst (lv_room hW) hd hf) (by rw [hst']; exact k)
end GN2
