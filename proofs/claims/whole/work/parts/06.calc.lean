/-! A calculus over the kit's rows in which heap, locals array and written locations are hidden.
    gw: from every heap that holds the world ws, with locals that hold L, the machine at pc with stack st comes to Q. -/
-- the nest's words: they hold at a state, whoever asks
def NW (U : State) : Prop := ∀ w ∈ nb, va_Nw w U
def isNest : Cond → Bool
  | .fieldLinkNest .. => true
  | .methodLinkNest .. => true
  | .arrayOver (.object _) => true
  | _ => false
theorem nb_nest : nb.all isNest = true := by decide +kernel
theorem nest_kind {w : Cond} (h : isNest w = true) : (∃ a i b n d h, w = .fieldLinkNest a i b n d h) ∨ (∃ a i x h, w = .methodLinkNest a i x h) ∨ ∃ C, w = .arrayOver (.object C) := by
  unfold isNest at h
  split at h
  · exact Or.inl ⟨_, _, _, _, _, _, rfl⟩
  · exact Or.inr (Or.inl ⟨_, _, _, _, rfl⟩)
  · exact Or.inr (Or.inr ⟨_, rfl⟩)
  · cases h
theorem NW.warm {s U : State} (hW : s.WarmedH U.vm) (h : NW s) : NW U := by
  intro w hw
  have h0 := h w hw
  rcases nest_kind (List.all_eq_true.mp nb_nest w hw) with ⟨a, i, b, n, d, q, rfl⟩ | ⟨a, i, x, q, rfl⟩ | ⟨C, rfl⟩
  · exact va_Nw.warmF hW h0
  · exact va_Nw.warmM hW h0
  · exact va_AO.moved hW.alike h0
theorem NW.same {s U : State} (hv : s.vm = U.vm) (h : NW s) : NW U := by
  intro w hw
  have h0 := h w hw
  rcases nest_kind (List.all_eq_true.mp nb_nest w hw) with ⟨a, i, b, n, d, q, rfl⟩ | ⟨a, i, x, q, rfl⟩ | ⟨C, rfl⟩
  · exact va_Nw.same rfl hv h0
  · exact va_Nw.same rfl hv h0
  · exact va_AO.moved (by rw [hv]; exact Vm.Alike.refl _) h0
theorem NW.use {s : State} {args : Array Value} {w : Cond} (h : NW s) (hw : w ∈ nb) : w.before args s = true := by
  have h0 := h w hw
  rcases nest_kind (List.all_eq_true.mp nb_nest w hw) with ⟨a, i, b, n, d, q, rfl⟩ | ⟨a, i, x, q, rfl⟩ | ⟨C, rfl⟩
  · exact va_Nw.use rfl h0
  · exact va_Nw.use rfl h0
  · exact va_AO.use h0
section GC
variable {p : Program} {l : Launch} {e : Env} {R : Room} {s : State} {m : MethodId} {args : Array Value} {below : List Frame} {meth : Method} {c : Code}
variable {nL : Nat} {D : va_G} {cl : List vw_C} {A : Nat → Prop} {Q : State → Prop} {cells slots pc : Nat} {L L' : List (Nat × Value)} {st : List Value} {ws ws' : va_W}
variable {cc : ByteArray} {Ts : List Cond} {own : String} {tys : List (ClassId × FieldType)} {a : Nat}
def gw (p : Program) (l : Launch) (e : Env) (R : Room) (s : State) (m : MethodId) (args : Array Value) (below : List Frame) (meth : Method) (c : Code) (nL : Nat) (D : va_G) (cl : List vw_C) (A : Nat → Prop) (Q : State → Prop) (cells slots pc : Nat) (L : List (Nat × Value)) (st : List Value) (ws : va_W) : Prop :=
  ∀ (ls : Array Slot) (H : Heap) (locs : List Loc), lv_has ls nL L → va_P D cl ws H → va_D A ws → va_S A s.heap H locs → W p l e R s m args below meth c H locs cells slots Q (F0 m pc ls st)
def gf (p : Program) (s : State) (m : MethodId) (args : Array Value) (meth : Method) (c : Code) (nL : Nat) (D : va_G) (cl : List vw_C) (A : Nat → Prop) (cc : ByteArray) (Ts : List Cond) (own : String) (tys : List (ClassId × FieldType)) : Prop :=
  CallFix p m c cc nL s args Ts own ∧ va_K D cl tys s ∧ (∀ q, s.heap.size ≤ q → A q) ∧ NW s
-- a state that is the same by computation
theorem g_eq {pc' : Nat} (h1 : pc = pc') (h2 : L = L') {st' : List Value} (h3 : st = st') (h4 : ws = ws') (k : gw p l e R s m args below meth c nL D cl A Q cells slots pc' L' st' ws') : gw p l e R s m args below meth c nL D cl A Q cells slots pc L st ws := by
  subst h1; subst h2; subst h3; subst h4; exact k
theorem g_world (h4 : ws = ws') (k : gw p l e R s m args below meth c nL D cl A Q cells slots pc L st ws') : gw p l e R s m args below meth c nL D cl A Q cells slots pc L st ws := by
  subst h4; exact k
-- constants
theorem g_iconst (F : gf p s m args meth c nL D cl A cc Ts own tys) {n : Int} {v : Int32} (hd : decode cc pc = .ok (.iconst n, 1)) (hv : Int32.ofInt n = v)
    (k : gw p l e R s m args below meth c nL D cl A Q cells slots (pc + 1) L (.int v :: st) ws) : gw p l e R s m args below meth c nL D cl A Q cells slots pc L st ws :=
  fun ls H locs h1 h2 h3 h4 => lv_iconst F.1.1 F.1.2.1 hd hv (k ls H locs h1 h2 h3 h4)
theorem g_bipush (F : gf p s m args meth c nL D cl A cc Ts own tys) {n : Int} {v : Int32} (hd : decode cc pc = .ok (.bipush n, 2)) (hv : (Int8.ofInt n).toInt32 = v)
    (k : gw p l e R s m args below meth c nL D cl A Q cells slots (pc + 2) L (.int v :: st) ws) : gw p l e R s m args below meth c nL D cl A Q cells slots pc L st ws :=
  fun ls H locs h1 h2 h3 h4 => lv_bipush F.1.1 F.1.2.1 hd hv (k ls H locs h1 h2 h3 h4)
theorem g_sipush (F : gf p s m args meth c nL D cl A cc Ts own tys) {n : Int} {v : Int32} (hd : decode cc pc = .ok (.sipush n, 3)) (hv : (Int16.ofInt n).toInt32 = v)
    (k : gw p l e R s m args below meth c nL D cl A Q cells slots (pc + 3) L (.int v :: st) ws) : gw p l e R s m args below meth c nL D cl A Q cells slots pc L st ws :=
  fun ls H locs h1 h2 h3 h4 => lv_sipush F.1.1 F.1.2.1 hd hv (k ls H locs h1 h2 h3 h4)
-- locals: j is the place in L
theorem g_iload_n (F : gf p s m args meth c nL D cl A cc Ts own tys) {i : Fin 4} {x : Int32} (hd : decode cc pc = .ok (.iload_n i, 1)) (j : Nat) (hj : L[j]? = some ((i : Nat), .int x))
    (k : gw p l e R s m args below meth c nL D cl A Q cells slots (pc + 1) L (.int x :: st) ws) : gw p l e R s m args below meth c nL D cl A Q cells slots pc L st ws :=
  fun ls H locs h1 h2 h3 h4 => lv_iload_n F.1.1 F.1.2.1 hd rfl (lv_at h1 j hj) (k ls H locs h1 h2 h3 h4)
theorem g_iload (F : gf p s m args meth c nL D cl A cc Ts own tys) {i : Nat} {x : Int32} (hd : decode cc pc = .ok (.iload i, 2)) (j : Nat) (hj : L[j]? = some (i, .int x))
    (k : gw p l e R s m args below meth c nL D cl A Q cells slots (pc + 2) L (.int x :: st) ws) : gw p l e R s m args below meth c nL D cl A Q cells slots pc L st ws :=
  fun ls H locs h1 h2 h3 h4 => lv_iload F.1.1 F.1.2.1 hd (lv_at h1 j hj) (k ls H locs h1 h2 h3 h4)
theorem g_aload_n (F : gf p s m args meth c nL D cl A cc Ts own tys) {i : Fin 4} {x : Nat} (hd : decode cc pc = .ok (.aload_n i, 1)) (j : Nat) (hj : L[j]? = some ((i : Nat), .ref x))
    (k : gw p l e R s m args below meth c nL D cl A Q cells slots (pc + 1) L (.ref x :: st) ws) : gw p l e R s m args below meth c nL D cl A Q cells slots pc L st ws :=
  fun ls H locs h1 h2 h3 h4 => lv_aload_n F.1.1 F.1.2.1 hd rfl (lv_at h1 j hj) (k ls H locs h1 h2 h3 h4)
theorem g_aload (F : gf p s m args meth c nL D cl A cc Ts own tys) {i : Nat} {x : Nat} (hd : decode cc pc = .ok (.aload i, 2)) (j : Nat) (hj : L[j]? = some (i, .ref x))
    (k : gw p l e R s m args below meth c nL D cl A Q cells slots (pc + 2) L (.ref x :: st) ws) : gw p l e R s m args below meth c nL D cl A Q cells slots pc L st ws :=
  fun ls H locs h1 h2 h3 h4 => lv_aload F.1.1 F.1.2.1 hd (lv_at h1 j hj) (k ls H locs h1 h2 h3 h4)
theorem g_istore_n (F : gf p s m args meth c nL D cl A cc Ts own tys) {i : Fin 4} {x : Int32} (L' : List (Nat × Value)) (hd : decode cc pc = .ok (.istore_n i, 1)) (hn : (i : Nat) < nL) (hl : ((i : Nat), Value.int x) :: L.filter (fun q => !(q.1 == (i : Nat)) && !(q.1 + 1 == (i : Nat) && q.2.category == 2)) = L')
    (k : gw p l e R s m args below meth c nL D cl A Q cells slots (pc + 1) L' st ws) : gw p l e R s m args below meth c nL D cl A Q cells slots pc L (.int x :: st) ws :=
  fun ls H locs h1 h2 h3 h4 => lv_istore_n F.1.1 F.1.2.1 hd rfl h1 hn hl (fun ls' h' => k ls' H locs h' h2 h3 h4)
theorem g_istore (F : gf p s m args meth c nL D cl A cc Ts own tys) {i : Nat} {x : Int32} (L' : List (Nat × Value)) (hd : decode cc pc = .ok (.istore i, 2)) (hn : i < nL) (hl : (i, Value.int x) :: L.filter (fun q => !(q.1 == i) && !(q.1 + 1 == i && q.2.category == 2)) = L')
    (k : gw p l e R s m args below meth c nL D cl A Q cells slots (pc + 2) L' st ws) : gw p l e R s m args below meth c nL D cl A Q cells slots pc L (.int x :: st) ws :=
  fun ls H locs h1 h2 h3 h4 => lv_istore F.1.1 F.1.2.1 hd h1 hn hl (fun ls' h' => k ls' H locs h' h2 h3 h4)
theorem g_astore_n (F : gf p s m args meth c nL D cl A cc Ts own tys) {i : Fin 4} {x : Nat} (L' : List (Nat × Value)) (hd : decode cc pc = .ok (.astore_n i, 1)) (hn : (i : Nat) < nL) (hl : ((i : Nat), Value.ref x) :: L.filter (fun q => !(q.1 == (i : Nat)) && !(q.1 + 1 == (i : Nat) && q.2.category == 2)) = L')
    (k : gw p l e R s m args below meth c nL D cl A Q cells slots (pc + 1) L' st ws) : gw p l e R s m args below meth c nL D cl A Q cells slots pc L (.ref x :: st) ws :=
  fun ls H locs h1 h2 h3 h4 => lv_astore_n F.1.1 F.1.2.1 hd rfl h1 hn hl (fun ls' h' => k ls' H locs h' h2 h3 h4)
theorem g_astore (F : gf p s m args meth c nL D cl A cc Ts own tys) {i : Nat} {x : Nat} (L' : List (Nat × Value)) (hd : decode cc pc = .ok (.astore i, 2)) (hn : i < nL) (hl : (i, Value.ref x) :: L.filter (fun q => !(q.1 == i) && !(q.1 + 1 == i && q.2.category == 2)) = L')
    (k : gw p l e R s m args below meth c nL D cl A Q cells slots (pc + 2) L' st ws) : gw p l e R s m args below meth c nL D cl A Q cells slots pc L (.ref x :: st) ws :=
  fun ls H locs h1 h2 h3 h4 => lv_astore F.1.1 F.1.2.1 hd h1 hn hl (fun ls' h' => k ls' H locs h' h2 h3 h4)
theorem g_iinc (F : gf p s m args meth c nL D cl A cc Ts own tys) {i : Nat} {n : Int} {x v : Int32} (L' : List (Nat × Value)) (hd : decode cc pc = .ok (.iinc i n, 3)) (j : Nat) (hj : L[j]? = some (i, .int x)) (hv : x + Int32.ofInt n = v) (hn : i < nL) (hl : (i, Value.int v) :: L.filter (fun q => !(q.1 == i) && !(q.1 + 1 == i && q.2.category == 2)) = L')
    (k : gw p l e R s m args below meth c nL D cl A Q cells slots (pc + 3) L' st ws) : gw p l e R s m args below meth c nL D cl A Q cells slots pc L st ws :=
  fun ls H locs h1 h2 h3 h4 => lv_iinc F.1.1 F.1.2.1 hd h1 hj hv hn hl (fun ls' h' => k ls' H locs h' h2 h3 h4)
-- locals whose order or number is changed (a join, a loop's head)
theorem g_locals (L' : List (Nat × Value)) (ks : List Nat) (hl : lv_pick L ks = L') (k : gw p l e R s m args below meth c nL D cl A Q cells slots pc L' st ws) : gw p l e R s m args below meth c nL D cl A Q cells slots pc L st ws :=
  fun ls H locs h1 h2 h3 h4 => k ls H locs (lv_sub h1 ks hl) h2 h3 h4
-- arithmetic
theorem g_iadd (F : gf p s m args meth c nL D cl A cc Ts own tys) {x y : Int32} (hd : decode cc pc = .ok (.iadd, 1))
    (k : gw p l e R s m args below meth c nL D cl A Q cells slots (pc + 1) L (.int (x + y) :: st) ws) : gw p l e R s m args below meth c nL D cl A Q cells slots pc L (.int y :: .int x :: st) ws :=
  fun ls H locs h1 h2 h3 h4 => lv_iadd F.1.1 F.1.2.1 hd (k ls H locs h1 h2 h3 h4)
theorem g_isub (F : gf p s m args meth c nL D cl A cc Ts own tys) {x y : Int32} (hd : decode cc pc = .ok (.isub, 1))
    (k : gw p l e R s m args below meth c nL D cl A Q cells slots (pc + 1) L (.int (x - y) :: st) ws) : gw p l e R s m args below meth c nL D cl A Q cells slots pc L (.int y :: .int x :: st) ws :=
  fun ls H locs h1 h2 h3 h4 => lv_isub F.1.1 F.1.2.1 hd (k ls H locs h1 h2 h3 h4)
theorem g_imul (F : gf p s m args meth c nL D cl A cc Ts own tys) {x y : Int32} (hd : decode cc pc = .ok (.imul, 1))
    (k : gw p l e R s m args below meth c nL D cl A Q cells slots (pc + 1) L (.int (x * y) :: st) ws) : gw p l e R s m args below meth c nL D cl A Q cells slots pc L (.int y :: .int x :: st) ws :=
  fun ls H locs h1 h2 h3 h4 => lv_imul F.1.1 F.1.2.1 hd (k ls H locs h1 h2 h3 h4)
theorem g_iand (F : gf p s m args meth c nL D cl A cc Ts own tys) {x y : Int32} (hd : decode cc pc = .ok (.iand, 1))
    (k : gw p l e R s m args below meth c nL D cl A Q cells slots (pc + 1) L (.int (x &&& y) :: st) ws) : gw p l e R s m args below meth c nL D cl A Q cells slots pc L (.int y :: .int x :: st) ws :=
  fun ls H locs h1 h2 h3 h4 => lv_iand F.1.1 F.1.2.1 hd (k ls H locs h1 h2 h3 h4)
theorem g_ior (F : gf p s m args meth c nL D cl A cc Ts own tys) {x y : Int32} (hd : decode cc pc = .ok (.ior, 1))
    (k : gw p l e R s m args below meth c nL D cl A Q cells slots (pc + 1) L (.int (x ||| y) :: st) ws) : gw p l e R s m args below meth c nL D cl A Q cells slots pc L (.int y :: .int x :: st) ws :=
  fun ls H locs h1 h2 h3 h4 => lv_ior F.1.1 F.1.2.1 hd (k ls H locs h1 h2 h3 h4)
theorem g_ixor (F : gf p s m args meth c nL D cl A cc Ts own tys) {x y : Int32} (hd : decode cc pc = .ok (.ixor, 1))
    (k : gw p l e R s m args below meth c nL D cl A Q cells slots (pc + 1) L (.int (x ^^^ y) :: st) ws) : gw p l e R s m args below meth c nL D cl A Q cells slots pc L (.int y :: .int x :: st) ws :=
  fun ls H locs h1 h2 h3 h4 => lv_ixor F.1.1 F.1.2.1 hd (k ls H locs h1 h2 h3 h4)
theorem g_ishl (F : gf p s m args meth c nL D cl A cc Ts own tys) {x y : Int32} (hd : decode cc pc = .ok (.ishl, 1))
    (k : gw p l e R s m args below meth c nL D cl A Q cells slots (pc + 1) L (.int (x <<< (y &&& 31)) :: st) ws) : gw p l e R s m args below meth c nL D cl A Q cells slots pc L (.int y :: .int x :: st) ws :=
  fun ls H locs h1 h2 h3 h4 => lv_ishl F.1.1 F.1.2.1 hd (k ls H locs h1 h2 h3 h4)
theorem g_idiv (F : gf p s m args meth c nL D cl A cc Ts own tys) {x y : Int32} (hd : decode cc pc = .ok (.idiv, 1)) (hne : ¬ y = 0)
    (k : gw p l e R s m args below meth c nL D cl A Q cells slots (pc + 1) L (.int (x / y) :: st) ws) : gw p l e R s m args below meth c nL D cl A Q cells slots pc L (.int y :: .int x :: st) ws :=
  fun ls H locs h1 h2 h3 h4 => lv_idiv F.1.1 F.1.2.1 hd hne (k ls H locs h1 h2 h3 h4)
theorem g_irem (F : gf p s m args meth c nL D cl A cc Ts own tys) {x y : Int32} (hd : decode cc pc = .ok (.irem, 1)) (hne : ¬ y = 0)
    (k : gw p l e R s m args below meth c nL D cl A Q cells slots (pc + 1) L (.int (x - x / y * y) :: st) ws) : gw p l e R s m args below meth c nL D cl A Q cells slots pc L (.int y :: .int x :: st) ws :=
  fun ls H locs h1 h2 h3 h4 => lv_irem F.1.1 F.1.2.1 hd hne (k ls H locs h1 h2 h3 h4)
-- stack
theorem g_dup (F : gf p s m args meth c nL D cl A cc Ts own tys) {v : Value} (hd : decode cc pc = .ok (.dup, 1)) (hv : v.category = 1)
    (k : gw p l e R s m args below meth c nL D cl A Q cells slots (pc + 1) L (v :: v :: st) ws) : gw p l e R s m args below meth c nL D cl A Q cells slots pc L (v :: st) ws :=
  fun ls H locs h1 h2 h3 h4 => lv_dup F.1.1 F.1.2.1 hd hv (k ls H locs h1 h2 h3 h4)
theorem g_pop (F : gf p s m args meth c nL D cl A cc Ts own tys) {v : Value} (hd : decode cc pc = .ok (.pop, 1)) (hv : v.category = 1)
    (k : gw p l e R s m args below meth c nL D cl A Q cells slots (pc + 1) L st ws) : gw p l e R s m args below meth c nL D cl A Q cells slots pc L (v :: st) ws :=
  fun ls H locs h1 h2 h3 h4 => lv_pop F.1.1 F.1.2.1 hd hv (k ls H locs h1 h2 h3 h4)
-- a computed number gets a name
theorem g_topi {x : Int32} (k : ∀ y : Int32, y = x → gw p l e R s m args below meth c nL D cl A Q cells slots pc L (.int y :: st) ws) : gw p l e R s m args below meth c nL D cl A Q cells slots pc L (.int x :: st) ws := k x rfl
-- jumps
theorem g_goto (F : gf p s m args meth c nL D cl A cc Ts own tys) {off : Int} {tgt : Nat} (hd : decode cc pc = .ok (.goto off, 3)) (ht : (pc : Int) + off = (tgt : Int))
    (k : gw p l e R s m args below meth c nL D cl A Q cells slots tgt L st ws) : gw p l e R s m args below meth c nL D cl A Q cells slots pc L st ws :=
  fun ls H locs h1 h2 h3 h4 => lv_goto F.1.1 F.1.2.1 hd ht (k ls H locs h1 h2 h3 h4)
theorem g_if_eq (F : gf p s m args meth c nL D cl A cc Ts own tys) {x : Int32} {off : Int} {tgt : Nat} (hd : decode cc pc = .ok (.ifCond .eq off, 3)) (ht : (pc : Int) + off = (tgt : Int))
    (kt : x = 0 → gw p l e R s m args below meth c nL D cl A Q cells slots tgt L st ws) (kf : ¬ x = 0 → gw p l e R s m args below meth c nL D cl A Q cells slots (pc + 3) L st ws) : gw p l e R s m args below meth c nL D cl A Q cells slots pc L (.int x :: st) ws :=
  fun ls H locs h1 h2 h3 h4 => lv_if_eq F.1.1 F.1.2.1 hd ht (fun h => kt h ls H locs h1 h2 h3 h4) (fun h => kf h ls H locs h1 h2 h3 h4)
theorem g_if_ne (F : gf p s m args meth c nL D cl A cc Ts own tys) {x : Int32} {off : Int} {tgt : Nat} (hd : decode cc pc = .ok (.ifCond .ne off, 3)) (ht : (pc : Int) + off = (tgt : Int))
    (kt : ¬ x = 0 → gw p l e R s m args below meth c nL D cl A Q cells slots tgt L st ws) (kf : x = 0 → gw p l e R s m args below meth c nL D cl A Q cells slots (pc + 3) L st ws) : gw p l e R s m args below meth c nL D cl A Q cells slots pc L (.int x :: st) ws :=
  fun ls H locs h1 h2 h3 h4 => lv_if_ne F.1.1 F.1.2.1 hd ht (fun h => kt h ls H locs h1 h2 h3 h4) (fun h => kf h ls H locs h1 h2 h3 h4)
theorem g_if_lt (F : gf p s m args meth c nL D cl A cc Ts own tys) {x : Int32} {off : Int} {tgt : Nat} (hd : decode cc pc = .ok (.ifCond .lt off, 3)) (ht : (pc : Int) + off = (tgt : Int))
    (kt : x < 0 → gw p l e R s m args below meth c nL D cl A Q cells slots tgt L st ws) (kf : ¬ x < 0 → gw p l e R s m args below meth c nL D cl A Q cells slots (pc + 3) L st ws) : gw p l e R s m args below meth c nL D cl A Q cells slots pc L (.int x :: st) ws :=
  fun ls H locs h1 h2 h3 h4 => lv_if_lt F.1.1 F.1.2.1 hd ht (fun h => kt h ls H locs h1 h2 h3 h4) (fun h => kf h ls H locs h1 h2 h3 h4)
theorem g_if_ge (F : gf p s m args meth c nL D cl A cc Ts own tys) {x : Int32} {off : Int} {tgt : Nat} (hd : decode cc pc = .ok (.ifCond .ge off, 3)) (ht : (pc : Int) + off = (tgt : Int))
    (kt : 0 ≤ x → gw p l e R s m args below meth c nL D cl A Q cells slots tgt L st ws) (kf : ¬ 0 ≤ x → gw p l e R s m args below meth c nL D cl A Q cells slots (pc + 3) L st ws) : gw p l e R s m args below meth c nL D cl A Q cells slots pc L (.int x :: st) ws :=
  fun ls H locs h1 h2 h3 h4 => lv_if_ge F.1.1 F.1.2.1 hd ht (fun h => kt h ls H locs h1 h2 h3 h4) (fun h => kf h ls H locs h1 h2 h3 h4)
theorem g_if_gt (F : gf p s m args meth c nL D cl A cc Ts own tys) {x : Int32} {off : Int} {tgt : Nat} (hd : decode cc pc = .ok (.ifCond .gt off, 3)) (ht : (pc : Int) + off = (tgt : Int))
    (kt : 0 < x → gw p l e R s m args below meth c nL D cl A Q cells slots tgt L st ws) (kf : ¬ 0 < x → gw p l e R s m args below meth c nL D cl A Q cells slots (pc + 3) L st ws) : gw p l e R s m args below meth c nL D cl A Q cells slots pc L (.int x :: st) ws :=
  fun ls H locs h1 h2 h3 h4 => lv_if_gt F.1.1 F.1.2.1 hd ht (fun h => kt h ls H locs h1 h2 h3 h4) (fun h => kf h ls H locs h1 h2 h3 h4)
theorem g_if_le (F : gf p s m args meth c nL D cl A cc Ts own tys) {x : Int32} {off : Int} {tgt : Nat} (hd : decode cc pc = .ok (.ifCond .le off, 3)) (ht : (pc : Int) + off = (tgt : Int))
    (kt : x ≤ 0 → gw p l e R s m args below meth c nL D cl A Q cells slots tgt L st ws) (kf : ¬ x ≤ 0 → gw p l e R s m args below meth c nL D cl A Q cells slots (pc + 3) L st ws) : gw p l e R s m args below meth c nL D cl A Q cells slots pc L (.int x :: st) ws :=
  fun ls H locs h1 h2 h3 h4 => lv_if_le F.1.1 F.1.2.1 hd ht (fun h => kt h ls H locs h1 h2 h3 h4) (fun h => kf h ls H locs h1 h2 h3 h4)
theorem g_icmp_eq (F : gf p s m args meth c nL D cl A cc Ts own tys) {x y : Int32} {off : Int} {tgt : Nat} (hd : decode cc pc = .ok (.if_icmp .eq off, 3)) (ht : (pc : Int) + off = (tgt : Int))
    (kt : x = y → gw p l e R s m args below meth c nL D cl A Q cells slots tgt L st ws) (kf : ¬ x = y → gw p l e R s m args below meth c nL D cl A Q cells slots (pc + 3) L st ws) : gw p l e R s m args below meth c nL D cl A Q cells slots pc L (.int y :: .int x :: st) ws :=
  fun ls H locs h1 h2 h3 h4 => lv_icmp_eq F.1.1 F.1.2.1 hd ht (fun h => kt h ls H locs h1 h2 h3 h4) (fun h => kf h ls H locs h1 h2 h3 h4)
theorem g_icmp_ne (F : gf p s m args meth c nL D cl A cc Ts own tys) {x y : Int32} {off : Int} {tgt : Nat} (hd : decode cc pc = .ok (.if_icmp .ne off, 3)) (ht : (pc : Int) + off = (tgt : Int))
    (kt : ¬ x = y → gw p l e R s m args below meth c nL D cl A Q cells slots tgt L st ws) (kf : x = y → gw p l e R s m args below meth c nL D cl A Q cells slots (pc + 3) L st ws) : gw p l e R s m args below meth c nL D cl A Q cells slots pc L (.int y :: .int x :: st) ws :=
  fun ls H locs h1 h2 h3 h4 => lv_icmp_ne F.1.1 F.1.2.1 hd ht (fun h => kt h ls H locs h1 h2 h3 h4) (fun h => kf h ls H locs h1 h2 h3 h4)
theorem g_icmp_lt (F : gf p s m args meth c nL D cl A cc Ts own tys) {x y : Int32} {off : Int} {tgt : Nat} (hd : decode cc pc = .ok (.if_icmp .lt off, 3)) (ht : (pc : Int) + off = (tgt : Int))
    (kt : x < y → gw p l e R s m args below meth c nL D cl A Q cells slots tgt L st ws) (kf : ¬ x < y → gw p l e R s m args below meth c nL D cl A Q cells slots (pc + 3) L st ws) : gw p l e R s m args below meth c nL D cl A Q cells slots pc L (.int y :: .int x :: st) ws :=
  fun ls H locs h1 h2 h3 h4 => lv_icmp_lt F.1.1 F.1.2.1 hd ht (fun h => kt h ls H locs h1 h2 h3 h4) (fun h => kf h ls H locs h1 h2 h3 h4)
theorem g_icmp_ge (F : gf p s m args meth c nL D cl A cc Ts own tys) {x y : Int32} {off : Int} {tgt : Nat} (hd : decode cc pc = .ok (.if_icmp .ge off, 3)) (ht : (pc : Int) + off = (tgt : Int))
    (kt : y ≤ x → gw p l e R s m args below meth c nL D cl A Q cells slots tgt L st ws) (kf : ¬ y ≤ x → gw p l e R s m args below meth c nL D cl A Q cells slots (pc + 3) L st ws) : gw p l e R s m args below meth c nL D cl A Q cells slots pc L (.int y :: .int x :: st) ws :=
  fun ls H locs h1 h2 h3 h4 => lv_icmp_ge F.1.1 F.1.2.1 hd ht (fun h => kt h ls H locs h1 h2 h3 h4) (fun h => kf h ls H locs h1 h2 h3 h4)
theorem g_icmp_gt (F : gf p s m args meth c nL D cl A cc Ts own tys) {x y : Int32} {off : Int} {tgt : Nat} (hd : decode cc pc = .ok (.if_icmp .gt off, 3)) (ht : (pc : Int) + off = (tgt : Int))
    (kt : y < x → gw p l e R s m args below meth c nL D cl A Q cells slots tgt L st ws) (kf : ¬ y < x → gw p l e R s m args below meth c nL D cl A Q cells slots (pc + 3) L st ws) : gw p l e R s m args below meth c nL D cl A Q cells slots pc L (.int y :: .int x :: st) ws :=
  fun ls H locs h1 h2 h3 h4 => lv_icmp_gt F.1.1 F.1.2.1 hd ht (fun h => kt h ls H locs h1 h2 h3 h4) (fun h => kf h ls H locs h1 h2 h3 h4)
theorem g_icmp_le (F : gf p s m args meth c nL D cl A cc Ts own tys) {x y : Int32} {off : Int} {tgt : Nat} (hd : decode cc pc = .ok (.if_icmp .le off, 3)) (ht : (pc : Int) + off = (tgt : Int))
    (kt : x ≤ y → gw p l e R s m args below meth c nL D cl A Q cells slots tgt L st ws) (kf : ¬ x ≤ y → gw p l e R s m args below meth c nL D cl A Q cells slots (pc + 3) L st ws) : gw p l e R s m args below meth c nL D cl A Q cells slots pc L (.int y :: .int x :: st) ws :=
  fun ls H locs h1 h2 h3 h4 => lv_icmp_le F.1.1 F.1.2.1 hd ht (fun h => kt h ls H locs h1 h2 h3 h4) (fun h => kf h ls H locs h1 h2 h3 h4)
theorem g_tableOut (F : gf p s m args meth c nL D cl A cc Ts own tys) {dflt lo hi : Int} {offs : Array Int} {len : Nat} {x : Int32} {tgt : Nat} (hd : decode cc pc = .ok (.tableswitch dflt lo hi offs, len)) (h : x.toInt < lo ∨ hi < x.toInt) (ht : (pc : Int) + dflt = (tgt : Int))
    (k : gw p l e R s m args below meth c nL D cl A Q cells slots tgt L st ws) : gw p l e R s m args below meth c nL D cl A Q cells slots pc L (.int x :: st) ws :=
  fun ls H locs h1 h2 h3 h4 => lv_tableOut F.1.1 F.1.2.1 hd h ht (k ls H locs h1 h2 h3 h4)
theorem g_tableIn (F : gf p s m args meth c nL D cl A cc Ts own tys) {dflt lo hi : Int} {offs : Array Int} {len : Nat} {x : Int32} {off : Int} {tgt : Nat} (hd : decode cc pc = .ok (.tableswitch dflt lo hi offs, len)) (g1 : ¬ x.toInt < lo) (g2 : ¬ hi < x.toInt) (ho : offs[(x.toInt - lo).toNat]? = some off) (ht : (pc : Int) + off = (tgt : Int))
    (k : gw p l e R s m args below meth c nL D cl A Q cells slots tgt L st ws) : gw p l e R s m args below meth c nL D cl A Q cells slots pc L (.int x :: st) ws :=
  fun ls H locs h1 h2 h3 h4 => lv_tableIn F.1.1 F.1.2.1 hd g1 g2 ho ht (k ls H locs h1 h2 h3 h4)
theorem g_dup2 (F : gf p s m args meth c nL D cl A cc Ts own tys) {v w : Value} (hd : decode cc pc = .ok (.dup2, 1)) (hv : v.category = 1) (hw : w.category = 1)
    (k : gw p l e R s m args below meth c nL D cl A Q cells slots (pc + 1) L (v :: w :: v :: w :: st) ws) : gw p l e R s m args below meth c nL D cl A Q cells slots pc L (v :: w :: st) ws :=
  fun ls H locs h1 h2 h3 h4 => lv_dup2_11 F.1.1 F.1.2.1 hd hv hw (k ls H locs h1 h2 h3 h4)
theorem g_get (F : gf p s m args meth c nL D cl A cc Ts own tys) {ref C : String} {T : u_T} {N ci index : Nat} (hin : ∀ w ∈ u_ws C T N, w ∈ Ts) (q0 : Nat) {fs : List Value} (he : ws[q0]? = some (a, .inr (ci, fs))) (hc : cl[ci]? = some (C, T, N)) (j : Nat) (hj : j < N) (hlink : (Cond.fieldLink own index ref (T j).2.1 (T j).2.2.1).before args s = true) (hsame : ∀ x, s.fieldFound? (T j).1 (T j).2.1 (T j).2.2.1 = some x → s.fieldFound? ref (T j).2.1 (T j).2.2.1 = some x) {v : Value} (hv : fs[j]? = some v) (hd : decode cc pc = .ok (.getfield index, 3))
    (k : gw p l e R s m args below meth c nL D cl A Q cells slots (pc + 3) L (v :: st) ws) : gw p l e R s m args below meth c nL D cl A Q cells slots pc L (.ref a :: st) ws :=
  fun ls H locs h1 h2 h3 h4 => va_get F.1.1 F.1.2.1 F.1.2.2.2.2 hin F.1.2.2.2.1 F.2.1 h2 q0 he hc j hj hlink hsame hv hd (k ls H locs h1 h2 h3 h4)
theorem g_getN (F : gf p s m args meth c nL D cl A cc Ts own tys) {ref C : String} {T : u_T} {N ci index : Nat} (hin : ∀ w ∈ u_ws C T N, w ∈ Ts) (q0 : Nat) {fs : List Value} (he : ws[q0]? = some (a, .inr (ci, fs))) (hc : cl[ci]? = some (C, T, N)) (j : Nat) (hj : j < N) {host : String} (hlink : (Cond.fieldLinkNest own index ref (T j).2.1 (T j).2.2.1 host).before args s = true) (hsame : ∀ x, s.fieldFound? (T j).1 (T j).2.1 (T j).2.2.1 = some x → s.fieldFound? ref (T j).2.1 (T j).2.2.1 = some x) {v : Value} (hv : fs[j]? = some v) (hd : decode cc pc = .ok (.getfield index, 3))
    (k : gw p l e R s m args below meth c nL D cl A Q cells slots (pc + 3) L (v :: st) ws) : gw p l e R s m args below meth c nL D cl A Q cells slots pc L (.ref a :: st) ws :=
  fun ls H locs h1 h2 h3 h4 => va_getN F.1.1 F.1.2.1 F.1.2.2.2.2 hin F.1.2.2.2.1 F.2.1 h2 q0 he hc j hj hlink hsame hv hd (k ls H locs h1 h2 h3 h4)
theorem g_put (F : gf p s m args meth c nL D cl A cc Ts own tys) {ref C : String} {T : u_T} {N ci index : Nat} (hin : ∀ w ∈ u_ws C T N, w ∈ Ts) (ty0 : Nat → FieldType) (hty : ∀ k, k < N → parseFieldDescriptor (T k).2.2.1 = some (ty0 k)) (hnm : ∀ a, a < N → ∀ b, b < N → a ≠ b → (T a).2.1 ≠ (T b).2.1) (q0 : Nat) {fs : List Value} (he : ws[q0]? = some (a, .inr (ci, fs))) (hc : cl[ci]? = some (C, T, N)) (j : Nat) (hj : j < N) (hlink : (Cond.fieldLink own index ref (T j).2.1 (T j).2.2.1).before args s = true) (hsame : ∀ x, s.fieldFound? (T j).1 (T j).2.1 (T j).2.2.1 = some x → s.fieldFound? ref (T j).2.1 (T j).2.2.1 = some x) (hfin : (T j).2.2.2 = false) {ty : FieldType} {v : Value} (hdsc : parseFieldDescriptor (T j).2.2.1 = some ty) (hn : narrow ty v = v) (hfit : fits ty v = true) (hlen : j < fs.length) (hd : decode cc pc = .ok (.putfield index, 3)) (ws' : va_W) (hws : ws.set q0 (a, .inr (ci, fs.set j v)) = ws')
    (k : gw p l e R s m args below meth c nL D cl A Q cells slots (pc + 3) L st ws') : gw p l e R s m args below meth c nL D cl A Q cells slots pc L (v :: .ref a :: st) ws := by
  subst hws
  exact fun ls H locs h1 h2 h3 h4 => va_put F.1.1 F.1.2.1 F.1.2.2.2.2 hin ty0 hty hnm F.1.2.2.2.1 F.2.1 h2 h3 h4 q0 he hc j hj hlink hsame hfin hdsc hn hfit hlen hd (fun H1 locs1 g1 g2 g3 => k ls H1 locs1 h1 g1 g2 g3)
theorem g_putN (F : gf p s m args meth c nL D cl A cc Ts own tys) {ref C : String} {T : u_T} {N ci index : Nat} (hin : ∀ w ∈ u_ws C T N, w ∈ Ts) (ty0 : Nat → FieldType) (hty : ∀ k, k < N → parseFieldDescriptor (T k).2.2.1 = some (ty0 k)) (hnm : ∀ a, a < N → ∀ b, b < N → a ≠ b → (T a).2.1 ≠ (T b).2.1) (q0 : Nat) {fs : List Value} (he : ws[q0]? = some (a, .inr (ci, fs))) (hc : cl[ci]? = some (C, T, N)) (j : Nat) (hj : j < N) {host : String} (hlink : (Cond.fieldLinkNest own index ref (T j).2.1 (T j).2.2.1 host).before args s = true) (hsame : ∀ x, s.fieldFound? (T j).1 (T j).2.1 (T j).2.2.1 = some x → s.fieldFound? ref (T j).2.1 (T j).2.2.1 = some x) (hfin : (T j).2.2.2 = false) {ty : FieldType} {v : Value} (hdsc : parseFieldDescriptor (T j).2.2.1 = some ty) (hn : narrow ty v = v) (hfit : fits ty v = true) (hlen : j < fs.length) (hd : decode cc pc = .ok (.putfield index, 3)) (ws' : va_W) (hws : ws.set q0 (a, .inr (ci, fs.set j v)) = ws')
    (k : gw p l e R s m args below meth c nL D cl A Q cells slots (pc + 3) L st ws') : gw p l e R s m args below meth c nL D cl A Q cells slots pc L (v :: .ref a :: st) ws := by
  subst hws
  exact fun ls H locs h1 h2 h3 h4 => va_putN F.1.1 F.1.2.1 F.1.2.2.2.2 hin ty0 hty hnm F.1.2.2.2.1 F.2.1 h2 h3 h4 q0 he hc j hj hlink hsame hfin hdsc hn hfit hlen hd (fun H1 locs1 g1 g2 g3 => k ls H1 locs1 h1 g1 g2 g3)
theorem g_putF (F : gf p s m args meth c nL D cl A cc Ts own tys) {ref C : String} {T : u_T} {N ci index : Nat} (hin : ∀ w ∈ u_ws C T N, w ∈ Ts) (ty0 : Nat → FieldType) (hty : ∀ k, k < N → parseFieldDescriptor (T k).2.2.1 = some (ty0 k)) (hnm : ∀ a, a < N → ∀ b, b < N → a ≠ b → (T a).2.1 ≠ (T b).2.1) (q0 : Nat) {fs : List Value} (he : ws[q0]? = some (a, .inr (ci, fs))) (hc : cl[ci]? = some (C, T, N)) (j : Nat) (hj : j < N) (hlink : (Cond.fieldLink own index ref (T j).2.1 (T j).2.2.1).before args s = true) (hsame : ∀ x, s.fieldFound? (T j).1 (T j).2.1 (T j).2.2.1 = some x → s.fieldFound? ref (T j).2.1 (T j).2.2.1 = some x) (hfin : (T j).2.2.2 = true) (hin2 : meth.name = "<init>") (hdecl : (T j).1 = own) {ty : FieldType} {v : Value} (hdsc : parseFieldDescriptor (T j).2.2.1 = some ty) (hn : narrow ty v = v) (hfit : fits ty v = true) (hlen : j < fs.length) (hd : decode cc pc = .ok (.putfield index, 3)) (ws' : va_W) (hws : ws.set q0 (a, .inr (ci, fs.set j v)) = ws')
    (k : gw p l e R s m args below meth c nL D cl A Q cells slots (pc + 3) L st ws') : gw p l e R s m args below meth c nL D cl A Q cells slots pc L (v :: .ref a :: st) ws := by
  subst hws
  exact fun ls H locs h1 h2 h3 h4 => va_putF F.1.1 F.1.2.1 F.1.2.2.2.2 hin ty0 hty hnm F.1.2.2.2.1 F.2.1 h2 h3 h4 q0 he hc j hj hlink hsame hfin hin2 hdecl hdsc hn hfit hlen hd (fun H1 locs1 g1 g2 g3 => k ls H1 locs1 h1 g1 g2 g3)
theorem g_iald (F : gf p s m args meth c nL D cl A cc Ts own tys) (q0 t0 : Nat) {cA : ClassId} {n : Nat} {f : Nat → Int32} (ha : ws[q0]? = some (a, .inl (cA, n, .inl f))) (ht : tys[t0]? = some (cA, .int)) {i : Int32} (hin : vp_in i n) {v : Int32} (hv : f i.toNatClampNeg = v) (hd : decode cc pc = .ok (.iaload, 1))
    (k : gw p l e R s m args below meth c nL D cl A Q cells slots (pc + 1) L (.int v :: st) ws) : gw p l e R s m args below meth c nL D cl A Q cells slots pc L (.int i :: .ref a :: st) ws := by
  subst hv
  exact fun ls H locs h1 h2 h3 h4 => va_iald F.1.1 F.1.2.1 F.2.1 h2 q0 t0 ha ht hin hd (k ls H locs h1 h2 h3 h4)
theorem g_iast (F : gf p s m args meth c nL D cl A cc Ts own tys) (q0 t0 : Nat) {cA : ClassId} {n : Nat} {f : Nat → Int32} (ha : ws[q0]? = some (a, .inl (cA, n, .inl f))) (ht : tys[t0]? = some (cA, .int)) {i x : Int32} (hin : vp_in i n) (hd : decode cc pc = .ok (.iastore, 1)) (ws' : va_W) (hws : ws.set q0 (a, .inl (cA, n, .inl (upd f i.toNatClampNeg x))) = ws')
    (k : gw p l e R s m args below meth c nL D cl A Q cells slots (pc + 1) L st ws') : gw p l e R s m args below meth c nL D cl A Q cells slots pc L (.int x :: .int i :: .ref a :: st) ws := by
  subst hws
  exact fun ls H locs h1 h2 h3 h4 => va_iast F.1.1 F.1.2.1 F.2.1 h2 h3 h4 q0 t0 ha ht hin hd (fun H1 locs1 g1 g2 g3 => k ls H1 locs1 h1 g1 g2 g3)
theorem g_aald (F : gf p s m args meth c nL D cl A cc Ts own tys) (q0 t0 : Nat) {cA : ClassId} {C : String} {n : Nat} {f : Nat → Option Nat} (ha : ws[q0]? = some (a, .inl (cA, n, .inr (.inr (.inr (.inr f)))))) (ht : tys[t0]? = some (cA, .object C)) {i : Int32} (hin : vp_in i n) {x : Nat} (hv : f i.toNatClampNeg = some x) (hd : decode cc pc = .ok (.aaload, 1))
    (k : gw p l e R s m args below meth c nL D cl A Q cells slots (pc + 1) L (.ref x :: st) ws) : gw p l e R s m args below meth c nL D cl A Q cells slots pc L (.int i :: .ref a :: st) ws :=
  fun ls H locs h1 h2 h3 h4 => va_aldq F.1.1 F.1.2.1 F.2.1 h2 q0 t0 ha ht hin hd (by rw [hv]; exact k ls H locs h1 h2 h3 h4)
theorem g_aast (F : gf p s m args meth c nL D cl A cc Ts own tys) (q0 t0 qk ci : Nat) {cA : ClassId} {r : vw_C} {n v : Nat} {vs : List Value} {f : Nat → Option Nat} (ha : ws[q0]? = some (a, .inl (cA, n, .inr (.inr (.inr (.inr f)))))) (ht : tys[t0]? = some (cA, .object r.1)) (hv : ws[qk]? = some (v, .inr (ci, vs))) (hc : cl[ci]? = some r) {i : Int32} (hin : vp_in i n) (hd : decode cc pc = .ok (.aastore, 1)) (ws' : va_W) (hws : ws.set q0 (a, .inl (cA, n, .inr (.inr (.inr (.inr (va_up f i.toNatClampNeg (some v))))))) = ws')
    (k : gw p l e R s m args below meth c nL D cl A Q cells slots (pc + 1) L st ws') : gw p l e R s m args below meth c nL D cl A Q cells slots pc L (.ref v :: .int i :: .ref a :: st) ws := by
  subst hws
  exact fun ls H locs h1 h2 h3 h4 => va_astq F.1.1 F.1.2.1 F.2.1 h2 h3 h4 q0 t0 qk ci ha ht hv hc hin hd (fun H1 locs1 g1 g2 g3 => k ls H1 locs1 h1 g1 g2 g3)
theorem g_alen (F : gf p s m args meth c nL D cl A cc Ts own tys) (q0 t0 : Nat) {cA : ClassId} {x : vp_A} (ha : ws[q0]? = some (a, .inl (cA, x))) {ty : FieldType} (ht : tys[t0]? = some (cA, ty)) {v : Int32} (hv : Int32.ofNat x.1 = v) (hd : decode cc pc = .ok (.arraylength, 1))
    (k : gw p l e R s m args below meth c nL D cl A Q cells slots (pc + 1) L (.int v :: st) ws) : gw p l e R s m args below meth c nL D cl A Q cells slots pc L (.ref a :: st) ws :=
  fun ls H locs h1 h2 h3 h4 => va_alen F.1.1 F.1.2.1 F.2.1 h2 q0 t0 ha ht hv hd (k ls H locs h1 h2 h3 h4)
-- a new int array: its class is the one that tys names already
theorem g_newi (F : gf p s m args meth c nL D cl A cc Ts own tys) (t0 : Nat) {cA : ClassId} (ht : tys[t0]? = some (cA, .int)) (harr : (Cond.arrayClass .int).before args s = true) {n : Int32} {N : Nat} (hn : ¬ n < 0) (hN : n.toNatClampNeg = N) (hbytes : N * componentBytes .int ≤ 536870912) (hcells : cells + 1 ≤ R.cells) (hslots : slots + N ≤ R.slots) (hd : decode cc pc = .ok (.newarray .int, 2))
    (k : ∀ q : Nat, gw p l e R s m args below meth c nL D cl A Q (cells + 1) (slots + N) (pc + 2) L (.ref q :: st) (ws ++ [(q, .inl (cA, N, .inl (fun _ => 0)))])) : gw p l e R s m args below meth c nL D cl A Q cells slots pc L (.int n :: st) ws :=
  fun ls H locs h1 h2 h3 h4 => va_newa (atype := .int) (ty := .int) (a0 := (N, .inl (fun _ => 0))) F.1.1 F.1.2.1 harr rfl F.2.1 h2 h3 h4 F.2.2.1 (fun _ => rfl) hn hN hbytes hcells hslots hd (fun q cB H1 hK hP hD hS => by
    have e1 : s.vm.findClass ("[" ++ FieldType.int.toString) = some cA := (F.2.1.2 t0 _ ht).2
    have e2 : s.vm.findClass ("[" ++ FieldType.int.toString) = some cB := (hK.2 tys.length (cB, .int) (by simp)).2
    have e3 : cB = cA := Option.some.inj (e2.symm.trans e1)
    subst e3
    exact k q ls H1 locs h1 hP hD hS)
theorem g_newz (F : gf p s m args meth c nL D cl A cc Ts own tys) (t0 : Nat) {cA : ClassId} (ht : tys[t0]? = some (cA, .boolean)) (harr : (Cond.arrayClass .boolean).before args s = true) {n : Int32} {N : Nat} (hn : ¬ n < 0) (hN : n.toNatClampNeg = N) (hbytes : N * componentBytes .boolean ≤ 536870912) (hcells : cells + 1 ≤ R.cells) (hslots : slots + N ≤ R.slots) (hd : decode cc pc = .ok (.newarray .boolean, 2))
    (k : ∀ q : Nat, gw p l e R s m args below meth c nL D cl A Q (cells + 1) (slots + N) (pc + 2) L (.ref q :: st) (ws ++ [(q, .inl (cA, N, .inl (fun _ => 0)))])) : gw p l e R s m args below meth c nL D cl A Q cells slots pc L (.int n :: st) ws :=
  fun ls H locs h1 h2 h3 h4 => va_newa (atype := .boolean) (ty := .boolean) (a0 := (N, .inl (fun _ => 0))) F.1.1 F.1.2.1 harr rfl F.2.1 h2 h3 h4 F.2.2.1 (fun _ => rfl) hn hN hbytes hcells hslots hd (fun q cB H1 hK hP hD hS => by
    have e1 : s.vm.findClass ("[" ++ FieldType.boolean.toString) = some cA := (F.2.1.2 t0 _ ht).2
    have e2 : s.vm.findClass ("[" ++ FieldType.boolean.toString) = some cB := (hK.2 tys.length (cB, .boolean) (by simp)).2
    have e3 : cB = cA := Option.some.inj (e2.symm.trans e1)
    subst e3
    exact k q ls H1 locs h1 hP hD hS)
theorem g_new (F : gf p s m args meth c nL D cl A cc Ts own tys) {C : String} {T : u_T} {N ci index : Nat} (hin : ∀ w ∈ u_ws C T N, w ∈ Ts) (ty : Nat → FieldType) (hty : ∀ k, k < N → parseFieldDescriptor (T k).2.2.1 = some (ty k)) (hcl : (Cond.classLink own index C).before args s = true) (hinst : (Cond.instantiable C N).before args s = true) (hini : (Cond.initialized C).before args s = true) (hc : cl[ci]? = some (C, T, N)) {fs : List Value} (hfs : ∀ j, j < N → defaultValue (ty j) = vp_V fs j) (hcells : cells + 1 ≤ R.cells) (hslots : slots + N ≤ R.slots) (hd : decode cc pc = .ok (.new index, 3))
    (k : ∀ q : Nat, gw p l e R s m args below meth c nL D cl A Q (cells + 1) (slots + N) (pc + 3) L (.ref q :: st) (ws ++ [(q, .inr (ci, fs))])) : gw p l e R s m args below meth c nL D cl A Q cells slots pc L st ws :=
  fun ls H locs h1 h2 h3 h4 => va_new F.1.1 F.1.2.1 F.1.2.2.2.2 hin ty hty F.1.2.2.2.1 hcl hinst hini F.2.1 h2 h3 h4 F.2.2.1 hc hfs hcells hslots hd (fun q H1 hP hD hS => k q ls H1 locs h1 hP hD hS)
theorem g_objInit (F : gf p s m args meth c nL D cl A cc Ts own tys) {idx : Nat} {b : Nat} (hlink : (Cond.methodLink own idx objectInit).before args s = true) (hinst : (Cond.instanceMethod objectInit).before args s = true) (hcode : (Cond.code objectInit ⟨#[0xb1]⟩ 1 none).before args s = true) (hd : decode cc pc = .ok (.invokespecial idx, 3)) (hfr : 1 ≤ R.frames) (hlo : (st.map fun v => v.category).sum + 12 ≤ R.locals)
    (k : gw p l e R s m args below meth c nL D cl A Q cells slots (pc + 3) L st ws) : gw p l e R s m args below meth c nL D cl A Q cells slots pc L (.ref b :: st) ws :=
  fun ls H locs h1 h2 h3 h4 => W.objInit F.1.1 F.1.2.1 F.1.2.2.2.1 hlink hinst hcode rfl (by rw [F.1.2.2.1]; exact h1.1) rfl hd hfr (by show 2 * 0 + _ + 12 ≤ _; omega) (k ls H locs h1 h2 h3 h4)
theorem g_widen {k n : Nat} (e1 : cells ≤ k) (e2 : slots ≤ n) (kk : gw p l e R s m args below meth c nL D cl A Q k n pc L st ws) : gw p l e R s m args below meth c nL D cl A Q cells slots pc L st ws :=
  fun ls H locs h1 h2 h3 h4 => W.widen e1 e2 (kk ls H locs h1 h2 h3 h4)
-- contracts
def gP (D : va_G) (cl : List vw_C) (tys : List (ClassId × FieldType)) (av : List Value) (w0 : va_W) (sz : Nat) : Array Value → State → Prop :=
  va_Pc av (fun U => U.heap.size = sz ∧ va_P D cl w0 U.heap ∧ va_K D cl tys U ∧ NW U ∧ va_D (fun _ => True) w0)
def gQ (D : va_G) (cl : List vw_C) (tys : List (ClassId × FieldType)) (post : Option Value → va_W → Prop) (A : Nat → Prop) : Array Value → State → Outcome → State → Prop :=
  fun _ st oc t => (∃ (v : Option Value) (w1 : va_W), oc = .returned v ∧ post v w1 ∧ va_P D cl w1 t.heap ∧ va_K D cl tys t ∧ va_D A w1) ∧ va_F A st t
def gM (l : Launch) (y : MethodName) (Tc : List Cond) (rm : Room) (D : va_G) (cl : List vw_C) (tys : List (ClassId × FieldType)) (av : List Value) (w0 : va_W) (post : Option Value → va_W → Prop) (mc ms : Nat) : Prop :=
  ∀ sz : Nat, Met l y Tc rm (gP D cl tys av w0 sz) (gQ D cl tys post (va_A w0 sz)) mc ms (va_A w0 sz)
-- nothing is made, and the end is known
def gN (l : Launch) (y : MethodName) (Tc : List Cond) (rm : Room) (D : va_G) (cl : List vw_C) (tys : List (ClassId × FieldType)) (av : List Value) (w0 : va_W) (rv : Option Value) (w1 : va_W) : Prop :=
  gM l y Tc rm D cl tys av w0 (fun v w => v = rv ∧ w = w1) 0 0
theorem gP_blind {av : List Value} {w0 : va_W} {sz : Nat} : FrameBlind (gP D cl tys av w0 sz) := fun a U g mk q => by
  obtain ⟨q0, q1, qP, qK, qN, qD⟩ := q
  exact ⟨q0, q1, qP, va_K.moved (u := U) (U := U.calling g mk a) (Vm.Alike.refl U.vm) qK, NW.same (s := U) (U := U.calling g mk a) rfl qN, qD⟩
theorem g_head {y : MethodName} {Ts' : List Cond} {rm : Room} {ret : Option FieldType} {av : List Value} {w0 : va_W} {post : Option Value → va_W → Prop} {mc ms : Nat} (hy : plainName y.cls = true) (hw : Ts = Cond.code y cc nL ret :: Ts') (hlen : (lg_sl av).length ≤ nL)
    (body : ∀ (p : Program) (e : Env) (s : State) (m : MethodId) (args : Array Value) (below : List Frame) (meth : Method) (c : Code) (A : Nat → Prop), gf p s m args meth c nL D cl A cc Ts y.cls tys → meth.sig.returnType = ret → meth.locks = false → meth.name = y.name →
      gw p l e (headSpec Ts rm).room s m args below meth c nL D cl A (MQ below (gQ D cl tys post A) args s mc ms A) 0 0 0 (lv_args 0 av) [] w0) : gM l y Ts rm D cl tys av w0 post mc ms := by
  intro sz
  refine Met.ofW (cc := cc) (maxL := nL) (ret := ret) hy hw ?_
  intro p e s m args below meth c s₁ B hml hv
  obtain ⟨rfl, rfl, hP, hK, hN, hD0⟩ := hv
  have hts := atoms_spec (ws := Ts) B.pre
  have h := body p e s m av.toArray below meth c (va_A w0 s.heap.size) ⟨⟨B.exec, B.bytes, hml, findClass_of_methodNamed B.named, hts⟩, hK, fun q h => Or.inr h, hN⟩ B.returns B.notSynchronized (name_of_methodNamed B.named B.method).1
  rw [lg_entry_eq]
  exact h _ s.heap [] (lv_entry av hlen) hP (hD0.self (sz := s.heap.size)) va_S.rf
theorem g_iret (F : gf p s m args meth c nL D cl A cc Ts own tys) (hr : meth.sig.returnType = some .int) (hlk : meth.locks = false) {post : Option Value → va_W → Prop} {v : Int32} (hd : decode cc pc = .ok (.ireturn, 1)) (hp : post (some (.int v)) ws) :
    gw p l e R s m args below meth c nL D cl A (MQ below (gQ D cl tys post A) args s cells slots A) cells slots pc L [.int v] ws :=
  fun ls H locs h1 h2 h3 h4 => W.iret F.1.1 F.1.2.1 hr (fun t ht hW => ⟨⟨_, ws, rfl, hp, by rw [ht]; exact h2, va_K.moved hW.alike F.2.1, h3⟩, h4.F ht⟩) h4.2.2 hd hlk
theorem g_zret (F : gf p s m args meth c nL D cl A cc Ts own tys) {ty : FieldType} (hr : meth.sig.returnType = some ty) (hlk : meth.locks = false) {post : Option Value → va_W → Prop} {v : Int32} (hn : narrow ty (.int v) = .int v) (hd : decode cc pc = .ok (.ireturn, 1)) (hp : post (some (.int v)) ws) :
    gw p l e R s m args below meth c nL D cl A (MQ below (gQ D cl tys post A) args s cells slots A) cells slots pc L [.int v] ws :=
  fun ls H locs h1 h2 h3 h4 => W.zret F.1.1 F.1.2.1 hr hn (fun t ht hW => ⟨⟨_, ws, rfl, hp, by rw [ht]; exact h2, va_K.moved hW.alike F.2.1, h3⟩, h4.F ht⟩) h4.2.2 hd hlk
theorem g_vret (F : gf p s m args meth c nL D cl A cc Ts own tys) (hr : meth.sig.returnType = none) (hlk : meth.locks = false) {post : Option Value → va_W → Prop} (hd : decode cc pc = .ok (.return_, 1)) (hp : post none ws) :
    gw p l e R s m args below meth c nL D cl A (MQ below (gQ D cl tys post A) args s cells slots A) cells slots pc L [] ws :=
  fun ls H locs h1 h2 h3 h4 => W.vret F.1.1 F.1.2.1 hr (fun t ht hW => ⟨⟨_, ws, rfl, hp, by rw [ht]; exact h2, va_K.moved hW.alike F.2.1, h3⟩, h4.F ht⟩) h4.2.2 hd hlk
-- cells replaced where they stand
def gput (ws : va_W) (is : List Nat) (w1 : va_W) : va_W := match is, w1 with
  | i :: is, x :: w1 => gput (ws.set i x) is w1
  | _, _ => ws
theorem gput_get : ∀ (is : List Nat) (w1 ws : va_W), is.length = w1.length → (∀ i ∈ is, i < ws.length) → ∀ (k : Nat) (q : Nat × va_E), (gput ws is w1)[k]? = some q → (∃ j : Nat, is[j]? = some k ∧ w1[j]? = some q) ∨ (k ∉ is ∧ ws[k]? = some q)
  | [], w1, ws, _, _, k, q, h => Or.inr ⟨by simp, by simpa [gput] using h⟩
  | i :: is, [], ws, hl, _, k, q, h => by simp at hl
  | i :: is, x :: w1, ws, hl, hi, k, q, h => by
    have hi0 : i < ws.length := hi i (by simp)
    have h' : (gput (ws.set i x) is w1)[k]? = some q := h
    rcases gput_get is w1 (ws.set i x) (by simpa using hl) (fun j hj => by rw [List.length_set]; exact hi j (List.mem_cons_of_mem _ hj)) k q h' with ⟨j, h1, h2⟩ | ⟨h1, h2⟩
    · exact Or.inl ⟨j + 1, by simpa using h1, by simpa using h2⟩
    · by_cases hk : k = i
      · subst hk
        rw [List.getElem?_set_self hi0] at h2
        exact Or.inl ⟨0, by simp, by simpa using h2⟩
      · rw [List.getElem?_set_ne (Ne.symm hk)] at h2
        exact Or.inr ⟨by simp [hk, h1], h2⟩
theorem g_at {is : List Nat} {w : va_W} (hs : is.map (fun i => ws[i]?) = w.map some) : (∀ (k : Nat) (q : Nat × va_E), w[k]? = some q → ∃ i, is[k]? = some i ∧ ws[i]? = some q) ∧ ∀ (k i : Nat), is[k]? = some i → ∃ q, w[k]? = some q ∧ ws[i]? = some q := by
  refine ⟨fun k q hq => ?_, fun k i hi => ?_⟩
  · have h1 : (is.map (fun i => ws[i]?))[k]? = some (some q) := by rw [hs, List.getElem?_map, hq]; rfl
    rw [List.getElem?_map] at h1
    cases hi : is[k]? with
    | none => rw [hi] at h1; cases h1
    | some i => rw [hi] at h1; exact ⟨i, rfl, Option.some.inj h1⟩
  · have h1 : (w.map some)[k]? = some (ws[i]?) := by rw [← hs, List.getElem?_map, hi]; rfl
    rw [List.getElem?_map] at h1
    cases hq : w[k]? with
    | none => rw [hq] at h1; cases h1
    | some q => rw [hq] at h1; exact ⟨q, rfl, (Option.some.inj h1).symm⟩
theorem gput_len {w0 w1 : va_W} {is : List Nat} (hC : is.map (fun i => ws[i]?) = w0.map some) (hadr : w1.map Prod.fst = w0.map Prod.fst) : is.length = w1.length ∧ ∀ i ∈ is, i < ws.length := by
  have hl0 : is.length = w0.length := by have := congrArg List.length hC; simpa using this
  have hl1 : w1.length = w0.length := by have := congrArg List.length hadr; simpa using this
  refine ⟨by omega, fun i hi => ?_⟩
  obtain ⟨k, hk⟩ := List.getElem?_of_mem hi
  obtain ⟨q, -, h2⟩ := (g_at hC).2 k i hk
  exact (List.getElem?_eq_some_iff.mp h2).1
theorem gput_adr {w0 w1 : va_W} {is : List Nat} (hC : is.map (fun i => ws[i]?) = w0.map some) (hadr : w1.map Prod.fst = w0.map Prod.fst) : ∀ (k : Nat) (q : Nat × va_E), (gput ws is w1)[k]? = some q → ∃ q0, ws[k]? = some q0 ∧ q0.1 = q.1 := by
  intro k q h
  rcases gput_get is w1 ws (gput_len hC hadr).1 (gput_len hC hadr).2 k q h with ⟨j, h1, h2⟩ | ⟨-, h2⟩
  · obtain ⟨q0, h3, h4⟩ := (g_at hC).2 j k h1
    refine ⟨q0, h4, ?_⟩
    have e1 : (w1.map Prod.fst)[j]? = some q.1 := by rw [List.getElem?_map, h2]; rfl
    have e2 : (w0.map Prod.fst)[j]? = some q0.1 := by rw [List.getElem?_map, h3]; rfl
    rw [hadr, e2] at e1
    exact Option.some.inj e1
  · exact ⟨q, h2, rfl⟩
theorem gput_join {w0 w1 : va_W} {H H1 : Heap} {is : List Nat} (hP : va_P D cl ws H) (hD : va_D A ws) (hC : is.map (fun i => ws[i]?) = w0.map some) (hadr : w1.map Prod.fst = w0.map Prod.fst)
    (hk : ∀ q : Nat, q < H.size → ¬ va_A w0 H.size q → H1[q]? = H[q]?) (hP1 : va_P D cl w1 H1) : va_P D cl (gput ws is w1) H1 ∧ va_D A (gput ws is w1) := by
  have adr := gput_adr (w1 := w1) hC hadr
  refine ⟨fun k q h => ?_, fun i j x y hx hy hxy => ?_, fun k q h => ?_⟩
  · rcases gput_get is w1 ws (gput_len hC hadr).1 (gput_len hC hadr).2 k q h with ⟨j, -, h2⟩ | ⟨h1, h2⟩
    · exact hP1 j q h2
    · have hlt := (hP k q h2).lt
      refine (hP k q h2).kept (hk q.1 hlt (fun z => ?_))
      rcases z with ⟨k2, e, z⟩ | z
      · obtain ⟨i, h3, h4⟩ := (g_at hC).1 k2 (q.1, e) z
        have := hD.1 k i q (q.1, e) h2 h4 rfl
        subst this
        exact h1 (List.mem_of_getElem? h3)
      · omega
  · obtain ⟨x0, h1, h2⟩ := adr i x hx
    obtain ⟨y0, h3, h4⟩ := adr j y hy
    exact hD.1 i j x0 y0 h1 h3 (h2.trans (hxy.trans h4.symm))
  · obtain ⟨q0, h1, h2⟩ := adr k q h
    rw [← h2]
    exact hD.2 k q0 h1
-- .. and new cells behind them
theorem gput_more {w0 w1 nw : va_W} {H H1 : Heap} {is : List Nat} (hP : va_P D cl ws H) (hD : va_D A ws) (hC : is.map (fun i => ws[i]?) = w0.map some) (hadr : w1.map Prod.fst = w0.map Prod.fst)
    (hk : ∀ q : Nat, q < H.size → ¬ va_A w0 H.size q → H1[q]? = H[q]?) (hF : ∀ q, va_A w0 H.size q → A q) (hP1 : va_P D cl (w1 ++ nw) H1) (hD1 : va_D (va_A w0 H.size) (w1 ++ nw)) : va_P D cl (gput ws is w1 ++ nw) H1 ∧ va_D A (gput ws is w1 ++ nw) := by
  have ina : ∀ (k : Nat) (q : Nat × va_E), w1[k]? = some q → (w1 ++ nw)[k]? = some q := fun k q h => by
    rw [List.getElem?_append_left ((List.getElem?_eq_some_iff.mp h).1)]; exact h
  have inb : ∀ (k : Nat) (q : Nat × va_E), nw[k]? = some q → (w1 ++ nw)[w1.length + k]? = some q := fun k q h => by
    rw [List.getElem?_append_right (by omega)]; simpa using h
  obtain ⟨j1, j2⟩ := gput_join (H1 := H1) hP hD hC hadr hk (fun k q h => hP1 k q (ina k q h))
  have hnew : ∀ (k : Nat) (q : Nat × va_E), nw[k]? = some q → H.size ≤ q.1 := by
    intro k q h
    rcases hD1.2 _ q (inb k q h) with ⟨i, e, hi⟩ | h
    · exfalso
      have e1 : (w1.map Prod.fst)[i]? = some q.1 := by rw [hadr, List.getElem?_map, hi]; rfl
      rw [List.getElem?_map] at e1
      cases hw : w1[i]? with
      | none => rw [hw] at e1; cases e1
      | some x =>
        rw [hw] at e1
        have e2 : x.1 = q.1 := Option.some.inj e1
        have e3 := hD1.1 i (w1.length + k) x q (ina i x hw) (inb k q h) e2
        have e4 := (List.getElem?_eq_some_iff.mp hw).1
        omega
    · exact h
  refine ⟨j1.app (fun k q h => hP1 _ q (inb k q h)), j2.app ⟨fun i j x y hx hy hxy => ?_, fun k q h => hF q.1 (hD1.2 _ q (inb k q h))⟩ (fun i j x y hx hy hxy => ?_)⟩
  · have := hD1.1 _ _ x y (inb i x hx) (inb j y hy) hxy
    omega
  · obtain ⟨x0, h1, h2⟩ := gput_adr (w1 := w1) hC hadr i x hx
    have h3 := (hP i x0 h1).lt
    have h4 := hnew j y hy
    omega
-- a call that makes nothing: over any way of running it
theorem g_call (F : gf p s m args meth c nL D cl A cc Ts own tys) {av rest : List Value} {w0 w1 : va_W} {rv : Option Value} (is : List Nat) (hC : is.map (fun i => ws[i]?) = w0.map some) (hadr : w1.map Prod.fst = w0.map Prod.fst)
    (hrun : ∀ (ls : Array Slot) (H : Heap) (locs : List Loc), lv_has ls nL L → va_P D cl ws H → va_D A ws → va_P D cl w0 H → va_D (fun _ => True) w0 → va_Run p l e R s m args below meth c H locs cells slots 0 0 (F0 m pc ls st) rest (gQ D cl tys (fun v w => v = rv ∧ w = w1) (va_A w0 H.size) av.toArray) (va_A w0 H.size))
    (hnd : va_nd is = true) (ws' : va_W) (hws : gput ws is w1 = ws') (k : gw p l e R s m args below meth c nL D cl A Q cells slots (pc + 3) L (rv.toList ++ rest) ws') : gw p l e R s m args below meth c nL D cl A Q cells slots pc L st ws := by
  subst hws
  intro ls H locs h1 h2 h3 h4 T hT X
  have hP0 : va_P D cl w0 H := fun j q hq => by
    obtain ⟨i, -, h⟩ := (g_at hC).1 j q hq
    exact h2 i q h
  have hD0 : va_D A w0 := h3.sub is hnd hC
  have hF := va_free (wc := w0) h3 h4 F.2.2.1 is hC
  obtain ⟨v, st₀, t, T', Lc, e0, X', hL, e1, e2, ⟨⟨v', w', hv, ⟨rfl, rfl⟩, hP1, -, -⟩, hz, hk⟩, stp⟩ := hrun ls H locs h1 h2 h3 hP0 (hD0.weaken (fun _ _ _ _ => trivial)) T hT X
  cases hv
  rw [e0] at hz hk
  obtain ⟨j1, j2⟩ := gput_join (H1 := t.heap) h2 h3 hC hadr hk hP1
  rw [← e1] at j1
  obtain ⟨t2, a1, b1⟩ := k ls T'.heap (locs ++ Lc) h1 j1 j2 ⟨Nat.le_trans h4.1 (by rw [e1]; exact hz), fun q g1 g2 => by rw [e1, hk q (Nat.lt_of_lt_of_le g1 h4.1) (fun z => g2 (hF q z))]; exact h4.2.1 q g1 g2, fun q hq => by
      rcases List.mem_append.mp hq with h | h
      · exact h4.2.2 q h
      · exact hF _ (hL q h)⟩ T' rfl X'
  exact ⟨t2, stp t2 a1, b1⟩
theorem gP_pre {av : List Value} {w0 : va_W} {H : Heap} (F : gf p s m args meth c nL D cl A cc Ts own tys) (hP0 : va_P D cl w0 H) (hD0 : va_D (fun _ => True) w0) : ∀ U : State, U.heap = H → s.WarmedH U.vm → gP D cl tys av w0 H.size av.toArray U := fun U hU hW => ⟨rfl, by rw [hU], by rw [hU]; exact hP0, va_K.moved hW.alike F.2.1, NW.warm hW F.2.2.2, hD0⟩
-- the six ways of calling
theorem g_callS (F : gf p s m args meth c nL D cl A cc Ts own tys) {y : MethodName} {bytes : ByteArray} {maxL n index : Nat} {ret : Option FieldType} {Tc : List Cond} {rm : Room} {av rest : List Value} {w0 w1 : va_W} {rv : Option Value} (hM : gN l y Tc rm D cl tys av w0 rv w1) (cw : CallB R s args own index y bytes maxL ret Tc rm 0 0 n ∧ (Cond.static y).before args s = true) (is : List Nat) (hC : is.map (fun i => ws[i]?) = w0.map some) (hadr : w1.map Prod.fst = w0.map Prod.fst) (hnd : va_nd is = true) (hn : av.length = n) (hst : st = av.reverse ++ rest) (hW : (rest.map fun v => v.category).sum ≤ 8) (hf : cells ≤ R.cells ∧ slots ≤ R.slots) (hd : decode cc pc = .ok (.invokestatic index, 3)) (ws' : va_W) (hws : gput ws is w1 = ws')
    (k : gw p l e R s m args below meth c nL D cl A Q cells slots (pc + 3) L (rv.toList ++ rest) ws') : gw p l e R s m args below meth c nL D cl A Q cells slots pc L st ws :=
  g_call F (av := av) is hC hadr (fun ls H locs h1 h2 h3 g1 g2 => va_runS F.1 (hM H.size) cw ⟨gP_blind, gP_pre F g1 g2⟩ rfl hn h1.1 hst (lv_room hW) hd hf) hnd ws' hws k
theorem g_callSN (F : gf p s m args meth c nL D cl A cc Ts own tys) {y : MethodName} {bytes : ByteArray} {maxL n index : Nat} {host : String} {ret : Option FieldType} {Tc : List Cond} {rm : Room} {av rest : List Value} {w0 w1 : va_W} {rv : Option Value} (hM : gN l y Tc rm D cl tys av w0 rv w1) (cw : va_CN R s args own index y host bytes maxL ret Tc rm 0 0 n ∧ (Cond.static y).before args s = true ∧ True) (is : List Nat) (hC : is.map (fun i => ws[i]?) = w0.map some) (hadr : w1.map Prod.fst = w0.map Prod.fst) (hnd : va_nd is = true) (hn : av.length = n) (hst : st = av.reverse ++ rest) (hW : (rest.map fun v => v.category).sum ≤ 8) (hf : cells ≤ R.cells ∧ slots ≤ R.slots) (hd : decode cc pc = .ok (.invokestatic index, 3)) (ws' : va_W) (hws : gput ws is w1 = ws')
    (k : gw p l e R s m args below meth c nL D cl A Q cells slots (pc + 3) L (rv.toList ++ rest) ws') : gw p l e R s m args below meth c nL D cl A Q cells slots pc L st ws :=
  g_call F (av := av) is hC hadr (fun ls H locs h1 h2 h3 g1 g2 => va_runSN F.1 (hM H.size) cw ⟨gP_blind, gP_pre F g1 g2⟩ rfl hn h1.1 hst (lv_room hW) hd hf) hnd ws' hws k
theorem g_callV (F : gf p s m args meth c nL D cl A cc Ts own tys) {y : MethodName} {bytes : ByteArray} {maxL n index : Nat} {ret : Option FieldType} {Tc : List Cond} {rm : Room} {As rest : List Value} {w0 w1 : va_W} {rv : Option Value} {C : vw_C} {ci b : Nat} {fs : List Value} (hM : gN l y Tc rm D cl tys (.ref b :: As) w0 rv w1) (cw : CallW R s args own C.1 index y bytes maxL ret Tc rm 0 0 n) (q0 : Nat) (he : ws[q0]? = some (b, .inr (ci, fs))) (hcl : cl[ci]? = some C) (is : List Nat) (hC : is.map (fun i => ws[i]?) = w0.map some) (hadr : w1.map Prod.fst = w0.map Prod.fst) (hnd : va_nd is = true) (hn : As.length = n) (hst : st = As.reverse ++ .ref b :: rest) (hW : (rest.map fun v => v.category).sum ≤ 8) (hf : cells ≤ R.cells ∧ slots ≤ R.slots) (hd : decode cc pc = .ok (.invokevirtual index, 3)) (ws' : va_W) (hws : gput ws is w1 = ws')
    (k : gw p l e R s m args below meth c nL D cl A Q cells slots (pc + 3) L (rv.toList ++ rest) ws') : gw p l e R s m args below meth c nL D cl A Q cells slots pc L st ws :=
  g_call F (av := .ref b :: As) is hC hadr (fun ls H locs h1 h2 h3 g1 g2 => va_runV F.1 (hM H.size) cw ⟨gP_blind, va_recv F.2.1 h2 hcl he, gP_pre F g1 g2⟩ rfl hn h1.1 hst (lv_room hW) hd hf) hnd ws' hws k
theorem g_callVN (F : gf p s m args meth c nL D cl A cc Ts own tys) {y : MethodName} {bytes : ByteArray} {maxL n index : Nat} {host : String} {ret : Option FieldType} {Tc : List Cond} {rm : Room} {As rest : List Value} {w0 w1 : va_W} {rv : Option Value} {C : vw_C} {ci b : Nat} {fs : List Value} (hM : gN l y Tc rm D cl tys (.ref b :: As) w0 rv w1) (cw : va_CN R s args own index y host bytes maxL ret Tc rm 0 0 n ∧ (Cond.instanceMethod y).before args s = true ∧ (Cond.selects C.1 y y).before args s = true) (q0 : Nat) (he : ws[q0]? = some (b, .inr (ci, fs))) (hcl : cl[ci]? = some C) (is : List Nat) (hC : is.map (fun i => ws[i]?) = w0.map some) (hadr : w1.map Prod.fst = w0.map Prod.fst) (hnd : va_nd is = true) (hn : As.length = n) (hst : st = As.reverse ++ .ref b :: rest) (hW : (rest.map fun v => v.category).sum ≤ 8) (hf : cells ≤ R.cells ∧ slots ≤ R.slots) (hd : decode cc pc = .ok (.invokevirtual index, 3)) (ws' : va_W) (hws : gput ws is w1 = ws')
    (k : gw p l e R s m args below meth c nL D cl A Q cells slots (pc + 3) L (rv.toList ++ rest) ws') : gw p l e R s m args below meth c nL D cl A Q cells slots pc L st ws :=
  g_call F (av := .ref b :: As) is hC hadr (fun ls H locs h1 h2 h3 g1 g2 => va_runVN F.1 (hM H.size) cw ⟨gP_blind, va_recv F.2.1 h2 hcl he, gP_pre F g1 g2⟩ rfl hn h1.1 hst (lv_room hW) hd hf) hnd ws' hws k
-- a constructor's call: the cells handed over stand where they stood, the new ones behind
theorem g_callIN (F : gf p s m args meth c nL D cl A cc Ts own tys) {y : MethodName} {bytes : ByteArray} {maxL n index mc ms : Nat} {host : String} {Tc : List Cond} {rm : Room} {As rest : List Value} {w0 : va_W} {post : Option Value → va_W → Prop} {b : Nat} (hM : gM l y Tc rm D cl tys (.ref b :: As) w0 post mc ms) (cw : va_CN R s args own index y host bytes maxL none Tc rm mc ms n ∧ y.name = "<init>" ∧ (Cond.instanceMethod y).before args s = true) (is : List Nat) (hC : is.map (fun i => ws[i]?) = w0.map some) (hnd : va_nd is = true) (hn : As.length = n) (hst : st = As.reverse ++ .ref b :: rest) (hW : (rest.map fun v => v.category).sum ≤ 8) (hf : cells + mc ≤ R.cells ∧ slots + ms ≤ R.slots) (hd : decode cc pc = .ok (.invokespecial index, 3))
    (hpost : ∀ v w, post v w → v = none ∧ ∃ w1 nw, w = w1 ++ nw ∧ w1.map Prod.fst = w0.map Prod.fst)
    (k : ∀ w1 nw : va_W, post none (w1 ++ nw) → w1.map Prod.fst = w0.map Prod.fst → gw p l e R s m args below meth c nL D cl A Q (cells + mc) (slots + ms) (pc + 3) L rest (gput ws is w1 ++ nw)) : gw p l e R s m args below meth c nL D cl A Q cells slots pc L st ws := by
  intro ls H locs h1 h2 h3 h4 T hT X
  have hP0 : va_P D cl w0 H := fun j q hq => by
    obtain ⟨i, -, h⟩ := (g_at hC).1 j q hq
    exact h2 i q h
  have hD0 : va_D A w0 := h3.sub is hnd hC
  have hF := va_free (wc := w0) h3 h4 F.2.2.1 is hC
  obtain ⟨v, st₀, t, T', Lc, e0, X', hL, e1, e2, ⟨⟨v', w', hv, hpo, hP1, -, hD1⟩, hz, hk⟩, stp⟩ := va_runIN (b := b) (As := As) (rest := rest) F.1 (hM H.size) cw ⟨gP_blind, gP_pre F hP0 (hD0.weaken (fun _ _ _ _ => trivial))⟩ rfl hn h1.1 hst (lv_room hW) hd hf T hT X
  cases hv
  obtain ⟨rfl, w1, nw, rfl, hadr⟩ := hpost _ _ hpo
  rw [e0] at hz hk
  obtain ⟨j1, j2⟩ := gput_more (H1 := t.heap) h2 h3 hC hadr hk hF hP1 hD1
  rw [← e1] at j1
  obtain ⟨t2, a1, b1⟩ := k w1 nw hpo hadr ls T'.heap (locs ++ Lc) h1 j1 j2 ⟨Nat.le_trans h4.1 (by rw [e1]; exact hz), fun q g1 g2 => by rw [e1, hk q (Nat.lt_of_lt_of_le g1 h4.1) (fun z => g2 (hF q z))]; exact h4.2.1 q g1 g2, fun q hq => by
      rcases List.mem_append.mp hq with h | h
      · exact h4.2.2 q h
      · exact hF _ (hL q h)⟩ T' rfl X'
  exact ⟨t2, stp t2 a1, b1⟩
theorem g_mmax (F : gf p s m args meth c nL D cl A cc Ts own tys) {index : Nat} {x y : Int32} (hlink : (Cond.methodLink own index Lib.Math.max.name).before args s = true) (hstat : (Cond.static Lib.Math.max.name).before args s = true) (hini : (Cond.initialized "java/lang/Math").before args s = true) (hcode : (Cond.code Lib.Math.max.name Lib.Math.max.code 2 (some .int)).before args s = true) (hfr : 1 ≤ R.frames) (hlo : (st.map fun v => v.category).sum + 13 ≤ R.locals) (hc : cells ≤ R.cells) (hs : slots ≤ R.slots) (hd : decode cc pc = .ok (.invokestatic index, 3))
    (k : gw p l e R s m args below meth c nL D cl A Q cells slots (pc + 3) L (.int (if x < y then y else x) :: st) ws) : gw p l e R s m args below meth c nL D cl A Q cells slots pc L (.int y :: .int x :: st) ws :=
  fun ls H locs h1 h2 h3 h4 => va_mmax F.1.1 F.1.2.1 (by rw [F.1.2.2.1]; exact h1.1.symm) F.1.2.2.2.1 hlink hstat hini hcode hfr hlo hc hs hd (k ls H locs h1 h2 h3 h4)
theorem g_mmin (F : gf p s m args meth c nL D cl A cc Ts own tys) {index : Nat} {x y : Int32} (hlink : (Cond.methodLink own index Lib.Math.min.name).before args s = true) (hstat : (Cond.static Lib.Math.min.name).before args s = true) (hini : (Cond.initialized "java/lang/Math").before args s = true) (hcode : (Cond.code Lib.Math.min.name Lib.Math.min.code 2 (some .int)).before args s = true) (hfr : 1 ≤ R.frames) (hlo : (st.map fun v => v.category).sum + 13 ≤ R.locals) (hc : cells ≤ R.cells) (hs : slots ≤ R.slots) (hd : decode cc pc = .ok (.invokestatic index, 3))
    (k : gw p l e R s m args below meth c nL D cl A Q cells slots (pc + 3) L (.int (if y < x then y else x) :: st) ws) : gw p l e R s m args below meth c nL D cl A Q cells slots pc L (.int y :: .int x :: st) ws :=
  fun ls H locs h1 h2 h3 h4 => va_mmin F.1.1 F.1.2.1 (by rw [F.1.2.2.1]; exact h1.1.symm) F.1.2.2.2.1 hlink hstat hini hcode hfr hlo hc hs hd (k ls H locs h1 h2 h3 h4)
theorem g_newq (F : gf p s m args meth c nL D cl A cc Ts own tys) (t0 : Nat) {cA : ClassId} {C : String} {index : Nat} (ht : tys[t0]? = some (cA, .object C)) (hcl : (Cond.classLink own index C).before args s = true) (hover : va_AO C s) {n : Int32} {N : Nat} (hn : ¬ n < 0) (hN : n.toNatClampNeg = N) (hbytes : N * 4 ≤ 536870912) (hcells : cells + 1 ≤ R.cells) (hslots : slots + N ≤ R.slots) (hd : decode cc pc = .ok (.anewarray index, 3))
    (k : ∀ q : Nat, gw p l e R s m args below meth c nL D cl A Q (cells + 1) (slots + N) (pc + 3) L (.ref q :: st) (ws ++ [(q, .inl (cA, N, .inr (.inr (.inr (.inr (fun _ => none))))))])) : gw p l e R s m args below meth c nL D cl A Q cells slots pc L (.int n :: st) ws :=
  fun ls H locs h1 h2 h3 h4 => va_newq F.1.1 F.1.2.1 F.1.2.2.2.1 hcl hover F.2.1 h2 h3 h4 F.2.2.1 hn hN hbytes hcells hslots hd (fun q cB H1 hK hP hD hS => by
    obtain ⟨_, _, _, _, _, e1⟩ := (F.2.1.2 t0 _ ht).2
    obtain ⟨_, _, _, _, _, e2⟩ := (hK.2 tys.length (cB, .object C) (by simp)).2
    have e3 : cB = cA := Option.some.inj (e2.symm.trans e1)
    subst e3
    exact k q ls H1 locs h1 hP hD hS)
-- a call over the whole world: its cells stay where they stand
theorem adr_at {w0 w1 : va_W} (hadr : w1.map Prod.fst = w0.map Prod.fst) : ∀ (k : Nat) (q : Nat × va_E), w1[k]? = some q → ∃ q0, w0[k]? = some q0 ∧ q0.1 = q.1 := by
  intro k q h
  have e1 : (w1.map Prod.fst)[k]? = some q.1 := by rw [List.getElem?_map, h]; rfl
  rw [hadr, List.getElem?_map] at e1
  cases h0 : w0[k]? with
  | none => rw [h0] at e1; cases e1
  | some q0 => rw [h0] at e1; exact ⟨q0, rfl, Option.some.inj e1⟩
theorem adr_D {w0 w1 : va_W} (hadr : w1.map Prod.fst = w0.map Prod.fst) (h : va_D A w0) : va_D A w1 := by
  refine ⟨fun i j x y hx hy hxy => ?_, fun k q hk => ?_⟩
  · obtain ⟨x0, h1, h2⟩ := adr_at hadr i x hx
    obtain ⟨y0, h3, h4⟩ := adr_at hadr j y hy
    exact h.1 i j x0 y0 h1 h3 (h2.trans (hxy.trans h4.symm))
  · obtain ⟨q0, h1, h2⟩ := adr_at hadr k q hk
    rw [← h2]; exact h.2 k q0 h1
theorem g_callA (F : gf p s m args meth c nL D cl A cc Ts own tys) {av rest : List Value} {w1 : va_W} {rv : Option Value} (hadr : w1.map Prod.fst = ws.map Prod.fst)
    (hrun : ∀ (ls : Array Slot) (H : Heap) (locs : List Loc), lv_has ls nL L → va_P D cl ws H → va_D (fun _ => True) ws → va_Run p l e R s m args below meth c H locs cells slots 0 0 (F0 m pc ls st) rest (gQ D cl tys (fun v w => v = rv ∧ w = w1) (va_A ws H.size) av.toArray) (va_A ws H.size))
    (k : gw p l e R s m args below meth c nL D cl A Q cells slots (pc + 3) L (rv.toList ++ rest) w1) : gw p l e R s m args below meth c nL D cl A Q cells slots pc L st ws := by
  intro ls H locs h1 h2 h3 h4 T hT X
  have hF : ∀ q, va_A ws H.size q → A q := by
    intro q h
    rcases h with ⟨k, e, h⟩ | h
    · exact h3.2 k (q, e) h
    · exact F.2.2.1 q (Nat.le_trans h4.1 h)
  obtain ⟨v, st₀, t, T', Lc, e0, X', hL, e1, e2, ⟨⟨v', w', hv, ⟨rfl, rfl⟩, hP1, -, -⟩, hz, hk⟩, stp⟩ := hrun ls H locs h1 h2 (h3.weaken (fun _ _ _ _ => trivial)) T hT X
  cases hv
  rw [e0] at hz hk
  rw [← e1] at hP1
  obtain ⟨t2, a1, b1⟩ := k ls T'.heap (locs ++ Lc) h1 hP1 (adr_D hadr h3) ⟨Nat.le_trans h4.1 (by rw [e1]; exact hz), fun q g1 g2 => by rw [e1, hk q (Nat.lt_of_lt_of_le g1 h4.1) (fun z => g2 (hF q z))]; exact h4.2.1 q g1 g2, fun q hq => by
      rcases List.mem_append.mp hq with h | h
      · exact h4.2.2 q h
      · exact hF _ (hL q h)⟩ T' rfl X'
  exact ⟨t2, stp t2 a1, b1⟩
end GC
