/-! THE CLAIM OUT OF ONE WALK OF THE LAW'S BODY. Your part is whole_start (and what it stands on); all else here is the same for every law, but numbers. -/
def R_law : String := "EpochTreeLaw"
def lw_P (b : Addr) (xs : List Int32) (args : Array Value) (s : State) : Prop := args = #[.ref b] ∧ s.IntsAt b xs ∧ xs.length ≤ 3072 ∧ (Jvm.Cond.and given_1 narrow_1).before args s = true
def lw_Q (_ : Array Value) (s : State) (o : Outcome) (t : State) : Prop := o = .returned (some (.int 1)) ∧ Framed s o t [] 600000 7302250
def lw_Z (below : List Frame) (a : Array Value) (s : State) : State → Prop := fun t => ∃ o, t.status = .running ∧ Ended t below o ∧ lw_Q a s o t
/-- the law's own end, with 1 on the stack, nothing written that was there before, its room as the claim has it -/
theorem lw_ret {p : Program} {l : Launch} {e : Env} {s : State} {m : MethodId} {below : List Frame} {meth : Method} {c : Code} {b : Nat} (hx : p.tables.exec = Jvm.exec) (hb : c.code = code) (hr : meth.sig.returnType = ret) (hlocks : meth.locks = false) {pc : Nat} {H : Heap} {ls : Array Slot} (hdg : decode code pc = .ok (.ireturn, 1)) : W p l e room_1 s m #[Value.ref b] below meth c H [] 600000 7302250 (lw_Z below #[Value.ref b] s) (F0 m pc ls [.int 1]) := by
  intro T hT X
  obtain ⟨fs, hret, hrun, hended, hW, hframe⟩ := X.leave (v := some (.int 1)) (hlocks := hlocks) (fun h => by rw [hr] at h; cases h)
  have hmeth' : T.vm.method? m = some meth := X.method'
  refine ⟨T.setFrames fs, ?_, .returned (some (.int 1)), hrun, hended, rfl, ⟨_, rfl⟩, hW, hframe⟩
  jvm_step X.here [X.here.top, hx, hb, hdg, hmeth', hr, ret, narrow_b1]
  (try refine ⟨rfl, ?_⟩); (try refine ⟨rfl, ?_⟩)
  first | (intro acts; rw [hret _ acts rfl rfl rfl]) | rw [hret _ _ rfl rfl rfl]
  exact Steps.refl _
/-- what holds at the law's entry: the machine, the code, the tables' words (any of lw_tbl by 'hts w (by decide +kernel)'), the script of L ints xs at the cell b, what the Statement gives of the start (any of its parts by flat_of_before) -/
def lw_At (p : Program) (s : State) (m : MethodId) (meth : Method) (c : Code) (b L : Nat) (xs : Nat → Int32) : Prop :=
  p.tables.exec = Jvm.exec ∧ c.code = code ∧ meth.sig.returnType = ret ∧ c.maxLocals = 4 ∧ s.vm.findClass R_law = some m.cls ∧ (∀ w ∈ lw_tbl, w.before #[Value.ref b] s = true) ∧ va_X b L xs s s.heap ∧ b < s.heap.size ∧ meth.locks = false ∧ (Jvm.Cond.and given_1 narrow_1).before #[Value.ref b] s = true
section LWW
variable {p : Program} {l : Launch} {e : Env} {s : State} {m : MethodId} {below : List Frame} {meth : Method} {cd : Code} {D : va_G} {cI cS cZ : ClassId} {b Ln i T cells slots : Nat} {xs : Nat → Int32} {ad ad' : Nat → Nat} {c : CS} {a : RS}
abbrev lwfx (p : Program) (s : State) (m : MethodId) (b : Nat) (meth : Method) (cd : Code) (D : va_G) (cI cS cZ : ClassId) : Prop := gf p s m #[Value.ref b] meth cd 4 D cls8 (fun q => s.heap.size ≤ q) code (Jvm.Cond.initialized "EpochTreeLaw" :: tb) R_law (tys3 cI cS cZ)
abbrev lwgx (p : Program) (l : Launch) (e : Env) (s : State) (m : MethodId) (b : Nat) (below : List Frame) (meth : Method) (cd : Code) (D : va_G) (cells slots pc : Nat) (L : List (Nat × Value)) (st : List Value) (ws : va_W) : Prop := gw p l e room_1 s m #[Value.ref b] below meth cd 4 D cls8 (fun q => s.heap.size ≤ q) (lw_Z below #[Value.ref b] s) cells slots pc L st ws
abbrev lwLL (b i r q : Nat) : List (Nat × Value) := [(3, .int (Int32.ofNat i)), (2, .ref r), (1, .ref q), (0, .ref b)]
theorem nc_lt (x : Int32) : nc x < 4294967296 := x.toUInt32.toNat_lt
theorem key_cases (z : Int32) : (z.toInt < 0 ∨ 19 < z.toInt) ∨ ∃ k : Nat, k < 20 ∧ z = Int32.ofNat k := by
  by_cases h : 0 ≤ z.toInt ∧ z.toInt ≤ 19
  · exact Or.inr ⟨z.toInt.toNat, by omega, Int32.toInt_inj.mp (by rw [Int32.toInt_ofNat_of_lt (by omega)]; omega)⟩
  · exact Or.inl (by omega)
theorem end_test {n i : Nat} (hn : n ≤ 3072) (hi : i ≤ 3078) (h : ¬ Int32.ofNat n - Int32.ofNat 6 < Int32.ofNat i) : i + 6 ≤ n := by
  by_cases h6 : 6 ≤ n
  · have e : Int32.ofNat n - Int32.ofNat 6 = Int32.ofNat (n - 6) := by
      conv => lhs; rw [show n = (n - 6) + 6 by omega, ← ofN_add]
      simp
    rw [e, ofN_lt (by omega) (by omega)] at h
    omega
  · refine absurd ?_ h
    rw [Int32.lt_iff_toInt_lt, Int32.toInt_ofNat_of_lt (by omega)]
    have e : ∀ k : Fin 6, (Int32.ofNat k.val - Int32.ofNat 6).toInt < 0 := by decide +kernel
    have := e ⟨n, by omega⟩
    have : (Int32.ofNat n - Int32.ofNat 6).toInt < 0 := this
    omega
set_option maxHeartbeats 1000000 in
theorem lc_lead (F : lwfx p s m b meth cd D cI cS cZ) (hX : va_X b Ln xs s s.heap) (hbl : b < s.heap.size) (hLn : Ln ≤ 3072) (hi : i + 6 ≤ Ln) (hcs : cells ≤ room_1.cells ∧ slots ≤ room_1.slots) (h : Inv T c a) (hT : T < 1000000)
    (k : ∀ (c' : CS) (a' : RS), Inv (T + 1) c' a' → lwgx p l e s m b below meth cd D cells slots 704 (lwLL b i (ad' 0) (ad 0)) [] (cwld cI cS c' ad ++ rwld cI cZ a' ad')) : lwgx p l e s m b below meth cd D cells slots 128 (lwLL b i (ad' 0) (ad 0)) [] (cwld cI cS c ad ++ rwld cI cZ a ad') := by
  have X := i_lead h (v := nc (xs (i + 1))) (nc_lt _)
  refine g_aload_n F dL_128 2 rfl ?_
  refine f_arg F hX hbl (Nat.not_le.mpr hbl) (by omega) 1 (by decide) (by omega) 0 3 rfl rfl dL_129 dL_130 dL_131 dL_132 dL_133 ?_
  refine f_calC F (k_X6_lead l D cI cS cZ ad c (nc (xs (i + 1))) (nc_lt _) h.1) pl_ET rfl tb_124 tb_121 tb_122 tb_123 tb_1 hdX6_lead ⟨rfl, rfl⟩ ⟨Nat.le_of_ble_eq_true rfl, Nat.le_of_ble_eq_true rfl⟩ cw_adr rfl rfl (Nat.le_of_ble_eq_true rfl) hcs dL_134 rfl ?_
  refine g_aload_n F dL_137 1 rfl ?_
  refine f_arg F hX hbl (Nat.not_le.mpr hbl) (by omega) 1 (by decide) (by omega) 0 3 rfl rfl dL_138 dL_139 dL_140 dL_141 dL_142 ?_
  refine f_calR F (k_X7_lead l D cI cS cZ ad' a (nc (xs (i + 1))) (nc_lt _)) ql_RM rfl tb_427 tb_424 tb_425 tb_426 tb_8 hdX7_lead ⟨rfl, rfl⟩ ⟨Nat.le_of_ble_eq_true rfl, Nat.le_of_ble_eq_true rfl⟩ rw_adr rfl rfl (Nat.le_of_ble_eq_true rfl) hcs dL_143 rfl ?_
  exact g_icmp_eq F dL_146 (tgt := 704) rfl (fun _ => k _ _ X.2) (fun hne => absurd (congrArg Int32.ofNat X.1) hne)
set_option maxHeartbeats 1000000 in
theorem lc_follow (F : lwfx p s m b meth cd D cI cS cZ) (hX : va_X b Ln xs s s.heap) (hbl : b < s.heap.size) (hLn : Ln ≤ 3072) (hi : i + 6 ≤ Ln) (hcs : cells ≤ room_1.cells ∧ slots ≤ room_1.slots) (h : Inv T c a) (hT : T < 1000000)
    (k : ∀ (c' : CS) (a' : RS), Inv (T + 1) c' a' → lwgx p l e s m b below meth cd D cells slots 704 (lwLL b i (ad' 0) (ad 0)) [] (cwld cI cS c' ad ++ rwld cI cZ a' ad')) : lwgx p l e s m b below meth cd D cells slots 151 (lwLL b i (ad' 0) (ad 0)) [] (cwld cI cS c ad ++ rwld cI cZ a ad') := by
  have X := i_follow h (v := nc (xs (i + 1))) (w := nc (xs (i + 2))) (nc_lt _) (nc_lt _)
  refine g_aload_n F dL_151 2 rfl ?_
  refine f_arg F hX hbl (Nat.not_le.mpr hbl) (by omega) 1 (by decide) (by omega) 0 3 rfl rfl dL_152 dL_153 dL_154 dL_155 dL_156 ?_
  refine f_arg F hX hbl (Nat.not_le.mpr hbl) (by omega) 2 (by decide) (by omega) 0 3 rfl rfl dL_157 dL_158 dL_159 dL_160 dL_161 ?_
  refine f_calC F (k_X6_follow l D cI cS cZ ad c (nc (xs (i + 1))) (nc (xs (i + 2))) (nc_lt _) (nc_lt _) h.1) pl_ET rfl tb_136 tb_133 tb_134 tb_135 tb_1 hdX6_follow ⟨rfl, rfl⟩ ⟨Nat.le_of_ble_eq_true rfl, Nat.le_of_ble_eq_true rfl⟩ cw_adr rfl rfl (Nat.le_of_ble_eq_true rfl) hcs dL_162 rfl ?_
  refine g_aload_n F dL_165 1 rfl ?_
  refine f_arg F hX hbl (Nat.not_le.mpr hbl) (by omega) 1 (by decide) (by omega) 0 3 rfl rfl dL_166 dL_167 dL_168 dL_169 dL_170 ?_
  refine f_arg F hX hbl (Nat.not_le.mpr hbl) (by omega) 2 (by decide) (by omega) 0 3 rfl rfl dL_171 dL_172 dL_173 dL_174 dL_175 ?_
  refine f_calR F (k_X7_follow l D cI cS cZ ad' a (nc (xs (i + 1))) (nc (xs (i + 2))) (nc_lt _) (nc_lt _)) ql_RM rfl tb_434 tb_431 tb_432 tb_433 tb_8 hdX7_follow ⟨rfl, rfl⟩ ⟨Nat.le_of_ble_eq_true rfl, Nat.le_of_ble_eq_true rfl⟩ rw_adr rfl rfl (Nat.le_of_ble_eq_true rfl) hcs dL_176 rfl ?_
  exact g_icmp_eq F dL_179 (tgt := 704) rfl (fun _ => k _ _ X.2) (fun hne => absurd (congrArg Int32.ofNat X.1) hne)
set_option maxHeartbeats 1000000 in
theorem lc_quit (F : lwfx p s m b meth cd D cI cS cZ) (hX : va_X b Ln xs s s.heap) (hbl : b < s.heap.size) (hLn : Ln ≤ 3072) (hi : i + 6 ≤ Ln) (hcs : cells ≤ room_1.cells ∧ slots ≤ room_1.slots) (h : Inv T c a) (hT : T < 1000000)
    (k : ∀ (c' : CS) (a' : RS), Inv (T + 1) c' a' → lwgx p l e s m b below meth cd D cells slots 704 (lwLL b i (ad' 0) (ad 0)) [] (cwld cI cS c' ad ++ rwld cI cZ a' ad')) : lwgx p l e s m b below meth cd D cells slots 184 (lwLL b i (ad' 0) (ad 0)) [] (cwld cI cS c ad ++ rwld cI cZ a ad') := by
  have X := i_quit h (v := nc (xs (i + 1))) (nc_lt _)
  refine g_aload_n F dL_184 2 rfl ?_
  refine f_arg F hX hbl (Nat.not_le.mpr hbl) (by omega) 1 (by decide) (by omega) 0 3 rfl rfl dL_185 dL_186 dL_187 dL_188 dL_189 ?_
  refine f_calC F (k_X6_quit l D cI cS cZ ad c (nc (xs (i + 1))) (nc_lt _) h.1) pl_ET rfl tb_145 tb_142 tb_143 tb_144 tb_1 hdX6_quit ⟨rfl, rfl⟩ ⟨Nat.le_of_ble_eq_true rfl, Nat.le_of_ble_eq_true rfl⟩ cw_adr rfl rfl (Nat.le_of_ble_eq_true rfl) hcs dL_190 rfl ?_
  refine g_aload_n F dL_193 1 rfl ?_
  refine f_arg F hX hbl (Nat.not_le.mpr hbl) (by omega) 1 (by decide) (by omega) 0 3 rfl rfl dL_194 dL_195 dL_196 dL_197 dL_198 ?_
  refine f_calR F (k_X7_quit l D cI cS cZ ad' a (nc (xs (i + 1))) (nc_lt _)) ql_RM rfl tb_444 tb_441 tb_442 tb_443 tb_8 hdX7_quit ⟨rfl, rfl⟩ ⟨Nat.le_of_ble_eq_true rfl, Nat.le_of_ble_eq_true rfl⟩ rw_adr rfl rfl (Nat.le_of_ble_eq_true rfl) hcs dL_199 rfl ?_
  exact g_icmp_eq F dL_202 (tgt := 704) rfl (fun _ => k _ _ X.2) (fun hne => absurd (congrArg Int32.ofNat X.1) hne)
set_option maxHeartbeats 1000000 in
theorem lc_crash (F : lwfx p s m b meth cd D cI cS cZ) (hX : va_X b Ln xs s s.heap) (hbl : b < s.heap.size) (hLn : Ln ≤ 3072) (hi : i + 6 ≤ Ln) (hcs : cells ≤ room_1.cells ∧ slots ≤ room_1.slots) (h : Inv T c a) (hT : T < 1000000)
    (k : ∀ (c' : CS) (a' : RS), Inv (T + 1) c' a' → lwgx p l e s m b below meth cd D cells slots 704 (lwLL b i (ad' 0) (ad 0)) [] (cwld cI cS c' ad ++ rwld cI cZ a' ad')) : lwgx p l e s m b below meth cd D cells slots 207 (lwLL b i (ad' 0) (ad 0)) [] (cwld cI cS c ad ++ rwld cI cZ a ad') := by
  have X := i_crash h (v := nc (xs (i + 1))) (nc_lt _)
  refine g_aload_n F dL_207 2 rfl ?_
  refine f_arg F hX hbl (Nat.not_le.mpr hbl) (by omega) 1 (by decide) (by omega) 0 3 rfl rfl dL_208 dL_209 dL_210 dL_211 dL_212 ?_
  refine f_calC F (k_X6_crash l D cI cS cZ ad c (nc (xs (i + 1))) (nc_lt _) h.1) pl_ET rfl tb_159 tb_156 tb_157 tb_158 tb_1 hdX6_crash ⟨rfl, rfl⟩ ⟨Nat.le_of_ble_eq_true rfl, Nat.le_of_ble_eq_true rfl⟩ cw_adr rfl rfl (Nat.le_of_ble_eq_true rfl) hcs dL_213 rfl ?_
  refine g_aload_n F dL_216 1 rfl ?_
  refine f_arg F hX hbl (Nat.not_le.mpr hbl) (by omega) 1 (by decide) (by omega) 0 3 rfl rfl dL_217 dL_218 dL_219 dL_220 dL_221 ?_
  refine f_calR F (k_X7_crash l D cI cS cZ ad' a (nc (xs (i + 1))) (nc_lt _)) ql_RM rfl tb_454 tb_451 tb_452 tb_453 tb_8 hdX7_crash ⟨rfl, rfl⟩ ⟨Nat.le_of_ble_eq_true rfl, Nat.le_of_ble_eq_true rfl⟩ rw_adr rfl rfl (Nat.le_of_ble_eq_true rfl) hcs dL_222 rfl ?_
  exact g_icmp_eq F dL_225 (tgt := 704) rfl (fun _ => k _ _ X.2) (fun hne => absurd (congrArg Int32.ofNat X.1) hne)
set_option maxHeartbeats 1000000 in
theorem lc_restart (F : lwfx p s m b meth cd D cI cS cZ) (hX : va_X b Ln xs s s.heap) (hbl : b < s.heap.size) (hLn : Ln ≤ 3072) (hi : i + 6 ≤ Ln) (hcs : cells ≤ room_1.cells ∧ slots ≤ room_1.slots) (h : Inv T c a) (hT : T < 1000000)
    (k : ∀ (c' : CS) (a' : RS), Inv (T + 1) c' a' → lwgx p l e s m b below meth cd D cells slots 704 (lwLL b i (ad' 0) (ad 0)) [] (cwld cI cS c' ad ++ rwld cI cZ a' ad')) : lwgx p l e s m b below meth cd D cells slots 230 (lwLL b i (ad' 0) (ad 0)) [] (cwld cI cS c ad ++ rwld cI cZ a ad') := by
  have X := i_restart h (v := nc (xs (i + 1))) (nc_lt _)
  refine g_aload_n F dL_230 2 rfl ?_
  refine f_arg F hX hbl (Nat.not_le.mpr hbl) (by omega) 1 (by decide) (by omega) 0 3 rfl rfl dL_231 dL_232 dL_233 dL_234 dL_235 ?_
  refine f_calC F (k_X6_restart l D cI cS cZ ad c (nc (xs (i + 1))) (nc_lt _) h.1) pl_ET rfl tb_167 tb_164 tb_165 tb_166 tb_1 hdX6_restart ⟨rfl, rfl⟩ ⟨Nat.le_of_ble_eq_true rfl, Nat.le_of_ble_eq_true rfl⟩ cw_adr rfl rfl (Nat.le_of_ble_eq_true rfl) hcs dL_236 rfl ?_
  refine g_aload_n F dL_239 1 rfl ?_
  refine f_arg F hX hbl (Nat.not_le.mpr hbl) (by omega) 1 (by decide) (by omega) 0 3 rfl rfl dL_240 dL_241 dL_242 dL_243 dL_244 ?_
  refine f_calR F (k_X7_restart l D cI cS cZ ad' a (nc (xs (i + 1))) (nc_lt _)) ql_RM rfl tb_458 tb_455 tb_456 tb_457 tb_8 hdX7_restart ⟨rfl, rfl⟩ ⟨Nat.le_of_ble_eq_true rfl, Nat.le_of_ble_eq_true rfl⟩ rw_adr rfl rfl (Nat.le_of_ble_eq_true rfl) hcs dL_245 rfl ?_
  exact g_icmp_eq F dL_248 (tgt := 704) rfl (fun _ => k _ _ X.2) (fun hne => absurd (congrArg Int32.ofNat X.1) hne)
set_option maxHeartbeats 1000000 in
theorem lc_up (F : lwfx p s m b meth cd D cI cS cZ) (hX : va_X b Ln xs s s.heap) (hbl : b < s.heap.size) (hLn : Ln ≤ 3072) (hi : i + 6 ≤ Ln) (hcs : cells ≤ room_1.cells ∧ slots ≤ room_1.slots) (h : Inv T c a) (hT : T < 1000000)
    (k : ∀ (c' : CS) (a' : RS), Inv (T + 1) c' a' → lwgx p l e s m b below meth cd D cells slots 704 (lwLL b i (ad' 0) (ad 0)) [] (cwld cI cS c' ad ++ rwld cI cZ a' ad')) : lwgx p l e s m b below meth cd D cells slots 253 (lwLL b i (ad' 0) (ad 0)) [] (cwld cI cS c ad ++ rwld cI cZ a ad') := by
  have X := i_up h (v := nc (xs (i + 1))) (nc_lt _) hT
  refine g_aload_n F dL_253 2 rfl ?_
  refine f_arg F hX hbl (Nat.not_le.mpr hbl) (by omega) 1 (by decide) (by omega) 0 3 rfl rfl dL_254 dL_255 dL_256 dL_257 dL_258 ?_
  refine f_calC F (k_X6_up l D cI cS cZ ad c (nc (xs (i + 1))) (nc_lt _) h.1 (i_up_hval h (nc_lt _) hT)) pl_ET rfl tb_171 tb_168 tb_169 tb_170 tb_1 hdX6_up ⟨rfl, rfl⟩ ⟨Nat.le_of_ble_eq_true rfl, Nat.le_of_ble_eq_true rfl⟩ cw_adr rfl rfl (Nat.le_of_ble_eq_true rfl) hcs dL_259 rfl ?_
  refine g_aload_n F dL_262 1 rfl ?_
  refine f_arg F hX hbl (Nat.not_le.mpr hbl) (by omega) 1 (by decide) (by omega) 0 3 rfl rfl dL_263 dL_264 dL_265 dL_266 dL_267 ?_
  refine f_calR F (k_X7_up l D cI cS cZ ad' a (nc (xs (i + 1))) (nc_lt _) (i_RQ h)) ql_RM rfl tb_462 tb_459 tb_460 tb_461 tb_8 hdX7_up ⟨rfl, rfl⟩ ⟨Nat.le_of_ble_eq_true rfl, Nat.le_of_ble_eq_true rfl⟩ rw_adr rfl rfl (Nat.le_of_ble_eq_true rfl) hcs dL_268 rfl ?_
  exact g_icmp_eq F dL_271 (tgt := 704) rfl (fun _ => k _ _ X.2) (fun hne => absurd (congrArg Int32.ofNat X.1) hne)
set_option maxHeartbeats 1000000 in
theorem lc_down (F : lwfx p s m b meth cd D cI cS cZ) (hX : va_X b Ln xs s s.heap) (hbl : b < s.heap.size) (hLn : Ln ≤ 3072) (hi : i + 6 ≤ Ln) (hcs : cells ≤ room_1.cells ∧ slots ≤ room_1.slots) (h : Inv T c a) (hT : T < 1000000)
    (k : ∀ (c' : CS) (a' : RS), Inv (T + 1) c' a' → lwgx p l e s m b below meth cd D cells slots 704 (lwLL b i (ad' 0) (ad 0)) [] (cwld cI cS c' ad ++ rwld cI cZ a' ad')) : lwgx p l e s m b below meth cd D cells slots 276 (lwLL b i (ad' 0) (ad 0)) [] (cwld cI cS c ad ++ rwld cI cZ a ad') := by
  have X := i_down h (v := nc (xs (i + 1))) (nc_lt _) hT
  refine g_aload_n F dL_276 2 rfl ?_
  refine f_arg F hX hbl (Nat.not_le.mpr hbl) (by omega) 1 (by decide) (by omega) 0 3 rfl rfl dL_277 dL_278 dL_279 dL_280 dL_281 ?_
  refine f_calC F (k_X6_down l D cI cS cZ ad c (nc (xs (i + 1))) (nc_lt _) h.1 (i_dn_hval h (nc_lt _) hT)) pl_ET rfl tb_265 tb_262 tb_263 tb_264 tb_1 hdX6_down ⟨rfl, rfl⟩ ⟨Nat.le_of_ble_eq_true rfl, Nat.le_of_ble_eq_true rfl⟩ cw_adr rfl rfl (Nat.le_of_ble_eq_true rfl) hcs dL_282 rfl ?_
  refine g_aload_n F dL_285 1 rfl ?_
  refine f_arg F hX hbl (Nat.not_le.mpr hbl) (by omega) 1 (by decide) (by omega) 0 3 rfl rfl dL_286 dL_287 dL_288 dL_289 dL_290 ?_
  refine f_calR F (k_X7_down l D cI cS cZ ad' a (nc (xs (i + 1))) (nc_lt _) (i_RQ h) (i_dn_hn h hT)) ql_RM rfl tb_487 tb_484 tb_485 tb_486 tb_8 hdX7_down ⟨rfl, rfl⟩ ⟨Nat.le_of_ble_eq_true rfl, Nat.le_of_ble_eq_true rfl⟩ rw_adr rfl rfl (Nat.le_of_ble_eq_true rfl) hcs dL_291 rfl ?_
  exact g_icmp_eq F dL_294 (tgt := 704) rfl (fun _ => k _ _ X.2) (fun hne => absurd (congrArg Int32.ofNat X.1) hne)
set_option maxHeartbeats 1000000 in
theorem lc_submit (F : lwfx p s m b meth cd D cI cS cZ) (hX : va_X b Ln xs s s.heap) (hbl : b < s.heap.size) (hLn : Ln ≤ 3072) (hi : i + 6 ≤ Ln) (hcs : cells ≤ room_1.cells ∧ slots ≤ room_1.slots) (h : Inv T c a) (hT : T < 1000000)
    (k : ∀ (c' : CS) (a' : RS), Inv (T + 1) c' a' → lwgx p l e s m b below meth cd D cells slots 704 (lwLL b i (ad' 0) (ad 0)) [] (cwld cI cS c' ad ++ rwld cI cZ a' ad')) : lwgx p l e s m b below meth cd D cells slots 299 (lwLL b i (ad' 0) (ad 0)) [] (cwld cI cS c ad ++ rwld cI cZ a ad') := by
  have X := i_submit h (v := nc (xs (i + 1))) (kd := nc (xs (i + 2))) (pa := nc (xs (i + 3))) (va := nc (xs (i + 4))) (vb := nc (xs (i + 5))) (nc_lt _) (nc_lt _) (nc_lt _) (nc_lt _)
  refine g_aload_n F dL_299 2 rfl ?_
  refine f_arg F hX hbl (Nat.not_le.mpr hbl) (by omega) 1 (by decide) (by omega) 0 3 rfl rfl dL_300 dL_301 dL_302 dL_303 dL_304 ?_
  refine f_arg F hX hbl (Nat.not_le.mpr hbl) (by omega) 2 (by decide) (by omega) 0 3 rfl rfl dL_305 dL_306 dL_307 dL_308 dL_309 ?_
  refine f_arg F hX hbl (Nat.not_le.mpr hbl) (by omega) 3 (by decide) (by omega) 0 3 rfl rfl dL_310 dL_311 dL_312 dL_313 dL_314 ?_
  refine f_arg F hX hbl (Nat.not_le.mpr hbl) (by omega) 4 (by decide) (by omega) 0 3 rfl rfl dL_315 dL_316 dL_317 dL_318 dL_319 ?_
  refine f_arg F hX hbl (Nat.not_le.mpr hbl) (by omega) 5 (by decide) (by omega) 0 3 rfl rfl dL_320 dL_321 dL_322 dL_323 dL_324 ?_
  refine f_calC F (k_X6_submit l D cI cS cZ ad c (nc (xs (i + 1))) (nc (xs (i + 2))) (nc (xs (i + 3))) (nc (xs (i + 4))) (nc (xs (i + 5))) (nc_lt _) (nc_lt _) h.1) pl_ET rfl tb_278 tb_275 tb_276 tb_277 tb_1 hdX6_submit ⟨rfl, rfl⟩ ⟨Nat.le_of_ble_eq_true rfl, Nat.le_of_ble_eq_true rfl⟩ cw_adr rfl rfl (Nat.le_of_ble_eq_true rfl) hcs dL_325 rfl ?_
  refine g_aload_n F dL_328 1 rfl ?_
  refine f_arg F hX hbl (Nat.not_le.mpr hbl) (by omega) 1 (by decide) (by omega) 0 3 rfl rfl dL_329 dL_330 dL_331 dL_332 dL_333 ?_
  refine f_arg F hX hbl (Nat.not_le.mpr hbl) (by omega) 2 (by decide) (by omega) 0 3 rfl rfl dL_334 dL_335 dL_336 dL_337 dL_338 ?_
  refine f_arg F hX hbl (Nat.not_le.mpr hbl) (by omega) 3 (by decide) (by omega) 0 3 rfl rfl dL_339 dL_340 dL_341 dL_342 dL_343 ?_
  refine f_arg F hX hbl (Nat.not_le.mpr hbl) (by omega) 4 (by decide) (by omega) 0 3 rfl rfl dL_344 dL_345 dL_346 dL_347 dL_348 ?_
  refine f_arg F hX hbl (Nat.not_le.mpr hbl) (by omega) 5 (by decide) (by omega) 0 3 rfl rfl dL_349 dL_350 dL_351 dL_352 dL_353 ?_
  refine f_calR F (k_X7_submit l D cI cS cZ ad' a (nc (xs (i + 1))) (nc (xs (i + 2))) (nc (xs (i + 3))) (nc (xs (i + 4))) (nc (xs (i + 5))) (nc_lt _) (i_RQ h)) ql_RM rfl tb_491 tb_488 tb_489 tb_490 tb_8 hdX7_submit ⟨rfl, rfl⟩ ⟨Nat.le_of_ble_eq_true rfl, Nat.le_of_ble_eq_true rfl⟩ rw_adr rfl rfl (Nat.le_of_ble_eq_true rfl) hcs dL_354 rfl ?_
  exact g_icmp_eq F dL_357 (tgt := 704) rfl (fun _ => k _ _ X.2) (fun hne => absurd (congrArg Int32.ofNat X.1) hne)
set_option maxHeartbeats 1000000 in
theorem lc_tick (F : lwfx p s m b meth cd D cI cS cZ) (hX : va_X b Ln xs s s.heap) (hbl : b < s.heap.size) (hLn : Ln ≤ 3072) (hi : i + 6 ≤ Ln) (hcs : cells ≤ room_1.cells ∧ slots ≤ room_1.slots) (h : Inv T c a) (hT : T < 1000000)
    (k : ∀ (c' : CS) (a' : RS), Inv (T + 1) c' a' → lwgx p l e s m b below meth cd D cells slots 704 (lwLL b i (ad' 0) (ad 0)) [] (cwld cI cS c' ad ++ rwld cI cZ a' ad')) : lwgx p l e s m b below meth cd D cells slots 362 (lwLL b i (ad' 0) (ad 0)) [] (cwld cI cS c ad ++ rwld cI cZ a ad') := by
  have X := i_tick h
  refine g_aload_n F dL_362 2 rfl ?_
  refine f_calC F (k_X6_tick l D cI cS cZ ad c  h.1) pl_ET rfl tb_292 tb_289 tb_290 tb_291 tb_1 hdX6_tick ⟨rfl, rfl⟩ ⟨Nat.le_of_ble_eq_true rfl, Nat.le_of_ble_eq_true rfl⟩ cw_adr rfl rfl (Nat.le_of_ble_eq_true rfl) hcs dL_363 rfl ?_
  refine g_aload_n F dL_366 1 rfl ?_
  refine f_calR F (k_X7_tick l D cI cS cZ ad' a  (i_TI h)) ql_RM rfl tb_501 tb_498 tb_499 tb_500 tb_8 hdX7_tick ⟨rfl, rfl⟩ ⟨Nat.le_of_ble_eq_true rfl, Nat.le_of_ble_eq_true rfl⟩ rw_adr rfl rfl (Nat.le_of_ble_eq_true rfl) hcs dL_367 rfl ?_
  exact g_icmp_eq F dL_370 (tgt := 704) rfl (fun _ => k _ _ X.2) (fun hne => absurd (congrArg Int32.ofNat X.1) hne)
set_option maxHeartbeats 1000000 in
theorem lc_touch (F : lwfx p s m b meth cd D cI cS cZ) (hX : va_X b Ln xs s s.heap) (hbl : b < s.heap.size) (hLn : Ln ≤ 3072) (hi : i + 6 ≤ Ln) (hcs : cells ≤ room_1.cells ∧ slots ≤ room_1.slots) (h : Inv T c a) (hT : T < 1000000)
    (k : ∀ (c' : CS) (a' : RS), Inv (T + 1) c' a' → lwgx p l e s m b below meth cd D cells slots 704 (lwLL b i (ad' 0) (ad 0)) [] (cwld cI cS c' ad ++ rwld cI cZ a' ad')) : lwgx p l e s m b below meth cd D cells slots 375 (lwLL b i (ad' 0) (ad 0)) [] (cwld cI cS c ad ++ rwld cI cZ a ad') := by
  have X := i_touch h (v := nc (xs (i + 1))) (w := nc (xs (i + 2))) (nc_lt _) (nc_lt _)
  refine g_aload_n F dL_375 2 rfl ?_
  refine f_arg F hX hbl (Nat.not_le.mpr hbl) (by omega) 1 (by decide) (by omega) 0 3 rfl rfl dL_376 dL_377 dL_378 dL_379 dL_380 ?_
  refine f_arg F hX hbl (Nat.not_le.mpr hbl) (by omega) 2 (by decide) (by omega) 0 3 rfl rfl dL_381 dL_382 dL_383 dL_384 dL_385 ?_
  refine f_calC F (k_X6_touch l D cI cS cZ ad c (nc (xs (i + 1))) (nc (xs (i + 2))) (nc_lt _) (nc_lt _) h.1) pl_ET rfl tb_303 tb_300 tb_301 tb_302 tb_1 hdX6_touch ⟨rfl, rfl⟩ ⟨Nat.le_of_ble_eq_true rfl, Nat.le_of_ble_eq_true rfl⟩ cw_adr rfl rfl (Nat.le_of_ble_eq_true rfl) hcs dL_386 rfl ?_
  refine g_aload_n F dL_389 1 rfl ?_
  refine f_arg F hX hbl (Nat.not_le.mpr hbl) (by omega) 1 (by decide) (by omega) 0 3 rfl rfl dL_390 dL_391 dL_392 dL_393 dL_394 ?_
  refine f_arg F hX hbl (Nat.not_le.mpr hbl) (by omega) 2 (by decide) (by omega) 0 3 rfl rfl dL_395 dL_396 dL_397 dL_398 dL_399 ?_
  refine f_calR F (k_X7_touch l D cI cS cZ ad' a (nc (xs (i + 1))) (nc (xs (i + 2))) (nc_lt _) (nc_lt _) (i_RQ h) (fun z hz => i_EVa h hz)) ql_RM rfl tb_523 tb_520 tb_521 tb_522 tb_8 hdX7_touch ⟨rfl, rfl⟩ ⟨Nat.le_of_ble_eq_true rfl, Nat.le_of_ble_eq_true rfl⟩ rw_adr rfl rfl (Nat.le_of_ble_eq_true rfl) hcs dL_400 rfl ?_
  exact g_icmp_eq F dL_403 (tgt := 704) rfl (fun _ => k _ _ X.2) (fun hne => absurd (congrArg Int32.ofNat X.1) hne)
set_option maxHeartbeats 1000000 in
theorem lc_role (F : lwfx p s m b meth cd D cI cS cZ) (hX : va_X b Ln xs s s.heap) (hbl : b < s.heap.size) (hLn : Ln ≤ 3072) (hi : i + 6 ≤ Ln) (hcs : cells ≤ room_1.cells ∧ slots ≤ room_1.slots) (h : Inv T c a) (hT : T < 1000000)
    (k : ∀ (c' : CS) (a' : RS), Inv (T + 1) c' a' → lwgx p l e s m b below meth cd D cells slots 704 (lwLL b i (ad' 0) (ad 0)) [] (cwld cI cS c' ad ++ rwld cI cZ a' ad')) : lwgx p l e s m b below meth cd D cells slots 408 (lwLL b i (ad' 0) (ad 0)) [] (cwld cI cS c ad ++ rwld cI cZ a ad') := by
  have X := i_role h (v := nc (xs (i + 1))) (nc_lt _)
  refine g_aload_n F dL_408 2 rfl ?_
  refine f_arg F hX hbl (Nat.not_le.mpr hbl) (by omega) 1 (by decide) (by omega) 0 3 rfl rfl dL_409 dL_410 dL_411 dL_412 dL_413 ?_
  refine f_calC F (k_X6_role l D cI cS cZ ad c (nc (xs (i + 1))) (nc_lt _) h.1) pl_ET rfl tb_307 tb_304 tb_305 tb_306 tb_1 hdX6_role ⟨rfl, rfl⟩ ⟨Nat.le_of_ble_eq_true rfl, Nat.le_of_ble_eq_true rfl⟩ cw_adr rfl rfl (Nat.le_of_ble_eq_true rfl) hcs dL_414 rfl ?_
  refine g_aload_n F dL_417 1 rfl ?_
  refine f_arg F hX hbl (Nat.not_le.mpr hbl) (by omega) 1 (by decide) (by omega) 0 3 rfl rfl dL_418 dL_419 dL_420 dL_421 dL_422 ?_
  refine f_calR F (k_X7_role l D cI cS cZ ad' a (nc (xs (i + 1))) (nc_lt _)) ql_RM rfl tb_527 tb_524 tb_525 tb_526 tb_8 hdX7_role ⟨rfl, rfl⟩ ⟨Nat.le_of_ble_eq_true rfl, Nat.le_of_ble_eq_true rfl⟩ rw_adr rfl rfl (Nat.le_of_ble_eq_true rfl) hcs dL_423 rfl ?_
  exact g_icmp_eq F dL_426 (tgt := 704) rfl (fun _ => k _ _ (inv_mono h (Nat.le_succ T))) (fun hne => absurd (congrArg Int32.ofNat X) hne)
set_option maxHeartbeats 1000000 in
theorem lc_promise (F : lwfx p s m b meth cd D cI cS cZ) (hX : va_X b Ln xs s s.heap) (hbl : b < s.heap.size) (hLn : Ln ≤ 3072) (hi : i + 6 ≤ Ln) (hcs : cells ≤ room_1.cells ∧ slots ≤ room_1.slots) (h : Inv T c a) (hT : T < 1000000)
    (k : ∀ (c' : CS) (a' : RS), Inv (T + 1) c' a' → lwgx p l e s m b below meth cd D cells slots 704 (lwLL b i (ad' 0) (ad 0)) [] (cwld cI cS c' ad ++ rwld cI cZ a' ad')) : lwgx p l e s m b below meth cd D cells slots 431 (lwLL b i (ad' 0) (ad 0)) [] (cwld cI cS c ad ++ rwld cI cZ a ad') := by
  have X := i_promise h (v := nc (xs (i + 1))) (nc_lt _)
  refine g_aload_n F dL_431 2 rfl ?_
  refine f_arg F hX hbl (Nat.not_le.mpr hbl) (by omega) 1 (by decide) (by omega) 0 3 rfl rfl dL_432 dL_433 dL_434 dL_435 dL_436 ?_
  refine f_calC F (k_X6_promise l D cI cS cZ ad c (nc (xs (i + 1))) (nc_lt _) h.1) pl_ET rfl tb_311 tb_308 tb_309 tb_310 tb_1 hdX6_promise ⟨rfl, rfl⟩ ⟨Nat.le_of_ble_eq_true rfl, Nat.le_of_ble_eq_true rfl⟩ cw_adr rfl rfl (Nat.le_of_ble_eq_true rfl) hcs dL_437 rfl ?_
  refine g_aload_n F dL_440 1 rfl ?_
  refine f_arg F hX hbl (Nat.not_le.mpr hbl) (by omega) 1 (by decide) (by omega) 0 3 rfl rfl dL_441 dL_442 dL_443 dL_444 dL_445 ?_
  refine f_calR F (k_X7_promise l D cI cS cZ ad' a (nc (xs (i + 1))) (nc_lt _)) ql_RM rfl tb_531 tb_528 tb_529 tb_530 tb_8 hdX7_promise ⟨rfl, rfl⟩ ⟨Nat.le_of_ble_eq_true rfl, Nat.le_of_ble_eq_true rfl⟩ rw_adr rfl rfl (Nat.le_of_ble_eq_true rfl) hcs dL_446 rfl ?_
  exact g_icmp_eq F dL_449 (tgt := 704) rfl (fun _ => k _ _ (inv_mono h (Nat.le_succ T))) (fun hne => absurd (congrArg Int32.ofNat X) hne)
set_option maxHeartbeats 1000000 in
theorem lc_epoch (F : lwfx p s m b meth cd D cI cS cZ) (hX : va_X b Ln xs s s.heap) (hbl : b < s.heap.size) (hLn : Ln ≤ 3072) (hi : i + 6 ≤ Ln) (hcs : cells ≤ room_1.cells ∧ slots ≤ room_1.slots) (h : Inv T c a) (hT : T < 1000000)
    (k : ∀ (c' : CS) (a' : RS), Inv (T + 1) c' a' → lwgx p l e s m b below meth cd D cells slots 704 (lwLL b i (ad' 0) (ad 0)) [] (cwld cI cS c' ad ++ rwld cI cZ a' ad')) : lwgx p l e s m b below meth cd D cells slots 454 (lwLL b i (ad' 0) (ad 0)) [] (cwld cI cS c ad ++ rwld cI cZ a ad') := by
  have X := i_epoch h (v := nc (xs (i + 1))) (nc_lt _)
  refine g_aload_n F dL_454 2 rfl ?_
  refine f_arg F hX hbl (Nat.not_le.mpr hbl) (by omega) 1 (by decide) (by omega) 0 3 rfl rfl dL_455 dL_456 dL_457 dL_458 dL_459 ?_
  refine f_calC F (k_X6_epoch l D cI cS cZ ad c (nc (xs (i + 1))) (nc_lt _) h.1) pl_ET rfl tb_315 tb_312 tb_313 tb_314 tb_1 hdX6_epoch ⟨rfl, rfl⟩ ⟨Nat.le_of_ble_eq_true rfl, Nat.le_of_ble_eq_true rfl⟩ cw_adr rfl rfl (Nat.le_of_ble_eq_true rfl) hcs dL_460 rfl ?_
  refine g_aload_n F dL_463 1 rfl ?_
  refine f_arg F hX hbl (Nat.not_le.mpr hbl) (by omega) 1 (by decide) (by omega) 0 3 rfl rfl dL_464 dL_465 dL_466 dL_467 dL_468 ?_
  refine f_calR F (k_X7_epoch l D cI cS cZ ad' a (nc (xs (i + 1))) (nc_lt _)) ql_RM rfl tb_535 tb_532 tb_533 tb_534 tb_8 hdX7_epoch ⟨rfl, rfl⟩ ⟨Nat.le_of_ble_eq_true rfl, Nat.le_of_ble_eq_true rfl⟩ rw_adr rfl rfl (Nat.le_of_ble_eq_true rfl) hcs dL_469 rfl ?_
  exact g_icmp_eq F dL_472 (tgt := 704) rfl (fun _ => k _ _ (inv_mono h (Nat.le_succ T))) (fun hne => absurd (congrArg Int32.ofNat X) hne)
set_option maxHeartbeats 1000000 in
theorem lc_length (F : lwfx p s m b meth cd D cI cS cZ) (hX : va_X b Ln xs s s.heap) (hbl : b < s.heap.size) (hLn : Ln ≤ 3072) (hi : i + 6 ≤ Ln) (hcs : cells ≤ room_1.cells ∧ slots ≤ room_1.slots) (h : Inv T c a) (hT : T < 1000000)
    (k : ∀ (c' : CS) (a' : RS), Inv (T + 1) c' a' → lwgx p l e s m b below meth cd D cells slots 704 (lwLL b i (ad' 0) (ad 0)) [] (cwld cI cS c' ad ++ rwld cI cZ a' ad')) : lwgx p l e s m b below meth cd D cells slots 477 (lwLL b i (ad' 0) (ad 0)) [] (cwld cI cS c ad ++ rwld cI cZ a ad') := by
  have X := i_length h (v := nc (xs (i + 1))) (nc_lt _)
  refine g_aload_n F dL_477 2 rfl ?_
  refine f_arg F hX hbl (Nat.not_le.mpr hbl) (by omega) 1 (by decide) (by omega) 0 3 rfl rfl dL_478 dL_479 dL_480 dL_481 dL_482 ?_
  refine f_calC F (k_X6_length l D cI cS cZ ad c (nc (xs (i + 1))) (nc_lt _) h.1) pl_ET rfl tb_319 tb_316 tb_317 tb_318 tb_1 hdX6_length ⟨rfl, rfl⟩ ⟨Nat.le_of_ble_eq_true rfl, Nat.le_of_ble_eq_true rfl⟩ cw_adr rfl rfl (Nat.le_of_ble_eq_true rfl) hcs dL_483 rfl ?_
  refine g_aload_n F dL_486 1 rfl ?_
  refine f_arg F hX hbl (Nat.not_le.mpr hbl) (by omega) 1 (by decide) (by omega) 0 3 rfl rfl dL_487 dL_488 dL_489 dL_490 dL_491 ?_
  refine f_calR F (k_X7_length l D cI cS cZ ad' a (nc (xs (i + 1))) (nc_lt _)) ql_RM rfl tb_539 tb_536 tb_537 tb_538 tb_8 hdX7_length ⟨rfl, rfl⟩ ⟨Nat.le_of_ble_eq_true rfl, Nat.le_of_ble_eq_true rfl⟩ rw_adr rfl rfl (Nat.le_of_ble_eq_true rfl) hcs dL_492 rfl ?_
  exact g_icmp_eq F dL_495 (tgt := 704) rfl (fun _ => k _ _ (inv_mono h (Nat.le_succ T))) (fun hne => absurd (congrArg Int32.ofNat X) hne)
set_option maxHeartbeats 1000000 in
theorem lc_mark (F : lwfx p s m b meth cd D cI cS cZ) (hX : va_X b Ln xs s s.heap) (hbl : b < s.heap.size) (hLn : Ln ≤ 3072) (hi : i + 6 ≤ Ln) (hcs : cells ≤ room_1.cells ∧ slots ≤ room_1.slots) (h : Inv T c a) (hT : T < 1000000)
    (k : ∀ (c' : CS) (a' : RS), Inv (T + 1) c' a' → lwgx p l e s m b below meth cd D cells slots 704 (lwLL b i (ad' 0) (ad 0)) [] (cwld cI cS c' ad ++ rwld cI cZ a' ad')) : lwgx p l e s m b below meth cd D cells slots 500 (lwLL b i (ad' 0) (ad 0)) [] (cwld cI cS c ad ++ rwld cI cZ a ad') := by
  have X := i_mark h (v := nc (xs (i + 1))) (k := nc (xs (i + 2))) (nc_lt _) (nc_lt _)
  refine g_aload_n F dL_500 2 rfl ?_
  refine f_arg F hX hbl (Nat.not_le.mpr hbl) (by omega) 1 (by decide) (by omega) 0 3 rfl rfl dL_501 dL_502 dL_503 dL_504 dL_505 ?_
  refine f_arg F hX hbl (Nat.not_le.mpr hbl) (by omega) 2 (by decide) (by omega) 0 3 rfl rfl dL_506 dL_507 dL_508 dL_509 dL_510 ?_
  refine f_calC F (k_X6_mark l D cI cS cZ ad c (nc (xs (i + 1))) (nc (xs (i + 2))) (nc_lt _) (nc_lt _) h.1) pl_ET rfl tb_323 tb_320 tb_321 tb_322 tb_1 hdX6_mark ⟨rfl, rfl⟩ ⟨Nat.le_of_ble_eq_true rfl, Nat.le_of_ble_eq_true rfl⟩ cw_adr rfl rfl (Nat.le_of_ble_eq_true rfl) hcs dL_511 rfl ?_
  refine g_aload_n F dL_514 1 rfl ?_
  refine f_arg F hX hbl (Nat.not_le.mpr hbl) (by omega) 1 (by decide) (by omega) 0 3 rfl rfl dL_515 dL_516 dL_517 dL_518 dL_519 ?_
  refine f_arg F hX hbl (Nat.not_le.mpr hbl) (by omega) 2 (by decide) (by omega) 0 3 rfl rfl dL_520 dL_521 dL_522 dL_523 dL_524 ?_
  refine f_calR F (k_X7_mark l D cI cS cZ ad' a (nc (xs (i + 1))) (nc (xs (i + 2))) (nc_lt _) (nc_lt _) (i_RQ h)) ql_RM rfl tb_543 tb_540 tb_541 tb_542 tb_8 hdX7_mark ⟨rfl, rfl⟩ ⟨Nat.le_of_ble_eq_true rfl, Nat.le_of_ble_eq_true rfl⟩ rw_adr rfl rfl (Nat.le_of_ble_eq_true rfl) hcs dL_525 rfl ?_
  exact g_icmp_eq F dL_528 (tgt := 704) rfl (fun _ => k _ _ (inv_mono h (Nat.le_succ T))) (fun hne => absurd (congrArg Int32.ofNat X) hne)
set_option maxHeartbeats 1000000 in
theorem lc_applied (F : lwfx p s m b meth cd D cI cS cZ) (hX : va_X b Ln xs s s.heap) (hbl : b < s.heap.size) (hLn : Ln ≤ 3072) (hi : i + 6 ≤ Ln) (hcs : cells ≤ room_1.cells ∧ slots ≤ room_1.slots) (h : Inv T c a) (hT : T < 1000000)
    (k : ∀ (c' : CS) (a' : RS), Inv (T + 1) c' a' → lwgx p l e s m b below meth cd D cells slots 704 (lwLL b i (ad' 0) (ad 0)) [] (cwld cI cS c' ad ++ rwld cI cZ a' ad')) : lwgx p l e s m b below meth cd D cells slots 533 (lwLL b i (ad' 0) (ad 0)) [] (cwld cI cS c ad ++ rwld cI cZ a ad') := by
  have X := i_applied h (v := nc (xs (i + 1))) (nc_lt _)
  refine g_aload_n F dL_533 2 rfl ?_
  refine f_arg F hX hbl (Nat.not_le.mpr hbl) (by omega) 1 (by decide) (by omega) 0 3 rfl rfl dL_534 dL_535 dL_536 dL_537 dL_538 ?_
  refine f_calC F (k_X6_applied l D cI cS cZ ad c (nc (xs (i + 1))) (nc_lt _) h.1) pl_ET rfl tb_327 tb_324 tb_325 tb_326 tb_1 hdX6_applied ⟨rfl, rfl⟩ ⟨Nat.le_of_ble_eq_true rfl, Nat.le_of_ble_eq_true rfl⟩ cw_adr rfl rfl (Nat.le_of_ble_eq_true rfl) hcs dL_539 rfl ?_
  refine g_aload_n F dL_542 1 rfl ?_
  refine f_arg F hX hbl (Nat.not_le.mpr hbl) (by omega) 1 (by decide) (by omega) 0 3 rfl rfl dL_543 dL_544 dL_545 dL_546 dL_547 ?_
  refine f_calR F (k_X7_applied l D cI cS cZ ad' a (nc (xs (i + 1))) (nc_lt _)) ql_RM rfl tb_547 tb_544 tb_545 tb_546 tb_8 hdX7_applied ⟨rfl, rfl⟩ ⟨Nat.le_of_ble_eq_true rfl, Nat.le_of_ble_eq_true rfl⟩ rw_adr rfl rfl (Nat.le_of_ble_eq_true rfl) hcs dL_548 rfl ?_
  exact g_icmp_eq F dL_551 (tgt := 704) rfl (fun _ => k _ _ (inv_mono h (Nat.le_succ T))) (fun hne => absurd (congrArg Int32.ofNat X) hne)
set_option maxHeartbeats 1000000 in
theorem lc_result (F : lwfx p s m b meth cd D cI cS cZ) (hX : va_X b Ln xs s s.heap) (hbl : b < s.heap.size) (hLn : Ln ≤ 3072) (hi : i + 6 ≤ Ln) (hcs : cells ≤ room_1.cells ∧ slots ≤ room_1.slots) (h : Inv T c a) (hT : T < 1000000)
    (k : ∀ (c' : CS) (a' : RS), Inv (T + 1) c' a' → lwgx p l e s m b below meth cd D cells slots 704 (lwLL b i (ad' 0) (ad 0)) [] (cwld cI cS c' ad ++ rwld cI cZ a' ad')) : lwgx p l e s m b below meth cd D cells slots 556 (lwLL b i (ad' 0) (ad 0)) [] (cwld cI cS c ad ++ rwld cI cZ a ad') := by
  have X := i_result h (v := nc (xs (i + 1))) (k := nc (xs (i + 2))) (nc_lt _) (nc_lt _)
  refine g_aload_n F dL_556 2 rfl ?_
  refine f_arg F hX hbl (Nat.not_le.mpr hbl) (by omega) 1 (by decide) (by omega) 0 3 rfl rfl dL_557 dL_558 dL_559 dL_560 dL_561 ?_
  refine f_arg F hX hbl (Nat.not_le.mpr hbl) (by omega) 2 (by decide) (by omega) 0 3 rfl rfl dL_562 dL_563 dL_564 dL_565 dL_566 ?_
  refine f_calC F (k_X6_result l D cI cS cZ ad c (nc (xs (i + 1))) (nc (xs (i + 2))) (nc_lt _) (nc_lt _) h.1) pl_ET rfl tb_331 tb_328 tb_329 tb_330 tb_1 hdX6_result ⟨rfl, rfl⟩ ⟨Nat.le_of_ble_eq_true rfl, Nat.le_of_ble_eq_true rfl⟩ cw_adr rfl rfl (Nat.le_of_ble_eq_true rfl) hcs dL_567 rfl ?_
  refine g_aload_n F dL_570 1 rfl ?_
  refine f_arg F hX hbl (Nat.not_le.mpr hbl) (by omega) 1 (by decide) (by omega) 0 3 rfl rfl dL_571 dL_572 dL_573 dL_574 dL_575 ?_
  refine f_arg F hX hbl (Nat.not_le.mpr hbl) (by omega) 2 (by decide) (by omega) 0 3 rfl rfl dL_576 dL_577 dL_578 dL_579 dL_580 ?_
  refine f_calR F (k_X7_result l D cI cS cZ ad' a (nc (xs (i + 1))) (nc (xs (i + 2))) (nc_lt _) (nc_lt _) (i_RQ h) (fun z hz => i_EVa h hz)) ql_RM rfl tb_551 tb_548 tb_549 tb_550 tb_8 hdX7_result ⟨rfl, rfl⟩ ⟨Nat.le_of_ble_eq_true rfl, Nat.le_of_ble_eq_true rfl⟩ rw_adr rfl rfl (Nat.le_of_ble_eq_true rfl) hcs dL_581 rfl ?_
  exact g_icmp_eq F dL_584 (tgt := 704) rfl (fun _ => k _ _ X.2) (fun hne => absurd (congrArg Int32.ofNat X.1) hne)
set_option maxHeartbeats 1000000 in
theorem lc_node (F : lwfx p s m b meth cd D cI cS cZ) (hX : va_X b Ln xs s s.heap) (hbl : b < s.heap.size) (hLn : Ln ≤ 3072) (hi : i + 6 ≤ Ln) (hcs : cells ≤ room_1.cells ∧ slots ≤ room_1.slots) (h : Inv T c a) (hT : T < 1000000)
    (k : ∀ (c' : CS) (a' : RS), Inv (T + 1) c' a' → lwgx p l e s m b below meth cd D cells slots 704 (lwLL b i (ad' 0) (ad 0)) [] (cwld cI cS c' ad ++ rwld cI cZ a' ad')) : lwgx p l e s m b below meth cd D cells slots 589 (lwLL b i (ad' 0) (ad 0)) [] (cwld cI cS c ad ++ rwld cI cZ a ad') := by
  have X := i_node h (v := nc (xs (i + 1))) (pa := nc (xs (i + 2))) (wh := nc (xs (i + 3))) (nc_lt _) (nc_lt _) (nc_lt _)
  refine g_aload_n F dL_589 2 rfl ?_
  refine f_arg F hX hbl (Nat.not_le.mpr hbl) (by omega) 1 (by decide) (by omega) 0 3 rfl rfl dL_590 dL_591 dL_592 dL_593 dL_594 ?_
  refine f_arg F hX hbl (Nat.not_le.mpr hbl) (by omega) 2 (by decide) (by omega) 0 3 rfl rfl dL_595 dL_596 dL_597 dL_598 dL_599 ?_
  refine f_arg F hX hbl (Nat.not_le.mpr hbl) (by omega) 3 (by decide) (by omega) 0 3 rfl rfl dL_600 dL_601 dL_602 dL_603 dL_604 ?_
  refine f_calC F (k_X6_node l D cI cS cZ ad c (nc (xs (i + 1))) (nc (xs (i + 2))) (nc (xs (i + 3))) (nc_lt _) h.1) pl_ET rfl tb_335 tb_332 tb_333 tb_334 tb_1 hdX6_node ⟨rfl, rfl⟩ ⟨Nat.le_of_ble_eq_true rfl, Nat.le_of_ble_eq_true rfl⟩ cw_adr rfl rfl (Nat.le_of_ble_eq_true rfl) hcs dL_605 rfl ?_
  refine g_aload_n F dL_608 1 rfl ?_
  refine f_arg F hX hbl (Nat.not_le.mpr hbl) (by omega) 1 (by decide) (by omega) 0 3 rfl rfl dL_609 dL_610 dL_611 dL_612 dL_613 ?_
  refine f_arg F hX hbl (Nat.not_le.mpr hbl) (by omega) 2 (by decide) (by omega) 0 3 rfl rfl dL_614 dL_615 dL_616 dL_617 dL_618 ?_
  refine f_arg F hX hbl (Nat.not_le.mpr hbl) (by omega) 3 (by decide) (by omega) 0 3 rfl rfl dL_619 dL_620 dL_621 dL_622 dL_623 ?_
  refine f_calR F (k_X7_node l D cI cS cZ ad' a (nc (xs (i + 1))) (nc (xs (i + 2))) (nc (xs (i + 3))) (nc_lt _) (i_RQ h) (fun z hz => i_EVa h hz)) ql_RM rfl tb_555 tb_552 tb_553 tb_554 tb_8 hdX7_node ⟨rfl, rfl⟩ ⟨Nat.le_of_ble_eq_true rfl, Nat.le_of_ble_eq_true rfl⟩ rw_adr rfl rfl (Nat.le_of_ble_eq_true rfl) hcs dL_624 rfl ?_
  exact g_icmp_eq F dL_627 (tgt := 704) rfl (fun _ => k _ _ X.2) (fun hne => absurd (congrArg Int32.ofNat X.1) hne)
set_option maxHeartbeats 1000000 in
theorem lc_tree (F : lwfx p s m b meth cd D cI cS cZ) (hX : va_X b Ln xs s s.heap) (hbl : b < s.heap.size) (hLn : Ln ≤ 3072) (hi : i + 6 ≤ Ln) (hcs : cells ≤ room_1.cells ∧ slots ≤ room_1.slots) (h : Inv T c a) (hT : T < 1000000)
    (k : ∀ (c' : CS) (a' : RS), Inv (T + 1) c' a' → lwgx p l e s m b below meth cd D cells slots 704 (lwLL b i (ad' 0) (ad 0)) [] (cwld cI cS c' ad ++ rwld cI cZ a' ad')) : lwgx p l e s m b below meth cd D cells slots 632 (lwLL b i (ad' 0) (ad 0)) [] (cwld cI cS c ad ++ rwld cI cZ a ad') := by
  have X := i_tree h (v := nc (xs (i + 1))) (nc_lt _)
  refine g_aload_n F dL_632 2 rfl ?_
  refine f_arg F hX hbl (Nat.not_le.mpr hbl) (by omega) 1 (by decide) (by omega) 0 3 rfl rfl dL_633 dL_634 dL_635 dL_636 dL_637 ?_
  refine f_calC F (k_X6_tree l D cI cS cZ ad c (nc (xs (i + 1))) (nc_lt _) h.1) pl_ET rfl tb_344 tb_341 tb_342 tb_343 tb_1 hdX6_tree ⟨rfl, rfl⟩ ⟨Nat.le_of_ble_eq_true rfl, Nat.le_of_ble_eq_true rfl⟩ cw_adr rfl rfl (Nat.le_of_ble_eq_true rfl) hcs dL_638 rfl ?_
  refine g_aload_n F dL_641 1 rfl ?_
  refine f_arg F hX hbl (Nat.not_le.mpr hbl) (by omega) 1 (by decide) (by omega) 0 3 rfl rfl dL_642 dL_643 dL_644 dL_645 dL_646 ?_
  refine f_calR F (k_X7_tree l D cI cS cZ ad' a (nc (xs (i + 1))) (nc_lt _) (i_RQ h) (fun z hz => i_EVa h hz)) ql_RM rfl tb_559 tb_556 tb_557 tb_558 tb_8 hdX7_tree ⟨rfl, rfl⟩ ⟨Nat.le_of_ble_eq_true rfl, Nat.le_of_ble_eq_true rfl⟩ rw_adr rfl rfl (Nat.le_of_ble_eq_true rfl) hcs dL_647 rfl ?_
  exact g_icmp_eq F dL_650 (tgt := 704) rfl (fun _ => k _ _ X.2) (fun hne => absurd (congrArg Int32.ofNat X.1) hne)
set_option maxHeartbeats 1000000 in
theorem lc_waiting (F : lwfx p s m b meth cd D cI cS cZ) (hX : va_X b Ln xs s s.heap) (hbl : b < s.heap.size) (hLn : Ln ≤ 3072) (hi : i + 6 ≤ Ln) (hcs : cells ≤ room_1.cells ∧ slots ≤ room_1.slots) (h : Inv T c a) (hT : T < 1000000)
    (k : ∀ (c' : CS) (a' : RS), Inv (T + 1) c' a' → lwgx p l e s m b below meth cd D cells slots 704 (lwLL b i (ad' 0) (ad 0)) [] (cwld cI cS c' ad ++ rwld cI cZ a' ad')) : lwgx p l e s m b below meth cd D cells slots 655 (lwLL b i (ad' 0) (ad 0)) [] (cwld cI cS c ad ++ rwld cI cZ a ad') := by
  refine g_aload_n F dL_655 2 rfl ?_
  refine f_arg F hX hbl (Nat.not_le.mpr hbl) (by omega) 1 (by decide) (by omega) 0 3 rfl rfl dL_656 dL_657 dL_658 dL_659 dL_660 ?_
  refine f_arg F hX hbl (Nat.not_le.mpr hbl) (by omega) 2 (by decide) (by omega) 0 3 rfl rfl dL_661 dL_662 dL_663 dL_664 dL_665 ?_
  refine g_if_eq F dL_666 (tgt := 673) rfl (fun hz => ?_) (fun hz => ?_)
  · have X := i_waiting h (v := nc (xs (i + 1))) (u := 0) (nc_lt _)
    refine f_iconst F 0 dL_673 (by decide) ?_
    refine f_calC F (k_X6_waiting l D cI cS cZ ad c (nc (xs (i + 1))) 0 (nc_lt _) h.1) pl_ET rfl tb_350 tb_347 tb_348 tb_349 tb_1 hdX6_waiting ⟨rfl, rfl⟩ ⟨Nat.le_of_ble_eq_true rfl, Nat.le_of_ble_eq_true rfl⟩ cw_adr rfl rfl (Nat.le_of_ble_eq_true rfl) hcs dL_674 rfl ?_
    refine g_aload_n F dL_677 1 rfl ?_
    refine f_arg F hX hbl (Nat.not_le.mpr hbl) (by omega) 1 (by decide) (by omega) 0 3 rfl rfl dL_678 dL_679 dL_680 dL_681 dL_682 ?_
    refine f_arg F hX hbl (Nat.not_le.mpr hbl) (by omega) 2 (by decide) (by omega) 0 3 rfl rfl dL_683 dL_684 dL_685 dL_686 dL_687 ?_
    refine g_if_eq F dL_688 (tgt := 695) rfl (fun _ => ?_) (fun hw => absurd hz hw)
    refine f_iconst F 0 dL_695 (by decide) ?_
    refine f_calR F (k_X7_waiting l D cI cS cZ ad' a (nc (xs (i + 1))) 0 (nc_lt _)) ql_RM rfl tb_563 tb_560 tb_561 tb_562 tb_8 hdX7_waiting ⟨rfl, rfl⟩ ⟨Nat.le_of_ble_eq_true rfl, Nat.le_of_ble_eq_true rfl⟩ rw_adr rfl rfl (Nat.le_of_ble_eq_true rfl) hcs dL_696 rfl ?_
    exact g_icmp_eq F dL_699 (tgt := 704) rfl (fun _ => k _ _ (inv_mono h (Nat.le_succ T))) (fun hne => absurd (congrArg Int32.ofNat X) hne)
  · have X := i_waiting h (v := nc (xs (i + 1))) (u := 1) (nc_lt _)
    refine f_iconst F 1 dL_669 (by decide) ?_
    refine g_goto F dL_670 (tgt := 674) rfl ?_
    refine f_calC F (k_X6_waiting l D cI cS cZ ad c (nc (xs (i + 1))) 1 (nc_lt _) h.1) pl_ET rfl tb_350 tb_347 tb_348 tb_349 tb_1 hdX6_waiting ⟨rfl, rfl⟩ ⟨Nat.le_of_ble_eq_true rfl, Nat.le_of_ble_eq_true rfl⟩ cw_adr rfl rfl (Nat.le_of_ble_eq_true rfl) hcs dL_674 rfl ?_
    refine g_aload_n F dL_677 1 rfl ?_
    refine f_arg F hX hbl (Nat.not_le.mpr hbl) (by omega) 1 (by decide) (by omega) 0 3 rfl rfl dL_678 dL_679 dL_680 dL_681 dL_682 ?_
    refine f_arg F hX hbl (Nat.not_le.mpr hbl) (by omega) 2 (by decide) (by omega) 0 3 rfl rfl dL_683 dL_684 dL_685 dL_686 dL_687 ?_
    refine g_if_eq F dL_688 (tgt := 695) rfl (fun hw => absurd hw hz) (fun _ => ?_)
    refine f_iconst F 1 dL_691 (by decide) ?_
    refine g_goto F dL_692 (tgt := 696) rfl ?_
    refine f_calR F (k_X7_waiting l D cI cS cZ ad' a (nc (xs (i + 1))) 1 (nc_lt _)) ql_RM rfl tb_563 tb_560 tb_561 tb_562 tb_8 hdX7_waiting ⟨rfl, rfl⟩ ⟨Nat.le_of_ble_eq_true rfl, Nat.le_of_ble_eq_true rfl⟩ rw_adr rfl rfl (Nat.le_of_ble_eq_true rfl) hcs dL_696 rfl ?_
    exact g_icmp_eq F dL_699 (tgt := 704) rfl (fun _ => k _ _ (inv_mono h (Nat.le_succ T))) (fun hne => absurd (congrArg Int32.ofNat X) hne)
set_option maxHeartbeats 1000000 in
theorem lw_loop (F : lwfx p s m b meth cd D cI cS cZ) (hX : va_X b Ln xs s s.heap) (hbl : b < s.heap.size) (hLn : Ln ≤ 3072) (hcs : cells ≤ 600000 ∧ slots ≤ 7302250) (hr : meth.sig.returnType = ret) (hlk : meth.locks = false) : ∀ (d i T : Nat) (c : CS) (a : RS), Ln - i < d → T ≤ i → i ≤ 3078 → Inv T c a →
    lwgx p l e s m b below meth cd D cells slots 18 (lwLL b i (ad' 0) (ad 0)) [] (cwld cI cS c ad ++ rwld cI cZ a ad') := by
  intro d
  induction d with
  | zero => intro i T c a hd; omega
  | succ d ih =>
    intro i T c a hd hTi hi h
    have hT : T < 1000000 := by omega
    refine g_iload_n F dL_18 0 rfl ?_
    refine g_aload_n F dL_19 3 rfl ?_
    refine f_slen F hX hbl (Nat.not_le.mpr hbl) dL_20 ?_
    refine f_bipush F 6 dL_21 (by decide) ?_
    refine g_isub F dL_23 ?_
    refine g_icmp_gt F dL_24 (tgt := 710) rfl (fun _ => ?_) (fun hlt => ?_)
    · exact fun ls H locs h1 h2 h3 h4 => lv_iconst F.1.1 F.1.2.1 dL_710 (v := 1) (by decide) (va_forget (fun q hq => h4.2.2 q hq) (W.widen hcs.1 hcs.2 (lw_ret F.1.1 F.1.2.1 hr hlk dL_711)))
    · have h6 := end_test hLn hi hlt
      have kk : ∀ (c' : CS) (a' : RS), Inv (T + 1) c' a' → lwgx p l e s m b below meth cd D cells slots 704 (lwLL b i (ad' 0) (ad 0)) [] (cwld cI cS c' ad ++ rwld cI cZ a' ad') := fun c' a' h' =>
        f_iinc F (i + 6) (lwLL b (i + 6) (ad' 0) (ad 0)) dL_704 0 rfl (ofN_add i 6) (by decide) rfl (g_goto F dL_707 (tgt := 18) rfl (ih (i + 6) (T + 1) c' a' (by omega) (by omega) (by omega) h'))
      refine g_aload_n F dL_27 3 rfl ?_
      refine g_iload_n F dL_28 0 rfl ?_
      refine f_sld F hX hbl (Nat.not_le.mpr hbl) (by omega) (by omega) dL_29 ?_
      refine f_bipush F 31 dL_30 (by decide) ?_
      refine g_iand F dL_32 ?_
      generalize (Int32.ofNat (nc (xs i)) &&& Int32.ofNat 31) = z
      rcases key_cases z with hz | ⟨q, hq, rfl⟩
      · exact g_tableOut F dL_33 hz (tgt := 704) rfl (kk c a (inv_mono h (Nat.le_succ T)))
      · match q, hq with
        | 0, _ => exact g_tableIn F dL_33 (by decide +kernel) (by decide +kernel) (off := 95) (by decide +kernel) (tgt := 128) rfl (lc_lead F hX hbl hLn h6 hcs h hT kk)
        | 1, _ => exact g_tableIn F dL_33 (by decide +kernel) (by decide +kernel) (off := 118) (by decide +kernel) (tgt := 151) rfl (lc_follow F hX hbl hLn h6 hcs h hT kk)
        | 2, _ => exact g_tableIn F dL_33 (by decide +kernel) (by decide +kernel) (off := 151) (by decide +kernel) (tgt := 184) rfl (lc_quit F hX hbl hLn h6 hcs h hT kk)
        | 3, _ => exact g_tableIn F dL_33 (by decide +kernel) (by decide +kernel) (off := 174) (by decide +kernel) (tgt := 207) rfl (lc_crash F hX hbl hLn h6 hcs h hT kk)
        | 4, _ => exact g_tableIn F dL_33 (by decide +kernel) (by decide +kernel) (off := 197) (by decide +kernel) (tgt := 230) rfl (lc_restart F hX hbl hLn h6 hcs h hT kk)
        | 5, _ => exact g_tableIn F dL_33 (by decide +kernel) (by decide +kernel) (off := 220) (by decide +kernel) (tgt := 253) rfl (lc_up F hX hbl hLn h6 hcs h hT kk)
        | 6, _ => exact g_tableIn F dL_33 (by decide +kernel) (by decide +kernel) (off := 243) (by decide +kernel) (tgt := 276) rfl (lc_down F hX hbl hLn h6 hcs h hT kk)
        | 7, _ => exact g_tableIn F dL_33 (by decide +kernel) (by decide +kernel) (off := 266) (by decide +kernel) (tgt := 299) rfl (lc_submit F hX hbl hLn h6 hcs h hT kk)
        | 8, _ => exact g_tableIn F dL_33 (by decide +kernel) (by decide +kernel) (off := 329) (by decide +kernel) (tgt := 362) rfl (lc_tick F hX hbl hLn h6 hcs h hT kk)
        | 9, _ => exact g_tableIn F dL_33 (by decide +kernel) (by decide +kernel) (off := 342) (by decide +kernel) (tgt := 375) rfl (lc_touch F hX hbl hLn h6 hcs h hT kk)
        | 10, _ => exact g_tableIn F dL_33 (by decide +kernel) (by decide +kernel) (off := 375) (by decide +kernel) (tgt := 408) rfl (lc_role F hX hbl hLn h6 hcs h hT kk)
        | 11, _ => exact g_tableIn F dL_33 (by decide +kernel) (by decide +kernel) (off := 398) (by decide +kernel) (tgt := 431) rfl (lc_promise F hX hbl hLn h6 hcs h hT kk)
        | 12, _ => exact g_tableIn F dL_33 (by decide +kernel) (by decide +kernel) (off := 421) (by decide +kernel) (tgt := 454) rfl (lc_epoch F hX hbl hLn h6 hcs h hT kk)
        | 13, _ => exact g_tableIn F dL_33 (by decide +kernel) (by decide +kernel) (off := 444) (by decide +kernel) (tgt := 477) rfl (lc_length F hX hbl hLn h6 hcs h hT kk)
        | 14, _ => exact g_tableIn F dL_33 (by decide +kernel) (by decide +kernel) (off := 467) (by decide +kernel) (tgt := 500) rfl (lc_mark F hX hbl hLn h6 hcs h hT kk)
        | 15, _ => exact g_tableIn F dL_33 (by decide +kernel) (by decide +kernel) (off := 500) (by decide +kernel) (tgt := 533) rfl (lc_applied F hX hbl hLn h6 hcs h hT kk)
        | 16, _ => exact g_tableIn F dL_33 (by decide +kernel) (by decide +kernel) (off := 523) (by decide +kernel) (tgt := 556) rfl (lc_result F hX hbl hLn h6 hcs h hT kk)
        | 17, _ => exact g_tableIn F dL_33 (by decide +kernel) (by decide +kernel) (off := 556) (by decide +kernel) (tgt := 589) rfl (lc_node F hX hbl hLn h6 hcs h hT kk)
        | 18, _ => exact g_tableIn F dL_33 (by decide +kernel) (by decide +kernel) (off := 599) (by decide +kernel) (tgt := 632) rfl (lc_tree F hX hbl hLn h6 hcs h hT kk)
        | 19, _ => exact g_tableIn F dL_33 (by decide +kernel) (by decide +kernel) (off := 622) (by decide +kernel) (tgt := 655) rfl (lc_waiting F hX hbl hLn h6 hcs h hT kk)
        | q + 20, hq => exact absurd hq (by omega)
theorem df_6 : ∀ j, j < 1 → defaultValue (tyX6 j) = vp_V [.null] j := by decide +kernel
theorem df_7 : ∀ j, j < 33 → defaultValue (tyX7 j) = vp_V [.null, .null, .null, .null, .null, .null, .null, .null, .null, .null, .null, .null, .null, .null, .null, .null, .null, .null, .null, .null, .null, .null, .null, .null, .null, .null, .int 0, .null, .null, .null, .null, .null, .null] j := by decide +kernel
set_option maxHeartbeats 1000000 in
theorem lw_main (F : lwfx p s m b meth cd D cI cS cZ) (hX : va_X b Ln xs s s.heap) (hbl : b < s.heap.size) (hLn : Ln ≤ 3072) (hr : meth.sig.returnType = ret) (hlk : meth.locks = false) :
    lwgx p l e s m b below meth cd D 0 0 0 [(0, .ref b)] [] [] := by
  refine g_new F (in_c inX6) tyX6 tyX6_ok (gf_w F tb_11) (gf_w F tb_12) (gf_w F tb_1) (ci := 6) rfl (fs := [.null]) (fun j hj => df_6 j hj) (Nat.le_of_ble_eq_true rfl) (Nat.le_of_ble_eq_true rfl) dL_0 (fun q6 => ?_)
  refine g_dup F dL_3 rfl ?_
  refine f_calK F (k_X6_init l D cI cS cZ q6) rfl tb_15 tb_13 tb_14 tb_1 hdX6_init ⟨rfl, rfl⟩ ⟨Nat.le_of_ble_eq_true rfl, Nat.le_of_ble_eq_true rfl⟩ rfl (Nat.le_of_ble_eq_true rfl) ⟨Nat.le_of_ble_eq_true rfl, Nat.le_of_ble_eq_true rfl⟩ dL_4 _ (fun ad => ⟨_, _, rfl⟩) (fun ad6 had => ?_)
  subst had
  refine g_astore_n F [(1, .ref (ad6 0)), (0, .ref b)] dL_7 (by decide) rfl ?_
  refine g_new F (in_c inX7) tyX7 tyX7_ok (gf_w F tb_351) (gf_w F tb_352) (gf_w F tb_8) (ci := 7) rfl (fs := [.null, .null, .null, .null, .null, .null, .null, .null, .null, .null, .null, .null, .null, .null, .null, .null, .null, .null, .null, .null, .null, .null, .null, .null, .null, .null, .int 0, .null, .null, .null, .null, .null, .null]) (fun j hj => df_7 j hj) (Nat.le_of_ble_eq_true rfl) (Nat.le_of_ble_eq_true rfl) dL_8 (fun q7 => ?_)
  refine g_dup F dL_11 rfl ?_
  refine f_calK F (k_X7_init l D cI cS cZ q7) rfl tb_355 tb_353 tb_354 tb_8 hdX7_init ⟨rfl, rfl⟩ ⟨Nat.le_of_ble_eq_true rfl, Nat.le_of_ble_eq_true rfl⟩ rfl (Nat.le_of_ble_eq_true rfl) ⟨Nat.le_of_ble_eq_true rfl, Nat.le_of_ble_eq_true rfl⟩ dL_12 _ (fun ad => ⟨_, _, rfl⟩) (fun ad7 had => ?_)
  subst had
  refine g_astore_n F [(2, .ref (ad7 0)), (1, .ref (ad6 0)), (0, .ref b)] dL_15 (by decide) rfl ?_
  refine f_iconst F 0 dL_16 (by decide) ?_
  refine g_istore_n F (lwLL b 0 (ad7 0) (ad6 0)) dL_17 (by decide) rfl ?_
  exact lw_loop F hX hbl hLn ⟨Nat.le_of_ble_eq_true rfl, Nat.le_of_ble_eq_true rfl⟩ hr hlk (Ln + 1) 0 0 c0 a0 (by omega) (Nat.le_refl 0) (by omega) inv0
end LWW
theorem whole_start {p : Program} {e : Env} {s : State} {m : MethodId} {below : List Frame} {meth : Method} {c : Code} (l : Launch) {b L : Nat} {xs : Nat → Int32} (hL : L ≤ 3072) (C0 : lw_At p s m meth c b L xs) : W p l e room_1 s m #[Value.ref b] below meth c s.heap [] 0 0 (lw_Z below #[Value.ref b] s) (entryFrame m ([Value.ref b] : List Value).toArray 4) := by
  obtain ⟨hx, hb, hr, hml, hown, hts, hX, hbl, hlk, -⟩ := C0
  have ht : ∀ w ∈ tb, w.before #[Value.ref b] s = true := fun w hw => hts w (tbL w hw)
  obtain ⟨D, cI, cS, cZ, hK, hN⟩ := law_K ht (fun w hw => hts w (nbL w hw))
  have F : lwfx p s m b meth c D cI cS cZ := ⟨⟨hx, hb, hml, hown, fun w hw => by
    rcases List.mem_cons.mp hw with rfl | h'
    · exact ht _ tb_0
    · exact ht w h'⟩, hK, fun q h => h, hN⟩
  rw [lg_entry_eq]
  exact lw_main F hX hbl hL hr hlk _ s.heap [] (lv_entry [Value.ref b] (Nat.le_of_ble_eq_true rfl)) (fun k q h => by simp at h) ⟨fun i j x y h => by simp at h, fun k q h => by simp at h⟩ va_S.rf
set_option maxHeartbeats 4000000 in
theorem lw_walk (l : Launch) (b : Addr) (xs : List Int32) : MetFree l x (headSpec (Jvm.Cond.code x code maxLocals ret :: tables_1) room_1) (lw_P b xs) (fun _ _ _ _ _ => True) lw_Q := by
  refine MetFree.of_bodyS (code := code) (maxLocals := maxLocals) (ret := ret) (by decide) ?_ ?_
  · intro args s m h hn
    obtain ⟨meth, c, h1, h2, h3, h4, h5, h6, -, -⟩ := Cond.code_spec hn (atoms_spec (ws := Jvm.Cond.code x code maxLocals ret :: tables_1) h _ List.mem_cons_self)
    exact ⟨meth, c, h1, h2, h3, h4, h5, h6⟩
  · intro p e s m args below meth c s₁ B hml0 hP _
    obtain ⟨rfl, hx, hbd, hgv⟩ := hP
    obtain ⟨scr, harrAt, hlist, hof, hsmall⟩ := hx
    obtain ⟨hcb, hkn, -, -⟩ := State.arrayAt?_spec harrAt
    have hown : s.vm.findClass R_law = some m.cls := findClass_of_methodNamed B.named
    have hts0 : ∀ c ∈ (Jvm.Cond.code x code maxLocals ret :: tables_1), c.before #[Value.ref b] s = true := atoms_spec (ws := Jvm.Cond.code x code maxLocals ret :: tables_1) B.pre
    have hts : ∀ w ∈ lw_tbl, w.before #[Value.ref b] s = true := k2_hts_sels lw_privs (fun w hw => hts0 w (List.mem_cons_of_mem _ hw)) lw_privs_ok
    have hml : c.maxLocals = 4 := B.maxLocals_eq (hts0 _ List.mem_cons_self)
    have X₀ : Stand p l e room_1 s m #[Value.ref b] below meth c s₁ [] 0 0 := Stand.of_body B
    have hh0 : s₁.heap = s.heap := by rw [B.state]; rfl
    have hsz : scr.slots.size = xs.length := by rw [← Array.length_toList, hlist, List.length_map]
    have hval : ∀ j : Nat, j < xs.length → scr.slots[j]? = some (.int (xs.getD j 0)) := fun j hj => by
      rw [← Array.getElem?_toList, hlist]
      simp [hj]
    have hbl : b < s.heap.size := (Array.getElem?_eq_some_iff.mp hcb).1
    have hX : va_X b xs.length (fun j => xs.getD j 0) s s.heap := ⟨scr, hcb, hof, hkn, hsz, hval⟩
    have K : W p l e room_1 s m #[Value.ref b] below meth c s₁.heap [] 0 0 (lw_Z below #[Value.ref b] s) (entryFrame m ([Value.ref b] : List Value).toArray 4) := by
      rw [hh0]
      exact whole_start l hbd ⟨B.exec, B.bytes, B.returns, hml, hown, hts, hX, hbl, B.notSynchronized, hgv⟩
    obtain ⟨t, a1, o, b1, b2, b3⟩ := K s₁ rfl X₀
    exact ⟨t, o, a1, b1, b2, b3⟩
theorem lw_pre_spec {args : Array Value} {s : State} (h : (Jvm.Cond.and given_1 narrow_1).before args s = true) (hr : rest_1_c.before args s = true) : ∃ (b : Addr) (xs : List Int32), lw_P b xs args s := by
  have hs := flat_of_before _ h
  have hq := flat_of_before _ hr
  have hc : (Cond.count 1).before args s = true := hs _ (by decide +kernel)
  have harr : (Cond.arrayOf (.arg 0) .int).before args s = true := hs _ (by decide +kernel)
  have hle : (Cond.le (.length (.arg 0)) (.int 3072)).before args s = true := hs _ (by decide +kernel)
  have hlen : (Cond.isInt (.length (.arg 0))).before args s = true := hq _ (by decide +kernel)
  have hall : (Cond.all (.arg 0) (.isInt (.elem (.arg 0) (.index 0)))).before args s = true := hq _ (by decide +kernel)
  obtain ⟨b, xs, hb, hx⟩ := State.ints_of_pre rfl harr hlen hall
  have hsm : xs.length < 2 ^ 31 := hx.choose_spec.2.2.2
  have hev : (Term.length (.arg 0)).eval args s none [] s = some (.int xs.length.toInt32) := hx.length_eval hb
  have hv := Cond.le_ints hev (show (Term.int 3072).eval args s none [] s = some (.int 3072) from rfl)
  have hd : xs.length.toInt32 ≤ 3072 := by
    simpa [Cond.before, Cond.holds, hv] using hle
  have hN : xs.length ≤ 3072 := (Int32.ofNat_le_ofNat hsm (by decide)).mp (show Int32.ofNat xs.length ≤ Int32.ofNat 3072 from hd)
  exact ⟨b, xs, Cond.one_arg hc (show args[0]? = some (.ref b) from hb), hx, hN, h⟩
theorem lw_comes (l : Launch) : Comes l x (Jvm.Cond.code x code maxLocals ret :: tables_1) room_1 (fun tb e args s => Calls_1 tb e args s ∧ rest_1 tb e args s ∧ Pre_1 tb e args s)
    (fun _ _ args s o t => lw_Q args s o t) := by
  intro p e ha hc hk s m args below hf hfit hheap happ hpre
  obtain ⟨b, xs, hP⟩ := lw_pre_spec hpre.2.2 hpre.2.1
  obtain ⟨k, o, h1, h2, h3, hQ⟩ := lw_walk l b xs p e ha hc hk s m args below hf ((Spec.applies_iff_loose hf).mp happ).1 hP trivial
  exact ⟨k, o, h1, h2, h3, hQ⟩
theorem lw_frame {s t : State} {o : Outcome} {args : Array Value} (h : Framed s o t [] 600000 7302250) :
    Framed s o t (fieldLocs frame_1_writes args s ++ arrayLocs frame_1_arrays args s ++ staticLocs frame_1_statics s) 600000 7302250 := h
theorem lw_limb (L : Cond) (hL : ∀ (args : Array Value) (s t : State), L.after args s (.returned (some (.int 1))) t = true) :
    ArmFor flags0 classFile x code maxLocals ret World_1 tables_1 room_1 Calls_1 rest_1 Pre_1
      (fun tb e a s o t => postC L tb e a s o t ∧ Framed s o t (fieldLocs frame_1_writes a s ++ arrayLocs frame_1_arrays a s ++ staticLocs frame_1_statics s) 600000 7302250) := by
  intro l _ _ _ p e ha hc hk s m args below hf hfit hheap happ hpre
  obtain ⟨k, o, h1, h2, h3, rfl, hF⟩ := lw_comes l p e ha hc hk s m args below hf hfit hheap happ hpre
  exact ⟨k, _, h1, h2, h3, hL args s _, lw_frame hF⟩
theorem i_vc : Claimed_1_1 ∧ Claimed_1_2 := ⟨lw_limb limb_1_1 (fun args s t => by simp [limb_1_1, Cond.after, Cond.holds, Cond.value]), lw_limb limb_1_2 (fun args s t => Cond.after_iff.mpr (by
  first | (rw [show limb_1_2 = Cond.eq .result (.int 1) from rfl, Cond.eq_ints (x := 1) (y := 1) rfl rfl]; simp; done) | (simp [limb_1_2, Cond.value, Term.eval]; done)))⟩
