def RX0 : String := "EpochTree$EntryList"
def TX0 : u_T := fun k => match k with
  | 0 => ("EpochTree$EntryList", "marks", "[I", true)
  | 1 => ("EpochTree$EntryList", "kinds", "[I", true)
  | 2 => ("EpochTree$EntryList", "paths", "[I", true)
  | 3 => ("EpochTree$EntryList", "as", "[I", true)
  | 4 => ("EpochTree$EntryList", "bs", "[I", true)
  | _ => ("EpochTree$EntryList", "size", "I", false)
def tyX0 : Nat → FieldType := fun k => match k with
  | 0 => .array .int
  | 1 => .array .int
  | 2 => .array .int
  | 3 => .array .int
  | 4 => .array .int
  | _ => .int
theorem nmX0 : ∀ a, a < 6 → ∀ b, b < 6 → a ≠ b → (TX0 a).2.1 ≠ (TX0 b).2.1 := by decide +kernel
theorem tyX0_ok : ∀ k, k < 6 → parseFieldDescriptor (TX0 k).2.2.1 = some (tyX0 k) := by decide +kernel
def RX1 : String := "EpochTree$Link"
def TX1 : u_T := fun k => match k with
  | 0 => ("EpochTree$Link", "up", "LEpochTree$Row;", true)
  | 1 => ("EpochTree$Link", "down", "LEpochTree$Row;", true)
  | 2 => ("EpochTree$Link", "tied", "Z", false)
  | 3 => ("EpochTree$Link", "acked", "Z", false)
  | _ => ("EpochTree$Link", "waitsForList", "Z", false)
def tyX1 : Nat → FieldType := fun k => match k with
  | 0 => .object "EpochTree$Row"
  | 1 => .object "EpochTree$Row"
  | 2 => .boolean
  | 3 => .boolean
  | _ => .boolean
theorem nmX1 : ∀ a, a < 5 → ∀ b, b < 5 → a ≠ b → (TX1 a).2.1 ≠ (TX1 b).2.1 := by decide +kernel
theorem tyX1_ok : ∀ k, k < 5 → parseFieldDescriptor (TX1 k).2.2.1 = some (tyX1 k) := by decide +kernel
def RX2 : String := "EpochTree$Row"
def TX2 : u_T := fun k => match k with
  | 0 => ("EpochTree$Row", "kinds", "[I", true)
  | 1 => ("EpochTree$Row", "values", "[I", true)
  | 2 => ("EpochTree$Row", "first", "I", false)
  | _ => ("EpochTree$Row", "end", "I", false)
def tyX2 : Nat → FieldType := fun k => match k with
  | 0 => .array .int
  | 1 => .array .int
  | 2 => .int
  | _ => .int
theorem nmX2 : ∀ a, a < 4 → ∀ b, b < 4 → a ≠ b → (TX2 a).2.1 ≠ (TX2 b).2.1 := by decide +kernel
theorem tyX2_ok : ∀ k, k < 4 → parseFieldDescriptor (TX2 k).2.2.1 = some (tyX2 k) := by decide +kernel
def RX3 : String := "EpochTree$Server"
def TX3 : u_T := fun k => match k with
  | 0 => ("EpochTree$Server", "number", "I", true)
  | 1 => ("EpochTree$Server", "promise", "I", false)
  | 2 => ("EpochTree$Server", "epoch", "I", false)
  | 3 => ("EpochTree$Server", "list", "LEpochTree$EntryList;", true)
  | 4 => ("EpochTree$Server", "role", "I", false)
  | 5 => ("EpochTree$Server", "leader", "I", false)
  | 6 => ("EpochTree$Server", "applied", "I", false)
  | 7 => ("EpochTree$Server", "results", "[I", true)
  | 8 => ("EpochTree$Server", "tree", "LEpochTree$Tree;", true)
  | 9 => ("EpochTree$Server", "link", "LEpochTree$Link;", true)
  | _ => ("EpochTree$Server", "term", "LEpochTree$Term;", true)
def tyX3 : Nat → FieldType := fun k => match k with
  | 0 => .int
  | 1 => .int
  | 2 => .int
  | 3 => .object "EpochTree$EntryList"
  | 4 => .int
  | 5 => .int
  | 6 => .int
  | 7 => .array .int
  | 8 => .object "EpochTree$Tree"
  | 9 => .object "EpochTree$Link"
  | _ => .object "EpochTree$Term"
theorem nmX3 : ∀ a, a < 11 → ∀ b, b < 11 → a ≠ b → (TX3 a).2.1 ≠ (TX3 b).2.1 := by decide +kernel
theorem tyX3_ok : ∀ k, k < 11 → parseFieldDescriptor (TX3 k).2.2.1 = some (tyX3 k) := by decide +kernel
def RX4 : String := "EpochTree$Term"
def TX4 : u_T := fun k => match k with
  | 0 => ("EpochTree$Term", "epochChosen", "Z", false)
  | 1 => ("EpochTree$Term", "listChosen", "Z", false)
  | 2 => ("EpochTree$Term", "made", "I", false)
  | _ => ("EpochTree$Term", "ages", "[I", true)
def tyX4 : Nat → FieldType := fun k => match k with
  | 0 => .boolean
  | 1 => .boolean
  | 2 => .int
  | _ => .array .int
theorem nmX4 : ∀ a, a < 4 → ∀ b, b < 4 → a ≠ b → (TX4 a).2.1 ≠ (TX4 b).2.1 := by decide +kernel
theorem tyX4_ok : ∀ k, k < 4 → parseFieldDescriptor (TX4 k).2.2.1 = some (tyX4 k) := by decide +kernel
def RX5 : String := "EpochTree$Tree"
def TX5 : u_T := fun k => match k with
  | 0 => ("EpochTree$Tree", "paths", "[I", true)
  | 1 => ("EpochTree$Tree", "data", "[I", true)
  | 2 => ("EpochTree$Tree", "versions", "[I", true)
  | 3 => ("EpochTree$Tree", "owners", "[I", true)
  | 4 => ("EpochTree$Tree", "size", "I", false)
  | _ => ("EpochTree$Tree", "openBits", "I", false)
def tyX5 : Nat → FieldType := fun k => match k with
  | 0 => .array .int
  | 1 => .array .int
  | 2 => .array .int
  | 3 => .array .int
  | 4 => .int
  | _ => .int
theorem nmX5 : ∀ a, a < 6 → ∀ b, b < 6 → a ≠ b → (TX5 a).2.1 ≠ (TX5 b).2.1 := by decide +kernel
theorem tyX5_ok : ∀ k, k < 6 → parseFieldDescriptor (TX5 k).2.2.1 = some (tyX5 k) := by decide +kernel
def RX6 : String := "EpochTree"
def TX6 : u_T := fun k => match k with
  | _ => ("EpochTree", "servers", "[LEpochTree$Server;", true)
def tyX6 : Nat → FieldType := fun k => match k with
  | _ => .array (.object "EpochTree$Server")
theorem nmX6 : ∀ a, a < 1 → ∀ b, b < 1 → a ≠ b → (TX6 a).2.1 ≠ (TX6 b).2.1 := by decide +kernel
theorem tyX6_ok : ∀ k, k < 1 → parseFieldDescriptor (TX6 k).2.2.1 = some (tyX6 k) := by decide +kernel
def RX7 : String := "EpochTreeModel"
def TX7 : u_T := fun k => match k with
  | 0 => ("EpochTreeModel", "role", "[I", true)
  | 1 => ("EpochTreeModel", "promise", "[I", true)
  | 2 => ("EpochTreeModel", "epoch", "[I", true)
  | 3 => ("EpochTreeModel", "applied", "[I", true)
  | 4 => ("EpochTreeModel", "length", "[I", true)
  | 5 => ("EpochTreeModel", "mark", "[I", true)
  | 6 => ("EpochTreeModel", "kind", "[I", true)
  | 7 => ("EpochTreeModel", "path", "[I", true)
  | 8 => ("EpochTreeModel", "first", "[I", true)
  | 9 => ("EpochTreeModel", "second", "[I", true)
  | 10 => ("EpochTreeModel", "chosen", "[I", true)
  | 11 => ("EpochTreeModel", "settled", "[Z", true)
  | 12 => ("EpochTreeModel", "made", "[I", true)
  | 13 => ("EpochTreeModel", "age", "[I", true)
  | 14 => ("EpochTreeModel", "leader", "[I", true)
  | 15 => ("EpochTreeModel", "waits", "[Z", true)
  | 16 => ("EpochTreeModel", "tied", "[Z", true)
  | 17 => ("EpochTreeModel", "heard", "[Z", true)
  | 18 => ("EpochTreeModel", "upKind", "[I", true)
  | 19 => ("EpochTreeModel", "upValue", "[I", true)
  | 20 => ("EpochTreeModel", "upSent", "[I", true)
  | 21 => ("EpochTreeModel", "upRead", "[I", true)
  | 22 => ("EpochTreeModel", "downKind", "[I", true)
  | 23 => ("EpochTreeModel", "downValue", "[I", true)
  | 24 => ("EpochTreeModel", "downSent", "[I", true)
  | 25 => ("EpochTreeModel", "downRead", "[I", true)
  | 26 => ("EpochTreeModel", "nodes", "I", false)
  | 27 => ("EpochTreeModel", "nodePath", "[I", true)
  | 28 => ("EpochTreeModel", "nodeData", "[I", true)
  | 29 => ("EpochTreeModel", "nodeVersion", "[I", true)
  | 30 => ("EpochTreeModel", "nodeOwner", "[I", true)
  | 31 => ("EpochTreeModel", "open", "[Z", true)
  | _ => ("EpochTreeModel", "results", "[I", true)
def tyX7 : Nat → FieldType := fun k => match k with
  | 0 => .array .int
  | 1 => .array .int
  | 2 => .array .int
  | 3 => .array .int
  | 4 => .array .int
  | 5 => .array .int
  | 6 => .array .int
  | 7 => .array .int
  | 8 => .array .int
  | 9 => .array .int
  | 10 => .array .int
  | 11 => .array .boolean
  | 12 => .array .int
  | 13 => .array .int
  | 14 => .array .int
  | 15 => .array .boolean
  | 16 => .array .boolean
  | 17 => .array .boolean
  | 18 => .array .int
  | 19 => .array .int
  | 20 => .array .int
  | 21 => .array .int
  | 22 => .array .int
  | 23 => .array .int
  | 24 => .array .int
  | 25 => .array .int
  | 26 => .int
  | 27 => .array .int
  | 28 => .array .int
  | 29 => .array .int
  | 30 => .array .int
  | 31 => .array .boolean
  | _ => .array .int
theorem nmX7 : ∀ a, a < 33 → ∀ b, b < 33 → a ≠ b → (TX7 a).2.1 ≠ (TX7 b).2.1 := by decide +kernel
theorem tyX7_ok : ∀ k, k < 33 → parseFieldDescriptor (TX7 k).2.2.1 = some (tyX7 k) := by decide +kernel
abbrev cls8 : List vw_C := [(RX0, TX0, 6), (RX1, TX1, 5), (RX2, TX2, 4), (RX3, TX3, 11), (RX4, TX4, 4), (RX5, TX5, 6), (RX6, TX6, 1), (RX7, TX7, 33)]
abbrev cX6_init : ByteArray := prog_1_method_1_code
abbrev yX6_init : MethodName := ⟨"EpochTree", "<init>", "()V"⟩
abbrev cX6_lead : ByteArray := prog_1_method_2_code
abbrev yX6_lead : MethodName := ⟨"EpochTree", "lead", "(I)Z"⟩
abbrev cX6_follow : ByteArray := prog_1_method_3_code
abbrev yX6_follow : MethodName := ⟨"EpochTree", "follow", "(II)Z"⟩
abbrev cX6_quit : ByteArray := prog_1_method_4_code
abbrev yX6_quit : MethodName := ⟨"EpochTree", "quit", "(I)Z"⟩
abbrev cX6_crash : ByteArray := prog_1_method_5_code
abbrev yX6_crash : MethodName := ⟨"EpochTree", "crash", "(I)Z"⟩
abbrev cX6_restart : ByteArray := prog_1_method_6_code
abbrev yX6_restart : MethodName := ⟨"EpochTree", "restart", "(I)Z"⟩
abbrev cX6_up : ByteArray := prog_1_method_7_code
abbrev yX6_up : MethodName := ⟨"EpochTree", "up", "(I)I"⟩
abbrev cX6_down : ByteArray := prog_1_method_8_code
abbrev yX6_down : MethodName := ⟨"EpochTree", "down", "(I)I"⟩
abbrev cX6_submit : ByteArray := prog_1_method_9_code
abbrev yX6_submit : MethodName := ⟨"EpochTree", "submit", "(IIIII)I"⟩
abbrev cX6_tick : ByteArray := prog_1_method_10_code
abbrev yX6_tick : MethodName := ⟨"EpochTree", "tick", "()I"⟩
abbrev cX6_touch : ByteArray := prog_1_method_11_code
abbrev yX6_touch : MethodName := ⟨"EpochTree", "touch", "(II)Z"⟩
abbrev cX6_role : ByteArray := prog_1_method_12_code
abbrev yX6_role : MethodName := ⟨"EpochTree", "role", "(I)I"⟩
abbrev cX6_promise : ByteArray := prog_1_method_13_code
abbrev yX6_promise : MethodName := ⟨"EpochTree", "promise", "(I)I"⟩
abbrev cX6_epoch : ByteArray := prog_1_method_14_code
abbrev yX6_epoch : MethodName := ⟨"EpochTree", "epoch", "(I)I"⟩
abbrev cX6_length : ByteArray := prog_1_method_15_code
abbrev yX6_length : MethodName := ⟨"EpochTree", "length", "(I)I"⟩
abbrev cX6_mark : ByteArray := prog_1_method_16_code
abbrev yX6_mark : MethodName := ⟨"EpochTree", "mark", "(II)I"⟩
abbrev cX6_applied : ByteArray := prog_1_method_17_code
abbrev yX6_applied : MethodName := ⟨"EpochTree", "applied", "(I)I"⟩
abbrev cX6_result : ByteArray := prog_1_method_18_code
abbrev yX6_result : MethodName := ⟨"EpochTree", "result", "(II)I"⟩
abbrev cX6_node : ByteArray := prog_1_method_19_code
abbrev yX6_node : MethodName := ⟨"EpochTree", "node", "(III)I"⟩
abbrev cX6_tree : ByteArray := prog_1_method_20_code
abbrev yX6_tree : MethodName := ⟨"EpochTree", "tree", "(I)I"⟩
abbrev cX6_waiting : ByteArray := prog_1_method_21_code
abbrev yX6_waiting : MethodName := ⟨"EpochTree", "waiting", "(IZ)I"⟩
abbrev cX6_isServer : ByteArray := prog_1_method_22_code
abbrev yX6_isServer : MethodName := ⟨"EpochTree", "isServer", "(I)Z"⟩
abbrev cX6_isSession : ByteArray := prog_1_method_23_code
abbrev yX6_isSession : MethodName := ⟨"EpochTree", "isSession", "(I)Z"⟩
abbrev cX6_isNodePath : ByteArray := prog_1_method_24_code
abbrev yX6_isNodePath : MethodName := ⟨"EpochTree", "isNodePath", "(I)Z"⟩
abbrev cX6_isChange : ByteArray := prog_1_method_25_code
abbrev yX6_isChange : MethodName := ⟨"EpochTree", "isChange", "(III)Z"⟩
abbrev cX6_hasRole : ByteArray := prog_1_method_26_code
abbrev yX6_hasRole : MethodName := ⟨"EpochTree", "hasRole", "(II)Z"⟩
abbrev cX6_leads : ByteArray := prog_1_method_27_code
abbrev yX6_leads : MethodName := ⟨"EpochTree", "leads", "(I)Z"⟩
abbrev cX6_isFollowerOf : ByteArray := prog_1_method_28_code
abbrev yX6_isFollowerOf : MethodName := ⟨"EpochTree", "isFollowerOf", "(LEpochTree$Server;LEpochTree$Server;)Z"⟩
abbrev cX6_stopTo : ByteArray := prog_1_method_29_code
abbrev yX6_stopTo : MethodName := ⟨"EpochTree", "stopTo", "(II)V"⟩
abbrev cX6_readJoin : ByteArray := prog_1_method_30_code
abbrev yX6_readJoin : MethodName := ⟨"EpochTree", "readJoin", "(LEpochTree$Server;LEpochTree$Server;I)V"⟩
abbrev cX6_readAccepted : ByteArray := prog_1_method_31_code
abbrev yX6_readAccepted : MethodName := ⟨"EpochTree", "readAccepted", "(LEpochTree$Server;LEpochTree$Server;Z)V"⟩
abbrev cX6_chooseList : ByteArray := prog_1_method_32_code
abbrev yX6_chooseList : MethodName := ⟨"EpochTree", "chooseList", "(LEpochTree$Server;LEpochTree$Server;)V"⟩
abbrev cX6_sendNewLeader : ByteArray := prog_1_method_33_code
abbrev yX6_sendNewLeader : MethodName := ⟨"EpochTree", "sendNewLeader", "(LEpochTree$Server;LEpochTree$Server;)V"⟩
abbrev cX6_sendNewLeaderToWaiting : ByteArray := prog_1_method_34_code
abbrev yX6_sendNewLeaderToWaiting : MethodName := ⟨"EpochTree", "sendNewLeaderToWaiting", "(LEpochTree$Server;)V"⟩
abbrev cX6_readAck : ByteArray := prog_1_method_35_code
abbrev yX6_readAck : MethodName := ⟨"EpochTree", "readAck", "(LEpochTree$Server;LEpochTree$Server;I)V"⟩
abbrev cX6_sendOnTiedLinks : ByteArray := prog_1_method_36_code
abbrev yX6_sendOnTiedLinks : MethodName := ⟨"EpochTree", "sendOnTiedLinks", "(LEpochTree$Server;II)V"⟩
abbrev cX6_readNewEpoch : ByteArray := prog_1_method_37_code
abbrev yX6_readNewEpoch : MethodName := ⟨"EpochTree", "readNewEpoch", "(II)V"⟩
abbrev cX6_readNewLeader : ByteArray := prog_1_method_38_code
abbrev yX6_readNewLeader : MethodName := ⟨"EpochTree", "readNewLeader", "(LEpochTree$Server;I)V"⟩
abbrev cX6_readProposal : ByteArray := prog_1_method_39_code
abbrev yX6_readProposal : MethodName := ⟨"EpochTree", "readProposal", "(LEpochTree$Server;I)V"⟩
abbrev cX6_makeEntry : ByteArray := prog_1_method_40_code
abbrev yX6_makeEntry : MethodName := ⟨"EpochTree", "makeEntry", "(LEpochTree$Server;IIII)V"⟩
abbrev cX6_growAges : ByteArray := prog_1_method_41_code
abbrev yX6_growAges : MethodName := ⟨"EpochTree", "growAges", "(LEpochTree$Server;)V"⟩
abbrev cX6_closeOldSessions : ByteArray := prog_1_method_42_code
abbrev yX6_closeOldSessions : MethodName := ⟨"EpochTree", "closeOldSessions", "(LEpochTree$Server;)I"⟩
abbrev cX7_init : ByteArray := prog_9_method_1_code
abbrev yX7_init : MethodName := ⟨"EpochTreeModel", "<init>", "()V"⟩
abbrev cX7_out : ByteArray := prog_9_method_2_code
abbrev yX7_out : MethodName := ⟨"EpochTreeModel", "out", "(I)Z"⟩
abbrev cX7_find : ByteArray := prog_9_method_3_code
abbrev yX7_find : MethodName := ⟨"EpochTreeModel", "find", "(I)I"⟩
abbrev cX7_children : ByteArray := prog_9_method_4_code
abbrev yX7_children : MethodName := ⟨"EpochTreeModel", "children", "(I)I"⟩
abbrev cX7_create : ByteArray := prog_9_method_5_code
abbrev yX7_create : MethodName := ⟨"EpochTreeModel", "create", "(III)I"⟩
abbrev cX7_alter : ByteArray := prog_9_method_6_code
abbrev yX7_alter : MethodName := ⟨"EpochTreeModel", "alter", "(ZIII)I"⟩
abbrev cX7_session : ByteArray := prog_9_method_7_code
abbrev yX7_session : MethodName := ⟨"EpochTreeModel", "session", "(ZI)I"⟩
abbrev cX7_work : ByteArray := prog_9_method_8_code
abbrev yX7_work : MethodName := ⟨"EpochTreeModel", "work", "(I)V"⟩
abbrev cX7_cut : ByteArray := prog_9_method_9_code
abbrev yX7_cut : MethodName := ⟨"EpochTreeModel", "cut", "(I)V"⟩
abbrev cX7_follows : ByteArray := prog_9_method_10_code
abbrev yX7_follows : MethodName := ⟨"EpochTreeModel", "follows", "(II)Z"⟩
abbrev cX7_cease : ByteArray := prog_9_method_11_code
abbrev yX7_cease : MethodName := ⟨"EpochTreeModel", "cease", "(I)V"⟩
abbrev cX7_lead : ByteArray := prog_9_method_12_code
abbrev yX7_lead : MethodName := ⟨"EpochTreeModel", "lead", "(I)Z"⟩
abbrev cX7_follow : ByteArray := prog_9_method_13_code
abbrev yX7_follow : MethodName := ⟨"EpochTreeModel", "follow", "(II)Z"⟩
abbrev cX7_quit : ByteArray := prog_9_method_14_code
abbrev yX7_quit : MethodName := ⟨"EpochTreeModel", "quit", "(I)Z"⟩
abbrev cX7_crash : ByteArray := prog_9_method_15_code
abbrev yX7_crash : MethodName := ⟨"EpochTreeModel", "crash", "(I)Z"⟩
abbrev cX7_restart : ByteArray := prog_9_method_16_code
abbrev yX7_restart : MethodName := ⟨"EpochTreeModel", "restart", "(I)Z"⟩
abbrev cX7_sendUp : ByteArray := prog_9_method_17_code
abbrev yX7_sendUp : MethodName := ⟨"EpochTreeModel", "sendUp", "(III)V"⟩
abbrev cX7_sendDown : ByteArray := prog_9_method_18_code
abbrev yX7_sendDown : MethodName := ⟨"EpochTreeModel", "sendDown", "(III)V"⟩
abbrev cX7_newLeader : ByteArray := prog_9_method_19_code
abbrev yX7_newLeader : MethodName := ⟨"EpochTreeModel", "newLeader", "(II)V"⟩
abbrev cX7_copy : ByteArray := prog_9_method_20_code
abbrev yX7_copy : MethodName := ⟨"EpochTreeModel", "copy", "(III)V"⟩
abbrev cX7_copyEntry : ByteArray := prog_9_method_21_code
abbrev yX7_copyEntry : MethodName := ⟨"EpochTreeModel", "copyEntry", "(II)V"⟩
abbrev cX7_lastMark : ByteArray := prog_9_method_22_code
abbrev yX7_lastMark : MethodName := ⟨"EpochTreeModel", "lastMark", "(I)I"⟩
abbrev cX7_accepted : ByteArray := prog_9_method_23_code
abbrev yX7_accepted : MethodName := ⟨"EpochTreeModel", "accepted", "(IIZ)V"⟩
abbrev cX7_acknowledged : ByteArray := prog_9_method_24_code
abbrev yX7_acknowledged : MethodName := ⟨"EpochTreeModel", "acknowledged", "(III)V"⟩
abbrev cX7_up : ByteArray := prog_9_method_25_code
abbrev yX7_up : MethodName := ⟨"EpochTreeModel", "up", "(I)I"⟩
abbrev cX7_down : ByteArray := prog_9_method_26_code
abbrev yX7_down : MethodName := ⟨"EpochTreeModel", "down", "(I)I"⟩
abbrev cX7_make : ByteArray := prog_9_method_27_code
abbrev yX7_make : MethodName := ⟨"EpochTreeModel", "make", "(IIIII)V"⟩
abbrev cX7_isPath : ByteArray := prog_9_method_28_code
abbrev yX7_isPath : MethodName := ⟨"EpochTreeModel", "isPath", "(I)Z"⟩
abbrev cX7_submit : ByteArray := prog_9_method_29_code
abbrev yX7_submit : MethodName := ⟨"EpochTreeModel", "submit", "(IIIII)I"⟩
abbrev cX7_tick : ByteArray := prog_9_method_30_code
abbrev yX7_tick : MethodName := ⟨"EpochTreeModel", "tick", "()I"⟩
abbrev cX7_touch : ByteArray := prog_9_method_31_code
abbrev yX7_touch : MethodName := ⟨"EpochTreeModel", "touch", "(II)Z"⟩
abbrev cX7_role : ByteArray := prog_9_method_32_code
abbrev yX7_role : MethodName := ⟨"EpochTreeModel", "role", "(I)I"⟩
abbrev cX7_promise : ByteArray := prog_9_method_33_code
abbrev yX7_promise : MethodName := ⟨"EpochTreeModel", "promise", "(I)I"⟩
abbrev cX7_epoch : ByteArray := prog_9_method_34_code
abbrev yX7_epoch : MethodName := ⟨"EpochTreeModel", "epoch", "(I)I"⟩
abbrev cX7_length : ByteArray := prog_9_method_35_code
abbrev yX7_length : MethodName := ⟨"EpochTreeModel", "length", "(I)I"⟩
abbrev cX7_mark : ByteArray := prog_9_method_36_code
abbrev yX7_mark : MethodName := ⟨"EpochTreeModel", "mark", "(II)I"⟩
abbrev cX7_applied : ByteArray := prog_9_method_37_code
abbrev yX7_applied : MethodName := ⟨"EpochTreeModel", "applied", "(I)I"⟩
abbrev cX7_result : ByteArray := prog_9_method_38_code
abbrev yX7_result : MethodName := ⟨"EpochTreeModel", "result", "(II)I"⟩
abbrev cX7_node : ByteArray := prog_9_method_39_code
abbrev yX7_node : MethodName := ⟨"EpochTreeModel", "node", "(III)I"⟩
abbrev cX7_tree : ByteArray := prog_9_method_40_code
abbrev yX7_tree : MethodName := ⟨"EpochTreeModel", "tree", "(I)I"⟩
abbrev cX7_waiting : ByteArray := prog_9_method_41_code
abbrev yX7_waiting : MethodName := ⟨"EpochTreeModel", "waiting", "(IZ)I"⟩
abbrev cX0_init : ByteArray := prog_2_method_1_code
abbrev yX0_init : MethodName := ⟨"EpochTree$EntryList", "<init>", "()V"⟩
abbrev cX0_isFull : ByteArray := prog_2_method_2_code
abbrev yX0_isFull : MethodName := ⟨"EpochTree$EntryList", "isFull", "()Z"⟩
abbrev cX0_markAt : ByteArray := prog_2_method_3_code
abbrev yX0_markAt : MethodName := ⟨"EpochTree$EntryList", "markAt", "(I)I"⟩
abbrev cX0_lastMark : ByteArray := prog_2_method_4_code
abbrev yX0_lastMark : MethodName := ⟨"EpochTree$EntryList", "lastMark", "()I"⟩
abbrev cX0_append : ByteArray := prog_2_method_5_code
abbrev yX0_append : MethodName := ⟨"EpochTree$EntryList", "append", "(IIIII)V"⟩
abbrev cX0_appendFrom : ByteArray := prog_2_method_6_code
abbrev yX0_appendFrom : MethodName := ⟨"EpochTree$EntryList", "appendFrom", "(LEpochTree$EntryList;I)V"⟩
abbrev cX0_becomeFirst : ByteArray := prog_2_method_7_code
abbrev yX0_becomeFirst : MethodName := ⟨"EpochTree$EntryList", "becomeFirst", "(LEpochTree$EntryList;I)V"⟩
abbrev cX1_init : ByteArray := prog_3_method_1_code
abbrev yX1_init : MethodName := ⟨"EpochTree$Link", "<init>", "()V"⟩
abbrev cX1_clear : ByteArray := prog_3_method_2_code
abbrev yX1_clear : MethodName := ⟨"EpochTree$Link", "clear", "()V"⟩
abbrev cX2_init : ByteArray := prog_4_method_1_code
abbrev yX2_init : MethodName := ⟨"EpochTree$Row", "<init>", "(I)V"⟩
abbrev cX2_clear : ByteArray := prog_4_method_2_code
abbrev yX2_clear : MethodName := ⟨"EpochTree$Row", "clear", "()V"⟩
abbrev cX2_count : ByteArray := prog_4_method_3_code
abbrev yX2_count : MethodName := ⟨"EpochTree$Row", "count", "()I"⟩
abbrev cX2_send : ByteArray := prog_4_method_4_code
abbrev yX2_send : MethodName := ⟨"EpochTree$Row", "send", "(II)V"⟩
abbrev cX2_firstKind : ByteArray := prog_4_method_5_code
abbrev yX2_firstKind : MethodName := ⟨"EpochTree$Row", "firstKind", "()I"⟩
abbrev cX2_firstValue : ByteArray := prog_4_method_6_code
abbrev yX2_firstValue : MethodName := ⟨"EpochTree$Row", "firstValue", "()I"⟩
abbrev cX2_dropFirst : ByteArray := prog_4_method_7_code
abbrev yX2_dropFirst : MethodName := ⟨"EpochTree$Row", "dropFirst", "()V"⟩
abbrev cX3_init : ByteArray := prog_5_method_1_code
abbrev yX3_init : MethodName := ⟨"EpochTree$Server", "<init>", "(I)V"⟩
abbrev cX3_applyUpTo : ByteArray := prog_5_method_2_code
abbrev yX3_applyUpTo : MethodName := ⟨"EpochTree$Server", "applyUpTo", "(I)V"⟩
abbrev cX3_forgetApplied : ByteArray := prog_5_method_3_code
abbrev yX3_forgetApplied : MethodName := ⟨"EpochTree$Server", "forgetApplied", "()V"⟩
abbrev cX4_init : ByteArray := prog_6_method_1_code
abbrev yX4_init : MethodName := ⟨"EpochTree$Term", "<init>", "()V"⟩
abbrev cX4_begin : ByteArray := prog_6_method_2_code
abbrev yX4_begin : MethodName := ⟨"EpochTree$Term", "begin", "()V"⟩
abbrev cX5_init : ByteArray := prog_7_method_1_code
abbrev yX5_init : MethodName := ⟨"EpochTree$Tree", "<init>", "()V"⟩
abbrev cX5_clear : ByteArray := prog_7_method_2_code
abbrev yX5_clear : MethodName := ⟨"EpochTree$Tree", "clear", "()V"⟩
abbrev cX5_summary : ByteArray := prog_7_method_3_code
abbrev yX5_summary : MethodName := ⟨"EpochTree$Tree", "summary", "()I"⟩
abbrev cX5_isOpen : ByteArray := prog_7_method_4_code
abbrev yX5_isOpen : MethodName := ⟨"EpochTree$Tree", "isOpen", "(I)Z"⟩
abbrev cX5_look : ByteArray := prog_7_method_5_code
abbrev yX5_look : MethodName := ⟨"EpochTree$Tree", "look", "(II)I"⟩
abbrev cX5_lookAtRoot : ByteArray := prog_7_method_6_code
abbrev yX5_lookAtRoot : MethodName := ⟨"EpochTree$Tree", "lookAtRoot", "(I)I"⟩
abbrev cX5_find : ByteArray := prog_7_method_7_code
abbrev yX5_find : MethodName := ⟨"EpochTree$Tree", "find", "(I)I"⟩
abbrev cX5_countChildren : ByteArray := prog_7_method_8_code
abbrev yX5_countChildren : MethodName := ⟨"EpochTree$Tree", "countChildren", "(I)I"⟩
abbrev cX5_change : ByteArray := prog_7_method_9_code
abbrev yX5_change : MethodName := ⟨"EpochTree$Tree", "change", "(IIII)I"⟩
abbrev cX5_create : ByteArray := prog_7_method_10_code
abbrev yX5_create : MethodName := ⟨"EpochTree$Tree", "create", "(III)I"⟩
abbrev cX5_add : ByteArray := prog_7_method_11_code
abbrev yX5_add : MethodName := ⟨"EpochTree$Tree", "add", "(III)V"⟩
abbrev cX5_set : ByteArray := prog_7_method_12_code
abbrev yX5_set : MethodName := ⟨"EpochTree$Tree", "set", "(III)I"⟩
abbrev cX5_delete : ByteArray := prog_7_method_13_code
abbrev yX5_delete : MethodName := ⟨"EpochTree$Tree", "delete", "(II)I"⟩
abbrev cX5_remove : ByteArray := prog_7_method_14_code
abbrev yX5_remove : MethodName := ⟨"EpochTree$Tree", "remove", "(I)V"⟩
abbrev cX5_open : ByteArray := prog_7_method_15_code
abbrev yX5_open : MethodName := ⟨"EpochTree$Tree", "open", "(I)I"⟩
abbrev cX5_close : ByteArray := prog_7_method_16_code
abbrev yX5_close : MethodName := ⟨"EpochTree$Tree", "close", "(I)I"⟩
abbrev cXA_fill : ByteArray := prog_11_method_103_code
abbrev yXA_fill : MethodName := ⟨"java/util/Arrays", "fill", "([II)V"⟩
set_option maxRecDepth 20000 in
def tb : List Cond := [
  (Jvm.Cond.initialized "EpochTreeLaw"),
  (Jvm.Cond.initialized "EpochTree"),
  (Jvm.Cond.initialized "EpochTree$Server"),
  (Jvm.Cond.initialized "EpochTree$EntryList"),
  (Jvm.Cond.initialized "EpochTree$Tree"),
  (Jvm.Cond.initialized "EpochTree$Link"),
  (Jvm.Cond.initialized "EpochTree$Row"),
  (Jvm.Cond.initialized "EpochTree$Term"),
  (Jvm.Cond.initialized "EpochTreeModel"),
  (Jvm.Cond.initialized "java/lang/Math"),
  (Jvm.Cond.initialized "java/util/Arrays"),
  (Jvm.Cond.classLink "EpochTreeLaw" (7 : Nat) "EpochTree"),
  (Jvm.Cond.instantiable "EpochTree" (1 : Nat)),
  (Jvm.Cond.methodLink "EpochTreeLaw" (9 : Nat) ({ cls := "EpochTree", name := "<init>", desc := "()V" } : Jvm.MethodName)),
  (Jvm.Cond.instanceMethod ({ cls := "EpochTree", name := "<init>", desc := "()V" } : Jvm.MethodName)),
  (Jvm.Cond.code ({ cls := "EpochTree", name := "<init>", desc := "()V" } : Jvm.MethodName) prog_1_method_1_code (2 : Nat) (Option.none : Option Jvm.ClassFile.FieldType)),
  (Jvm.Cond.methodLink "EpochTree" (3 : Nat) ({ cls := "java/lang/Object", name := "<init>", desc := "()V" } : Jvm.MethodName)),
  (Jvm.Cond.instanceMethod ({ cls := "java/lang/Object", name := "<init>", desc := "()V" } : Jvm.MethodName)),
  (Jvm.Cond.code ({ cls := "java/lang/Object", name := "<init>", desc := "()V" } : Jvm.MethodName) object_method_1_code (1 : Nat) (Option.none : Option Jvm.ClassFile.FieldType)),
  (Jvm.Cond.classLink "EpochTree" (9 : Nat) "EpochTree$Server"),
  (Jvm.Cond.instantiable "EpochTree$Server" (11 : Nat)),
  (Jvm.Cond.instanceMethod ({ cls := "EpochTree$Server", name := "<init>", desc := "(I)V" } : Jvm.MethodName)),
  (Jvm.Cond.code ({ cls := "EpochTree$Server", name := "<init>", desc := "(I)V" } : Jvm.MethodName) prog_5_method_1_code (2 : Nat) (Option.none : Option Jvm.ClassFile.FieldType)),
  (Jvm.Cond.methodLink "EpochTree$Server" (3 : Nat) ({ cls := "java/lang/Object", name := "<init>", desc := "()V" } : Jvm.MethodName)),
  (Jvm.Cond.classLink "EpochTree$Server" (15 : Nat) "EpochTree$EntryList"),
  (Jvm.Cond.instantiable "EpochTree$EntryList" (6 : Nat)),
  (Jvm.Cond.instanceMethod ({ cls := "EpochTree$EntryList", name := "<init>", desc := "()V" } : Jvm.MethodName)),
  (Jvm.Cond.code ({ cls := "EpochTree$EntryList", name := "<init>", desc := "()V" } : Jvm.MethodName) prog_2_method_1_code (1 : Nat) (Option.none : Option Jvm.ClassFile.FieldType)),
  (Jvm.Cond.methodLink "EpochTree$EntryList" (3 : Nat) ({ cls := "java/lang/Object", name := "<init>", desc := "()V" } : Jvm.MethodName)),
  (Jvm.Cond.fieldLink "EpochTree$EntryList" (9 : Nat) "EpochTree$EntryList" "marks" "[I"),
  (Jvm.Cond.fieldLink "EpochTree$EntryList" (15 : Nat) "EpochTree$EntryList" "kinds" "[I"),
  (Jvm.Cond.fieldLink "EpochTree$EntryList" (18 : Nat) "EpochTree$EntryList" "paths" "[I"),
  (Jvm.Cond.fieldLink "EpochTree$EntryList" (21 : Nat) "EpochTree$EntryList" "as" "[I"),
  (Jvm.Cond.fieldLink "EpochTree$EntryList" (24 : Nat) "EpochTree$EntryList" "bs" "[I"),
  (Jvm.Cond.fieldLink "EpochTree$EntryList" (27 : Nat) "EpochTree$EntryList" "size" "I"),
  (Jvm.Cond.laysFinal "EpochTree$EntryList" "EpochTree$EntryList" "marks" "[I"),
  (Jvm.Cond.laysFinal "EpochTree$EntryList" "EpochTree$EntryList" "kinds" "[I"),
  (Jvm.Cond.laysFinal "EpochTree$EntryList" "EpochTree$EntryList" "paths" "[I"),
  (Jvm.Cond.laysFinal "EpochTree$EntryList" "EpochTree$EntryList" "as" "[I"),
  (Jvm.Cond.laysFinal "EpochTree$EntryList" "EpochTree$EntryList" "bs" "[I"),
  (Jvm.Cond.lays "EpochTree$EntryList" "EpochTree$EntryList" "size" "I"),
  (Jvm.Cond.arrayClass Jvm.ClassFile.FieldType.int),
  (Jvm.Cond.classLink "EpochTree$Server" (29 : Nat) "EpochTree$Tree"),
  (Jvm.Cond.instantiable "EpochTree$Tree" (6 : Nat)),
  (Jvm.Cond.instanceMethod ({ cls := "EpochTree$Tree", name := "<init>", desc := "()V" } : Jvm.MethodName)),
  (Jvm.Cond.code ({ cls := "EpochTree$Tree", name := "<init>", desc := "()V" } : Jvm.MethodName) prog_7_method_1_code (1 : Nat) (Option.none : Option Jvm.ClassFile.FieldType)),
  (Jvm.Cond.methodLink "EpochTree$Tree" (3 : Nat) ({ cls := "java/lang/Object", name := "<init>", desc := "()V" } : Jvm.MethodName)),
  (Jvm.Cond.fieldLink "EpochTree$Tree" (9 : Nat) "EpochTree$Tree" "paths" "[I"),
  (Jvm.Cond.fieldLink "EpochTree$Tree" (15 : Nat) "EpochTree$Tree" "data" "[I"),
  (Jvm.Cond.fieldLink "EpochTree$Tree" (18 : Nat) "EpochTree$Tree" "versions" "[I"),
  (Jvm.Cond.fieldLink "EpochTree$Tree" (21 : Nat) "EpochTree$Tree" "owners" "[I"),
  (Jvm.Cond.fieldLink "EpochTree$Tree" (24 : Nat) "EpochTree$Tree" "size" "I"),
  (Jvm.Cond.fieldLink "EpochTree$Tree" (28 : Nat) "EpochTree$Tree" "openBits" "I"),
  (Jvm.Cond.laysFinal "EpochTree$Tree" "EpochTree$Tree" "paths" "[I"),
  (Jvm.Cond.laysFinal "EpochTree$Tree" "EpochTree$Tree" "data" "[I"),
  (Jvm.Cond.laysFinal "EpochTree$Tree" "EpochTree$Tree" "versions" "[I"),
  (Jvm.Cond.laysFinal "EpochTree$Tree" "EpochTree$Tree" "owners" "[I"),
  (Jvm.Cond.lays "EpochTree$Tree" "EpochTree$Tree" "size" "I"),
  (Jvm.Cond.lays "EpochTree$Tree" "EpochTree$Tree" "openBits" "I"),
  (Jvm.Cond.classLink "EpochTree$Server" (36 : Nat) "EpochTree$Link"),
  (Jvm.Cond.instantiable "EpochTree$Link" (5 : Nat)),
  (Jvm.Cond.instanceMethod ({ cls := "EpochTree$Link", name := "<init>", desc := "()V" } : Jvm.MethodName)),
  (Jvm.Cond.code ({ cls := "EpochTree$Link", name := "<init>", desc := "()V" } : Jvm.MethodName) prog_3_method_1_code (1 : Nat) (Option.none : Option Jvm.ClassFile.FieldType)),
  (Jvm.Cond.methodLink "EpochTree$Link" (3 : Nat) ({ cls := "java/lang/Object", name := "<init>", desc := "()V" } : Jvm.MethodName)),
  (Jvm.Cond.classLink "EpochTree$Link" (9 : Nat) "EpochTree$Row"),
  (Jvm.Cond.instantiable "EpochTree$Row" (4 : Nat)),
  (Jvm.Cond.instanceMethod ({ cls := "EpochTree$Row", name := "<init>", desc := "(I)V" } : Jvm.MethodName)),
  (Jvm.Cond.code ({ cls := "EpochTree$Row", name := "<init>", desc := "(I)V" } : Jvm.MethodName) prog_4_method_1_code (2 : Nat) (Option.none : Option Jvm.ClassFile.FieldType)),
  (Jvm.Cond.methodLink "EpochTree$Row" (1 : Nat) ({ cls := "java/lang/Object", name := "<init>", desc := "()V" } : Jvm.MethodName)),
  (Jvm.Cond.fieldLink "EpochTree$Row" (7 : Nat) "EpochTree$Row" "kinds" "[I"),
  (Jvm.Cond.fieldLink "EpochTree$Row" (13 : Nat) "EpochTree$Row" "values" "[I"),
  (Jvm.Cond.fieldLink "EpochTree$Row" (16 : Nat) "EpochTree$Row" "first" "I"),
  (Jvm.Cond.fieldLink "EpochTree$Row" (20 : Nat) "EpochTree$Row" "end" "I"),
  (Jvm.Cond.laysFinal "EpochTree$Row" "EpochTree$Row" "kinds" "[I"),
  (Jvm.Cond.laysFinal "EpochTree$Row" "EpochTree$Row" "values" "[I"),
  (Jvm.Cond.lays "EpochTree$Row" "EpochTree$Row" "first" "I"),
  (Jvm.Cond.lays "EpochTree$Row" "EpochTree$Row" "end" "I"),
  (Jvm.Cond.fieldLink "EpochTree$Link" (14 : Nat) "EpochTree$Link" "up" "LEpochTree$Row;"),
  (Jvm.Cond.fieldLink "EpochTree$Link" (20 : Nat) "EpochTree$Link" "down" "LEpochTree$Row;"),
  (Jvm.Cond.fieldLink "EpochTree$Link" (26 : Nat) "EpochTree$Link" "tied" "Z"),
  (Jvm.Cond.fieldLink "EpochTree$Link" (30 : Nat) "EpochTree$Link" "acked" "Z"),
  (Jvm.Cond.fieldLink "EpochTree$Link" (33 : Nat) "EpochTree$Link" "waitsForList" "Z"),
  (Jvm.Cond.laysFinal "EpochTree$Link" "EpochTree$Link" "up" "LEpochTree$Row;"),
  (Jvm.Cond.laysFinal "EpochTree$Link" "EpochTree$Link" "down" "LEpochTree$Row;"),
  (Jvm.Cond.lays "EpochTree$Link" "EpochTree$Link" "tied" "Z"),
  (Jvm.Cond.lays "EpochTree$Link" "EpochTree$Link" "acked" "Z"),
  (Jvm.Cond.lays "EpochTree$Link" "EpochTree$Link" "waitsForList" "Z"),
  (Jvm.Cond.classLink "EpochTree$Server" (43 : Nat) "EpochTree$Term"),
  (Jvm.Cond.instantiable "EpochTree$Term" (4 : Nat)),
  (Jvm.Cond.instanceMethod ({ cls := "EpochTree$Term", name := "<init>", desc := "()V" } : Jvm.MethodName)),
  (Jvm.Cond.code ({ cls := "EpochTree$Term", name := "<init>", desc := "()V" } : Jvm.MethodName) prog_6_method_1_code (1 : Nat) (Option.none : Option Jvm.ClassFile.FieldType)),
  (Jvm.Cond.methodLink "EpochTree$Term" (3 : Nat) ({ cls := "java/lang/Object", name := "<init>", desc := "()V" } : Jvm.MethodName)),
  (Jvm.Cond.fieldLink "EpochTree$Term" (15 : Nat) "EpochTree$Term" "epochChosen" "Z"),
  (Jvm.Cond.fieldLink "EpochTree$Term" (19 : Nat) "EpochTree$Term" "listChosen" "Z"),
  (Jvm.Cond.fieldLink "EpochTree$Term" (22 : Nat) "EpochTree$Term" "made" "I"),
  (Jvm.Cond.fieldLink "EpochTree$Term" (9 : Nat) "EpochTree$Term" "ages" "[I"),
  (Jvm.Cond.lays "EpochTree$Term" "EpochTree$Term" "epochChosen" "Z"),
  (Jvm.Cond.lays "EpochTree$Term" "EpochTree$Term" "listChosen" "Z"),
  (Jvm.Cond.lays "EpochTree$Term" "EpochTree$Term" "made" "I"),
  (Jvm.Cond.laysFinal "EpochTree$Term" "EpochTree$Term" "ages" "[I"),
  (Jvm.Cond.fieldLink "EpochTree$Server" (9 : Nat) "EpochTree$Server" "number" "I"),
  (Jvm.Cond.fieldLink "EpochTree$Server" (18 : Nat) "EpochTree$Server" "list" "LEpochTree$EntryList;"),
  (Jvm.Cond.fieldLink "EpochTree$Server" (22 : Nat) "EpochTree$Server" "role" "I"),
  (Jvm.Cond.fieldLink "EpochTree$Server" (59 : Nat) "EpochTree$Server" "applied" "I"),
  (Jvm.Cond.fieldLink "EpochTree$Server" (25 : Nat) "EpochTree$Server" "results" "[I"),
  (Jvm.Cond.fieldLink "EpochTree$Server" (32 : Nat) "EpochTree$Server" "tree" "LEpochTree$Tree;"),
  (Jvm.Cond.fieldLink "EpochTree$Server" (39 : Nat) "EpochTree$Server" "link" "LEpochTree$Link;"),
  (Jvm.Cond.fieldLink "EpochTree$Server" (46 : Nat) "EpochTree$Server" "term" "LEpochTree$Term;"),
  (Jvm.Cond.laysFinal "EpochTree$Server" "EpochTree$Server" "number" "I"),
  (Jvm.Cond.lays "EpochTree$Server" "EpochTree$Server" "promise" "I"),
  (Jvm.Cond.lays "EpochTree$Server" "EpochTree$Server" "epoch" "I"),
  (Jvm.Cond.laysFinal "EpochTree$Server" "EpochTree$Server" "list" "LEpochTree$EntryList;"),
  (Jvm.Cond.lays "EpochTree$Server" "EpochTree$Server" "role" "I"),
  (Jvm.Cond.lays "EpochTree$Server" "EpochTree$Server" "leader" "I"),
  (Jvm.Cond.lays "EpochTree$Server" "EpochTree$Server" "applied" "I"),
  (Jvm.Cond.laysFinal "EpochTree$Server" "EpochTree$Server" "results" "[I"),
  (Jvm.Cond.laysFinal "EpochTree$Server" "EpochTree$Server" "tree" "LEpochTree$Tree;"),
  (Jvm.Cond.laysFinal "EpochTree$Server" "EpochTree$Server" "link" "LEpochTree$Link;"),
  (Jvm.Cond.laysFinal "EpochTree$Server" "EpochTree$Server" "term" "LEpochTree$Term;"),
  (Jvm.Cond.fieldLink "EpochTree" (11 : Nat) "EpochTree" "servers" "[LEpochTree$Server;"),
  (Jvm.Cond.laysFinal "EpochTree" "EpochTree" "servers" "[LEpochTree$Server;"),
  (Jvm.Cond.methodLink "EpochTreeLaw" (13 : Nat) ({ cls := "EpochTree", name := "lead", desc := "(I)Z" } : Jvm.MethodName)),
  (Jvm.Cond.instanceMethod ({ cls := "EpochTree", name := "lead", desc := "(I)Z" } : Jvm.MethodName)),
  (Jvm.Cond.selects "EpochTree" ({ cls := "EpochTree", name := "lead", desc := "(I)Z" } : Jvm.MethodName) ({ cls := "EpochTree", name := "lead", desc := "(I)Z" } : Jvm.MethodName)),
  (Jvm.Cond.code ({ cls := "EpochTree", name := "lead", desc := "(I)Z" } : Jvm.MethodName) prog_1_method_2_code (2 : Nat) (Option.some Jvm.ClassFile.FieldType.boolean)),
  (Jvm.Cond.methodLink "EpochTree" (18 : Nat) ({ cls := "EpochTree", name := "hasRole", desc := "(II)Z" } : Jvm.MethodName)),
  (Jvm.Cond.instanceMethod ({ cls := "EpochTree", name := "hasRole", desc := "(II)Z" } : Jvm.MethodName)),
  (Jvm.Cond.code ({ cls := "EpochTree", name := "hasRole", desc := "(II)Z" } : Jvm.MethodName) prog_1_method_26_code (3 : Nat) (Option.some Jvm.ClassFile.FieldType.boolean)),
  (Jvm.Cond.methodLink "EpochTree" (64 : Nat) ({ cls := "EpochTree", name := "isServer", desc := "(I)Z" } : Jvm.MethodName)),
  (Jvm.Cond.static ({ cls := "EpochTree", name := "isServer", desc := "(I)Z" } : Jvm.MethodName)),
  (Jvm.Cond.code ({ cls := "EpochTree", name := "isServer", desc := "(I)Z" } : Jvm.MethodName) prog_1_method_22_code (1 : Nat) (Option.some Jvm.ClassFile.FieldType.boolean)),
  (Jvm.Cond.instanceMethod ({ cls := "EpochTree$Term", name := "begin", desc := "()V" } : Jvm.MethodName)),
  (Jvm.Cond.code ({ cls := "EpochTree$Term", name := "begin", desc := "()V" } : Jvm.MethodName) prog_6_method_2_code (1 : Nat) (Option.none : Option Jvm.ClassFile.FieldType)),
  (Jvm.Cond.methodLink "EpochTreeLaw" (18 : Nat) ({ cls := "EpochTree", name := "follow", desc := "(II)Z" } : Jvm.MethodName)),
  (Jvm.Cond.instanceMethod ({ cls := "EpochTree", name := "follow", desc := "(II)Z" } : Jvm.MethodName)),
  (Jvm.Cond.selects "EpochTree" ({ cls := "EpochTree", name := "follow", desc := "(II)Z" } : Jvm.MethodName) ({ cls := "EpochTree", name := "follow", desc := "(II)Z" } : Jvm.MethodName)),
  (Jvm.Cond.code ({ cls := "EpochTree", name := "follow", desc := "(II)Z" } : Jvm.MethodName) prog_1_method_3_code (4 : Nat) (Option.some Jvm.ClassFile.FieldType.boolean)),
  (Jvm.Cond.methodLink "EpochTree" (35 : Nat) ({ cls := "EpochTree", name := "leads", desc := "(I)Z" } : Jvm.MethodName)),
  (Jvm.Cond.instanceMethod ({ cls := "EpochTree", name := "leads", desc := "(I)Z" } : Jvm.MethodName)),
  (Jvm.Cond.code ({ cls := "EpochTree", name := "leads", desc := "(I)Z" } : Jvm.MethodName) prog_1_method_27_code (2 : Nat) (Option.some Jvm.ClassFile.FieldType.boolean)),
  (Jvm.Cond.instanceMethod ({ cls := "EpochTree$Row", name := "send", desc := "(II)V" } : Jvm.MethodName)),
  (Jvm.Cond.code ({ cls := "EpochTree$Row", name := "send", desc := "(II)V" } : Jvm.MethodName) prog_4_method_4_code (3 : Nat) (Option.none : Option Jvm.ClassFile.FieldType)),
  (Jvm.Cond.methodLink "EpochTreeLaw" (23 : Nat) ({ cls := "EpochTree", name := "quit", desc := "(I)Z" } : Jvm.MethodName)),
  (Jvm.Cond.instanceMethod ({ cls := "EpochTree", name := "quit", desc := "(I)Z" } : Jvm.MethodName)),
  (Jvm.Cond.selects "EpochTree" ({ cls := "EpochTree", name := "quit", desc := "(I)Z" } : Jvm.MethodName) ({ cls := "EpochTree", name := "quit", desc := "(I)Z" } : Jvm.MethodName)),
  (Jvm.Cond.code ({ cls := "EpochTree", name := "quit", desc := "(I)Z" } : Jvm.MethodName) prog_1_method_4_code (2 : Nat) (Option.some Jvm.ClassFile.FieldType.boolean)),
  (Jvm.Cond.methodLink "EpochTree" (61 : Nat) ({ cls := "EpochTree", name := "stopTo", desc := "(II)V" } : Jvm.MethodName)),
  (Jvm.Cond.instanceMethod ({ cls := "EpochTree", name := "stopTo", desc := "(II)V" } : Jvm.MethodName)),
  (Jvm.Cond.code ({ cls := "EpochTree", name := "stopTo", desc := "(II)V" } : Jvm.MethodName) prog_1_method_29_code (5 : Nat) (Option.none : Option Jvm.ClassFile.FieldType)),
  (Jvm.Cond.methodLink "EpochTree" (181 : Nat) ({ cls := "EpochTree", name := "isFollowerOf", desc := "(LEpochTree$Server;LEpochTree$Server;)Z" } : Jvm.MethodName)),
  (Jvm.Cond.static ({ cls := "EpochTree", name := "isFollowerOf", desc := "(LEpochTree$Server;LEpochTree$Server;)Z" } : Jvm.MethodName)),
  (Jvm.Cond.code ({ cls := "EpochTree", name := "isFollowerOf", desc := "(LEpochTree$Server;LEpochTree$Server;)Z" } : Jvm.MethodName) prog_1_method_28_code (2 : Nat) (Option.some Jvm.ClassFile.FieldType.boolean)),
  (Jvm.Cond.instanceMethod ({ cls := "EpochTree$Link", name := "clear", desc := "()V" } : Jvm.MethodName)),
  (Jvm.Cond.code ({ cls := "EpochTree$Link", name := "clear", desc := "()V" } : Jvm.MethodName) prog_3_method_2_code (1 : Nat) (Option.none : Option Jvm.ClassFile.FieldType)),
  (Jvm.Cond.instanceMethod ({ cls := "EpochTree$Row", name := "clear", desc := "()V" } : Jvm.MethodName)),
  (Jvm.Cond.code ({ cls := "EpochTree$Row", name := "clear", desc := "()V" } : Jvm.MethodName) prog_4_method_2_code (1 : Nat) (Option.none : Option Jvm.ClassFile.FieldType)),
  (Jvm.Cond.methodLink "EpochTreeLaw" (27 : Nat) ({ cls := "EpochTree", name := "crash", desc := "(I)Z" } : Jvm.MethodName)),
  (Jvm.Cond.instanceMethod ({ cls := "EpochTree", name := "crash", desc := "(I)Z" } : Jvm.MethodName)),
  (Jvm.Cond.selects "EpochTree" ({ cls := "EpochTree", name := "crash", desc := "(I)Z" } : Jvm.MethodName) ({ cls := "EpochTree", name := "crash", desc := "(I)Z" } : Jvm.MethodName)),
  (Jvm.Cond.code ({ cls := "EpochTree", name := "crash", desc := "(I)Z" } : Jvm.MethodName) prog_1_method_5_code (2 : Nat) (Option.some Jvm.ClassFile.FieldType.boolean)),
  (Jvm.Cond.instanceMethod ({ cls := "EpochTree$Server", name := "forgetApplied", desc := "()V" } : Jvm.MethodName)),
  (Jvm.Cond.code ({ cls := "EpochTree$Server", name := "forgetApplied", desc := "()V" } : Jvm.MethodName) prog_5_method_3_code (1 : Nat) (Option.none : Option Jvm.ClassFile.FieldType)),
  (Jvm.Cond.instanceMethod ({ cls := "EpochTree$Tree", name := "clear", desc := "()V" } : Jvm.MethodName)),
  (Jvm.Cond.code ({ cls := "EpochTree$Tree", name := "clear", desc := "()V" } : Jvm.MethodName) prog_7_method_2_code (1 : Nat) (Option.none : Option Jvm.ClassFile.FieldType)),
  (Jvm.Cond.methodLink "EpochTreeLaw" (31 : Nat) ({ cls := "EpochTree", name := "restart", desc := "(I)Z" } : Jvm.MethodName)),
  (Jvm.Cond.instanceMethod ({ cls := "EpochTree", name := "restart", desc := "(I)Z" } : Jvm.MethodName)),
  (Jvm.Cond.selects "EpochTree" ({ cls := "EpochTree", name := "restart", desc := "(I)Z" } : Jvm.MethodName) ({ cls := "EpochTree", name := "restart", desc := "(I)Z" } : Jvm.MethodName)),
  (Jvm.Cond.code ({ cls := "EpochTree", name := "restart", desc := "(I)Z" } : Jvm.MethodName) prog_1_method_6_code (2 : Nat) (Option.some Jvm.ClassFile.FieldType.boolean)),
  (Jvm.Cond.methodLink "EpochTreeLaw" (35 : Nat) ({ cls := "EpochTree", name := "up", desc := "(I)I" } : Jvm.MethodName)),
  (Jvm.Cond.instanceMethod ({ cls := "EpochTree", name := "up", desc := "(I)I" } : Jvm.MethodName)),
  (Jvm.Cond.selects "EpochTree" ({ cls := "EpochTree", name := "up", desc := "(I)I" } : Jvm.MethodName) ({ cls := "EpochTree", name := "up", desc := "(I)I" } : Jvm.MethodName)),
  (Jvm.Cond.code ({ cls := "EpochTree", name := "up", desc := "(I)I" } : Jvm.MethodName) prog_1_method_7_code (7 : Nat) (Option.some Jvm.ClassFile.FieldType.int)),
  (Jvm.Cond.instanceMethod ({ cls := "EpochTree$Row", name := "count", desc := "()I" } : Jvm.MethodName)),
  (Jvm.Cond.code ({ cls := "EpochTree$Row", name := "count", desc := "()I" } : Jvm.MethodName) prog_4_method_3_code (1 : Nat) (Option.some Jvm.ClassFile.FieldType.int)),
  (Jvm.Cond.instanceMethod ({ cls := "EpochTree$Row", name := "firstKind", desc := "()I" } : Jvm.MethodName)),
  (Jvm.Cond.code ({ cls := "EpochTree$Row", name := "firstKind", desc := "()I" } : Jvm.MethodName) prog_4_method_5_code (1 : Nat) (Option.some Jvm.ClassFile.FieldType.int)),
  (Jvm.Cond.instanceMethod ({ cls := "EpochTree$Row", name := "firstValue", desc := "()I" } : Jvm.MethodName)),
  (Jvm.Cond.code ({ cls := "EpochTree$Row", name := "firstValue", desc := "()I" } : Jvm.MethodName) prog_4_method_6_code (1 : Nat) (Option.some Jvm.ClassFile.FieldType.int)),
  (Jvm.Cond.instanceMethod ({ cls := "EpochTree$Row", name := "dropFirst", desc := "()V" } : Jvm.MethodName)),
  (Jvm.Cond.code ({ cls := "EpochTree$Row", name := "dropFirst", desc := "()V" } : Jvm.MethodName) prog_4_method_7_code (1 : Nat) (Option.none : Option Jvm.ClassFile.FieldType)),
  (Jvm.Cond.methodLink "EpochTree" (83 : Nat) ({ cls := "EpochTree", name := "readJoin", desc := "(LEpochTree$Server;LEpochTree$Server;I)V" } : Jvm.MethodName)),
  (Jvm.Cond.static ({ cls := "EpochTree", name := "readJoin", desc := "(LEpochTree$Server;LEpochTree$Server;I)V" } : Jvm.MethodName)),
  (Jvm.Cond.code ({ cls := "EpochTree", name := "readJoin", desc := "(LEpochTree$Server;LEpochTree$Server;I)V" } : Jvm.MethodName) prog_1_method_30_code (3 : Nat) (Option.none : Option Jvm.ClassFile.FieldType)),
  (Jvm.Cond.methodLink "EpochTree" (192 : Nat) ({ cls := "java/lang/Math", name := "max", desc := "(II)I" } : Jvm.MethodName)),
  (Jvm.Cond.static ({ cls := "java/lang/Math", name := "max", desc := "(II)I" } : Jvm.MethodName)),
  (Jvm.Cond.code ({ cls := "java/lang/Math", name := "max", desc := "(II)I" } : Jvm.MethodName) prog_10_method_65_code (2 : Nat) (Option.some Jvm.ClassFile.FieldType.int)),
  (Jvm.Cond.methodLink "EpochTree" (87 : Nat) ({ cls := "EpochTree", name := "readAccepted", desc := "(LEpochTree$Server;LEpochTree$Server;Z)V" } : Jvm.MethodName)),
  (Jvm.Cond.instanceMethod ({ cls := "EpochTree", name := "readAccepted", desc := "(LEpochTree$Server;LEpochTree$Server;Z)V" } : Jvm.MethodName)),
  (Jvm.Cond.code ({ cls := "EpochTree", name := "readAccepted", desc := "(LEpochTree$Server;LEpochTree$Server;Z)V" } : Jvm.MethodName) prog_1_method_31_code (4 : Nat) (Option.none : Option Jvm.ClassFile.FieldType)),
  (Jvm.Cond.methodLink "EpochTree" (200 : Nat) ({ cls := "EpochTree", name := "sendNewLeader", desc := "(LEpochTree$Server;LEpochTree$Server;)V" } : Jvm.MethodName)),
  (Jvm.Cond.static ({ cls := "EpochTree", name := "sendNewLeader", desc := "(LEpochTree$Server;LEpochTree$Server;)V" } : Jvm.MethodName)),
  (Jvm.Cond.code ({ cls := "EpochTree", name := "sendNewLeader", desc := "(LEpochTree$Server;LEpochTree$Server;)V" } : Jvm.MethodName) prog_1_method_33_code (2 : Nat) (Option.none : Option Jvm.ClassFile.FieldType)),
  (Jvm.Cond.methodLink "EpochTree" (204 : Nat) ({ cls := "EpochTree", name := "chooseList", desc := "(LEpochTree$Server;LEpochTree$Server;)V" } : Jvm.MethodName)),
  (Jvm.Cond.static ({ cls := "EpochTree", name := "chooseList", desc := "(LEpochTree$Server;LEpochTree$Server;)V" } : Jvm.MethodName)),
  (Jvm.Cond.code ({ cls := "EpochTree", name := "chooseList", desc := "(LEpochTree$Server;LEpochTree$Server;)V" } : Jvm.MethodName) prog_1_method_32_code (4 : Nat) (Option.none : Option Jvm.ClassFile.FieldType)),
  (Jvm.Cond.instanceMethod ({ cls := "EpochTree$EntryList", name := "lastMark", desc := "()I" } : Jvm.MethodName)),
  (Jvm.Cond.code ({ cls := "EpochTree$EntryList", name := "lastMark", desc := "()I" } : Jvm.MethodName) prog_2_method_4_code (1 : Nat) (Option.some Jvm.ClassFile.FieldType.int)),
  (Jvm.Cond.methodLink "EpochTree$EntryList" (31 : Nat) ({ cls := "EpochTree$EntryList", name := "markAt", desc := "(I)I" } : Jvm.MethodName)),
  (Jvm.Cond.instanceMethod ({ cls := "EpochTree$EntryList", name := "markAt", desc := "(I)I" } : Jvm.MethodName)),
  (Jvm.Cond.code ({ cls := "EpochTree$EntryList", name := "markAt", desc := "(I)I" } : Jvm.MethodName) prog_2_method_3_code (2 : Nat) (Option.some Jvm.ClassFile.FieldType.int)),
  (Jvm.Cond.instanceMethod ({ cls := "EpochTree$EntryList", name := "becomeFirst", desc := "(LEpochTree$EntryList;I)V" } : Jvm.MethodName)),
  (Jvm.Cond.code ({ cls := "EpochTree$EntryList", name := "becomeFirst", desc := "(LEpochTree$EntryList;I)V" } : Jvm.MethodName) prog_2_method_7_code (4 : Nat) (Option.none : Option Jvm.ClassFile.FieldType)),
  (Jvm.Cond.methodLink "EpochTree$EntryList" (43 : Nat) ({ cls := "EpochTree$EntryList", name := "appendFrom", desc := "(LEpochTree$EntryList;I)V" } : Jvm.MethodName)),
  (Jvm.Cond.instanceMethod ({ cls := "EpochTree$EntryList", name := "appendFrom", desc := "(LEpochTree$EntryList;I)V" } : Jvm.MethodName)),
  (Jvm.Cond.code ({ cls := "EpochTree$EntryList", name := "appendFrom", desc := "(LEpochTree$EntryList;I)V" } : Jvm.MethodName) prog_2_method_6_code (4 : Nat) (Option.none : Option Jvm.ClassFile.FieldType)),
  (Jvm.Cond.methodLink "EpochTree$EntryList" (39 : Nat) ({ cls := "EpochTree$EntryList", name := "append", desc := "(IIIII)V" } : Jvm.MethodName)),
  (Jvm.Cond.instanceMethod ({ cls := "EpochTree$EntryList", name := "append", desc := "(IIIII)V" } : Jvm.MethodName)),
  (Jvm.Cond.code ({ cls := "EpochTree$EntryList", name := "append", desc := "(IIIII)V" } : Jvm.MethodName) prog_2_method_5_code (6 : Nat) (Option.none : Option Jvm.ClassFile.FieldType)),
  (Jvm.Cond.methodLink "EpochTree$EntryList" (35 : Nat) ({ cls := "EpochTree$EntryList", name := "isFull", desc := "()Z" } : Jvm.MethodName)),
  (Jvm.Cond.instanceMethod ({ cls := "EpochTree$EntryList", name := "isFull", desc := "()Z" } : Jvm.MethodName)),
  (Jvm.Cond.code ({ cls := "EpochTree$EntryList", name := "isFull", desc := "()Z" } : Jvm.MethodName) prog_2_method_2_code (1 : Nat) (Option.some Jvm.ClassFile.FieldType.boolean)),
  (Jvm.Cond.methodLink "EpochTree" (207 : Nat) ({ cls := "EpochTree", name := "sendNewLeaderToWaiting", desc := "(LEpochTree$Server;)V" } : Jvm.MethodName)),
  (Jvm.Cond.instanceMethod ({ cls := "EpochTree", name := "sendNewLeaderToWaiting", desc := "(LEpochTree$Server;)V" } : Jvm.MethodName)),
  (Jvm.Cond.code ({ cls := "EpochTree", name := "sendNewLeaderToWaiting", desc := "(LEpochTree$Server;)V" } : Jvm.MethodName) prog_1_method_34_code (3 : Nat) (Option.none : Option Jvm.ClassFile.FieldType)),
  (Jvm.Cond.methodLink "EpochTree" (91 : Nat) ({ cls := "EpochTree", name := "readAck", desc := "(LEpochTree$Server;LEpochTree$Server;I)V" } : Jvm.MethodName)),
  (Jvm.Cond.instanceMethod ({ cls := "EpochTree", name := "readAck", desc := "(LEpochTree$Server;LEpochTree$Server;I)V" } : Jvm.MethodName)),
  (Jvm.Cond.code ({ cls := "EpochTree", name := "readAck", desc := "(LEpochTree$Server;LEpochTree$Server;I)V" } : Jvm.MethodName) prog_1_method_35_code (5 : Nat) (Option.none : Option Jvm.ClassFile.FieldType)),
  (Jvm.Cond.methodLink "EpochTree" (223 : Nat) ({ cls := "java/util/Arrays", name := "fill", desc := "([II)V" } : Jvm.MethodName)),
  (Jvm.Cond.static ({ cls := "java/util/Arrays", name := "fill", desc := "([II)V" } : Jvm.MethodName)),
  (Jvm.Cond.code ({ cls := "java/util/Arrays", name := "fill", desc := "([II)V" } : Jvm.MethodName) prog_11_method_103_code (4 : Nat) (Option.none : Option Jvm.ClassFile.FieldType)),
  (Jvm.Cond.instanceMethod ({ cls := "EpochTree$Server", name := "applyUpTo", desc := "(I)V" } : Jvm.MethodName)),
  (Jvm.Cond.code ({ cls := "EpochTree$Server", name := "applyUpTo", desc := "(I)V" } : Jvm.MethodName) prog_5_method_2_code (4 : Nat) (Option.none : Option Jvm.ClassFile.FieldType)),
  (Jvm.Cond.methodLink "EpochTree$Server" (53 : Nat) ({ cls := "java/lang/Math", name := "min", desc := "(II)I" } : Jvm.MethodName)),
  (Jvm.Cond.static ({ cls := "java/lang/Math", name := "min", desc := "(II)I" } : Jvm.MethodName)),
  (Jvm.Cond.code ({ cls := "java/lang/Math", name := "min", desc := "(II)I" } : Jvm.MethodName) prog_10_method_69_code (2 : Nat) (Option.some Jvm.ClassFile.FieldType.int)),
  (Jvm.Cond.instanceMethod ({ cls := "EpochTree$Tree", name := "change", desc := "(IIII)I" } : Jvm.MethodName)),
  (Jvm.Cond.code ({ cls := "EpochTree$Tree", name := "change", desc := "(IIII)I" } : Jvm.MethodName) prog_7_method_9_code (5 : Nat) (Option.some Jvm.ClassFile.FieldType.int)),
  (Jvm.Cond.methodLink "EpochTree$Tree" (45 : Nat) ({ cls := "EpochTree$Tree", name := "create", desc := "(III)I" } : Jvm.MethodName)),
  (Jvm.Cond.instanceMethod ({ cls := "EpochTree$Tree", name := "create", desc := "(III)I" } : Jvm.MethodName)),
  (Jvm.Cond.code ({ cls := "EpochTree$Tree", name := "create", desc := "(III)I" } : Jvm.MethodName) prog_7_method_10_code (6 : Nat) (Option.some Jvm.ClassFile.FieldType.int)),
  (Jvm.Cond.methodLink "EpochTree$Tree" (62 : Nat) ({ cls := "EpochTree$Tree", name := "isOpen", desc := "(I)Z" } : Jvm.MethodName)),
  (Jvm.Cond.instanceMethod ({ cls := "EpochTree$Tree", name := "isOpen", desc := "(I)Z" } : Jvm.MethodName)),
  (Jvm.Cond.code ({ cls := "EpochTree$Tree", name := "isOpen", desc := "(I)Z" } : Jvm.MethodName) prog_7_method_4_code (2 : Nat) (Option.some Jvm.ClassFile.FieldType.boolean)),
  (Jvm.Cond.static ({ cls := "EpochTree", name := "isSession", desc := "(I)Z" } : Jvm.MethodName)),
  (Jvm.Cond.code ({ cls := "EpochTree", name := "isSession", desc := "(I)Z" } : Jvm.MethodName) prog_1_method_23_code (1 : Nat) (Option.some Jvm.ClassFile.FieldType.boolean)),
  (Jvm.Cond.methodLink "EpochTree$Tree" (39 : Nat) ({ cls := "EpochTree$Tree", name := "find", desc := "(I)I" } : Jvm.MethodName)),
  (Jvm.Cond.instanceMethod ({ cls := "EpochTree$Tree", name := "find", desc := "(I)I" } : Jvm.MethodName)),
  (Jvm.Cond.code ({ cls := "EpochTree$Tree", name := "find", desc := "(I)I" } : Jvm.MethodName) prog_7_method_7_code (3 : Nat) (Option.some Jvm.ClassFile.FieldType.int)),
  (Jvm.Cond.methodLink "EpochTree$Tree" (65 : Nat) ({ cls := "EpochTree$Tree", name := "add", desc := "(III)V" } : Jvm.MethodName)),
  (Jvm.Cond.instanceMethod ({ cls := "EpochTree$Tree", name := "add", desc := "(III)V" } : Jvm.MethodName)),
  (Jvm.Cond.code ({ cls := "EpochTree$Tree", name := "add", desc := "(III)V" } : Jvm.MethodName) prog_7_method_11_code (4 : Nat) (Option.none : Option Jvm.ClassFile.FieldType)),
  (Jvm.Cond.methodLink "EpochTree$Tree" (49 : Nat) ({ cls := "EpochTree$Tree", name := "set", desc := "(III)I" } : Jvm.MethodName)),
  (Jvm.Cond.instanceMethod ({ cls := "EpochTree$Tree", name := "set", desc := "(III)I" } : Jvm.MethodName)),
  (Jvm.Cond.code ({ cls := "EpochTree$Tree", name := "set", desc := "(III)I" } : Jvm.MethodName) prog_7_method_12_code (5 : Nat) (Option.some Jvm.ClassFile.FieldType.int)),
  (Jvm.Cond.methodLink "EpochTree$Tree" (52 : Nat) ({ cls := "EpochTree$Tree", name := "delete", desc := "(II)I" } : Jvm.MethodName)),
  (Jvm.Cond.instanceMethod ({ cls := "EpochTree$Tree", name := "delete", desc := "(II)I" } : Jvm.MethodName)),
  (Jvm.Cond.code ({ cls := "EpochTree$Tree", name := "delete", desc := "(II)I" } : Jvm.MethodName) prog_7_method_13_code (4 : Nat) (Option.some Jvm.ClassFile.FieldType.int)),
  (Jvm.Cond.methodLink "EpochTree$Tree" (42 : Nat) ({ cls := "EpochTree$Tree", name := "countChildren", desc := "(I)I" } : Jvm.MethodName)),
  (Jvm.Cond.instanceMethod ({ cls := "EpochTree$Tree", name := "countChildren", desc := "(I)I" } : Jvm.MethodName)),
  (Jvm.Cond.code ({ cls := "EpochTree$Tree", name := "countChildren", desc := "(I)I" } : Jvm.MethodName) prog_7_method_8_code (4 : Nat) (Option.some Jvm.ClassFile.FieldType.int)),
  (Jvm.Cond.methodLink "EpochTree$Tree" (69 : Nat) ({ cls := "EpochTree$Tree", name := "remove", desc := "(I)V" } : Jvm.MethodName)),
  (Jvm.Cond.instanceMethod ({ cls := "EpochTree$Tree", name := "remove", desc := "(I)V" } : Jvm.MethodName)),
  (Jvm.Cond.code ({ cls := "EpochTree$Tree", name := "remove", desc := "(I)V" } : Jvm.MethodName) prog_7_method_14_code (2 : Nat) (Option.none : Option Jvm.ClassFile.FieldType)),
  (Jvm.Cond.methodLink "EpochTree$Tree" (56 : Nat) ({ cls := "EpochTree$Tree", name := "open", desc := "(I)I" } : Jvm.MethodName)),
  (Jvm.Cond.instanceMethod ({ cls := "EpochTree$Tree", name := "open", desc := "(I)I" } : Jvm.MethodName)),
  (Jvm.Cond.code ({ cls := "EpochTree$Tree", name := "open", desc := "(I)I" } : Jvm.MethodName) prog_7_method_15_code (2 : Nat) (Option.some Jvm.ClassFile.FieldType.int)),
  (Jvm.Cond.methodLink "EpochTree$Tree" (59 : Nat) ({ cls := "EpochTree$Tree", name := "close", desc := "(I)I" } : Jvm.MethodName)),
  (Jvm.Cond.instanceMethod ({ cls := "EpochTree$Tree", name := "close", desc := "(I)I" } : Jvm.MethodName)),
  (Jvm.Cond.code ({ cls := "EpochTree$Tree", name := "close", desc := "(I)I" } : Jvm.MethodName) prog_7_method_16_code (3 : Nat) (Option.some Jvm.ClassFile.FieldType.int)),
  (Jvm.Cond.methodLink "EpochTree" (232 : Nat) ({ cls := "EpochTree", name := "sendOnTiedLinks", desc := "(LEpochTree$Server;II)V" } : Jvm.MethodName)),
  (Jvm.Cond.instanceMethod ({ cls := "EpochTree", name := "sendOnTiedLinks", desc := "(LEpochTree$Server;II)V" } : Jvm.MethodName)),
  (Jvm.Cond.code ({ cls := "EpochTree", name := "sendOnTiedLinks", desc := "(LEpochTree$Server;II)V" } : Jvm.MethodName) prog_1_method_36_code (5 : Nat) (Option.none : Option Jvm.ClassFile.FieldType)),
  (Jvm.Cond.methodLink "EpochTreeLaw" (40 : Nat) ({ cls := "EpochTree", name := "down", desc := "(I)I" } : Jvm.MethodName)),
  (Jvm.Cond.instanceMethod ({ cls := "EpochTree", name := "down", desc := "(I)I" } : Jvm.MethodName)),
  (Jvm.Cond.selects "EpochTree" ({ cls := "EpochTree", name := "down", desc := "(I)I" } : Jvm.MethodName) ({ cls := "EpochTree", name := "down", desc := "(I)I" } : Jvm.MethodName)),
  (Jvm.Cond.code ({ cls := "EpochTree", name := "down", desc := "(I)I" } : Jvm.MethodName) prog_1_method_8_code (6 : Nat) (Option.some Jvm.ClassFile.FieldType.int)),
  (Jvm.Cond.methodLink "EpochTree" (97 : Nat) ({ cls := "EpochTree", name := "readNewEpoch", desc := "(II)V" } : Jvm.MethodName)),
  (Jvm.Cond.instanceMethod ({ cls := "EpochTree", name := "readNewEpoch", desc := "(II)V" } : Jvm.MethodName)),
  (Jvm.Cond.code ({ cls := "EpochTree", name := "readNewEpoch", desc := "(II)V" } : Jvm.MethodName) prog_1_method_37_code (5 : Nat) (Option.none : Option Jvm.ClassFile.FieldType)),
  (Jvm.Cond.methodLink "EpochTree" (100 : Nat) ({ cls := "EpochTree", name := "readNewLeader", desc := "(LEpochTree$Server;I)V" } : Jvm.MethodName)),
  (Jvm.Cond.instanceMethod ({ cls := "EpochTree", name := "readNewLeader", desc := "(LEpochTree$Server;I)V" } : Jvm.MethodName)),
  (Jvm.Cond.code ({ cls := "EpochTree", name := "readNewLeader", desc := "(LEpochTree$Server;I)V" } : Jvm.MethodName) prog_1_method_38_code (3 : Nat) (Option.none : Option Jvm.ClassFile.FieldType)),
  (Jvm.Cond.methodLink "EpochTree" (104 : Nat) ({ cls := "EpochTree", name := "readProposal", desc := "(LEpochTree$Server;I)V" } : Jvm.MethodName)),
  (Jvm.Cond.instanceMethod ({ cls := "EpochTree", name := "readProposal", desc := "(LEpochTree$Server;I)V" } : Jvm.MethodName)),
  (Jvm.Cond.code ({ cls := "EpochTree", name := "readProposal", desc := "(LEpochTree$Server;I)V" } : Jvm.MethodName) prog_1_method_39_code (3 : Nat) (Option.none : Option Jvm.ClassFile.FieldType)),
  (Jvm.Cond.methodLink "EpochTreeLaw" (44 : Nat) ({ cls := "EpochTree", name := "submit", desc := "(IIIII)I" } : Jvm.MethodName)),
  (Jvm.Cond.instanceMethod ({ cls := "EpochTree", name := "submit", desc := "(IIIII)I" } : Jvm.MethodName)),
  (Jvm.Cond.selects "EpochTree" ({ cls := "EpochTree", name := "submit", desc := "(IIIII)I" } : Jvm.MethodName) ({ cls := "EpochTree", name := "submit", desc := "(IIIII)I" } : Jvm.MethodName)),
  (Jvm.Cond.code ({ cls := "EpochTree", name := "submit", desc := "(IIIII)I" } : Jvm.MethodName) prog_1_method_9_code (7 : Nat) (Option.some Jvm.ClassFile.FieldType.int)),
  (Jvm.Cond.methodLink "EpochTree" (110 : Nat) ({ cls := "EpochTree", name := "isChange", desc := "(III)Z" } : Jvm.MethodName)),
  (Jvm.Cond.static ({ cls := "EpochTree", name := "isChange", desc := "(III)Z" } : Jvm.MethodName)),
  (Jvm.Cond.code ({ cls := "EpochTree", name := "isChange", desc := "(III)Z" } : Jvm.MethodName) prog_1_method_25_code (3 : Nat) (Option.some Jvm.ClassFile.FieldType.boolean)),
  (Jvm.Cond.methodLink "EpochTree" (175 : Nat) ({ cls := "EpochTree", name := "isNodePath", desc := "(I)Z" } : Jvm.MethodName)),
  (Jvm.Cond.static ({ cls := "EpochTree", name := "isNodePath", desc := "(I)Z" } : Jvm.MethodName)),
  (Jvm.Cond.code ({ cls := "EpochTree", name := "isNodePath", desc := "(I)Z" } : Jvm.MethodName) prog_1_method_24_code (2 : Nat) (Option.some Jvm.ClassFile.FieldType.boolean)),
  (Jvm.Cond.methodLink "EpochTree" (139 : Nat) ({ cls := "EpochTree", name := "isSession", desc := "(I)Z" } : Jvm.MethodName)),
  (Jvm.Cond.methodLink "EpochTree" (124 : Nat) ({ cls := "EpochTree", name := "makeEntry", desc := "(LEpochTree$Server;IIII)V" } : Jvm.MethodName)),
  (Jvm.Cond.instanceMethod ({ cls := "EpochTree", name := "makeEntry", desc := "(LEpochTree$Server;IIII)V" } : Jvm.MethodName)),
  (Jvm.Cond.code ({ cls := "EpochTree", name := "makeEntry", desc := "(LEpochTree$Server;IIII)V" } : Jvm.MethodName) prog_1_method_40_code (7 : Nat) (Option.none : Option Jvm.ClassFile.FieldType)),
  (Jvm.Cond.methodLink "EpochTreeLaw" (49 : Nat) ({ cls := "EpochTree", name := "tick", desc := "()I" } : Jvm.MethodName)),
  (Jvm.Cond.instanceMethod ({ cls := "EpochTree", name := "tick", desc := "()I" } : Jvm.MethodName)),
  (Jvm.Cond.selects "EpochTree" ({ cls := "EpochTree", name := "tick", desc := "()I" } : Jvm.MethodName) ({ cls := "EpochTree", name := "tick", desc := "()I" } : Jvm.MethodName)),
  (Jvm.Cond.code ({ cls := "EpochTree", name := "tick", desc := "()I" } : Jvm.MethodName) prog_1_method_10_code (3 : Nat) (Option.some Jvm.ClassFile.FieldType.int)),
  (Jvm.Cond.methodLink "EpochTree" (131 : Nat) ({ cls := "EpochTree", name := "growAges", desc := "(LEpochTree$Server;)V" } : Jvm.MethodName)),
  (Jvm.Cond.static ({ cls := "EpochTree", name := "growAges", desc := "(LEpochTree$Server;)V" } : Jvm.MethodName)),
  (Jvm.Cond.code ({ cls := "EpochTree", name := "growAges", desc := "(LEpochTree$Server;)V" } : Jvm.MethodName) prog_1_method_41_code (3 : Nat) (Option.none : Option Jvm.ClassFile.FieldType)),
  (Jvm.Cond.methodLink "EpochTree" (246 : Nat) ({ cls := "java/lang/Math", name := "min", desc := "(II)I" } : Jvm.MethodName)),
  (Jvm.Cond.methodLink "EpochTree" (135 : Nat) ({ cls := "EpochTree", name := "closeOldSessions", desc := "(LEpochTree$Server;)I" } : Jvm.MethodName)),
  (Jvm.Cond.instanceMethod ({ cls := "EpochTree", name := "closeOldSessions", desc := "(LEpochTree$Server;)I" } : Jvm.MethodName)),
  (Jvm.Cond.code ({ cls := "EpochTree", name := "closeOldSessions", desc := "(LEpochTree$Server;)I" } : Jvm.MethodName) prog_1_method_42_code (5 : Nat) (Option.some Jvm.ClassFile.FieldType.int)),
  (Jvm.Cond.methodLink "EpochTreeLaw" (54 : Nat) ({ cls := "EpochTree", name := "touch", desc := "(II)Z" } : Jvm.MethodName)),
  (Jvm.Cond.instanceMethod ({ cls := "EpochTree", name := "touch", desc := "(II)Z" } : Jvm.MethodName)),
  (Jvm.Cond.selects "EpochTree" ({ cls := "EpochTree", name := "touch", desc := "(II)Z" } : Jvm.MethodName) ({ cls := "EpochTree", name := "touch", desc := "(II)Z" } : Jvm.MethodName)),
  (Jvm.Cond.code ({ cls := "EpochTree", name := "touch", desc := "(II)Z" } : Jvm.MethodName) prog_1_method_11_code (4 : Nat) (Option.some Jvm.ClassFile.FieldType.boolean)),
  (Jvm.Cond.methodLink "EpochTreeLaw" (58 : Nat) ({ cls := "EpochTree", name := "role", desc := "(I)I" } : Jvm.MethodName)),
  (Jvm.Cond.instanceMethod ({ cls := "EpochTree", name := "role", desc := "(I)I" } : Jvm.MethodName)),
  (Jvm.Cond.selects "EpochTree" ({ cls := "EpochTree", name := "role", desc := "(I)I" } : Jvm.MethodName) ({ cls := "EpochTree", name := "role", desc := "(I)I" } : Jvm.MethodName)),
  (Jvm.Cond.code ({ cls := "EpochTree", name := "role", desc := "(I)I" } : Jvm.MethodName) prog_1_method_12_code (2 : Nat) (Option.some Jvm.ClassFile.FieldType.int)),
  (Jvm.Cond.methodLink "EpochTreeLaw" (62 : Nat) ({ cls := "EpochTree", name := "promise", desc := "(I)I" } : Jvm.MethodName)),
  (Jvm.Cond.instanceMethod ({ cls := "EpochTree", name := "promise", desc := "(I)I" } : Jvm.MethodName)),
  (Jvm.Cond.selects "EpochTree" ({ cls := "EpochTree", name := "promise", desc := "(I)I" } : Jvm.MethodName) ({ cls := "EpochTree", name := "promise", desc := "(I)I" } : Jvm.MethodName)),
  (Jvm.Cond.code ({ cls := "EpochTree", name := "promise", desc := "(I)I" } : Jvm.MethodName) prog_1_method_13_code (2 : Nat) (Option.some Jvm.ClassFile.FieldType.int)),
  (Jvm.Cond.methodLink "EpochTreeLaw" (66 : Nat) ({ cls := "EpochTree", name := "epoch", desc := "(I)I" } : Jvm.MethodName)),
  (Jvm.Cond.instanceMethod ({ cls := "EpochTree", name := "epoch", desc := "(I)I" } : Jvm.MethodName)),
  (Jvm.Cond.selects "EpochTree" ({ cls := "EpochTree", name := "epoch", desc := "(I)I" } : Jvm.MethodName) ({ cls := "EpochTree", name := "epoch", desc := "(I)I" } : Jvm.MethodName)),
  (Jvm.Cond.code ({ cls := "EpochTree", name := "epoch", desc := "(I)I" } : Jvm.MethodName) prog_1_method_14_code (2 : Nat) (Option.some Jvm.ClassFile.FieldType.int)),
  (Jvm.Cond.methodLink "EpochTreeLaw" (70 : Nat) ({ cls := "EpochTree", name := "length", desc := "(I)I" } : Jvm.MethodName)),
  (Jvm.Cond.instanceMethod ({ cls := "EpochTree", name := "length", desc := "(I)I" } : Jvm.MethodName)),
  (Jvm.Cond.selects "EpochTree" ({ cls := "EpochTree", name := "length", desc := "(I)I" } : Jvm.MethodName) ({ cls := "EpochTree", name := "length", desc := "(I)I" } : Jvm.MethodName)),
  (Jvm.Cond.code ({ cls := "EpochTree", name := "length", desc := "(I)I" } : Jvm.MethodName) prog_1_method_15_code (2 : Nat) (Option.some Jvm.ClassFile.FieldType.int)),
  (Jvm.Cond.methodLink "EpochTreeLaw" (74 : Nat) ({ cls := "EpochTree", name := "mark", desc := "(II)I" } : Jvm.MethodName)),
  (Jvm.Cond.instanceMethod ({ cls := "EpochTree", name := "mark", desc := "(II)I" } : Jvm.MethodName)),
  (Jvm.Cond.selects "EpochTree" ({ cls := "EpochTree", name := "mark", desc := "(II)I" } : Jvm.MethodName) ({ cls := "EpochTree", name := "mark", desc := "(II)I" } : Jvm.MethodName)),
  (Jvm.Cond.code ({ cls := "EpochTree", name := "mark", desc := "(II)I" } : Jvm.MethodName) prog_1_method_16_code (3 : Nat) (Option.some Jvm.ClassFile.FieldType.int)),
  (Jvm.Cond.methodLink "EpochTreeLaw" (79 : Nat) ({ cls := "EpochTree", name := "applied", desc := "(I)I" } : Jvm.MethodName)),
  (Jvm.Cond.instanceMethod ({ cls := "EpochTree", name := "applied", desc := "(I)I" } : Jvm.MethodName)),
  (Jvm.Cond.selects "EpochTree" ({ cls := "EpochTree", name := "applied", desc := "(I)I" } : Jvm.MethodName) ({ cls := "EpochTree", name := "applied", desc := "(I)I" } : Jvm.MethodName)),
  (Jvm.Cond.code ({ cls := "EpochTree", name := "applied", desc := "(I)I" } : Jvm.MethodName) prog_1_method_17_code (2 : Nat) (Option.some Jvm.ClassFile.FieldType.int)),
  (Jvm.Cond.methodLink "EpochTreeLaw" (83 : Nat) ({ cls := "EpochTree", name := "result", desc := "(II)I" } : Jvm.MethodName)),
  (Jvm.Cond.instanceMethod ({ cls := "EpochTree", name := "result", desc := "(II)I" } : Jvm.MethodName)),
  (Jvm.Cond.selects "EpochTree" ({ cls := "EpochTree", name := "result", desc := "(II)I" } : Jvm.MethodName) ({ cls := "EpochTree", name := "result", desc := "(II)I" } : Jvm.MethodName)),
  (Jvm.Cond.code ({ cls := "EpochTree", name := "result", desc := "(II)I" } : Jvm.MethodName) prog_1_method_18_code (3 : Nat) (Option.some Jvm.ClassFile.FieldType.int)),
  (Jvm.Cond.methodLink "EpochTreeLaw" (87 : Nat) ({ cls := "EpochTree", name := "node", desc := "(III)I" } : Jvm.MethodName)),
  (Jvm.Cond.instanceMethod ({ cls := "EpochTree", name := "node", desc := "(III)I" } : Jvm.MethodName)),
  (Jvm.Cond.selects "EpochTree" ({ cls := "EpochTree", name := "node", desc := "(III)I" } : Jvm.MethodName) ({ cls := "EpochTree", name := "node", desc := "(III)I" } : Jvm.MethodName)),
  (Jvm.Cond.code ({ cls := "EpochTree", name := "node", desc := "(III)I" } : Jvm.MethodName) prog_1_method_19_code (4 : Nat) (Option.some Jvm.ClassFile.FieldType.int)),
  (Jvm.Cond.instanceMethod ({ cls := "EpochTree$Tree", name := "look", desc := "(II)I" } : Jvm.MethodName)),
  (Jvm.Cond.code ({ cls := "EpochTree$Tree", name := "look", desc := "(II)I" } : Jvm.MethodName) prog_7_method_5_code (4 : Nat) (Option.some Jvm.ClassFile.FieldType.int)),
  (Jvm.Cond.methodLink "EpochTree$Tree" (35 : Nat) ({ cls := "EpochTree$Tree", name := "lookAtRoot", desc := "(I)I" } : Jvm.MethodName)),
  (Jvm.Cond.instanceMethod ({ cls := "EpochTree$Tree", name := "lookAtRoot", desc := "(I)I" } : Jvm.MethodName)),
  (Jvm.Cond.code ({ cls := "EpochTree$Tree", name := "lookAtRoot", desc := "(I)I" } : Jvm.MethodName) prog_7_method_6_code (2 : Nat) (Option.some Jvm.ClassFile.FieldType.int)),
  (Jvm.Cond.methodLink "EpochTreeLaw" (92 : Nat) ({ cls := "EpochTree", name := "tree", desc := "(I)I" } : Jvm.MethodName)),
  (Jvm.Cond.instanceMethod ({ cls := "EpochTree", name := "tree", desc := "(I)I" } : Jvm.MethodName)),
  (Jvm.Cond.selects "EpochTree" ({ cls := "EpochTree", name := "tree", desc := "(I)I" } : Jvm.MethodName) ({ cls := "EpochTree", name := "tree", desc := "(I)I" } : Jvm.MethodName)),
  (Jvm.Cond.code ({ cls := "EpochTree", name := "tree", desc := "(I)I" } : Jvm.MethodName) prog_1_method_20_code (2 : Nat) (Option.some Jvm.ClassFile.FieldType.int)),
  (Jvm.Cond.instanceMethod ({ cls := "EpochTree$Tree", name := "summary", desc := "()I" } : Jvm.MethodName)),
  (Jvm.Cond.code ({ cls := "EpochTree$Tree", name := "summary", desc := "()I" } : Jvm.MethodName) prog_7_method_3_code (1 : Nat) (Option.some Jvm.ClassFile.FieldType.int)),
  (Jvm.Cond.methodLink "EpochTreeLaw" (96 : Nat) ({ cls := "EpochTree", name := "waiting", desc := "(IZ)I" } : Jvm.MethodName)),
  (Jvm.Cond.instanceMethod ({ cls := "EpochTree", name := "waiting", desc := "(IZ)I" } : Jvm.MethodName)),
  (Jvm.Cond.selects "EpochTree" ({ cls := "EpochTree", name := "waiting", desc := "(IZ)I" } : Jvm.MethodName) ({ cls := "EpochTree", name := "waiting", desc := "(IZ)I" } : Jvm.MethodName)),
  (Jvm.Cond.code ({ cls := "EpochTree", name := "waiting", desc := "(IZ)I" } : Jvm.MethodName) prog_1_method_21_code (4 : Nat) (Option.some Jvm.ClassFile.FieldType.int)),
  (Jvm.Cond.classLink "EpochTreeLaw" (10 : Nat) "EpochTreeModel"),
  (Jvm.Cond.instantiable "EpochTreeModel" (33 : Nat)),
  (Jvm.Cond.methodLink "EpochTreeLaw" (12 : Nat) ({ cls := "EpochTreeModel", name := "<init>", desc := "()V" } : Jvm.MethodName)),
  (Jvm.Cond.instanceMethod ({ cls := "EpochTreeModel", name := "<init>", desc := "()V" } : Jvm.MethodName)),
  (Jvm.Cond.code ({ cls := "EpochTreeModel", name := "<init>", desc := "()V" } : Jvm.MethodName) prog_9_method_1_code (2 : Nat) (Option.none : Option Jvm.ClassFile.FieldType)),
  (Jvm.Cond.methodLink "EpochTreeModel" (1 : Nat) ({ cls := "java/lang/Object", name := "<init>", desc := "()V" } : Jvm.MethodName)),
  (Jvm.Cond.fieldLink "EpochTreeModel" (7 : Nat) "EpochTreeModel" "role" "[I"),
  (Jvm.Cond.fieldLink "EpochTreeModel" (13 : Nat) "EpochTreeModel" "promise" "[I"),
  (Jvm.Cond.fieldLink "EpochTreeModel" (16 : Nat) "EpochTreeModel" "epoch" "[I"),
  (Jvm.Cond.fieldLink "EpochTreeModel" (19 : Nat) "EpochTreeModel" "applied" "[I"),
  (Jvm.Cond.fieldLink "EpochTreeModel" (22 : Nat) "EpochTreeModel" "length" "[I"),
  (Jvm.Cond.fieldLink "EpochTreeModel" (25 : Nat) "EpochTreeModel" "mark" "[I"),
  (Jvm.Cond.fieldLink "EpochTreeModel" (28 : Nat) "EpochTreeModel" "kind" "[I"),
  (Jvm.Cond.fieldLink "EpochTreeModel" (31 : Nat) "EpochTreeModel" "path" "[I"),
  (Jvm.Cond.fieldLink "EpochTreeModel" (34 : Nat) "EpochTreeModel" "first" "[I"),
  (Jvm.Cond.fieldLink "EpochTreeModel" (37 : Nat) "EpochTreeModel" "second" "[I"),
  (Jvm.Cond.fieldLink "EpochTreeModel" (40 : Nat) "EpochTreeModel" "chosen" "[I"),
  (Jvm.Cond.fieldLink "EpochTreeModel" (43 : Nat) "EpochTreeModel" "settled" "[Z"),
  (Jvm.Cond.fieldLink "EpochTreeModel" (47 : Nat) "EpochTreeModel" "made" "[I"),
  (Jvm.Cond.fieldLink "EpochTreeModel" (50 : Nat) "EpochTreeModel" "age" "[I"),
  (Jvm.Cond.fieldLink "EpochTreeModel" (53 : Nat) "EpochTreeModel" "leader" "[I"),
  (Jvm.Cond.fieldLink "EpochTreeModel" (56 : Nat) "EpochTreeModel" "waits" "[Z"),
  (Jvm.Cond.fieldLink "EpochTreeModel" (59 : Nat) "EpochTreeModel" "tied" "[Z"),
  (Jvm.Cond.fieldLink "EpochTreeModel" (62 : Nat) "EpochTreeModel" "heard" "[Z"),
  (Jvm.Cond.fieldLink "EpochTreeModel" (65 : Nat) "EpochTreeModel" "upKind" "[I"),
  (Jvm.Cond.fieldLink "EpochTreeModel" (68 : Nat) "EpochTreeModel" "upValue" "[I"),
  (Jvm.Cond.fieldLink "EpochTreeModel" (71 : Nat) "EpochTreeModel" "upSent" "[I"),
  (Jvm.Cond.fieldLink "EpochTreeModel" (74 : Nat) "EpochTreeModel" "upRead" "[I"),
  (Jvm.Cond.fieldLink "EpochTreeModel" (77 : Nat) "EpochTreeModel" "downKind" "[I"),
  (Jvm.Cond.fieldLink "EpochTreeModel" (80 : Nat) "EpochTreeModel" "downValue" "[I"),
  (Jvm.Cond.fieldLink "EpochTreeModel" (83 : Nat) "EpochTreeModel" "downSent" "[I"),
  (Jvm.Cond.fieldLink "EpochTreeModel" (86 : Nat) "EpochTreeModel" "downRead" "[I"),
  (Jvm.Cond.fieldLink "EpochTreeModel" (107 : Nat) "EpochTreeModel" "nodes" "I"),
  (Jvm.Cond.fieldLink "EpochTreeModel" (89 : Nat) "EpochTreeModel" "nodePath" "[I"),
  (Jvm.Cond.fieldLink "EpochTreeModel" (92 : Nat) "EpochTreeModel" "nodeData" "[I"),
  (Jvm.Cond.fieldLink "EpochTreeModel" (95 : Nat) "EpochTreeModel" "nodeVersion" "[I"),
  (Jvm.Cond.fieldLink "EpochTreeModel" (98 : Nat) "EpochTreeModel" "nodeOwner" "[I"),
  (Jvm.Cond.fieldLink "EpochTreeModel" (101 : Nat) "EpochTreeModel" "open" "[Z"),
  (Jvm.Cond.fieldLink "EpochTreeModel" (104 : Nat) "EpochTreeModel" "results" "[I"),
  (Jvm.Cond.laysFinal "EpochTreeModel" "EpochTreeModel" "role" "[I"),
  (Jvm.Cond.laysFinal "EpochTreeModel" "EpochTreeModel" "promise" "[I"),
  (Jvm.Cond.laysFinal "EpochTreeModel" "EpochTreeModel" "epoch" "[I"),
  (Jvm.Cond.laysFinal "EpochTreeModel" "EpochTreeModel" "applied" "[I"),
  (Jvm.Cond.laysFinal "EpochTreeModel" "EpochTreeModel" "length" "[I"),
  (Jvm.Cond.laysFinal "EpochTreeModel" "EpochTreeModel" "mark" "[I"),
  (Jvm.Cond.laysFinal "EpochTreeModel" "EpochTreeModel" "kind" "[I"),
  (Jvm.Cond.laysFinal "EpochTreeModel" "EpochTreeModel" "path" "[I"),
  (Jvm.Cond.laysFinal "EpochTreeModel" "EpochTreeModel" "first" "[I"),
  (Jvm.Cond.laysFinal "EpochTreeModel" "EpochTreeModel" "second" "[I"),
  (Jvm.Cond.laysFinal "EpochTreeModel" "EpochTreeModel" "chosen" "[I"),
  (Jvm.Cond.laysFinal "EpochTreeModel" "EpochTreeModel" "settled" "[Z"),
  (Jvm.Cond.laysFinal "EpochTreeModel" "EpochTreeModel" "made" "[I"),
  (Jvm.Cond.laysFinal "EpochTreeModel" "EpochTreeModel" "age" "[I"),
  (Jvm.Cond.laysFinal "EpochTreeModel" "EpochTreeModel" "leader" "[I"),
  (Jvm.Cond.laysFinal "EpochTreeModel" "EpochTreeModel" "waits" "[Z"),
  (Jvm.Cond.laysFinal "EpochTreeModel" "EpochTreeModel" "tied" "[Z"),
  (Jvm.Cond.laysFinal "EpochTreeModel" "EpochTreeModel" "heard" "[Z"),
  (Jvm.Cond.laysFinal "EpochTreeModel" "EpochTreeModel" "upKind" "[I"),
  (Jvm.Cond.laysFinal "EpochTreeModel" "EpochTreeModel" "upValue" "[I"),
  (Jvm.Cond.laysFinal "EpochTreeModel" "EpochTreeModel" "upSent" "[I"),
  (Jvm.Cond.laysFinal "EpochTreeModel" "EpochTreeModel" "upRead" "[I"),
  (Jvm.Cond.laysFinal "EpochTreeModel" "EpochTreeModel" "downKind" "[I"),
  (Jvm.Cond.laysFinal "EpochTreeModel" "EpochTreeModel" "downValue" "[I"),
  (Jvm.Cond.laysFinal "EpochTreeModel" "EpochTreeModel" "downSent" "[I"),
  (Jvm.Cond.laysFinal "EpochTreeModel" "EpochTreeModel" "downRead" "[I"),
  (Jvm.Cond.lays "EpochTreeModel" "EpochTreeModel" "nodes" "I"),
  (Jvm.Cond.laysFinal "EpochTreeModel" "EpochTreeModel" "nodePath" "[I"),
  (Jvm.Cond.laysFinal "EpochTreeModel" "EpochTreeModel" "nodeData" "[I"),
  (Jvm.Cond.laysFinal "EpochTreeModel" "EpochTreeModel" "nodeVersion" "[I"),
  (Jvm.Cond.laysFinal "EpochTreeModel" "EpochTreeModel" "nodeOwner" "[I"),
  (Jvm.Cond.laysFinal "EpochTreeModel" "EpochTreeModel" "open" "[Z"),
  (Jvm.Cond.laysFinal "EpochTreeModel" "EpochTreeModel" "results" "[I"),
  (Jvm.Cond.arrayClass Jvm.ClassFile.FieldType.boolean),
  (Jvm.Cond.methodLink "EpochTreeLaw" (17 : Nat) ({ cls := "EpochTreeModel", name := "lead", desc := "(I)Z" } : Jvm.MethodName)),
  (Jvm.Cond.instanceMethod ({ cls := "EpochTreeModel", name := "lead", desc := "(I)Z" } : Jvm.MethodName)),
  (Jvm.Cond.selects "EpochTreeModel" ({ cls := "EpochTreeModel", name := "lead", desc := "(I)Z" } : Jvm.MethodName) ({ cls := "EpochTreeModel", name := "lead", desc := "(I)Z" } : Jvm.MethodName)),
  (Jvm.Cond.code ({ cls := "EpochTreeModel", name := "lead", desc := "(I)Z" } : Jvm.MethodName) prog_9_method_12_code (2 : Nat) (Option.some Jvm.ClassFile.FieldType.boolean)),
  (Jvm.Cond.methodLink "EpochTreeModel" (138 : Nat) ({ cls := "EpochTreeModel", name := "out", desc := "(I)Z" } : Jvm.MethodName)),
  (Jvm.Cond.static ({ cls := "EpochTreeModel", name := "out", desc := "(I)Z" } : Jvm.MethodName)),
  (Jvm.Cond.code ({ cls := "EpochTreeModel", name := "out", desc := "(I)Z" } : Jvm.MethodName) prog_9_method_2_code (1 : Nat) (Option.some Jvm.ClassFile.FieldType.boolean)),
  (Jvm.Cond.methodLink "EpochTreeLaw" (22 : Nat) ({ cls := "EpochTreeModel", name := "follow", desc := "(II)Z" } : Jvm.MethodName)),
  (Jvm.Cond.instanceMethod ({ cls := "EpochTreeModel", name := "follow", desc := "(II)Z" } : Jvm.MethodName)),
  (Jvm.Cond.selects "EpochTreeModel" ({ cls := "EpochTreeModel", name := "follow", desc := "(II)Z" } : Jvm.MethodName) ({ cls := "EpochTreeModel", name := "follow", desc := "(II)Z" } : Jvm.MethodName)),
  (Jvm.Cond.code ({ cls := "EpochTreeModel", name := "follow", desc := "(II)Z" } : Jvm.MethodName) prog_9_method_13_code (3 : Nat) (Option.some Jvm.ClassFile.FieldType.boolean)),
  (Jvm.Cond.methodLink "EpochTreeModel" (134 : Nat) ({ cls := "EpochTreeModel", name := "cut", desc := "(I)V" } : Jvm.MethodName)),
  (Jvm.Cond.instanceMethod ({ cls := "EpochTreeModel", name := "cut", desc := "(I)V" } : Jvm.MethodName)),
  (Jvm.Cond.code ({ cls := "EpochTreeModel", name := "cut", desc := "(I)V" } : Jvm.MethodName) prog_9_method_9_code (2 : Nat) (Option.none : Option Jvm.ClassFile.FieldType)),
  (Jvm.Cond.methodLink "EpochTreeModel" (142 : Nat) ({ cls := "EpochTreeModel", name := "sendUp", desc := "(III)V" } : Jvm.MethodName)),
  (Jvm.Cond.instanceMethod ({ cls := "EpochTreeModel", name := "sendUp", desc := "(III)V" } : Jvm.MethodName)),
  (Jvm.Cond.code ({ cls := "EpochTreeModel", name := "sendUp", desc := "(III)V" } : Jvm.MethodName) prog_9_method_17_code (5 : Nat) (Option.none : Option Jvm.ClassFile.FieldType)),
  (Jvm.Cond.methodLink "EpochTreeLaw" (26 : Nat) ({ cls := "EpochTreeModel", name := "quit", desc := "(I)Z" } : Jvm.MethodName)),
  (Jvm.Cond.instanceMethod ({ cls := "EpochTreeModel", name := "quit", desc := "(I)Z" } : Jvm.MethodName)),
  (Jvm.Cond.selects "EpochTreeModel" ({ cls := "EpochTreeModel", name := "quit", desc := "(I)Z" } : Jvm.MethodName) ({ cls := "EpochTreeModel", name := "quit", desc := "(I)Z" } : Jvm.MethodName)),
  (Jvm.Cond.code ({ cls := "EpochTreeModel", name := "quit", desc := "(I)Z" } : Jvm.MethodName) prog_9_method_14_code (2 : Nat) (Option.some Jvm.ClassFile.FieldType.boolean)),
  (Jvm.Cond.methodLink "EpochTreeModel" (146 : Nat) ({ cls := "EpochTreeModel", name := "cease", desc := "(I)V" } : Jvm.MethodName)),
  (Jvm.Cond.instanceMethod ({ cls := "EpochTreeModel", name := "cease", desc := "(I)V" } : Jvm.MethodName)),
  (Jvm.Cond.code ({ cls := "EpochTreeModel", name := "cease", desc := "(I)V" } : Jvm.MethodName) prog_9_method_11_code (3 : Nat) (Option.none : Option Jvm.ClassFile.FieldType)),
  (Jvm.Cond.methodLink "EpochTreeModel" (130 : Nat) ({ cls := "EpochTreeModel", name := "follows", desc := "(II)Z" } : Jvm.MethodName)),
  (Jvm.Cond.instanceMethod ({ cls := "EpochTreeModel", name := "follows", desc := "(II)Z" } : Jvm.MethodName)),
  (Jvm.Cond.code ({ cls := "EpochTreeModel", name := "follows", desc := "(II)Z" } : Jvm.MethodName) prog_9_method_10_code (3 : Nat) (Option.some Jvm.ClassFile.FieldType.boolean)),
  (Jvm.Cond.methodLink "EpochTreeLaw" (30 : Nat) ({ cls := "EpochTreeModel", name := "crash", desc := "(I)Z" } : Jvm.MethodName)),
  (Jvm.Cond.instanceMethod ({ cls := "EpochTreeModel", name := "crash", desc := "(I)Z" } : Jvm.MethodName)),
  (Jvm.Cond.selects "EpochTreeModel" ({ cls := "EpochTreeModel", name := "crash", desc := "(I)Z" } : Jvm.MethodName) ({ cls := "EpochTreeModel", name := "crash", desc := "(I)Z" } : Jvm.MethodName)),
  (Jvm.Cond.code ({ cls := "EpochTreeModel", name := "crash", desc := "(I)Z" } : Jvm.MethodName) prog_9_method_15_code (2 : Nat) (Option.some Jvm.ClassFile.FieldType.boolean)),
  (Jvm.Cond.methodLink "EpochTreeLaw" (34 : Nat) ({ cls := "EpochTreeModel", name := "restart", desc := "(I)Z" } : Jvm.MethodName)),
  (Jvm.Cond.instanceMethod ({ cls := "EpochTreeModel", name := "restart", desc := "(I)Z" } : Jvm.MethodName)),
  (Jvm.Cond.selects "EpochTreeModel" ({ cls := "EpochTreeModel", name := "restart", desc := "(I)Z" } : Jvm.MethodName) ({ cls := "EpochTreeModel", name := "restart", desc := "(I)Z" } : Jvm.MethodName)),
  (Jvm.Cond.code ({ cls := "EpochTreeModel", name := "restart", desc := "(I)Z" } : Jvm.MethodName) prog_9_method_16_code (2 : Nat) (Option.some Jvm.ClassFile.FieldType.boolean)),
  (Jvm.Cond.methodLink "EpochTreeLaw" (39 : Nat) ({ cls := "EpochTreeModel", name := "up", desc := "(I)I" } : Jvm.MethodName)),
  (Jvm.Cond.instanceMethod ({ cls := "EpochTreeModel", name := "up", desc := "(I)I" } : Jvm.MethodName)),
  (Jvm.Cond.selects "EpochTreeModel" ({ cls := "EpochTreeModel", name := "up", desc := "(I)I" } : Jvm.MethodName) ({ cls := "EpochTreeModel", name := "up", desc := "(I)I" } : Jvm.MethodName)),
  (Jvm.Cond.code ({ cls := "EpochTreeModel", name := "up", desc := "(I)I" } : Jvm.MethodName) prog_9_method_25_code (6 : Nat) (Option.some Jvm.ClassFile.FieldType.int)),
  (Jvm.Cond.methodLink "EpochTreeModel" (149 : Nat) ({ cls := "EpochTreeModel", name := "sendDown", desc := "(III)V" } : Jvm.MethodName)),
  (Jvm.Cond.instanceMethod ({ cls := "EpochTreeModel", name := "sendDown", desc := "(III)V" } : Jvm.MethodName)),
  (Jvm.Cond.code ({ cls := "EpochTreeModel", name := "sendDown", desc := "(III)V" } : Jvm.MethodName) prog_9_method_18_code (5 : Nat) (Option.none : Option Jvm.ClassFile.FieldType)),
  (Jvm.Cond.methodLink "EpochTreeModel" (165 : Nat) ({ cls := "EpochTreeModel", name := "accepted", desc := "(IIZ)V" } : Jvm.MethodName)),
  (Jvm.Cond.instanceMethod ({ cls := "EpochTreeModel", name := "accepted", desc := "(IIZ)V" } : Jvm.MethodName)),
  (Jvm.Cond.code ({ cls := "EpochTreeModel", name := "accepted", desc := "(IIZ)V" } : Jvm.MethodName) prog_9_method_23_code (5 : Nat) (Option.none : Option Jvm.ClassFile.FieldType)),
  (Jvm.Cond.methodLink "EpochTreeModel" (156 : Nat) ({ cls := "EpochTreeModel", name := "newLeader", desc := "(II)V" } : Jvm.MethodName)),
  (Jvm.Cond.instanceMethod ({ cls := "EpochTreeModel", name := "newLeader", desc := "(II)V" } : Jvm.MethodName)),
  (Jvm.Cond.code ({ cls := "EpochTreeModel", name := "newLeader", desc := "(II)V" } : Jvm.MethodName) prog_9_method_19_code (3 : Nat) (Option.none : Option Jvm.ClassFile.FieldType)),
  (Jvm.Cond.methodLink "EpochTreeModel" (159 : Nat) ({ cls := "EpochTreeModel", name := "lastMark", desc := "(I)I" } : Jvm.MethodName)),
  (Jvm.Cond.instanceMethod ({ cls := "EpochTreeModel", name := "lastMark", desc := "(I)I" } : Jvm.MethodName)),
  (Jvm.Cond.code ({ cls := "EpochTreeModel", name := "lastMark", desc := "(I)I" } : Jvm.MethodName) prog_9_method_22_code (2 : Nat) (Option.some Jvm.ClassFile.FieldType.int)),
  (Jvm.Cond.methodLink "EpochTreeModel" (162 : Nat) ({ cls := "EpochTreeModel", name := "copy", desc := "(III)V" } : Jvm.MethodName)),
  (Jvm.Cond.instanceMethod ({ cls := "EpochTreeModel", name := "copy", desc := "(III)V" } : Jvm.MethodName)),
  (Jvm.Cond.code ({ cls := "EpochTreeModel", name := "copy", desc := "(III)V" } : Jvm.MethodName) prog_9_method_20_code (5 : Nat) (Option.none : Option Jvm.ClassFile.FieldType)),
  (Jvm.Cond.methodLink "EpochTreeModel" (152 : Nat) ({ cls := "EpochTreeModel", name := "copyEntry", desc := "(II)V" } : Jvm.MethodName)),
  (Jvm.Cond.instanceMethod ({ cls := "EpochTreeModel", name := "copyEntry", desc := "(II)V" } : Jvm.MethodName)),
  (Jvm.Cond.code ({ cls := "EpochTreeModel", name := "copyEntry", desc := "(II)V" } : Jvm.MethodName) prog_9_method_21_code (3 : Nat) (Option.none : Option Jvm.ClassFile.FieldType)),
  (Jvm.Cond.methodLink "EpochTreeModel" (169 : Nat) ({ cls := "EpochTreeModel", name := "acknowledged", desc := "(III)V" } : Jvm.MethodName)),
  (Jvm.Cond.instanceMethod ({ cls := "EpochTreeModel", name := "acknowledged", desc := "(III)V" } : Jvm.MethodName)),
  (Jvm.Cond.code ({ cls := "EpochTreeModel", name := "acknowledged", desc := "(III)V" } : Jvm.MethodName) prog_9_method_24_code (6 : Nat) (Option.none : Option Jvm.ClassFile.FieldType)),
  (Jvm.Cond.methodLink "EpochTreeLaw" (43 : Nat) ({ cls := "EpochTreeModel", name := "down", desc := "(I)I" } : Jvm.MethodName)),
  (Jvm.Cond.instanceMethod ({ cls := "EpochTreeModel", name := "down", desc := "(I)I" } : Jvm.MethodName)),
  (Jvm.Cond.selects "EpochTreeModel" ({ cls := "EpochTreeModel", name := "down", desc := "(I)I" } : Jvm.MethodName) ({ cls := "EpochTreeModel", name := "down", desc := "(I)I" } : Jvm.MethodName)),
  (Jvm.Cond.code ({ cls := "EpochTreeModel", name := "down", desc := "(I)I" } : Jvm.MethodName) prog_9_method_26_code (6 : Nat) (Option.some Jvm.ClassFile.FieldType.int)),
  (Jvm.Cond.methodLink "EpochTreeLaw" (48 : Nat) ({ cls := "EpochTreeModel", name := "submit", desc := "(IIIII)I" } : Jvm.MethodName)),
  (Jvm.Cond.instanceMethod ({ cls := "EpochTreeModel", name := "submit", desc := "(IIIII)I" } : Jvm.MethodName)),
  (Jvm.Cond.selects "EpochTreeModel" ({ cls := "EpochTreeModel", name := "submit", desc := "(IIIII)I" } : Jvm.MethodName) ({ cls := "EpochTreeModel", name := "submit", desc := "(IIIII)I" } : Jvm.MethodName)),
  (Jvm.Cond.code ({ cls := "EpochTreeModel", name := "submit", desc := "(IIIII)I" } : Jvm.MethodName) prog_9_method_29_code (6 : Nat) (Option.some Jvm.ClassFile.FieldType.int)),
  (Jvm.Cond.methodLink "EpochTreeModel" (172 : Nat) ({ cls := "EpochTreeModel", name := "isPath", desc := "(I)Z" } : Jvm.MethodName)),
  (Jvm.Cond.static ({ cls := "EpochTreeModel", name := "isPath", desc := "(I)Z" } : Jvm.MethodName)),
  (Jvm.Cond.code ({ cls := "EpochTreeModel", name := "isPath", desc := "(I)Z" } : Jvm.MethodName) prog_9_method_28_code (1 : Nat) (Option.some Jvm.ClassFile.FieldType.boolean)),
  (Jvm.Cond.methodLink "EpochTreeModel" (175 : Nat) ({ cls := "EpochTreeModel", name := "make", desc := "(IIIII)V" } : Jvm.MethodName)),
  (Jvm.Cond.instanceMethod ({ cls := "EpochTreeModel", name := "make", desc := "(IIIII)V" } : Jvm.MethodName)),
  (Jvm.Cond.code ({ cls := "EpochTreeModel", name := "make", desc := "(IIIII)V" } : Jvm.MethodName) prog_9_method_27_code (8 : Nat) (Option.none : Option Jvm.ClassFile.FieldType)),
  (Jvm.Cond.methodLink "EpochTreeLaw" (53 : Nat) ({ cls := "EpochTreeModel", name := "tick", desc := "()I" } : Jvm.MethodName)),
  (Jvm.Cond.instanceMethod ({ cls := "EpochTreeModel", name := "tick", desc := "()I" } : Jvm.MethodName)),
  (Jvm.Cond.selects "EpochTreeModel" ({ cls := "EpochTreeModel", name := "tick", desc := "()I" } : Jvm.MethodName) ({ cls := "EpochTreeModel", name := "tick", desc := "()I" } : Jvm.MethodName)),
  (Jvm.Cond.code ({ cls := "EpochTreeModel", name := "tick", desc := "()I" } : Jvm.MethodName) prog_9_method_30_code (5 : Nat) (Option.some Jvm.ClassFile.FieldType.int)),
  (Jvm.Cond.methodLink "EpochTreeModel" (179 : Nat) ({ cls := "EpochTreeModel", name := "work", desc := "(I)V" } : Jvm.MethodName)),
  (Jvm.Cond.instanceMethod ({ cls := "EpochTreeModel", name := "work", desc := "(I)V" } : Jvm.MethodName)),
  (Jvm.Cond.code ({ cls := "EpochTreeModel", name := "work", desc := "(I)V" } : Jvm.MethodName) prog_9_method_8_code (6 : Nat) (Option.none : Option Jvm.ClassFile.FieldType)),
  (Jvm.Cond.methodLink "EpochTreeModel" (118 : Nat) ({ cls := "EpochTreeModel", name := "create", desc := "(III)I" } : Jvm.MethodName)),
  (Jvm.Cond.instanceMethod ({ cls := "EpochTreeModel", name := "create", desc := "(III)I" } : Jvm.MethodName)),
  (Jvm.Cond.code ({ cls := "EpochTreeModel", name := "create", desc := "(III)I" } : Jvm.MethodName) prog_9_method_5_code (5 : Nat) (Option.some Jvm.ClassFile.FieldType.int)),
  (Jvm.Cond.methodLink "EpochTreeModel" (111 : Nat) ({ cls := "EpochTreeModel", name := "find", desc := "(I)I" } : Jvm.MethodName)),
  (Jvm.Cond.instanceMethod ({ cls := "EpochTreeModel", name := "find", desc := "(I)I" } : Jvm.MethodName)),
  (Jvm.Cond.code ({ cls := "EpochTreeModel", name := "find", desc := "(I)I" } : Jvm.MethodName) prog_9_method_3_code (3 : Nat) (Option.some Jvm.ClassFile.FieldType.int)),
  (Jvm.Cond.methodLink "EpochTreeModel" (122 : Nat) ({ cls := "EpochTreeModel", name := "alter", desc := "(ZIII)I" } : Jvm.MethodName)),
  (Jvm.Cond.instanceMethod ({ cls := "EpochTreeModel", name := "alter", desc := "(ZIII)I" } : Jvm.MethodName)),
  (Jvm.Cond.code ({ cls := "EpochTreeModel", name := "alter", desc := "(ZIII)I" } : Jvm.MethodName) prog_9_method_6_code (6 : Nat) (Option.some Jvm.ClassFile.FieldType.int)),
  (Jvm.Cond.methodLink "EpochTreeModel" (115 : Nat) ({ cls := "EpochTreeModel", name := "children", desc := "(I)I" } : Jvm.MethodName)),
  (Jvm.Cond.instanceMethod ({ cls := "EpochTreeModel", name := "children", desc := "(I)I" } : Jvm.MethodName)),
  (Jvm.Cond.code ({ cls := "EpochTreeModel", name := "children", desc := "(I)I" } : Jvm.MethodName) prog_9_method_4_code (4 : Nat) (Option.some Jvm.ClassFile.FieldType.int)),
  (Jvm.Cond.methodLink "EpochTreeModel" (126 : Nat) ({ cls := "EpochTreeModel", name := "session", desc := "(ZI)I" } : Jvm.MethodName)),
  (Jvm.Cond.instanceMethod ({ cls := "EpochTreeModel", name := "session", desc := "(ZI)I" } : Jvm.MethodName)),
  (Jvm.Cond.code ({ cls := "EpochTreeModel", name := "session", desc := "(ZI)I" } : Jvm.MethodName) prog_9_method_7_code (4 : Nat) (Option.some Jvm.ClassFile.FieldType.int)),
  (Jvm.Cond.methodLink "EpochTreeLaw" (57 : Nat) ({ cls := "EpochTreeModel", name := "touch", desc := "(II)Z" } : Jvm.MethodName)),
  (Jvm.Cond.instanceMethod ({ cls := "EpochTreeModel", name := "touch", desc := "(II)Z" } : Jvm.MethodName)),
  (Jvm.Cond.selects "EpochTreeModel" ({ cls := "EpochTreeModel", name := "touch", desc := "(II)Z" } : Jvm.MethodName) ({ cls := "EpochTreeModel", name := "touch", desc := "(II)Z" } : Jvm.MethodName)),
  (Jvm.Cond.code ({ cls := "EpochTreeModel", name := "touch", desc := "(II)Z" } : Jvm.MethodName) prog_9_method_31_code (3 : Nat) (Option.some Jvm.ClassFile.FieldType.boolean)),
  (Jvm.Cond.methodLink "EpochTreeLaw" (61 : Nat) ({ cls := "EpochTreeModel", name := "role", desc := "(I)I" } : Jvm.MethodName)),
  (Jvm.Cond.instanceMethod ({ cls := "EpochTreeModel", name := "role", desc := "(I)I" } : Jvm.MethodName)),
  (Jvm.Cond.selects "EpochTreeModel" ({ cls := "EpochTreeModel", name := "role", desc := "(I)I" } : Jvm.MethodName) ({ cls := "EpochTreeModel", name := "role", desc := "(I)I" } : Jvm.MethodName)),
  (Jvm.Cond.code ({ cls := "EpochTreeModel", name := "role", desc := "(I)I" } : Jvm.MethodName) prog_9_method_32_code (2 : Nat) (Option.some Jvm.ClassFile.FieldType.int)),
  (Jvm.Cond.methodLink "EpochTreeLaw" (65 : Nat) ({ cls := "EpochTreeModel", name := "promise", desc := "(I)I" } : Jvm.MethodName)),
  (Jvm.Cond.instanceMethod ({ cls := "EpochTreeModel", name := "promise", desc := "(I)I" } : Jvm.MethodName)),
  (Jvm.Cond.selects "EpochTreeModel" ({ cls := "EpochTreeModel", name := "promise", desc := "(I)I" } : Jvm.MethodName) ({ cls := "EpochTreeModel", name := "promise", desc := "(I)I" } : Jvm.MethodName)),
  (Jvm.Cond.code ({ cls := "EpochTreeModel", name := "promise", desc := "(I)I" } : Jvm.MethodName) prog_9_method_33_code (2 : Nat) (Option.some Jvm.ClassFile.FieldType.int)),
  (Jvm.Cond.methodLink "EpochTreeLaw" (69 : Nat) ({ cls := "EpochTreeModel", name := "epoch", desc := "(I)I" } : Jvm.MethodName)),
  (Jvm.Cond.instanceMethod ({ cls := "EpochTreeModel", name := "epoch", desc := "(I)I" } : Jvm.MethodName)),
  (Jvm.Cond.selects "EpochTreeModel" ({ cls := "EpochTreeModel", name := "epoch", desc := "(I)I" } : Jvm.MethodName) ({ cls := "EpochTreeModel", name := "epoch", desc := "(I)I" } : Jvm.MethodName)),
  (Jvm.Cond.code ({ cls := "EpochTreeModel", name := "epoch", desc := "(I)I" } : Jvm.MethodName) prog_9_method_34_code (2 : Nat) (Option.some Jvm.ClassFile.FieldType.int)),
  (Jvm.Cond.methodLink "EpochTreeLaw" (73 : Nat) ({ cls := "EpochTreeModel", name := "length", desc := "(I)I" } : Jvm.MethodName)),
  (Jvm.Cond.instanceMethod ({ cls := "EpochTreeModel", name := "length", desc := "(I)I" } : Jvm.MethodName)),
  (Jvm.Cond.selects "EpochTreeModel" ({ cls := "EpochTreeModel", name := "length", desc := "(I)I" } : Jvm.MethodName) ({ cls := "EpochTreeModel", name := "length", desc := "(I)I" } : Jvm.MethodName)),
  (Jvm.Cond.code ({ cls := "EpochTreeModel", name := "length", desc := "(I)I" } : Jvm.MethodName) prog_9_method_35_code (2 : Nat) (Option.some Jvm.ClassFile.FieldType.int)),
  (Jvm.Cond.methodLink "EpochTreeLaw" (78 : Nat) ({ cls := "EpochTreeModel", name := "mark", desc := "(II)I" } : Jvm.MethodName)),
  (Jvm.Cond.instanceMethod ({ cls := "EpochTreeModel", name := "mark", desc := "(II)I" } : Jvm.MethodName)),
  (Jvm.Cond.selects "EpochTreeModel" ({ cls := "EpochTreeModel", name := "mark", desc := "(II)I" } : Jvm.MethodName) ({ cls := "EpochTreeModel", name := "mark", desc := "(II)I" } : Jvm.MethodName)),
  (Jvm.Cond.code ({ cls := "EpochTreeModel", name := "mark", desc := "(II)I" } : Jvm.MethodName) prog_9_method_36_code (3 : Nat) (Option.some Jvm.ClassFile.FieldType.int)),
  (Jvm.Cond.methodLink "EpochTreeLaw" (82 : Nat) ({ cls := "EpochTreeModel", name := "applied", desc := "(I)I" } : Jvm.MethodName)),
  (Jvm.Cond.instanceMethod ({ cls := "EpochTreeModel", name := "applied", desc := "(I)I" } : Jvm.MethodName)),
  (Jvm.Cond.selects "EpochTreeModel" ({ cls := "EpochTreeModel", name := "applied", desc := "(I)I" } : Jvm.MethodName) ({ cls := "EpochTreeModel", name := "applied", desc := "(I)I" } : Jvm.MethodName)),
  (Jvm.Cond.code ({ cls := "EpochTreeModel", name := "applied", desc := "(I)I" } : Jvm.MethodName) prog_9_method_37_code (2 : Nat) (Option.some Jvm.ClassFile.FieldType.int)),
  (Jvm.Cond.methodLink "EpochTreeLaw" (86 : Nat) ({ cls := "EpochTreeModel", name := "result", desc := "(II)I" } : Jvm.MethodName)),
  (Jvm.Cond.instanceMethod ({ cls := "EpochTreeModel", name := "result", desc := "(II)I" } : Jvm.MethodName)),
  (Jvm.Cond.selects "EpochTreeModel" ({ cls := "EpochTreeModel", name := "result", desc := "(II)I" } : Jvm.MethodName) ({ cls := "EpochTreeModel", name := "result", desc := "(II)I" } : Jvm.MethodName)),
  (Jvm.Cond.code ({ cls := "EpochTreeModel", name := "result", desc := "(II)I" } : Jvm.MethodName) prog_9_method_38_code (3 : Nat) (Option.some Jvm.ClassFile.FieldType.int)),
  (Jvm.Cond.methodLink "EpochTreeLaw" (91 : Nat) ({ cls := "EpochTreeModel", name := "node", desc := "(III)I" } : Jvm.MethodName)),
  (Jvm.Cond.instanceMethod ({ cls := "EpochTreeModel", name := "node", desc := "(III)I" } : Jvm.MethodName)),
  (Jvm.Cond.selects "EpochTreeModel" ({ cls := "EpochTreeModel", name := "node", desc := "(III)I" } : Jvm.MethodName) ({ cls := "EpochTreeModel", name := "node", desc := "(III)I" } : Jvm.MethodName)),
  (Jvm.Cond.code ({ cls := "EpochTreeModel", name := "node", desc := "(III)I" } : Jvm.MethodName) prog_9_method_39_code (5 : Nat) (Option.some Jvm.ClassFile.FieldType.int)),
  (Jvm.Cond.methodLink "EpochTreeLaw" (95 : Nat) ({ cls := "EpochTreeModel", name := "tree", desc := "(I)I" } : Jvm.MethodName)),
  (Jvm.Cond.instanceMethod ({ cls := "EpochTreeModel", name := "tree", desc := "(I)I" } : Jvm.MethodName)),
  (Jvm.Cond.selects "EpochTreeModel" ({ cls := "EpochTreeModel", name := "tree", desc := "(I)I" } : Jvm.MethodName) ({ cls := "EpochTreeModel", name := "tree", desc := "(I)I" } : Jvm.MethodName)),
  (Jvm.Cond.code ({ cls := "EpochTreeModel", name := "tree", desc := "(I)I" } : Jvm.MethodName) prog_9_method_40_code (4 : Nat) (Option.some Jvm.ClassFile.FieldType.int)),
  (Jvm.Cond.methodLink "EpochTreeLaw" (100 : Nat) ({ cls := "EpochTreeModel", name := "waiting", desc := "(IZ)I" } : Jvm.MethodName)),
  (Jvm.Cond.instanceMethod ({ cls := "EpochTreeModel", name := "waiting", desc := "(IZ)I" } : Jvm.MethodName)),
  (Jvm.Cond.selects "EpochTreeModel" ({ cls := "EpochTreeModel", name := "waiting", desc := "(IZ)I" } : Jvm.MethodName) ({ cls := "EpochTreeModel", name := "waiting", desc := "(IZ)I" } : Jvm.MethodName)),
  (Jvm.Cond.code ({ cls := "EpochTreeModel", name := "waiting", desc := "(IZ)I" } : Jvm.MethodName) prog_9_method_41_code (3 : Nat) (Option.some Jvm.ClassFile.FieldType.int)),
  (Jvm.Cond.selects "EpochTree" ({ cls := "EpochTree", name := "hasRole", desc := "(II)Z" } : Jvm.MethodName) ({ cls := "EpochTree", name := "hasRole", desc := "(II)Z" } : Jvm.MethodName)),
  (Jvm.Cond.selects "EpochTree$Term" ({ cls := "EpochTree$Term", name := "begin", desc := "()V" } : Jvm.MethodName) ({ cls := "EpochTree$Term", name := "begin", desc := "()V" } : Jvm.MethodName)),
  (Jvm.Cond.selects "EpochTree" ({ cls := "EpochTree", name := "leads", desc := "(I)Z" } : Jvm.MethodName) ({ cls := "EpochTree", name := "leads", desc := "(I)Z" } : Jvm.MethodName)),
  (Jvm.Cond.selects "EpochTree$Row" ({ cls := "EpochTree$Row", name := "send", desc := "(II)V" } : Jvm.MethodName) ({ cls := "EpochTree$Row", name := "send", desc := "(II)V" } : Jvm.MethodName)),
  (Jvm.Cond.selects "EpochTree" ({ cls := "EpochTree", name := "stopTo", desc := "(II)V" } : Jvm.MethodName) ({ cls := "EpochTree", name := "stopTo", desc := "(II)V" } : Jvm.MethodName)),
  (Jvm.Cond.selects "EpochTree$Link" ({ cls := "EpochTree$Link", name := "clear", desc := "()V" } : Jvm.MethodName) ({ cls := "EpochTree$Link", name := "clear", desc := "()V" } : Jvm.MethodName)),
  (Jvm.Cond.selects "EpochTree$Row" ({ cls := "EpochTree$Row", name := "clear", desc := "()V" } : Jvm.MethodName) ({ cls := "EpochTree$Row", name := "clear", desc := "()V" } : Jvm.MethodName)),
  (Jvm.Cond.selects "EpochTree$Server" ({ cls := "EpochTree$Server", name := "forgetApplied", desc := "()V" } : Jvm.MethodName) ({ cls := "EpochTree$Server", name := "forgetApplied", desc := "()V" } : Jvm.MethodName)),
  (Jvm.Cond.selects "EpochTree$Tree" ({ cls := "EpochTree$Tree", name := "clear", desc := "()V" } : Jvm.MethodName) ({ cls := "EpochTree$Tree", name := "clear", desc := "()V" } : Jvm.MethodName)),
  (Jvm.Cond.selects "EpochTree$Row" ({ cls := "EpochTree$Row", name := "count", desc := "()I" } : Jvm.MethodName) ({ cls := "EpochTree$Row", name := "count", desc := "()I" } : Jvm.MethodName)),
  (Jvm.Cond.selects "EpochTree$Row" ({ cls := "EpochTree$Row", name := "firstKind", desc := "()I" } : Jvm.MethodName) ({ cls := "EpochTree$Row", name := "firstKind", desc := "()I" } : Jvm.MethodName)),
  (Jvm.Cond.selects "EpochTree$Row" ({ cls := "EpochTree$Row", name := "firstValue", desc := "()I" } : Jvm.MethodName) ({ cls := "EpochTree$Row", name := "firstValue", desc := "()I" } : Jvm.MethodName)),
  (Jvm.Cond.selects "EpochTree$Row" ({ cls := "EpochTree$Row", name := "dropFirst", desc := "()V" } : Jvm.MethodName) ({ cls := "EpochTree$Row", name := "dropFirst", desc := "()V" } : Jvm.MethodName)),
  (Jvm.Cond.selects "EpochTree" ({ cls := "EpochTree", name := "readAccepted", desc := "(LEpochTree$Server;LEpochTree$Server;Z)V" } : Jvm.MethodName) ({ cls := "EpochTree", name := "readAccepted", desc := "(LEpochTree$Server;LEpochTree$Server;Z)V" } : Jvm.MethodName)),
  (Jvm.Cond.selects "EpochTree$EntryList" ({ cls := "EpochTree$EntryList", name := "lastMark", desc := "()I" } : Jvm.MethodName) ({ cls := "EpochTree$EntryList", name := "lastMark", desc := "()I" } : Jvm.MethodName)),
  (Jvm.Cond.selects "EpochTree$EntryList" ({ cls := "EpochTree$EntryList", name := "markAt", desc := "(I)I" } : Jvm.MethodName) ({ cls := "EpochTree$EntryList", name := "markAt", desc := "(I)I" } : Jvm.MethodName)),
  (Jvm.Cond.selects "EpochTree$EntryList" ({ cls := "EpochTree$EntryList", name := "becomeFirst", desc := "(LEpochTree$EntryList;I)V" } : Jvm.MethodName) ({ cls := "EpochTree$EntryList", name := "becomeFirst", desc := "(LEpochTree$EntryList;I)V" } : Jvm.MethodName)),
  (Jvm.Cond.selects "EpochTree$EntryList" ({ cls := "EpochTree$EntryList", name := "appendFrom", desc := "(LEpochTree$EntryList;I)V" } : Jvm.MethodName) ({ cls := "EpochTree$EntryList", name := "appendFrom", desc := "(LEpochTree$EntryList;I)V" } : Jvm.MethodName)),
  (Jvm.Cond.selects "EpochTree$EntryList" ({ cls := "EpochTree$EntryList", name := "append", desc := "(IIIII)V" } : Jvm.MethodName) ({ cls := "EpochTree$EntryList", name := "append", desc := "(IIIII)V" } : Jvm.MethodName)),
  (Jvm.Cond.selects "EpochTree$EntryList" ({ cls := "EpochTree$EntryList", name := "isFull", desc := "()Z" } : Jvm.MethodName) ({ cls := "EpochTree$EntryList", name := "isFull", desc := "()Z" } : Jvm.MethodName)),
  (Jvm.Cond.selects "EpochTree" ({ cls := "EpochTree", name := "sendNewLeaderToWaiting", desc := "(LEpochTree$Server;)V" } : Jvm.MethodName) ({ cls := "EpochTree", name := "sendNewLeaderToWaiting", desc := "(LEpochTree$Server;)V" } : Jvm.MethodName)),
  (Jvm.Cond.selects "EpochTree" ({ cls := "EpochTree", name := "readAck", desc := "(LEpochTree$Server;LEpochTree$Server;I)V" } : Jvm.MethodName) ({ cls := "EpochTree", name := "readAck", desc := "(LEpochTree$Server;LEpochTree$Server;I)V" } : Jvm.MethodName)),
  (Jvm.Cond.selects "EpochTree$Server" ({ cls := "EpochTree$Server", name := "applyUpTo", desc := "(I)V" } : Jvm.MethodName) ({ cls := "EpochTree$Server", name := "applyUpTo", desc := "(I)V" } : Jvm.MethodName)),
  (Jvm.Cond.selects "EpochTree$Tree" ({ cls := "EpochTree$Tree", name := "change", desc := "(IIII)I" } : Jvm.MethodName) ({ cls := "EpochTree$Tree", name := "change", desc := "(IIII)I" } : Jvm.MethodName)),
  (Jvm.Cond.selects "EpochTree$Tree" ({ cls := "EpochTree$Tree", name := "create", desc := "(III)I" } : Jvm.MethodName) ({ cls := "EpochTree$Tree", name := "create", desc := "(III)I" } : Jvm.MethodName)),
  (Jvm.Cond.selects "EpochTree$Tree" ({ cls := "EpochTree$Tree", name := "isOpen", desc := "(I)Z" } : Jvm.MethodName) ({ cls := "EpochTree$Tree", name := "isOpen", desc := "(I)Z" } : Jvm.MethodName)),
  (Jvm.Cond.selects "EpochTree$Tree" ({ cls := "EpochTree$Tree", name := "find", desc := "(I)I" } : Jvm.MethodName) ({ cls := "EpochTree$Tree", name := "find", desc := "(I)I" } : Jvm.MethodName)),
  (Jvm.Cond.selects "EpochTree$Tree" ({ cls := "EpochTree$Tree", name := "add", desc := "(III)V" } : Jvm.MethodName) ({ cls := "EpochTree$Tree", name := "add", desc := "(III)V" } : Jvm.MethodName)),
  (Jvm.Cond.selects "EpochTree$Tree" ({ cls := "EpochTree$Tree", name := "set", desc := "(III)I" } : Jvm.MethodName) ({ cls := "EpochTree$Tree", name := "set", desc := "(III)I" } : Jvm.MethodName)),
  (Jvm.Cond.selects "EpochTree$Tree" ({ cls := "EpochTree$Tree", name := "delete", desc := "(II)I" } : Jvm.MethodName) ({ cls := "EpochTree$Tree", name := "delete", desc := "(II)I" } : Jvm.MethodName)),
  (Jvm.Cond.selects "EpochTree$Tree" ({ cls := "EpochTree$Tree", name := "countChildren", desc := "(I)I" } : Jvm.MethodName) ({ cls := "EpochTree$Tree", name := "countChildren", desc := "(I)I" } : Jvm.MethodName)),
  (Jvm.Cond.selects "EpochTree$Tree" ({ cls := "EpochTree$Tree", name := "remove", desc := "(I)V" } : Jvm.MethodName) ({ cls := "EpochTree$Tree", name := "remove", desc := "(I)V" } : Jvm.MethodName)),
  (Jvm.Cond.selects "EpochTree$Tree" ({ cls := "EpochTree$Tree", name := "open", desc := "(I)I" } : Jvm.MethodName) ({ cls := "EpochTree$Tree", name := "open", desc := "(I)I" } : Jvm.MethodName)),
  (Jvm.Cond.selects "EpochTree$Tree" ({ cls := "EpochTree$Tree", name := "close", desc := "(I)I" } : Jvm.MethodName) ({ cls := "EpochTree$Tree", name := "close", desc := "(I)I" } : Jvm.MethodName)),
  (Jvm.Cond.selects "EpochTree" ({ cls := "EpochTree", name := "sendOnTiedLinks", desc := "(LEpochTree$Server;II)V" } : Jvm.MethodName) ({ cls := "EpochTree", name := "sendOnTiedLinks", desc := "(LEpochTree$Server;II)V" } : Jvm.MethodName)),
  (Jvm.Cond.selects "EpochTree" ({ cls := "EpochTree", name := "readNewEpoch", desc := "(II)V" } : Jvm.MethodName) ({ cls := "EpochTree", name := "readNewEpoch", desc := "(II)V" } : Jvm.MethodName)),
  (Jvm.Cond.selects "EpochTree" ({ cls := "EpochTree", name := "readNewLeader", desc := "(LEpochTree$Server;I)V" } : Jvm.MethodName) ({ cls := "EpochTree", name := "readNewLeader", desc := "(LEpochTree$Server;I)V" } : Jvm.MethodName)),
  (Jvm.Cond.selects "EpochTree" ({ cls := "EpochTree", name := "readProposal", desc := "(LEpochTree$Server;I)V" } : Jvm.MethodName) ({ cls := "EpochTree", name := "readProposal", desc := "(LEpochTree$Server;I)V" } : Jvm.MethodName)),
  (Jvm.Cond.selects "EpochTree" ({ cls := "EpochTree", name := "makeEntry", desc := "(LEpochTree$Server;IIII)V" } : Jvm.MethodName) ({ cls := "EpochTree", name := "makeEntry", desc := "(LEpochTree$Server;IIII)V" } : Jvm.MethodName)),
  (Jvm.Cond.selects "EpochTree" ({ cls := "EpochTree", name := "closeOldSessions", desc := "(LEpochTree$Server;)I" } : Jvm.MethodName) ({ cls := "EpochTree", name := "closeOldSessions", desc := "(LEpochTree$Server;)I" } : Jvm.MethodName)),
  (Jvm.Cond.selects "EpochTree$Tree" ({ cls := "EpochTree$Tree", name := "look", desc := "(II)I" } : Jvm.MethodName) ({ cls := "EpochTree$Tree", name := "look", desc := "(II)I" } : Jvm.MethodName)),
  (Jvm.Cond.selects "EpochTree$Tree" ({ cls := "EpochTree$Tree", name := "lookAtRoot", desc := "(I)I" } : Jvm.MethodName) ({ cls := "EpochTree$Tree", name := "lookAtRoot", desc := "(I)I" } : Jvm.MethodName)),
  (Jvm.Cond.selects "EpochTree$Tree" ({ cls := "EpochTree$Tree", name := "summary", desc := "()I" } : Jvm.MethodName) ({ cls := "EpochTree$Tree", name := "summary", desc := "()I" } : Jvm.MethodName)),
  (Jvm.Cond.selects "EpochTreeModel" ({ cls := "EpochTreeModel", name := "cut", desc := "(I)V" } : Jvm.MethodName) ({ cls := "EpochTreeModel", name := "cut", desc := "(I)V" } : Jvm.MethodName)),
  (Jvm.Cond.selects "EpochTreeModel" ({ cls := "EpochTreeModel", name := "sendUp", desc := "(III)V" } : Jvm.MethodName) ({ cls := "EpochTreeModel", name := "sendUp", desc := "(III)V" } : Jvm.MethodName)),
  (Jvm.Cond.selects "EpochTreeModel" ({ cls := "EpochTreeModel", name := "cease", desc := "(I)V" } : Jvm.MethodName) ({ cls := "EpochTreeModel", name := "cease", desc := "(I)V" } : Jvm.MethodName)),
  (Jvm.Cond.selects "EpochTreeModel" ({ cls := "EpochTreeModel", name := "follows", desc := "(II)Z" } : Jvm.MethodName) ({ cls := "EpochTreeModel", name := "follows", desc := "(II)Z" } : Jvm.MethodName)),
  (Jvm.Cond.selects "EpochTreeModel" ({ cls := "EpochTreeModel", name := "sendDown", desc := "(III)V" } : Jvm.MethodName) ({ cls := "EpochTreeModel", name := "sendDown", desc := "(III)V" } : Jvm.MethodName)),
  (Jvm.Cond.selects "EpochTreeModel" ({ cls := "EpochTreeModel", name := "accepted", desc := "(IIZ)V" } : Jvm.MethodName) ({ cls := "EpochTreeModel", name := "accepted", desc := "(IIZ)V" } : Jvm.MethodName)),
  (Jvm.Cond.selects "EpochTreeModel" ({ cls := "EpochTreeModel", name := "newLeader", desc := "(II)V" } : Jvm.MethodName) ({ cls := "EpochTreeModel", name := "newLeader", desc := "(II)V" } : Jvm.MethodName)),
  (Jvm.Cond.selects "EpochTreeModel" ({ cls := "EpochTreeModel", name := "lastMark", desc := "(I)I" } : Jvm.MethodName) ({ cls := "EpochTreeModel", name := "lastMark", desc := "(I)I" } : Jvm.MethodName)),
  (Jvm.Cond.selects "EpochTreeModel" ({ cls := "EpochTreeModel", name := "copy", desc := "(III)V" } : Jvm.MethodName) ({ cls := "EpochTreeModel", name := "copy", desc := "(III)V" } : Jvm.MethodName)),
  (Jvm.Cond.selects "EpochTreeModel" ({ cls := "EpochTreeModel", name := "copyEntry", desc := "(II)V" } : Jvm.MethodName) ({ cls := "EpochTreeModel", name := "copyEntry", desc := "(II)V" } : Jvm.MethodName)),
  (Jvm.Cond.selects "EpochTreeModel" ({ cls := "EpochTreeModel", name := "acknowledged", desc := "(III)V" } : Jvm.MethodName) ({ cls := "EpochTreeModel", name := "acknowledged", desc := "(III)V" } : Jvm.MethodName)),
  (Jvm.Cond.selects "EpochTreeModel" ({ cls := "EpochTreeModel", name := "make", desc := "(IIIII)V" } : Jvm.MethodName) ({ cls := "EpochTreeModel", name := "make", desc := "(IIIII)V" } : Jvm.MethodName)),
  (Jvm.Cond.selects "EpochTreeModel" ({ cls := "EpochTreeModel", name := "work", desc := "(I)V" } : Jvm.MethodName) ({ cls := "EpochTreeModel", name := "work", desc := "(I)V" } : Jvm.MethodName)),
  (Jvm.Cond.selects "EpochTreeModel" ({ cls := "EpochTreeModel", name := "create", desc := "(III)I" } : Jvm.MethodName) ({ cls := "EpochTreeModel", name := "create", desc := "(III)I" } : Jvm.MethodName)),
  (Jvm.Cond.selects "EpochTreeModel" ({ cls := "EpochTreeModel", name := "find", desc := "(I)I" } : Jvm.MethodName) ({ cls := "EpochTreeModel", name := "find", desc := "(I)I" } : Jvm.MethodName)),
  (Jvm.Cond.selects "EpochTreeModel" ({ cls := "EpochTreeModel", name := "alter", desc := "(ZIII)I" } : Jvm.MethodName) ({ cls := "EpochTreeModel", name := "alter", desc := "(ZIII)I" } : Jvm.MethodName)),
  (Jvm.Cond.selects "EpochTreeModel" ({ cls := "EpochTreeModel", name := "children", desc := "(I)I" } : Jvm.MethodName) ({ cls := "EpochTreeModel", name := "children", desc := "(I)I" } : Jvm.MethodName)),
  (Jvm.Cond.selects "EpochTreeModel" ({ cls := "EpochTreeModel", name := "session", desc := "(ZI)I" } : Jvm.MethodName) ({ cls := "EpochTreeModel", name := "session", desc := "(ZI)I" } : Jvm.MethodName))]
theorem mem_r {big : List Cond} (ws : List Cond) (ps : List Nat) (hp : ws = ps.filterMap (fun i => big[i]?)) : ∀ w ∈ ws, w ∈ big := by
  intro w hw
  rw [hp] at hw
  obtain ⟨i, -, hi⟩ := List.mem_filterMap.mp hw
  first | exact List.mem_of_getElem? hi | exact List.getElem?_mem hi
set_option maxRecDepth 20000 in
theorem tb_0 : (Jvm.Cond.initialized "EpochTreeLaw") ∈ tb := List.mem_of_getElem? (i := 0) rfl
set_option maxRecDepth 20000 in
theorem tb_1 : (Jvm.Cond.initialized "EpochTree") ∈ tb := List.mem_of_getElem? (i := 1) rfl
set_option maxRecDepth 20000 in
theorem tb_2 : (Jvm.Cond.initialized "EpochTree$Server") ∈ tb := List.mem_of_getElem? (i := 2) rfl
set_option maxRecDepth 20000 in
theorem tb_3 : (Jvm.Cond.initialized "EpochTree$EntryList") ∈ tb := List.mem_of_getElem? (i := 3) rfl
set_option maxRecDepth 20000 in
theorem tb_4 : (Jvm.Cond.initialized "EpochTree$Tree") ∈ tb := List.mem_of_getElem? (i := 4) rfl
set_option maxRecDepth 20000 in
theorem tb_5 : (Jvm.Cond.initialized "EpochTree$Link") ∈ tb := List.mem_of_getElem? (i := 5) rfl
set_option maxRecDepth 20000 in
theorem tb_6 : (Jvm.Cond.initialized "EpochTree$Row") ∈ tb := List.mem_of_getElem? (i := 6) rfl
set_option maxRecDepth 20000 in
theorem tb_7 : (Jvm.Cond.initialized "EpochTree$Term") ∈ tb := List.mem_of_getElem? (i := 7) rfl
set_option maxRecDepth 20000 in
theorem tb_8 : (Jvm.Cond.initialized "EpochTreeModel") ∈ tb := List.mem_of_getElem? (i := 8) rfl
set_option maxRecDepth 20000 in
theorem tb_9 : (Jvm.Cond.initialized "java/lang/Math") ∈ tb := List.mem_of_getElem? (i := 9) rfl
set_option maxRecDepth 20000 in
theorem tb_10 : (Jvm.Cond.initialized "java/util/Arrays") ∈ tb := List.mem_of_getElem? (i := 10) rfl
set_option maxRecDepth 20000 in
theorem tb_11 : (Jvm.Cond.classLink "EpochTreeLaw" (7 : Nat) "EpochTree") ∈ tb := List.mem_of_getElem? (i := 11) rfl
set_option maxRecDepth 20000 in
theorem tb_12 : (Jvm.Cond.instantiable "EpochTree" (1 : Nat)) ∈ tb := List.mem_of_getElem? (i := 12) rfl
set_option maxRecDepth 20000 in
theorem tb_13 : (Jvm.Cond.methodLink "EpochTreeLaw" (9 : Nat) ({ cls := "EpochTree", name := "<init>", desc := "()V" } : Jvm.MethodName)) ∈ tb := List.mem_of_getElem? (i := 13) rfl
set_option maxRecDepth 20000 in
theorem tb_14 : (Jvm.Cond.instanceMethod ({ cls := "EpochTree", name := "<init>", desc := "()V" } : Jvm.MethodName)) ∈ tb := List.mem_of_getElem? (i := 14) rfl
set_option maxRecDepth 20000 in
theorem tb_15 : (Jvm.Cond.code ({ cls := "EpochTree", name := "<init>", desc := "()V" } : Jvm.MethodName) prog_1_method_1_code (2 : Nat) (Option.none : Option Jvm.ClassFile.FieldType)) ∈ tb := List.mem_of_getElem? (i := 15) rfl
set_option maxRecDepth 20000 in
theorem tb_16 : (Jvm.Cond.methodLink "EpochTree" (3 : Nat) ({ cls := "java/lang/Object", name := "<init>", desc := "()V" } : Jvm.MethodName)) ∈ tb := List.mem_of_getElem? (i := 16) rfl
set_option maxRecDepth 20000 in
theorem tb_17 : (Jvm.Cond.instanceMethod ({ cls := "java/lang/Object", name := "<init>", desc := "()V" } : Jvm.MethodName)) ∈ tb := List.mem_of_getElem? (i := 17) rfl
set_option maxRecDepth 20000 in
theorem tb_18 : (Jvm.Cond.code ({ cls := "java/lang/Object", name := "<init>", desc := "()V" } : Jvm.MethodName) object_method_1_code (1 : Nat) (Option.none : Option Jvm.ClassFile.FieldType)) ∈ tb := List.mem_of_getElem? (i := 18) rfl
set_option maxRecDepth 20000 in
theorem tb_19 : (Jvm.Cond.classLink "EpochTree" (9 : Nat) "EpochTree$Server") ∈ tb := List.mem_of_getElem? (i := 19) rfl
set_option maxRecDepth 20000 in
theorem tb_20 : (Jvm.Cond.instantiable "EpochTree$Server" (11 : Nat)) ∈ tb := List.mem_of_getElem? (i := 20) rfl
set_option maxRecDepth 20000 in
theorem tb_21 : (Jvm.Cond.instanceMethod ({ cls := "EpochTree$Server", name := "<init>", desc := "(I)V" } : Jvm.MethodName)) ∈ tb := List.mem_of_getElem? (i := 21) rfl
set_option maxRecDepth 20000 in
theorem tb_22 : (Jvm.Cond.code ({ cls := "EpochTree$Server", name := "<init>", desc := "(I)V" } : Jvm.MethodName) prog_5_method_1_code (2 : Nat) (Option.none : Option Jvm.ClassFile.FieldType)) ∈ tb := List.mem_of_getElem? (i := 22) rfl
set_option maxRecDepth 20000 in
theorem tb_23 : (Jvm.Cond.methodLink "EpochTree$Server" (3 : Nat) ({ cls := "java/lang/Object", name := "<init>", desc := "()V" } : Jvm.MethodName)) ∈ tb := List.mem_of_getElem? (i := 23) rfl
set_option maxRecDepth 20000 in
theorem tb_24 : (Jvm.Cond.classLink "EpochTree$Server" (15 : Nat) "EpochTree$EntryList") ∈ tb := List.mem_of_getElem? (i := 24) rfl
set_option maxRecDepth 20000 in
theorem tb_25 : (Jvm.Cond.instantiable "EpochTree$EntryList" (6 : Nat)) ∈ tb := List.mem_of_getElem? (i := 25) rfl
set_option maxRecDepth 20000 in
theorem tb_26 : (Jvm.Cond.instanceMethod ({ cls := "EpochTree$EntryList", name := "<init>", desc := "()V" } : Jvm.MethodName)) ∈ tb := List.mem_of_getElem? (i := 26) rfl
set_option maxRecDepth 20000 in
theorem tb_27 : (Jvm.Cond.code ({ cls := "EpochTree$EntryList", name := "<init>", desc := "()V" } : Jvm.MethodName) prog_2_method_1_code (1 : Nat) (Option.none : Option Jvm.ClassFile.FieldType)) ∈ tb := List.mem_of_getElem? (i := 27) rfl
set_option maxRecDepth 20000 in
theorem tb_28 : (Jvm.Cond.methodLink "EpochTree$EntryList" (3 : Nat) ({ cls := "java/lang/Object", name := "<init>", desc := "()V" } : Jvm.MethodName)) ∈ tb := List.mem_of_getElem? (i := 28) rfl
set_option maxRecDepth 20000 in
theorem tb_29 : (Jvm.Cond.fieldLink "EpochTree$EntryList" (9 : Nat) "EpochTree$EntryList" "marks" "[I") ∈ tb := List.mem_of_getElem? (i := 29) rfl
set_option maxRecDepth 20000 in
theorem tb_30 : (Jvm.Cond.fieldLink "EpochTree$EntryList" (15 : Nat) "EpochTree$EntryList" "kinds" "[I") ∈ tb := List.mem_of_getElem? (i := 30) rfl
set_option maxRecDepth 20000 in
theorem tb_31 : (Jvm.Cond.fieldLink "EpochTree$EntryList" (18 : Nat) "EpochTree$EntryList" "paths" "[I") ∈ tb := List.mem_of_getElem? (i := 31) rfl
set_option maxRecDepth 20000 in
theorem tb_32 : (Jvm.Cond.fieldLink "EpochTree$EntryList" (21 : Nat) "EpochTree$EntryList" "as" "[I") ∈ tb := List.mem_of_getElem? (i := 32) rfl
set_option maxRecDepth 20000 in
theorem tb_33 : (Jvm.Cond.fieldLink "EpochTree$EntryList" (24 : Nat) "EpochTree$EntryList" "bs" "[I") ∈ tb := List.mem_of_getElem? (i := 33) rfl
set_option maxRecDepth 20000 in
theorem tb_34 : (Jvm.Cond.fieldLink "EpochTree$EntryList" (27 : Nat) "EpochTree$EntryList" "size" "I") ∈ tb := List.mem_of_getElem? (i := 34) rfl
set_option maxRecDepth 20000 in
theorem tb_35 : (Jvm.Cond.laysFinal "EpochTree$EntryList" "EpochTree$EntryList" "marks" "[I") ∈ tb := List.mem_of_getElem? (i := 35) rfl
set_option maxRecDepth 20000 in
theorem tb_36 : (Jvm.Cond.laysFinal "EpochTree$EntryList" "EpochTree$EntryList" "kinds" "[I") ∈ tb := List.mem_of_getElem? (i := 36) rfl
set_option maxRecDepth 20000 in
theorem tb_37 : (Jvm.Cond.laysFinal "EpochTree$EntryList" "EpochTree$EntryList" "paths" "[I") ∈ tb := List.mem_of_getElem? (i := 37) rfl
set_option maxRecDepth 20000 in
theorem tb_38 : (Jvm.Cond.laysFinal "EpochTree$EntryList" "EpochTree$EntryList" "as" "[I") ∈ tb := List.mem_of_getElem? (i := 38) rfl
set_option maxRecDepth 20000 in
theorem tb_39 : (Jvm.Cond.laysFinal "EpochTree$EntryList" "EpochTree$EntryList" "bs" "[I") ∈ tb := List.mem_of_getElem? (i := 39) rfl
set_option maxRecDepth 20000 in
theorem tb_40 : (Jvm.Cond.lays "EpochTree$EntryList" "EpochTree$EntryList" "size" "I") ∈ tb := List.mem_of_getElem? (i := 40) rfl
set_option maxRecDepth 20000 in
theorem tb_41 : (Jvm.Cond.arrayClass Jvm.ClassFile.FieldType.int) ∈ tb := List.mem_of_getElem? (i := 41) rfl
set_option maxRecDepth 20000 in
theorem tb_42 : (Jvm.Cond.classLink "EpochTree$Server" (29 : Nat) "EpochTree$Tree") ∈ tb := List.mem_of_getElem? (i := 42) rfl
set_option maxRecDepth 20000 in
theorem tb_43 : (Jvm.Cond.instantiable "EpochTree$Tree" (6 : Nat)) ∈ tb := List.mem_of_getElem? (i := 43) rfl
set_option maxRecDepth 20000 in
theorem tb_44 : (Jvm.Cond.instanceMethod ({ cls := "EpochTree$Tree", name := "<init>", desc := "()V" } : Jvm.MethodName)) ∈ tb := List.mem_of_getElem? (i := 44) rfl
set_option maxRecDepth 20000 in
theorem tb_45 : (Jvm.Cond.code ({ cls := "EpochTree$Tree", name := "<init>", desc := "()V" } : Jvm.MethodName) prog_7_method_1_code (1 : Nat) (Option.none : Option Jvm.ClassFile.FieldType)) ∈ tb := List.mem_of_getElem? (i := 45) rfl
set_option maxRecDepth 20000 in
theorem tb_46 : (Jvm.Cond.methodLink "EpochTree$Tree" (3 : Nat) ({ cls := "java/lang/Object", name := "<init>", desc := "()V" } : Jvm.MethodName)) ∈ tb := List.mem_of_getElem? (i := 46) rfl
set_option maxRecDepth 20000 in
theorem tb_47 : (Jvm.Cond.fieldLink "EpochTree$Tree" (9 : Nat) "EpochTree$Tree" "paths" "[I") ∈ tb := List.mem_of_getElem? (i := 47) rfl
set_option maxRecDepth 20000 in
theorem tb_48 : (Jvm.Cond.fieldLink "EpochTree$Tree" (15 : Nat) "EpochTree$Tree" "data" "[I") ∈ tb := List.mem_of_getElem? (i := 48) rfl
set_option maxRecDepth 20000 in
theorem tb_49 : (Jvm.Cond.fieldLink "EpochTree$Tree" (18 : Nat) "EpochTree$Tree" "versions" "[I") ∈ tb := List.mem_of_getElem? (i := 49) rfl
set_option maxRecDepth 20000 in
theorem tb_50 : (Jvm.Cond.fieldLink "EpochTree$Tree" (21 : Nat) "EpochTree$Tree" "owners" "[I") ∈ tb := List.mem_of_getElem? (i := 50) rfl
set_option maxRecDepth 20000 in
theorem tb_51 : (Jvm.Cond.fieldLink "EpochTree$Tree" (24 : Nat) "EpochTree$Tree" "size" "I") ∈ tb := List.mem_of_getElem? (i := 51) rfl
set_option maxRecDepth 20000 in
theorem tb_52 : (Jvm.Cond.fieldLink "EpochTree$Tree" (28 : Nat) "EpochTree$Tree" "openBits" "I") ∈ tb := List.mem_of_getElem? (i := 52) rfl
set_option maxRecDepth 20000 in
theorem tb_53 : (Jvm.Cond.laysFinal "EpochTree$Tree" "EpochTree$Tree" "paths" "[I") ∈ tb := List.mem_of_getElem? (i := 53) rfl
set_option maxRecDepth 20000 in
theorem tb_54 : (Jvm.Cond.laysFinal "EpochTree$Tree" "EpochTree$Tree" "data" "[I") ∈ tb := List.mem_of_getElem? (i := 54) rfl
set_option maxRecDepth 20000 in
theorem tb_55 : (Jvm.Cond.laysFinal "EpochTree$Tree" "EpochTree$Tree" "versions" "[I") ∈ tb := List.mem_of_getElem? (i := 55) rfl
set_option maxRecDepth 20000 in
theorem tb_56 : (Jvm.Cond.laysFinal "EpochTree$Tree" "EpochTree$Tree" "owners" "[I") ∈ tb := List.mem_of_getElem? (i := 56) rfl
set_option maxRecDepth 20000 in
theorem tb_57 : (Jvm.Cond.lays "EpochTree$Tree" "EpochTree$Tree" "size" "I") ∈ tb := List.mem_of_getElem? (i := 57) rfl
set_option maxRecDepth 20000 in
theorem tb_58 : (Jvm.Cond.lays "EpochTree$Tree" "EpochTree$Tree" "openBits" "I") ∈ tb := List.mem_of_getElem? (i := 58) rfl
set_option maxRecDepth 20000 in
theorem tb_59 : (Jvm.Cond.classLink "EpochTree$Server" (36 : Nat) "EpochTree$Link") ∈ tb := List.mem_of_getElem? (i := 59) rfl
set_option maxRecDepth 20000 in
theorem tb_60 : (Jvm.Cond.instantiable "EpochTree$Link" (5 : Nat)) ∈ tb := List.mem_of_getElem? (i := 60) rfl
set_option maxRecDepth 20000 in
theorem tb_61 : (Jvm.Cond.instanceMethod ({ cls := "EpochTree$Link", name := "<init>", desc := "()V" } : Jvm.MethodName)) ∈ tb := List.mem_of_getElem? (i := 61) rfl
set_option maxRecDepth 20000 in
theorem tb_62 : (Jvm.Cond.code ({ cls := "EpochTree$Link", name := "<init>", desc := "()V" } : Jvm.MethodName) prog_3_method_1_code (1 : Nat) (Option.none : Option Jvm.ClassFile.FieldType)) ∈ tb := List.mem_of_getElem? (i := 62) rfl
set_option maxRecDepth 20000 in
theorem tb_63 : (Jvm.Cond.methodLink "EpochTree$Link" (3 : Nat) ({ cls := "java/lang/Object", name := "<init>", desc := "()V" } : Jvm.MethodName)) ∈ tb := List.mem_of_getElem? (i := 63) rfl
set_option maxRecDepth 20000 in
theorem tb_64 : (Jvm.Cond.classLink "EpochTree$Link" (9 : Nat) "EpochTree$Row") ∈ tb := List.mem_of_getElem? (i := 64) rfl
set_option maxRecDepth 20000 in
theorem tb_65 : (Jvm.Cond.instantiable "EpochTree$Row" (4 : Nat)) ∈ tb := List.mem_of_getElem? (i := 65) rfl
set_option maxRecDepth 20000 in
theorem tb_66 : (Jvm.Cond.instanceMethod ({ cls := "EpochTree$Row", name := "<init>", desc := "(I)V" } : Jvm.MethodName)) ∈ tb := List.mem_of_getElem? (i := 66) rfl
set_option maxRecDepth 20000 in
theorem tb_67 : (Jvm.Cond.code ({ cls := "EpochTree$Row", name := "<init>", desc := "(I)V" } : Jvm.MethodName) prog_4_method_1_code (2 : Nat) (Option.none : Option Jvm.ClassFile.FieldType)) ∈ tb := List.mem_of_getElem? (i := 67) rfl
set_option maxRecDepth 20000 in
theorem tb_68 : (Jvm.Cond.methodLink "EpochTree$Row" (1 : Nat) ({ cls := "java/lang/Object", name := "<init>", desc := "()V" } : Jvm.MethodName)) ∈ tb := List.mem_of_getElem? (i := 68) rfl
set_option maxRecDepth 20000 in
theorem tb_69 : (Jvm.Cond.fieldLink "EpochTree$Row" (7 : Nat) "EpochTree$Row" "kinds" "[I") ∈ tb := List.mem_of_getElem? (i := 69) rfl
set_option maxRecDepth 20000 in
theorem tb_70 : (Jvm.Cond.fieldLink "EpochTree$Row" (13 : Nat) "EpochTree$Row" "values" "[I") ∈ tb := List.mem_of_getElem? (i := 70) rfl
set_option maxRecDepth 20000 in
theorem tb_71 : (Jvm.Cond.fieldLink "EpochTree$Row" (16 : Nat) "EpochTree$Row" "first" "I") ∈ tb := List.mem_of_getElem? (i := 71) rfl
set_option maxRecDepth 20000 in
theorem tb_72 : (Jvm.Cond.fieldLink "EpochTree$Row" (20 : Nat) "EpochTree$Row" "end" "I") ∈ tb := List.mem_of_getElem? (i := 72) rfl
set_option maxRecDepth 20000 in
theorem tb_73 : (Jvm.Cond.laysFinal "EpochTree$Row" "EpochTree$Row" "kinds" "[I") ∈ tb := List.mem_of_getElem? (i := 73) rfl
set_option maxRecDepth 20000 in
theorem tb_74 : (Jvm.Cond.laysFinal "EpochTree$Row" "EpochTree$Row" "values" "[I") ∈ tb := List.mem_of_getElem? (i := 74) rfl
set_option maxRecDepth 20000 in
theorem tb_75 : (Jvm.Cond.lays "EpochTree$Row" "EpochTree$Row" "first" "I") ∈ tb := List.mem_of_getElem? (i := 75) rfl
set_option maxRecDepth 20000 in
theorem tb_76 : (Jvm.Cond.lays "EpochTree$Row" "EpochTree$Row" "end" "I") ∈ tb := List.mem_of_getElem? (i := 76) rfl
set_option maxRecDepth 20000 in
theorem tb_77 : (Jvm.Cond.fieldLink "EpochTree$Link" (14 : Nat) "EpochTree$Link" "up" "LEpochTree$Row;") ∈ tb := List.mem_of_getElem? (i := 77) rfl
set_option maxRecDepth 20000 in
theorem tb_78 : (Jvm.Cond.fieldLink "EpochTree$Link" (20 : Nat) "EpochTree$Link" "down" "LEpochTree$Row;") ∈ tb := List.mem_of_getElem? (i := 78) rfl
set_option maxRecDepth 20000 in
theorem tb_79 : (Jvm.Cond.fieldLink "EpochTree$Link" (26 : Nat) "EpochTree$Link" "tied" "Z") ∈ tb := List.mem_of_getElem? (i := 79) rfl
set_option maxRecDepth 20000 in
theorem tb_80 : (Jvm.Cond.fieldLink "EpochTree$Link" (30 : Nat) "EpochTree$Link" "acked" "Z") ∈ tb := List.mem_of_getElem? (i := 80) rfl
set_option maxRecDepth 20000 in
theorem tb_81 : (Jvm.Cond.fieldLink "EpochTree$Link" (33 : Nat) "EpochTree$Link" "waitsForList" "Z") ∈ tb := List.mem_of_getElem? (i := 81) rfl
set_option maxRecDepth 20000 in
theorem tb_82 : (Jvm.Cond.laysFinal "EpochTree$Link" "EpochTree$Link" "up" "LEpochTree$Row;") ∈ tb := List.mem_of_getElem? (i := 82) rfl
set_option maxRecDepth 20000 in
theorem tb_83 : (Jvm.Cond.laysFinal "EpochTree$Link" "EpochTree$Link" "down" "LEpochTree$Row;") ∈ tb := List.mem_of_getElem? (i := 83) rfl
set_option maxRecDepth 20000 in
theorem tb_84 : (Jvm.Cond.lays "EpochTree$Link" "EpochTree$Link" "tied" "Z") ∈ tb := List.mem_of_getElem? (i := 84) rfl
set_option maxRecDepth 20000 in
theorem tb_85 : (Jvm.Cond.lays "EpochTree$Link" "EpochTree$Link" "acked" "Z") ∈ tb := List.mem_of_getElem? (i := 85) rfl
set_option maxRecDepth 20000 in
theorem tb_86 : (Jvm.Cond.lays "EpochTree$Link" "EpochTree$Link" "waitsForList" "Z") ∈ tb := List.mem_of_getElem? (i := 86) rfl
set_option maxRecDepth 20000 in
theorem tb_87 : (Jvm.Cond.classLink "EpochTree$Server" (43 : Nat) "EpochTree$Term") ∈ tb := List.mem_of_getElem? (i := 87) rfl
set_option maxRecDepth 20000 in
theorem tb_88 : (Jvm.Cond.instantiable "EpochTree$Term" (4 : Nat)) ∈ tb := List.mem_of_getElem? (i := 88) rfl
set_option maxRecDepth 20000 in
theorem tb_89 : (Jvm.Cond.instanceMethod ({ cls := "EpochTree$Term", name := "<init>", desc := "()V" } : Jvm.MethodName)) ∈ tb := List.mem_of_getElem? (i := 89) rfl
set_option maxRecDepth 20000 in
theorem tb_90 : (Jvm.Cond.code ({ cls := "EpochTree$Term", name := "<init>", desc := "()V" } : Jvm.MethodName) prog_6_method_1_code (1 : Nat) (Option.none : Option Jvm.ClassFile.FieldType)) ∈ tb := List.mem_of_getElem? (i := 90) rfl
set_option maxRecDepth 20000 in
theorem tb_91 : (Jvm.Cond.methodLink "EpochTree$Term" (3 : Nat) ({ cls := "java/lang/Object", name := "<init>", desc := "()V" } : Jvm.MethodName)) ∈ tb := List.mem_of_getElem? (i := 91) rfl
set_option maxRecDepth 20000 in
theorem tb_92 : (Jvm.Cond.fieldLink "EpochTree$Term" (15 : Nat) "EpochTree$Term" "epochChosen" "Z") ∈ tb := List.mem_of_getElem? (i := 92) rfl
set_option maxRecDepth 20000 in
theorem tb_93 : (Jvm.Cond.fieldLink "EpochTree$Term" (19 : Nat) "EpochTree$Term" "listChosen" "Z") ∈ tb := List.mem_of_getElem? (i := 93) rfl
set_option maxRecDepth 20000 in
theorem tb_94 : (Jvm.Cond.fieldLink "EpochTree$Term" (22 : Nat) "EpochTree$Term" "made" "I") ∈ tb := List.mem_of_getElem? (i := 94) rfl
set_option maxRecDepth 20000 in
theorem tb_95 : (Jvm.Cond.fieldLink "EpochTree$Term" (9 : Nat) "EpochTree$Term" "ages" "[I") ∈ tb := List.mem_of_getElem? (i := 95) rfl
set_option maxRecDepth 20000 in
theorem tb_96 : (Jvm.Cond.lays "EpochTree$Term" "EpochTree$Term" "epochChosen" "Z") ∈ tb := List.mem_of_getElem? (i := 96) rfl
set_option maxRecDepth 20000 in
theorem tb_97 : (Jvm.Cond.lays "EpochTree$Term" "EpochTree$Term" "listChosen" "Z") ∈ tb := List.mem_of_getElem? (i := 97) rfl
set_option maxRecDepth 20000 in
theorem tb_98 : (Jvm.Cond.lays "EpochTree$Term" "EpochTree$Term" "made" "I") ∈ tb := List.mem_of_getElem? (i := 98) rfl
set_option maxRecDepth 20000 in
theorem tb_99 : (Jvm.Cond.laysFinal "EpochTree$Term" "EpochTree$Term" "ages" "[I") ∈ tb := List.mem_of_getElem? (i := 99) rfl
set_option maxRecDepth 20000 in
theorem tb_100 : (Jvm.Cond.fieldLink "EpochTree$Server" (9 : Nat) "EpochTree$Server" "number" "I") ∈ tb := List.mem_of_getElem? (i := 100) rfl
set_option maxRecDepth 20000 in
theorem tb_101 : (Jvm.Cond.fieldLink "EpochTree$Server" (18 : Nat) "EpochTree$Server" "list" "LEpochTree$EntryList;") ∈ tb := List.mem_of_getElem? (i := 101) rfl
set_option maxRecDepth 20000 in
theorem tb_102 : (Jvm.Cond.fieldLink "EpochTree$Server" (22 : Nat) "EpochTree$Server" "role" "I") ∈ tb := List.mem_of_getElem? (i := 102) rfl
set_option maxRecDepth 20000 in
theorem tb_103 : (Jvm.Cond.fieldLink "EpochTree$Server" (59 : Nat) "EpochTree$Server" "applied" "I") ∈ tb := List.mem_of_getElem? (i := 103) rfl
set_option maxRecDepth 20000 in
theorem tb_104 : (Jvm.Cond.fieldLink "EpochTree$Server" (25 : Nat) "EpochTree$Server" "results" "[I") ∈ tb := List.mem_of_getElem? (i := 104) rfl
set_option maxRecDepth 20000 in
theorem tb_105 : (Jvm.Cond.fieldLink "EpochTree$Server" (32 : Nat) "EpochTree$Server" "tree" "LEpochTree$Tree;") ∈ tb := List.mem_of_getElem? (i := 105) rfl
set_option maxRecDepth 20000 in
theorem tb_106 : (Jvm.Cond.fieldLink "EpochTree$Server" (39 : Nat) "EpochTree$Server" "link" "LEpochTree$Link;") ∈ tb := List.mem_of_getElem? (i := 106) rfl
set_option maxRecDepth 20000 in
theorem tb_107 : (Jvm.Cond.fieldLink "EpochTree$Server" (46 : Nat) "EpochTree$Server" "term" "LEpochTree$Term;") ∈ tb := List.mem_of_getElem? (i := 107) rfl
set_option maxRecDepth 20000 in
theorem tb_108 : (Jvm.Cond.laysFinal "EpochTree$Server" "EpochTree$Server" "number" "I") ∈ tb := List.mem_of_getElem? (i := 108) rfl
set_option maxRecDepth 20000 in
theorem tb_109 : (Jvm.Cond.lays "EpochTree$Server" "EpochTree$Server" "promise" "I") ∈ tb := List.mem_of_getElem? (i := 109) rfl
set_option maxRecDepth 20000 in
theorem tb_110 : (Jvm.Cond.lays "EpochTree$Server" "EpochTree$Server" "epoch" "I") ∈ tb := List.mem_of_getElem? (i := 110) rfl
set_option maxRecDepth 20000 in
theorem tb_111 : (Jvm.Cond.laysFinal "EpochTree$Server" "EpochTree$Server" "list" "LEpochTree$EntryList;") ∈ tb := List.mem_of_getElem? (i := 111) rfl
set_option maxRecDepth 20000 in
theorem tb_112 : (Jvm.Cond.lays "EpochTree$Server" "EpochTree$Server" "role" "I") ∈ tb := List.mem_of_getElem? (i := 112) rfl
set_option maxRecDepth 20000 in
theorem tb_113 : (Jvm.Cond.lays "EpochTree$Server" "EpochTree$Server" "leader" "I") ∈ tb := List.mem_of_getElem? (i := 113) rfl
set_option maxRecDepth 20000 in
theorem tb_114 : (Jvm.Cond.lays "EpochTree$Server" "EpochTree$Server" "applied" "I") ∈ tb := List.mem_of_getElem? (i := 114) rfl
set_option maxRecDepth 20000 in
theorem tb_115 : (Jvm.Cond.laysFinal "EpochTree$Server" "EpochTree$Server" "results" "[I") ∈ tb := List.mem_of_getElem? (i := 115) rfl
set_option maxRecDepth 20000 in
theorem tb_116 : (Jvm.Cond.laysFinal "EpochTree$Server" "EpochTree$Server" "tree" "LEpochTree$Tree;") ∈ tb := List.mem_of_getElem? (i := 116) rfl
set_option maxRecDepth 20000 in
theorem tb_117 : (Jvm.Cond.laysFinal "EpochTree$Server" "EpochTree$Server" "link" "LEpochTree$Link;") ∈ tb := List.mem_of_getElem? (i := 117) rfl
set_option maxRecDepth 20000 in
theorem tb_118 : (Jvm.Cond.laysFinal "EpochTree$Server" "EpochTree$Server" "term" "LEpochTree$Term;") ∈ tb := List.mem_of_getElem? (i := 118) rfl
set_option maxRecDepth 20000 in
theorem tb_119 : (Jvm.Cond.fieldLink "EpochTree" (11 : Nat) "EpochTree" "servers" "[LEpochTree$Server;") ∈ tb := List.mem_of_getElem? (i := 119) rfl
set_option maxRecDepth 20000 in
theorem tb_120 : (Jvm.Cond.laysFinal "EpochTree" "EpochTree" "servers" "[LEpochTree$Server;") ∈ tb := List.mem_of_getElem? (i := 120) rfl
set_option maxRecDepth 20000 in
theorem tb_121 : (Jvm.Cond.methodLink "EpochTreeLaw" (13 : Nat) ({ cls := "EpochTree", name := "lead", desc := "(I)Z" } : Jvm.MethodName)) ∈ tb := List.mem_of_getElem? (i := 121) rfl
set_option maxRecDepth 20000 in
theorem tb_122 : (Jvm.Cond.instanceMethod ({ cls := "EpochTree", name := "lead", desc := "(I)Z" } : Jvm.MethodName)) ∈ tb := List.mem_of_getElem? (i := 122) rfl
set_option maxRecDepth 20000 in
theorem tb_123 : (Jvm.Cond.selects "EpochTree" ({ cls := "EpochTree", name := "lead", desc := "(I)Z" } : Jvm.MethodName) ({ cls := "EpochTree", name := "lead", desc := "(I)Z" } : Jvm.MethodName)) ∈ tb := List.mem_of_getElem? (i := 123) rfl
set_option maxRecDepth 20000 in
theorem tb_124 : (Jvm.Cond.code ({ cls := "EpochTree", name := "lead", desc := "(I)Z" } : Jvm.MethodName) prog_1_method_2_code (2 : Nat) (Option.some Jvm.ClassFile.FieldType.boolean)) ∈ tb := List.mem_of_getElem? (i := 124) rfl
set_option maxRecDepth 20000 in
theorem tb_125 : (Jvm.Cond.methodLink "EpochTree" (18 : Nat) ({ cls := "EpochTree", name := "hasRole", desc := "(II)Z" } : Jvm.MethodName)) ∈ tb := List.mem_of_getElem? (i := 125) rfl
set_option maxRecDepth 20000 in
theorem tb_126 : (Jvm.Cond.instanceMethod ({ cls := "EpochTree", name := "hasRole", desc := "(II)Z" } : Jvm.MethodName)) ∈ tb := List.mem_of_getElem? (i := 126) rfl
set_option maxRecDepth 20000 in
theorem tb_127 : (Jvm.Cond.code ({ cls := "EpochTree", name := "hasRole", desc := "(II)Z" } : Jvm.MethodName) prog_1_method_26_code (3 : Nat) (Option.some Jvm.ClassFile.FieldType.boolean)) ∈ tb := List.mem_of_getElem? (i := 127) rfl
set_option maxRecDepth 20000 in
theorem tb_128 : (Jvm.Cond.methodLink "EpochTree" (64 : Nat) ({ cls := "EpochTree", name := "isServer", desc := "(I)Z" } : Jvm.MethodName)) ∈ tb := List.mem_of_getElem? (i := 128) rfl
set_option maxRecDepth 20000 in
theorem tb_129 : (Jvm.Cond.static ({ cls := "EpochTree", name := "isServer", desc := "(I)Z" } : Jvm.MethodName)) ∈ tb := List.mem_of_getElem? (i := 129) rfl
set_option maxRecDepth 20000 in
theorem tb_130 : (Jvm.Cond.code ({ cls := "EpochTree", name := "isServer", desc := "(I)Z" } : Jvm.MethodName) prog_1_method_22_code (1 : Nat) (Option.some Jvm.ClassFile.FieldType.boolean)) ∈ tb := List.mem_of_getElem? (i := 130) rfl
set_option maxRecDepth 20000 in
theorem tb_131 : (Jvm.Cond.instanceMethod ({ cls := "EpochTree$Term", name := "begin", desc := "()V" } : Jvm.MethodName)) ∈ tb := List.mem_of_getElem? (i := 131) rfl
set_option maxRecDepth 20000 in
theorem tb_132 : (Jvm.Cond.code ({ cls := "EpochTree$Term", name := "begin", desc := "()V" } : Jvm.MethodName) prog_6_method_2_code (1 : Nat) (Option.none : Option Jvm.ClassFile.FieldType)) ∈ tb := List.mem_of_getElem? (i := 132) rfl
set_option maxRecDepth 20000 in
theorem tb_133 : (Jvm.Cond.methodLink "EpochTreeLaw" (18 : Nat) ({ cls := "EpochTree", name := "follow", desc := "(II)Z" } : Jvm.MethodName)) ∈ tb := List.mem_of_getElem? (i := 133) rfl
set_option maxRecDepth 20000 in
theorem tb_134 : (Jvm.Cond.instanceMethod ({ cls := "EpochTree", name := "follow", desc := "(II)Z" } : Jvm.MethodName)) ∈ tb := List.mem_of_getElem? (i := 134) rfl
set_option maxRecDepth 20000 in
theorem tb_135 : (Jvm.Cond.selects "EpochTree" ({ cls := "EpochTree", name := "follow", desc := "(II)Z" } : Jvm.MethodName) ({ cls := "EpochTree", name := "follow", desc := "(II)Z" } : Jvm.MethodName)) ∈ tb := List.mem_of_getElem? (i := 135) rfl
set_option maxRecDepth 20000 in
theorem tb_136 : (Jvm.Cond.code ({ cls := "EpochTree", name := "follow", desc := "(II)Z" } : Jvm.MethodName) prog_1_method_3_code (4 : Nat) (Option.some Jvm.ClassFile.FieldType.boolean)) ∈ tb := List.mem_of_getElem? (i := 136) rfl
set_option maxRecDepth 20000 in
theorem tb_137 : (Jvm.Cond.methodLink "EpochTree" (35 : Nat) ({ cls := "EpochTree", name := "leads", desc := "(I)Z" } : Jvm.MethodName)) ∈ tb := List.mem_of_getElem? (i := 137) rfl
set_option maxRecDepth 20000 in
theorem tb_138 : (Jvm.Cond.instanceMethod ({ cls := "EpochTree", name := "leads", desc := "(I)Z" } : Jvm.MethodName)) ∈ tb := List.mem_of_getElem? (i := 138) rfl
set_option maxRecDepth 20000 in
theorem tb_139 : (Jvm.Cond.code ({ cls := "EpochTree", name := "leads", desc := "(I)Z" } : Jvm.MethodName) prog_1_method_27_code (2 : Nat) (Option.some Jvm.ClassFile.FieldType.boolean)) ∈ tb := List.mem_of_getElem? (i := 139) rfl
set_option maxRecDepth 20000 in
theorem tb_140 : (Jvm.Cond.instanceMethod ({ cls := "EpochTree$Row", name := "send", desc := "(II)V" } : Jvm.MethodName)) ∈ tb := List.mem_of_getElem? (i := 140) rfl
set_option maxRecDepth 20000 in
theorem tb_141 : (Jvm.Cond.code ({ cls := "EpochTree$Row", name := "send", desc := "(II)V" } : Jvm.MethodName) prog_4_method_4_code (3 : Nat) (Option.none : Option Jvm.ClassFile.FieldType)) ∈ tb := List.mem_of_getElem? (i := 141) rfl
set_option maxRecDepth 20000 in
theorem tb_142 : (Jvm.Cond.methodLink "EpochTreeLaw" (23 : Nat) ({ cls := "EpochTree", name := "quit", desc := "(I)Z" } : Jvm.MethodName)) ∈ tb := List.mem_of_getElem? (i := 142) rfl
set_option maxRecDepth 20000 in
theorem tb_143 : (Jvm.Cond.instanceMethod ({ cls := "EpochTree", name := "quit", desc := "(I)Z" } : Jvm.MethodName)) ∈ tb := List.mem_of_getElem? (i := 143) rfl
set_option maxRecDepth 20000 in
theorem tb_144 : (Jvm.Cond.selects "EpochTree" ({ cls := "EpochTree", name := "quit", desc := "(I)Z" } : Jvm.MethodName) ({ cls := "EpochTree", name := "quit", desc := "(I)Z" } : Jvm.MethodName)) ∈ tb := List.mem_of_getElem? (i := 144) rfl
set_option maxRecDepth 20000 in
theorem tb_145 : (Jvm.Cond.code ({ cls := "EpochTree", name := "quit", desc := "(I)Z" } : Jvm.MethodName) prog_1_method_4_code (2 : Nat) (Option.some Jvm.ClassFile.FieldType.boolean)) ∈ tb := List.mem_of_getElem? (i := 145) rfl
set_option maxRecDepth 20000 in
theorem tb_146 : (Jvm.Cond.methodLink "EpochTree" (61 : Nat) ({ cls := "EpochTree", name := "stopTo", desc := "(II)V" } : Jvm.MethodName)) ∈ tb := List.mem_of_getElem? (i := 146) rfl
set_option maxRecDepth 20000 in
theorem tb_147 : (Jvm.Cond.instanceMethod ({ cls := "EpochTree", name := "stopTo", desc := "(II)V" } : Jvm.MethodName)) ∈ tb := List.mem_of_getElem? (i := 147) rfl
set_option maxRecDepth 20000 in
theorem tb_148 : (Jvm.Cond.code ({ cls := "EpochTree", name := "stopTo", desc := "(II)V" } : Jvm.MethodName) prog_1_method_29_code (5 : Nat) (Option.none : Option Jvm.ClassFile.FieldType)) ∈ tb := List.mem_of_getElem? (i := 148) rfl
set_option maxRecDepth 20000 in
theorem tb_149 : (Jvm.Cond.methodLink "EpochTree" (181 : Nat) ({ cls := "EpochTree", name := "isFollowerOf", desc := "(LEpochTree$Server;LEpochTree$Server;)Z" } : Jvm.MethodName)) ∈ tb := List.mem_of_getElem? (i := 149) rfl
set_option maxRecDepth 20000 in
theorem tb_150 : (Jvm.Cond.static ({ cls := "EpochTree", name := "isFollowerOf", desc := "(LEpochTree$Server;LEpochTree$Server;)Z" } : Jvm.MethodName)) ∈ tb := List.mem_of_getElem? (i := 150) rfl
set_option maxRecDepth 20000 in
theorem tb_151 : (Jvm.Cond.code ({ cls := "EpochTree", name := "isFollowerOf", desc := "(LEpochTree$Server;LEpochTree$Server;)Z" } : Jvm.MethodName) prog_1_method_28_code (2 : Nat) (Option.some Jvm.ClassFile.FieldType.boolean)) ∈ tb := List.mem_of_getElem? (i := 151) rfl
set_option maxRecDepth 20000 in
theorem tb_152 : (Jvm.Cond.instanceMethod ({ cls := "EpochTree$Link", name := "clear", desc := "()V" } : Jvm.MethodName)) ∈ tb := List.mem_of_getElem? (i := 152) rfl
set_option maxRecDepth 20000 in
theorem tb_153 : (Jvm.Cond.code ({ cls := "EpochTree$Link", name := "clear", desc := "()V" } : Jvm.MethodName) prog_3_method_2_code (1 : Nat) (Option.none : Option Jvm.ClassFile.FieldType)) ∈ tb := List.mem_of_getElem? (i := 153) rfl
set_option maxRecDepth 20000 in
theorem tb_154 : (Jvm.Cond.instanceMethod ({ cls := "EpochTree$Row", name := "clear", desc := "()V" } : Jvm.MethodName)) ∈ tb := List.mem_of_getElem? (i := 154) rfl
set_option maxRecDepth 20000 in
theorem tb_155 : (Jvm.Cond.code ({ cls := "EpochTree$Row", name := "clear", desc := "()V" } : Jvm.MethodName) prog_4_method_2_code (1 : Nat) (Option.none : Option Jvm.ClassFile.FieldType)) ∈ tb := List.mem_of_getElem? (i := 155) rfl
set_option maxRecDepth 20000 in
theorem tb_156 : (Jvm.Cond.methodLink "EpochTreeLaw" (27 : Nat) ({ cls := "EpochTree", name := "crash", desc := "(I)Z" } : Jvm.MethodName)) ∈ tb := List.mem_of_getElem? (i := 156) rfl
set_option maxRecDepth 20000 in
theorem tb_157 : (Jvm.Cond.instanceMethod ({ cls := "EpochTree", name := "crash", desc := "(I)Z" } : Jvm.MethodName)) ∈ tb := List.mem_of_getElem? (i := 157) rfl
set_option maxRecDepth 20000 in
theorem tb_158 : (Jvm.Cond.selects "EpochTree" ({ cls := "EpochTree", name := "crash", desc := "(I)Z" } : Jvm.MethodName) ({ cls := "EpochTree", name := "crash", desc := "(I)Z" } : Jvm.MethodName)) ∈ tb := List.mem_of_getElem? (i := 158) rfl
set_option maxRecDepth 20000 in
theorem tb_159 : (Jvm.Cond.code ({ cls := "EpochTree", name := "crash", desc := "(I)Z" } : Jvm.MethodName) prog_1_method_5_code (2 : Nat) (Option.some Jvm.ClassFile.FieldType.boolean)) ∈ tb := List.mem_of_getElem? (i := 159) rfl
set_option maxRecDepth 20000 in
theorem tb_160 : (Jvm.Cond.instanceMethod ({ cls := "EpochTree$Server", name := "forgetApplied", desc := "()V" } : Jvm.MethodName)) ∈ tb := List.mem_of_getElem? (i := 160) rfl
set_option maxRecDepth 20000 in
theorem tb_161 : (Jvm.Cond.code ({ cls := "EpochTree$Server", name := "forgetApplied", desc := "()V" } : Jvm.MethodName) prog_5_method_3_code (1 : Nat) (Option.none : Option Jvm.ClassFile.FieldType)) ∈ tb := List.mem_of_getElem? (i := 161) rfl
set_option maxRecDepth 20000 in
theorem tb_162 : (Jvm.Cond.instanceMethod ({ cls := "EpochTree$Tree", name := "clear", desc := "()V" } : Jvm.MethodName)) ∈ tb := List.mem_of_getElem? (i := 162) rfl
set_option maxRecDepth 20000 in
theorem tb_163 : (Jvm.Cond.code ({ cls := "EpochTree$Tree", name := "clear", desc := "()V" } : Jvm.MethodName) prog_7_method_2_code (1 : Nat) (Option.none : Option Jvm.ClassFile.FieldType)) ∈ tb := List.mem_of_getElem? (i := 163) rfl
set_option maxRecDepth 20000 in
theorem tb_164 : (Jvm.Cond.methodLink "EpochTreeLaw" (31 : Nat) ({ cls := "EpochTree", name := "restart", desc := "(I)Z" } : Jvm.MethodName)) ∈ tb := List.mem_of_getElem? (i := 164) rfl
set_option maxRecDepth 20000 in
theorem tb_165 : (Jvm.Cond.instanceMethod ({ cls := "EpochTree", name := "restart", desc := "(I)Z" } : Jvm.MethodName)) ∈ tb := List.mem_of_getElem? (i := 165) rfl
set_option maxRecDepth 20000 in
theorem tb_166 : (Jvm.Cond.selects "EpochTree" ({ cls := "EpochTree", name := "restart", desc := "(I)Z" } : Jvm.MethodName) ({ cls := "EpochTree", name := "restart", desc := "(I)Z" } : Jvm.MethodName)) ∈ tb := List.mem_of_getElem? (i := 166) rfl
set_option maxRecDepth 20000 in
theorem tb_167 : (Jvm.Cond.code ({ cls := "EpochTree", name := "restart", desc := "(I)Z" } : Jvm.MethodName) prog_1_method_6_code (2 : Nat) (Option.some Jvm.ClassFile.FieldType.boolean)) ∈ tb := List.mem_of_getElem? (i := 167) rfl
set_option maxRecDepth 20000 in
theorem tb_168 : (Jvm.Cond.methodLink "EpochTreeLaw" (35 : Nat) ({ cls := "EpochTree", name := "up", desc := "(I)I" } : Jvm.MethodName)) ∈ tb := List.mem_of_getElem? (i := 168) rfl
set_option maxRecDepth 20000 in
theorem tb_169 : (Jvm.Cond.instanceMethod ({ cls := "EpochTree", name := "up", desc := "(I)I" } : Jvm.MethodName)) ∈ tb := List.mem_of_getElem? (i := 169) rfl
set_option maxRecDepth 20000 in
theorem tb_170 : (Jvm.Cond.selects "EpochTree" ({ cls := "EpochTree", name := "up", desc := "(I)I" } : Jvm.MethodName) ({ cls := "EpochTree", name := "up", desc := "(I)I" } : Jvm.MethodName)) ∈ tb := List.mem_of_getElem? (i := 170) rfl
set_option maxRecDepth 20000 in
theorem tb_171 : (Jvm.Cond.code ({ cls := "EpochTree", name := "up", desc := "(I)I" } : Jvm.MethodName) prog_1_method_7_code (7 : Nat) (Option.some Jvm.ClassFile.FieldType.int)) ∈ tb := List.mem_of_getElem? (i := 171) rfl
set_option maxRecDepth 20000 in
theorem tb_172 : (Jvm.Cond.instanceMethod ({ cls := "EpochTree$Row", name := "count", desc := "()I" } : Jvm.MethodName)) ∈ tb := List.mem_of_getElem? (i := 172) rfl
set_option maxRecDepth 20000 in
theorem tb_173 : (Jvm.Cond.code ({ cls := "EpochTree$Row", name := "count", desc := "()I" } : Jvm.MethodName) prog_4_method_3_code (1 : Nat) (Option.some Jvm.ClassFile.FieldType.int)) ∈ tb := List.mem_of_getElem? (i := 173) rfl
set_option maxRecDepth 20000 in
theorem tb_174 : (Jvm.Cond.instanceMethod ({ cls := "EpochTree$Row", name := "firstKind", desc := "()I" } : Jvm.MethodName)) ∈ tb := List.mem_of_getElem? (i := 174) rfl
set_option maxRecDepth 20000 in
theorem tb_175 : (Jvm.Cond.code ({ cls := "EpochTree$Row", name := "firstKind", desc := "()I" } : Jvm.MethodName) prog_4_method_5_code (1 : Nat) (Option.some Jvm.ClassFile.FieldType.int)) ∈ tb := List.mem_of_getElem? (i := 175) rfl
set_option maxRecDepth 20000 in
theorem tb_176 : (Jvm.Cond.instanceMethod ({ cls := "EpochTree$Row", name := "firstValue", desc := "()I" } : Jvm.MethodName)) ∈ tb := List.mem_of_getElem? (i := 176) rfl
set_option maxRecDepth 20000 in
theorem tb_177 : (Jvm.Cond.code ({ cls := "EpochTree$Row", name := "firstValue", desc := "()I" } : Jvm.MethodName) prog_4_method_6_code (1 : Nat) (Option.some Jvm.ClassFile.FieldType.int)) ∈ tb := List.mem_of_getElem? (i := 177) rfl
set_option maxRecDepth 20000 in
theorem tb_178 : (Jvm.Cond.instanceMethod ({ cls := "EpochTree$Row", name := "dropFirst", desc := "()V" } : Jvm.MethodName)) ∈ tb := List.mem_of_getElem? (i := 178) rfl
set_option maxRecDepth 20000 in
theorem tb_179 : (Jvm.Cond.code ({ cls := "EpochTree$Row", name := "dropFirst", desc := "()V" } : Jvm.MethodName) prog_4_method_7_code (1 : Nat) (Option.none : Option Jvm.ClassFile.FieldType)) ∈ tb := List.mem_of_getElem? (i := 179) rfl
set_option maxRecDepth 20000 in
theorem tb_180 : (Jvm.Cond.methodLink "EpochTree" (83 : Nat) ({ cls := "EpochTree", name := "readJoin", desc := "(LEpochTree$Server;LEpochTree$Server;I)V" } : Jvm.MethodName)) ∈ tb := List.mem_of_getElem? (i := 180) rfl
set_option maxRecDepth 20000 in
theorem tb_181 : (Jvm.Cond.static ({ cls := "EpochTree", name := "readJoin", desc := "(LEpochTree$Server;LEpochTree$Server;I)V" } : Jvm.MethodName)) ∈ tb := List.mem_of_getElem? (i := 181) rfl
set_option maxRecDepth 20000 in
theorem tb_182 : (Jvm.Cond.code ({ cls := "EpochTree", name := "readJoin", desc := "(LEpochTree$Server;LEpochTree$Server;I)V" } : Jvm.MethodName) prog_1_method_30_code (3 : Nat) (Option.none : Option Jvm.ClassFile.FieldType)) ∈ tb := List.mem_of_getElem? (i := 182) rfl
set_option maxRecDepth 20000 in
theorem tb_183 : (Jvm.Cond.methodLink "EpochTree" (192 : Nat) ({ cls := "java/lang/Math", name := "max", desc := "(II)I" } : Jvm.MethodName)) ∈ tb := List.mem_of_getElem? (i := 183) rfl
set_option maxRecDepth 20000 in
theorem tb_184 : (Jvm.Cond.static ({ cls := "java/lang/Math", name := "max", desc := "(II)I" } : Jvm.MethodName)) ∈ tb := List.mem_of_getElem? (i := 184) rfl
set_option maxRecDepth 20000 in
theorem tb_185 : (Jvm.Cond.code ({ cls := "java/lang/Math", name := "max", desc := "(II)I" } : Jvm.MethodName) prog_10_method_65_code (2 : Nat) (Option.some Jvm.ClassFile.FieldType.int)) ∈ tb := List.mem_of_getElem? (i := 185) rfl
set_option maxRecDepth 20000 in
theorem tb_186 : (Jvm.Cond.methodLink "EpochTree" (87 : Nat) ({ cls := "EpochTree", name := "readAccepted", desc := "(LEpochTree$Server;LEpochTree$Server;Z)V" } : Jvm.MethodName)) ∈ tb := List.mem_of_getElem? (i := 186) rfl
set_option maxRecDepth 20000 in
theorem tb_187 : (Jvm.Cond.instanceMethod ({ cls := "EpochTree", name := "readAccepted", desc := "(LEpochTree$Server;LEpochTree$Server;Z)V" } : Jvm.MethodName)) ∈ tb := List.mem_of_getElem? (i := 187) rfl
set_option maxRecDepth 20000 in
theorem tb_188 : (Jvm.Cond.code ({ cls := "EpochTree", name := "readAccepted", desc := "(LEpochTree$Server;LEpochTree$Server;Z)V" } : Jvm.MethodName) prog_1_method_31_code (4 : Nat) (Option.none : Option Jvm.ClassFile.FieldType)) ∈ tb := List.mem_of_getElem? (i := 188) rfl
set_option maxRecDepth 20000 in
theorem tb_189 : (Jvm.Cond.methodLink "EpochTree" (200 : Nat) ({ cls := "EpochTree", name := "sendNewLeader", desc := "(LEpochTree$Server;LEpochTree$Server;)V" } : Jvm.MethodName)) ∈ tb := List.mem_of_getElem? (i := 189) rfl
set_option maxRecDepth 20000 in
theorem tb_190 : (Jvm.Cond.static ({ cls := "EpochTree", name := "sendNewLeader", desc := "(LEpochTree$Server;LEpochTree$Server;)V" } : Jvm.MethodName)) ∈ tb := List.mem_of_getElem? (i := 190) rfl
set_option maxRecDepth 20000 in
theorem tb_191 : (Jvm.Cond.code ({ cls := "EpochTree", name := "sendNewLeader", desc := "(LEpochTree$Server;LEpochTree$Server;)V" } : Jvm.MethodName) prog_1_method_33_code (2 : Nat) (Option.none : Option Jvm.ClassFile.FieldType)) ∈ tb := List.mem_of_getElem? (i := 191) rfl
set_option maxRecDepth 20000 in
theorem tb_192 : (Jvm.Cond.methodLink "EpochTree" (204 : Nat) ({ cls := "EpochTree", name := "chooseList", desc := "(LEpochTree$Server;LEpochTree$Server;)V" } : Jvm.MethodName)) ∈ tb := List.mem_of_getElem? (i := 192) rfl
set_option maxRecDepth 20000 in
theorem tb_193 : (Jvm.Cond.static ({ cls := "EpochTree", name := "chooseList", desc := "(LEpochTree$Server;LEpochTree$Server;)V" } : Jvm.MethodName)) ∈ tb := List.mem_of_getElem? (i := 193) rfl
set_option maxRecDepth 20000 in
theorem tb_194 : (Jvm.Cond.code ({ cls := "EpochTree", name := "chooseList", desc := "(LEpochTree$Server;LEpochTree$Server;)V" } : Jvm.MethodName) prog_1_method_32_code (4 : Nat) (Option.none : Option Jvm.ClassFile.FieldType)) ∈ tb := List.mem_of_getElem? (i := 194) rfl
set_option maxRecDepth 20000 in
theorem tb_195 : (Jvm.Cond.instanceMethod ({ cls := "EpochTree$EntryList", name := "lastMark", desc := "()I" } : Jvm.MethodName)) ∈ tb := List.mem_of_getElem? (i := 195) rfl
set_option maxRecDepth 20000 in
theorem tb_196 : (Jvm.Cond.code ({ cls := "EpochTree$EntryList", name := "lastMark", desc := "()I" } : Jvm.MethodName) prog_2_method_4_code (1 : Nat) (Option.some Jvm.ClassFile.FieldType.int)) ∈ tb := List.mem_of_getElem? (i := 196) rfl
set_option maxRecDepth 20000 in
theorem tb_197 : (Jvm.Cond.methodLink "EpochTree$EntryList" (31 : Nat) ({ cls := "EpochTree$EntryList", name := "markAt", desc := "(I)I" } : Jvm.MethodName)) ∈ tb := List.mem_of_getElem? (i := 197) rfl
set_option maxRecDepth 20000 in
theorem tb_198 : (Jvm.Cond.instanceMethod ({ cls := "EpochTree$EntryList", name := "markAt", desc := "(I)I" } : Jvm.MethodName)) ∈ tb := List.mem_of_getElem? (i := 198) rfl
set_option maxRecDepth 20000 in
theorem tb_199 : (Jvm.Cond.code ({ cls := "EpochTree$EntryList", name := "markAt", desc := "(I)I" } : Jvm.MethodName) prog_2_method_3_code (2 : Nat) (Option.some Jvm.ClassFile.FieldType.int)) ∈ tb := List.mem_of_getElem? (i := 199) rfl
set_option maxRecDepth 20000 in
theorem tb_200 : (Jvm.Cond.instanceMethod ({ cls := "EpochTree$EntryList", name := "becomeFirst", desc := "(LEpochTree$EntryList;I)V" } : Jvm.MethodName)) ∈ tb := List.mem_of_getElem? (i := 200) rfl
set_option maxRecDepth 20000 in
theorem tb_201 : (Jvm.Cond.code ({ cls := "EpochTree$EntryList", name := "becomeFirst", desc := "(LEpochTree$EntryList;I)V" } : Jvm.MethodName) prog_2_method_7_code (4 : Nat) (Option.none : Option Jvm.ClassFile.FieldType)) ∈ tb := List.mem_of_getElem? (i := 201) rfl
set_option maxRecDepth 20000 in
theorem tb_202 : (Jvm.Cond.methodLink "EpochTree$EntryList" (43 : Nat) ({ cls := "EpochTree$EntryList", name := "appendFrom", desc := "(LEpochTree$EntryList;I)V" } : Jvm.MethodName)) ∈ tb := List.mem_of_getElem? (i := 202) rfl
set_option maxRecDepth 20000 in
theorem tb_203 : (Jvm.Cond.instanceMethod ({ cls := "EpochTree$EntryList", name := "appendFrom", desc := "(LEpochTree$EntryList;I)V" } : Jvm.MethodName)) ∈ tb := List.mem_of_getElem? (i := 203) rfl
set_option maxRecDepth 20000 in
theorem tb_204 : (Jvm.Cond.code ({ cls := "EpochTree$EntryList", name := "appendFrom", desc := "(LEpochTree$EntryList;I)V" } : Jvm.MethodName) prog_2_method_6_code (4 : Nat) (Option.none : Option Jvm.ClassFile.FieldType)) ∈ tb := List.mem_of_getElem? (i := 204) rfl
set_option maxRecDepth 20000 in
theorem tb_205 : (Jvm.Cond.methodLink "EpochTree$EntryList" (39 : Nat) ({ cls := "EpochTree$EntryList", name := "append", desc := "(IIIII)V" } : Jvm.MethodName)) ∈ tb := List.mem_of_getElem? (i := 205) rfl
set_option maxRecDepth 20000 in
theorem tb_206 : (Jvm.Cond.instanceMethod ({ cls := "EpochTree$EntryList", name := "append", desc := "(IIIII)V" } : Jvm.MethodName)) ∈ tb := List.mem_of_getElem? (i := 206) rfl
set_option maxRecDepth 20000 in
theorem tb_207 : (Jvm.Cond.code ({ cls := "EpochTree$EntryList", name := "append", desc := "(IIIII)V" } : Jvm.MethodName) prog_2_method_5_code (6 : Nat) (Option.none : Option Jvm.ClassFile.FieldType)) ∈ tb := List.mem_of_getElem? (i := 207) rfl
set_option maxRecDepth 20000 in
theorem tb_208 : (Jvm.Cond.methodLink "EpochTree$EntryList" (35 : Nat) ({ cls := "EpochTree$EntryList", name := "isFull", desc := "()Z" } : Jvm.MethodName)) ∈ tb := List.mem_of_getElem? (i := 208) rfl
set_option maxRecDepth 20000 in
theorem tb_209 : (Jvm.Cond.instanceMethod ({ cls := "EpochTree$EntryList", name := "isFull", desc := "()Z" } : Jvm.MethodName)) ∈ tb := List.mem_of_getElem? (i := 209) rfl
set_option maxRecDepth 20000 in
theorem tb_210 : (Jvm.Cond.code ({ cls := "EpochTree$EntryList", name := "isFull", desc := "()Z" } : Jvm.MethodName) prog_2_method_2_code (1 : Nat) (Option.some Jvm.ClassFile.FieldType.boolean)) ∈ tb := List.mem_of_getElem? (i := 210) rfl
set_option maxRecDepth 20000 in
theorem tb_211 : (Jvm.Cond.methodLink "EpochTree" (207 : Nat) ({ cls := "EpochTree", name := "sendNewLeaderToWaiting", desc := "(LEpochTree$Server;)V" } : Jvm.MethodName)) ∈ tb := List.mem_of_getElem? (i := 211) rfl
set_option maxRecDepth 20000 in
theorem tb_212 : (Jvm.Cond.instanceMethod ({ cls := "EpochTree", name := "sendNewLeaderToWaiting", desc := "(LEpochTree$Server;)V" } : Jvm.MethodName)) ∈ tb := List.mem_of_getElem? (i := 212) rfl
set_option maxRecDepth 20000 in
theorem tb_213 : (Jvm.Cond.code ({ cls := "EpochTree", name := "sendNewLeaderToWaiting", desc := "(LEpochTree$Server;)V" } : Jvm.MethodName) prog_1_method_34_code (3 : Nat) (Option.none : Option Jvm.ClassFile.FieldType)) ∈ tb := List.mem_of_getElem? (i := 213) rfl
set_option maxRecDepth 20000 in
theorem tb_214 : (Jvm.Cond.methodLink "EpochTree" (91 : Nat) ({ cls := "EpochTree", name := "readAck", desc := "(LEpochTree$Server;LEpochTree$Server;I)V" } : Jvm.MethodName)) ∈ tb := List.mem_of_getElem? (i := 214) rfl
set_option maxRecDepth 20000 in
theorem tb_215 : (Jvm.Cond.instanceMethod ({ cls := "EpochTree", name := "readAck", desc := "(LEpochTree$Server;LEpochTree$Server;I)V" } : Jvm.MethodName)) ∈ tb := List.mem_of_getElem? (i := 215) rfl
set_option maxRecDepth 20000 in
theorem tb_216 : (Jvm.Cond.code ({ cls := "EpochTree", name := "readAck", desc := "(LEpochTree$Server;LEpochTree$Server;I)V" } : Jvm.MethodName) prog_1_method_35_code (5 : Nat) (Option.none : Option Jvm.ClassFile.FieldType)) ∈ tb := List.mem_of_getElem? (i := 216) rfl
set_option maxRecDepth 20000 in
theorem tb_217 : (Jvm.Cond.methodLink "EpochTree" (223 : Nat) ({ cls := "java/util/Arrays", name := "fill", desc := "([II)V" } : Jvm.MethodName)) ∈ tb := List.mem_of_getElem? (i := 217) rfl
set_option maxRecDepth 20000 in
theorem tb_218 : (Jvm.Cond.static ({ cls := "java/util/Arrays", name := "fill", desc := "([II)V" } : Jvm.MethodName)) ∈ tb := List.mem_of_getElem? (i := 218) rfl
set_option maxRecDepth 20000 in
theorem tb_219 : (Jvm.Cond.code ({ cls := "java/util/Arrays", name := "fill", desc := "([II)V" } : Jvm.MethodName) prog_11_method_103_code (4 : Nat) (Option.none : Option Jvm.ClassFile.FieldType)) ∈ tb := List.mem_of_getElem? (i := 219) rfl
set_option maxRecDepth 20000 in
theorem tb_220 : (Jvm.Cond.instanceMethod ({ cls := "EpochTree$Server", name := "applyUpTo", desc := "(I)V" } : Jvm.MethodName)) ∈ tb := List.mem_of_getElem? (i := 220) rfl
set_option maxRecDepth 20000 in
theorem tb_221 : (Jvm.Cond.code ({ cls := "EpochTree$Server", name := "applyUpTo", desc := "(I)V" } : Jvm.MethodName) prog_5_method_2_code (4 : Nat) (Option.none : Option Jvm.ClassFile.FieldType)) ∈ tb := List.mem_of_getElem? (i := 221) rfl
set_option maxRecDepth 20000 in
theorem tb_222 : (Jvm.Cond.methodLink "EpochTree$Server" (53 : Nat) ({ cls := "java/lang/Math", name := "min", desc := "(II)I" } : Jvm.MethodName)) ∈ tb := List.mem_of_getElem? (i := 222) rfl
set_option maxRecDepth 20000 in
theorem tb_223 : (Jvm.Cond.static ({ cls := "java/lang/Math", name := "min", desc := "(II)I" } : Jvm.MethodName)) ∈ tb := List.mem_of_getElem? (i := 223) rfl
set_option maxRecDepth 20000 in
theorem tb_224 : (Jvm.Cond.code ({ cls := "java/lang/Math", name := "min", desc := "(II)I" } : Jvm.MethodName) prog_10_method_69_code (2 : Nat) (Option.some Jvm.ClassFile.FieldType.int)) ∈ tb := List.mem_of_getElem? (i := 224) rfl
set_option maxRecDepth 20000 in
theorem tb_225 : (Jvm.Cond.instanceMethod ({ cls := "EpochTree$Tree", name := "change", desc := "(IIII)I" } : Jvm.MethodName)) ∈ tb := List.mem_of_getElem? (i := 225) rfl
set_option maxRecDepth 20000 in
theorem tb_226 : (Jvm.Cond.code ({ cls := "EpochTree$Tree", name := "change", desc := "(IIII)I" } : Jvm.MethodName) prog_7_method_9_code (5 : Nat) (Option.some Jvm.ClassFile.FieldType.int)) ∈ tb := List.mem_of_getElem? (i := 226) rfl
set_option maxRecDepth 20000 in
theorem tb_227 : (Jvm.Cond.methodLink "EpochTree$Tree" (45 : Nat) ({ cls := "EpochTree$Tree", name := "create", desc := "(III)I" } : Jvm.MethodName)) ∈ tb := List.mem_of_getElem? (i := 227) rfl
set_option maxRecDepth 20000 in
theorem tb_228 : (Jvm.Cond.instanceMethod ({ cls := "EpochTree$Tree", name := "create", desc := "(III)I" } : Jvm.MethodName)) ∈ tb := List.mem_of_getElem? (i := 228) rfl
set_option maxRecDepth 20000 in
theorem tb_229 : (Jvm.Cond.code ({ cls := "EpochTree$Tree", name := "create", desc := "(III)I" } : Jvm.MethodName) prog_7_method_10_code (6 : Nat) (Option.some Jvm.ClassFile.FieldType.int)) ∈ tb := List.mem_of_getElem? (i := 229) rfl
set_option maxRecDepth 20000 in
theorem tb_230 : (Jvm.Cond.methodLink "EpochTree$Tree" (62 : Nat) ({ cls := "EpochTree$Tree", name := "isOpen", desc := "(I)Z" } : Jvm.MethodName)) ∈ tb := List.mem_of_getElem? (i := 230) rfl
set_option maxRecDepth 20000 in
theorem tb_231 : (Jvm.Cond.instanceMethod ({ cls := "EpochTree$Tree", name := "isOpen", desc := "(I)Z" } : Jvm.MethodName)) ∈ tb := List.mem_of_getElem? (i := 231) rfl
set_option maxRecDepth 20000 in
theorem tb_232 : (Jvm.Cond.code ({ cls := "EpochTree$Tree", name := "isOpen", desc := "(I)Z" } : Jvm.MethodName) prog_7_method_4_code (2 : Nat) (Option.some Jvm.ClassFile.FieldType.boolean)) ∈ tb := List.mem_of_getElem? (i := 232) rfl
set_option maxRecDepth 20000 in
theorem tb_233 : (Jvm.Cond.static ({ cls := "EpochTree", name := "isSession", desc := "(I)Z" } : Jvm.MethodName)) ∈ tb := List.mem_of_getElem? (i := 233) rfl
set_option maxRecDepth 20000 in
theorem tb_234 : (Jvm.Cond.code ({ cls := "EpochTree", name := "isSession", desc := "(I)Z" } : Jvm.MethodName) prog_1_method_23_code (1 : Nat) (Option.some Jvm.ClassFile.FieldType.boolean)) ∈ tb := List.mem_of_getElem? (i := 234) rfl
set_option maxRecDepth 20000 in
theorem tb_235 : (Jvm.Cond.methodLink "EpochTree$Tree" (39 : Nat) ({ cls := "EpochTree$Tree", name := "find", desc := "(I)I" } : Jvm.MethodName)) ∈ tb := List.mem_of_getElem? (i := 235) rfl
set_option maxRecDepth 20000 in
theorem tb_236 : (Jvm.Cond.instanceMethod ({ cls := "EpochTree$Tree", name := "find", desc := "(I)I" } : Jvm.MethodName)) ∈ tb := List.mem_of_getElem? (i := 236) rfl
set_option maxRecDepth 20000 in
theorem tb_237 : (Jvm.Cond.code ({ cls := "EpochTree$Tree", name := "find", desc := "(I)I" } : Jvm.MethodName) prog_7_method_7_code (3 : Nat) (Option.some Jvm.ClassFile.FieldType.int)) ∈ tb := List.mem_of_getElem? (i := 237) rfl
set_option maxRecDepth 20000 in
theorem tb_238 : (Jvm.Cond.methodLink "EpochTree$Tree" (65 : Nat) ({ cls := "EpochTree$Tree", name := "add", desc := "(III)V" } : Jvm.MethodName)) ∈ tb := List.mem_of_getElem? (i := 238) rfl
set_option maxRecDepth 20000 in
theorem tb_239 : (Jvm.Cond.instanceMethod ({ cls := "EpochTree$Tree", name := "add", desc := "(III)V" } : Jvm.MethodName)) ∈ tb := List.mem_of_getElem? (i := 239) rfl
set_option maxRecDepth 20000 in
theorem tb_240 : (Jvm.Cond.code ({ cls := "EpochTree$Tree", name := "add", desc := "(III)V" } : Jvm.MethodName) prog_7_method_11_code (4 : Nat) (Option.none : Option Jvm.ClassFile.FieldType)) ∈ tb := List.mem_of_getElem? (i := 240) rfl
set_option maxRecDepth 20000 in
theorem tb_241 : (Jvm.Cond.methodLink "EpochTree$Tree" (49 : Nat) ({ cls := "EpochTree$Tree", name := "set", desc := "(III)I" } : Jvm.MethodName)) ∈ tb := List.mem_of_getElem? (i := 241) rfl
set_option maxRecDepth 20000 in
theorem tb_242 : (Jvm.Cond.instanceMethod ({ cls := "EpochTree$Tree", name := "set", desc := "(III)I" } : Jvm.MethodName)) ∈ tb := List.mem_of_getElem? (i := 242) rfl
set_option maxRecDepth 20000 in
theorem tb_243 : (Jvm.Cond.code ({ cls := "EpochTree$Tree", name := "set", desc := "(III)I" } : Jvm.MethodName) prog_7_method_12_code (5 : Nat) (Option.some Jvm.ClassFile.FieldType.int)) ∈ tb := List.mem_of_getElem? (i := 243) rfl
set_option maxRecDepth 20000 in
theorem tb_244 : (Jvm.Cond.methodLink "EpochTree$Tree" (52 : Nat) ({ cls := "EpochTree$Tree", name := "delete", desc := "(II)I" } : Jvm.MethodName)) ∈ tb := List.mem_of_getElem? (i := 244) rfl
set_option maxRecDepth 20000 in
theorem tb_245 : (Jvm.Cond.instanceMethod ({ cls := "EpochTree$Tree", name := "delete", desc := "(II)I" } : Jvm.MethodName)) ∈ tb := List.mem_of_getElem? (i := 245) rfl
set_option maxRecDepth 20000 in
theorem tb_246 : (Jvm.Cond.code ({ cls := "EpochTree$Tree", name := "delete", desc := "(II)I" } : Jvm.MethodName) prog_7_method_13_code (4 : Nat) (Option.some Jvm.ClassFile.FieldType.int)) ∈ tb := List.mem_of_getElem? (i := 246) rfl
set_option maxRecDepth 20000 in
theorem tb_247 : (Jvm.Cond.methodLink "EpochTree$Tree" (42 : Nat) ({ cls := "EpochTree$Tree", name := "countChildren", desc := "(I)I" } : Jvm.MethodName)) ∈ tb := List.mem_of_getElem? (i := 247) rfl
set_option maxRecDepth 20000 in
theorem tb_248 : (Jvm.Cond.instanceMethod ({ cls := "EpochTree$Tree", name := "countChildren", desc := "(I)I" } : Jvm.MethodName)) ∈ tb := List.mem_of_getElem? (i := 248) rfl
set_option maxRecDepth 20000 in
theorem tb_249 : (Jvm.Cond.code ({ cls := "EpochTree$Tree", name := "countChildren", desc := "(I)I" } : Jvm.MethodName) prog_7_method_8_code (4 : Nat) (Option.some Jvm.ClassFile.FieldType.int)) ∈ tb := List.mem_of_getElem? (i := 249) rfl
set_option maxRecDepth 20000 in
theorem tb_250 : (Jvm.Cond.methodLink "EpochTree$Tree" (69 : Nat) ({ cls := "EpochTree$Tree", name := "remove", desc := "(I)V" } : Jvm.MethodName)) ∈ tb := List.mem_of_getElem? (i := 250) rfl
set_option maxRecDepth 20000 in
theorem tb_251 : (Jvm.Cond.instanceMethod ({ cls := "EpochTree$Tree", name := "remove", desc := "(I)V" } : Jvm.MethodName)) ∈ tb := List.mem_of_getElem? (i := 251) rfl
set_option maxRecDepth 20000 in
theorem tb_252 : (Jvm.Cond.code ({ cls := "EpochTree$Tree", name := "remove", desc := "(I)V" } : Jvm.MethodName) prog_7_method_14_code (2 : Nat) (Option.none : Option Jvm.ClassFile.FieldType)) ∈ tb := List.mem_of_getElem? (i := 252) rfl
set_option maxRecDepth 20000 in
theorem tb_253 : (Jvm.Cond.methodLink "EpochTree$Tree" (56 : Nat) ({ cls := "EpochTree$Tree", name := "open", desc := "(I)I" } : Jvm.MethodName)) ∈ tb := List.mem_of_getElem? (i := 253) rfl
set_option maxRecDepth 20000 in
theorem tb_254 : (Jvm.Cond.instanceMethod ({ cls := "EpochTree$Tree", name := "open", desc := "(I)I" } : Jvm.MethodName)) ∈ tb := List.mem_of_getElem? (i := 254) rfl
set_option maxRecDepth 20000 in
theorem tb_255 : (Jvm.Cond.code ({ cls := "EpochTree$Tree", name := "open", desc := "(I)I" } : Jvm.MethodName) prog_7_method_15_code (2 : Nat) (Option.some Jvm.ClassFile.FieldType.int)) ∈ tb := List.mem_of_getElem? (i := 255) rfl
set_option maxRecDepth 20000 in
theorem tb_256 : (Jvm.Cond.methodLink "EpochTree$Tree" (59 : Nat) ({ cls := "EpochTree$Tree", name := "close", desc := "(I)I" } : Jvm.MethodName)) ∈ tb := List.mem_of_getElem? (i := 256) rfl
set_option maxRecDepth 20000 in
theorem tb_257 : (Jvm.Cond.instanceMethod ({ cls := "EpochTree$Tree", name := "close", desc := "(I)I" } : Jvm.MethodName)) ∈ tb := List.mem_of_getElem? (i := 257) rfl
set_option maxRecDepth 20000 in
theorem tb_258 : (Jvm.Cond.code ({ cls := "EpochTree$Tree", name := "close", desc := "(I)I" } : Jvm.MethodName) prog_7_method_16_code (3 : Nat) (Option.some Jvm.ClassFile.FieldType.int)) ∈ tb := List.mem_of_getElem? (i := 258) rfl
set_option maxRecDepth 20000 in
theorem tb_259 : (Jvm.Cond.methodLink "EpochTree" (232 : Nat) ({ cls := "EpochTree", name := "sendOnTiedLinks", desc := "(LEpochTree$Server;II)V" } : Jvm.MethodName)) ∈ tb := List.mem_of_getElem? (i := 259) rfl
set_option maxRecDepth 20000 in
theorem tb_260 : (Jvm.Cond.instanceMethod ({ cls := "EpochTree", name := "sendOnTiedLinks", desc := "(LEpochTree$Server;II)V" } : Jvm.MethodName)) ∈ tb := List.mem_of_getElem? (i := 260) rfl
set_option maxRecDepth 20000 in
theorem tb_261 : (Jvm.Cond.code ({ cls := "EpochTree", name := "sendOnTiedLinks", desc := "(LEpochTree$Server;II)V" } : Jvm.MethodName) prog_1_method_36_code (5 : Nat) (Option.none : Option Jvm.ClassFile.FieldType)) ∈ tb := List.mem_of_getElem? (i := 261) rfl
set_option maxRecDepth 20000 in
theorem tb_262 : (Jvm.Cond.methodLink "EpochTreeLaw" (40 : Nat) ({ cls := "EpochTree", name := "down", desc := "(I)I" } : Jvm.MethodName)) ∈ tb := List.mem_of_getElem? (i := 262) rfl
set_option maxRecDepth 20000 in
theorem tb_263 : (Jvm.Cond.instanceMethod ({ cls := "EpochTree", name := "down", desc := "(I)I" } : Jvm.MethodName)) ∈ tb := List.mem_of_getElem? (i := 263) rfl
set_option maxRecDepth 20000 in
theorem tb_264 : (Jvm.Cond.selects "EpochTree" ({ cls := "EpochTree", name := "down", desc := "(I)I" } : Jvm.MethodName) ({ cls := "EpochTree", name := "down", desc := "(I)I" } : Jvm.MethodName)) ∈ tb := List.mem_of_getElem? (i := 264) rfl
set_option maxRecDepth 20000 in
theorem tb_265 : (Jvm.Cond.code ({ cls := "EpochTree", name := "down", desc := "(I)I" } : Jvm.MethodName) prog_1_method_8_code (6 : Nat) (Option.some Jvm.ClassFile.FieldType.int)) ∈ tb := List.mem_of_getElem? (i := 265) rfl
set_option maxRecDepth 20000 in
theorem tb_266 : (Jvm.Cond.methodLink "EpochTree" (97 : Nat) ({ cls := "EpochTree", name := "readNewEpoch", desc := "(II)V" } : Jvm.MethodName)) ∈ tb := List.mem_of_getElem? (i := 266) rfl
set_option maxRecDepth 20000 in
theorem tb_267 : (Jvm.Cond.instanceMethod ({ cls := "EpochTree", name := "readNewEpoch", desc := "(II)V" } : Jvm.MethodName)) ∈ tb := List.mem_of_getElem? (i := 267) rfl
set_option maxRecDepth 20000 in
theorem tb_268 : (Jvm.Cond.code ({ cls := "EpochTree", name := "readNewEpoch", desc := "(II)V" } : Jvm.MethodName) prog_1_method_37_code (5 : Nat) (Option.none : Option Jvm.ClassFile.FieldType)) ∈ tb := List.mem_of_getElem? (i := 268) rfl
set_option maxRecDepth 20000 in
theorem tb_269 : (Jvm.Cond.methodLink "EpochTree" (100 : Nat) ({ cls := "EpochTree", name := "readNewLeader", desc := "(LEpochTree$Server;I)V" } : Jvm.MethodName)) ∈ tb := List.mem_of_getElem? (i := 269) rfl
set_option maxRecDepth 20000 in
theorem tb_270 : (Jvm.Cond.instanceMethod ({ cls := "EpochTree", name := "readNewLeader", desc := "(LEpochTree$Server;I)V" } : Jvm.MethodName)) ∈ tb := List.mem_of_getElem? (i := 270) rfl
set_option maxRecDepth 20000 in
theorem tb_271 : (Jvm.Cond.code ({ cls := "EpochTree", name := "readNewLeader", desc := "(LEpochTree$Server;I)V" } : Jvm.MethodName) prog_1_method_38_code (3 : Nat) (Option.none : Option Jvm.ClassFile.FieldType)) ∈ tb := List.mem_of_getElem? (i := 271) rfl
set_option maxRecDepth 20000 in
theorem tb_272 : (Jvm.Cond.methodLink "EpochTree" (104 : Nat) ({ cls := "EpochTree", name := "readProposal", desc := "(LEpochTree$Server;I)V" } : Jvm.MethodName)) ∈ tb := List.mem_of_getElem? (i := 272) rfl
set_option maxRecDepth 20000 in
theorem tb_273 : (Jvm.Cond.instanceMethod ({ cls := "EpochTree", name := "readProposal", desc := "(LEpochTree$Server;I)V" } : Jvm.MethodName)) ∈ tb := List.mem_of_getElem? (i := 273) rfl
set_option maxRecDepth 20000 in
theorem tb_274 : (Jvm.Cond.code ({ cls := "EpochTree", name := "readProposal", desc := "(LEpochTree$Server;I)V" } : Jvm.MethodName) prog_1_method_39_code (3 : Nat) (Option.none : Option Jvm.ClassFile.FieldType)) ∈ tb := List.mem_of_getElem? (i := 274) rfl
set_option maxRecDepth 20000 in
theorem tb_275 : (Jvm.Cond.methodLink "EpochTreeLaw" (44 : Nat) ({ cls := "EpochTree", name := "submit", desc := "(IIIII)I" } : Jvm.MethodName)) ∈ tb := List.mem_of_getElem? (i := 275) rfl
set_option maxRecDepth 20000 in
theorem tb_276 : (Jvm.Cond.instanceMethod ({ cls := "EpochTree", name := "submit", desc := "(IIIII)I" } : Jvm.MethodName)) ∈ tb := List.mem_of_getElem? (i := 276) rfl
set_option maxRecDepth 20000 in
theorem tb_277 : (Jvm.Cond.selects "EpochTree" ({ cls := "EpochTree", name := "submit", desc := "(IIIII)I" } : Jvm.MethodName) ({ cls := "EpochTree", name := "submit", desc := "(IIIII)I" } : Jvm.MethodName)) ∈ tb := List.mem_of_getElem? (i := 277) rfl
set_option maxRecDepth 20000 in
theorem tb_278 : (Jvm.Cond.code ({ cls := "EpochTree", name := "submit", desc := "(IIIII)I" } : Jvm.MethodName) prog_1_method_9_code (7 : Nat) (Option.some Jvm.ClassFile.FieldType.int)) ∈ tb := List.mem_of_getElem? (i := 278) rfl
set_option maxRecDepth 20000 in
theorem tb_279 : (Jvm.Cond.methodLink "EpochTree" (110 : Nat) ({ cls := "EpochTree", name := "isChange", desc := "(III)Z" } : Jvm.MethodName)) ∈ tb := List.mem_of_getElem? (i := 279) rfl
set_option maxRecDepth 20000 in
theorem tb_280 : (Jvm.Cond.static ({ cls := "EpochTree", name := "isChange", desc := "(III)Z" } : Jvm.MethodName)) ∈ tb := List.mem_of_getElem? (i := 280) rfl
set_option maxRecDepth 20000 in
theorem tb_281 : (Jvm.Cond.code ({ cls := "EpochTree", name := "isChange", desc := "(III)Z" } : Jvm.MethodName) prog_1_method_25_code (3 : Nat) (Option.some Jvm.ClassFile.FieldType.boolean)) ∈ tb := List.mem_of_getElem? (i := 281) rfl
set_option maxRecDepth 20000 in
theorem tb_282 : (Jvm.Cond.methodLink "EpochTree" (175 : Nat) ({ cls := "EpochTree", name := "isNodePath", desc := "(I)Z" } : Jvm.MethodName)) ∈ tb := List.mem_of_getElem? (i := 282) rfl
set_option maxRecDepth 20000 in
theorem tb_283 : (Jvm.Cond.static ({ cls := "EpochTree", name := "isNodePath", desc := "(I)Z" } : Jvm.MethodName)) ∈ tb := List.mem_of_getElem? (i := 283) rfl
set_option maxRecDepth 20000 in
theorem tb_284 : (Jvm.Cond.code ({ cls := "EpochTree", name := "isNodePath", desc := "(I)Z" } : Jvm.MethodName) prog_1_method_24_code (2 : Nat) (Option.some Jvm.ClassFile.FieldType.boolean)) ∈ tb := List.mem_of_getElem? (i := 284) rfl
set_option maxRecDepth 20000 in
theorem tb_285 : (Jvm.Cond.methodLink "EpochTree" (139 : Nat) ({ cls := "EpochTree", name := "isSession", desc := "(I)Z" } : Jvm.MethodName)) ∈ tb := List.mem_of_getElem? (i := 285) rfl
set_option maxRecDepth 20000 in
theorem tb_286 : (Jvm.Cond.methodLink "EpochTree" (124 : Nat) ({ cls := "EpochTree", name := "makeEntry", desc := "(LEpochTree$Server;IIII)V" } : Jvm.MethodName)) ∈ tb := List.mem_of_getElem? (i := 286) rfl
set_option maxRecDepth 20000 in
theorem tb_287 : (Jvm.Cond.instanceMethod ({ cls := "EpochTree", name := "makeEntry", desc := "(LEpochTree$Server;IIII)V" } : Jvm.MethodName)) ∈ tb := List.mem_of_getElem? (i := 287) rfl
set_option maxRecDepth 20000 in
theorem tb_288 : (Jvm.Cond.code ({ cls := "EpochTree", name := "makeEntry", desc := "(LEpochTree$Server;IIII)V" } : Jvm.MethodName) prog_1_method_40_code (7 : Nat) (Option.none : Option Jvm.ClassFile.FieldType)) ∈ tb := List.mem_of_getElem? (i := 288) rfl
set_option maxRecDepth 20000 in
theorem tb_289 : (Jvm.Cond.methodLink "EpochTreeLaw" (49 : Nat) ({ cls := "EpochTree", name := "tick", desc := "()I" } : Jvm.MethodName)) ∈ tb := List.mem_of_getElem? (i := 289) rfl
set_option maxRecDepth 20000 in
theorem tb_290 : (Jvm.Cond.instanceMethod ({ cls := "EpochTree", name := "tick", desc := "()I" } : Jvm.MethodName)) ∈ tb := List.mem_of_getElem? (i := 290) rfl
set_option maxRecDepth 20000 in
theorem tb_291 : (Jvm.Cond.selects "EpochTree" ({ cls := "EpochTree", name := "tick", desc := "()I" } : Jvm.MethodName) ({ cls := "EpochTree", name := "tick", desc := "()I" } : Jvm.MethodName)) ∈ tb := List.mem_of_getElem? (i := 291) rfl
set_option maxRecDepth 20000 in
theorem tb_292 : (Jvm.Cond.code ({ cls := "EpochTree", name := "tick", desc := "()I" } : Jvm.MethodName) prog_1_method_10_code (3 : Nat) (Option.some Jvm.ClassFile.FieldType.int)) ∈ tb := List.mem_of_getElem? (i := 292) rfl
set_option maxRecDepth 20000 in
theorem tb_293 : (Jvm.Cond.methodLink "EpochTree" (131 : Nat) ({ cls := "EpochTree", name := "growAges", desc := "(LEpochTree$Server;)V" } : Jvm.MethodName)) ∈ tb := List.mem_of_getElem? (i := 293) rfl
set_option maxRecDepth 20000 in
theorem tb_294 : (Jvm.Cond.static ({ cls := "EpochTree", name := "growAges", desc := "(LEpochTree$Server;)V" } : Jvm.MethodName)) ∈ tb := List.mem_of_getElem? (i := 294) rfl
set_option maxRecDepth 20000 in
theorem tb_295 : (Jvm.Cond.code ({ cls := "EpochTree", name := "growAges", desc := "(LEpochTree$Server;)V" } : Jvm.MethodName) prog_1_method_41_code (3 : Nat) (Option.none : Option Jvm.ClassFile.FieldType)) ∈ tb := List.mem_of_getElem? (i := 295) rfl
set_option maxRecDepth 20000 in
theorem tb_296 : (Jvm.Cond.methodLink "EpochTree" (246 : Nat) ({ cls := "java/lang/Math", name := "min", desc := "(II)I" } : Jvm.MethodName)) ∈ tb := List.mem_of_getElem? (i := 296) rfl
set_option maxRecDepth 20000 in
theorem tb_297 : (Jvm.Cond.methodLink "EpochTree" (135 : Nat) ({ cls := "EpochTree", name := "closeOldSessions", desc := "(LEpochTree$Server;)I" } : Jvm.MethodName)) ∈ tb := List.mem_of_getElem? (i := 297) rfl
set_option maxRecDepth 20000 in
theorem tb_298 : (Jvm.Cond.instanceMethod ({ cls := "EpochTree", name := "closeOldSessions", desc := "(LEpochTree$Server;)I" } : Jvm.MethodName)) ∈ tb := List.mem_of_getElem? (i := 298) rfl
set_option maxRecDepth 20000 in
theorem tb_299 : (Jvm.Cond.code ({ cls := "EpochTree", name := "closeOldSessions", desc := "(LEpochTree$Server;)I" } : Jvm.MethodName) prog_1_method_42_code (5 : Nat) (Option.some Jvm.ClassFile.FieldType.int)) ∈ tb := List.mem_of_getElem? (i := 299) rfl
set_option maxRecDepth 20000 in
theorem tb_300 : (Jvm.Cond.methodLink "EpochTreeLaw" (54 : Nat) ({ cls := "EpochTree", name := "touch", desc := "(II)Z" } : Jvm.MethodName)) ∈ tb := List.mem_of_getElem? (i := 300) rfl
set_option maxRecDepth 20000 in
theorem tb_301 : (Jvm.Cond.instanceMethod ({ cls := "EpochTree", name := "touch", desc := "(II)Z" } : Jvm.MethodName)) ∈ tb := List.mem_of_getElem? (i := 301) rfl
set_option maxRecDepth 20000 in
theorem tb_302 : (Jvm.Cond.selects "EpochTree" ({ cls := "EpochTree", name := "touch", desc := "(II)Z" } : Jvm.MethodName) ({ cls := "EpochTree", name := "touch", desc := "(II)Z" } : Jvm.MethodName)) ∈ tb := List.mem_of_getElem? (i := 302) rfl
set_option maxRecDepth 20000 in
theorem tb_303 : (Jvm.Cond.code ({ cls := "EpochTree", name := "touch", desc := "(II)Z" } : Jvm.MethodName) prog_1_method_11_code (4 : Nat) (Option.some Jvm.ClassFile.FieldType.boolean)) ∈ tb := List.mem_of_getElem? (i := 303) rfl
set_option maxRecDepth 20000 in
theorem tb_304 : (Jvm.Cond.methodLink "EpochTreeLaw" (58 : Nat) ({ cls := "EpochTree", name := "role", desc := "(I)I" } : Jvm.MethodName)) ∈ tb := List.mem_of_getElem? (i := 304) rfl
set_option maxRecDepth 20000 in
theorem tb_305 : (Jvm.Cond.instanceMethod ({ cls := "EpochTree", name := "role", desc := "(I)I" } : Jvm.MethodName)) ∈ tb := List.mem_of_getElem? (i := 305) rfl
set_option maxRecDepth 20000 in
theorem tb_306 : (Jvm.Cond.selects "EpochTree" ({ cls := "EpochTree", name := "role", desc := "(I)I" } : Jvm.MethodName) ({ cls := "EpochTree", name := "role", desc := "(I)I" } : Jvm.MethodName)) ∈ tb := List.mem_of_getElem? (i := 306) rfl
set_option maxRecDepth 20000 in
theorem tb_307 : (Jvm.Cond.code ({ cls := "EpochTree", name := "role", desc := "(I)I" } : Jvm.MethodName) prog_1_method_12_code (2 : Nat) (Option.some Jvm.ClassFile.FieldType.int)) ∈ tb := List.mem_of_getElem? (i := 307) rfl
set_option maxRecDepth 20000 in
theorem tb_308 : (Jvm.Cond.methodLink "EpochTreeLaw" (62 : Nat) ({ cls := "EpochTree", name := "promise", desc := "(I)I" } : Jvm.MethodName)) ∈ tb := List.mem_of_getElem? (i := 308) rfl
set_option maxRecDepth 20000 in
theorem tb_309 : (Jvm.Cond.instanceMethod ({ cls := "EpochTree", name := "promise", desc := "(I)I" } : Jvm.MethodName)) ∈ tb := List.mem_of_getElem? (i := 309) rfl
set_option maxRecDepth 20000 in
theorem tb_310 : (Jvm.Cond.selects "EpochTree" ({ cls := "EpochTree", name := "promise", desc := "(I)I" } : Jvm.MethodName) ({ cls := "EpochTree", name := "promise", desc := "(I)I" } : Jvm.MethodName)) ∈ tb := List.mem_of_getElem? (i := 310) rfl
set_option maxRecDepth 20000 in
theorem tb_311 : (Jvm.Cond.code ({ cls := "EpochTree", name := "promise", desc := "(I)I" } : Jvm.MethodName) prog_1_method_13_code (2 : Nat) (Option.some Jvm.ClassFile.FieldType.int)) ∈ tb := List.mem_of_getElem? (i := 311) rfl
set_option maxRecDepth 20000 in
theorem tb_312 : (Jvm.Cond.methodLink "EpochTreeLaw" (66 : Nat) ({ cls := "EpochTree", name := "epoch", desc := "(I)I" } : Jvm.MethodName)) ∈ tb := List.mem_of_getElem? (i := 312) rfl
set_option maxRecDepth 20000 in
theorem tb_313 : (Jvm.Cond.instanceMethod ({ cls := "EpochTree", name := "epoch", desc := "(I)I" } : Jvm.MethodName)) ∈ tb := List.mem_of_getElem? (i := 313) rfl
set_option maxRecDepth 20000 in
theorem tb_314 : (Jvm.Cond.selects "EpochTree" ({ cls := "EpochTree", name := "epoch", desc := "(I)I" } : Jvm.MethodName) ({ cls := "EpochTree", name := "epoch", desc := "(I)I" } : Jvm.MethodName)) ∈ tb := List.mem_of_getElem? (i := 314) rfl
set_option maxRecDepth 20000 in
theorem tb_315 : (Jvm.Cond.code ({ cls := "EpochTree", name := "epoch", desc := "(I)I" } : Jvm.MethodName) prog_1_method_14_code (2 : Nat) (Option.some Jvm.ClassFile.FieldType.int)) ∈ tb := List.mem_of_getElem? (i := 315) rfl
set_option maxRecDepth 20000 in
theorem tb_316 : (Jvm.Cond.methodLink "EpochTreeLaw" (70 : Nat) ({ cls := "EpochTree", name := "length", desc := "(I)I" } : Jvm.MethodName)) ∈ tb := List.mem_of_getElem? (i := 316) rfl
set_option maxRecDepth 20000 in
theorem tb_317 : (Jvm.Cond.instanceMethod ({ cls := "EpochTree", name := "length", desc := "(I)I" } : Jvm.MethodName)) ∈ tb := List.mem_of_getElem? (i := 317) rfl
set_option maxRecDepth 20000 in
theorem tb_318 : (Jvm.Cond.selects "EpochTree" ({ cls := "EpochTree", name := "length", desc := "(I)I" } : Jvm.MethodName) ({ cls := "EpochTree", name := "length", desc := "(I)I" } : Jvm.MethodName)) ∈ tb := List.mem_of_getElem? (i := 318) rfl
set_option maxRecDepth 20000 in
theorem tb_319 : (Jvm.Cond.code ({ cls := "EpochTree", name := "length", desc := "(I)I" } : Jvm.MethodName) prog_1_method_15_code (2 : Nat) (Option.some Jvm.ClassFile.FieldType.int)) ∈ tb := List.mem_of_getElem? (i := 319) rfl
set_option maxRecDepth 20000 in
theorem tb_320 : (Jvm.Cond.methodLink "EpochTreeLaw" (74 : Nat) ({ cls := "EpochTree", name := "mark", desc := "(II)I" } : Jvm.MethodName)) ∈ tb := List.mem_of_getElem? (i := 320) rfl
set_option maxRecDepth 20000 in
theorem tb_321 : (Jvm.Cond.instanceMethod ({ cls := "EpochTree", name := "mark", desc := "(II)I" } : Jvm.MethodName)) ∈ tb := List.mem_of_getElem? (i := 321) rfl
set_option maxRecDepth 20000 in
theorem tb_322 : (Jvm.Cond.selects "EpochTree" ({ cls := "EpochTree", name := "mark", desc := "(II)I" } : Jvm.MethodName) ({ cls := "EpochTree", name := "mark", desc := "(II)I" } : Jvm.MethodName)) ∈ tb := List.mem_of_getElem? (i := 322) rfl
set_option maxRecDepth 20000 in
theorem tb_323 : (Jvm.Cond.code ({ cls := "EpochTree", name := "mark", desc := "(II)I" } : Jvm.MethodName) prog_1_method_16_code (3 : Nat) (Option.some Jvm.ClassFile.FieldType.int)) ∈ tb := List.mem_of_getElem? (i := 323) rfl
set_option maxRecDepth 20000 in
theorem tb_324 : (Jvm.Cond.methodLink "EpochTreeLaw" (79 : Nat) ({ cls := "EpochTree", name := "applied", desc := "(I)I" } : Jvm.MethodName)) ∈ tb := List.mem_of_getElem? (i := 324) rfl
set_option maxRecDepth 20000 in
theorem tb_325 : (Jvm.Cond.instanceMethod ({ cls := "EpochTree", name := "applied", desc := "(I)I" } : Jvm.MethodName)) ∈ tb := List.mem_of_getElem? (i := 325) rfl
set_option maxRecDepth 20000 in
theorem tb_326 : (Jvm.Cond.selects "EpochTree" ({ cls := "EpochTree", name := "applied", desc := "(I)I" } : Jvm.MethodName) ({ cls := "EpochTree", name := "applied", desc := "(I)I" } : Jvm.MethodName)) ∈ tb := List.mem_of_getElem? (i := 326) rfl
set_option maxRecDepth 20000 in
theorem tb_327 : (Jvm.Cond.code ({ cls := "EpochTree", name := "applied", desc := "(I)I" } : Jvm.MethodName) prog_1_method_17_code (2 : Nat) (Option.some Jvm.ClassFile.FieldType.int)) ∈ tb := List.mem_of_getElem? (i := 327) rfl
set_option maxRecDepth 20000 in
theorem tb_328 : (Jvm.Cond.methodLink "EpochTreeLaw" (83 : Nat) ({ cls := "EpochTree", name := "result", desc := "(II)I" } : Jvm.MethodName)) ∈ tb := List.mem_of_getElem? (i := 328) rfl
set_option maxRecDepth 20000 in
theorem tb_329 : (Jvm.Cond.instanceMethod ({ cls := "EpochTree", name := "result", desc := "(II)I" } : Jvm.MethodName)) ∈ tb := List.mem_of_getElem? (i := 329) rfl
set_option maxRecDepth 20000 in
theorem tb_330 : (Jvm.Cond.selects "EpochTree" ({ cls := "EpochTree", name := "result", desc := "(II)I" } : Jvm.MethodName) ({ cls := "EpochTree", name := "result", desc := "(II)I" } : Jvm.MethodName)) ∈ tb := List.mem_of_getElem? (i := 330) rfl
set_option maxRecDepth 20000 in
theorem tb_331 : (Jvm.Cond.code ({ cls := "EpochTree", name := "result", desc := "(II)I" } : Jvm.MethodName) prog_1_method_18_code (3 : Nat) (Option.some Jvm.ClassFile.FieldType.int)) ∈ tb := List.mem_of_getElem? (i := 331) rfl
set_option maxRecDepth 20000 in
theorem tb_332 : (Jvm.Cond.methodLink "EpochTreeLaw" (87 : Nat) ({ cls := "EpochTree", name := "node", desc := "(III)I" } : Jvm.MethodName)) ∈ tb := List.mem_of_getElem? (i := 332) rfl
set_option maxRecDepth 20000 in
theorem tb_333 : (Jvm.Cond.instanceMethod ({ cls := "EpochTree", name := "node", desc := "(III)I" } : Jvm.MethodName)) ∈ tb := List.mem_of_getElem? (i := 333) rfl
set_option maxRecDepth 20000 in
theorem tb_334 : (Jvm.Cond.selects "EpochTree" ({ cls := "EpochTree", name := "node", desc := "(III)I" } : Jvm.MethodName) ({ cls := "EpochTree", name := "node", desc := "(III)I" } : Jvm.MethodName)) ∈ tb := List.mem_of_getElem? (i := 334) rfl
set_option maxRecDepth 20000 in
theorem tb_335 : (Jvm.Cond.code ({ cls := "EpochTree", name := "node", desc := "(III)I" } : Jvm.MethodName) prog_1_method_19_code (4 : Nat) (Option.some Jvm.ClassFile.FieldType.int)) ∈ tb := List.mem_of_getElem? (i := 335) rfl
set_option maxRecDepth 20000 in
theorem tb_336 : (Jvm.Cond.instanceMethod ({ cls := "EpochTree$Tree", name := "look", desc := "(II)I" } : Jvm.MethodName)) ∈ tb := List.mem_of_getElem? (i := 336) rfl
set_option maxRecDepth 20000 in
theorem tb_337 : (Jvm.Cond.code ({ cls := "EpochTree$Tree", name := "look", desc := "(II)I" } : Jvm.MethodName) prog_7_method_5_code (4 : Nat) (Option.some Jvm.ClassFile.FieldType.int)) ∈ tb := List.mem_of_getElem? (i := 337) rfl
set_option maxRecDepth 20000 in
theorem tb_338 : (Jvm.Cond.methodLink "EpochTree$Tree" (35 : Nat) ({ cls := "EpochTree$Tree", name := "lookAtRoot", desc := "(I)I" } : Jvm.MethodName)) ∈ tb := List.mem_of_getElem? (i := 338) rfl
set_option maxRecDepth 20000 in
theorem tb_339 : (Jvm.Cond.instanceMethod ({ cls := "EpochTree$Tree", name := "lookAtRoot", desc := "(I)I" } : Jvm.MethodName)) ∈ tb := List.mem_of_getElem? (i := 339) rfl
set_option maxRecDepth 20000 in
theorem tb_340 : (Jvm.Cond.code ({ cls := "EpochTree$Tree", name := "lookAtRoot", desc := "(I)I" } : Jvm.MethodName) prog_7_method_6_code (2 : Nat) (Option.some Jvm.ClassFile.FieldType.int)) ∈ tb := List.mem_of_getElem? (i := 340) rfl
set_option maxRecDepth 20000 in
theorem tb_341 : (Jvm.Cond.methodLink "EpochTreeLaw" (92 : Nat) ({ cls := "EpochTree", name := "tree", desc := "(I)I" } : Jvm.MethodName)) ∈ tb := List.mem_of_getElem? (i := 341) rfl
set_option maxRecDepth 20000 in
theorem tb_342 : (Jvm.Cond.instanceMethod ({ cls := "EpochTree", name := "tree", desc := "(I)I" } : Jvm.MethodName)) ∈ tb := List.mem_of_getElem? (i := 342) rfl
set_option maxRecDepth 20000 in
theorem tb_343 : (Jvm.Cond.selects "EpochTree" ({ cls := "EpochTree", name := "tree", desc := "(I)I" } : Jvm.MethodName) ({ cls := "EpochTree", name := "tree", desc := "(I)I" } : Jvm.MethodName)) ∈ tb := List.mem_of_getElem? (i := 343) rfl
set_option maxRecDepth 20000 in
theorem tb_344 : (Jvm.Cond.code ({ cls := "EpochTree", name := "tree", desc := "(I)I" } : Jvm.MethodName) prog_1_method_20_code (2 : Nat) (Option.some Jvm.ClassFile.FieldType.int)) ∈ tb := List.mem_of_getElem? (i := 344) rfl
set_option maxRecDepth 20000 in
theorem tb_345 : (Jvm.Cond.instanceMethod ({ cls := "EpochTree$Tree", name := "summary", desc := "()I" } : Jvm.MethodName)) ∈ tb := List.mem_of_getElem? (i := 345) rfl
set_option maxRecDepth 20000 in
theorem tb_346 : (Jvm.Cond.code ({ cls := "EpochTree$Tree", name := "summary", desc := "()I" } : Jvm.MethodName) prog_7_method_3_code (1 : Nat) (Option.some Jvm.ClassFile.FieldType.int)) ∈ tb := List.mem_of_getElem? (i := 346) rfl
set_option maxRecDepth 20000 in
theorem tb_347 : (Jvm.Cond.methodLink "EpochTreeLaw" (96 : Nat) ({ cls := "EpochTree", name := "waiting", desc := "(IZ)I" } : Jvm.MethodName)) ∈ tb := List.mem_of_getElem? (i := 347) rfl
set_option maxRecDepth 20000 in
theorem tb_348 : (Jvm.Cond.instanceMethod ({ cls := "EpochTree", name := "waiting", desc := "(IZ)I" } : Jvm.MethodName)) ∈ tb := List.mem_of_getElem? (i := 348) rfl
set_option maxRecDepth 20000 in
theorem tb_349 : (Jvm.Cond.selects "EpochTree" ({ cls := "EpochTree", name := "waiting", desc := "(IZ)I" } : Jvm.MethodName) ({ cls := "EpochTree", name := "waiting", desc := "(IZ)I" } : Jvm.MethodName)) ∈ tb := List.mem_of_getElem? (i := 349) rfl
set_option maxRecDepth 20000 in
theorem tb_350 : (Jvm.Cond.code ({ cls := "EpochTree", name := "waiting", desc := "(IZ)I" } : Jvm.MethodName) prog_1_method_21_code (4 : Nat) (Option.some Jvm.ClassFile.FieldType.int)) ∈ tb := List.mem_of_getElem? (i := 350) rfl
set_option maxRecDepth 20000 in
theorem tb_351 : (Jvm.Cond.classLink "EpochTreeLaw" (10 : Nat) "EpochTreeModel") ∈ tb := List.mem_of_getElem? (i := 351) rfl
set_option maxRecDepth 20000 in
theorem tb_352 : (Jvm.Cond.instantiable "EpochTreeModel" (33 : Nat)) ∈ tb := List.mem_of_getElem? (i := 352) rfl
set_option maxRecDepth 20000 in
theorem tb_353 : (Jvm.Cond.methodLink "EpochTreeLaw" (12 : Nat) ({ cls := "EpochTreeModel", name := "<init>", desc := "()V" } : Jvm.MethodName)) ∈ tb := List.mem_of_getElem? (i := 353) rfl
set_option maxRecDepth 20000 in
theorem tb_354 : (Jvm.Cond.instanceMethod ({ cls := "EpochTreeModel", name := "<init>", desc := "()V" } : Jvm.MethodName)) ∈ tb := List.mem_of_getElem? (i := 354) rfl
set_option maxRecDepth 20000 in
theorem tb_355 : (Jvm.Cond.code ({ cls := "EpochTreeModel", name := "<init>", desc := "()V" } : Jvm.MethodName) prog_9_method_1_code (2 : Nat) (Option.none : Option Jvm.ClassFile.FieldType)) ∈ tb := List.mem_of_getElem? (i := 355) rfl
set_option maxRecDepth 20000 in
theorem tb_356 : (Jvm.Cond.methodLink "EpochTreeModel" (1 : Nat) ({ cls := "java/lang/Object", name := "<init>", desc := "()V" } : Jvm.MethodName)) ∈ tb := List.mem_of_getElem? (i := 356) rfl
set_option maxRecDepth 20000 in
theorem tb_357 : (Jvm.Cond.fieldLink "EpochTreeModel" (7 : Nat) "EpochTreeModel" "role" "[I") ∈ tb := List.mem_of_getElem? (i := 357) rfl
set_option maxRecDepth 20000 in
theorem tb_358 : (Jvm.Cond.fieldLink "EpochTreeModel" (13 : Nat) "EpochTreeModel" "promise" "[I") ∈ tb := List.mem_of_getElem? (i := 358) rfl
set_option maxRecDepth 20000 in
theorem tb_359 : (Jvm.Cond.fieldLink "EpochTreeModel" (16 : Nat) "EpochTreeModel" "epoch" "[I") ∈ tb := List.mem_of_getElem? (i := 359) rfl
set_option maxRecDepth 20000 in
theorem tb_360 : (Jvm.Cond.fieldLink "EpochTreeModel" (19 : Nat) "EpochTreeModel" "applied" "[I") ∈ tb := List.mem_of_getElem? (i := 360) rfl
set_option maxRecDepth 20000 in
theorem tb_361 : (Jvm.Cond.fieldLink "EpochTreeModel" (22 : Nat) "EpochTreeModel" "length" "[I") ∈ tb := List.mem_of_getElem? (i := 361) rfl
set_option maxRecDepth 20000 in
theorem tb_362 : (Jvm.Cond.fieldLink "EpochTreeModel" (25 : Nat) "EpochTreeModel" "mark" "[I") ∈ tb := List.mem_of_getElem? (i := 362) rfl
set_option maxRecDepth 20000 in
theorem tb_363 : (Jvm.Cond.fieldLink "EpochTreeModel" (28 : Nat) "EpochTreeModel" "kind" "[I") ∈ tb := List.mem_of_getElem? (i := 363) rfl
set_option maxRecDepth 20000 in
theorem tb_364 : (Jvm.Cond.fieldLink "EpochTreeModel" (31 : Nat) "EpochTreeModel" "path" "[I") ∈ tb := List.mem_of_getElem? (i := 364) rfl
set_option maxRecDepth 20000 in
theorem tb_365 : (Jvm.Cond.fieldLink "EpochTreeModel" (34 : Nat) "EpochTreeModel" "first" "[I") ∈ tb := List.mem_of_getElem? (i := 365) rfl
set_option maxRecDepth 20000 in
theorem tb_366 : (Jvm.Cond.fieldLink "EpochTreeModel" (37 : Nat) "EpochTreeModel" "second" "[I") ∈ tb := List.mem_of_getElem? (i := 366) rfl
set_option maxRecDepth 20000 in
theorem tb_367 : (Jvm.Cond.fieldLink "EpochTreeModel" (40 : Nat) "EpochTreeModel" "chosen" "[I") ∈ tb := List.mem_of_getElem? (i := 367) rfl
set_option maxRecDepth 20000 in
theorem tb_368 : (Jvm.Cond.fieldLink "EpochTreeModel" (43 : Nat) "EpochTreeModel" "settled" "[Z") ∈ tb := List.mem_of_getElem? (i := 368) rfl
set_option maxRecDepth 20000 in
theorem tb_369 : (Jvm.Cond.fieldLink "EpochTreeModel" (47 : Nat) "EpochTreeModel" "made" "[I") ∈ tb := List.mem_of_getElem? (i := 369) rfl
set_option maxRecDepth 20000 in
theorem tb_370 : (Jvm.Cond.fieldLink "EpochTreeModel" (50 : Nat) "EpochTreeModel" "age" "[I") ∈ tb := List.mem_of_getElem? (i := 370) rfl
set_option maxRecDepth 20000 in
theorem tb_371 : (Jvm.Cond.fieldLink "EpochTreeModel" (53 : Nat) "EpochTreeModel" "leader" "[I") ∈ tb := List.mem_of_getElem? (i := 371) rfl
set_option maxRecDepth 20000 in
theorem tb_372 : (Jvm.Cond.fieldLink "EpochTreeModel" (56 : Nat) "EpochTreeModel" "waits" "[Z") ∈ tb := List.mem_of_getElem? (i := 372) rfl
set_option maxRecDepth 20000 in
theorem tb_373 : (Jvm.Cond.fieldLink "EpochTreeModel" (59 : Nat) "EpochTreeModel" "tied" "[Z") ∈ tb := List.mem_of_getElem? (i := 373) rfl
set_option maxRecDepth 20000 in
theorem tb_374 : (Jvm.Cond.fieldLink "EpochTreeModel" (62 : Nat) "EpochTreeModel" "heard" "[Z") ∈ tb := List.mem_of_getElem? (i := 374) rfl
set_option maxRecDepth 20000 in
theorem tb_375 : (Jvm.Cond.fieldLink "EpochTreeModel" (65 : Nat) "EpochTreeModel" "upKind" "[I") ∈ tb := List.mem_of_getElem? (i := 375) rfl
set_option maxRecDepth 20000 in
theorem tb_376 : (Jvm.Cond.fieldLink "EpochTreeModel" (68 : Nat) "EpochTreeModel" "upValue" "[I") ∈ tb := List.mem_of_getElem? (i := 376) rfl
set_option maxRecDepth 20000 in
theorem tb_377 : (Jvm.Cond.fieldLink "EpochTreeModel" (71 : Nat) "EpochTreeModel" "upSent" "[I") ∈ tb := List.mem_of_getElem? (i := 377) rfl
set_option maxRecDepth 20000 in
theorem tb_378 : (Jvm.Cond.fieldLink "EpochTreeModel" (74 : Nat) "EpochTreeModel" "upRead" "[I") ∈ tb := List.mem_of_getElem? (i := 378) rfl
set_option maxRecDepth 20000 in
theorem tb_379 : (Jvm.Cond.fieldLink "EpochTreeModel" (77 : Nat) "EpochTreeModel" "downKind" "[I") ∈ tb := List.mem_of_getElem? (i := 379) rfl
set_option maxRecDepth 20000 in
theorem tb_380 : (Jvm.Cond.fieldLink "EpochTreeModel" (80 : Nat) "EpochTreeModel" "downValue" "[I") ∈ tb := List.mem_of_getElem? (i := 380) rfl
set_option maxRecDepth 20000 in
theorem tb_381 : (Jvm.Cond.fieldLink "EpochTreeModel" (83 : Nat) "EpochTreeModel" "downSent" "[I") ∈ tb := List.mem_of_getElem? (i := 381) rfl
set_option maxRecDepth 20000 in
theorem tb_382 : (Jvm.Cond.fieldLink "EpochTreeModel" (86 : Nat) "EpochTreeModel" "downRead" "[I") ∈ tb := List.mem_of_getElem? (i := 382) rfl
set_option maxRecDepth 20000 in
theorem tb_383 : (Jvm.Cond.fieldLink "EpochTreeModel" (107 : Nat) "EpochTreeModel" "nodes" "I") ∈ tb := List.mem_of_getElem? (i := 383) rfl
set_option maxRecDepth 20000 in
theorem tb_384 : (Jvm.Cond.fieldLink "EpochTreeModel" (89 : Nat) "EpochTreeModel" "nodePath" "[I") ∈ tb := List.mem_of_getElem? (i := 384) rfl
set_option maxRecDepth 20000 in
theorem tb_385 : (Jvm.Cond.fieldLink "EpochTreeModel" (92 : Nat) "EpochTreeModel" "nodeData" "[I") ∈ tb := List.mem_of_getElem? (i := 385) rfl
set_option maxRecDepth 20000 in
theorem tb_386 : (Jvm.Cond.fieldLink "EpochTreeModel" (95 : Nat) "EpochTreeModel" "nodeVersion" "[I") ∈ tb := List.mem_of_getElem? (i := 386) rfl
set_option maxRecDepth 20000 in
theorem tb_387 : (Jvm.Cond.fieldLink "EpochTreeModel" (98 : Nat) "EpochTreeModel" "nodeOwner" "[I") ∈ tb := List.mem_of_getElem? (i := 387) rfl
set_option maxRecDepth 20000 in
theorem tb_388 : (Jvm.Cond.fieldLink "EpochTreeModel" (101 : Nat) "EpochTreeModel" "open" "[Z") ∈ tb := List.mem_of_getElem? (i := 388) rfl
set_option maxRecDepth 20000 in
theorem tb_389 : (Jvm.Cond.fieldLink "EpochTreeModel" (104 : Nat) "EpochTreeModel" "results" "[I") ∈ tb := List.mem_of_getElem? (i := 389) rfl
set_option maxRecDepth 20000 in
theorem tb_390 : (Jvm.Cond.laysFinal "EpochTreeModel" "EpochTreeModel" "role" "[I") ∈ tb := List.mem_of_getElem? (i := 390) rfl
set_option maxRecDepth 20000 in
theorem tb_391 : (Jvm.Cond.laysFinal "EpochTreeModel" "EpochTreeModel" "promise" "[I") ∈ tb := List.mem_of_getElem? (i := 391) rfl
set_option maxRecDepth 20000 in
theorem tb_392 : (Jvm.Cond.laysFinal "EpochTreeModel" "EpochTreeModel" "epoch" "[I") ∈ tb := List.mem_of_getElem? (i := 392) rfl
set_option maxRecDepth 20000 in
theorem tb_393 : (Jvm.Cond.laysFinal "EpochTreeModel" "EpochTreeModel" "applied" "[I") ∈ tb := List.mem_of_getElem? (i := 393) rfl
set_option maxRecDepth 20000 in
theorem tb_394 : (Jvm.Cond.laysFinal "EpochTreeModel" "EpochTreeModel" "length" "[I") ∈ tb := List.mem_of_getElem? (i := 394) rfl
set_option maxRecDepth 20000 in
theorem tb_395 : (Jvm.Cond.laysFinal "EpochTreeModel" "EpochTreeModel" "mark" "[I") ∈ tb := List.mem_of_getElem? (i := 395) rfl
set_option maxRecDepth 20000 in
theorem tb_396 : (Jvm.Cond.laysFinal "EpochTreeModel" "EpochTreeModel" "kind" "[I") ∈ tb := List.mem_of_getElem? (i := 396) rfl
set_option maxRecDepth 20000 in
theorem tb_397 : (Jvm.Cond.laysFinal "EpochTreeModel" "EpochTreeModel" "path" "[I") ∈ tb := List.mem_of_getElem? (i := 397) rfl
set_option maxRecDepth 20000 in
theorem tb_398 : (Jvm.Cond.laysFinal "EpochTreeModel" "EpochTreeModel" "first" "[I") ∈ tb := List.mem_of_getElem? (i := 398) rfl
set_option maxRecDepth 20000 in
theorem tb_399 : (Jvm.Cond.laysFinal "EpochTreeModel" "EpochTreeModel" "second" "[I") ∈ tb := List.mem_of_getElem? (i := 399) rfl
set_option maxRecDepth 20000 in
theorem tb_400 : (Jvm.Cond.laysFinal "EpochTreeModel" "EpochTreeModel" "chosen" "[I") ∈ tb := List.mem_of_getElem? (i := 400) rfl
set_option maxRecDepth 20000 in
theorem tb_401 : (Jvm.Cond.laysFinal "EpochTreeModel" "EpochTreeModel" "settled" "[Z") ∈ tb := List.mem_of_getElem? (i := 401) rfl
set_option maxRecDepth 20000 in
theorem tb_402 : (Jvm.Cond.laysFinal "EpochTreeModel" "EpochTreeModel" "made" "[I") ∈ tb := List.mem_of_getElem? (i := 402) rfl
set_option maxRecDepth 20000 in
theorem tb_403 : (Jvm.Cond.laysFinal "EpochTreeModel" "EpochTreeModel" "age" "[I") ∈ tb := List.mem_of_getElem? (i := 403) rfl
set_option maxRecDepth 20000 in
theorem tb_404 : (Jvm.Cond.laysFinal "EpochTreeModel" "EpochTreeModel" "leader" "[I") ∈ tb := List.mem_of_getElem? (i := 404) rfl
set_option maxRecDepth 20000 in
theorem tb_405 : (Jvm.Cond.laysFinal "EpochTreeModel" "EpochTreeModel" "waits" "[Z") ∈ tb := List.mem_of_getElem? (i := 405) rfl
set_option maxRecDepth 20000 in
theorem tb_406 : (Jvm.Cond.laysFinal "EpochTreeModel" "EpochTreeModel" "tied" "[Z") ∈ tb := List.mem_of_getElem? (i := 406) rfl
set_option maxRecDepth 20000 in
theorem tb_407 : (Jvm.Cond.laysFinal "EpochTreeModel" "EpochTreeModel" "heard" "[Z") ∈ tb := List.mem_of_getElem? (i := 407) rfl
set_option maxRecDepth 20000 in
theorem tb_408 : (Jvm.Cond.laysFinal "EpochTreeModel" "EpochTreeModel" "upKind" "[I") ∈ tb := List.mem_of_getElem? (i := 408) rfl
set_option maxRecDepth 20000 in
theorem tb_409 : (Jvm.Cond.laysFinal "EpochTreeModel" "EpochTreeModel" "upValue" "[I") ∈ tb := List.mem_of_getElem? (i := 409) rfl
set_option maxRecDepth 20000 in
theorem tb_410 : (Jvm.Cond.laysFinal "EpochTreeModel" "EpochTreeModel" "upSent" "[I") ∈ tb := List.mem_of_getElem? (i := 410) rfl
set_option maxRecDepth 20000 in
theorem tb_411 : (Jvm.Cond.laysFinal "EpochTreeModel" "EpochTreeModel" "upRead" "[I") ∈ tb := List.mem_of_getElem? (i := 411) rfl
set_option maxRecDepth 20000 in
theorem tb_412 : (Jvm.Cond.laysFinal "EpochTreeModel" "EpochTreeModel" "downKind" "[I") ∈ tb := List.mem_of_getElem? (i := 412) rfl
set_option maxRecDepth 20000 in
theorem tb_413 : (Jvm.Cond.laysFinal "EpochTreeModel" "EpochTreeModel" "downValue" "[I") ∈ tb := List.mem_of_getElem? (i := 413) rfl
set_option maxRecDepth 20000 in
theorem tb_414 : (Jvm.Cond.laysFinal "EpochTreeModel" "EpochTreeModel" "downSent" "[I") ∈ tb := List.mem_of_getElem? (i := 414) rfl
set_option maxRecDepth 20000 in
theorem tb_415 : (Jvm.Cond.laysFinal "EpochTreeModel" "EpochTreeModel" "downRead" "[I") ∈ tb := List.mem_of_getElem? (i := 415) rfl
set_option maxRecDepth 20000 in
theorem tb_416 : (Jvm.Cond.lays "EpochTreeModel" "EpochTreeModel" "nodes" "I") ∈ tb := List.mem_of_getElem? (i := 416) rfl
set_option maxRecDepth 20000 in
theorem tb_417 : (Jvm.Cond.laysFinal "EpochTreeModel" "EpochTreeModel" "nodePath" "[I") ∈ tb := List.mem_of_getElem? (i := 417) rfl
set_option maxRecDepth 20000 in
theorem tb_418 : (Jvm.Cond.laysFinal "EpochTreeModel" "EpochTreeModel" "nodeData" "[I") ∈ tb := List.mem_of_getElem? (i := 418) rfl
set_option maxRecDepth 20000 in
theorem tb_419 : (Jvm.Cond.laysFinal "EpochTreeModel" "EpochTreeModel" "nodeVersion" "[I") ∈ tb := List.mem_of_getElem? (i := 419) rfl
set_option maxRecDepth 20000 in
theorem tb_420 : (Jvm.Cond.laysFinal "EpochTreeModel" "EpochTreeModel" "nodeOwner" "[I") ∈ tb := List.mem_of_getElem? (i := 420) rfl
set_option maxRecDepth 20000 in
theorem tb_421 : (Jvm.Cond.laysFinal "EpochTreeModel" "EpochTreeModel" "open" "[Z") ∈ tb := List.mem_of_getElem? (i := 421) rfl
set_option maxRecDepth 20000 in
theorem tb_422 : (Jvm.Cond.laysFinal "EpochTreeModel" "EpochTreeModel" "results" "[I") ∈ tb := List.mem_of_getElem? (i := 422) rfl
set_option maxRecDepth 20000 in
theorem tb_423 : (Jvm.Cond.arrayClass Jvm.ClassFile.FieldType.boolean) ∈ tb := List.mem_of_getElem? (i := 423) rfl
set_option maxRecDepth 20000 in
theorem tb_424 : (Jvm.Cond.methodLink "EpochTreeLaw" (17 : Nat) ({ cls := "EpochTreeModel", name := "lead", desc := "(I)Z" } : Jvm.MethodName)) ∈ tb := List.mem_of_getElem? (i := 424) rfl
set_option maxRecDepth 20000 in
theorem tb_425 : (Jvm.Cond.instanceMethod ({ cls := "EpochTreeModel", name := "lead", desc := "(I)Z" } : Jvm.MethodName)) ∈ tb := List.mem_of_getElem? (i := 425) rfl
set_option maxRecDepth 20000 in
theorem tb_426 : (Jvm.Cond.selects "EpochTreeModel" ({ cls := "EpochTreeModel", name := "lead", desc := "(I)Z" } : Jvm.MethodName) ({ cls := "EpochTreeModel", name := "lead", desc := "(I)Z" } : Jvm.MethodName)) ∈ tb := List.mem_of_getElem? (i := 426) rfl
set_option maxRecDepth 20000 in
theorem tb_427 : (Jvm.Cond.code ({ cls := "EpochTreeModel", name := "lead", desc := "(I)Z" } : Jvm.MethodName) prog_9_method_12_code (2 : Nat) (Option.some Jvm.ClassFile.FieldType.boolean)) ∈ tb := List.mem_of_getElem? (i := 427) rfl
set_option maxRecDepth 20000 in
theorem tb_428 : (Jvm.Cond.methodLink "EpochTreeModel" (138 : Nat) ({ cls := "EpochTreeModel", name := "out", desc := "(I)Z" } : Jvm.MethodName)) ∈ tb := List.mem_of_getElem? (i := 428) rfl
set_option maxRecDepth 20000 in
theorem tb_429 : (Jvm.Cond.static ({ cls := "EpochTreeModel", name := "out", desc := "(I)Z" } : Jvm.MethodName)) ∈ tb := List.mem_of_getElem? (i := 429) rfl
set_option maxRecDepth 20000 in
theorem tb_430 : (Jvm.Cond.code ({ cls := "EpochTreeModel", name := "out", desc := "(I)Z" } : Jvm.MethodName) prog_9_method_2_code (1 : Nat) (Option.some Jvm.ClassFile.FieldType.boolean)) ∈ tb := List.mem_of_getElem? (i := 430) rfl
set_option maxRecDepth 20000 in
theorem tb_431 : (Jvm.Cond.methodLink "EpochTreeLaw" (22 : Nat) ({ cls := "EpochTreeModel", name := "follow", desc := "(II)Z" } : Jvm.MethodName)) ∈ tb := List.mem_of_getElem? (i := 431) rfl
set_option maxRecDepth 20000 in
theorem tb_432 : (Jvm.Cond.instanceMethod ({ cls := "EpochTreeModel", name := "follow", desc := "(II)Z" } : Jvm.MethodName)) ∈ tb := List.mem_of_getElem? (i := 432) rfl
set_option maxRecDepth 20000 in
theorem tb_433 : (Jvm.Cond.selects "EpochTreeModel" ({ cls := "EpochTreeModel", name := "follow", desc := "(II)Z" } : Jvm.MethodName) ({ cls := "EpochTreeModel", name := "follow", desc := "(II)Z" } : Jvm.MethodName)) ∈ tb := List.mem_of_getElem? (i := 433) rfl
set_option maxRecDepth 20000 in
theorem tb_434 : (Jvm.Cond.code ({ cls := "EpochTreeModel", name := "follow", desc := "(II)Z" } : Jvm.MethodName) prog_9_method_13_code (3 : Nat) (Option.some Jvm.ClassFile.FieldType.boolean)) ∈ tb := List.mem_of_getElem? (i := 434) rfl
set_option maxRecDepth 20000 in
theorem tb_435 : (Jvm.Cond.methodLink "EpochTreeModel" (134 : Nat) ({ cls := "EpochTreeModel", name := "cut", desc := "(I)V" } : Jvm.MethodName)) ∈ tb := List.mem_of_getElem? (i := 435) rfl
set_option maxRecDepth 20000 in
theorem tb_436 : (Jvm.Cond.instanceMethod ({ cls := "EpochTreeModel", name := "cut", desc := "(I)V" } : Jvm.MethodName)) ∈ tb := List.mem_of_getElem? (i := 436) rfl
set_option maxRecDepth 20000 in
theorem tb_437 : (Jvm.Cond.code ({ cls := "EpochTreeModel", name := "cut", desc := "(I)V" } : Jvm.MethodName) prog_9_method_9_code (2 : Nat) (Option.none : Option Jvm.ClassFile.FieldType)) ∈ tb := List.mem_of_getElem? (i := 437) rfl
set_option maxRecDepth 20000 in
theorem tb_438 : (Jvm.Cond.methodLink "EpochTreeModel" (142 : Nat) ({ cls := "EpochTreeModel", name := "sendUp", desc := "(III)V" } : Jvm.MethodName)) ∈ tb := List.mem_of_getElem? (i := 438) rfl
set_option maxRecDepth 20000 in
theorem tb_439 : (Jvm.Cond.instanceMethod ({ cls := "EpochTreeModel", name := "sendUp", desc := "(III)V" } : Jvm.MethodName)) ∈ tb := List.mem_of_getElem? (i := 439) rfl
set_option maxRecDepth 20000 in
theorem tb_440 : (Jvm.Cond.code ({ cls := "EpochTreeModel", name := "sendUp", desc := "(III)V" } : Jvm.MethodName) prog_9_method_17_code (5 : Nat) (Option.none : Option Jvm.ClassFile.FieldType)) ∈ tb := List.mem_of_getElem? (i := 440) rfl
set_option maxRecDepth 20000 in
theorem tb_441 : (Jvm.Cond.methodLink "EpochTreeLaw" (26 : Nat) ({ cls := "EpochTreeModel", name := "quit", desc := "(I)Z" } : Jvm.MethodName)) ∈ tb := List.mem_of_getElem? (i := 441) rfl
set_option maxRecDepth 20000 in
theorem tb_442 : (Jvm.Cond.instanceMethod ({ cls := "EpochTreeModel", name := "quit", desc := "(I)Z" } : Jvm.MethodName)) ∈ tb := List.mem_of_getElem? (i := 442) rfl
set_option maxRecDepth 20000 in
theorem tb_443 : (Jvm.Cond.selects "EpochTreeModel" ({ cls := "EpochTreeModel", name := "quit", desc := "(I)Z" } : Jvm.MethodName) ({ cls := "EpochTreeModel", name := "quit", desc := "(I)Z" } : Jvm.MethodName)) ∈ tb := List.mem_of_getElem? (i := 443) rfl
set_option maxRecDepth 20000 in
theorem tb_444 : (Jvm.Cond.code ({ cls := "EpochTreeModel", name := "quit", desc := "(I)Z" } : Jvm.MethodName) prog_9_method_14_code (2 : Nat) (Option.some Jvm.ClassFile.FieldType.boolean)) ∈ tb := List.mem_of_getElem? (i := 444) rfl
set_option maxRecDepth 20000 in
theorem tb_445 : (Jvm.Cond.methodLink "EpochTreeModel" (146 : Nat) ({ cls := "EpochTreeModel", name := "cease", desc := "(I)V" } : Jvm.MethodName)) ∈ tb := List.mem_of_getElem? (i := 445) rfl
set_option maxRecDepth 20000 in
theorem tb_446 : (Jvm.Cond.instanceMethod ({ cls := "EpochTreeModel", name := "cease", desc := "(I)V" } : Jvm.MethodName)) ∈ tb := List.mem_of_getElem? (i := 446) rfl
set_option maxRecDepth 20000 in
theorem tb_447 : (Jvm.Cond.code ({ cls := "EpochTreeModel", name := "cease", desc := "(I)V" } : Jvm.MethodName) prog_9_method_11_code (3 : Nat) (Option.none : Option Jvm.ClassFile.FieldType)) ∈ tb := List.mem_of_getElem? (i := 447) rfl
set_option maxRecDepth 20000 in
theorem tb_448 : (Jvm.Cond.methodLink "EpochTreeModel" (130 : Nat) ({ cls := "EpochTreeModel", name := "follows", desc := "(II)Z" } : Jvm.MethodName)) ∈ tb := List.mem_of_getElem? (i := 448) rfl
set_option maxRecDepth 20000 in
theorem tb_449 : (Jvm.Cond.instanceMethod ({ cls := "EpochTreeModel", name := "follows", desc := "(II)Z" } : Jvm.MethodName)) ∈ tb := List.mem_of_getElem? (i := 449) rfl
set_option maxRecDepth 20000 in
theorem tb_450 : (Jvm.Cond.code ({ cls := "EpochTreeModel", name := "follows", desc := "(II)Z" } : Jvm.MethodName) prog_9_method_10_code (3 : Nat) (Option.some Jvm.ClassFile.FieldType.boolean)) ∈ tb := List.mem_of_getElem? (i := 450) rfl
set_option maxRecDepth 20000 in
theorem tb_451 : (Jvm.Cond.methodLink "EpochTreeLaw" (30 : Nat) ({ cls := "EpochTreeModel", name := "crash", desc := "(I)Z" } : Jvm.MethodName)) ∈ tb := List.mem_of_getElem? (i := 451) rfl
set_option maxRecDepth 20000 in
theorem tb_452 : (Jvm.Cond.instanceMethod ({ cls := "EpochTreeModel", name := "crash", desc := "(I)Z" } : Jvm.MethodName)) ∈ tb := List.mem_of_getElem? (i := 452) rfl
set_option maxRecDepth 20000 in
theorem tb_453 : (Jvm.Cond.selects "EpochTreeModel" ({ cls := "EpochTreeModel", name := "crash", desc := "(I)Z" } : Jvm.MethodName) ({ cls := "EpochTreeModel", name := "crash", desc := "(I)Z" } : Jvm.MethodName)) ∈ tb := List.mem_of_getElem? (i := 453) rfl
set_option maxRecDepth 20000 in
theorem tb_454 : (Jvm.Cond.code ({ cls := "EpochTreeModel", name := "crash", desc := "(I)Z" } : Jvm.MethodName) prog_9_method_15_code (2 : Nat) (Option.some Jvm.ClassFile.FieldType.boolean)) ∈ tb := List.mem_of_getElem? (i := 454) rfl
set_option maxRecDepth 20000 in
theorem tb_455 : (Jvm.Cond.methodLink "EpochTreeLaw" (34 : Nat) ({ cls := "EpochTreeModel", name := "restart", desc := "(I)Z" } : Jvm.MethodName)) ∈ tb := List.mem_of_getElem? (i := 455) rfl
set_option maxRecDepth 20000 in
theorem tb_456 : (Jvm.Cond.instanceMethod ({ cls := "EpochTreeModel", name := "restart", desc := "(I)Z" } : Jvm.MethodName)) ∈ tb := List.mem_of_getElem? (i := 456) rfl
set_option maxRecDepth 20000 in
theorem tb_457 : (Jvm.Cond.selects "EpochTreeModel" ({ cls := "EpochTreeModel", name := "restart", desc := "(I)Z" } : Jvm.MethodName) ({ cls := "EpochTreeModel", name := "restart", desc := "(I)Z" } : Jvm.MethodName)) ∈ tb := List.mem_of_getElem? (i := 457) rfl
set_option maxRecDepth 20000 in
theorem tb_458 : (Jvm.Cond.code ({ cls := "EpochTreeModel", name := "restart", desc := "(I)Z" } : Jvm.MethodName) prog_9_method_16_code (2 : Nat) (Option.some Jvm.ClassFile.FieldType.boolean)) ∈ tb := List.mem_of_getElem? (i := 458) rfl
set_option maxRecDepth 20000 in
theorem tb_459 : (Jvm.Cond.methodLink "EpochTreeLaw" (39 : Nat) ({ cls := "EpochTreeModel", name := "up", desc := "(I)I" } : Jvm.MethodName)) ∈ tb := List.mem_of_getElem? (i := 459) rfl
set_option maxRecDepth 20000 in
theorem tb_460 : (Jvm.Cond.instanceMethod ({ cls := "EpochTreeModel", name := "up", desc := "(I)I" } : Jvm.MethodName)) ∈ tb := List.mem_of_getElem? (i := 460) rfl
set_option maxRecDepth 20000 in
theorem tb_461 : (Jvm.Cond.selects "EpochTreeModel" ({ cls := "EpochTreeModel", name := "up", desc := "(I)I" } : Jvm.MethodName) ({ cls := "EpochTreeModel", name := "up", desc := "(I)I" } : Jvm.MethodName)) ∈ tb := List.mem_of_getElem? (i := 461) rfl
set_option maxRecDepth 20000 in
theorem tb_462 : (Jvm.Cond.code ({ cls := "EpochTreeModel", name := "up", desc := "(I)I" } : Jvm.MethodName) prog_9_method_25_code (6 : Nat) (Option.some Jvm.ClassFile.FieldType.int)) ∈ tb := List.mem_of_getElem? (i := 462) rfl
set_option maxRecDepth 20000 in
theorem tb_463 : (Jvm.Cond.methodLink "EpochTreeModel" (149 : Nat) ({ cls := "EpochTreeModel", name := "sendDown", desc := "(III)V" } : Jvm.MethodName)) ∈ tb := List.mem_of_getElem? (i := 463) rfl
set_option maxRecDepth 20000 in
theorem tb_464 : (Jvm.Cond.instanceMethod ({ cls := "EpochTreeModel", name := "sendDown", desc := "(III)V" } : Jvm.MethodName)) ∈ tb := List.mem_of_getElem? (i := 464) rfl
set_option maxRecDepth 20000 in
theorem tb_465 : (Jvm.Cond.code ({ cls := "EpochTreeModel", name := "sendDown", desc := "(III)V" } : Jvm.MethodName) prog_9_method_18_code (5 : Nat) (Option.none : Option Jvm.ClassFile.FieldType)) ∈ tb := List.mem_of_getElem? (i := 465) rfl
set_option maxRecDepth 20000 in
theorem tb_466 : (Jvm.Cond.methodLink "EpochTreeModel" (165 : Nat) ({ cls := "EpochTreeModel", name := "accepted", desc := "(IIZ)V" } : Jvm.MethodName)) ∈ tb := List.mem_of_getElem? (i := 466) rfl
set_option maxRecDepth 20000 in
theorem tb_467 : (Jvm.Cond.instanceMethod ({ cls := "EpochTreeModel", name := "accepted", desc := "(IIZ)V" } : Jvm.MethodName)) ∈ tb := List.mem_of_getElem? (i := 467) rfl
set_option maxRecDepth 20000 in
theorem tb_468 : (Jvm.Cond.code ({ cls := "EpochTreeModel", name := "accepted", desc := "(IIZ)V" } : Jvm.MethodName) prog_9_method_23_code (5 : Nat) (Option.none : Option Jvm.ClassFile.FieldType)) ∈ tb := List.mem_of_getElem? (i := 468) rfl
set_option maxRecDepth 20000 in
theorem tb_469 : (Jvm.Cond.methodLink "EpochTreeModel" (156 : Nat) ({ cls := "EpochTreeModel", name := "newLeader", desc := "(II)V" } : Jvm.MethodName)) ∈ tb := List.mem_of_getElem? (i := 469) rfl
set_option maxRecDepth 20000 in
theorem tb_470 : (Jvm.Cond.instanceMethod ({ cls := "EpochTreeModel", name := "newLeader", desc := "(II)V" } : Jvm.MethodName)) ∈ tb := List.mem_of_getElem? (i := 470) rfl
set_option maxRecDepth 20000 in
theorem tb_471 : (Jvm.Cond.code ({ cls := "EpochTreeModel", name := "newLeader", desc := "(II)V" } : Jvm.MethodName) prog_9_method_19_code (3 : Nat) (Option.none : Option Jvm.ClassFile.FieldType)) ∈ tb := List.mem_of_getElem? (i := 471) rfl
set_option maxRecDepth 20000 in
theorem tb_472 : (Jvm.Cond.methodLink "EpochTreeModel" (159 : Nat) ({ cls := "EpochTreeModel", name := "lastMark", desc := "(I)I" } : Jvm.MethodName)) ∈ tb := List.mem_of_getElem? (i := 472) rfl
set_option maxRecDepth 20000 in
theorem tb_473 : (Jvm.Cond.instanceMethod ({ cls := "EpochTreeModel", name := "lastMark", desc := "(I)I" } : Jvm.MethodName)) ∈ tb := List.mem_of_getElem? (i := 473) rfl
set_option maxRecDepth 20000 in
theorem tb_474 : (Jvm.Cond.code ({ cls := "EpochTreeModel", name := "lastMark", desc := "(I)I" } : Jvm.MethodName) prog_9_method_22_code (2 : Nat) (Option.some Jvm.ClassFile.FieldType.int)) ∈ tb := List.mem_of_getElem? (i := 474) rfl
set_option maxRecDepth 20000 in
theorem tb_475 : (Jvm.Cond.methodLink "EpochTreeModel" (162 : Nat) ({ cls := "EpochTreeModel", name := "copy", desc := "(III)V" } : Jvm.MethodName)) ∈ tb := List.mem_of_getElem? (i := 475) rfl
set_option maxRecDepth 20000 in
theorem tb_476 : (Jvm.Cond.instanceMethod ({ cls := "EpochTreeModel", name := "copy", desc := "(III)V" } : Jvm.MethodName)) ∈ tb := List.mem_of_getElem? (i := 476) rfl
set_option maxRecDepth 20000 in
theorem tb_477 : (Jvm.Cond.code ({ cls := "EpochTreeModel", name := "copy", desc := "(III)V" } : Jvm.MethodName) prog_9_method_20_code (5 : Nat) (Option.none : Option Jvm.ClassFile.FieldType)) ∈ tb := List.mem_of_getElem? (i := 477) rfl
set_option maxRecDepth 20000 in
theorem tb_478 : (Jvm.Cond.methodLink "EpochTreeModel" (152 : Nat) ({ cls := "EpochTreeModel", name := "copyEntry", desc := "(II)V" } : Jvm.MethodName)) ∈ tb := List.mem_of_getElem? (i := 478) rfl
set_option maxRecDepth 20000 in
theorem tb_479 : (Jvm.Cond.instanceMethod ({ cls := "EpochTreeModel", name := "copyEntry", desc := "(II)V" } : Jvm.MethodName)) ∈ tb := List.mem_of_getElem? (i := 479) rfl
set_option maxRecDepth 20000 in
theorem tb_480 : (Jvm.Cond.code ({ cls := "EpochTreeModel", name := "copyEntry", desc := "(II)V" } : Jvm.MethodName) prog_9_method_21_code (3 : Nat) (Option.none : Option Jvm.ClassFile.FieldType)) ∈ tb := List.mem_of_getElem? (i := 480) rfl
set_option maxRecDepth 20000 in
theorem tb_481 : (Jvm.Cond.methodLink "EpochTreeModel" (169 : Nat) ({ cls := "EpochTreeModel", name := "acknowledged", desc := "(III)V" } : Jvm.MethodName)) ∈ tb := List.mem_of_getElem? (i := 481) rfl
set_option maxRecDepth 20000 in
theorem tb_482 : (Jvm.Cond.instanceMethod ({ cls := "EpochTreeModel", name := "acknowledged", desc := "(III)V" } : Jvm.MethodName)) ∈ tb := List.mem_of_getElem? (i := 482) rfl
set_option maxRecDepth 20000 in
theorem tb_483 : (Jvm.Cond.code ({ cls := "EpochTreeModel", name := "acknowledged", desc := "(III)V" } : Jvm.MethodName) prog_9_method_24_code (6 : Nat) (Option.none : Option Jvm.ClassFile.FieldType)) ∈ tb := List.mem_of_getElem? (i := 483) rfl
set_option maxRecDepth 20000 in
theorem tb_484 : (Jvm.Cond.methodLink "EpochTreeLaw" (43 : Nat) ({ cls := "EpochTreeModel", name := "down", desc := "(I)I" } : Jvm.MethodName)) ∈ tb := List.mem_of_getElem? (i := 484) rfl
set_option maxRecDepth 20000 in
theorem tb_485 : (Jvm.Cond.instanceMethod ({ cls := "EpochTreeModel", name := "down", desc := "(I)I" } : Jvm.MethodName)) ∈ tb := List.mem_of_getElem? (i := 485) rfl
set_option maxRecDepth 20000 in
theorem tb_486 : (Jvm.Cond.selects "EpochTreeModel" ({ cls := "EpochTreeModel", name := "down", desc := "(I)I" } : Jvm.MethodName) ({ cls := "EpochTreeModel", name := "down", desc := "(I)I" } : Jvm.MethodName)) ∈ tb := List.mem_of_getElem? (i := 486) rfl
set_option maxRecDepth 20000 in
theorem tb_487 : (Jvm.Cond.code ({ cls := "EpochTreeModel", name := "down", desc := "(I)I" } : Jvm.MethodName) prog_9_method_26_code (6 : Nat) (Option.some Jvm.ClassFile.FieldType.int)) ∈ tb := List.mem_of_getElem? (i := 487) rfl
set_option maxRecDepth 20000 in
theorem tb_488 : (Jvm.Cond.methodLink "EpochTreeLaw" (48 : Nat) ({ cls := "EpochTreeModel", name := "submit", desc := "(IIIII)I" } : Jvm.MethodName)) ∈ tb := List.mem_of_getElem? (i := 488) rfl
set_option maxRecDepth 20000 in
theorem tb_489 : (Jvm.Cond.instanceMethod ({ cls := "EpochTreeModel", name := "submit", desc := "(IIIII)I" } : Jvm.MethodName)) ∈ tb := List.mem_of_getElem? (i := 489) rfl
set_option maxRecDepth 20000 in
theorem tb_490 : (Jvm.Cond.selects "EpochTreeModel" ({ cls := "EpochTreeModel", name := "submit", desc := "(IIIII)I" } : Jvm.MethodName) ({ cls := "EpochTreeModel", name := "submit", desc := "(IIIII)I" } : Jvm.MethodName)) ∈ tb := List.mem_of_getElem? (i := 490) rfl
set_option maxRecDepth 20000 in
theorem tb_491 : (Jvm.Cond.code ({ cls := "EpochTreeModel", name := "submit", desc := "(IIIII)I" } : Jvm.MethodName) prog_9_method_29_code (6 : Nat) (Option.some Jvm.ClassFile.FieldType.int)) ∈ tb := List.mem_of_getElem? (i := 491) rfl
set_option maxRecDepth 20000 in
theorem tb_492 : (Jvm.Cond.methodLink "EpochTreeModel" (172 : Nat) ({ cls := "EpochTreeModel", name := "isPath", desc := "(I)Z" } : Jvm.MethodName)) ∈ tb := List.mem_of_getElem? (i := 492) rfl
set_option maxRecDepth 20000 in
theorem tb_493 : (Jvm.Cond.static ({ cls := "EpochTreeModel", name := "isPath", desc := "(I)Z" } : Jvm.MethodName)) ∈ tb := List.mem_of_getElem? (i := 493) rfl
set_option maxRecDepth 20000 in
theorem tb_494 : (Jvm.Cond.code ({ cls := "EpochTreeModel", name := "isPath", desc := "(I)Z" } : Jvm.MethodName) prog_9_method_28_code (1 : Nat) (Option.some Jvm.ClassFile.FieldType.boolean)) ∈ tb := List.mem_of_getElem? (i := 494) rfl
set_option maxRecDepth 20000 in
theorem tb_495 : (Jvm.Cond.methodLink "EpochTreeModel" (175 : Nat) ({ cls := "EpochTreeModel", name := "make", desc := "(IIIII)V" } : Jvm.MethodName)) ∈ tb := List.mem_of_getElem? (i := 495) rfl
set_option maxRecDepth 20000 in
theorem tb_496 : (Jvm.Cond.instanceMethod ({ cls := "EpochTreeModel", name := "make", desc := "(IIIII)V" } : Jvm.MethodName)) ∈ tb := List.mem_of_getElem? (i := 496) rfl
set_option maxRecDepth 20000 in
theorem tb_497 : (Jvm.Cond.code ({ cls := "EpochTreeModel", name := "make", desc := "(IIIII)V" } : Jvm.MethodName) prog_9_method_27_code (8 : Nat) (Option.none : Option Jvm.ClassFile.FieldType)) ∈ tb := List.mem_of_getElem? (i := 497) rfl
set_option maxRecDepth 20000 in
theorem tb_498 : (Jvm.Cond.methodLink "EpochTreeLaw" (53 : Nat) ({ cls := "EpochTreeModel", name := "tick", desc := "()I" } : Jvm.MethodName)) ∈ tb := List.mem_of_getElem? (i := 498) rfl
set_option maxRecDepth 20000 in
theorem tb_499 : (Jvm.Cond.instanceMethod ({ cls := "EpochTreeModel", name := "tick", desc := "()I" } : Jvm.MethodName)) ∈ tb := List.mem_of_getElem? (i := 499) rfl
set_option maxRecDepth 20000 in
theorem tb_500 : (Jvm.Cond.selects "EpochTreeModel" ({ cls := "EpochTreeModel", name := "tick", desc := "()I" } : Jvm.MethodName) ({ cls := "EpochTreeModel", name := "tick", desc := "()I" } : Jvm.MethodName)) ∈ tb := List.mem_of_getElem? (i := 500) rfl
set_option maxRecDepth 20000 in
theorem tb_501 : (Jvm.Cond.code ({ cls := "EpochTreeModel", name := "tick", desc := "()I" } : Jvm.MethodName) prog_9_method_30_code (5 : Nat) (Option.some Jvm.ClassFile.FieldType.int)) ∈ tb := List.mem_of_getElem? (i := 501) rfl
set_option maxRecDepth 20000 in
theorem tb_502 : (Jvm.Cond.methodLink "EpochTreeModel" (179 : Nat) ({ cls := "EpochTreeModel", name := "work", desc := "(I)V" } : Jvm.MethodName)) ∈ tb := List.mem_of_getElem? (i := 502) rfl
set_option maxRecDepth 20000 in
theorem tb_503 : (Jvm.Cond.instanceMethod ({ cls := "EpochTreeModel", name := "work", desc := "(I)V" } : Jvm.MethodName)) ∈ tb := List.mem_of_getElem? (i := 503) rfl
set_option maxRecDepth 20000 in
theorem tb_504 : (Jvm.Cond.code ({ cls := "EpochTreeModel", name := "work", desc := "(I)V" } : Jvm.MethodName) prog_9_method_8_code (6 : Nat) (Option.none : Option Jvm.ClassFile.FieldType)) ∈ tb := List.mem_of_getElem? (i := 504) rfl
set_option maxRecDepth 20000 in
theorem tb_505 : (Jvm.Cond.methodLink "EpochTreeModel" (118 : Nat) ({ cls := "EpochTreeModel", name := "create", desc := "(III)I" } : Jvm.MethodName)) ∈ tb := List.mem_of_getElem? (i := 505) rfl
set_option maxRecDepth 20000 in
theorem tb_506 : (Jvm.Cond.instanceMethod ({ cls := "EpochTreeModel", name := "create", desc := "(III)I" } : Jvm.MethodName)) ∈ tb := List.mem_of_getElem? (i := 506) rfl
set_option maxRecDepth 20000 in
theorem tb_507 : (Jvm.Cond.code ({ cls := "EpochTreeModel", name := "create", desc := "(III)I" } : Jvm.MethodName) prog_9_method_5_code (5 : Nat) (Option.some Jvm.ClassFile.FieldType.int)) ∈ tb := List.mem_of_getElem? (i := 507) rfl
set_option maxRecDepth 20000 in
theorem tb_508 : (Jvm.Cond.methodLink "EpochTreeModel" (111 : Nat) ({ cls := "EpochTreeModel", name := "find", desc := "(I)I" } : Jvm.MethodName)) ∈ tb := List.mem_of_getElem? (i := 508) rfl
set_option maxRecDepth 20000 in
theorem tb_509 : (Jvm.Cond.instanceMethod ({ cls := "EpochTreeModel", name := "find", desc := "(I)I" } : Jvm.MethodName)) ∈ tb := List.mem_of_getElem? (i := 509) rfl
set_option maxRecDepth 20000 in
theorem tb_510 : (Jvm.Cond.code ({ cls := "EpochTreeModel", name := "find", desc := "(I)I" } : Jvm.MethodName) prog_9_method_3_code (3 : Nat) (Option.some Jvm.ClassFile.FieldType.int)) ∈ tb := List.mem_of_getElem? (i := 510) rfl
set_option maxRecDepth 20000 in
theorem tb_511 : (Jvm.Cond.methodLink "EpochTreeModel" (122 : Nat) ({ cls := "EpochTreeModel", name := "alter", desc := "(ZIII)I" } : Jvm.MethodName)) ∈ tb := List.mem_of_getElem? (i := 511) rfl
set_option maxRecDepth 20000 in
theorem tb_512 : (Jvm.Cond.instanceMethod ({ cls := "EpochTreeModel", name := "alter", desc := "(ZIII)I" } : Jvm.MethodName)) ∈ tb := List.mem_of_getElem? (i := 512) rfl
set_option maxRecDepth 20000 in
theorem tb_513 : (Jvm.Cond.code ({ cls := "EpochTreeModel", name := "alter", desc := "(ZIII)I" } : Jvm.MethodName) prog_9_method_6_code (6 : Nat) (Option.some Jvm.ClassFile.FieldType.int)) ∈ tb := List.mem_of_getElem? (i := 513) rfl
set_option maxRecDepth 20000 in
theorem tb_514 : (Jvm.Cond.methodLink "EpochTreeModel" (115 : Nat) ({ cls := "EpochTreeModel", name := "children", desc := "(I)I" } : Jvm.MethodName)) ∈ tb := List.mem_of_getElem? (i := 514) rfl
set_option maxRecDepth 20000 in
theorem tb_515 : (Jvm.Cond.instanceMethod ({ cls := "EpochTreeModel", name := "children", desc := "(I)I" } : Jvm.MethodName)) ∈ tb := List.mem_of_getElem? (i := 515) rfl
set_option maxRecDepth 20000 in
theorem tb_516 : (Jvm.Cond.code ({ cls := "EpochTreeModel", name := "children", desc := "(I)I" } : Jvm.MethodName) prog_9_method_4_code (4 : Nat) (Option.some Jvm.ClassFile.FieldType.int)) ∈ tb := List.mem_of_getElem? (i := 516) rfl
set_option maxRecDepth 20000 in
theorem tb_517 : (Jvm.Cond.methodLink "EpochTreeModel" (126 : Nat) ({ cls := "EpochTreeModel", name := "session", desc := "(ZI)I" } : Jvm.MethodName)) ∈ tb := List.mem_of_getElem? (i := 517) rfl
set_option maxRecDepth 20000 in
theorem tb_518 : (Jvm.Cond.instanceMethod ({ cls := "EpochTreeModel", name := "session", desc := "(ZI)I" } : Jvm.MethodName)) ∈ tb := List.mem_of_getElem? (i := 518) rfl
set_option maxRecDepth 20000 in
theorem tb_519 : (Jvm.Cond.code ({ cls := "EpochTreeModel", name := "session", desc := "(ZI)I" } : Jvm.MethodName) prog_9_method_7_code (4 : Nat) (Option.some Jvm.ClassFile.FieldType.int)) ∈ tb := List.mem_of_getElem? (i := 519) rfl
set_option maxRecDepth 20000 in
theorem tb_520 : (Jvm.Cond.methodLink "EpochTreeLaw" (57 : Nat) ({ cls := "EpochTreeModel", name := "touch", desc := "(II)Z" } : Jvm.MethodName)) ∈ tb := List.mem_of_getElem? (i := 520) rfl
set_option maxRecDepth 20000 in
theorem tb_521 : (Jvm.Cond.instanceMethod ({ cls := "EpochTreeModel", name := "touch", desc := "(II)Z" } : Jvm.MethodName)) ∈ tb := List.mem_of_getElem? (i := 521) rfl
set_option maxRecDepth 20000 in
theorem tb_522 : (Jvm.Cond.selects "EpochTreeModel" ({ cls := "EpochTreeModel", name := "touch", desc := "(II)Z" } : Jvm.MethodName) ({ cls := "EpochTreeModel", name := "touch", desc := "(II)Z" } : Jvm.MethodName)) ∈ tb := List.mem_of_getElem? (i := 522) rfl
set_option maxRecDepth 20000 in
theorem tb_523 : (Jvm.Cond.code ({ cls := "EpochTreeModel", name := "touch", desc := "(II)Z" } : Jvm.MethodName) prog_9_method_31_code (3 : Nat) (Option.some Jvm.ClassFile.FieldType.boolean)) ∈ tb := List.mem_of_getElem? (i := 523) rfl
set_option maxRecDepth 20000 in
theorem tb_524 : (Jvm.Cond.methodLink "EpochTreeLaw" (61 : Nat) ({ cls := "EpochTreeModel", name := "role", desc := "(I)I" } : Jvm.MethodName)) ∈ tb := List.mem_of_getElem? (i := 524) rfl
set_option maxRecDepth 20000 in
theorem tb_525 : (Jvm.Cond.instanceMethod ({ cls := "EpochTreeModel", name := "role", desc := "(I)I" } : Jvm.MethodName)) ∈ tb := List.mem_of_getElem? (i := 525) rfl
set_option maxRecDepth 20000 in
theorem tb_526 : (Jvm.Cond.selects "EpochTreeModel" ({ cls := "EpochTreeModel", name := "role", desc := "(I)I" } : Jvm.MethodName) ({ cls := "EpochTreeModel", name := "role", desc := "(I)I" } : Jvm.MethodName)) ∈ tb := List.mem_of_getElem? (i := 526) rfl
set_option maxRecDepth 20000 in
theorem tb_527 : (Jvm.Cond.code ({ cls := "EpochTreeModel", name := "role", desc := "(I)I" } : Jvm.MethodName) prog_9_method_32_code (2 : Nat) (Option.some Jvm.ClassFile.FieldType.int)) ∈ tb := List.mem_of_getElem? (i := 527) rfl
set_option maxRecDepth 20000 in
theorem tb_528 : (Jvm.Cond.methodLink "EpochTreeLaw" (65 : Nat) ({ cls := "EpochTreeModel", name := "promise", desc := "(I)I" } : Jvm.MethodName)) ∈ tb := List.mem_of_getElem? (i := 528) rfl
set_option maxRecDepth 20000 in
theorem tb_529 : (Jvm.Cond.instanceMethod ({ cls := "EpochTreeModel", name := "promise", desc := "(I)I" } : Jvm.MethodName)) ∈ tb := List.mem_of_getElem? (i := 529) rfl
set_option maxRecDepth 20000 in
theorem tb_530 : (Jvm.Cond.selects "EpochTreeModel" ({ cls := "EpochTreeModel", name := "promise", desc := "(I)I" } : Jvm.MethodName) ({ cls := "EpochTreeModel", name := "promise", desc := "(I)I" } : Jvm.MethodName)) ∈ tb := List.mem_of_getElem? (i := 530) rfl
set_option maxRecDepth 20000 in
theorem tb_531 : (Jvm.Cond.code ({ cls := "EpochTreeModel", name := "promise", desc := "(I)I" } : Jvm.MethodName) prog_9_method_33_code (2 : Nat) (Option.some Jvm.ClassFile.FieldType.int)) ∈ tb := List.mem_of_getElem? (i := 531) rfl
set_option maxRecDepth 20000 in
theorem tb_532 : (Jvm.Cond.methodLink "EpochTreeLaw" (69 : Nat) ({ cls := "EpochTreeModel", name := "epoch", desc := "(I)I" } : Jvm.MethodName)) ∈ tb := List.mem_of_getElem? (i := 532) rfl
set_option maxRecDepth 20000 in
theorem tb_533 : (Jvm.Cond.instanceMethod ({ cls := "EpochTreeModel", name := "epoch", desc := "(I)I" } : Jvm.MethodName)) ∈ tb := List.mem_of_getElem? (i := 533) rfl
set_option maxRecDepth 20000 in
theorem tb_534 : (Jvm.Cond.selects "EpochTreeModel" ({ cls := "EpochTreeModel", name := "epoch", desc := "(I)I" } : Jvm.MethodName) ({ cls := "EpochTreeModel", name := "epoch", desc := "(I)I" } : Jvm.MethodName)) ∈ tb := List.mem_of_getElem? (i := 534) rfl
set_option maxRecDepth 20000 in
theorem tb_535 : (Jvm.Cond.code ({ cls := "EpochTreeModel", name := "epoch", desc := "(I)I" } : Jvm.MethodName) prog_9_method_34_code (2 : Nat) (Option.some Jvm.ClassFile.FieldType.int)) ∈ tb := List.mem_of_getElem? (i := 535) rfl
set_option maxRecDepth 20000 in
theorem tb_536 : (Jvm.Cond.methodLink "EpochTreeLaw" (73 : Nat) ({ cls := "EpochTreeModel", name := "length", desc := "(I)I" } : Jvm.MethodName)) ∈ tb := List.mem_of_getElem? (i := 536) rfl
set_option maxRecDepth 20000 in
theorem tb_537 : (Jvm.Cond.instanceMethod ({ cls := "EpochTreeModel", name := "length", desc := "(I)I" } : Jvm.MethodName)) ∈ tb := List.mem_of_getElem? (i := 537) rfl
set_option maxRecDepth 20000 in
theorem tb_538 : (Jvm.Cond.selects "EpochTreeModel" ({ cls := "EpochTreeModel", name := "length", desc := "(I)I" } : Jvm.MethodName) ({ cls := "EpochTreeModel", name := "length", desc := "(I)I" } : Jvm.MethodName)) ∈ tb := List.mem_of_getElem? (i := 538) rfl
set_option maxRecDepth 20000 in
theorem tb_539 : (Jvm.Cond.code ({ cls := "EpochTreeModel", name := "length", desc := "(I)I" } : Jvm.MethodName) prog_9_method_35_code (2 : Nat) (Option.some Jvm.ClassFile.FieldType.int)) ∈ tb := List.mem_of_getElem? (i := 539) rfl
set_option maxRecDepth 20000 in
theorem tb_540 : (Jvm.Cond.methodLink "EpochTreeLaw" (78 : Nat) ({ cls := "EpochTreeModel", name := "mark", desc := "(II)I" } : Jvm.MethodName)) ∈ tb := List.mem_of_getElem? (i := 540) rfl
set_option maxRecDepth 20000 in
theorem tb_541 : (Jvm.Cond.instanceMethod ({ cls := "EpochTreeModel", name := "mark", desc := "(II)I" } : Jvm.MethodName)) ∈ tb := List.mem_of_getElem? (i := 541) rfl
set_option maxRecDepth 20000 in
theorem tb_542 : (Jvm.Cond.selects "EpochTreeModel" ({ cls := "EpochTreeModel", name := "mark", desc := "(II)I" } : Jvm.MethodName) ({ cls := "EpochTreeModel", name := "mark", desc := "(II)I" } : Jvm.MethodName)) ∈ tb := List.mem_of_getElem? (i := 542) rfl
set_option maxRecDepth 20000 in
theorem tb_543 : (Jvm.Cond.code ({ cls := "EpochTreeModel", name := "mark", desc := "(II)I" } : Jvm.MethodName) prog_9_method_36_code (3 : Nat) (Option.some Jvm.ClassFile.FieldType.int)) ∈ tb := List.mem_of_getElem? (i := 543) rfl
set_option maxRecDepth 20000 in
theorem tb_544 : (Jvm.Cond.methodLink "EpochTreeLaw" (82 : Nat) ({ cls := "EpochTreeModel", name := "applied", desc := "(I)I" } : Jvm.MethodName)) ∈ tb := List.mem_of_getElem? (i := 544) rfl
set_option maxRecDepth 20000 in
theorem tb_545 : (Jvm.Cond.instanceMethod ({ cls := "EpochTreeModel", name := "applied", desc := "(I)I" } : Jvm.MethodName)) ∈ tb := List.mem_of_getElem? (i := 545) rfl
set_option maxRecDepth 20000 in
theorem tb_546 : (Jvm.Cond.selects "EpochTreeModel" ({ cls := "EpochTreeModel", name := "applied", desc := "(I)I" } : Jvm.MethodName) ({ cls := "EpochTreeModel", name := "applied", desc := "(I)I" } : Jvm.MethodName)) ∈ tb := List.mem_of_getElem? (i := 546) rfl
set_option maxRecDepth 20000 in
theorem tb_547 : (Jvm.Cond.code ({ cls := "EpochTreeModel", name := "applied", desc := "(I)I" } : Jvm.MethodName) prog_9_method_37_code (2 : Nat) (Option.some Jvm.ClassFile.FieldType.int)) ∈ tb := List.mem_of_getElem? (i := 547) rfl
set_option maxRecDepth 20000 in
theorem tb_548 : (Jvm.Cond.methodLink "EpochTreeLaw" (86 : Nat) ({ cls := "EpochTreeModel", name := "result", desc := "(II)I" } : Jvm.MethodName)) ∈ tb := List.mem_of_getElem? (i := 548) rfl
set_option maxRecDepth 20000 in
theorem tb_549 : (Jvm.Cond.instanceMethod ({ cls := "EpochTreeModel", name := "result", desc := "(II)I" } : Jvm.MethodName)) ∈ tb := List.mem_of_getElem? (i := 549) rfl
set_option maxRecDepth 20000 in
theorem tb_550 : (Jvm.Cond.selects "EpochTreeModel" ({ cls := "EpochTreeModel", name := "result", desc := "(II)I" } : Jvm.MethodName) ({ cls := "EpochTreeModel", name := "result", desc := "(II)I" } : Jvm.MethodName)) ∈ tb := List.mem_of_getElem? (i := 550) rfl
set_option maxRecDepth 20000 in
theorem tb_551 : (Jvm.Cond.code ({ cls := "EpochTreeModel", name := "result", desc := "(II)I" } : Jvm.MethodName) prog_9_method_38_code (3 : Nat) (Option.some Jvm.ClassFile.FieldType.int)) ∈ tb := List.mem_of_getElem? (i := 551) rfl
set_option maxRecDepth 20000 in
theorem tb_552 : (Jvm.Cond.methodLink "EpochTreeLaw" (91 : Nat) ({ cls := "EpochTreeModel", name := "node", desc := "(III)I" } : Jvm.MethodName)) ∈ tb := List.mem_of_getElem? (i := 552) rfl
set_option maxRecDepth 20000 in
theorem tb_553 : (Jvm.Cond.instanceMethod ({ cls := "EpochTreeModel", name := "node", desc := "(III)I" } : Jvm.MethodName)) ∈ tb := List.mem_of_getElem? (i := 553) rfl
set_option maxRecDepth 20000 in
theorem tb_554 : (Jvm.Cond.selects "EpochTreeModel" ({ cls := "EpochTreeModel", name := "node", desc := "(III)I" } : Jvm.MethodName) ({ cls := "EpochTreeModel", name := "node", desc := "(III)I" } : Jvm.MethodName)) ∈ tb := List.mem_of_getElem? (i := 554) rfl
set_option maxRecDepth 20000 in
theorem tb_555 : (Jvm.Cond.code ({ cls := "EpochTreeModel", name := "node", desc := "(III)I" } : Jvm.MethodName) prog_9_method_39_code (5 : Nat) (Option.some Jvm.ClassFile.FieldType.int)) ∈ tb := List.mem_of_getElem? (i := 555) rfl
set_option maxRecDepth 20000 in
theorem tb_556 : (Jvm.Cond.methodLink "EpochTreeLaw" (95 : Nat) ({ cls := "EpochTreeModel", name := "tree", desc := "(I)I" } : Jvm.MethodName)) ∈ tb := List.mem_of_getElem? (i := 556) rfl
set_option maxRecDepth 20000 in
theorem tb_557 : (Jvm.Cond.instanceMethod ({ cls := "EpochTreeModel", name := "tree", desc := "(I)I" } : Jvm.MethodName)) ∈ tb := List.mem_of_getElem? (i := 557) rfl
set_option maxRecDepth 20000 in
theorem tb_558 : (Jvm.Cond.selects "EpochTreeModel" ({ cls := "EpochTreeModel", name := "tree", desc := "(I)I" } : Jvm.MethodName) ({ cls := "EpochTreeModel", name := "tree", desc := "(I)I" } : Jvm.MethodName)) ∈ tb := List.mem_of_getElem? (i := 558) rfl
set_option maxRecDepth 20000 in
theorem tb_559 : (Jvm.Cond.code ({ cls := "EpochTreeModel", name := "tree", desc := "(I)I" } : Jvm.MethodName) prog_9_method_40_code (4 : Nat) (Option.some Jvm.ClassFile.FieldType.int)) ∈ tb := List.mem_of_getElem? (i := 559) rfl
set_option maxRecDepth 20000 in
theorem tb_560 : (Jvm.Cond.methodLink "EpochTreeLaw" (100 : Nat) ({ cls := "EpochTreeModel", name := "waiting", desc := "(IZ)I" } : Jvm.MethodName)) ∈ tb := List.mem_of_getElem? (i := 560) rfl
set_option maxRecDepth 20000 in
theorem tb_561 : (Jvm.Cond.instanceMethod ({ cls := "EpochTreeModel", name := "waiting", desc := "(IZ)I" } : Jvm.MethodName)) ∈ tb := List.mem_of_getElem? (i := 561) rfl
set_option maxRecDepth 20000 in
theorem tb_562 : (Jvm.Cond.selects "EpochTreeModel" ({ cls := "EpochTreeModel", name := "waiting", desc := "(IZ)I" } : Jvm.MethodName) ({ cls := "EpochTreeModel", name := "waiting", desc := "(IZ)I" } : Jvm.MethodName)) ∈ tb := List.mem_of_getElem? (i := 562) rfl
set_option maxRecDepth 20000 in
theorem tb_563 : (Jvm.Cond.code ({ cls := "EpochTreeModel", name := "waiting", desc := "(IZ)I" } : Jvm.MethodName) prog_9_method_41_code (3 : Nat) (Option.some Jvm.ClassFile.FieldType.int)) ∈ tb := List.mem_of_getElem? (i := 563) rfl
set_option maxRecDepth 20000 in
theorem tb_564 : (Jvm.Cond.selects "EpochTree" ({ cls := "EpochTree", name := "hasRole", desc := "(II)Z" } : Jvm.MethodName) ({ cls := "EpochTree", name := "hasRole", desc := "(II)Z" } : Jvm.MethodName)) ∈ tb := List.mem_of_getElem? (i := 564) rfl
set_option maxRecDepth 20000 in
theorem tb_565 : (Jvm.Cond.selects "EpochTree$Term" ({ cls := "EpochTree$Term", name := "begin", desc := "()V" } : Jvm.MethodName) ({ cls := "EpochTree$Term", name := "begin", desc := "()V" } : Jvm.MethodName)) ∈ tb := List.mem_of_getElem? (i := 565) rfl
set_option maxRecDepth 20000 in
theorem tb_566 : (Jvm.Cond.selects "EpochTree" ({ cls := "EpochTree", name := "leads", desc := "(I)Z" } : Jvm.MethodName) ({ cls := "EpochTree", name := "leads", desc := "(I)Z" } : Jvm.MethodName)) ∈ tb := List.mem_of_getElem? (i := 566) rfl
set_option maxRecDepth 20000 in
theorem tb_567 : (Jvm.Cond.selects "EpochTree$Row" ({ cls := "EpochTree$Row", name := "send", desc := "(II)V" } : Jvm.MethodName) ({ cls := "EpochTree$Row", name := "send", desc := "(II)V" } : Jvm.MethodName)) ∈ tb := List.mem_of_getElem? (i := 567) rfl
set_option maxRecDepth 20000 in
theorem tb_568 : (Jvm.Cond.selects "EpochTree" ({ cls := "EpochTree", name := "stopTo", desc := "(II)V" } : Jvm.MethodName) ({ cls := "EpochTree", name := "stopTo", desc := "(II)V" } : Jvm.MethodName)) ∈ tb := List.mem_of_getElem? (i := 568) rfl
set_option maxRecDepth 20000 in
theorem tb_569 : (Jvm.Cond.selects "EpochTree$Link" ({ cls := "EpochTree$Link", name := "clear", desc := "()V" } : Jvm.MethodName) ({ cls := "EpochTree$Link", name := "clear", desc := "()V" } : Jvm.MethodName)) ∈ tb := List.mem_of_getElem? (i := 569) rfl
set_option maxRecDepth 20000 in
theorem tb_570 : (Jvm.Cond.selects "EpochTree$Row" ({ cls := "EpochTree$Row", name := "clear", desc := "()V" } : Jvm.MethodName) ({ cls := "EpochTree$Row", name := "clear", desc := "()V" } : Jvm.MethodName)) ∈ tb := List.mem_of_getElem? (i := 570) rfl
set_option maxRecDepth 20000 in
theorem tb_571 : (Jvm.Cond.selects "EpochTree$Server" ({ cls := "EpochTree$Server", name := "forgetApplied", desc := "()V" } : Jvm.MethodName) ({ cls := "EpochTree$Server", name := "forgetApplied", desc := "()V" } : Jvm.MethodName)) ∈ tb := List.mem_of_getElem? (i := 571) rfl
set_option maxRecDepth 20000 in
theorem tb_572 : (Jvm.Cond.selects "EpochTree$Tree" ({ cls := "EpochTree$Tree", name := "clear", desc := "()V" } : Jvm.MethodName) ({ cls := "EpochTree$Tree", name := "clear", desc := "()V" } : Jvm.MethodName)) ∈ tb := List.mem_of_getElem? (i := 572) rfl
set_option maxRecDepth 20000 in
theorem tb_573 : (Jvm.Cond.selects "EpochTree$Row" ({ cls := "EpochTree$Row", name := "count", desc := "()I" } : Jvm.MethodName) ({ cls := "EpochTree$Row", name := "count", desc := "()I" } : Jvm.MethodName)) ∈ tb := List.mem_of_getElem? (i := 573) rfl
set_option maxRecDepth 20000 in
theorem tb_574 : (Jvm.Cond.selects "EpochTree$Row" ({ cls := "EpochTree$Row", name := "firstKind", desc := "()I" } : Jvm.MethodName) ({ cls := "EpochTree$Row", name := "firstKind", desc := "()I" } : Jvm.MethodName)) ∈ tb := List.mem_of_getElem? (i := 574) rfl
set_option maxRecDepth 20000 in
theorem tb_575 : (Jvm.Cond.selects "EpochTree$Row" ({ cls := "EpochTree$Row", name := "firstValue", desc := "()I" } : Jvm.MethodName) ({ cls := "EpochTree$Row", name := "firstValue", desc := "()I" } : Jvm.MethodName)) ∈ tb := List.mem_of_getElem? (i := 575) rfl
set_option maxRecDepth 20000 in
theorem tb_576 : (Jvm.Cond.selects "EpochTree$Row" ({ cls := "EpochTree$Row", name := "dropFirst", desc := "()V" } : Jvm.MethodName) ({ cls := "EpochTree$Row", name := "dropFirst", desc := "()V" } : Jvm.MethodName)) ∈ tb := List.mem_of_getElem? (i := 576) rfl
set_option maxRecDepth 20000 in
theorem tb_577 : (Jvm.Cond.selects "EpochTree" ({ cls := "EpochTree", name := "readAccepted", desc := "(LEpochTree$Server;LEpochTree$Server;Z)V" } : Jvm.MethodName) ({ cls := "EpochTree", name := "readAccepted", desc := "(LEpochTree$Server;LEpochTree$Server;Z)V" } : Jvm.MethodName)) ∈ tb := List.mem_of_getElem? (i := 577) rfl
set_option maxRecDepth 20000 in
theorem tb_578 : (Jvm.Cond.selects "EpochTree$EntryList" ({ cls := "EpochTree$EntryList", name := "lastMark", desc := "()I" } : Jvm.MethodName) ({ cls := "EpochTree$EntryList", name := "lastMark", desc := "()I" } : Jvm.MethodName)) ∈ tb := List.mem_of_getElem? (i := 578) rfl
set_option maxRecDepth 20000 in
theorem tb_579 : (Jvm.Cond.selects "EpochTree$EntryList" ({ cls := "EpochTree$EntryList", name := "markAt", desc := "(I)I" } : Jvm.MethodName) ({ cls := "EpochTree$EntryList", name := "markAt", desc := "(I)I" } : Jvm.MethodName)) ∈ tb := List.mem_of_getElem? (i := 579) rfl
set_option maxRecDepth 20000 in
theorem tb_580 : (Jvm.Cond.selects "EpochTree$EntryList" ({ cls := "EpochTree$EntryList", name := "becomeFirst", desc := "(LEpochTree$EntryList;I)V" } : Jvm.MethodName) ({ cls := "EpochTree$EntryList", name := "becomeFirst", desc := "(LEpochTree$EntryList;I)V" } : Jvm.MethodName)) ∈ tb := List.mem_of_getElem? (i := 580) rfl
set_option maxRecDepth 20000 in
theorem tb_581 : (Jvm.Cond.selects "EpochTree$EntryList" ({ cls := "EpochTree$EntryList", name := "appendFrom", desc := "(LEpochTree$EntryList;I)V" } : Jvm.MethodName) ({ cls := "EpochTree$EntryList", name := "appendFrom", desc := "(LEpochTree$EntryList;I)V" } : Jvm.MethodName)) ∈ tb := List.mem_of_getElem? (i := 581) rfl
set_option maxRecDepth 20000 in
theorem tb_582 : (Jvm.Cond.selects "EpochTree$EntryList" ({ cls := "EpochTree$EntryList", name := "append", desc := "(IIIII)V" } : Jvm.MethodName) ({ cls := "EpochTree$EntryList", name := "append", desc := "(IIIII)V" } : Jvm.MethodName)) ∈ tb := List.mem_of_getElem? (i := 582) rfl
set_option maxRecDepth 20000 in
theorem tb_583 : (Jvm.Cond.selects "EpochTree$EntryList" ({ cls := "EpochTree$EntryList", name := "isFull", desc := "()Z" } : Jvm.MethodName) ({ cls := "EpochTree$EntryList", name := "isFull", desc := "()Z" } : Jvm.MethodName)) ∈ tb := List.mem_of_getElem? (i := 583) rfl
set_option maxRecDepth 20000 in
theorem tb_584 : (Jvm.Cond.selects "EpochTree" ({ cls := "EpochTree", name := "sendNewLeaderToWaiting", desc := "(LEpochTree$Server;)V" } : Jvm.MethodName) ({ cls := "EpochTree", name := "sendNewLeaderToWaiting", desc := "(LEpochTree$Server;)V" } : Jvm.MethodName)) ∈ tb := List.mem_of_getElem? (i := 584) rfl
set_option maxRecDepth 20000 in
theorem tb_585 : (Jvm.Cond.selects "EpochTree" ({ cls := "EpochTree", name := "readAck", desc := "(LEpochTree$Server;LEpochTree$Server;I)V" } : Jvm.MethodName) ({ cls := "EpochTree", name := "readAck", desc := "(LEpochTree$Server;LEpochTree$Server;I)V" } : Jvm.MethodName)) ∈ tb := List.mem_of_getElem? (i := 585) rfl
set_option maxRecDepth 20000 in
theorem tb_586 : (Jvm.Cond.selects "EpochTree$Server" ({ cls := "EpochTree$Server", name := "applyUpTo", desc := "(I)V" } : Jvm.MethodName) ({ cls := "EpochTree$Server", name := "applyUpTo", desc := "(I)V" } : Jvm.MethodName)) ∈ tb := List.mem_of_getElem? (i := 586) rfl
set_option maxRecDepth 20000 in
theorem tb_587 : (Jvm.Cond.selects "EpochTree$Tree" ({ cls := "EpochTree$Tree", name := "change", desc := "(IIII)I" } : Jvm.MethodName) ({ cls := "EpochTree$Tree", name := "change", desc := "(IIII)I" } : Jvm.MethodName)) ∈ tb := List.mem_of_getElem? (i := 587) rfl
set_option maxRecDepth 20000 in
theorem tb_588 : (Jvm.Cond.selects "EpochTree$Tree" ({ cls := "EpochTree$Tree", name := "create", desc := "(III)I" } : Jvm.MethodName) ({ cls := "EpochTree$Tree", name := "create", desc := "(III)I" } : Jvm.MethodName)) ∈ tb := List.mem_of_getElem? (i := 588) rfl
set_option maxRecDepth 20000 in
theorem tb_589 : (Jvm.Cond.selects "EpochTree$Tree" ({ cls := "EpochTree$Tree", name := "isOpen", desc := "(I)Z" } : Jvm.MethodName) ({ cls := "EpochTree$Tree", name := "isOpen", desc := "(I)Z" } : Jvm.MethodName)) ∈ tb := List.mem_of_getElem? (i := 589) rfl
set_option maxRecDepth 20000 in
theorem tb_590 : (Jvm.Cond.selects "EpochTree$Tree" ({ cls := "EpochTree$Tree", name := "find", desc := "(I)I" } : Jvm.MethodName) ({ cls := "EpochTree$Tree", name := "find", desc := "(I)I" } : Jvm.MethodName)) ∈ tb := List.mem_of_getElem? (i := 590) rfl
set_option maxRecDepth 20000 in
theorem tb_591 : (Jvm.Cond.selects "EpochTree$Tree" ({ cls := "EpochTree$Tree", name := "add", desc := "(III)V" } : Jvm.MethodName) ({ cls := "EpochTree$Tree", name := "add", desc := "(III)V" } : Jvm.MethodName)) ∈ tb := List.mem_of_getElem? (i := 591) rfl
set_option maxRecDepth 20000 in
theorem tb_592 : (Jvm.Cond.selects "EpochTree$Tree" ({ cls := "EpochTree$Tree", name := "set", desc := "(III)I" } : Jvm.MethodName) ({ cls := "EpochTree$Tree", name := "set", desc := "(III)I" } : Jvm.MethodName)) ∈ tb := List.mem_of_getElem? (i := 592) rfl
set_option maxRecDepth 20000 in
theorem tb_593 : (Jvm.Cond.selects "EpochTree$Tree" ({ cls := "EpochTree$Tree", name := "delete", desc := "(II)I" } : Jvm.MethodName) ({ cls := "EpochTree$Tree", name := "delete", desc := "(II)I" } : Jvm.MethodName)) ∈ tb := List.mem_of_getElem? (i := 593) rfl
set_option maxRecDepth 20000 in
theorem tb_594 : (Jvm.Cond.selects "EpochTree$Tree" ({ cls := "EpochTree$Tree", name := "countChildren", desc := "(I)I" } : Jvm.MethodName) ({ cls := "EpochTree$Tree", name := "countChildren", desc := "(I)I" } : Jvm.MethodName)) ∈ tb := List.mem_of_getElem? (i := 594) rfl
set_option maxRecDepth 20000 in
theorem tb_595 : (Jvm.Cond.selects "EpochTree$Tree" ({ cls := "EpochTree$Tree", name := "remove", desc := "(I)V" } : Jvm.MethodName) ({ cls := "EpochTree$Tree", name := "remove", desc := "(I)V" } : Jvm.MethodName)) ∈ tb := List.mem_of_getElem? (i := 595) rfl
set_option maxRecDepth 20000 in
theorem tb_596 : (Jvm.Cond.selects "EpochTree$Tree" ({ cls := "EpochTree$Tree", name := "open", desc := "(I)I" } : Jvm.MethodName) ({ cls := "EpochTree$Tree", name := "open", desc := "(I)I" } : Jvm.MethodName)) ∈ tb := List.mem_of_getElem? (i := 596) rfl
set_option maxRecDepth 20000 in
theorem tb_597 : (Jvm.Cond.selects "EpochTree$Tree" ({ cls := "EpochTree$Tree", name := "close", desc := "(I)I" } : Jvm.MethodName) ({ cls := "EpochTree$Tree", name := "close", desc := "(I)I" } : Jvm.MethodName)) ∈ tb := List.mem_of_getElem? (i := 597) rfl
set_option maxRecDepth 20000 in
theorem tb_598 : (Jvm.Cond.selects "EpochTree" ({ cls := "EpochTree", name := "sendOnTiedLinks", desc := "(LEpochTree$Server;II)V" } : Jvm.MethodName) ({ cls := "EpochTree", name := "sendOnTiedLinks", desc := "(LEpochTree$Server;II)V" } : Jvm.MethodName)) ∈ tb := List.mem_of_getElem? (i := 598) rfl
set_option maxRecDepth 20000 in
theorem tb_599 : (Jvm.Cond.selects "EpochTree" ({ cls := "EpochTree", name := "readNewEpoch", desc := "(II)V" } : Jvm.MethodName) ({ cls := "EpochTree", name := "readNewEpoch", desc := "(II)V" } : Jvm.MethodName)) ∈ tb := List.mem_of_getElem? (i := 599) rfl
set_option maxRecDepth 20000 in
theorem tb_600 : (Jvm.Cond.selects "EpochTree" ({ cls := "EpochTree", name := "readNewLeader", desc := "(LEpochTree$Server;I)V" } : Jvm.MethodName) ({ cls := "EpochTree", name := "readNewLeader", desc := "(LEpochTree$Server;I)V" } : Jvm.MethodName)) ∈ tb := List.mem_of_getElem? (i := 600) rfl
set_option maxRecDepth 20000 in
theorem tb_601 : (Jvm.Cond.selects "EpochTree" ({ cls := "EpochTree", name := "readProposal", desc := "(LEpochTree$Server;I)V" } : Jvm.MethodName) ({ cls := "EpochTree", name := "readProposal", desc := "(LEpochTree$Server;I)V" } : Jvm.MethodName)) ∈ tb := List.mem_of_getElem? (i := 601) rfl
set_option maxRecDepth 20000 in
theorem tb_602 : (Jvm.Cond.selects "EpochTree" ({ cls := "EpochTree", name := "makeEntry", desc := "(LEpochTree$Server;IIII)V" } : Jvm.MethodName) ({ cls := "EpochTree", name := "makeEntry", desc := "(LEpochTree$Server;IIII)V" } : Jvm.MethodName)) ∈ tb := List.mem_of_getElem? (i := 602) rfl
set_option maxRecDepth 20000 in
theorem tb_603 : (Jvm.Cond.selects "EpochTree" ({ cls := "EpochTree", name := "closeOldSessions", desc := "(LEpochTree$Server;)I" } : Jvm.MethodName) ({ cls := "EpochTree", name := "closeOldSessions", desc := "(LEpochTree$Server;)I" } : Jvm.MethodName)) ∈ tb := List.mem_of_getElem? (i := 603) rfl
set_option maxRecDepth 20000 in
theorem tb_604 : (Jvm.Cond.selects "EpochTree$Tree" ({ cls := "EpochTree$Tree", name := "look", desc := "(II)I" } : Jvm.MethodName) ({ cls := "EpochTree$Tree", name := "look", desc := "(II)I" } : Jvm.MethodName)) ∈ tb := List.mem_of_getElem? (i := 604) rfl
set_option maxRecDepth 20000 in
theorem tb_605 : (Jvm.Cond.selects "EpochTree$Tree" ({ cls := "EpochTree$Tree", name := "lookAtRoot", desc := "(I)I" } : Jvm.MethodName) ({ cls := "EpochTree$Tree", name := "lookAtRoot", desc := "(I)I" } : Jvm.MethodName)) ∈ tb := List.mem_of_getElem? (i := 605) rfl
set_option maxRecDepth 20000 in
theorem tb_606 : (Jvm.Cond.selects "EpochTree$Tree" ({ cls := "EpochTree$Tree", name := "summary", desc := "()I" } : Jvm.MethodName) ({ cls := "EpochTree$Tree", name := "summary", desc := "()I" } : Jvm.MethodName)) ∈ tb := List.mem_of_getElem? (i := 606) rfl
set_option maxRecDepth 20000 in
theorem tb_607 : (Jvm.Cond.selects "EpochTreeModel" ({ cls := "EpochTreeModel", name := "cut", desc := "(I)V" } : Jvm.MethodName) ({ cls := "EpochTreeModel", name := "cut", desc := "(I)V" } : Jvm.MethodName)) ∈ tb := List.mem_of_getElem? (i := 607) rfl
set_option maxRecDepth 20000 in
theorem tb_608 : (Jvm.Cond.selects "EpochTreeModel" ({ cls := "EpochTreeModel", name := "sendUp", desc := "(III)V" } : Jvm.MethodName) ({ cls := "EpochTreeModel", name := "sendUp", desc := "(III)V" } : Jvm.MethodName)) ∈ tb := List.mem_of_getElem? (i := 608) rfl
set_option maxRecDepth 20000 in
theorem tb_609 : (Jvm.Cond.selects "EpochTreeModel" ({ cls := "EpochTreeModel", name := "cease", desc := "(I)V" } : Jvm.MethodName) ({ cls := "EpochTreeModel", name := "cease", desc := "(I)V" } : Jvm.MethodName)) ∈ tb := List.mem_of_getElem? (i := 609) rfl
set_option maxRecDepth 20000 in
theorem tb_610 : (Jvm.Cond.selects "EpochTreeModel" ({ cls := "EpochTreeModel", name := "follows", desc := "(II)Z" } : Jvm.MethodName) ({ cls := "EpochTreeModel", name := "follows", desc := "(II)Z" } : Jvm.MethodName)) ∈ tb := List.mem_of_getElem? (i := 610) rfl
set_option maxRecDepth 20000 in
theorem tb_611 : (Jvm.Cond.selects "EpochTreeModel" ({ cls := "EpochTreeModel", name := "sendDown", desc := "(III)V" } : Jvm.MethodName) ({ cls := "EpochTreeModel", name := "sendDown", desc := "(III)V" } : Jvm.MethodName)) ∈ tb := List.mem_of_getElem? (i := 611) rfl
set_option maxRecDepth 20000 in
theorem tb_612 : (Jvm.Cond.selects "EpochTreeModel" ({ cls := "EpochTreeModel", name := "accepted", desc := "(IIZ)V" } : Jvm.MethodName) ({ cls := "EpochTreeModel", name := "accepted", desc := "(IIZ)V" } : Jvm.MethodName)) ∈ tb := List.mem_of_getElem? (i := 612) rfl
set_option maxRecDepth 20000 in
theorem tb_613 : (Jvm.Cond.selects "EpochTreeModel" ({ cls := "EpochTreeModel", name := "newLeader", desc := "(II)V" } : Jvm.MethodName) ({ cls := "EpochTreeModel", name := "newLeader", desc := "(II)V" } : Jvm.MethodName)) ∈ tb := List.mem_of_getElem? (i := 613) rfl
set_option maxRecDepth 20000 in
theorem tb_614 : (Jvm.Cond.selects "EpochTreeModel" ({ cls := "EpochTreeModel", name := "lastMark", desc := "(I)I" } : Jvm.MethodName) ({ cls := "EpochTreeModel", name := "lastMark", desc := "(I)I" } : Jvm.MethodName)) ∈ tb := List.mem_of_getElem? (i := 614) rfl
set_option maxRecDepth 20000 in
theorem tb_615 : (Jvm.Cond.selects "EpochTreeModel" ({ cls := "EpochTreeModel", name := "copy", desc := "(III)V" } : Jvm.MethodName) ({ cls := "EpochTreeModel", name := "copy", desc := "(III)V" } : Jvm.MethodName)) ∈ tb := List.mem_of_getElem? (i := 615) rfl
set_option maxRecDepth 20000 in
theorem tb_616 : (Jvm.Cond.selects "EpochTreeModel" ({ cls := "EpochTreeModel", name := "copyEntry", desc := "(II)V" } : Jvm.MethodName) ({ cls := "EpochTreeModel", name := "copyEntry", desc := "(II)V" } : Jvm.MethodName)) ∈ tb := List.mem_of_getElem? (i := 616) rfl
set_option maxRecDepth 20000 in
theorem tb_617 : (Jvm.Cond.selects "EpochTreeModel" ({ cls := "EpochTreeModel", name := "acknowledged", desc := "(III)V" } : Jvm.MethodName) ({ cls := "EpochTreeModel", name := "acknowledged", desc := "(III)V" } : Jvm.MethodName)) ∈ tb := List.mem_of_getElem? (i := 617) rfl
set_option maxRecDepth 20000 in
theorem tb_618 : (Jvm.Cond.selects "EpochTreeModel" ({ cls := "EpochTreeModel", name := "make", desc := "(IIIII)V" } : Jvm.MethodName) ({ cls := "EpochTreeModel", name := "make", desc := "(IIIII)V" } : Jvm.MethodName)) ∈ tb := List.mem_of_getElem? (i := 618) rfl
set_option maxRecDepth 20000 in
theorem tb_619 : (Jvm.Cond.selects "EpochTreeModel" ({ cls := "EpochTreeModel", name := "work", desc := "(I)V" } : Jvm.MethodName) ({ cls := "EpochTreeModel", name := "work", desc := "(I)V" } : Jvm.MethodName)) ∈ tb := List.mem_of_getElem? (i := 619) rfl
set_option maxRecDepth 20000 in
theorem tb_620 : (Jvm.Cond.selects "EpochTreeModel" ({ cls := "EpochTreeModel", name := "create", desc := "(III)I" } : Jvm.MethodName) ({ cls := "EpochTreeModel", name := "create", desc := "(III)I" } : Jvm.MethodName)) ∈ tb := List.mem_of_getElem? (i := 620) rfl
set_option maxRecDepth 20000 in
theorem tb_621 : (Jvm.Cond.selects "EpochTreeModel" ({ cls := "EpochTreeModel", name := "find", desc := "(I)I" } : Jvm.MethodName) ({ cls := "EpochTreeModel", name := "find", desc := "(I)I" } : Jvm.MethodName)) ∈ tb := List.mem_of_getElem? (i := 621) rfl
set_option maxRecDepth 20000 in
theorem tb_622 : (Jvm.Cond.selects "EpochTreeModel" ({ cls := "EpochTreeModel", name := "alter", desc := "(ZIII)I" } : Jvm.MethodName) ({ cls := "EpochTreeModel", name := "alter", desc := "(ZIII)I" } : Jvm.MethodName)) ∈ tb := List.mem_of_getElem? (i := 622) rfl
set_option maxRecDepth 20000 in
theorem tb_623 : (Jvm.Cond.selects "EpochTreeModel" ({ cls := "EpochTreeModel", name := "children", desc := "(I)I" } : Jvm.MethodName) ({ cls := "EpochTreeModel", name := "children", desc := "(I)I" } : Jvm.MethodName)) ∈ tb := List.mem_of_getElem? (i := 623) rfl
set_option maxRecDepth 20000 in
theorem tb_624 : (Jvm.Cond.selects "EpochTreeModel" ({ cls := "EpochTreeModel", name := "session", desc := "(ZI)I" } : Jvm.MethodName) ({ cls := "EpochTreeModel", name := "session", desc := "(ZI)I" } : Jvm.MethodName)) ∈ tb := List.mem_of_getElem? (i := 624) rfl
set_option maxRecDepth 20000 in
theorem tb_good : tb.all goodWord = true := by decide +kernel
set_option maxRecDepth 20000 in
theorem inX0 : ∀ w ∈ u_ws RX0 TX0 6, w ∈ tb := mem_r _ [35, 36, 37, 38, 39, 40] (by decide +kernel)
set_option maxRecDepth 20000 in
theorem inX1 : ∀ w ∈ u_ws RX1 TX1 5, w ∈ tb := mem_r _ [82, 83, 84, 85, 86] (by decide +kernel)
set_option maxRecDepth 20000 in
theorem inX2 : ∀ w ∈ u_ws RX2 TX2 4, w ∈ tb := mem_r _ [73, 74, 75, 76] (by decide +kernel)
set_option maxRecDepth 20000 in
theorem inX3 : ∀ w ∈ u_ws RX3 TX3 11, w ∈ tb := mem_r _ [108, 109, 110, 111, 112, 113, 114, 115, 116, 117, 118] (by decide +kernel)
set_option maxRecDepth 20000 in
theorem inX4 : ∀ w ∈ u_ws RX4 TX4 4, w ∈ tb := mem_r _ [96, 97, 98, 99] (by decide +kernel)
set_option maxRecDepth 20000 in
theorem inX5 : ∀ w ∈ u_ws RX5 TX5 6, w ∈ tb := mem_r _ [53, 54, 55, 56, 57, 58] (by decide +kernel)
set_option maxRecDepth 20000 in
theorem inX6 : ∀ w ∈ u_ws RX6 TX6 1, w ∈ tb := mem_r _ [120] (by decide +kernel)
set_option maxRecDepth 20000 in
theorem inX7 : ∀ w ∈ u_ws RX7 TX7 33, w ∈ tb := mem_r _ [390, 391, 392, 393, 394, 395, 396, 397, 398, 399, 400, 401, 402, 403, 404, 405, 406, 407, 408, 409, 410, 411, 412, 413, 414, 415, 416, 417, 418, 419, 420, 421, 422] (by decide +kernel)
def nb : List Cond := [
  (Jvm.Cond.arrayOver (Jvm.ClassFile.FieldType.object "EpochTree$Server")),
  (Jvm.Cond.methodLinkNest "EpochTree" (15 : Nat) ({ cls := "EpochTree$Server", name := "<init>", desc := "(I)V" } : Jvm.MethodName) "EpochTree"),
  (Jvm.Cond.methodLinkNest "EpochTree$Server" (17 : Nat) ({ cls := "EpochTree$EntryList", name := "<init>", desc := "()V" } : Jvm.MethodName) "EpochTree"),
  (Jvm.Cond.fieldLinkNest "EpochTree$Server" (62 : Nat) "EpochTree$EntryList" "kinds" "[I" "EpochTree"),
  (Jvm.Cond.fieldLinkNest "EpochTree$Server" (65 : Nat) "EpochTree$EntryList" "paths" "[I" "EpochTree"),
  (Jvm.Cond.fieldLinkNest "EpochTree$Server" (68 : Nat) "EpochTree$EntryList" "as" "[I" "EpochTree"),
  (Jvm.Cond.fieldLinkNest "EpochTree$Server" (71 : Nat) "EpochTree$EntryList" "bs" "[I" "EpochTree"),
  (Jvm.Cond.fieldLinkNest "EpochTree$Server" (50 : Nat) "EpochTree$EntryList" "size" "I" "EpochTree"),
  (Jvm.Cond.fieldLinkNest "EpochTree" (128 : Nat) "EpochTree$EntryList" "size" "I" "EpochTree"),
  (Jvm.Cond.methodLinkNest "EpochTree$Server" (31 : Nat) ({ cls := "EpochTree$Tree", name := "<init>", desc := "()V" } : Jvm.MethodName) "EpochTree"),
  (Jvm.Cond.methodLinkNest "EpochTree$Server" (38 : Nat) ({ cls := "EpochTree$Link", name := "<init>", desc := "()V" } : Jvm.MethodName) "EpochTree"),
  (Jvm.Cond.methodLinkNest "EpochTree$Link" (11 : Nat) ({ cls := "EpochTree$Row", name := "<init>", desc := "(I)V" } : Jvm.MethodName) "EpochTree"),
  (Jvm.Cond.fieldLinkNest "EpochTree" (46 : Nat) "EpochTree$Link" "up" "LEpochTree$Row;" "EpochTree"),
  (Jvm.Cond.fieldLinkNest "EpochTree" (94 : Nat) "EpochTree$Link" "down" "LEpochTree$Row;" "EpochTree"),
  (Jvm.Cond.fieldLinkNest "EpochTree" (220 : Nat) "EpochTree$Link" "tied" "Z" "EpochTree"),
  (Jvm.Cond.fieldLinkNest "EpochTree" (229 : Nat) "EpochTree$Link" "acked" "Z" "EpochTree"),
  (Jvm.Cond.fieldLinkNest "EpochTree" (210 : Nat) "EpochTree$Link" "waitsForList" "Z" "EpochTree"),
  (Jvm.Cond.methodLinkNest "EpochTree$Server" (45 : Nat) ({ cls := "EpochTree$Term", name := "<init>", desc := "()V" } : Jvm.MethodName) "EpochTree"),
  (Jvm.Cond.fieldLinkNest "EpochTree" (188 : Nat) "EpochTree$Term" "epochChosen" "Z" "EpochTree"),
  (Jvm.Cond.fieldLinkNest "EpochTree" (197 : Nat) "EpochTree$Term" "listChosen" "Z" "EpochTree"),
  (Jvm.Cond.fieldLinkNest "EpochTree" (239 : Nat) "EpochTree$Term" "made" "I" "EpochTree"),
  (Jvm.Cond.fieldLinkNest "EpochTree" (151 : Nat) "EpochTree$Term" "ages" "[I" "EpochTree"),
  (Jvm.Cond.fieldLinkNest "EpochTree" (178 : Nat) "EpochTree$Server" "number" "I" "EpochTree"),
  (Jvm.Cond.fieldLinkNest "EpochTree" (52 : Nat) "EpochTree$Server" "promise" "I" "EpochTree"),
  (Jvm.Cond.fieldLinkNest "EpochTree" (155 : Nat) "EpochTree$Server" "epoch" "I" "EpochTree"),
  (Jvm.Cond.fieldLinkNest "EpochTree" (114 : Nat) "EpochTree$Server" "list" "LEpochTree$EntryList;" "EpochTree"),
  (Jvm.Cond.fieldLinkNest "EpochTree" (22 : Nat) "EpochTree$Server" "role" "I" "EpochTree"),
  (Jvm.Cond.fieldLinkNest "EpochTree" (39 : Nat) "EpochTree$Server" "leader" "I" "EpochTree"),
  (Jvm.Cond.fieldLinkNest "EpochTree" (162 : Nat) "EpochTree$Server" "applied" "I" "EpochTree"),
  (Jvm.Cond.fieldLinkNest "EpochTree" (165 : Nat) "EpochTree$Server" "results" "[I" "EpochTree"),
  (Jvm.Cond.fieldLinkNest "EpochTree" (142 : Nat) "EpochTree$Server" "tree" "LEpochTree$Tree;" "EpochTree"),
  (Jvm.Cond.fieldLinkNest "EpochTree" (42 : Nat) "EpochTree$Server" "link" "LEpochTree$Link;" "EpochTree"),
  (Jvm.Cond.fieldLinkNest "EpochTree" (26 : Nat) "EpochTree$Server" "term" "LEpochTree$Term;" "EpochTree"),
  (Jvm.Cond.methodLinkNest "EpochTree" (30 : Nat) ({ cls := "EpochTree$Term", name := "begin", desc := "()V" } : Jvm.MethodName) "EpochTree"),
  (Jvm.Cond.methodLinkNest "EpochTree" (55 : Nat) ({ cls := "EpochTree$Row", name := "send", desc := "(II)V" } : Jvm.MethodName) "EpochTree"),
  (Jvm.Cond.methodLinkNest "EpochTree" (185 : Nat) ({ cls := "EpochTree$Link", name := "clear", desc := "()V" } : Jvm.MethodName) "EpochTree"),
  (Jvm.Cond.methodLinkNest "EpochTree$Link" (23 : Nat) ({ cls := "EpochTree$Row", name := "clear", desc := "()V" } : Jvm.MethodName) "EpochTree"),
  (Jvm.Cond.methodLinkNest "EpochTree" (67 : Nat) ({ cls := "EpochTree$Server", name := "forgetApplied", desc := "()V" } : Jvm.MethodName) "EpochTree"),
  (Jvm.Cond.methodLinkNest "EpochTree$Server" (78 : Nat) ({ cls := "EpochTree$Tree", name := "clear", desc := "()V" } : Jvm.MethodName) "EpochTree"),
  (Jvm.Cond.methodLinkNest "EpochTree" (70 : Nat) ({ cls := "EpochTree$Row", name := "count", desc := "()I" } : Jvm.MethodName) "EpochTree"),
  (Jvm.Cond.methodLinkNest "EpochTree" (74 : Nat) ({ cls := "EpochTree$Row", name := "firstKind", desc := "()I" } : Jvm.MethodName) "EpochTree"),
  (Jvm.Cond.methodLinkNest "EpochTree" (77 : Nat) ({ cls := "EpochTree$Row", name := "firstValue", desc := "()I" } : Jvm.MethodName) "EpochTree"),
  (Jvm.Cond.methodLinkNest "EpochTree" (80 : Nat) ({ cls := "EpochTree$Row", name := "dropFirst", desc := "()V" } : Jvm.MethodName) "EpochTree"),
  (Jvm.Cond.methodLinkNest "EpochTree" (213 : Nat) ({ cls := "EpochTree$EntryList", name := "lastMark", desc := "()I" } : Jvm.MethodName) "EpochTree"),
  (Jvm.Cond.methodLinkNest "EpochTree" (216 : Nat) ({ cls := "EpochTree$EntryList", name := "becomeFirst", desc := "(LEpochTree$EntryList;I)V" } : Jvm.MethodName) "EpochTree"),
  (Jvm.Cond.methodLinkNest "EpochTree" (107 : Nat) ({ cls := "EpochTree$Server", name := "applyUpTo", desc := "(I)V" } : Jvm.MethodName) "EpochTree"),
  (Jvm.Cond.methodLinkNest "EpochTree$Server" (74 : Nat) ({ cls := "EpochTree$Tree", name := "change", desc := "(IIII)I" } : Jvm.MethodName) "EpochTree"),
  (Jvm.Cond.methodLinkNest "EpochTree$Tree" (31 : Nat) ({ cls := "EpochTree", name := "isSession", desc := "(I)Z" } : Jvm.MethodName) "EpochTree"),
  (Jvm.Cond.methodLinkNest "EpochTree" (236 : Nat) ({ cls := "EpochTree$EntryList", name := "appendFrom", desc := "(LEpochTree$EntryList;I)V" } : Jvm.MethodName) "EpochTree"),
  (Jvm.Cond.methodLinkNest "EpochTree" (118 : Nat) ({ cls := "EpochTree$EntryList", name := "isFull", desc := "()Z" } : Jvm.MethodName) "EpochTree"),
  (Jvm.Cond.methodLinkNest "EpochTree" (242 : Nat) ({ cls := "EpochTree$EntryList", name := "append", desc := "(IIIII)V" } : Jvm.MethodName) "EpochTree"),
  (Jvm.Cond.methodLinkNest "EpochTree" (146 : Nat) ({ cls := "EpochTree$Tree", name := "isOpen", desc := "(I)Z" } : Jvm.MethodName) "EpochTree"),
  (Jvm.Cond.methodLinkNest "EpochTree" (158 : Nat) ({ cls := "EpochTree$EntryList", name := "markAt", desc := "(I)I" } : Jvm.MethodName) "EpochTree"),
  (Jvm.Cond.methodLinkNest "EpochTree" (168 : Nat) ({ cls := "EpochTree$Tree", name := "look", desc := "(II)I" } : Jvm.MethodName) "EpochTree"),
  (Jvm.Cond.methodLinkNest "EpochTree" (172 : Nat) ({ cls := "EpochTree$Tree", name := "summary", desc := "()I" } : Jvm.MethodName) "EpochTree")]
set_option maxRecDepth 20000 in
theorem nb_0 : (Jvm.Cond.arrayOver (Jvm.ClassFile.FieldType.object "EpochTree$Server")) ∈ nb := List.mem_of_getElem? (i := 0) rfl
set_option maxRecDepth 20000 in
theorem nb_1 : (Jvm.Cond.methodLinkNest "EpochTree" (15 : Nat) ({ cls := "EpochTree$Server", name := "<init>", desc := "(I)V" } : Jvm.MethodName) "EpochTree") ∈ nb := List.mem_of_getElem? (i := 1) rfl
set_option maxRecDepth 20000 in
theorem nb_2 : (Jvm.Cond.methodLinkNest "EpochTree$Server" (17 : Nat) ({ cls := "EpochTree$EntryList", name := "<init>", desc := "()V" } : Jvm.MethodName) "EpochTree") ∈ nb := List.mem_of_getElem? (i := 2) rfl
set_option maxRecDepth 20000 in
theorem nb_3 : (Jvm.Cond.fieldLinkNest "EpochTree$Server" (62 : Nat) "EpochTree$EntryList" "kinds" "[I" "EpochTree") ∈ nb := List.mem_of_getElem? (i := 3) rfl
set_option maxRecDepth 20000 in
theorem nb_4 : (Jvm.Cond.fieldLinkNest "EpochTree$Server" (65 : Nat) "EpochTree$EntryList" "paths" "[I" "EpochTree") ∈ nb := List.mem_of_getElem? (i := 4) rfl
set_option maxRecDepth 20000 in
theorem nb_5 : (Jvm.Cond.fieldLinkNest "EpochTree$Server" (68 : Nat) "EpochTree$EntryList" "as" "[I" "EpochTree") ∈ nb := List.mem_of_getElem? (i := 5) rfl
set_option maxRecDepth 20000 in
theorem nb_6 : (Jvm.Cond.fieldLinkNest "EpochTree$Server" (71 : Nat) "EpochTree$EntryList" "bs" "[I" "EpochTree") ∈ nb := List.mem_of_getElem? (i := 6) rfl
set_option maxRecDepth 20000 in
theorem nb_7 : (Jvm.Cond.fieldLinkNest "EpochTree$Server" (50 : Nat) "EpochTree$EntryList" "size" "I" "EpochTree") ∈ nb := List.mem_of_getElem? (i := 7) rfl
set_option maxRecDepth 20000 in
theorem nb_8 : (Jvm.Cond.fieldLinkNest "EpochTree" (128 : Nat) "EpochTree$EntryList" "size" "I" "EpochTree") ∈ nb := List.mem_of_getElem? (i := 8) rfl
set_option maxRecDepth 20000 in
theorem nb_9 : (Jvm.Cond.methodLinkNest "EpochTree$Server" (31 : Nat) ({ cls := "EpochTree$Tree", name := "<init>", desc := "()V" } : Jvm.MethodName) "EpochTree") ∈ nb := List.mem_of_getElem? (i := 9) rfl
set_option maxRecDepth 20000 in
theorem nb_10 : (Jvm.Cond.methodLinkNest "EpochTree$Server" (38 : Nat) ({ cls := "EpochTree$Link", name := "<init>", desc := "()V" } : Jvm.MethodName) "EpochTree") ∈ nb := List.mem_of_getElem? (i := 10) rfl
set_option maxRecDepth 20000 in
theorem nb_11 : (Jvm.Cond.methodLinkNest "EpochTree$Link" (11 : Nat) ({ cls := "EpochTree$Row", name := "<init>", desc := "(I)V" } : Jvm.MethodName) "EpochTree") ∈ nb := List.mem_of_getElem? (i := 11) rfl
set_option maxRecDepth 20000 in
theorem nb_12 : (Jvm.Cond.fieldLinkNest "EpochTree" (46 : Nat) "EpochTree$Link" "up" "LEpochTree$Row;" "EpochTree") ∈ nb := List.mem_of_getElem? (i := 12) rfl
set_option maxRecDepth 20000 in
theorem nb_13 : (Jvm.Cond.fieldLinkNest "EpochTree" (94 : Nat) "EpochTree$Link" "down" "LEpochTree$Row;" "EpochTree") ∈ nb := List.mem_of_getElem? (i := 13) rfl
set_option maxRecDepth 20000 in
theorem nb_14 : (Jvm.Cond.fieldLinkNest "EpochTree" (220 : Nat) "EpochTree$Link" "tied" "Z" "EpochTree") ∈ nb := List.mem_of_getElem? (i := 14) rfl
set_option maxRecDepth 20000 in
theorem nb_15 : (Jvm.Cond.fieldLinkNest "EpochTree" (229 : Nat) "EpochTree$Link" "acked" "Z" "EpochTree") ∈ nb := List.mem_of_getElem? (i := 15) rfl
set_option maxRecDepth 20000 in
theorem nb_16 : (Jvm.Cond.fieldLinkNest "EpochTree" (210 : Nat) "EpochTree$Link" "waitsForList" "Z" "EpochTree") ∈ nb := List.mem_of_getElem? (i := 16) rfl
set_option maxRecDepth 20000 in
theorem nb_17 : (Jvm.Cond.methodLinkNest "EpochTree$Server" (45 : Nat) ({ cls := "EpochTree$Term", name := "<init>", desc := "()V" } : Jvm.MethodName) "EpochTree") ∈ nb := List.mem_of_getElem? (i := 17) rfl
set_option maxRecDepth 20000 in
theorem nb_18 : (Jvm.Cond.fieldLinkNest "EpochTree" (188 : Nat) "EpochTree$Term" "epochChosen" "Z" "EpochTree") ∈ nb := List.mem_of_getElem? (i := 18) rfl
set_option maxRecDepth 20000 in
theorem nb_19 : (Jvm.Cond.fieldLinkNest "EpochTree" (197 : Nat) "EpochTree$Term" "listChosen" "Z" "EpochTree") ∈ nb := List.mem_of_getElem? (i := 19) rfl
set_option maxRecDepth 20000 in
theorem nb_20 : (Jvm.Cond.fieldLinkNest "EpochTree" (239 : Nat) "EpochTree$Term" "made" "I" "EpochTree") ∈ nb := List.mem_of_getElem? (i := 20) rfl
set_option maxRecDepth 20000 in
theorem nb_21 : (Jvm.Cond.fieldLinkNest "EpochTree" (151 : Nat) "EpochTree$Term" "ages" "[I" "EpochTree") ∈ nb := List.mem_of_getElem? (i := 21) rfl
set_option maxRecDepth 20000 in
theorem nb_22 : (Jvm.Cond.fieldLinkNest "EpochTree" (178 : Nat) "EpochTree$Server" "number" "I" "EpochTree") ∈ nb := List.mem_of_getElem? (i := 22) rfl
set_option maxRecDepth 20000 in
theorem nb_23 : (Jvm.Cond.fieldLinkNest "EpochTree" (52 : Nat) "EpochTree$Server" "promise" "I" "EpochTree") ∈ nb := List.mem_of_getElem? (i := 23) rfl
set_option maxRecDepth 20000 in
theorem nb_24 : (Jvm.Cond.fieldLinkNest "EpochTree" (155 : Nat) "EpochTree$Server" "epoch" "I" "EpochTree") ∈ nb := List.mem_of_getElem? (i := 24) rfl
set_option maxRecDepth 20000 in
theorem nb_25 : (Jvm.Cond.fieldLinkNest "EpochTree" (114 : Nat) "EpochTree$Server" "list" "LEpochTree$EntryList;" "EpochTree") ∈ nb := List.mem_of_getElem? (i := 25) rfl
set_option maxRecDepth 20000 in
theorem nb_26 : (Jvm.Cond.fieldLinkNest "EpochTree" (22 : Nat) "EpochTree$Server" "role" "I" "EpochTree") ∈ nb := List.mem_of_getElem? (i := 26) rfl
set_option maxRecDepth 20000 in
theorem nb_27 : (Jvm.Cond.fieldLinkNest "EpochTree" (39 : Nat) "EpochTree$Server" "leader" "I" "EpochTree") ∈ nb := List.mem_of_getElem? (i := 27) rfl
set_option maxRecDepth 20000 in
theorem nb_28 : (Jvm.Cond.fieldLinkNest "EpochTree" (162 : Nat) "EpochTree$Server" "applied" "I" "EpochTree") ∈ nb := List.mem_of_getElem? (i := 28) rfl
set_option maxRecDepth 20000 in
theorem nb_29 : (Jvm.Cond.fieldLinkNest "EpochTree" (165 : Nat) "EpochTree$Server" "results" "[I" "EpochTree") ∈ nb := List.mem_of_getElem? (i := 29) rfl
set_option maxRecDepth 20000 in
theorem nb_30 : (Jvm.Cond.fieldLinkNest "EpochTree" (142 : Nat) "EpochTree$Server" "tree" "LEpochTree$Tree;" "EpochTree") ∈ nb := List.mem_of_getElem? (i := 30) rfl
set_option maxRecDepth 20000 in
theorem nb_31 : (Jvm.Cond.fieldLinkNest "EpochTree" (42 : Nat) "EpochTree$Server" "link" "LEpochTree$Link;" "EpochTree") ∈ nb := List.mem_of_getElem? (i := 31) rfl
set_option maxRecDepth 20000 in
theorem nb_32 : (Jvm.Cond.fieldLinkNest "EpochTree" (26 : Nat) "EpochTree$Server" "term" "LEpochTree$Term;" "EpochTree") ∈ nb := List.mem_of_getElem? (i := 32) rfl
set_option maxRecDepth 20000 in
theorem nb_33 : (Jvm.Cond.methodLinkNest "EpochTree" (30 : Nat) ({ cls := "EpochTree$Term", name := "begin", desc := "()V" } : Jvm.MethodName) "EpochTree") ∈ nb := List.mem_of_getElem? (i := 33) rfl
set_option maxRecDepth 20000 in
theorem nb_34 : (Jvm.Cond.methodLinkNest "EpochTree" (55 : Nat) ({ cls := "EpochTree$Row", name := "send", desc := "(II)V" } : Jvm.MethodName) "EpochTree") ∈ nb := List.mem_of_getElem? (i := 34) rfl
set_option maxRecDepth 20000 in
theorem nb_35 : (Jvm.Cond.methodLinkNest "EpochTree" (185 : Nat) ({ cls := "EpochTree$Link", name := "clear", desc := "()V" } : Jvm.MethodName) "EpochTree") ∈ nb := List.mem_of_getElem? (i := 35) rfl
set_option maxRecDepth 20000 in
theorem nb_36 : (Jvm.Cond.methodLinkNest "EpochTree$Link" (23 : Nat) ({ cls := "EpochTree$Row", name := "clear", desc := "()V" } : Jvm.MethodName) "EpochTree") ∈ nb := List.mem_of_getElem? (i := 36) rfl
set_option maxRecDepth 20000 in
theorem nb_37 : (Jvm.Cond.methodLinkNest "EpochTree" (67 : Nat) ({ cls := "EpochTree$Server", name := "forgetApplied", desc := "()V" } : Jvm.MethodName) "EpochTree") ∈ nb := List.mem_of_getElem? (i := 37) rfl
set_option maxRecDepth 20000 in
theorem nb_38 : (Jvm.Cond.methodLinkNest "EpochTree$Server" (78 : Nat) ({ cls := "EpochTree$Tree", name := "clear", desc := "()V" } : Jvm.MethodName) "EpochTree") ∈ nb := List.mem_of_getElem? (i := 38) rfl
set_option maxRecDepth 20000 in
theorem nb_39 : (Jvm.Cond.methodLinkNest "EpochTree" (70 : Nat) ({ cls := "EpochTree$Row", name := "count", desc := "()I" } : Jvm.MethodName) "EpochTree") ∈ nb := List.mem_of_getElem? (i := 39) rfl
set_option maxRecDepth 20000 in
theorem nb_40 : (Jvm.Cond.methodLinkNest "EpochTree" (74 : Nat) ({ cls := "EpochTree$Row", name := "firstKind", desc := "()I" } : Jvm.MethodName) "EpochTree") ∈ nb := List.mem_of_getElem? (i := 40) rfl
set_option maxRecDepth 20000 in
theorem nb_41 : (Jvm.Cond.methodLinkNest "EpochTree" (77 : Nat) ({ cls := "EpochTree$Row", name := "firstValue", desc := "()I" } : Jvm.MethodName) "EpochTree") ∈ nb := List.mem_of_getElem? (i := 41) rfl
set_option maxRecDepth 20000 in
theorem nb_42 : (Jvm.Cond.methodLinkNest "EpochTree" (80 : Nat) ({ cls := "EpochTree$Row", name := "dropFirst", desc := "()V" } : Jvm.MethodName) "EpochTree") ∈ nb := List.mem_of_getElem? (i := 42) rfl
set_option maxRecDepth 20000 in
theorem nb_43 : (Jvm.Cond.methodLinkNest "EpochTree" (213 : Nat) ({ cls := "EpochTree$EntryList", name := "lastMark", desc := "()I" } : Jvm.MethodName) "EpochTree") ∈ nb := List.mem_of_getElem? (i := 43) rfl
set_option maxRecDepth 20000 in
theorem nb_44 : (Jvm.Cond.methodLinkNest "EpochTree" (216 : Nat) ({ cls := "EpochTree$EntryList", name := "becomeFirst", desc := "(LEpochTree$EntryList;I)V" } : Jvm.MethodName) "EpochTree") ∈ nb := List.mem_of_getElem? (i := 44) rfl
set_option maxRecDepth 20000 in
theorem nb_45 : (Jvm.Cond.methodLinkNest "EpochTree" (107 : Nat) ({ cls := "EpochTree$Server", name := "applyUpTo", desc := "(I)V" } : Jvm.MethodName) "EpochTree") ∈ nb := List.mem_of_getElem? (i := 45) rfl
set_option maxRecDepth 20000 in
theorem nb_46 : (Jvm.Cond.methodLinkNest "EpochTree$Server" (74 : Nat) ({ cls := "EpochTree$Tree", name := "change", desc := "(IIII)I" } : Jvm.MethodName) "EpochTree") ∈ nb := List.mem_of_getElem? (i := 46) rfl
set_option maxRecDepth 20000 in
theorem nb_47 : (Jvm.Cond.methodLinkNest "EpochTree$Tree" (31 : Nat) ({ cls := "EpochTree", name := "isSession", desc := "(I)Z" } : Jvm.MethodName) "EpochTree") ∈ nb := List.mem_of_getElem? (i := 47) rfl
set_option maxRecDepth 20000 in
theorem nb_48 : (Jvm.Cond.methodLinkNest "EpochTree" (236 : Nat) ({ cls := "EpochTree$EntryList", name := "appendFrom", desc := "(LEpochTree$EntryList;I)V" } : Jvm.MethodName) "EpochTree") ∈ nb := List.mem_of_getElem? (i := 48) rfl
set_option maxRecDepth 20000 in
theorem nb_49 : (Jvm.Cond.methodLinkNest "EpochTree" (118 : Nat) ({ cls := "EpochTree$EntryList", name := "isFull", desc := "()Z" } : Jvm.MethodName) "EpochTree") ∈ nb := List.mem_of_getElem? (i := 49) rfl
set_option maxRecDepth 20000 in
theorem nb_50 : (Jvm.Cond.methodLinkNest "EpochTree" (242 : Nat) ({ cls := "EpochTree$EntryList", name := "append", desc := "(IIIII)V" } : Jvm.MethodName) "EpochTree") ∈ nb := List.mem_of_getElem? (i := 50) rfl
set_option maxRecDepth 20000 in
theorem nb_51 : (Jvm.Cond.methodLinkNest "EpochTree" (146 : Nat) ({ cls := "EpochTree$Tree", name := "isOpen", desc := "(I)Z" } : Jvm.MethodName) "EpochTree") ∈ nb := List.mem_of_getElem? (i := 51) rfl
set_option maxRecDepth 20000 in
theorem nb_52 : (Jvm.Cond.methodLinkNest "EpochTree" (158 : Nat) ({ cls := "EpochTree$EntryList", name := "markAt", desc := "(I)I" } : Jvm.MethodName) "EpochTree") ∈ nb := List.mem_of_getElem? (i := 52) rfl
set_option maxRecDepth 20000 in
theorem nb_53 : (Jvm.Cond.methodLinkNest "EpochTree" (168 : Nat) ({ cls := "EpochTree$Tree", name := "look", desc := "(II)I" } : Jvm.MethodName) "EpochTree") ∈ nb := List.mem_of_getElem? (i := 53) rfl
set_option maxRecDepth 20000 in
theorem nb_54 : (Jvm.Cond.methodLinkNest "EpochTree" (172 : Nat) ({ cls := "EpochTree$Tree", name := "summary", desc := "()I" } : Jvm.MethodName) "EpochTree") ∈ nb := List.mem_of_getElem? (i := 54) rfl
