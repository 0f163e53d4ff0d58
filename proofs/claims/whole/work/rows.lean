section
def RX0 : String := "EpochTree$EntryList"
def TX0 : u_T := fun k => match k with
  | 0 => ("EpochTree$EntryList", "marks", "[I", true)
  | 1 => ("EpochTree$EntryList", "kinds", "[I", true)
  | 2 => ("EpochTree$EntryList", "paths", "[I", true)
  | 3 => ("EpochTree$EntryList", "as", "[I", true)
  | 4 => ("EpochTree$EntryList", "bs", "[I", true)
  | _ => ("EpochTree$EntryList", "size", "I", false)
def tyX0 : Nat → FieldType := fun k => match k with
  | 0 => .array .int
  | 1 => .array .int
  | 2 => .array .int
  | 3 => .array .int
  | 4 => .array .int
  | _ => .int
theorem nmX0 : ∀ a, a < 6 → ∀ b, b < 6 → a ≠ b → (TX0 a).2.1 ≠ (TX0 b).2.1 := by decide +kernel
theorem tyX0_ok : ∀ k, k < 6 → parseFieldDescriptor (TX0 k).2.2.1 = some (tyX0 k) := by decide +kernel
def RX1 : String := "EpochTree$Link"
def TX1 : u_T := fun k => match k with
  | 0 => ("EpochTree$Link", "up", "LEpochTree$Row;", true)
  | 1 => ("EpochTree$Link", "down", "LEpochTree$Row;", true)
  | 2 => ("EpochTree$Link", "tied", "Z", false)
  | 3 => ("EpochTree$Link", "acked", "Z", false)
  | _ => ("EpochTree$Link", "waitsForList", "Z", false)
def tyX1 : Nat → FieldType := fun k => match k with
  | 0 => .object "EpochTree$Row"
  | 1 => .object "EpochTree$Row"
  | 2 => .boolean
  | 3 => .boolean
  | _ => .boolean
theorem nmX1 : ∀ a, a < 5 → ∀ b, b < 5 → a ≠ b → (TX1 a).2.1 ≠ (TX1 b).2.1 := by decide +kernel
theorem tyX1_ok : ∀ k, k < 5 → parseFieldDescriptor (TX1 k).2.2.1 = some (tyX1 k) := by decide +kernel
def RX2 : String := "EpochTree$Row"
def TX2 : u_T := fun k => match k with
  | 0 => ("EpochTree$Row", "kinds", "[I", true)
  | 1 => ("EpochTree$Row", "values", "[I", true)
  | 2 => ("EpochTree$Row", "first", "I", false)
  | _ => ("EpochTree$Row", "end", "I", false)
def tyX2 : Nat → FieldType := fun k => match k with
  | 0 => .array .int
  | 1 => .array .int
  | 2 => .int
  | _ => .int
theorem nmX2 : ∀ a, a < 4 → ∀ b, b < 4 → a ≠ b → (TX2 a).2.1 ≠ (TX2 b).2.1 := by decide +kernel
theorem tyX2_ok : ∀ k, k < 4 → parseFieldDescriptor (TX2 k).2.2.1 = some (tyX2 k) := by decide +kernel
def RX3 : String := "EpochTree$Server"
def TX3 : u_T := fun k => match k with
  | 0 => ("EpochTree$Server", "number", "I", true)
  | 1 => ("EpochTree$Server", "promise", "I", false)
  | 2 => ("EpochTree$Server", "epoch", "I", false)
  | 3 => ("EpochTree$Server", "list", "LEpochTree$EntryList;", true)
  | 4 => ("EpochTree$Server", "role", "I", false)
  | 5 => ("EpochTree$Server", "leader", "I", false)
  | 6 => ("EpochTree$Server", "applied", "I", false)
  | 7 => ("EpochTree$Server", "results", "[I", true)
  | 8 => ("EpochTree$Server", "tree", "LEpochTree$Tree;", true)
  | 9 => ("EpochTree$Server", "link", "LEpochTree$Link;", true)
  | _ => ("EpochTree$Server", "term", "LEpochTree$Term;", true)
def tyX3 : Nat → FieldType := fun k => match k with
  | 0 => .int
  | 1 => .int
  | 2 => .int
  | 3 => .object "EpochTree$EntryList"
  | 4 => .int
  | 5 => .int
  | 6 => .int
  | 7 => .array .int
  | 8 => .object "EpochTree$Tree"
  | 9 => .object "EpochTree$Link"
  | _ => .object "EpochTree$Term"
theorem nmX3 : ∀ a, a < 11 → ∀ b, b < 11 → a ≠ b → (TX3 a).2.1 ≠ (TX3 b).2.1 := by decide +kernel
theorem tyX3_ok : ∀ k, k < 11 → parseFieldDescriptor (TX3 k).2.2.1 = some (tyX3 k) := by decide +kernel
def RX4 : String := "EpochTree$Term"
def TX4 : u_T := fun k => match k with
  | 0 => ("EpochTree$Term", "epochChosen", "Z", false)
  | 1 => ("EpochTree$Term", "listChosen", "Z", false)
  | 2 => ("EpochTree$Term", "made", "I", false)
  | _ => ("EpochTree$Term", "ages", "[I", true)
def tyX4 : Nat → FieldType := fun k => match k with
  | 0 => .boolean
  | 1 => .boolean
  | 2 => .int
  | _ => .array .int
theorem nmX4 : ∀ a, a < 4 → ∀ b, b < 4 → a ≠ b → (TX4 a).2.1 ≠ (TX4 b).2.1 := by decide +kernel
theorem tyX4_ok : ∀ k, k < 4 → parseFieldDescriptor (TX4 k).2.2.1 = some (tyX4 k) := by decide +kernel
def RX5 : String := "EpochTree$Tree"
def TX5 : u_T := fun k => match k with
  | 0 => ("EpochTree$Tree", "paths", "[I", true)
  | 1 => ("EpochTree$Tree", "data", "[I", true)
  | 2 => ("EpochTree$Tree", "versions", "[I", true)
  | 3 => ("EpochTree$Tree", "owners", "[I", true)
  | 4 => ("EpochTree$Tree", "size", "I", false)
  | _ => ("EpochTree$Tree", "openBits", "I", false)
def tyX5 : Nat → FieldType := fun k => match k with
  | 0 => .array .int
  | 1 => .array .int
  | 2 => .array .int
  | 3 => .array .int
  | 4 => .int
  | _ => .int
theorem nmX5 : ∀ a, a < 6 → ∀ b, b < 6 → a ≠ b → (TX5 a).2.1 ≠ (TX5 b).2.1 := by decide +kernel
theorem tyX5_ok : ∀ k, k < 6 → parseFieldDescriptor (TX5 k).2.2.1 = some (tyX5 k) := by decide +kernel
def RX6 : String := "EpochTree"
def TX6 : u_T := fun k => match k with
  | _ => ("EpochTree", "servers", "[LEpochTree$Server;", true)
def tyX6 : Nat → FieldType := fun k => match k with
  | _ => .array (.object "EpochTree$Server")
theorem nmX6 : ∀ a, a < 1 → ∀ b, b < 1 → a ≠ b → (TX6 a).2.1 ≠ (TX6 b).2.1 := by decide +kernel
theorem tyX6_ok : ∀ k, k < 1 → parseFieldDescriptor (TX6 k).2.2.1 = some (tyX6 k) := by decide +kernel
def RX7 : String := "EpochTreeModel"
def TX7 : u_T := fun k => match k with
  | 0 => ("EpochTreeModel", "role", "[I", true)
  | 1 => ("EpochTreeModel", "promise", "[I", true)
  | 2 => ("EpochTreeModel", "epoch", "[I", true)
  | 3 => ("EpochTreeModel", "applied", "[I", true)
  | 4 => ("EpochTreeModel", "length", "[I", true)
  | 5 => ("EpochTreeModel", "mark", "[I", true)
  | 6 => ("EpochTreeModel", "kind", "[I", true)
  | 7 => ("EpochTreeModel", "path", "[I", true)
  | 8 => ("EpochTreeModel", "first", "[I", true)
  | 9 => ("EpochTreeModel", "second", "[I", true)
  | 10 => ("EpochTreeModel", "chosen", "[I", true)
  | 11 => ("EpochTreeModel", "settled", "[Z", true)
  | 12 => ("EpochTreeModel", "made", "[I", true)
  | 13 => ("EpochTreeModel", "age", "[I", true)
  | 14 => ("EpochTreeModel", "leader", "[I", true)
  | 15 => ("EpochTreeModel", "waits", "[Z", true)
  | 16 => ("EpochTreeModel", "tied", "[Z", true)
  | 17 => ("EpochTreeModel", "heard", "[Z", true)
  | 18 => ("EpochTreeModel", "upKind", "[I", true)
  | 19 => ("EpochTreeModel", "upValue", "[I", true)
  | 20 => ("EpochTreeModel", "upSent", "[I", true)
  | 21 => ("EpochTreeModel", "upRead", "[I", true)
  | 22 => ("EpochTreeModel", "downKind", "[I", true)
  | 23 => ("EpochTreeModel", "downValue", "[I", true)
  | 24 => ("EpochTreeModel", "downSent", "[I", true)
  | 25 => ("EpochTreeModel", "downRead", "[I", true)
  | 26 => ("EpochTreeModel", "nodes", "I", false)
  | 27 => ("EpochTreeModel", "nodePath", "[I", true)
  | 28 => ("EpochTreeModel", "nodeData", "[I", true)
  | 29 => ("EpochTreeModel", "nodeVersion", "[I", true)
  | 30 => ("EpochTreeModel", "nodeOwner", "[I", true)
  | 31 => ("EpochTreeModel", "open", "[Z", true)
  | _ => ("EpochTreeModel", "results", "[I", true)
def tyX7 : Nat → FieldType := fun k => match k with
  | 0 => .array .int
  | 1 => .array .int
  | 2 => .array .int
  | 3 => .array .int
  | 4 => .array .int
  | 5 => .array .int
  | 6 => .array .int
  | 7 => .array .int
  | 8 => .array .int
  | 9 => .array .int
  | 10 => .array .int
  | 11 => .array .boolean
  | 12 => .array .int
  | 13 => .array .int
  | 14 => .array .int
  | 15 => .array .boolean
  | 16 => .array .boolean
  | 17 => .array .boolean
  | 18 => .array .int
  | 19 => .array .int
  | 20 => .array .int
  | 21 => .array .int
  | 22 => .array .int
  | 23 => .array .int
  | 24 => .array .int
  | 25 => .array .int
  | 26 => .int
  | 27 => .array .int
  | 28 => .array .int
  | 29 => .array .int
  | 30 => .array .int
  | 31 => .array .boolean
  | _ => .array .int
theorem nmX7 : ∀ a, a < 33 → ∀ b, b < 33 → a ≠ b → (TX7 a).2.1 ≠ (TX7 b).2.1 := by decide +kernel
theorem tyX7_ok : ∀ k, k < 33 → parseFieldDescriptor (TX7 k).2.2.1 = some (tyX7 k) := by decide +kernel
abbrev cls8 : List vw_C := [(RX0, TX0, 6), (RX1, TX1, 5), (RX2, TX2, 4), (RX3, TX3, 11), (RX4, TX4, 4), (RX5, TX5, 6), (RX6, TX6, 1), (RX7, TX7, 33)]
abbrev cX6_init : ByteArray := prog_1_method_1_code
abbrev yX6_init : MethodName := ⟨"EpochTree", "<init>", "()V"⟩
abbrev cX6_lead : ByteArray := prog_1_method_2_code
abbrev yX6_lead : MethodName := ⟨"EpochTree", "lead", "(I)Z"⟩
abbrev cX6_follow : ByteArray := prog_1_method_3_code
abbrev yX6_follow : MethodName := ⟨"EpochTree", "follow", "(II)Z"⟩
abbrev cX6_quit : ByteArray := prog_1_method_4_code
abbrev yX6_quit : MethodName := ⟨"EpochTree", "quit", "(I)Z"⟩
abbrev cX6_crash : ByteArray := prog_1_method_5_code
abbrev yX6_crash : MethodName := ⟨"EpochTree", "crash", "(I)Z"⟩
abbrev cX6_restart : ByteArray := prog_1_method_6_code
abbrev yX6_restart : MethodName := ⟨"EpochTree", "restart", "(I)Z"⟩
abbrev cX6_up : ByteArray := prog_1_method_7_code
abbrev yX6_up : MethodName := ⟨"EpochTree", "up", "(I)I"⟩
abbrev cX6_down : ByteArray := prog_1_method_8_code
abbrev yX6_down : MethodName := ⟨"EpochTree", "down", "(I)I"⟩
abbrev cX6_submit : ByteArray := prog_1_method_9_code
abbrev yX6_submit : MethodName := ⟨"EpochTree", "submit", "(IIIII)I"⟩
abbrev cX6_tick : ByteArray := prog_1_method_10_code
abbrev yX6_tick : MethodName := ⟨"EpochTree", "tick", "()I"⟩
abbrev cX6_touch : ByteArray := prog_1_method_11_code
abbrev yX6_touch : MethodName := ⟨"EpochTree", "touch", "(II)Z"⟩
abbrev cX6_role : ByteArray := prog_1_method_12_code
abbrev yX6_role : MethodName := ⟨"EpochTree", "role", "(I)I"⟩
abbrev cX6_promise : ByteArray := prog_1_method_13_code
abbrev yX6_promise : MethodName := ⟨"EpochTree", "promise", "(I)I"⟩
abbrev cX6_epoch : ByteArray := prog_1_method_14_code
abbrev yX6_epoch : MethodName := ⟨"EpochTree", "epoch", "(I)I"⟩
abbrev cX6_length : ByteArray := prog_1_method_15_code
abbrev yX6_length : MethodName := ⟨"EpochTree", "length", "(I)I"⟩
abbrev cX6_mark : ByteArray := prog_1_method_16_code
abbrev yX6_mark : MethodName := ⟨"EpochTree", "mark", "(II)I"⟩
abbrev cX6_applied : ByteArray := prog_1_method_17_code
abbrev yX6_applied : MethodName := ⟨"EpochTree", "applied", "(I)I"⟩
abbrev cX6_result : ByteArray := prog_1_method_18_code
abbrev yX6_result : MethodName := ⟨"EpochTree", "result", "(II)I"⟩
abbrev cX6_node : ByteArray := prog_1_method_19_code
abbrev yX6_node : MethodName := ⟨"EpochTree", "node", "(III)I"⟩
abbrev cX6_tree : ByteArray := prog_1_method_20_code
abbrev yX6_tree : MethodName := ⟨"EpochTree", "tree", "(I)I"⟩
abbrev cX6_waiting : ByteArray := prog_1_method_21_code
abbrev yX6_waiting : MethodName := ⟨"EpochTree", "waiting", "(IZ)I"⟩
abbrev cX6_isServer : ByteArray := prog_1_method_22_code
abbrev yX6_isServer : MethodName := ⟨"EpochTree", "isServer", "(I)Z"⟩
abbrev cX6_isSession : ByteArray := prog_1_method_23_code
abbrev yX6_isSession : MethodName := ⟨"EpochTree", "isSession", "(I)Z"⟩
abbrev cX6_isNodePath : ByteArray := prog_1_method_24_code
abbrev yX6_isNodePath : MethodName := ⟨"EpochTree", "isNodePath", "(I)Z"⟩
abbrev cX6_isChange : ByteArray := prog_1_method_25_code
abbrev yX6_isChange : MethodName := ⟨"EpochTree", "isChange", "(III)Z"⟩
abbrev cX6_hasRole : ByteArray := prog_1_method_26_code
abbrev yX6_hasRole : MethodName := ⟨"EpochTree", "hasRole", "(II)Z"⟩
abbrev cX6_leads : ByteArray := prog_1_method_27_code
abbrev yX6_leads : MethodName := ⟨"EpochTree", "leads", "(I)Z"⟩
abbrev cX6_isFollowerOf : ByteArray := prog_1_method_28_code
abbrev yX6_isFollowerOf : MethodName := ⟨"EpochTree", "isFollowerOf", "(LEpochTree$Server;LEpochTree$Server;)Z"⟩
abbrev cX6_stopTo : ByteArray := prog_1_method_29_code
abbrev yX6_stopTo : MethodName := ⟨"EpochTree", "stopTo", "(II)V"⟩
abbrev cX6_readJoin : ByteArray := prog_1_method_30_code
abbrev yX6_readJoin : MethodName := ⟨"EpochTree", "readJoin", "(LEpochTree$Server;LEpochTree$Server;I)V"⟩
abbrev cX6_readAccepted : ByteArray := prog_1_method_31_code
abbrev yX6_readAccepted : MethodName := ⟨"EpochTree", "readAccepted", "(LEpochTree$Server;LEpochTree$Server;Z)V"⟩
abbrev cX6_chooseList : ByteArray := prog_1_method_32_code
abbrev yX6_chooseList : MethodName := ⟨"EpochTree", "chooseList", "(LEpochTree$Server;LEpochTree$Server;)V"⟩
abbrev cX6_sendNewLeader : ByteArray := prog_1_method_33_code
abbrev yX6_sendNewLeader : MethodName := ⟨"EpochTree", "sendNewLeader", "(LEpochTree$Server;LEpochTree$Server;)V"⟩
abbrev cX6_sendNewLeaderToWaiting : ByteArray := prog_1_method_34_code
abbrev yX6_sendNewLeaderToWaiting : MethodName := ⟨"EpochTree", "sendNewLeaderToWaiting", "(LEpochTree$Server;)V"⟩
abbrev cX6_readAck : ByteArray := prog_1_method_35_code
abbrev yX6_readAck : MethodName := ⟨"EpochTree", "readAck", "(LEpochTree$Server;LEpochTree$Server;I)V"⟩
abbrev cX6_sendOnTiedLinks : ByteArray := prog_1_method_36_code
abbrev yX6_sendOnTiedLinks : MethodName := ⟨"EpochTree", "sendOnTiedLinks", "(LEpochTree$Server;II)V"⟩
abbrev cX6_readNewEpoch : ByteArray := prog_1_method_37_code
abbrev yX6_readNewEpoch : MethodName := ⟨"EpochTree", "readNewEpoch", "(II)V"⟩
abbrev cX6_readNewLeader : ByteArray := prog_1_method_38_code
abbrev yX6_readNewLeader : MethodName := ⟨"EpochTree", "readNewLeader", "(LEpochTree$Server;I)V"⟩
abbrev cX6_readProposal : ByteArray := prog_1_method_39_code
abbrev yX6_readProposal : MethodName := ⟨"EpochTree", "readProposal", "(LEpochTree$Server;I)V"⟩
abbrev cX6_makeEntry : ByteArray := prog_1_method_40_code
abbrev yX6_makeEntry : MethodName := ⟨"EpochTree", "makeEntry", "(LEpochTree$Server;IIII)V"⟩
abbrev cX6_growAges : ByteArray := prog_1_method_41_code
abbrev yX6_growAges : MethodName := ⟨"EpochTree", "growAges", "(LEpochTree$Server;)V"⟩
abbrev cX6_closeOldSessions : ByteArray := prog_1_method_42_code
abbrev yX6_closeOldSessions : MethodName := ⟨"EpochTree", "closeOldSessions", "(LEpochTree$Server;)I"⟩
abbrev cX7_init : ByteArray := prog_9_method_1_code
abbrev yX7_init : MethodName := ⟨"EpochTreeModel", "<init>", "()V"⟩
abbrev cX7_out : ByteArray := prog_9_method_2_code
abbrev yX7_out : MethodName := ⟨"EpochTreeModel", "out", "(I)Z"⟩
abbrev cX7_find : ByteArray := prog_9_method_3_code
abbrev yX7_find : MethodName := ⟨"EpochTreeModel", "find", "(I)I"⟩
abbrev cX7_children : ByteArray := prog_9_method_4_code
abbrev yX7_children : MethodName := ⟨"EpochTreeModel", "children", "(I)I"⟩
abbrev cX7_create : ByteArray := prog_9_method_5_code
abbrev yX7_create : MethodName := ⟨"EpochTreeModel", "create", "(III)I"⟩
abbrev cX7_alter : ByteArray := prog_9_method_6_code
abbrev yX7_alter : MethodName := ⟨"EpochTreeModel", "alter", "(ZIII)I"⟩
abbrev cX7_session : ByteArray := prog_9_method_7_code
abbrev yX7_session : MethodName := ⟨"EpochTreeModel", "session", "(ZI)I"⟩
abbrev cX7_work : ByteArray := prog_9_method_8_code
abbrev yX7_work : MethodName := ⟨"EpochTreeModel", "work", "(I)V"⟩
abbrev cX7_cut : ByteArray := prog_9_method_9_code
abbrev yX7_cut : MethodName := ⟨"EpochTreeModel", "cut", "(I)V"⟩
abbrev cX7_follows : ByteArray := prog_9_method_10_code
abbrev yX7_follows : MethodName := ⟨"EpochTreeModel", "follows", "(II)Z"⟩
abbrev cX7_cease : ByteArray := prog_9_method_11_code
abbrev yX7_cease : MethodName := ⟨"EpochTreeModel", "cease", "(I)V"⟩
abbrev cX7_lead : ByteArray := prog_9_method_12_code
abbrev yX7_lead : MethodName := ⟨"EpochTreeModel", "lead", "(I)Z"⟩
abbrev cX7_follow : ByteArray := prog_9_method_13_code
abbrev yX7_follow : MethodName := ⟨"EpochTreeModel", "follow", "(II)Z"⟩
abbrev cX7_quit : ByteArray := prog_9_method_14_code
abbrev yX7_quit : MethodName := ⟨"EpochTreeModel", "quit", "(I)Z"⟩
abbrev cX7_crash : ByteArray := prog_9_method_15_code
abbrev yX7_crash : MethodName := ⟨"EpochTreeModel", "crash", "(I)Z"⟩
abbrev cX7_restart : ByteArray := prog_9_method_16_code
abbrev yX7_restart : MethodName := ⟨"EpochTreeModel", "restart", "(I)Z"⟩
abbrev cX7_sendUp : ByteArray := prog_9_method_17_code
abbrev yX7_sendUp : MethodName := ⟨"EpochTreeModel", "sendUp", "(III)V"⟩
abbrev cX7_sendDown : ByteArray := prog_9_method_18_code
abbrev yX7_sendDown : MethodName := ⟨"EpochTreeModel", "sendDown", "(III)V"⟩
abbrev cX7_newLeader : ByteArray := prog_9_method_19_code
abbrev yX7_newLeader : MethodName := ⟨"EpochTreeModel", "newLeader", "(II)V"⟩
abbrev cX7_copy : ByteArray := prog_9_method_20_code
abbrev yX7_copy : MethodName := ⟨"EpochTreeModel", "copy", "(III)V"⟩
abbrev cX7_copyEntry : ByteArray := prog_9_method_21_code
abbrev yX7_copyEntry : MethodName := ⟨"EpochTreeModel", "copyEntry", "(II)V"⟩
abbrev cX7_lastMark : ByteArray := prog_9_method_22_code
abbrev yX7_lastMark : MethodName := ⟨"EpochTreeModel", "lastMark", "(I)I"⟩
abbrev cX7_accepted : ByteArray := prog_9_method_23_code
abbrev yX7_accepted : MethodName := ⟨"EpochTreeModel", "accepted", "(IIZ)V"⟩
abbrev cX7_acknowledged : ByteArray := prog_9_method_24_code
abbrev yX7_acknowledged : MethodName := ⟨"EpochTreeModel", "acknowledged", "(III)V"⟩
abbrev cX7_up : ByteArray := prog_9_method_25_code
abbrev yX7_up : MethodName := ⟨"EpochTreeModel", "up", "(I)I"⟩
abbrev cX7_down : ByteArray := prog_9_method_26_code
abbrev yX7_down : MethodName := ⟨"EpochTreeModel", "down", "(I)I"⟩
abbrev cX7_make : ByteArray := prog_9_method_27_code
abbrev yX7_make : MethodName := ⟨"EpochTreeModel", "make", "(IIIII)V"⟩
abbrev cX7_isPath : ByteArray := prog_9_method_28_code
abbrev yX7_isPath : MethodName := ⟨"EpochTreeModel", "isPath", "(I)Z"⟩
abbrev cX7_submit : ByteArray := prog_9_method_29_code
abbrev yX7_submit : MethodName := ⟨"EpochTreeModel", "submit", "(IIIII)I"⟩
abbrev cX7_tick : ByteArray := prog_9_method_30_code
abbrev yX7_tick : MethodName := ⟨"EpochTreeModel", "tick", "()I"⟩
abbrev cX7_touch : ByteArray := prog_9_method_31_code
abbrev yX7_touch : MethodName := ⟨"EpochTreeModel", "touch", "(II)Z"⟩
abbrev cX7_role : ByteArray := prog_9_method_32_code
abbrev yX7_role : MethodName := ⟨"EpochTreeModel", "role", "(I)I"⟩
abbrev cX7_promise : ByteArray := prog_9_method_33_code
abbrev yX7_promise : MethodName := ⟨"EpochTreeModel", "promise", "(I)I"⟩
abbrev cX7_epoch : ByteArray := prog_9_method_34_code
abbrev yX7_epoch : MethodName := ⟨"EpochTreeModel", "epoch", "(I)I"⟩
abbrev cX7_length : ByteArray := prog_9_method_35_code
abbrev yX7_length : MethodName := ⟨"EpochTreeModel", "length", "(I)I"⟩
abbrev cX7_mark : ByteArray := prog_9_method_36_code
abbrev yX7_mark : MethodName := ⟨"EpochTreeModel", "mark", "(II)I"⟩
abbrev cX7_applied : ByteArray := prog_9_method_37_code
abbrev yX7_applied : MethodName := ⟨"EpochTreeModel", "applied", "(I)I"⟩
abbrev cX7_result : ByteArray := prog_9_method_38_code
abbrev yX7_result : MethodName := ⟨"EpochTreeModel", "result", "(II)I"⟩
abbrev cX7_node : ByteArray := prog_9_method_39_code
abbrev yX7_node : MethodName := ⟨"EpochTreeModel", "node", "(III)I"⟩
abbrev cX7_tree : ByteArray := prog_9_method_40_code
abbrev yX7_tree : MethodName := ⟨"EpochTreeModel", "tree", "(I)I"⟩
abbrev cX7_waiting : ByteArray := prog_9_method_41_code
abbrev yX7_waiting : MethodName := ⟨"EpochTreeModel", "waiting", "(IZ)I"⟩
abbrev cX0_init : ByteArray := prog_2_method_1_code
abbrev yX0_init : MethodName := ⟨"EpochTree$EntryList", "<init>", "()V"⟩
abbrev cX0_isFull : ByteArray := prog_2_method_2_code
abbrev yX0_isFull : MethodName := ⟨"EpochTree$EntryList", "isFull", "()Z"⟩
abbrev cX0_markAt : ByteArray := prog_2_method_3_code
abbrev yX0_markAt : MethodName := ⟨"EpochTree$EntryList", "markAt", "(I)I"⟩
abbrev cX0_lastMark : ByteArray := prog_2_method_4_code
abbrev yX0_lastMark : MethodName := ⟨"EpochTree$EntryList", "lastMark", "()I"⟩
abbrev cX0_append : ByteArray := prog_2_method_5_code
abbrev yX0_append : MethodName := ⟨"EpochTree$EntryList", "append", "(IIIII)V"⟩
abbrev cX0_appendFrom : ByteArray := prog_2_method_6_code
abbrev yX0_appendFrom : MethodName := ⟨"EpochTree$EntryList", "appendFrom", "(LEpochTree$EntryList;I)V"⟩
abbrev cX0_becomeFirst : ByteArray := prog_2_method_7_code
abbrev yX0_becomeFirst : MethodName := ⟨"EpochTree$EntryList", "becomeFirst", "(LEpochTree$EntryList;I)V"⟩
abbrev cX1_init : ByteArray := prog_3_method_1_code
abbrev yX1_init : MethodName := ⟨"EpochTree$Link", "<init>", "()V"⟩
abbrev cX1_clear : ByteArray := prog_3_method_2_code
abbrev yX1_clear : MethodName := ⟨"EpochTree$Link", "clear", "()V"⟩
abbrev cX2_init : ByteArray := prog_4_method_1_code
abbrev yX2_init : MethodName := ⟨"EpochTree$Row", "<init>", "(I)V"⟩
abbrev cX2_clear : ByteArray := prog_4_method_2_code
abbrev yX2_clear : MethodName := ⟨"EpochTree$Row", "clear", "()V"⟩
abbrev cX2_count : ByteArray := prog_4_method_3_code
abbrev yX2_count : MethodName := ⟨"EpochTree$Row", "count", "()I"⟩
abbrev cX2_send : ByteArray := prog_4_method_4_code
abbrev yX2_send : MethodName := ⟨"EpochTree$Row", "send", "(II)V"⟩
abbrev cX2_firstKind : ByteArray := prog_4_method_5_code
abbrev yX2_firstKind : MethodName := ⟨"EpochTree$Row", "firstKind", "()I"⟩
abbrev cX2_firstValue : ByteArray := prog_4_method_6_code
abbrev yX2_firstValue : MethodName := ⟨"EpochTree$Row", "firstValue", "()I"⟩
abbrev cX2_dropFirst : ByteArray := prog_4_method_7_code
abbrev yX2_dropFirst : MethodName := ⟨"EpochTree$Row", "dropFirst", "()V"⟩
abbrev cX3_init : ByteArray := prog_5_method_1_code
abbrev yX3_init : MethodName := ⟨"EpochTree$Server", "<init>", "(I)V"⟩
abbrev cX3_applyUpTo : ByteArray := prog_5_method_2_code
abbrev yX3_applyUpTo : MethodName := ⟨"EpochTree$Server", "applyUpTo", "(I)V"⟩
abbrev cX3_forgetApplied : ByteArray := prog_5_method_3_code
abbrev yX3_forgetApplied : MethodName := ⟨"EpochTree$Server", "forgetApplied", "()V"⟩
abbrev cX4_init : ByteArray := prog_6_method_1_code
abbrev yX4_init : MethodName := ⟨"EpochTree$Term", "<init>", "()V"⟩
abbrev cX4_begin : ByteArray := prog_6_method_2_code
abbrev yX4_begin : MethodName := ⟨"EpochTree$Term", "begin", "()V"⟩
abbrev cX5_init : ByteArray := prog_7_method_1_code
abbrev yX5_init : MethodName := ⟨"EpochTree$Tree", "<init>", "()V"⟩
abbrev cX5_clear : ByteArray := prog_7_method_2_code
abbrev yX5_clear : MethodName := ⟨"EpochTree$Tree", "clear", "()V"⟩
abbrev cX5_summary : ByteArray := prog_7_method_3_code
abbrev yX5_summary : MethodName := ⟨"EpochTree$Tree", "summary", "()I"⟩
abbrev cX5_isOpen : ByteArray := prog_7_method_4_code
abbrev yX5_isOpen : MethodName := ⟨"EpochTree$Tree", "isOpen", "(I)Z"⟩
abbrev cX5_look : ByteArray := prog_7_method_5_code
abbrev yX5_look : MethodName := ⟨"EpochTree$Tree", "look", "(II)I"⟩
abbrev cX5_lookAtRoot : ByteArray := prog_7_method_6_code
abbrev yX5_lookAtRoot : MethodName := ⟨"EpochTree$Tree", "lookAtRoot", "(I)I"⟩
abbrev cX5_find : ByteArray := prog_7_method_7_code
abbrev yX5_find : MethodName := ⟨"EpochTree$Tree", "find", "(I)I"⟩
abbrev cX5_countChildren : ByteArray := prog_7_method_8_code
abbrev yX5_countChildren : MethodName := ⟨"EpochTree$Tree", "countChildren", "(I)I"⟩
abbrev cX5_change : ByteArray := prog_7_method_9_code
abbrev yX5_change : MethodName := ⟨"EpochTree$Tree", "change", "(IIII)I"⟩
abbrev cX5_create : ByteArray := prog_7_method_10_code
abbrev yX5_create : MethodName := ⟨"EpochTree$Tree", "create", "(III)I"⟩
abbrev cX5_add : ByteArray := prog_7_method_11_code
abbrev yX5_add : MethodName := ⟨"EpochTree$Tree", "add", "(III)V"⟩
abbrev cX5_set : ByteArray := prog_7_method_12_code
abbrev yX5_set : MethodName := ⟨"EpochTree$Tree", "set", "(III)I"⟩
abbrev cX5_delete : ByteArray := prog_7_method_13_code
abbrev yX5_delete : MethodName := ⟨"EpochTree$Tree", "delete", "(II)I"⟩
abbrev cX5_remove : ByteArray := prog_7_method_14_code
abbrev yX5_remove : MethodName := ⟨"EpochTree$Tree", "remove", "(I)V"⟩
abbrev cX5_open : ByteArray := prog_7_method_15_code
abbrev yX5_open : MethodName := ⟨"EpochTree$Tree", "open", "(I)I"⟩
abbrev cX5_close : ByteArray := prog_7_method_16_code
abbrev yX5_close : MethodName := ⟨"EpochTree$Tree", "close", "(I)I"⟩
abbrev cXA_fill : ByteArray := prog_11_method_103_code
abbrev yXA_fill : MethodName := ⟨"java/util/Arrays", "fill", "([II)V"⟩
set_option maxRecDepth 20000 in
def tb : List Cond := [
  (Jvm.Cond.initialized "EpochTree"),
  (Jvm.Cond.initialized "EpochTree$Server"),
  (Jvm.Cond.initialized "EpochTree$EntryList"),
  (Jvm.Cond.initialized "EpochTree$Tree"),
  (Jvm.Cond.initialized "EpochTree$Link"),
  (Jvm.Cond.initialized "EpochTree$Row"),
  (Jvm.Cond.initialized "EpochTree$Term"),
  (Jvm.Cond.initialized "EpochTreeModel"),
  (Jvm.Cond.initialized "java/lang/Math"),
  (Jvm.Cond.initialized "java/util/Arrays"),
  (Jvm.Cond.instantiable "EpochTree" (1 : Nat)),
  (Jvm.Cond.instanceMethod ({ cls := "EpochTree", name := "<init>", desc := "()V" } : Jvm.MethodName)),
  (Jvm.Cond.code ({ cls := "EpochTree", name := "<init>", desc := "()V" } : Jvm.MethodName) prog_1_method_1_code (2 : Nat) (Option.none : Option Jvm.ClassFile.FieldType)),
  (Jvm.Cond.methodLink "EpochTree" (3 : Nat) ({ cls := "java/lang/Object", name := "<init>", desc := "()V" } : Jvm.MethodName)),
  (Jvm.Cond.instanceMethod ({ cls := "java/lang/Object", name := "<init>", desc := "()V" } : Jvm.MethodName)),
  (Jvm.Cond.code ({ cls := "java/lang/Object", name := "<init>", desc := "()V" } : Jvm.MethodName) object_method_1_code (1 : Nat) (Option.none : Option Jvm.ClassFile.FieldType)),
  (Jvm.Cond.classLink "EpochTree" (9 : Nat) "EpochTree$Server"),
  (Jvm.Cond.instantiable "EpochTree$Server" (11 : Nat)),
  (Jvm.Cond.instanceMethod ({ cls := "EpochTree$Server", name := "<init>", desc := "(I)V" } : Jvm.MethodName)),
  (Jvm.Cond.code ({ cls := "EpochTree$Server", name := "<init>", desc := "(I)V" } : Jvm.MethodName) prog_5_method_1_code (2 : Nat) (Option.none : Option Jvm.ClassFile.FieldType)),
  (Jvm.Cond.methodLink "EpochTree$Server" (3 : Nat) ({ cls := "java/lang/Object", name := "<init>", desc := "()V" } : Jvm.MethodName)),
  (Jvm.Cond.classLink "EpochTree$Server" (15 : Nat) "EpochTree$EntryList"),
  (Jvm.Cond.instantiable "EpochTree$EntryList" (6 : Nat)),
  (Jvm.Cond.instanceMethod ({ cls := "EpochTree$EntryList", name := "<init>", desc := "()V" } : Jvm.MethodName)),
  (Jvm.Cond.code ({ cls := "EpochTree$EntryList", name := "<init>", desc := "()V" } : Jvm.MethodName) prog_2_method_1_code (1 : Nat) (Option.none : Option Jvm.ClassFile.FieldType)),
  (Jvm.Cond.methodLink "EpochTree$EntryList" (3 : Nat) ({ cls := "java/lang/Object", name := "<init>", desc := "()V" } : Jvm.MethodName)),
  (Jvm.Cond.fieldLink "EpochTree$EntryList" (9 : Nat) "EpochTree$EntryList" "marks" "[I"),
  (Jvm.Cond.fieldLink "EpochTree$EntryList" (15 : Nat) "EpochTree$EntryList" "kinds" "[I"),
  (Jvm.Cond.fieldLink "EpochTree$EntryList" (18 : Nat) "EpochTree$EntryList" "paths" "[I"),
  (Jvm.Cond.fieldLink "EpochTree$EntryList" (21 : Nat) "EpochTree$EntryList" "as" "[I"),
  (Jvm.Cond.fieldLink "EpochTree$EntryList" (24 : Nat) "EpochTree$EntryList" "bs" "[I"),
  (Jvm.Cond.fieldLink "EpochTree$EntryList" (27 : Nat) "EpochTree$EntryList" "size" "I"),
  (Jvm.Cond.laysFinal "EpochTree$EntryList" "EpochTree$EntryList" "marks" "[I"),
  (Jvm.Cond.laysFinal "EpochTree$EntryList" "EpochTree$EntryList" "kinds" "[I"),
  (Jvm.Cond.laysFinal "EpochTree$EntryList" "EpochTree$EntryList" "paths" "[I"),
  (Jvm.Cond.laysFinal "EpochTree$EntryList" "EpochTree$EntryList" "as" "[I"),
  (Jvm.Cond.laysFinal "EpochTree$EntryList" "EpochTree$EntryList" "bs" "[I"),
  (Jvm.Cond.lays "EpochTree$EntryList" "EpochTree$EntryList" "size" "I"),
  (Jvm.Cond.arrayClass Jvm.ClassFile.FieldType.int),
  (Jvm.Cond.classLink "EpochTree$Server" (29 : Nat) "EpochTree$Tree"),
  (Jvm.Cond.instantiable "EpochTree$Tree" (6 : Nat)),
  (Jvm.Cond.instanceMethod ({ cls := "EpochTree$Tree", name := "<init>", desc := "()V" } : Jvm.MethodName)),
  (Jvm.Cond.code ({ cls := "EpochTree$Tree", name := "<init>", desc := "()V" } : Jvm.MethodName) prog_7_method_1_code (1 : Nat) (Option.none : Option Jvm.ClassFile.FieldType)),
  (Jvm.Cond.methodLink "EpochTree$Tree" (3 : Nat) ({ cls := "java/lang/Object", name := "<init>", desc := "()V" } : Jvm.MethodName)),
  (Jvm.Cond.fieldLink "EpochTree$Tree" (9 : Nat) "EpochTree$Tree" "paths" "[I"),
  (Jvm.Cond.fieldLink "EpochTree$Tree" (15 : Nat) "EpochTree$Tree" "data" "[I"),
  (Jvm.Cond.fieldLink "EpochTree$Tree" (18 : Nat) "EpochTree$Tree" "versions" "[I"),
  (Jvm.Cond.fieldLink "EpochTree$Tree" (21 : Nat) "EpochTree$Tree" "owners" "[I"),
  (Jvm.Cond.fieldLink "EpochTree$Tree" (24 : Nat) "EpochTree$Tree" "size" "I"),
  (Jvm.Cond.fieldLink "EpochTree$Tree" (28 : Nat) "EpochTree$Tree" "openBits" "I"),
  (Jvm.Cond.laysFinal "EpochTree$Tree" "EpochTree$Tree" "paths" "[I"),
  (Jvm.Cond.laysFinal "EpochTree$Tree" "EpochTree$Tree" "data" "[I"),
  (Jvm.Cond.laysFinal "EpochTree$Tree" "EpochTree$Tree" "versions" "[I"),
  (Jvm.Cond.laysFinal "EpochTree$Tree" "EpochTree$Tree" "owners" "[I"),
  (Jvm.Cond.lays "EpochTree$Tree" "EpochTree$Tree" "size" "I"),
  (Jvm.Cond.lays "EpochTree$Tree" "EpochTree$Tree" "openBits" "I"),
  (Jvm.Cond.classLink "EpochTree$Server" (36 : Nat) "EpochTree$Link"),
  (Jvm.Cond.instantiable "EpochTree$Link" (5 : Nat)),
  (Jvm.Cond.instanceMethod ({ cls := "EpochTree$Link", name := "<init>", desc := "()V" } : Jvm.MethodName)),
  (Jvm.Cond.code ({ cls := "EpochTree$Link", name := "<init>", desc := "()V" } : Jvm.MethodName) prog_3_method_1_code (1 : Nat) (Option.none : Option Jvm.ClassFile.FieldType)),
  (Jvm.Cond.methodLink "EpochTree$Link" (3 : Nat) ({ cls := "java/lang/Object", name := "<init>", desc := "()V" } : Jvm.MethodName)),
  (Jvm.Cond.classLink "EpochTree$Link" (9 : Nat) "EpochTree$Row"),
  (Jvm.Cond.instantiable "EpochTree$Row" (4 : Nat)),
  (Jvm.Cond.instanceMethod ({ cls := "EpochTree$Row", name := "<init>", desc := "(I)V" } : Jvm.MethodName)),
  (Jvm.Cond.code ({ cls := "EpochTree$Row", name := "<init>", desc := "(I)V" } : Jvm.MethodName) prog_4_method_1_code (2 : Nat) (Option.none : Option Jvm.ClassFile.FieldType)),
  (Jvm.Cond.methodLink "EpochTree$Row" (1 : Nat) ({ cls := "java/lang/Object", name := "<init>", desc := "()V" } : Jvm.MethodName)),
  (Jvm.Cond.fieldLink "EpochTree$Row" (7 : Nat) "EpochTree$Row" "kinds" "[I"),
  (Jvm.Cond.fieldLink "EpochTree$Row" (13 : Nat) "EpochTree$Row" "values" "[I"),
  (Jvm.Cond.fieldLink "EpochTree$Row" (16 : Nat) "EpochTree$Row" "first" "I"),
  (Jvm.Cond.fieldLink "EpochTree$Row" (20 : Nat) "EpochTree$Row" "end" "I"),
  (Jvm.Cond.laysFinal "EpochTree$Row" "EpochTree$Row" "kinds" "[I"),
  (Jvm.Cond.laysFinal "EpochTree$Row" "EpochTree$Row" "values" "[I"),
  (Jvm.Cond.lays "EpochTree$Row" "EpochTree$Row" "first" "I"),
  (Jvm.Cond.lays "EpochTree$Row" "EpochTree$Row" "end" "I"),
  (Jvm.Cond.fieldLink "EpochTree$Link" (14 : Nat) "EpochTree$Link" "up" "LEpochTree$Row;"),
  (Jvm.Cond.fieldLink "EpochTree$Link" (20 : Nat) "EpochTree$Link" "down" "LEpochTree$Row;"),
  (Jvm.Cond.fieldLink "EpochTree$Link" (26 : Nat) "EpochTree$Link" "tied" "Z"),
  (Jvm.Cond.fieldLink "EpochTree$Link" (30 : Nat) "EpochTree$Link" "acked" "Z"),
  (Jvm.Cond.fieldLink "EpochTree$Link" (33 : Nat) "EpochTree$Link" "waitsForList" "Z"),
  (Jvm.Cond.laysFinal "EpochTree$Link" "EpochTree$Link" "up" "LEpochTree$Row;"),
  (Jvm.Cond.laysFinal "EpochTree$Link" "EpochTree$Link" "down" "LEpochTree$Row;"),
  (Jvm.Cond.lays "EpochTree$Link" "EpochTree$Link" "tied" "Z"),
  (Jvm.Cond.lays "EpochTree$Link" "EpochTree$Link" "acked" "Z"),
  (Jvm.Cond.lays "EpochTree$Link" "EpochTree$Link" "waitsForList" "Z"),
  (Jvm.Cond.classLink "EpochTree$Server" (43 : Nat) "EpochTree$Term"),
  (Jvm.Cond.instantiable "EpochTree$Term" (4 : Nat)),
  (Jvm.Cond.instanceMethod ({ cls := "EpochTree$Term", name := "<init>", desc := "()V" } : Jvm.MethodName)),
  (Jvm.Cond.code ({ cls := "EpochTree$Term", name := "<init>", desc := "()V" } : Jvm.MethodName) prog_6_method_1_code (1 : Nat) (Option.none : Option Jvm.ClassFile.FieldType)),
  (Jvm.Cond.methodLink "EpochTree$Term" (3 : Nat) ({ cls := "java/lang/Object", name := "<init>", desc := "()V" } : Jvm.MethodName)),
  (Jvm.Cond.fieldLink "EpochTree$Term" (15 : Nat) "EpochTree$Term" "epochChosen" "Z"),
  (Jvm.Cond.fieldLink "EpochTree$Term" (19 : Nat) "EpochTree$Term" "listChosen" "Z"),
  (Jvm.Cond.fieldLink "EpochTree$Term" (22 : Nat) "EpochTree$Term" "made" "I"),
  (Jvm.Cond.fieldLink "EpochTree$Term" (9 : Nat) "EpochTree$Term" "ages" "[I"),
  (Jvm.Cond.lays "EpochTree$Term" "EpochTree$Term" "epochChosen" "Z"),
  (Jvm.Cond.lays "EpochTree$Term" "EpochTree$Term" "listChosen" "Z"),
  (Jvm.Cond.lays "EpochTree$Term" "EpochTree$Term" "made" "I"),
  (Jvm.Cond.laysFinal "EpochTree$Term" "EpochTree$Term" "ages" "[I"),
  (Jvm.Cond.fieldLink "EpochTree$Server" (9 : Nat) "EpochTree$Server" "number" "I"),
  (Jvm.Cond.fieldLink "EpochTree$Server" (18 : Nat) "EpochTree$Server" "list" "LEpochTree$EntryList;"),
  (Jvm.Cond.fieldLink "EpochTree$Server" (22 : Nat) "EpochTree$Server" "role" "I"),
  (Jvm.Cond.fieldLink "EpochTree$Server" (59 : Nat) "EpochTree$Server" "applied" "I"),
  (Jvm.Cond.fieldLink "EpochTree$Server" (25 : Nat) "EpochTree$Server" "results" "[I"),
  (Jvm.Cond.fieldLink "EpochTree$Server" (32 : Nat) "EpochTree$Server" "tree" "LEpochTree$Tree;"),
  (Jvm.Cond.fieldLink "EpochTree$Server" (39 : Nat) "EpochTree$Server" "link" "LEpochTree$Link;"),
  (Jvm.Cond.fieldLink "EpochTree$Server" (46 : Nat) "EpochTree$Server" "term" "LEpochTree$Term;"),
  (Jvm.Cond.laysFinal "EpochTree$Server" "EpochTree$Server" "number" "I"),
  (Jvm.Cond.lays "EpochTree$Server" "EpochTree$Server" "promise" "I"),
  (Jvm.Cond.lays "EpochTree$Server" "EpochTree$Server" "epoch" "I"),
  (Jvm.Cond.laysFinal "EpochTree$Server" "EpochTree$Server" "list" "LEpochTree$EntryList;"),
  (Jvm.Cond.lays "EpochTree$Server" "EpochTree$Server" "role" "I"),
  (Jvm.Cond.lays "EpochTree$Server" "EpochTree$Server" "leader" "I"),
  (Jvm.Cond.lays "EpochTree$Server" "EpochTree$Server" "applied" "I"),
  (Jvm.Cond.laysFinal "EpochTree$Server" "EpochTree$Server" "results" "[I"),
  (Jvm.Cond.laysFinal "EpochTree$Server" "EpochTree$Server" "tree" "LEpochTree$Tree;"),
  (Jvm.Cond.laysFinal "EpochTree$Server" "EpochTree$Server" "link" "LEpochTree$Link;"),
  (Jvm.Cond.laysFinal "EpochTree$Server" "EpochTree$Server" "term" "LEpochTree$Term;"),
  (Jvm.Cond.fieldLink "EpochTree" (11 : Nat) "EpochTree" "servers" "[LEpochTree$Server;"),
  (Jvm.Cond.laysFinal "EpochTree" "EpochTree" "servers" "[LEpochTree$Server;"),
  (Jvm.Cond.instanceMethod ({ cls := "EpochTree", name := "lead", desc := "(I)Z" } : Jvm.MethodName)),
  (Jvm.Cond.selects "EpochTree" ({ cls := "EpochTree", name := "lead", desc := "(I)Z" } : Jvm.MethodName) ({ cls := "EpochTree", name := "lead", desc := "(I)Z" } : Jvm.MethodName)),
  (Jvm.Cond.code ({ cls := "EpochTree", name := "lead", desc := "(I)Z" } : Jvm.MethodName) prog_1_method_2_code (2 : Nat) (Option.some Jvm.ClassFile.FieldType.boolean)),
  (Jvm.Cond.methodLink "EpochTree" (18 : Nat) ({ cls := "EpochTree", name := "hasRole", desc := "(II)Z" } : Jvm.MethodName)),
  (Jvm.Cond.instanceMethod ({ cls := "EpochTree", name := "hasRole", desc := "(II)Z" } : Jvm.MethodName)),
  (Jvm.Cond.code ({ cls := "EpochTree", name := "hasRole", desc := "(II)Z" } : Jvm.MethodName) prog_1_method_26_code (3 : Nat) (Option.some Jvm.ClassFile.FieldType.boolean)),
  (Jvm.Cond.methodLink "EpochTree" (64 : Nat) ({ cls := "EpochTree", name := "isServer", desc := "(I)Z" } : Jvm.MethodName)),
  (Jvm.Cond.static ({ cls := "EpochTree", name := "isServer", desc := "(I)Z" } : Jvm.MethodName)),
  (Jvm.Cond.code ({ cls := "EpochTree", name := "isServer", desc := "(I)Z" } : Jvm.MethodName) prog_1_method_22_code (1 : Nat) (Option.some Jvm.ClassFile.FieldType.boolean)),
  (Jvm.Cond.instanceMethod ({ cls := "EpochTree$Term", name := "begin", desc := "()V" } : Jvm.MethodName)),
  (Jvm.Cond.code ({ cls := "EpochTree$Term", name := "begin", desc := "()V" } : Jvm.MethodName) prog_6_method_2_code (1 : Nat) (Option.none : Option Jvm.ClassFile.FieldType)),
  (Jvm.Cond.instanceMethod ({ cls := "EpochTree", name := "follow", desc := "(II)Z" } : Jvm.MethodName)),
  (Jvm.Cond.selects "EpochTree" ({ cls := "EpochTree", name := "follow", desc := "(II)Z" } : Jvm.MethodName) ({ cls := "EpochTree", name := "follow", desc := "(II)Z" } : Jvm.MethodName)),
  (Jvm.Cond.code ({ cls := "EpochTree", name := "follow", desc := "(II)Z" } : Jvm.MethodName) prog_1_method_3_code (4 : Nat) (Option.some Jvm.ClassFile.FieldType.boolean)),
  (Jvm.Cond.methodLink "EpochTree" (35 : Nat) ({ cls := "EpochTree", name := "leads", desc := "(I)Z" } : Jvm.MethodName)),
  (Jvm.Cond.instanceMethod ({ cls := "EpochTree", name := "leads", desc := "(I)Z" } : Jvm.MethodName)),
  (Jvm.Cond.code ({ cls := "EpochTree", name := "leads", desc := "(I)Z" } : Jvm.MethodName) prog_1_method_27_code (2 : Nat) (Option.some Jvm.ClassFile.FieldType.boolean)),
  (Jvm.Cond.instanceMethod ({ cls := "EpochTree$Row", name := "send", desc := "(II)V" } : Jvm.MethodName)),
  (Jvm.Cond.code ({ cls := "EpochTree$Row", name := "send", desc := "(II)V" } : Jvm.MethodName) prog_4_method_4_code (3 : Nat) (Option.none : Option Jvm.ClassFile.FieldType)),
  (Jvm.Cond.instanceMethod ({ cls := "EpochTree", name := "quit", desc := "(I)Z" } : Jvm.MethodName)),
  (Jvm.Cond.selects "EpochTree" ({ cls := "EpochTree", name := "quit", desc := "(I)Z" } : Jvm.MethodName) ({ cls := "EpochTree", name := "quit", desc := "(I)Z" } : Jvm.MethodName)),
  (Jvm.Cond.code ({ cls := "EpochTree", name := "quit", desc := "(I)Z" } : Jvm.MethodName) prog_1_method_4_code (2 : Nat) (Option.some Jvm.ClassFile.FieldType.boolean)),
  (Jvm.Cond.methodLink "EpochTree" (61 : Nat) ({ cls := "EpochTree", name := "stopTo", desc := "(II)V" } : Jvm.MethodName)),
  (Jvm.Cond.instanceMethod ({ cls := "EpochTree", name := "stopTo", desc := "(II)V" } : Jvm.MethodName)),
  (Jvm.Cond.code ({ cls := "EpochTree", name := "stopTo", desc := "(II)V" } : Jvm.MethodName) prog_1_method_29_code (5 : Nat) (Option.none : Option Jvm.ClassFile.FieldType)),
  (Jvm.Cond.methodLink "EpochTree" (181 : Nat) ({ cls := "EpochTree", name := "isFollowerOf", desc := "(LEpochTree$Server;LEpochTree$Server;)Z" } : Jvm.MethodName)),
  (Jvm.Cond.static ({ cls := "EpochTree", name := "isFollowerOf", desc := "(LEpochTree$Server;LEpochTree$Server;)Z" } : Jvm.MethodName)),
  (Jvm.Cond.code ({ cls := "EpochTree", name := "isFollowerOf", desc := "(LEpochTree$Server;LEpochTree$Server;)Z" } : Jvm.MethodName) prog_1_method_28_code (2 : Nat) (Option.some Jvm.ClassFile.FieldType.boolean)),
  (Jvm.Cond.instanceMethod ({ cls := "EpochTree$Link", name := "clear", desc := "()V" } : Jvm.MethodName)),
  (Jvm.Cond.code ({ cls := "EpochTree$Link", name := "clear", desc := "()V" } : Jvm.MethodName) prog_3_method_2_code (1 : Nat) (Option.none : Option Jvm.ClassFile.FieldType)),
  (Jvm.Cond.instanceMethod ({ cls := "EpochTree$Row", name := "clear", desc := "()V" } : Jvm.MethodName)),
  (Jvm.Cond.code ({ cls := "EpochTree$Row", name := "clear", desc := "()V" } : Jvm.MethodName) prog_4_method_2_code (1 : Nat) (Option.none : Option Jvm.ClassFile.FieldType)),
  (Jvm.Cond.instanceMethod ({ cls := "EpochTree", name := "crash", desc := "(I)Z" } : Jvm.MethodName)),
  (Jvm.Cond.selects "EpochTree" ({ cls := "EpochTree", name := "crash", desc := "(I)Z" } : Jvm.MethodName) ({ cls := "EpochTree", name := "crash", desc := "(I)Z" } : Jvm.MethodName)),
  (Jvm.Cond.code ({ cls := "EpochTree", name := "crash", desc := "(I)Z" } : Jvm.MethodName) prog_1_method_5_code (2 : Nat) (Option.some Jvm.ClassFile.FieldType.boolean)),
  (Jvm.Cond.instanceMethod ({ cls := "EpochTree$Server", name := "forgetApplied", desc := "()V" } : Jvm.MethodName)),
  (Jvm.Cond.code ({ cls := "EpochTree$Server", name := "forgetApplied", desc := "()V" } : Jvm.MethodName) prog_5_method_3_code (1 : Nat) (Option.none : Option Jvm.ClassFile.FieldType)),
  (Jvm.Cond.instanceMethod ({ cls := "EpochTree$Tree", name := "clear", desc := "()V" } : Jvm.MethodName)),
  (Jvm.Cond.code ({ cls := "EpochTree$Tree", name := "clear", desc := "()V" } : Jvm.MethodName) prog_7_method_2_code (1 : Nat) (Option.none : Option Jvm.ClassFile.FieldType)),
  (Jvm.Cond.instanceMethod ({ cls := "EpochTree", name := "restart", desc := "(I)Z" } : Jvm.MethodName)),
  (Jvm.Cond.selects "EpochTree" ({ cls := "EpochTree", name := "restart", desc := "(I)Z" } : Jvm.MethodName) ({ cls := "EpochTree", name := "restart", desc := "(I)Z" } : Jvm.MethodName)),
  (Jvm.Cond.code ({ cls := "EpochTree", name := "restart", desc := "(I)Z" } : Jvm.MethodName) prog_1_method_6_code (2 : Nat) (Option.some Jvm.ClassFile.FieldType.boolean)),
  (Jvm.Cond.instanceMethod ({ cls := "EpochTree", name := "up", desc := "(I)I" } : Jvm.MethodName)),
  (Jvm.Cond.selects "EpochTree" ({ cls := "EpochTree", name := "up", desc := "(I)I" } : Jvm.MethodName) ({ cls := "EpochTree", name := "up", desc := "(I)I" } : Jvm.MethodName)),
  (Jvm.Cond.code ({ cls := "EpochTree", name := "up", desc := "(I)I" } : Jvm.MethodName) prog_1_method_7_code (7 : Nat) (Option.some Jvm.ClassFile.FieldType.int)),
  (Jvm.Cond.instanceMethod ({ cls := "EpochTree$Row", name := "count", desc := "()I" } : Jvm.MethodName)),
  (Jvm.Cond.code ({ cls := "EpochTree$Row", name := "count", desc := "()I" } : Jvm.MethodName) prog_4_method_3_code (1 : Nat) (Option.some Jvm.ClassFile.FieldType.int)),
  (Jvm.Cond.instanceMethod ({ cls := "EpochTree$Row", name := "firstKind", desc := "()I" } : Jvm.MethodName)),
  (Jvm.Cond.code ({ cls := "EpochTree$Row", name := "firstKind", desc := "()I" } : Jvm.MethodName) prog_4_method_5_code (1 : Nat) (Option.some Jvm.ClassFile.FieldType.int)),
  (Jvm.Cond.instanceMethod ({ cls := "EpochTree$Row", name := "firstValue", desc := "()I" } : Jvm.MethodName)),
  (Jvm.Cond.code ({ cls := "EpochTree$Row", name := "firstValue", desc := "()I" } : Jvm.MethodName) prog_4_method_6_code (1 : Nat) (Option.some Jvm.ClassFile.FieldType.int)),
  (Jvm.Cond.instanceMethod ({ cls := "EpochTree$Row", name := "dropFirst", desc := "()V" } : Jvm.MethodName)),
  (Jvm.Cond.code ({ cls := "EpochTree$Row", name := "dropFirst", desc := "()V" } : Jvm.MethodName) prog_4_method_7_code (1 : Nat) (Option.none : Option Jvm.ClassFile.FieldType)),
  (Jvm.Cond.methodLink "EpochTree" (83 : Nat) ({ cls := "EpochTree", name := "readJoin", desc := "(LEpochTree$Server;LEpochTree$Server;I)V" } : Jvm.MethodName)),
  (Jvm.Cond.static ({ cls := "EpochTree", name := "readJoin", desc := "(LEpochTree$Server;LEpochTree$Server;I)V" } : Jvm.MethodName)),
  (Jvm.Cond.code ({ cls := "EpochTree", name := "readJoin", desc := "(LEpochTree$Server;LEpochTree$Server;I)V" } : Jvm.MethodName) prog_1_method_30_code (3 : Nat) (Option.none : Option Jvm.ClassFile.FieldType)),
  (Jvm.Cond.methodLink "EpochTree" (192 : Nat) ({ cls := "java/lang/Math", name := "max", desc := "(II)I" } : Jvm.MethodName)),
  (Jvm.Cond.static ({ cls := "java/lang/Math", name := "max", desc := "(II)I" } : Jvm.MethodName)),
  (Jvm.Cond.code ({ cls := "java/lang/Math", name := "max", desc := "(II)I" } : Jvm.MethodName) prog_10_method_65_code (2 : Nat) (Option.some Jvm.ClassFile.FieldType.int)),
  (Jvm.Cond.methodLink "EpochTree" (87 : Nat) ({ cls := "EpochTree", name := "readAccepted", desc := "(LEpochTree$Server;LEpochTree$Server;Z)V" } : Jvm.MethodName)),
  (Jvm.Cond.instanceMethod ({ cls := "EpochTree", name := "readAccepted", desc := "(LEpochTree$Server;LEpochTree$Server;Z)V" } : Jvm.MethodName)),
  (Jvm.Cond.code ({ cls := "EpochTree", name := "readAccepted", desc := "(LEpochTree$Server;LEpochTree$Server;Z)V" } : Jvm.MethodName) prog_1_method_31_code (4 : Nat) (Option.none : Option Jvm.ClassFile.FieldType)),
  (Jvm.Cond.methodLink "EpochTree" (200 : Nat) ({ cls := "EpochTree", name := "sendNewLeader", desc := "(LEpochTree$Server;LEpochTree$Server;)V" } : Jvm.MethodName)),
  (Jvm.Cond.static ({ cls := "EpochTree", name := "sendNewLeader", desc := "(LEpochTree$Server;LEpochTree$Server;)V" } : Jvm.MethodName)),
  (Jvm.Cond.code ({ cls := "EpochTree", name := "sendNewLeader", desc := "(LEpochTree$Server;LEpochTree$Server;)V" } : Jvm.MethodName) prog_1_method_33_code (2 : Nat) (Option.none : Option Jvm.ClassFile.FieldType)),
  (Jvm.Cond.methodLink "EpochTree" (204 : Nat) ({ cls := "EpochTree", name := "chooseList", desc := "(LEpochTree$Server;LEpochTree$Server;)V" } : Jvm.MethodName)),
  (Jvm.Cond.static ({ cls := "EpochTree", name := "chooseList", desc := "(LEpochTree$Server;LEpochTree$Server;)V" } : Jvm.MethodName)),
  (Jvm.Cond.code ({ cls := "EpochTree", name := "chooseList", desc := "(LEpochTree$Server;LEpochTree$Server;)V" } : Jvm.MethodName) prog_1_method_32_code (4 : Nat) (Option.none : Option Jvm.ClassFile.FieldType)),
  (Jvm.Cond.instanceMethod ({ cls := "EpochTree$EntryList", name := "lastMark", desc := "()I" } : Jvm.MethodName)),
  (Jvm.Cond.code ({ cls := "EpochTree$EntryList", name := "lastMark", desc := "()I" } : Jvm.MethodName) prog_2_method_4_code (1 : Nat) (Option.some Jvm.ClassFile.FieldType.int)),
  (Jvm.Cond.methodLink "EpochTree$EntryList" (31 : Nat) ({ cls := "EpochTree$EntryList", name := "markAt", desc := "(I)I" } : Jvm.MethodName)),
  (Jvm.Cond.instanceMethod ({ cls := "EpochTree$EntryList", name := "markAt", desc := "(I)I" } : Jvm.MethodName)),
  (Jvm.Cond.code ({ cls := "EpochTree$EntryList", name := "markAt", desc := "(I)I" } : Jvm.MethodName) prog_2_method_3_code (2 : Nat) (Option.some Jvm.ClassFile.FieldType.int)),
  (Jvm.Cond.instanceMethod ({ cls := "EpochTree$EntryList", name := "becomeFirst", desc := "(LEpochTree$EntryList;I)V" } : Jvm.MethodName)),
  (Jvm.Cond.code ({ cls := "EpochTree$EntryList", name := "becomeFirst", desc := "(LEpochTree$EntryList;I)V" } : Jvm.MethodName) prog_2_method_7_code (4 : Nat) (Option.none : Option Jvm.ClassFile.FieldType)),
  (Jvm.Cond.methodLink "EpochTree$EntryList" (43 : Nat) ({ cls := "EpochTree$EntryList", name := "appendFrom", desc := "(LEpochTree$EntryList;I)V" } : Jvm.MethodName)),
  (Jvm.Cond.instanceMethod ({ cls := "EpochTree$EntryList", name := "appendFrom", desc := "(LEpochTree$EntryList;I)V" } : Jvm.MethodName)),
  (Jvm.Cond.code ({ cls := "EpochTree$EntryList", name := "appendFrom", desc := "(LEpochTree$EntryList;I)V" } : Jvm.MethodName) prog_2_method_6_code (4 : Nat) (Option.none : Option Jvm.ClassFile.FieldType)),
  (Jvm.Cond.methodLink "EpochTree$EntryList" (39 : Nat) ({ cls := "EpochTree$EntryList", name := "append", desc := "(IIIII)V" } : Jvm.MethodName)),
  (Jvm.Cond.instanceMethod ({ cls := "EpochTree$EntryList", name := "append", desc := "(IIIII)V" } : Jvm.MethodName)),
  (Jvm.Cond.code ({ cls := "EpochTree$EntryList", name := "append", desc := "(IIIII)V" } : Jvm.MethodName) prog_2_method_5_code (6 : Nat) (Option.none : Option Jvm.ClassFile.FieldType)),
  (Jvm.Cond.methodLink "EpochTree$EntryList" (35 : Nat) ({ cls := "EpochTree$EntryList", name := "isFull", desc := "()Z" } : Jvm.MethodName)),
  (Jvm.Cond.instanceMethod ({ cls := "EpochTree$EntryList", name := "isFull", desc := "()Z" } : Jvm.MethodName)),
  (Jvm.Cond.code ({ cls := "EpochTree$EntryList", name := "isFull", desc := "()Z" } : Jvm.MethodName) prog_2_method_2_code (1 : Nat) (Option.some Jvm.ClassFile.FieldType.boolean)),
  (Jvm.Cond.methodLink "EpochTree" (207 : Nat) ({ cls := "EpochTree", name := "sendNewLeaderToWaiting", desc := "(LEpochTree$Server;)V" } : Jvm.MethodName)),
  (Jvm.Cond.instanceMethod ({ cls := "EpochTree", name := "sendNewLeaderToWaiting", desc := "(LEpochTree$Server;)V" } : Jvm.MethodName)),
  (Jvm.Cond.code ({ cls := "EpochTree", name := "sendNewLeaderToWaiting", desc := "(LEpochTree$Server;)V" } : Jvm.MethodName) prog_1_method_34_code (3 : Nat) (Option.none : Option Jvm.ClassFile.FieldType)),
  (Jvm.Cond.methodLink "EpochTree" (91 : Nat) ({ cls := "EpochTree", name := "readAck", desc := "(LEpochTree$Server;LEpochTree$Server;I)V" } : Jvm.MethodName)),
  (Jvm.Cond.instanceMethod ({ cls := "EpochTree", name := "readAck", desc := "(LEpochTree$Server;LEpochTree$Server;I)V" } : Jvm.MethodName)),
  (Jvm.Cond.code ({ cls := "EpochTree", name := "readAck", desc := "(LEpochTree$Server;LEpochTree$Server;I)V" } : Jvm.MethodName) prog_1_method_35_code (5 : Nat) (Option.none : Option Jvm.ClassFile.FieldType)),
  (Jvm.Cond.methodLink "EpochTree" (223 : Nat) ({ cls := "java/util/Arrays", name := "fill", desc := "([II)V" } : Jvm.MethodName)),
  (Jvm.Cond.static ({ cls := "java/util/Arrays", name := "fill", desc := "([II)V" } : Jvm.MethodName)),
  (Jvm.Cond.code ({ cls := "java/util/Arrays", name := "fill", desc := "([II)V" } : Jvm.MethodName) prog_11_method_103_code (4 : Nat) (Option.none : Option Jvm.ClassFile.FieldType)),
  (Jvm.Cond.instanceMethod ({ cls := "EpochTree$Server", name := "applyUpTo", desc := "(I)V" } : Jvm.MethodName)),
  (Jvm.Cond.code ({ cls := "EpochTree$Server", name := "applyUpTo", desc := "(I)V" } : Jvm.MethodName) prog_5_method_2_code (4 : Nat) (Option.none : Option Jvm.ClassFile.FieldType)),
  (Jvm.Cond.methodLink "EpochTree$Server" (53 : Nat) ({ cls := "java/lang/Math", name := "min", desc := "(II)I" } : Jvm.MethodName)),
  (Jvm.Cond.static ({ cls := "java/lang/Math", name := "min", desc := "(II)I" } : Jvm.MethodName)),
  (Jvm.Cond.code ({ cls := "java/lang/Math", name := "min", desc := "(II)I" } : Jvm.MethodName) prog_10_method_69_code (2 : Nat) (Option.some Jvm.ClassFile.FieldType.int)),
  (Jvm.Cond.instanceMethod ({ cls := "EpochTree$Tree", name := "change", desc := "(IIII)I" } : Jvm.MethodName)),
  (Jvm.Cond.code ({ cls := "EpochTree$Tree", name := "change", desc := "(IIII)I" } : Jvm.MethodName) prog_7_method_9_code (5 : Nat) (Option.some Jvm.ClassFile.FieldType.int)),
  (Jvm.Cond.methodLink "EpochTree$Tree" (45 : Nat) ({ cls := "EpochTree$Tree", name := "create", desc := "(III)I" } : Jvm.MethodName)),
  (Jvm.Cond.instanceMethod ({ cls := "EpochTree$Tree", name := "create", desc := "(III)I" } : Jvm.MethodName)),
  (Jvm.Cond.code ({ cls := "EpochTree$Tree", name := "create", desc := "(III)I" } : Jvm.MethodName) prog_7_method_10_code (6 : Nat) (Option.some Jvm.ClassFile.FieldType.int)),
  (Jvm.Cond.methodLink "EpochTree$Tree" (62 : Nat) ({ cls := "EpochTree$Tree", name := "isOpen", desc := "(I)Z" } : Jvm.MethodName)),
  (Jvm.Cond.instanceMethod ({ cls := "EpochTree$Tree", name := "isOpen", desc := "(I)Z" } : Jvm.MethodName)),
  (Jvm.Cond.code ({ cls := "EpochTree$Tree", name := "isOpen", desc := "(I)Z" } : Jvm.MethodName) prog_7_method_4_code (2 : Nat) (Option.some Jvm.ClassFile.FieldType.boolean)),
  (Jvm.Cond.static ({ cls := "EpochTree", name := "isSession", desc := "(I)Z" } : Jvm.MethodName)),
  (Jvm.Cond.code ({ cls := "EpochTree", name := "isSession", desc := "(I)Z" } : Jvm.MethodName) prog_1_method_23_code (1 : Nat) (Option.some Jvm.ClassFile.FieldType.boolean)),
  (Jvm.Cond.methodLink "EpochTree$Tree" (39 : Nat) ({ cls := "EpochTree$Tree", name := "find", desc := "(I)I" } : Jvm.MethodName)),
  (Jvm.Cond.instanceMethod ({ cls := "EpochTree$Tree", name := "find", desc := "(I)I" } : Jvm.MethodName)),
  (Jvm.Cond.code ({ cls := "EpochTree$Tree", name := "find", desc := "(I)I" } : Jvm.MethodName) prog_7_method_7_code (3 : Nat) (Option.some Jvm.ClassFile.FieldType.int)),
  (Jvm.Cond.methodLink "EpochTree$Tree" (65 : Nat) ({ cls := "EpochTree$Tree", name := "add", desc := "(III)V" } : Jvm.MethodName)),
  (Jvm.Cond.instanceMethod ({ cls := "EpochTree$Tree", name := "add", desc := "(III)V" } : Jvm.MethodName)),
  (Jvm.Cond.code ({ cls := "EpochTree$Tree", name := "add", desc := "(III)V" } : Jvm.MethodName) prog_7_method_11_code (4 : Nat) (Option.none : Option Jvm.ClassFile.FieldType)),
  (Jvm.Cond.methodLink "EpochTree$Tree" (49 : Nat) ({ cls := "EpochTree$Tree", name := "set", desc := "(III)I" } : Jvm.MethodName)),
  (Jvm.Cond.instanceMethod ({ cls := "EpochTree$Tree", name := "set", desc := "(III)I" } : Jvm.MethodName)),
  (Jvm.Cond.code ({ cls := "EpochTree$Tree", name := "set", desc := "(III)I" } : Jvm.MethodName) prog_7_method_12_code (5 : Nat) (Option.some Jvm.ClassFile.FieldType.int)),
  (Jvm.Cond.methodLink "EpochTree$Tree" (52 : Nat) ({ cls := "EpochTree$Tree", name := "delete", desc := "(II)I" } : Jvm.MethodName)),
  (Jvm.Cond.instanceMethod ({ cls := "EpochTree$Tree", name := "delete", desc := "(II)I" } : Jvm.MethodName)),
  (Jvm.Cond.code ({ cls := "EpochTree$Tree", name := "delete", desc := "(II)I" } : Jvm.MethodName) prog_7_method_13_code (4 : Nat) (Option.some Jvm.ClassFile.FieldType.int)),
  (Jvm.Cond.methodLink "EpochTree$Tree" (42 : Nat) ({ cls := "EpochTree$Tree", name := "countChildren", desc := "(I)I" } : Jvm.MethodName)),
  (Jvm.Cond.instanceMethod ({ cls := "EpochTree$Tree", name := "countChildren", desc := "(I)I" } : Jvm.MethodName)),
  (Jvm.Cond.code ({ cls := "EpochTree$Tree", name := "countChildren", desc := "(I)I" } : Jvm.MethodName) prog_7_method_8_code (4 : Nat) (Option.some Jvm.ClassFile.FieldType.int)),
  (Jvm.Cond.methodLink "EpochTree$Tree" (69 : Nat) ({ cls := "EpochTree$Tree", name := "remove", desc := "(I)V" } : Jvm.MethodName)),
  (Jvm.Cond.instanceMethod ({ cls := "EpochTree$Tree", name := "remove", desc := "(I)V" } : Jvm.MethodName)),
  (Jvm.Cond.code ({ cls := "EpochTree$Tree", name := "remove", desc := "(I)V" } : Jvm.MethodName) prog_7_method_14_code (2 : Nat) (Option.none : Option Jvm.ClassFile.FieldType)),
  (Jvm.Cond.methodLink "EpochTree$Tree" (56 : Nat) ({ cls := "EpochTree$Tree", name := "open", desc := "(I)I" } : Jvm.MethodName)),
  (Jvm.Cond.instanceMethod ({ cls := "EpochTree$Tree", name := "open", desc := "(I)I" } : Jvm.MethodName)),
  (Jvm.Cond.code ({ cls := "EpochTree$Tree", name := "open", desc := "(I)I" } : Jvm.MethodName) prog_7_method_15_code (2 : Nat) (Option.some Jvm.ClassFile.FieldType.int)),
  (Jvm.Cond.methodLink "EpochTree$Tree" (59 : Nat) ({ cls := "EpochTree$Tree", name := "close", desc := "(I)I" } : Jvm.MethodName)),
  (Jvm.Cond.instanceMethod ({ cls := "EpochTree$Tree", name := "close", desc := "(I)I" } : Jvm.MethodName)),
  (Jvm.Cond.code ({ cls := "EpochTree$Tree", name := "close", desc := "(I)I" } : Jvm.MethodName) prog_7_method_16_code (3 : Nat) (Option.some Jvm.ClassFile.FieldType.int)),
  (Jvm.Cond.methodLink "EpochTree" (232 : Nat) ({ cls := "EpochTree", name := "sendOnTiedLinks", desc := "(LEpochTree$Server;II)V" } : Jvm.MethodName)),
  (Jvm.Cond.instanceMethod ({ cls := "EpochTree", name := "sendOnTiedLinks", desc := "(LEpochTree$Server;II)V" } : Jvm.MethodName)),
  (Jvm.Cond.code ({ cls := "EpochTree", name := "sendOnTiedLinks", desc := "(LEpochTree$Server;II)V" } : Jvm.MethodName) prog_1_method_36_code (5 : Nat) (Option.none : Option Jvm.ClassFile.FieldType)),
  (Jvm.Cond.instanceMethod ({ cls := "EpochTree", name := "down", desc := "(I)I" } : Jvm.MethodName)),
  (Jvm.Cond.selects "EpochTree" ({ cls := "EpochTree", name := "down", desc := "(I)I" } : Jvm.MethodName) ({ cls := "EpochTree", name := "down", desc := "(I)I" } : Jvm.MethodName)),
  (Jvm.Cond.code ({ cls := "EpochTree", name := "down", desc := "(I)I" } : Jvm.MethodName) prog_1_method_8_code (6 : Nat) (Option.some Jvm.ClassFile.FieldType.int)),
  (Jvm.Cond.methodLink "EpochTree" (97 : Nat) ({ cls := "EpochTree", name := "readNewEpoch", desc := "(II)V" } : Jvm.MethodName)),
  (Jvm.Cond.instanceMethod ({ cls := "EpochTree", name := "readNewEpoch", desc := "(II)V" } : Jvm.MethodName)),
  (Jvm.Cond.code ({ cls := "EpochTree", name := "readNewEpoch", desc := "(II)V" } : Jvm.MethodName) prog_1_method_37_code (5 : Nat) (Option.none : Option Jvm.ClassFile.FieldType)),
  (Jvm.Cond.methodLink "EpochTree" (100 : Nat) ({ cls := "EpochTree", name := "readNewLeader", desc := "(LEpochTree$Server;I)V" } : Jvm.MethodName)),
  (Jvm.Cond.instanceMethod ({ cls := "EpochTree", name := "readNewLeader", desc := "(LEpochTree$Server;I)V" } : Jvm.MethodName)),
  (Jvm.Cond.code ({ cls := "EpochTree", name := "readNewLeader", desc := "(LEpochTree$Server;I)V" } : Jvm.MethodName) prog_1_method_38_code (3 : Nat) (Option.none : Option Jvm.ClassFile.FieldType)),
  (Jvm.Cond.methodLink "EpochTree" (104 : Nat) ({ cls := "EpochTree", name := "readProposal", desc := "(LEpochTree$Server;I)V" } : Jvm.MethodName)),
  (Jvm.Cond.instanceMethod ({ cls := "EpochTree", name := "readProposal", desc := "(LEpochTree$Server;I)V" } : Jvm.MethodName)),
  (Jvm.Cond.code ({ cls := "EpochTree", name := "readProposal", desc := "(LEpochTree$Server;I)V" } : Jvm.MethodName) prog_1_method_39_code (3 : Nat) (Option.none : Option Jvm.ClassFile.FieldType)),
  (Jvm.Cond.instanceMethod ({ cls := "EpochTree", name := "submit", desc := "(IIIII)I" } : Jvm.MethodName)),
  (Jvm.Cond.selects "EpochTree" ({ cls := "EpochTree", name := "submit", desc := "(IIIII)I" } : Jvm.MethodName) ({ cls := "EpochTree", name := "submit", desc := "(IIIII)I" } : Jvm.MethodName)),
  (Jvm.Cond.code ({ cls := "EpochTree", name := "submit", desc := "(IIIII)I" } : Jvm.MethodName) prog_1_method_9_code (7 : Nat) (Option.some Jvm.ClassFile.FieldType.int)),
  (Jvm.Cond.methodLink "EpochTree" (110 : Nat) ({ cls := "EpochTree", name := "isChange", desc := "(III)Z" } : Jvm.MethodName)),
  (Jvm.Cond.static ({ cls := "EpochTree", name := "isChange", desc := "(III)Z" } : Jvm.MethodName)),
  (Jvm.Cond.code ({ cls := "EpochTree", name := "isChange", desc := "(III)Z" } : Jvm.MethodName) prog_1_method_25_code (3 : Nat) (Option.some Jvm.ClassFile.FieldType.boolean)),
  (Jvm.Cond.methodLink "EpochTree" (175 : Nat) ({ cls := "EpochTree", name := "isNodePath", desc := "(I)Z" } : Jvm.MethodName)),
  (Jvm.Cond.static ({ cls := "EpochTree", name := "isNodePath", desc := "(I)Z" } : Jvm.MethodName)),
  (Jvm.Cond.code ({ cls := "EpochTree", name := "isNodePath", desc := "(I)Z" } : Jvm.MethodName) prog_1_method_24_code (2 : Nat) (Option.some Jvm.ClassFile.FieldType.boolean)),
  (Jvm.Cond.methodLink "EpochTree" (139 : Nat) ({ cls := "EpochTree", name := "isSession", desc := "(I)Z" } : Jvm.MethodName)),
  (Jvm.Cond.methodLink "EpochTree" (124 : Nat) ({ cls := "EpochTree", name := "makeEntry", desc := "(LEpochTree$Server;IIII)V" } : Jvm.MethodName)),
  (Jvm.Cond.instanceMethod ({ cls := "EpochTree", name := "makeEntry", desc := "(LEpochTree$Server;IIII)V" } : Jvm.MethodName)),
  (Jvm.Cond.code ({ cls := "EpochTree", name := "makeEntry", desc := "(LEpochTree$Server;IIII)V" } : Jvm.MethodName) prog_1_method_40_code (7 : Nat) (Option.none : Option Jvm.ClassFile.FieldType)),
  (Jvm.Cond.instanceMethod ({ cls := "EpochTree", name := "tick", desc := "()I" } : Jvm.MethodName)),
  (Jvm.Cond.selects "EpochTree" ({ cls := "EpochTree", name := "tick", desc := "()I" } : Jvm.MethodName) ({ cls := "EpochTree", name := "tick", desc := "()I" } : Jvm.MethodName)),
  (Jvm.Cond.code ({ cls := "EpochTree", name := "tick", desc := "()I" } : Jvm.MethodName) prog_1_method_10_code (3 : Nat) (Option.some Jvm.ClassFile.FieldType.int)),
  (Jvm.Cond.methodLink "EpochTree" (131 : Nat) ({ cls := "EpochTree", name := "growAges", desc := "(LEpochTree$Server;)V" } : Jvm.MethodName)),
  (Jvm.Cond.static ({ cls := "EpochTree", name := "growAges", desc := "(LEpochTree$Server;)V" } : Jvm.MethodName)),
  (Jvm.Cond.code ({ cls := "EpochTree", name := "growAges", desc := "(LEpochTree$Server;)V" } : Jvm.MethodName) prog_1_method_41_code (3 : Nat) (Option.none : Option Jvm.ClassFile.FieldType)),
  (Jvm.Cond.methodLink "EpochTree" (246 : Nat) ({ cls := "java/lang/Math", name := "min", desc := "(II)I" } : Jvm.MethodName)),
  (Jvm.Cond.methodLink "EpochTree" (135 : Nat) ({ cls := "EpochTree", name := "closeOldSessions", desc := "(LEpochTree$Server;)I" } : Jvm.MethodName)),
  (Jvm.Cond.instanceMethod ({ cls := "EpochTree", name := "closeOldSessions", desc := "(LEpochTree$Server;)I" } : Jvm.MethodName)),
  (Jvm.Cond.code ({ cls := "EpochTree", name := "closeOldSessions", desc := "(LEpochTree$Server;)I" } : Jvm.MethodName) prog_1_method_42_code (5 : Nat) (Option.some Jvm.ClassFile.FieldType.int)),
  (Jvm.Cond.instanceMethod ({ cls := "EpochTree", name := "touch", desc := "(II)Z" } : Jvm.MethodName)),
  (Jvm.Cond.selects "EpochTree" ({ cls := "EpochTree", name := "touch", desc := "(II)Z" } : Jvm.MethodName) ({ cls := "EpochTree", name := "touch", desc := "(II)Z" } : Jvm.MethodName)),
  (Jvm.Cond.code ({ cls := "EpochTree", name := "touch", desc := "(II)Z" } : Jvm.MethodName) prog_1_method_11_code (4 : Nat) (Option.some Jvm.ClassFile.FieldType.boolean)),
  (Jvm.Cond.instanceMethod ({ cls := "EpochTree", name := "role", desc := "(I)I" } : Jvm.MethodName)),
  (Jvm.Cond.selects "EpochTree" ({ cls := "EpochTree", name := "role", desc := "(I)I" } : Jvm.MethodName) ({ cls := "EpochTree", name := "role", desc := "(I)I" } : Jvm.MethodName)),
  (Jvm.Cond.code ({ cls := "EpochTree", name := "role", desc := "(I)I" } : Jvm.MethodName) prog_1_method_12_code (2 : Nat) (Option.some Jvm.ClassFile.FieldType.int)),
  (Jvm.Cond.instanceMethod ({ cls := "EpochTree", name := "promise", desc := "(I)I" } : Jvm.MethodName)),
  (Jvm.Cond.selects "EpochTree" ({ cls := "EpochTree", name := "promise", desc := "(I)I" } : Jvm.MethodName) ({ cls := "EpochTree", name := "promise", desc := "(I)I" } : Jvm.MethodName)),
  (Jvm.Cond.code ({ cls := "EpochTree", name := "promise", desc := "(I)I" } : Jvm.MethodName) prog_1_method_13_code (2 : Nat) (Option.some Jvm.ClassFile.FieldType.int)),
  (Jvm.Cond.instanceMethod ({ cls := "EpochTree", name := "epoch", desc := "(I)I" } : Jvm.MethodName)),
  (Jvm.Cond.selects "EpochTree" ({ cls := "EpochTree", name := "epoch", desc := "(I)I" } : Jvm.MethodName) ({ cls := "EpochTree", name := "epoch", desc := "(I)I" } : Jvm.MethodName)),
  (Jvm.Cond.code ({ cls := "EpochTree", name := "epoch", desc := "(I)I" } : Jvm.MethodName) prog_1_method_14_code (2 : Nat) (Option.some Jvm.ClassFile.FieldType.int)),
  (Jvm.Cond.instanceMethod ({ cls := "EpochTree", name := "length", desc := "(I)I" } : Jvm.MethodName)),
  (Jvm.Cond.selects "EpochTree" ({ cls := "EpochTree", name := "length", desc := "(I)I" } : Jvm.MethodName) ({ cls := "EpochTree", name := "length", desc := "(I)I" } : Jvm.MethodName)),
  (Jvm.Cond.code ({ cls := "EpochTree", name := "length", desc := "(I)I" } : Jvm.MethodName) prog_1_method_15_code (2 : Nat) (Option.some Jvm.ClassFile.FieldType.int)),
  (Jvm.Cond.instanceMethod ({ cls := "EpochTree", name := "mark", desc := "(II)I" } : Jvm.MethodName)),
  (Jvm.Cond.selects "EpochTree" ({ cls := "EpochTree", name := "mark", desc := "(II)I" } : Jvm.MethodName) ({ cls := "EpochTree", name := "mark", desc := "(II)I" } : Jvm.MethodName)),
  (Jvm.Cond.code ({ cls := "EpochTree", name := "mark", desc := "(II)I" } : Jvm.MethodName) prog_1_method_16_code (3 : Nat) (Option.some Jvm.ClassFile.FieldType.int)),
  (Jvm.Cond.instanceMethod ({ cls := "EpochTree", name := "applied", desc := "(I)I" } : Jvm.MethodName)),
  (Jvm.Cond.selects "EpochTree" ({ cls := "EpochTree", name := "applied", desc := "(I)I" } : Jvm.MethodName) ({ cls := "EpochTree", name := "applied", desc := "(I)I" } : Jvm.MethodName)),
  (Jvm.Cond.code ({ cls := "EpochTree", name := "applied", desc := "(I)I" } : Jvm.MethodName) prog_1_method_17_code (2 : Nat) (Option.some Jvm.ClassFile.FieldType.int)),
  (Jvm.Cond.instanceMethod ({ cls := "EpochTree", name := "result", desc := "(II)I" } : Jvm.MethodName)),
  (Jvm.Cond.selects "EpochTree" ({ cls := "EpochTree", name := "result", desc := "(II)I" } : Jvm.MethodName) ({ cls := "EpochTree", name := "result", desc := "(II)I" } : Jvm.MethodName)),
  (Jvm.Cond.code ({ cls := "EpochTree", name := "result", desc := "(II)I" } : Jvm.MethodName) prog_1_method_18_code (3 : Nat) (Option.some Jvm.ClassFile.FieldType.int)),
  (Jvm.Cond.instanceMethod ({ cls := "EpochTree", name := "node", desc := "(III)I" } : Jvm.MethodName)),
  (Jvm.Cond.selects "EpochTree" ({ cls := "EpochTree", name := "node", desc := "(III)I" } : Jvm.MethodName) ({ cls := "EpochTree", name := "node", desc := "(III)I" } : Jvm.MethodName)),
  (Jvm.Cond.code ({ cls := "EpochTree", name := "node", desc := "(III)I" } : Jvm.MethodName) prog_1_method_19_code (4 : Nat) (Option.some Jvm.ClassFile.FieldType.int)),
  (Jvm.Cond.instanceMethod ({ cls := "EpochTree$Tree", name := "look", desc := "(II)I" } : Jvm.MethodName)),
  (Jvm.Cond.code ({ cls := "EpochTree$Tree", name := "look", desc := "(II)I" } : Jvm.MethodName) prog_7_method_5_code (4 : Nat) (Option.some Jvm.ClassFile.FieldType.int)),
  (Jvm.Cond.methodLink "EpochTree$Tree" (35 : Nat) ({ cls := "EpochTree$Tree", name := "lookAtRoot", desc := "(I)I" } : Jvm.MethodName)),
  (Jvm.Cond.instanceMethod ({ cls := "EpochTree$Tree", name := "lookAtRoot", desc := "(I)I" } : Jvm.MethodName)),
  (Jvm.Cond.code ({ cls := "EpochTree$Tree", name := "lookAtRoot", desc := "(I)I" } : Jvm.MethodName) prog_7_method_6_code (2 : Nat) (Option.some Jvm.ClassFile.FieldType.int)),
  (Jvm.Cond.instanceMethod ({ cls := "EpochTree", name := "tree", desc := "(I)I" } : Jvm.MethodName)),
  (Jvm.Cond.selects "EpochTree" ({ cls := "EpochTree", name := "tree", desc := "(I)I" } : Jvm.MethodName) ({ cls := "EpochTree", name := "tree", desc := "(I)I" } : Jvm.MethodName)),
  (Jvm.Cond.code ({ cls := "EpochTree", name := "tree", desc := "(I)I" } : Jvm.MethodName) prog_1_method_20_code (2 : Nat) (Option.some Jvm.ClassFile.FieldType.int)),
  (Jvm.Cond.instanceMethod ({ cls := "EpochTree$Tree", name := "summary", desc := "()I" } : Jvm.MethodName)),
  (Jvm.Cond.code ({ cls := "EpochTree$Tree", name := "summary", desc := "()I" } : Jvm.MethodName) prog_7_method_3_code (1 : Nat) (Option.some Jvm.ClassFile.FieldType.int)),
  (Jvm.Cond.instanceMethod ({ cls := "EpochTree", name := "waiting", desc := "(IZ)I" } : Jvm.MethodName)),
  (Jvm.Cond.selects "EpochTree" ({ cls := "EpochTree", name := "waiting", desc := "(IZ)I" } : Jvm.MethodName) ({ cls := "EpochTree", name := "waiting", desc := "(IZ)I" } : Jvm.MethodName)),
  (Jvm.Cond.code ({ cls := "EpochTree", name := "waiting", desc := "(IZ)I" } : Jvm.MethodName) prog_1_method_21_code (4 : Nat) (Option.some Jvm.ClassFile.FieldType.int)),
  (Jvm.Cond.instantiable "EpochTreeModel" (33 : Nat)),
  (Jvm.Cond.instanceMethod ({ cls := "EpochTreeModel", name := "<init>", desc := "()V" } : Jvm.MethodName)),
  (Jvm.Cond.code ({ cls := "EpochTreeModel", name := "<init>", desc := "()V" } : Jvm.MethodName) prog_9_method_1_code (2 : Nat) (Option.none : Option Jvm.ClassFile.FieldType)),
  (Jvm.Cond.methodLink "EpochTreeModel" (1 : Nat) ({ cls := "java/lang/Object", name := "<init>", desc := "()V" } : Jvm.MethodName)),
  (Jvm.Cond.fieldLink "EpochTreeModel" (7 : Nat) "EpochTreeModel" "role" "[I"),
  (Jvm.Cond.fieldLink "EpochTreeModel" (13 : Nat) "EpochTreeModel" "promise" "[I"),
  (Jvm.Cond.fieldLink "EpochTreeModel" (16 : Nat) "EpochTreeModel" "epoch" "[I"),
  (Jvm.Cond.fieldLink "EpochTreeModel" (19 : Nat) "EpochTreeModel" "applied" "[I"),
  (Jvm.Cond.fieldLink "EpochTreeModel" (22 : Nat) "EpochTreeModel" "length" "[I"),
  (Jvm.Cond.fieldLink "EpochTreeModel" (25 : Nat) "EpochTreeModel" "mark" "[I"),
  (Jvm.Cond.fieldLink "EpochTreeModel" (28 : Nat) "EpochTreeModel" "kind" "[I"),
  (Jvm.Cond.fieldLink "EpochTreeModel" (31 : Nat) "EpochTreeModel" "path" "[I"),
  (Jvm.Cond.fieldLink "EpochTreeModel" (34 : Nat) "EpochTreeModel" "first" "[I"),
  (Jvm.Cond.fieldLink "EpochTreeModel" (37 : Nat) "EpochTreeModel" "second" "[I"),
  (Jvm.Cond.fieldLink "EpochTreeModel" (40 : Nat) "EpochTreeModel" "chosen" "[I"),
  (Jvm.Cond.fieldLink "EpochTreeModel" (43 : Nat) "EpochTreeModel" "settled" "[Z"),
  (Jvm.Cond.fieldLink "EpochTreeModel" (47 : Nat) "EpochTreeModel" "made" "[I"),
  (Jvm.Cond.fieldLink "EpochTreeModel" (50 : Nat) "EpochTreeModel" "age" "[I"),
  (Jvm.Cond.fieldLink "EpochTreeModel" (53 : Nat) "EpochTreeModel" "leader" "[I"),
  (Jvm.Cond.fieldLink "EpochTreeModel" (56 : Nat) "EpochTreeModel" "waits" "[Z"),
  (Jvm.Cond.fieldLink "EpochTreeModel" (59 : Nat) "EpochTreeModel" "tied" "[Z"),
  (Jvm.Cond.fieldLink "EpochTreeModel" (62 : Nat) "EpochTreeModel" "heard" "[Z"),
  (Jvm.Cond.fieldLink "EpochTreeModel" (65 : Nat) "EpochTreeModel" "upKind" "[I"),
  (Jvm.Cond.fieldLink "EpochTreeModel" (68 : Nat) "EpochTreeModel" "upValue" "[I"),
  (Jvm.Cond.fieldLink "EpochTreeModel" (71 : Nat) "EpochTreeModel" "upSent" "[I"),
  (Jvm.Cond.fieldLink "EpochTreeModel" (74 : Nat) "EpochTreeModel" "upRead" "[I"),
  (Jvm.Cond.fieldLink "EpochTreeModel" (77 : Nat) "EpochTreeModel" "downKind" "[I"),
  (Jvm.Cond.fieldLink "EpochTreeModel" (80 : Nat) "EpochTreeModel" "downValue" "[I"),
  (Jvm.Cond.fieldLink "EpochTreeModel" (83 : Nat) "EpochTreeModel" "downSent" "[I"),
  (Jvm.Cond.fieldLink "EpochTreeModel" (86 : Nat) "EpochTreeModel" "downRead" "[I"),
  (Jvm.Cond.fieldLink "EpochTreeModel" (107 : Nat) "EpochTreeModel" "nodes" "I"),
  (Jvm.Cond.fieldLink "EpochTreeModel" (89 : Nat) "EpochTreeModel" "nodePath" "[I"),
  (Jvm.Cond.fieldLink "EpochTreeModel" (92 : Nat) "EpochTreeModel" "nodeData" "[I"),
  (Jvm.Cond.fieldLink "EpochTreeModel" (95 : Nat) "EpochTreeModel" "nodeVersion" "[I"),
  (Jvm.Cond.fieldLink "EpochTreeModel" (98 : Nat) "EpochTreeModel" "nodeOwner" "[I"),
  (Jvm.Cond.fieldLink "EpochTreeModel" (101 : Nat) "EpochTreeModel" "open" "[Z"),
  (Jvm.Cond.fieldLink "EpochTreeModel" (104 : Nat) "EpochTreeModel" "results" "[I"),
  (Jvm.Cond.laysFinal "EpochTreeModel" "EpochTreeModel" "role" "[I"),
  (Jvm.Cond.laysFinal "EpochTreeModel" "EpochTreeModel" "promise" "[I"),
  (Jvm.Cond.laysFinal "EpochTreeModel" "EpochTreeModel" "epoch" "[I"),
  (Jvm.Cond.laysFinal "EpochTreeModel" "EpochTreeModel" "applied" "[I"),
  (Jvm.Cond.laysFinal "EpochTreeModel" "EpochTreeModel" "length" "[I"),
  (Jvm.Cond.laysFinal "EpochTreeModel" "EpochTreeModel" "mark" "[I"),
  (Jvm.Cond.laysFinal "EpochTreeModel" "EpochTreeModel" "kind" "[I"),
  (Jvm.Cond.laysFinal "EpochTreeModel" "EpochTreeModel" "path" "[I"),
  (Jvm.Cond.laysFinal "EpochTreeModel" "EpochTreeModel" "first" "[I"),
  (Jvm.Cond.laysFinal "EpochTreeModel" "EpochTreeModel" "second" "[I"),
  (Jvm.Cond.laysFinal "EpochTreeModel" "EpochTreeModel" "chosen" "[I"),
  (Jvm.Cond.laysFinal "EpochTreeModel" "EpochTreeModel" "settled" "[Z"),
  (Jvm.Cond.laysFinal "EpochTreeModel" "EpochTreeModel" "made" "[I"),
  (Jvm.Cond.laysFinal "EpochTreeModel" "EpochTreeModel" "age" "[I"),
  (Jvm.Cond.laysFinal "EpochTreeModel" "EpochTreeModel" "leader" "[I"),
  (Jvm.Cond.laysFinal "EpochTreeModel" "EpochTreeModel" "waits" "[Z"),
  (Jvm.Cond.laysFinal "EpochTreeModel" "EpochTreeModel" "tied" "[Z"),
  (Jvm.Cond.laysFinal "EpochTreeModel" "EpochTreeModel" "heard" "[Z"),
  (Jvm.Cond.laysFinal "EpochTreeModel" "EpochTreeModel" "upKind" "[I"),
  (Jvm.Cond.laysFinal "EpochTreeModel" "EpochTreeModel" "upValue" "[I"),
  (Jvm.Cond.laysFinal "EpochTreeModel" "EpochTreeModel" "upSent" "[I"),
  (Jvm.Cond.laysFinal "EpochTreeModel" "EpochTreeModel" "upRead" "[I"),
  (Jvm.Cond.laysFinal "EpochTreeModel" "EpochTreeModel" "downKind" "[I"),
  (Jvm.Cond.laysFinal "EpochTreeModel" "EpochTreeModel" "downValue" "[I"),
  (Jvm.Cond.laysFinal "EpochTreeModel" "EpochTreeModel" "downSent" "[I"),
  (Jvm.Cond.laysFinal "EpochTreeModel" "EpochTreeModel" "downRead" "[I"),
  (Jvm.Cond.lays "EpochTreeModel" "EpochTreeModel" "nodes" "I"),
  (Jvm.Cond.laysFinal "EpochTreeModel" "EpochTreeModel" "nodePath" "[I"),
  (Jvm.Cond.laysFinal "EpochTreeModel" "EpochTreeModel" "nodeData" "[I"),
  (Jvm.Cond.laysFinal "EpochTreeModel" "EpochTreeModel" "nodeVersion" "[I"),
  (Jvm.Cond.laysFinal "EpochTreeModel" "EpochTreeModel" "nodeOwner" "[I"),
  (Jvm.Cond.laysFinal "EpochTreeModel" "EpochTreeModel" "open" "[Z"),
  (Jvm.Cond.laysFinal "EpochTreeModel" "EpochTreeModel" "results" "[I"),
  (Jvm.Cond.arrayClass Jvm.ClassFile.FieldType.boolean),
  (Jvm.Cond.instanceMethod ({ cls := "EpochTreeModel", name := "lead", desc := "(I)Z" } : Jvm.MethodName)),
  (Jvm.Cond.selects "EpochTreeModel" ({ cls := "EpochTreeModel", name := "lead", desc := "(I)Z" } : Jvm.MethodName) ({ cls := "EpochTreeModel", name := "lead", desc := "(I)Z" } : Jvm.MethodName)),
  (Jvm.Cond.code ({ cls := "EpochTreeModel", name := "lead", desc := "(I)Z" } : Jvm.MethodName) prog_9_method_12_code (2 : Nat) (Option.some Jvm.ClassFile.FieldType.boolean)),
  (Jvm.Cond.methodLink "EpochTreeModel" (138 : Nat) ({ cls := "EpochTreeModel", name := "out", desc := "(I)Z" } : Jvm.MethodName)),
  (Jvm.Cond.static ({ cls := "EpochTreeModel", name := "out", desc := "(I)Z" } : Jvm.MethodName)),
  (Jvm.Cond.code ({ cls := "EpochTreeModel", name := "out", desc := "(I)Z" } : Jvm.MethodName) prog_9_method_2_code (1 : Nat) (Option.some Jvm.ClassFile.FieldType.boolean)),
  (Jvm.Cond.instanceMethod ({ cls := "EpochTreeModel", name := "follow", desc := "(II)Z" } : Jvm.MethodName)),
  (Jvm.Cond.selects "EpochTreeModel" ({ cls := "EpochTreeModel", name := "follow", desc := "(II)Z" } : Jvm.MethodName) ({ cls := "EpochTreeModel", name := "follow", desc := "(II)Z" } : Jvm.MethodName)),
  (Jvm.Cond.code ({ cls := "EpochTreeModel", name := "follow", desc := "(II)Z" } : Jvm.MethodName) prog_9_method_13_code (3 : Nat) (Option.some Jvm.ClassFile.FieldType.boolean)),
  (Jvm.Cond.methodLink "EpochTreeModel" (134 : Nat) ({ cls := "EpochTreeModel", name := "cut", desc := "(I)V" } : Jvm.MethodName)),
  (Jvm.Cond.instanceMethod ({ cls := "EpochTreeModel", name := "cut", desc := "(I)V" } : Jvm.MethodName)),
  (Jvm.Cond.code ({ cls := "EpochTreeModel", name := "cut", desc := "(I)V" } : Jvm.MethodName) prog_9_method_9_code (2 : Nat) (Option.none : Option Jvm.ClassFile.FieldType)),
  (Jvm.Cond.methodLink "EpochTreeModel" (142 : Nat) ({ cls := "EpochTreeModel", name := "sendUp", desc := "(III)V" } : Jvm.MethodName)),
  (Jvm.Cond.instanceMethod ({ cls := "EpochTreeModel", name := "sendUp", desc := "(III)V" } : Jvm.MethodName)),
  (Jvm.Cond.code ({ cls := "EpochTreeModel", name := "sendUp", desc := "(III)V" } : Jvm.MethodName) prog_9_method_17_code (5 : Nat) (Option.none : Option Jvm.ClassFile.FieldType)),
  (Jvm.Cond.instanceMethod ({ cls := "EpochTreeModel", name := "quit", desc := "(I)Z" } : Jvm.MethodName)),
  (Jvm.Cond.selects "EpochTreeModel" ({ cls := "EpochTreeModel", name := "quit", desc := "(I)Z" } : Jvm.MethodName) ({ cls := "EpochTreeModel", name := "quit", desc := "(I)Z" } : Jvm.MethodName)),
  (Jvm.Cond.code ({ cls := "EpochTreeModel", name := "quit", desc := "(I)Z" } : Jvm.MethodName) prog_9_method_14_code (2 : Nat) (Option.some Jvm.ClassFile.FieldType.boolean)),
  (Jvm.Cond.methodLink "EpochTreeModel" (146 : Nat) ({ cls := "EpochTreeModel", name := "cease", desc := "(I)V" } : Jvm.MethodName)),
  (Jvm.Cond.instanceMethod ({ cls := "EpochTreeModel", name := "cease", desc := "(I)V" } : Jvm.MethodName)),
  (Jvm.Cond.code ({ cls := "EpochTreeModel", name := "cease", desc := "(I)V" } : Jvm.MethodName) prog_9_method_11_code (3 : Nat) (Option.none : Option Jvm.ClassFile.FieldType)),
  (Jvm.Cond.methodLink "EpochTreeModel" (130 : Nat) ({ cls := "EpochTreeModel", name := "follows", desc := "(II)Z" } : Jvm.MethodName)),
  (Jvm.Cond.instanceMethod ({ cls := "EpochTreeModel", name := "follows", desc := "(II)Z" } : Jvm.MethodName)),
  (Jvm.Cond.code ({ cls := "EpochTreeModel", name := "follows", desc := "(II)Z" } : Jvm.MethodName) prog_9_method_10_code (3 : Nat) (Option.some Jvm.ClassFile.FieldType.boolean)),
  (Jvm.Cond.instanceMethod ({ cls := "EpochTreeModel", name := "crash", desc := "(I)Z" } : Jvm.MethodName)),
  (Jvm.Cond.selects "EpochTreeModel" ({ cls := "EpochTreeModel", name := "crash", desc := "(I)Z" } : Jvm.MethodName) ({ cls := "EpochTreeModel", name := "crash", desc := "(I)Z" } : Jvm.MethodName)),
  (Jvm.Cond.code ({ cls := "EpochTreeModel", name := "crash", desc := "(I)Z" } : Jvm.MethodName) prog_9_method_15_code (2 : Nat) (Option.some Jvm.ClassFile.FieldType.boolean)),
  (Jvm.Cond.instanceMethod ({ cls := "EpochTreeModel", name := "restart", desc := "(I)Z" } : Jvm.MethodName)),
  (Jvm.Cond.selects "EpochTreeModel" ({ cls := "EpochTreeModel", name := "restart", desc := "(I)Z" } : Jvm.MethodName) ({ cls := "EpochTreeModel", name := "restart", desc := "(I)Z" } : Jvm.MethodName)),
  (Jvm.Cond.code ({ cls := "EpochTreeModel", name := "restart", desc := "(I)Z" } : Jvm.MethodName) prog_9_method_16_code (2 : Nat) (Option.some Jvm.ClassFile.FieldType.boolean)),
  (Jvm.Cond.instanceMethod ({ cls := "EpochTreeModel", name := "up", desc := "(I)I" } : Jvm.MethodName)),
  (Jvm.Cond.selects "EpochTreeModel" ({ cls := "EpochTreeModel", name := "up", desc := "(I)I" } : Jvm.MethodName) ({ cls := "EpochTreeModel", name := "up", desc := "(I)I" } : Jvm.MethodName)),
  (Jvm.Cond.code ({ cls := "EpochTreeModel", name := "up", desc := "(I)I" } : Jvm.MethodName) prog_9_method_25_code (6 : Nat) (Option.some Jvm.ClassFile.FieldType.int)),
  (Jvm.Cond.methodLink "EpochTreeModel" (149 : Nat) ({ cls := "EpochTreeModel", name := "sendDown", desc := "(III)V" } : Jvm.MethodName)),
  (Jvm.Cond.instanceMethod ({ cls := "EpochTreeModel", name := "sendDown", desc := "(III)V" } : Jvm.MethodName)),
  (Jvm.Cond.code ({ cls := "EpochTreeModel", name := "sendDown", desc := "(III)V" } : Jvm.MethodName) prog_9_method_18_code (5 : Nat) (Option.none : Option Jvm.ClassFile.FieldType)),
  (Jvm.Cond.methodLink "EpochTreeModel" (165 : Nat) ({ cls := "EpochTreeModel", name := "accepted", desc := "(IIZ)V" } : Jvm.MethodName)),
  (Jvm.Cond.instanceMethod ({ cls := "EpochTreeModel", name := "accepted", desc := "(IIZ)V" } : Jvm.MethodName)),
  (Jvm.Cond.code ({ cls := "EpochTreeModel", name := "accepted", desc := "(IIZ)V" } : Jvm.MethodName) prog_9_method_23_code (5 : Nat) (Option.none : Option Jvm.ClassFile.FieldType)),
  (Jvm.Cond.methodLink "EpochTreeModel" (156 : Nat) ({ cls := "EpochTreeModel", name := "newLeader", desc := "(II)V" } : Jvm.MethodName)),
  (Jvm.Cond.instanceMethod ({ cls := "EpochTreeModel", name := "newLeader", desc := "(II)V" } : Jvm.MethodName)),
  (Jvm.Cond.code ({ cls := "EpochTreeModel", name := "newLeader", desc := "(II)V" } : Jvm.MethodName) prog_9_method_19_code (3 : Nat) (Option.none : Option Jvm.ClassFile.FieldType)),
  (Jvm.Cond.methodLink "EpochTreeModel" (159 : Nat) ({ cls := "EpochTreeModel", name := "lastMark", desc := "(I)I" } : Jvm.MethodName)),
  (Jvm.Cond.instanceMethod ({ cls := "EpochTreeModel", name := "lastMark", desc := "(I)I" } : Jvm.MethodName)),
  (Jvm.Cond.code ({ cls := "EpochTreeModel", name := "lastMark", desc := "(I)I" } : Jvm.MethodName) prog_9_method_22_code (2 : Nat) (Option.some Jvm.ClassFile.FieldType.int)),
  (Jvm.Cond.methodLink "EpochTreeModel" (162 : Nat) ({ cls := "EpochTreeModel", name := "copy", desc := "(III)V" } : Jvm.MethodName)),
  (Jvm.Cond.instanceMethod ({ cls := "EpochTreeModel", name := "copy", desc := "(III)V" } : Jvm.MethodName)),
  (Jvm.Cond.code ({ cls := "EpochTreeModel", name := "copy", desc := "(III)V" } : Jvm.MethodName) prog_9_method_20_code (5 : Nat) (Option.none : Option Jvm.ClassFile.FieldType)),
  (Jvm.Cond.methodLink "EpochTreeModel" (152 : Nat) ({ cls := "EpochTreeModel", name := "copyEntry", desc := "(II)V" } : Jvm.MethodName)),
  (Jvm.Cond.instanceMethod ({ cls := "EpochTreeModel", name := "copyEntry", desc := "(II)V" } : Jvm.MethodName)),
  (Jvm.Cond.code ({ cls := "EpochTreeModel", name := "copyEntry", desc := "(II)V" } : Jvm.MethodName) prog_9_method_21_code (3 : Nat) (Option.none : Option Jvm.ClassFile.FieldType)),
  (Jvm.Cond.methodLink "EpochTreeModel" (169 : Nat) ({ cls := "EpochTreeModel", name := "acknowledged", desc := "(III)V" } : Jvm.MethodName)),
  (Jvm.Cond.instanceMethod ({ cls := "EpochTreeModel", name := "acknowledged", desc := "(III)V" } : Jvm.MethodName)),
  (Jvm.Cond.code ({ cls := "EpochTreeModel", name := "acknowledged", desc := "(III)V" } : Jvm.MethodName) prog_9_method_24_code (6 : Nat) (Option.none : Option Jvm.ClassFile.FieldType)),
  (Jvm.Cond.instanceMethod ({ cls := "EpochTreeModel", name := "down", desc := "(I)I" } : Jvm.MethodName)),
  (Jvm.Cond.selects "EpochTreeModel" ({ cls := "EpochTreeModel", name := "down", desc := "(I)I" } : Jvm.MethodName) ({ cls := "EpochTreeModel", name := "down", desc := "(I)I" } : Jvm.MethodName)),
  (Jvm.Cond.code ({ cls := "EpochTreeModel", name := "down", desc := "(I)I" } : Jvm.MethodName) prog_9_method_26_code (6 : Nat) (Option.some Jvm.ClassFile.FieldType.int)),
  (Jvm.Cond.instanceMethod ({ cls := "EpochTreeModel", name := "submit", desc := "(IIIII)I" } : Jvm.MethodName)),
  (Jvm.Cond.selects "EpochTreeModel" ({ cls := "EpochTreeModel", name := "submit", desc := "(IIIII)I" } : Jvm.MethodName) ({ cls := "EpochTreeModel", name := "submit", desc := "(IIIII)I" } : Jvm.MethodName)),
  (Jvm.Cond.code ({ cls := "EpochTreeModel", name := "submit", desc := "(IIIII)I" } : Jvm.MethodName) prog_9_method_29_code (6 : Nat) (Option.some Jvm.ClassFile.FieldType.int)),
  (Jvm.Cond.methodLink "EpochTreeModel" (172 : Nat) ({ cls := "EpochTreeModel", name := "isPath", desc := "(I)Z" } : Jvm.MethodName)),
  (Jvm.Cond.static ({ cls := "EpochTreeModel", name := "isPath", desc := "(I)Z" } : Jvm.MethodName)),
  (Jvm.Cond.code ({ cls := "EpochTreeModel", name := "isPath", desc := "(I)Z" } : Jvm.MethodName) prog_9_method_28_code (1 : Nat) (Option.some Jvm.ClassFile.FieldType.boolean)),
  (Jvm.Cond.methodLink "EpochTreeModel" (175 : Nat) ({ cls := "EpochTreeModel", name := "make", desc := "(IIIII)V" } : Jvm.MethodName)),
  (Jvm.Cond.instanceMethod ({ cls := "EpochTreeModel", name := "make", desc := "(IIIII)V" } : Jvm.MethodName)),
  (Jvm.Cond.code ({ cls := "EpochTreeModel", name := "make", desc := "(IIIII)V" } : Jvm.MethodName) prog_9_method_27_code (8 : Nat) (Option.none : Option Jvm.ClassFile.FieldType)),
  (Jvm.Cond.instanceMethod ({ cls := "EpochTreeModel", name := "tick", desc := "()I" } : Jvm.MethodName)),
  (Jvm.Cond.selects "EpochTreeModel" ({ cls := "EpochTreeModel", name := "tick", desc := "()I" } : Jvm.MethodName) ({ cls := "EpochTreeModel", name := "tick", desc := "()I" } : Jvm.MethodName)),
  (Jvm.Cond.code ({ cls := "EpochTreeModel", name := "tick", desc := "()I" } : Jvm.MethodName) prog_9_method_30_code (5 : Nat) (Option.some Jvm.ClassFile.FieldType.int)),
  (Jvm.Cond.methodLink "EpochTreeModel" (179 : Nat) ({ cls := "EpochTreeModel", name := "work", desc := "(I)V" } : Jvm.MethodName)),
  (Jvm.Cond.instanceMethod ({ cls := "EpochTreeModel", name := "work", desc := "(I)V" } : Jvm.MethodName)),
  (Jvm.Cond.code ({ cls := "EpochTreeModel", name := "work", desc := "(I)V" } : Jvm.MethodName) prog_9_method_8_code (6 : Nat) (Option.none : Option Jvm.ClassFile.FieldType)),
  (Jvm.Cond.methodLink "EpochTreeModel" (118 : Nat) ({ cls := "EpochTreeModel", name := "create", desc := "(III)I" } : Jvm.MethodName)),
  (Jvm.Cond.instanceMethod ({ cls := "EpochTreeModel", name := "create", desc := "(III)I" } : Jvm.MethodName)),
  (Jvm.Cond.code ({ cls := "EpochTreeModel", name := "create", desc := "(III)I" } : Jvm.MethodName) prog_9_method_5_code (5 : Nat) (Option.some Jvm.ClassFile.FieldType.int)),
  (Jvm.Cond.methodLink "EpochTreeModel" (111 : Nat) ({ cls := "EpochTreeModel", name := "find", desc := "(I)I" } : Jvm.MethodName)),
  (Jvm.Cond.instanceMethod ({ cls := "EpochTreeModel", name := "find", desc := "(I)I" } : Jvm.MethodName)),
  (Jvm.Cond.code ({ cls := "EpochTreeModel", name := "find", desc := "(I)I" } : Jvm.MethodName) prog_9_method_3_code (3 : Nat) (Option.some Jvm.ClassFile.FieldType.int)),
  (Jvm.Cond.methodLink "EpochTreeModel" (122 : Nat) ({ cls := "EpochTreeModel", name := "alter", desc := "(ZIII)I" } : Jvm.MethodName)),
  (Jvm.Cond.instanceMethod ({ cls := "EpochTreeModel", name := "alter", desc := "(ZIII)I" } : Jvm.MethodName)),
  (Jvm.Cond.code ({ cls := "EpochTreeModel", name := "alter", desc := "(ZIII)I" } : Jvm.MethodName) prog_9_method_6_code (6 : Nat) (Option.some Jvm.ClassFile.FieldType.int)),
  (Jvm.Cond.methodLink "EpochTreeModel" (115 : Nat) ({ cls := "EpochTreeModel", name := "children", desc := "(I)I" } : Jvm.MethodName)),
  (Jvm.Cond.instanceMethod ({ cls := "EpochTreeModel", name := "children", desc := "(I)I" } : Jvm.MethodName)),
  (Jvm.Cond.code ({ cls := "EpochTreeModel", name := "children", desc := "(I)I" } : Jvm.MethodName) prog_9_method_4_code (4 : Nat) (Option.some Jvm.ClassFile.FieldType.int)),
  (Jvm.Cond.methodLink "EpochTreeModel" (126 : Nat) ({ cls := "EpochTreeModel", name := "session", desc := "(ZI)I" } : Jvm.MethodName)),
  (Jvm.Cond.instanceMethod ({ cls := "EpochTreeModel", name := "session", desc := "(ZI)I" } : Jvm.MethodName)),
  (Jvm.Cond.code ({ cls := "EpochTreeModel", name := "session", desc := "(ZI)I" } : Jvm.MethodName) prog_9_method_7_code (4 : Nat) (Option.some Jvm.ClassFile.FieldType.int)),
  (Jvm.Cond.instanceMethod ({ cls := "EpochTreeModel", name := "touch", desc := "(II)Z" } : Jvm.MethodName)),
  (Jvm.Cond.selects "EpochTreeModel" ({ cls := "EpochTreeModel", name := "touch", desc := "(II)Z" } : Jvm.MethodName) ({ cls := "EpochTreeModel", name := "touch", desc := "(II)Z" } : Jvm.MethodName)),
  (Jvm.Cond.code ({ cls := "EpochTreeModel", name := "touch", desc := "(II)Z" } : Jvm.MethodName) prog_9_method_31_code (3 : Nat) (Option.some Jvm.ClassFile.FieldType.boolean)),
  (Jvm.Cond.instanceMethod ({ cls := "EpochTreeModel", name := "role", desc := "(I)I" } : Jvm.MethodName)),
  (Jvm.Cond.selects "EpochTreeModel" ({ cls := "EpochTreeModel", name := "role", desc := "(I)I" } : Jvm.MethodName) ({ cls := "EpochTreeModel", name := "role", desc := "(I)I" } : Jvm.MethodName)),
  (Jvm.Cond.code ({ cls := "EpochTreeModel", name := "role", desc := "(I)I" } : Jvm.MethodName) prog_9_method_32_code (2 : Nat) (Option.some Jvm.ClassFile.FieldType.int)),
  (Jvm.Cond.instanceMethod ({ cls := "EpochTreeModel", name := "promise", desc := "(I)I" } : Jvm.MethodName)),
  (Jvm.Cond.selects "EpochTreeModel" ({ cls := "EpochTreeModel", name := "promise", desc := "(I)I" } : Jvm.MethodName) ({ cls := "EpochTreeModel", name := "promise", desc := "(I)I" } : Jvm.MethodName)),
  (Jvm.Cond.code ({ cls := "EpochTreeModel", name := "promise", desc := "(I)I" } : Jvm.MethodName) prog_9_method_33_code (2 : Nat) (Option.some Jvm.ClassFile.FieldType.int)),
  (Jvm.Cond.instanceMethod ({ cls := "EpochTreeModel", name := "epoch", desc := "(I)I" } : Jvm.MethodName)),
  (Jvm.Cond.selects "EpochTreeModel" ({ cls := "EpochTreeModel", name := "epoch", desc := "(I)I" } : Jvm.MethodName) ({ cls := "EpochTreeModel", name := "epoch", desc := "(I)I" } : Jvm.MethodName)),
  (Jvm.Cond.code ({ cls := "EpochTreeModel", name := "epoch", desc := "(I)I" } : Jvm.MethodName) prog_9_method_34_code (2 : Nat) (Option.some Jvm.ClassFile.FieldType.int)),
  (Jvm.Cond.instanceMethod ({ cls := "EpochTreeModel", name := "length", desc := "(I)I" } : Jvm.MethodName)),
  (Jvm.Cond.selects "EpochTreeModel" ({ cls := "EpochTreeModel", name := "length", desc := "(I)I" } : Jvm.MethodName) ({ cls := "EpochTreeModel", name := "length", desc := "(I)I" } : Jvm.MethodName)),
  (Jvm.Cond.code ({ cls := "EpochTreeModel", name := "length", desc := "(I)I" } : Jvm.MethodName) prog_9_method_35_code (2 : Nat) (Option.some Jvm.ClassFile.FieldType.int)),
  (Jvm.Cond.instanceMethod ({ cls := "EpochTreeModel", name := "mark", desc := "(II)I" } : Jvm.MethodName)),
  (Jvm.Cond.selects "EpochTreeModel" ({ cls := "EpochTreeModel", name := "mark", desc := "(II)I" } : Jvm.MethodName) ({ cls := "EpochTreeModel", name := "mark", desc := "(II)I" } : Jvm.MethodName)),
  (Jvm.Cond.code ({ cls := "EpochTreeModel", name := "mark", desc := "(II)I" } : Jvm.MethodName) prog_9_method_36_code (3 : Nat) (Option.some Jvm.ClassFile.FieldType.int)),
  (Jvm.Cond.instanceMethod ({ cls := "EpochTreeModel", name := "applied", desc := "(I)I" } : Jvm.MethodName)),
  (Jvm.Cond.selects "EpochTreeModel" ({ cls := "EpochTreeModel", name := "applied", desc := "(I)I" } : Jvm.MethodName) ({ cls := "EpochTreeModel", name := "applied", desc := "(I)I" } : Jvm.MethodName)),
  (Jvm.Cond.code ({ cls := "EpochTreeModel", name := "applied", desc := "(I)I" } : Jvm.MethodName) prog_9_method_37_code (2 : Nat) (Option.some Jvm.ClassFile.FieldType.int)),
  (Jvm.Cond.instanceMethod ({ cls := "EpochTreeModel", name := "result", desc := "(II)I" } : Jvm.MethodName)),
  (Jvm.Cond.selects "EpochTreeModel" ({ cls := "EpochTreeModel", name := "result", desc := "(II)I" } : Jvm.MethodName) ({ cls := "EpochTreeModel", name := "result", desc := "(II)I" } : Jvm.MethodName)),
  (Jvm.Cond.code ({ cls := "EpochTreeModel", name := "result", desc := "(II)I" } : Jvm.MethodName) prog_9_method_38_code (3 : Nat) (Option.some Jvm.ClassFile.FieldType.int)),
  (Jvm.Cond.instanceMethod ({ cls := "EpochTreeModel", name := "node", desc := "(III)I" } : Jvm.MethodName)),
  (Jvm.Cond.selects "EpochTreeModel" ({ cls := "EpochTreeModel", name := "node", desc := "(III)I" } : Jvm.MethodName) ({ cls := "EpochTreeModel", name := "node", desc := "(III)I" } : Jvm.MethodName)),
  (Jvm.Cond.code ({ cls := "EpochTreeModel", name := "node", desc := "(III)I" } : Jvm.MethodName) prog_9_method_39_code (5 : Nat) (Option.some Jvm.ClassFile.FieldType.int)),
  (Jvm.Cond.instanceMethod ({ cls := "EpochTreeModel", name := "tree", desc := "(I)I" } : Jvm.MethodName)),
  (Jvm.Cond.selects "EpochTreeModel" ({ cls := "EpochTreeModel", name := "tree", desc := "(I)I" } : Jvm.MethodName) ({ cls := "EpochTreeModel", name := "tree", desc := "(I)I" } : Jvm.MethodName)),
  (Jvm.Cond.code ({ cls := "EpochTreeModel", name := "tree", desc := "(I)I" } : Jvm.MethodName) prog_9_method_40_code (4 : Nat) (Option.some Jvm.ClassFile.FieldType.int)),
  (Jvm.Cond.instanceMethod ({ cls := "EpochTreeModel", name := "waiting", desc := "(IZ)I" } : Jvm.MethodName)),
  (Jvm.Cond.selects "EpochTreeModel" ({ cls := "EpochTreeModel", name := "waiting", desc := "(IZ)I" } : Jvm.MethodName) ({ cls := "EpochTreeModel", name := "waiting", desc := "(IZ)I" } : Jvm.MethodName)),
  (Jvm.Cond.code ({ cls := "EpochTreeModel", name := "waiting", desc := "(IZ)I" } : Jvm.MethodName) prog_9_method_41_code (3 : Nat) (Option.some Jvm.ClassFile.FieldType.int)),
  (Jvm.Cond.selects "EpochTree" ({ cls := "EpochTree", name := "hasRole", desc := "(II)Z" } : Jvm.MethodName) ({ cls := "EpochTree", name := "hasRole", desc := "(II)Z" } : Jvm.MethodName)),
  (Jvm.Cond.selects "EpochTree$Term" ({ cls := "EpochTree$Term", name := "begin", desc := "()V" } : Jvm.MethodName) ({ cls := "EpochTree$Term", name := "begin", desc := "()V" } : Jvm.MethodName)),
  (Jvm.Cond.selects "EpochTree" ({ cls := "EpochTree", name := "leads", desc := "(I)Z" } : Jvm.MethodName) ({ cls := "EpochTree", name := "leads", desc := "(I)Z" } : Jvm.MethodName)),
  (Jvm.Cond.selects "EpochTree$Row" ({ cls := "EpochTree$Row", name := "send", desc := "(II)V" } : Jvm.MethodName) ({ cls := "EpochTree$Row", name := "send", desc := "(II)V" } : Jvm.MethodName)),
  (Jvm.Cond.selects "EpochTree" ({ cls := "EpochTree", name := "stopTo", desc := "(II)V" } : Jvm.MethodName) ({ cls := "EpochTree", name := "stopTo", desc := "(II)V" } : Jvm.MethodName)),
  (Jvm.Cond.selects "EpochTree$Link" ({ cls := "EpochTree$Link", name := "clear", desc := "()V" } : Jvm.MethodName) ({ cls := "EpochTree$Link", name := "clear", desc := "()V" } : Jvm.MethodName)),
  (Jvm.Cond.selects "EpochTree$Row" ({ cls := "EpochTree$Row", name := "clear", desc := "()V" } : Jvm.MethodName) ({ cls := "EpochTree$Row", name := "clear", desc := "()V" } : Jvm.MethodName)),
  (Jvm.Cond.selects "EpochTree$Server" ({ cls := "EpochTree$Server", name := "forgetApplied", desc := "()V" } : Jvm.MethodName) ({ cls := "EpochTree$Server", name := "forgetApplied", desc := "()V" } : Jvm.MethodName)),
  (Jvm.Cond.selects "EpochTree$Tree" ({ cls := "EpochTree$Tree", name := "clear", desc := "()V" } : Jvm.MethodName) ({ cls := "EpochTree$Tree", name := "clear", desc := "()V" } : Jvm.MethodName)),
  (Jvm.Cond.selects "EpochTree$Row" ({ cls := "EpochTree$Row", name := "count", desc := "()I" } : Jvm.MethodName) ({ cls := "EpochTree$Row", name := "count", desc := "()I" } : Jvm.MethodName)),
  (Jvm.Cond.selects "EpochTree$Row" ({ cls := "EpochTree$Row", name := "firstKind", desc := "()I" } : Jvm.MethodName) ({ cls := "EpochTree$Row", name := "firstKind", desc := "()I" } : Jvm.MethodName)),
  (Jvm.Cond.selects "EpochTree$Row" ({ cls := "EpochTree$Row", name := "firstValue", desc := "()I" } : Jvm.MethodName) ({ cls := "EpochTree$Row", name := "firstValue", desc := "()I" } : Jvm.MethodName)),
  (Jvm.Cond.selects "EpochTree$Row" ({ cls := "EpochTree$Row", name := "dropFirst", desc := "()V" } : Jvm.MethodName) ({ cls := "EpochTree$Row", name := "dropFirst", desc := "()V" } : Jvm.MethodName)),
  (Jvm.Cond.selects "EpochTree" ({ cls := "EpochTree", name := "readAccepted", desc := "(LEpochTree$Server;LEpochTree$Server;Z)V" } : Jvm.MethodName) ({ cls := "EpochTree", name := "readAccepted", desc := "(LEpochTree$Server;LEpochTree$Server;Z)V" } : Jvm.MethodName)),
  (Jvm.Cond.selects "EpochTree$EntryList" ({ cls := "EpochTree$EntryList", name := "lastMark", desc := "()I" } : Jvm.MethodName) ({ cls := "EpochTree$EntryList", name := "lastMark", desc := "()I" } : Jvm.MethodName)),
  (Jvm.Cond.selects "EpochTree$EntryList" ({ cls := "EpochTree$EntryList", name := "markAt", desc := "(I)I" } : Jvm.MethodName) ({ cls := "EpochTree$EntryList", name := "markAt", desc := "(I)I" } : Jvm.MethodName)),
  (Jvm.Cond.selects "EpochTree$EntryList" ({ cls := "EpochTree$EntryList", name := "becomeFirst", desc := "(LEpochTree$EntryList;I)V" } : Jvm.MethodName) ({ cls := "EpochTree$EntryList", name := "becomeFirst", desc := "(LEpochTree$EntryList;I)V" } : Jvm.MethodName)),
  (Jvm.Cond.selects "EpochTree$EntryList" ({ cls := "EpochTree$EntryList", name := "appendFrom", desc := "(LEpochTree$EntryList;I)V" } : Jvm.MethodName) ({ cls := "EpochTree$EntryList", name := "appendFrom", desc := "(LEpochTree$EntryList;I)V" } : Jvm.MethodName)),
  (Jvm.Cond.selects "EpochTree$EntryList" ({ cls := "EpochTree$EntryList", name := "append", desc := "(IIIII)V" } : Jvm.MethodName) ({ cls := "EpochTree$EntryList", name := "append", desc := "(IIIII)V" } : Jvm.MethodName)),
  (Jvm.Cond.selects "EpochTree$EntryList" ({ cls := "EpochTree$EntryList", name := "isFull", desc := "()Z" } : Jvm.MethodName) ({ cls := "EpochTree$EntryList", name := "isFull", desc := "()Z" } : Jvm.MethodName)),
  (Jvm.Cond.selects "EpochTree" ({ cls := "EpochTree", name := "sendNewLeaderToWaiting", desc := "(LEpochTree$Server;)V" } : Jvm.MethodName) ({ cls := "EpochTree", name := "sendNewLeaderToWaiting", desc := "(LEpochTree$Server;)V" } : Jvm.MethodName)),
  (Jvm.Cond.selects "EpochTree" ({ cls := "EpochTree", name := "readAck", desc := "(LEpochTree$Server;LEpochTree$Server;I)V" } : Jvm.MethodName) ({ cls := "EpochTree", name := "readAck", desc := "(LEpochTree$Server;LEpochTree$Server;I)V" } : Jvm.MethodName)),
  (Jvm.Cond.selects "EpochTree$Server" ({ cls := "EpochTree$Server", name := "applyUpTo", desc := "(I)V" } : Jvm.MethodName) ({ cls := "EpochTree$Server", name := "applyUpTo", desc := "(I)V" } : Jvm.MethodName)),
  (Jvm.Cond.selects "EpochTree$Tree" ({ cls := "EpochTree$Tree", name := "change", desc := "(IIII)I" } : Jvm.MethodName) ({ cls := "EpochTree$Tree", name := "change", desc := "(IIII)I" } : Jvm.MethodName)),
  (Jvm.Cond.selects "EpochTree$Tree" ({ cls := "EpochTree$Tree", name := "create", desc := "(III)I" } : Jvm.MethodName) ({ cls := "EpochTree$Tree", name := "create", desc := "(III)I" } : Jvm.MethodName)),
  (Jvm.Cond.selects "EpochTree$Tree" ({ cls := "EpochTree$Tree", name := "isOpen", desc := "(I)Z" } : Jvm.MethodName) ({ cls := "EpochTree$Tree", name := "isOpen", desc := "(I)Z" } : Jvm.MethodName)),
  (Jvm.Cond.selects "EpochTree$Tree" ({ cls := "EpochTree$Tree", name := "find", desc := "(I)I" } : Jvm.MethodName) ({ cls := "EpochTree$Tree", name := "find", desc := "(I)I" } : Jvm.MethodName)),
  (Jvm.Cond.selects "EpochTree$Tree" ({ cls := "EpochTree$Tree", name := "add", desc := "(III)V" } : Jvm.MethodName) ({ cls := "EpochTree$Tree", name := "add", desc := "(III)V" } : Jvm.MethodName)),
  (Jvm.Cond.selects "EpochTree$Tree" ({ cls := "EpochTree$Tree", name := "set", desc := "(III)I" } : Jvm.MethodName) ({ cls := "EpochTree$Tree", name := "set", desc := "(III)I" } : Jvm.MethodName)),
  (Jvm.Cond.selects "EpochTree$Tree" ({ cls := "EpochTree$Tree", name := "delete", desc := "(II)I" } : Jvm.MethodName) ({ cls := "EpochTree$Tree", name := "delete", desc := "(II)I" } : Jvm.MethodName)),
  (Jvm.Cond.selects "EpochTree$Tree" ({ cls := "EpochTree$Tree", name := "countChildren", desc := "(I)I" } : Jvm.MethodName) ({ cls := "EpochTree$Tree", name := "countChildren", desc := "(I)I" } : Jvm.MethodName)),
  (Jvm.Cond.selects "EpochTree$Tree" ({ cls := "EpochTree$Tree", name := "remove", desc := "(I)V" } : Jvm.MethodName) ({ cls := "EpochTree$Tree", name := "remove", desc := "(I)V" } : Jvm.MethodName)),
  (Jvm.Cond.selects "EpochTree$Tree" ({ cls := "EpochTree$Tree", name := "open", desc := "(I)I" } : Jvm.MethodName) ({ cls := "EpochTree$Tree", name := "open", desc := "(I)I" } : Jvm.MethodName)),
  (Jvm.Cond.selects "EpochTree$Tree" ({ cls := "EpochTree$Tree", name := "close", desc := "(I)I" } : Jvm.MethodName) ({ cls := "EpochTree$Tree", name := "close", desc := "(I)I" } : Jvm.MethodName)),
  (Jvm.Cond.selects "EpochTree" ({ cls := "EpochTree", name := "sendOnTiedLinks", desc := "(LEpochTree$Server;II)V" } : Jvm.MethodName) ({ cls := "EpochTree", name := "sendOnTiedLinks", desc := "(LEpochTree$Server;II)V" } : Jvm.MethodName)),
  (Jvm.Cond.selects "EpochTree" ({ cls := "EpochTree", name := "readNewEpoch", desc := "(II)V" } : Jvm.MethodName) ({ cls := "EpochTree", name := "readNewEpoch", desc := "(II)V" } : Jvm.MethodName)),
  (Jvm.Cond.selects "EpochTree" ({ cls := "EpochTree", name := "readNewLeader", desc := "(LEpochTree$Server;I)V" } : Jvm.MethodName) ({ cls := "EpochTree", name := "readNewLeader", desc := "(LEpochTree$Server;I)V" } : Jvm.MethodName)),
  (Jvm.Cond.selects "EpochTree" ({ cls := "EpochTree", name := "readProposal", desc := "(LEpochTree$Server;I)V" } : Jvm.MethodName) ({ cls := "EpochTree", name := "readProposal", desc := "(LEpochTree$Server;I)V" } : Jvm.MethodName)),
  (Jvm.Cond.selects "EpochTree" ({ cls := "EpochTree", name := "makeEntry", desc := "(LEpochTree$Server;IIII)V" } : Jvm.MethodName) ({ cls := "EpochTree", name := "makeEntry", desc := "(LEpochTree$Server;IIII)V" } : Jvm.MethodName)),
  (Jvm.Cond.selects "EpochTree" ({ cls := "EpochTree", name := "closeOldSessions", desc := "(LEpochTree$Server;)I" } : Jvm.MethodName) ({ cls := "EpochTree", name := "closeOldSessions", desc := "(LEpochTree$Server;)I" } : Jvm.MethodName)),
  (Jvm.Cond.selects "EpochTree$Tree" ({ cls := "EpochTree$Tree", name := "look", desc := "(II)I" } : Jvm.MethodName) ({ cls := "EpochTree$Tree", name := "look", desc := "(II)I" } : Jvm.MethodName)),
  (Jvm.Cond.selects "EpochTree$Tree" ({ cls := "EpochTree$Tree", name := "lookAtRoot", desc := "(I)I" } : Jvm.MethodName) ({ cls := "EpochTree$Tree", name := "lookAtRoot", desc := "(I)I" } : Jvm.MethodName)),
  (Jvm.Cond.selects "EpochTree$Tree" ({ cls := "EpochTree$Tree", name := "summary", desc := "()I" } : Jvm.MethodName) ({ cls := "EpochTree$Tree", name := "summary", desc := "()I" } : Jvm.MethodName)),
  (Jvm.Cond.selects "EpochTreeModel" ({ cls := "EpochTreeModel", name := "cut", desc := "(I)V" } : Jvm.MethodName) ({ cls := "EpochTreeModel", name := "cut", desc := "(I)V" } : Jvm.MethodName)),
  (Jvm.Cond.selects "EpochTreeModel" ({ cls := "EpochTreeModel", name := "sendUp", desc := "(III)V" } : Jvm.MethodName) ({ cls := "EpochTreeModel", name := "sendUp", desc := "(III)V" } : Jvm.MethodName)),
  (Jvm.Cond.selects "EpochTreeModel" ({ cls := "EpochTreeModel", name := "cease", desc := "(I)V" } : Jvm.MethodName) ({ cls := "EpochTreeModel", name := "cease", desc := "(I)V" } : Jvm.MethodName)),
  (Jvm.Cond.selects "EpochTreeModel" ({ cls := "EpochTreeModel", name := "follows", desc := "(II)Z" } : Jvm.MethodName) ({ cls := "EpochTreeModel", name := "follows", desc := "(II)Z" } : Jvm.MethodName)),
  (Jvm.Cond.selects "EpochTreeModel" ({ cls := "EpochTreeModel", name := "sendDown", desc := "(III)V" } : Jvm.MethodName) ({ cls := "EpochTreeModel", name := "sendDown", desc := "(III)V" } : Jvm.MethodName)),
  (Jvm.Cond.selects "EpochTreeModel" ({ cls := "EpochTreeModel", name := "accepted", desc := "(IIZ)V" } : Jvm.MethodName) ({ cls := "EpochTreeModel", name := "accepted", desc := "(IIZ)V" } : Jvm.MethodName)),
  (Jvm.Cond.selects "EpochTreeModel" ({ cls := "EpochTreeModel", name := "newLeader", desc := "(II)V" } : Jvm.MethodName) ({ cls := "EpochTreeModel", name := "newLeader", desc := "(II)V" } : Jvm.MethodName)),
  (Jvm.Cond.selects "EpochTreeModel" ({ cls := "EpochTreeModel", name := "lastMark", desc := "(I)I" } : Jvm.MethodName) ({ cls := "EpochTreeModel", name := "lastMark", desc := "(I)I" } : Jvm.MethodName)),
  (Jvm.Cond.selects "EpochTreeModel" ({ cls := "EpochTreeModel", name := "copy", desc := "(III)V" } : Jvm.MethodName) ({ cls := "EpochTreeModel", name := "copy", desc := "(III)V" } : Jvm.MethodName)),
  (Jvm.Cond.selects "EpochTreeModel" ({ cls := "EpochTreeModel", name := "copyEntry", desc := "(II)V" } : Jvm.MethodName) ({ cls := "EpochTreeModel", name := "copyEntry", desc := "(II)V" } : Jvm.MethodName)),
  (Jvm.Cond.selects "EpochTreeModel" ({ cls := "EpochTreeModel", name := "acknowledged", desc := "(III)V" } : Jvm.MethodName) ({ cls := "EpochTreeModel", name := "acknowledged", desc := "(III)V" } : Jvm.MethodName)),
  (Jvm.Cond.selects "EpochTreeModel" ({ cls := "EpochTreeModel", name := "make", desc := "(IIIII)V" } : Jvm.MethodName) ({ cls := "EpochTreeModel", name := "make", desc := "(IIIII)V" } : Jvm.MethodName)),
  (Jvm.Cond.selects "EpochTreeModel" ({ cls := "EpochTreeModel", name := "work", desc := "(I)V" } : Jvm.MethodName) ({ cls := "EpochTreeModel", name := "work", desc := "(I)V" } : Jvm.MethodName)),
  (Jvm.Cond.selects "EpochTreeModel" ({ cls := "EpochTreeModel", name := "create", desc := "(III)I" } : Jvm.MethodName) ({ cls := "EpochTreeModel", name := "create", desc := "(III)I" } : Jvm.MethodName)),
  (Jvm.Cond.selects "EpochTreeModel" ({ cls := "EpochTreeModel", name := "find", desc := "(I)I" } : Jvm.MethodName) ({ cls := "EpochTreeModel", name := "find", desc := "(I)I" } : Jvm.MethodName)),
  (Jvm.Cond.selects "EpochTreeModel" ({ cls := "EpochTreeModel", name := "alter", desc := "(ZIII)I" } : Jvm.MethodName) ({ cls := "EpochTreeModel", name := "alter", desc := "(ZIII)I" } : Jvm.MethodName)),
  (Jvm.Cond.selects "EpochTreeModel" ({ cls := "EpochTreeModel", name := "children", desc := "(I)I" } : Jvm.MethodName) ({ cls := "EpochTreeModel", name := "children", desc := "(I)I" } : Jvm.MethodName)),
  (Jvm.Cond.selects "EpochTreeModel" ({ cls := "EpochTreeModel", name := "session", desc := "(ZI)I" } : Jvm.MethodName) ({ cls := "EpochTreeModel", name := "session", desc := "(ZI)I" } : Jvm.MethodName))]
theorem mem_r {big : List Cond} (ws : List Cond) (ps : List Nat) (hp : ws = ps.filterMap (fun i => big[i]?)) : ∀ w ∈ ws, w ∈ big := by
  intro w hw
  rw [hp] at hw
  obtain ⟨i, -, hi⟩ := List.mem_filterMap.mp hw
  first | exact List.mem_of_getElem? hi | exact List.getElem?_mem hi
set_option maxRecDepth 20000 in
theorem tb_0 : (Jvm.Cond.initialized "EpochTree") ∈ tb := List.mem_of_getElem? (i := 0) rfl
set_option maxRecDepth 20000 in
theorem tb_1 : (Jvm.Cond.initialized "EpochTree$Server") ∈ tb := List.mem_of_getElem? (i := 1) rfl
set_option maxRecDepth 20000 in
theorem tb_2 : (Jvm.Cond.initialized "EpochTree$EntryList") ∈ tb := List.mem_of_getElem? (i := 2) rfl
set_option maxRecDepth 20000 in
theorem tb_3 : (Jvm.Cond.initialized "EpochTree$Tree") ∈ tb := List.mem_of_getElem? (i := 3) rfl
set_option maxRecDepth 20000 in
theorem tb_4 : (Jvm.Cond.initialized "EpochTree$Link") ∈ tb := List.mem_of_getElem? (i := 4) rfl
set_option maxRecDepth 20000 in
theorem tb_5 : (Jvm.Cond.initialized "EpochTree$Row") ∈ tb := List.mem_of_getElem? (i := 5) rfl
set_option maxRecDepth 20000 in
theorem tb_6 : (Jvm.Cond.initialized "EpochTree$Term") ∈ tb := List.mem_of_getElem? (i := 6) rfl
set_option maxRecDepth 20000 in
theorem tb_7 : (Jvm.Cond.initialized "EpochTreeModel") ∈ tb := List.mem_of_getElem? (i := 7) rfl
set_option maxRecDepth 20000 in
theorem tb_8 : (Jvm.Cond.initialized "java/lang/Math") ∈ tb := List.mem_of_getElem? (i := 8) rfl
set_option maxRecDepth 20000 in
theorem tb_9 : (Jvm.Cond.initialized "java/util/Arrays") ∈ tb := List.mem_of_getElem? (i := 9) rfl
set_option maxRecDepth 20000 in
theorem tb_10 : (Jvm.Cond.instantiable "EpochTree" (1 : Nat)) ∈ tb := List.mem_of_getElem? (i := 10) rfl
set_option maxRecDepth 20000 in
theorem tb_11 : (Jvm.Cond.instanceMethod ({ cls := "EpochTree", name := "<init>", desc := "()V" } : Jvm.MethodName)) ∈ tb := List.mem_of_getElem? (i := 11) rfl
set_option maxRecDepth 20000 in
theorem tb_12 : (Jvm.Cond.code ({ cls := "EpochTree", name := "<init>", desc := "()V" } : Jvm.MethodName) prog_1_method_1_code (2 : Nat) (Option.none : Option Jvm.ClassFile.FieldType)) ∈ tb := List.mem_of_getElem? (i := 12) rfl
set_option maxRecDepth 20000 in
theorem tb_13 : (Jvm.Cond.methodLink "EpochTree" (3 : Nat) ({ cls := "java/lang/Object", name := "<init>", desc := "()V" } : Jvm.MethodName)) ∈ tb := List.mem_of_getElem? (i := 13) rfl
set_option maxRecDepth 20000 in
theorem tb_14 : (Jvm.Cond.instanceMethod ({ cls := "java/lang/Object", name := "<init>", desc := "()V" } : Jvm.MethodName)) ∈ tb := List.mem_of_getElem? (i := 14) rfl
set_option maxRecDepth 20000 in
theorem tb_15 : (Jvm.Cond.code ({ cls := "java/lang/Object", name := "<init>", desc := "()V" } : Jvm.MethodName) object_method_1_code (1 : Nat) (Option.none : Option Jvm.ClassFile.FieldType)) ∈ tb := List.mem_of_getElem? (i := 15) rfl
set_option maxRecDepth 20000 in
theorem tb_16 : (Jvm.Cond.classLink "EpochTree" (9 : Nat) "EpochTree$Server") ∈ tb := List.mem_of_getElem? (i := 16) rfl
set_option maxRecDepth 20000 in
theorem tb_17 : (Jvm.Cond.instantiable "EpochTree$Server" (11 : Nat)) ∈ tb := List.mem_of_getElem? (i := 17) rfl
set_option maxRecDepth 20000 in
theorem tb_18 : (Jvm.Cond.instanceMethod ({ cls := "EpochTree$Server", name := "<init>", desc := "(I)V" } : Jvm.MethodName)) ∈ tb := List.mem_of_getElem? (i := 18) rfl
set_option maxRecDepth 20000 in
theorem tb_19 : (Jvm.Cond.code ({ cls := "EpochTree$Server", name := "<init>", desc := "(I)V" } : Jvm.MethodName) prog_5_method_1_code (2 : Nat) (Option.none : Option Jvm.ClassFile.FieldType)) ∈ tb := List.mem_of_getElem? (i := 19) rfl
set_option maxRecDepth 20000 in
theorem tb_20 : (Jvm.Cond.methodLink "EpochTree$Server" (3 : Nat) ({ cls := "java/lang/Object", name := "<init>", desc := "()V" } : Jvm.MethodName)) ∈ tb := List.mem_of_getElem? (i := 20) rfl
set_option maxRecDepth 20000 in
theorem tb_21 : (Jvm.Cond.classLink "EpochTree$Server" (15 : Nat) "EpochTree$EntryList") ∈ tb := List.mem_of_getElem? (i := 21) rfl
set_option maxRecDepth 20000 in
theorem tb_22 : (Jvm.Cond.instantiable "EpochTree$EntryList" (6 : Nat)) ∈ tb := List.mem_of_getElem? (i := 22) rfl
set_option maxRecDepth 20000 in
theorem tb_23 : (Jvm.Cond.instanceMethod ({ cls := "EpochTree$EntryList", name := "<init>", desc := "()V" } : Jvm.MethodName)) ∈ tb := List.mem_of_getElem? (i := 23) rfl
set_option maxRecDepth 20000 in
theorem tb_24 : (Jvm.Cond.code ({ cls := "EpochTree$EntryList", name := "<init>", desc := "()V" } : Jvm.MethodName) prog_2_method_1_code (1 : Nat) (Option.none : Option Jvm.ClassFile.FieldType)) ∈ tb := List.mem_of_getElem? (i := 24) rfl
set_option maxRecDepth 20000 in
theorem tb_25 : (Jvm.Cond.methodLink "EpochTree$EntryList" (3 : Nat) ({ cls := "java/lang/Object", name := "<init>", desc := "()V" } : Jvm.MethodName)) ∈ tb := List.mem_of_getElem? (i := 25) rfl
set_option maxRecDepth 20000 in
theorem tb_26 : (Jvm.Cond.fieldLink "EpochTree$EntryList" (9 : Nat) "EpochTree$EntryList" "marks" "[I") ∈ tb := List.mem_of_getElem? (i := 26) rfl
set_option maxRecDepth 20000 in
theorem tb_27 : (Jvm.Cond.fieldLink "EpochTree$EntryList" (15 : Nat) "EpochTree$EntryList" "kinds" "[I") ∈ tb := List.mem_of_getElem? (i := 27) rfl
set_option maxRecDepth 20000 in
theorem tb_28 : (Jvm.Cond.fieldLink "EpochTree$EntryList" (18 : Nat) "EpochTree$EntryList" "paths" "[I") ∈ tb := List.mem_of_getElem? (i := 28) rfl
set_option maxRecDepth 20000 in
theorem tb_29 : (Jvm.Cond.fieldLink "EpochTree$EntryList" (21 : Nat) "EpochTree$EntryList" "as" "[I") ∈ tb := List.mem_of_getElem? (i := 29) rfl
set_option maxRecDepth 20000 in
theorem tb_30 : (Jvm.Cond.fieldLink "EpochTree$EntryList" (24 : Nat) "EpochTree$EntryList" "bs" "[I") ∈ tb := List.mem_of_getElem? (i := 30) rfl
set_option maxRecDepth 20000 in
theorem tb_31 : (Jvm.Cond.fieldLink "EpochTree$EntryList" (27 : Nat) "EpochTree$EntryList" "size" "I") ∈ tb := List.mem_of_getElem? (i := 31) rfl
set_option maxRecDepth 20000 in
theorem tb_32 : (Jvm.Cond.laysFinal "EpochTree$EntryList" "EpochTree$EntryList" "marks" "[I") ∈ tb := List.mem_of_getElem? (i := 32) rfl
set_option maxRecDepth 20000 in
theorem tb_33 : (Jvm.Cond.laysFinal "EpochTree$EntryList" "EpochTree$EntryList" "kinds" "[I") ∈ tb := List.mem_of_getElem? (i := 33) rfl
set_option maxRecDepth 20000 in
theorem tb_34 : (Jvm.Cond.laysFinal "EpochTree$EntryList" "EpochTree$EntryList" "paths" "[I") ∈ tb := List.mem_of_getElem? (i := 34) rfl
set_option maxRecDepth 20000 in
theorem tb_35 : (Jvm.Cond.laysFinal "EpochTree$EntryList" "EpochTree$EntryList" "as" "[I") ∈ tb := List.mem_of_getElem? (i := 35) rfl
set_option maxRecDepth 20000 in
theorem tb_36 : (Jvm.Cond.laysFinal "EpochTree$EntryList" "EpochTree$EntryList" "bs" "[I") ∈ tb := List.mem_of_getElem? (i := 36) rfl
set_option maxRecDepth 20000 in
theorem tb_37 : (Jvm.Cond.lays "EpochTree$EntryList" "EpochTree$EntryList" "size" "I") ∈ tb := List.mem_of_getElem? (i := 37) rfl
set_option maxRecDepth 20000 in
theorem tb_38 : (Jvm.Cond.arrayClass Jvm.ClassFile.FieldType.int) ∈ tb := List.mem_of_getElem? (i := 38) rfl
set_option maxRecDepth 20000 in
theorem tb_39 : (Jvm.Cond.classLink "EpochTree$Server" (29 : Nat) "EpochTree$Tree") ∈ tb := List.mem_of_getElem? (i := 39) rfl
set_option maxRecDepth 20000 in
theorem tb_40 : (Jvm.Cond.instantiable "EpochTree$Tree" (6 : Nat)) ∈ tb := List.mem_of_getElem? (i := 40) rfl
set_option maxRecDepth 20000 in
theorem tb_41 : (Jvm.Cond.instanceMethod ({ cls := "EpochTree$Tree", name := "<init>", desc := "()V" } : Jvm.MethodName)) ∈ tb := List.mem_of_getElem? (i := 41) rfl
set_option maxRecDepth 20000 in
theorem tb_42 : (Jvm.Cond.code ({ cls := "EpochTree$Tree", name := "<init>", desc := "()V" } : Jvm.MethodName) prog_7_method_1_code (1 : Nat) (Option.none : Option Jvm.ClassFile.FieldType)) ∈ tb := List.mem_of_getElem? (i := 42) rfl
set_option maxRecDepth 20000 in
theorem tb_43 : (Jvm.Cond.methodLink "EpochTree$Tree" (3 : Nat) ({ cls := "java/lang/Object", name := "<init>", desc := "()V" } : Jvm.MethodName)) ∈ tb := List.mem_of_getElem? (i := 43) rfl
set_option maxRecDepth 20000 in
theorem tb_44 : (Jvm.Cond.fieldLink "EpochTree$Tree" (9 : Nat) "EpochTree$Tree" "paths" "[I") ∈ tb := List.mem_of_getElem? (i := 44) rfl
set_option maxRecDepth 20000 in
theorem tb_45 : (Jvm.Cond.fieldLink "EpochTree$Tree" (15 : Nat) "EpochTree$Tree" "data" "[I") ∈ tb := List.mem_of_getElem? (i := 45) rfl
set_option maxRecDepth 20000 in
theorem tb_46 : (Jvm.Cond.fieldLink "EpochTree$Tree" (18 : Nat) "EpochTree$Tree" "versions" "[I") ∈ tb := List.mem_of_getElem? (i := 46) rfl
set_option maxRecDepth 20000 in
theorem tb_47 : (Jvm.Cond.fieldLink "EpochTree$Tree" (21 : Nat) "EpochTree$Tree" "owners" "[I") ∈ tb := List.mem_of_getElem? (i := 47) rfl
set_option maxRecDepth 20000 in
theorem tb_48 : (Jvm.Cond.fieldLink "EpochTree$Tree" (24 : Nat) "EpochTree$Tree" "size" "I") ∈ tb := List.mem_of_getElem? (i := 48) rfl
set_option maxRecDepth 20000 in
theorem tb_49 : (Jvm.Cond.fieldLink "EpochTree$Tree" (28 : Nat) "EpochTree$Tree" "openBits" "I") ∈ tb := List.mem_of_getElem? (i := 49) rfl
set_option maxRecDepth 20000 in
theorem tb_50 : (Jvm.Cond.laysFinal "EpochTree$Tree" "EpochTree$Tree" "paths" "[I") ∈ tb := List.mem_of_getElem? (i := 50) rfl
set_option maxRecDepth 20000 in
theorem tb_51 : (Jvm.Cond.laysFinal "EpochTree$Tree" "EpochTree$Tree" "data" "[I") ∈ tb := List.mem_of_getElem? (i := 51) rfl
set_option maxRecDepth 20000 in
theorem tb_52 : (Jvm.Cond.laysFinal "EpochTree$Tree" "EpochTree$Tree" "versions" "[I") ∈ tb := List.mem_of_getElem? (i := 52) rfl
set_option maxRecDepth 20000 in
theorem tb_53 : (Jvm.Cond.laysFinal "EpochTree$Tree" "EpochTree$Tree" "owners" "[I") ∈ tb := List.mem_of_getElem? (i := 53) rfl
set_option maxRecDepth 20000 in
theorem tb_54 : (Jvm.Cond.lays "EpochTree$Tree" "EpochTree$Tree" "size" "I") ∈ tb := List.mem_of_getElem? (i := 54) rfl
set_option maxRecDepth 20000 in
theorem tb_55 : (Jvm.Cond.lays "EpochTree$Tree" "EpochTree$Tree" "openBits" "I") ∈ tb := List.mem_of_getElem? (i := 55) rfl
set_option maxRecDepth 20000 in
theorem tb_56 : (Jvm.Cond.classLink "EpochTree$Server" (36 : Nat) "EpochTree$Link") ∈ tb := List.mem_of_getElem? (i := 56) rfl
set_option maxRecDepth 20000 in
theorem tb_57 : (Jvm.Cond.instantiable "EpochTree$Link" (5 : Nat)) ∈ tb := List.mem_of_getElem? (i := 57) rfl
set_option maxRecDepth 20000 in
theorem tb_58 : (Jvm.Cond.instanceMethod ({ cls := "EpochTree$Link", name := "<init>", desc := "()V" } : Jvm.MethodName)) ∈ tb := List.mem_of_getElem? (i := 58) rfl
set_option maxRecDepth 20000 in
theorem tb_59 : (Jvm.Cond.code ({ cls := "EpochTree$Link", name := "<init>", desc := "()V" } : Jvm.MethodName) prog_3_method_1_code (1 : Nat) (Option.none : Option Jvm.ClassFile.FieldType)) ∈ tb := List.mem_of_getElem? (i := 59) rfl
set_option maxRecDepth 20000 in
theorem tb_60 : (Jvm.Cond.methodLink "EpochTree$Link" (3 : Nat) ({ cls := "java/lang/Object", name := "<init>", desc := "()V" } : Jvm.MethodName)) ∈ tb := List.mem_of_getElem? (i := 60) rfl
set_option maxRecDepth 20000 in
theorem tb_61 : (Jvm.Cond.classLink "EpochTree$Link" (9 : Nat) "EpochTree$Row") ∈ tb := List.mem_of_getElem? (i := 61) rfl
set_option maxRecDepth 20000 in
theorem tb_62 : (Jvm.Cond.instantiable "EpochTree$Row" (4 : Nat)) ∈ tb := List.mem_of_getElem? (i := 62) rfl
set_option maxRecDepth 20000 in
theorem tb_63 : (Jvm.Cond.instanceMethod ({ cls := "EpochTree$Row", name := "<init>", desc := "(I)V" } : Jvm.MethodName)) ∈ tb := List.mem_of_getElem? (i := 63) rfl
set_option maxRecDepth 20000 in
theorem tb_64 : (Jvm.Cond.code ({ cls := "EpochTree$Row", name := "<init>", desc := "(I)V" } : Jvm.MethodName) prog_4_method_1_code (2 : Nat) (Option.none : Option Jvm.ClassFile.FieldType)) ∈ tb := List.mem_of_getElem? (i := 64) rfl
set_option maxRecDepth 20000 in
theorem tb_65 : (Jvm.Cond.methodLink "EpochTree$Row" (1 : Nat) ({ cls := "java/lang/Object", name := "<init>", desc := "()V" } : Jvm.MethodName)) ∈ tb := List.mem_of_getElem? (i := 65) rfl
set_option maxRecDepth 20000 in
theorem tb_66 : (Jvm.Cond.fieldLink "EpochTree$Row" (7 : Nat) "EpochTree$Row" "kinds" "[I") ∈ tb := List.mem_of_getElem? (i := 66) rfl
set_option maxRecDepth 20000 in
theorem tb_67 : (Jvm.Cond.fieldLink "EpochTree$Row" (13 : Nat) "EpochTree$Row" "values" "[I") ∈ tb := List.mem_of_getElem? (i := 67) rfl
set_option maxRecDepth 20000 in
theorem tb_68 : (Jvm.Cond.fieldLink "EpochTree$Row" (16 : Nat) "EpochTree$Row" "first" "I") ∈ tb := List.mem_of_getElem? (i := 68) rfl
set_option maxRecDepth 20000 in
theorem tb_69 : (Jvm.Cond.fieldLink "EpochTree$Row" (20 : Nat) "EpochTree$Row" "end" "I") ∈ tb := List.mem_of_getElem? (i := 69) rfl
set_option maxRecDepth 20000 in
theorem tb_70 : (Jvm.Cond.laysFinal "EpochTree$Row" "EpochTree$Row" "kinds" "[I") ∈ tb := List.mem_of_getElem? (i := 70) rfl
set_option maxRecDepth 20000 in
theorem tb_71 : (Jvm.Cond.laysFinal "EpochTree$Row" "EpochTree$Row" "values" "[I") ∈ tb := List.mem_of_getElem? (i := 71) rfl
set_option maxRecDepth 20000 in
theorem tb_72 : (Jvm.Cond.lays "EpochTree$Row" "EpochTree$Row" "first" "I") ∈ tb := List.mem_of_getElem? (i := 72) rfl
set_option maxRecDepth 20000 in
theorem tb_73 : (Jvm.Cond.lays "EpochTree$Row" "EpochTree$Row" "end" "I") ∈ tb := List.mem_of_getElem? (i := 73) rfl
set_option maxRecDepth 20000 in
theorem tb_74 : (Jvm.Cond.fieldLink "EpochTree$Link" (14 : Nat) "EpochTree$Link" "up" "LEpochTree$Row;") ∈ tb := List.mem_of_getElem? (i := 74) rfl
set_option maxRecDepth 20000 in
theorem tb_75 : (Jvm.Cond.fieldLink "EpochTree$Link" (20 : Nat) "EpochTree$Link" "down" "LEpochTree$Row;") ∈ tb := List.mem_of_getElem? (i := 75) rfl
set_option maxRecDepth 20000 in
theorem tb_76 : (Jvm.Cond.fieldLink "EpochTree$Link" (26 : Nat) "EpochTree$Link" "tied" "Z") ∈ tb := List.mem_of_getElem? (i := 76) rfl
set_option maxRecDepth 20000 in
theorem tb_77 : (Jvm.Cond.fieldLink "EpochTree$Link" (30 : Nat) "EpochTree$Link" "acked" "Z") ∈ tb := List.mem_of_getElem? (i := 77) rfl
set_option maxRecDepth 20000 in
theorem tb_78 : (Jvm.Cond.fieldLink "EpochTree$Link" (33 : Nat) "EpochTree$Link" "waitsForList" "Z") ∈ tb := List.mem_of_getElem? (i := 78) rfl
set_option maxRecDepth 20000 in
theorem tb_79 : (Jvm.Cond.laysFinal "EpochTree$Link" "EpochTree$Link" "up" "LEpochTree$Row;") ∈ tb := List.mem_of_getElem? (i := 79) rfl
set_option maxRecDepth 20000 in
theorem tb_80 : (Jvm.Cond.laysFinal "EpochTree$Link" "EpochTree$Link" "down" "LEpochTree$Row;") ∈ tb := List.mem_of_getElem? (i := 80) rfl
set_option maxRecDepth 20000 in
theorem tb_81 : (Jvm.Cond.lays "EpochTree$Link" "EpochTree$Link" "tied" "Z") ∈ tb := List.mem_of_getElem? (i := 81) rfl
set_option maxRecDepth 20000 in
theorem tb_82 : (Jvm.Cond.lays "EpochTree$Link" "EpochTree$Link" "acked" "Z") ∈ tb := List.mem_of_getElem? (i := 82) rfl
set_option maxRecDepth 20000 in
theorem tb_83 : (Jvm.Cond.lays "EpochTree$Link" "EpochTree$Link" "waitsForList" "Z") ∈ tb := List.mem_of_getElem? (i := 83) rfl
set_option maxRecDepth 20000 in
theorem tb_84 : (Jvm.Cond.classLink "EpochTree$Server" (43 : Nat) "EpochTree$Term") ∈ tb := List.mem_of_getElem? (i := 84) rfl
set_option maxRecDepth 20000 in
theorem tb_85 : (Jvm.Cond.instantiable "EpochTree$Term" (4 : Nat)) ∈ tb := List.mem_of_getElem? (i := 85) rfl
set_option maxRecDepth 20000 in
theorem tb_86 : (Jvm.Cond.instanceMethod ({ cls := "EpochTree$Term", name := "<init>", desc := "()V" } : Jvm.MethodName)) ∈ tb := List.mem_of_getElem? (i := 86) rfl
set_option maxRecDepth 20000 in
theorem tb_87 : (Jvm.Cond.code ({ cls := "EpochTree$Term", name := "<init>", desc := "()V" } : Jvm.MethodName) prog_6_method_1_code (1 : Nat) (Option.none : Option Jvm.ClassFile.FieldType)) ∈ tb := List.mem_of_getElem? (i := 87) rfl
set_option maxRecDepth 20000 in
theorem tb_88 : (Jvm.Cond.methodLink "EpochTree$Term" (3 : Nat) ({ cls := "java/lang/Object", name := "<init>", desc := "()V" } : Jvm.MethodName)) ∈ tb := List.mem_of_getElem? (i := 88) rfl
set_option maxRecDepth 20000 in
theorem tb_89 : (Jvm.Cond.fieldLink "EpochTree$Term" (15 : Nat) "EpochTree$Term" "epochChosen" "Z") ∈ tb := List.mem_of_getElem? (i := 89) rfl
set_option maxRecDepth 20000 in
theorem tb_90 : (Jvm.Cond.fieldLink "EpochTree$Term" (19 : Nat) "EpochTree$Term" "listChosen" "Z") ∈ tb := List.mem_of_getElem? (i := 90) rfl
set_option maxRecDepth 20000 in
theorem tb_91 : (Jvm.Cond.fieldLink "EpochTree$Term" (22 : Nat) "EpochTree$Term" "made" "I") ∈ tb := List.mem_of_getElem? (i := 91) rfl
set_option maxRecDepth 20000 in
theorem tb_92 : (Jvm.Cond.fieldLink "EpochTree$Term" (9 : Nat) "EpochTree$Term" "ages" "[I") ∈ tb := List.mem_of_getElem? (i := 92) rfl
set_option maxRecDepth 20000 in
theorem tb_93 : (Jvm.Cond.lays "EpochTree$Term" "EpochTree$Term" "epochChosen" "Z") ∈ tb := List.mem_of_getElem? (i := 93) rfl
set_option maxRecDepth 20000 in
theorem tb_94 : (Jvm.Cond.lays "EpochTree$Term" "EpochTree$Term" "listChosen" "Z") ∈ tb := List.mem_of_getElem? (i := 94) rfl
set_option maxRecDepth 20000 in
theorem tb_95 : (Jvm.Cond.lays "EpochTree$Term" "EpochTree$Term" "made" "I") ∈ tb := List.mem_of_getElem? (i := 95) rfl
set_option maxRecDepth 20000 in
theorem tb_96 : (Jvm.Cond.laysFinal "EpochTree$Term" "EpochTree$Term" "ages" "[I") ∈ tb := List.mem_of_getElem? (i := 96) rfl
set_option maxRecDepth 20000 in
theorem tb_97 : (Jvm.Cond.fieldLink "EpochTree$Server" (9 : Nat) "EpochTree$Server" "number" "I") ∈ tb := List.mem_of_getElem? (i := 97) rfl
set_option maxRecDepth 20000 in
theorem tb_98 : (Jvm.Cond.fieldLink "EpochTree$Server" (18 : Nat) "EpochTree$Server" "list" "LEpochTree$EntryList;") ∈ tb := List.mem_of_getElem? (i := 98) rfl
set_option maxRecDepth 20000 in
theorem tb_99 : (Jvm.Cond.fieldLink "EpochTree$Server" (22 : Nat) "EpochTree$Server" "role" "I") ∈ tb := List.mem_of_getElem? (i := 99) rfl
set_option maxRecDepth 20000 in
theorem tb_100 : (Jvm.Cond.fieldLink "EpochTree$Server" (59 : Nat) "EpochTree$Server" "applied" "I") ∈ tb := List.mem_of_getElem? (i := 100) rfl
set_option maxRecDepth 20000 in
theorem tb_101 : (Jvm.Cond.fieldLink "EpochTree$Server" (25 : Nat) "EpochTree$Server" "results" "[I") ∈ tb := List.mem_of_getElem? (i := 101) rfl
set_option maxRecDepth 20000 in
theorem tb_102 : (Jvm.Cond.fieldLink "EpochTree$Server" (32 : Nat) "EpochTree$Server" "tree" "LEpochTree$Tree;") ∈ tb := List.mem_of_getElem? (i := 102) rfl
set_option maxRecDepth 20000 in
theorem tb_103 : (Jvm.Cond.fieldLink "EpochTree$Server" (39 : Nat) "EpochTree$Server" "link" "LEpochTree$Link;") ∈ tb := List.mem_of_getElem? (i := 103) rfl
set_option maxRecDepth 20000 in
theorem tb_104 : (Jvm.Cond.fieldLink "EpochTree$Server" (46 : Nat) "EpochTree$Server" "term" "LEpochTree$Term;") ∈ tb := List.mem_of_getElem? (i := 104) rfl
set_option maxRecDepth 20000 in
theorem tb_105 : (Jvm.Cond.laysFinal "EpochTree$Server" "EpochTree$Server" "number" "I") ∈ tb := List.mem_of_getElem? (i := 105) rfl
set_option maxRecDepth 20000 in
theorem tb_106 : (Jvm.Cond.lays "EpochTree$Server" "EpochTree$Server" "promise" "I") ∈ tb := List.mem_of_getElem? (i := 106) rfl
set_option maxRecDepth 20000 in
theorem tb_107 : (Jvm.Cond.lays "EpochTree$Server" "EpochTree$Server" "epoch" "I") ∈ tb := List.mem_of_getElem? (i := 107) rfl
set_option maxRecDepth 20000 in
theorem tb_108 : (Jvm.Cond.laysFinal "EpochTree$Server" "EpochTree$Server" "list" "LEpochTree$EntryList;") ∈ tb := List.mem_of_getElem? (i := 108) rfl
set_option maxRecDepth 20000 in
theorem tb_109 : (Jvm.Cond.lays "EpochTree$Server" "EpochTree$Server" "role" "I") ∈ tb := List.mem_of_getElem? (i := 109) rfl
set_option maxRecDepth 20000 in
theorem tb_110 : (Jvm.Cond.lays "EpochTree$Server" "EpochTree$Server" "leader" "I") ∈ tb := List.mem_of_getElem? (i := 110) rfl
set_option maxRecDepth 20000 in
theorem tb_111 : (Jvm.Cond.lays "EpochTree$Server" "EpochTree$Server" "applied" "I") ∈ tb := List.mem_of_getElem? (i := 111) rfl
set_option maxRecDepth 20000 in
theorem tb_112 : (Jvm.Cond.laysFinal "EpochTree$Server" "EpochTree$Server" "results" "[I") ∈ tb := List.mem_of_getElem? (i := 112) rfl
set_option maxRecDepth 20000 in
theorem tb_113 : (Jvm.Cond.laysFinal "EpochTree$Server" "EpochTree$Server" "tree" "LEpochTree$Tree;") ∈ tb := List.mem_of_getElem? (i := 113) rfl
set_option maxRecDepth 20000 in
theorem tb_114 : (Jvm.Cond.laysFinal "EpochTree$Server" "EpochTree$Server" "link" "LEpochTree$Link;") ∈ tb := List.mem_of_getElem? (i := 114) rfl
set_option maxRecDepth 20000 in
theorem tb_115 : (Jvm.Cond.laysFinal "EpochTree$Server" "EpochTree$Server" "term" "LEpochTree$Term;") ∈ tb := List.mem_of_getElem? (i := 115) rfl
set_option maxRecDepth 20000 in
theorem tb_116 : (Jvm.Cond.fieldLink "EpochTree" (11 : Nat) "EpochTree" "servers" "[LEpochTree$Server;") ∈ tb := List.mem_of_getElem? (i := 116) rfl
set_option maxRecDepth 20000 in
theorem tb_117 : (Jvm.Cond.laysFinal "EpochTree" "EpochTree" "servers" "[LEpochTree$Server;") ∈ tb := List.mem_of_getElem? (i := 117) rfl
set_option maxRecDepth 20000 in
theorem tb_118 : (Jvm.Cond.instanceMethod ({ cls := "EpochTree", name := "lead", desc := "(I)Z" } : Jvm.MethodName)) ∈ tb := List.mem_of_getElem? (i := 118) rfl
set_option maxRecDepth 20000 in
theorem tb_119 : (Jvm.Cond.selects "EpochTree" ({ cls := "EpochTree", name := "lead", desc := "(I)Z" } : Jvm.MethodName) ({ cls := "EpochTree", name := "lead", desc := "(I)Z" } : Jvm.MethodName)) ∈ tb := List.mem_of_getElem? (i := 119) rfl
set_option maxRecDepth 20000 in
theorem tb_120 : (Jvm.Cond.code ({ cls := "EpochTree", name := "lead", desc := "(I)Z" } : Jvm.MethodName) prog_1_method_2_code (2 : Nat) (Option.some Jvm.ClassFile.FieldType.boolean)) ∈ tb := List.mem_of_getElem? (i := 120) rfl
set_option maxRecDepth 20000 in
theorem tb_121 : (Jvm.Cond.methodLink "EpochTree" (18 : Nat) ({ cls := "EpochTree", name := "hasRole", desc := "(II)Z" } : Jvm.MethodName)) ∈ tb := List.mem_of_getElem? (i := 121) rfl
set_option maxRecDepth 20000 in
theorem tb_122 : (Jvm.Cond.instanceMethod ({ cls := "EpochTree", name := "hasRole", desc := "(II)Z" } : Jvm.MethodName)) ∈ tb := List.mem_of_getElem? (i := 122) rfl
set_option maxRecDepth 20000 in
theorem tb_123 : (Jvm.Cond.code ({ cls := "EpochTree", name := "hasRole", desc := "(II)Z" } : Jvm.MethodName) prog_1_method_26_code (3 : Nat) (Option.some Jvm.ClassFile.FieldType.boolean)) ∈ tb := List.mem_of_getElem? (i := 123) rfl
set_option maxRecDepth 20000 in
theorem tb_124 : (Jvm.Cond.methodLink "EpochTree" (64 : Nat) ({ cls := "EpochTree", name := "isServer", desc := "(I)Z" } : Jvm.MethodName)) ∈ tb := List.mem_of_getElem? (i := 124) rfl
set_option maxRecDepth 20000 in
theorem tb_125 : (Jvm.Cond.static ({ cls := "EpochTree", name := "isServer", desc := "(I)Z" } : Jvm.MethodName)) ∈ tb := List.mem_of_getElem? (i := 125) rfl
set_option maxRecDepth 20000 in
theorem tb_126 : (Jvm.Cond.code ({ cls := "EpochTree", name := "isServer", desc := "(I)Z" } : Jvm.MethodName) prog_1_method_22_code (1 : Nat) (Option.some Jvm.ClassFile.FieldType.boolean)) ∈ tb := List.mem_of_getElem? (i := 126) rfl
set_option maxRecDepth 20000 in
theorem tb_127 : (Jvm.Cond.instanceMethod ({ cls := "EpochTree$Term", name := "begin", desc := "()V" } : Jvm.MethodName)) ∈ tb := List.mem_of_getElem? (i := 127) rfl
set_option maxRecDepth 20000 in
theorem tb_128 : (Jvm.Cond.code ({ cls := "EpochTree$Term", name := "begin", desc := "()V" } : Jvm.MethodName) prog_6_method_2_code (1 : Nat) (Option.none : Option Jvm.ClassFile.FieldType)) ∈ tb := List.mem_of_getElem? (i := 128) rfl
set_option maxRecDepth 20000 in
theorem tb_129 : (Jvm.Cond.instanceMethod ({ cls := "EpochTree", name := "follow", desc := "(II)Z" } : Jvm.MethodName)) ∈ tb := List.mem_of_getElem? (i := 129) rfl
set_option maxRecDepth 20000 in
theorem tb_130 : (Jvm.Cond.selects "EpochTree" ({ cls := "EpochTree", name := "follow", desc := "(II)Z" } : Jvm.MethodName) ({ cls := "EpochTree", name := "follow", desc := "(II)Z" } : Jvm.MethodName)) ∈ tb := List.mem_of_getElem? (i := 130) rfl
set_option maxRecDepth 20000 in
theorem tb_131 : (Jvm.Cond.code ({ cls := "EpochTree", name := "follow", desc := "(II)Z" } : Jvm.MethodName) prog_1_method_3_code (4 : Nat) (Option.some Jvm.ClassFile.FieldType.boolean)) ∈ tb := List.mem_of_getElem? (i := 131) rfl
set_option maxRecDepth 20000 in
theorem tb_132 : (Jvm.Cond.methodLink "EpochTree" (35 : Nat) ({ cls := "EpochTree", name := "leads", desc := "(I)Z" } : Jvm.MethodName)) ∈ tb := List.mem_of_getElem? (i := 132) rfl
set_option maxRecDepth 20000 in
theorem tb_133 : (Jvm.Cond.instanceMethod ({ cls := "EpochTree", name := "leads", desc := "(I)Z" } : Jvm.MethodName)) ∈ tb := List.mem_of_getElem? (i := 133) rfl
set_option maxRecDepth 20000 in
theorem tb_134 : (Jvm.Cond.code ({ cls := "EpochTree", name := "leads", desc := "(I)Z" } : Jvm.MethodName) prog_1_method_27_code (2 : Nat) (Option.some Jvm.ClassFile.FieldType.boolean)) ∈ tb := List.mem_of_getElem? (i := 134) rfl
set_option maxRecDepth 20000 in
theorem tb_135 : (Jvm.Cond.instanceMethod ({ cls := "EpochTree$Row", name := "send", desc := "(II)V" } : Jvm.MethodName)) ∈ tb := List.mem_of_getElem? (i := 135) rfl
set_option maxRecDepth 20000 in
theorem tb_136 : (Jvm.Cond.code ({ cls := "EpochTree$Row", name := "send", desc := "(II)V" } : Jvm.MethodName) prog_4_method_4_code (3 : Nat) (Option.none : Option Jvm.ClassFile.FieldType)) ∈ tb := List.mem_of_getElem? (i := 136) rfl
set_option maxRecDepth 20000 in
theorem tb_137 : (Jvm.Cond.instanceMethod ({ cls := "EpochTree", name := "quit", desc := "(I)Z" } : Jvm.MethodName)) ∈ tb := List.mem_of_getElem? (i := 137) rfl
set_option maxRecDepth 20000 in
theorem tb_138 : (Jvm.Cond.selects "EpochTree" ({ cls := "EpochTree", name := "quit", desc := "(I)Z" } : Jvm.MethodName) ({ cls := "EpochTree", name := "quit", desc := "(I)Z" } : Jvm.MethodName)) ∈ tb := List.mem_of_getElem? (i := 138) rfl
set_option maxRecDepth 20000 in
theorem tb_139 : (Jvm.Cond.code ({ cls := "EpochTree", name := "quit", desc := "(I)Z" } : Jvm.MethodName) prog_1_method_4_code (2 : Nat) (Option.some Jvm.ClassFile.FieldType.boolean)) ∈ tb := List.mem_of_getElem? (i := 139) rfl
set_option maxRecDepth 20000 in
theorem tb_140 : (Jvm.Cond.methodLink "EpochTree" (61 : Nat) ({ cls := "EpochTree", name := "stopTo", desc := "(II)V" } : Jvm.MethodName)) ∈ tb := List.mem_of_getElem? (i := 140) rfl
set_option maxRecDepth 20000 in
theorem tb_141 : (Jvm.Cond.instanceMethod ({ cls := "EpochTree", name := "stopTo", desc := "(II)V" } : Jvm.MethodName)) ∈ tb := List.mem_of_getElem? (i := 141) rfl
set_option maxRecDepth 20000 in
theorem tb_142 : (Jvm.Cond.code ({ cls := "EpochTree", name := "stopTo", desc := "(II)V" } : Jvm.MethodName) prog_1_method_29_code (5 : Nat) (Option.none : Option Jvm.ClassFile.FieldType)) ∈ tb := List.mem_of_getElem? (i := 142) rfl
set_option maxRecDepth 20000 in
theorem tb_143 : (Jvm.Cond.methodLink "EpochTree" (181 : Nat) ({ cls := "EpochTree", name := "isFollowerOf", desc := "(LEpochTree$Server;LEpochTree$Server;)Z" } : Jvm.MethodName)) ∈ tb := List.mem_of_getElem? (i := 143) rfl
set_option maxRecDepth 20000 in
theorem tb_144 : (Jvm.Cond.static ({ cls := "EpochTree", name := "isFollowerOf", desc := "(LEpochTree$Server;LEpochTree$Server;)Z" } : Jvm.MethodName)) ∈ tb := List.mem_of_getElem? (i := 144) rfl
set_option maxRecDepth 20000 in
theorem tb_145 : (Jvm.Cond.code ({ cls := "EpochTree", name := "isFollowerOf", desc := "(LEpochTree$Server;LEpochTree$Server;)Z" } : Jvm.MethodName) prog_1_method_28_code (2 : Nat) (Option.some Jvm.ClassFile.FieldType.boolean)) ∈ tb := List.mem_of_getElem? (i := 145) rfl
set_option maxRecDepth 20000 in
theorem tb_146 : (Jvm.Cond.instanceMethod ({ cls := "EpochTree$Link", name := "clear", desc := "()V" } : Jvm.MethodName)) ∈ tb := List.mem_of_getElem? (i := 146) rfl
set_option maxRecDepth 20000 in
theorem tb_147 : (Jvm.Cond.code ({ cls := "EpochTree$Link", name := "clear", desc := "()V" } : Jvm.MethodName) prog_3_method_2_code (1 : Nat) (Option.none : Option Jvm.ClassFile.FieldType)) ∈ tb := List.mem_of_getElem? (i := 147) rfl
set_option maxRecDepth 20000 in
theorem tb_148 : (Jvm.Cond.instanceMethod ({ cls := "EpochTree$Row", name := "clear", desc := "()V" } : Jvm.MethodName)) ∈ tb := List.mem_of_getElem? (i := 148) rfl
set_option maxRecDepth 20000 in
theorem tb_149 : (Jvm.Cond.code ({ cls := "EpochTree$Row", name := "clear", desc := "()V" } : Jvm.MethodName) prog_4_method_2_code (1 : Nat) (Option.none : Option Jvm.ClassFile.FieldType)) ∈ tb := List.mem_of_getElem? (i := 149) rfl
set_option maxRecDepth 20000 in
theorem tb_150 : (Jvm.Cond.instanceMethod ({ cls := "EpochTree", name := "crash", desc := "(I)Z" } : Jvm.MethodName)) ∈ tb := List.mem_of_getElem? (i := 150) rfl
set_option maxRecDepth 20000 in
theorem tb_151 : (Jvm.Cond.selects "EpochTree" ({ cls := "EpochTree", name := "crash", desc := "(I)Z" } : Jvm.MethodName) ({ cls := "EpochTree", name := "crash", desc := "(I)Z" } : Jvm.MethodName)) ∈ tb := List.mem_of_getElem? (i := 151) rfl
set_option maxRecDepth 20000 in
theorem tb_152 : (Jvm.Cond.code ({ cls := "EpochTree", name := "crash", desc := "(I)Z" } : Jvm.MethodName) prog_1_method_5_code (2 : Nat) (Option.some Jvm.ClassFile.FieldType.boolean)) ∈ tb := List.mem_of_getElem? (i := 152) rfl
set_option maxRecDepth 20000 in
theorem tb_153 : (Jvm.Cond.instanceMethod ({ cls := "EpochTree$Server", name := "forgetApplied", desc := "()V" } : Jvm.MethodName)) ∈ tb := List.mem_of_getElem? (i := 153) rfl
set_option maxRecDepth 20000 in
theorem tb_154 : (Jvm.Cond.code ({ cls := "EpochTree$Server", name := "forgetApplied", desc := "()V" } : Jvm.MethodName) prog_5_method_3_code (1 : Nat) (Option.none : Option Jvm.ClassFile.FieldType)) ∈ tb := List.mem_of_getElem? (i := 154) rfl
set_option maxRecDepth 20000 in
theorem tb_155 : (Jvm.Cond.instanceMethod ({ cls := "EpochTree$Tree", name := "clear", desc := "()V" } : Jvm.MethodName)) ∈ tb := List.mem_of_getElem? (i := 155) rfl
set_option maxRecDepth 20000 in
theorem tb_156 : (Jvm.Cond.code ({ cls := "EpochTree$Tree", name := "clear", desc := "()V" } : Jvm.MethodName) prog_7_method_2_code (1 : Nat) (Option.none : Option Jvm.ClassFile.FieldType)) ∈ tb := List.mem_of_getElem? (i := 156) rfl
set_option maxRecDepth 20000 in
theorem tb_157 : (Jvm.Cond.instanceMethod ({ cls := "EpochTree", name := "restart", desc := "(I)Z" } : Jvm.MethodName)) ∈ tb := List.mem_of_getElem? (i := 157) rfl
set_option maxRecDepth 20000 in
theorem tb_158 : (Jvm.Cond.selects "EpochTree" ({ cls := "EpochTree", name := "restart", desc := "(I)Z" } : Jvm.MethodName) ({ cls := "EpochTree", name := "restart", desc := "(I)Z" } : Jvm.MethodName)) ∈ tb := List.mem_of_getElem? (i := 158) rfl
set_option maxRecDepth 20000 in
theorem tb_159 : (Jvm.Cond.code ({ cls := "EpochTree", name := "restart", desc := "(I)Z" } : Jvm.MethodName) prog_1_method_6_code (2 : Nat) (Option.some Jvm.ClassFile.FieldType.boolean)) ∈ tb := List.mem_of_getElem? (i := 159) rfl
set_option maxRecDepth 20000 in
theorem tb_160 : (Jvm.Cond.instanceMethod ({ cls := "EpochTree", name := "up", desc := "(I)I" } : Jvm.MethodName)) ∈ tb := List.mem_of_getElem? (i := 160) rfl
set_option maxRecDepth 20000 in
theorem tb_161 : (Jvm.Cond.selects "EpochTree" ({ cls := "EpochTree", name := "up", desc := "(I)I" } : Jvm.MethodName) ({ cls := "EpochTree", name := "up", desc := "(I)I" } : Jvm.MethodName)) ∈ tb := List.mem_of_getElem? (i := 161) rfl
set_option maxRecDepth 20000 in
theorem tb_162 : (Jvm.Cond.code ({ cls := "EpochTree", name := "up", desc := "(I)I" } : Jvm.MethodName) prog_1_method_7_code (7 : Nat) (Option.some Jvm.ClassFile.FieldType.int)) ∈ tb := List.mem_of_getElem? (i := 162) rfl
set_option maxRecDepth 20000 in
theorem tb_163 : (Jvm.Cond.instanceMethod ({ cls := "EpochTree$Row", name := "count", desc := "()I" } : Jvm.MethodName)) ∈ tb := List.mem_of_getElem? (i := 163) rfl
set_option maxRecDepth 20000 in
theorem tb_164 : (Jvm.Cond.code ({ cls := "EpochTree$Row", name := "count", desc := "()I" } : Jvm.MethodName) prog_4_method_3_code (1 : Nat) (Option.some Jvm.ClassFile.FieldType.int)) ∈ tb := List.mem_of_getElem? (i := 164) rfl
set_option maxRecDepth 20000 in
theorem tb_165 : (Jvm.Cond.instanceMethod ({ cls := "EpochTree$Row", name := "firstKind", desc := "()I" } : Jvm.MethodName)) ∈ tb := List.mem_of_getElem? (i := 165) rfl
set_option maxRecDepth 20000 in
theorem tb_166 : (Jvm.Cond.code ({ cls := "EpochTree$Row", name := "firstKind", desc := "()I" } : Jvm.MethodName) prog_4_method_5_code (1 : Nat) (Option.some Jvm.ClassFile.FieldType.int)) ∈ tb := List.mem_of_getElem? (i := 166) rfl
set_option maxRecDepth 20000 in
theorem tb_167 : (Jvm.Cond.instanceMethod ({ cls := "EpochTree$Row", name := "firstValue", desc := "()I" } : Jvm.MethodName)) ∈ tb := List.mem_of_getElem? (i := 167) rfl
set_option maxRecDepth 20000 in
theorem tb_168 : (Jvm.Cond.code ({ cls := "EpochTree$Row", name := "firstValue", desc := "()I" } : Jvm.MethodName) prog_4_method_6_code (1 : Nat) (Option.some Jvm.ClassFile.FieldType.int)) ∈ tb := List.mem_of_getElem? (i := 168) rfl
set_option maxRecDepth 20000 in
theorem tb_169 : (Jvm.Cond.instanceMethod ({ cls := "EpochTree$Row", name := "dropFirst", desc := "()V" } : Jvm.MethodName)) ∈ tb := List.mem_of_getElem? (i := 169) rfl
set_option maxRecDepth 20000 in
theorem tb_170 : (Jvm.Cond.code ({ cls := "EpochTree$Row", name := "dropFirst", desc := "()V" } : Jvm.MethodName) prog_4_method_7_code (1 : Nat) (Option.none : Option Jvm.ClassFile.FieldType)) ∈ tb := List.mem_of_getElem? (i := 170) rfl
set_option maxRecDepth 20000 in
theorem tb_171 : (Jvm.Cond.methodLink "EpochTree" (83 : Nat) ({ cls := "EpochTree", name := "readJoin", desc := "(LEpochTree$Server;LEpochTree$Server;I)V" } : Jvm.MethodName)) ∈ tb := List.mem_of_getElem? (i := 171) rfl
set_option maxRecDepth 20000 in
theorem tb_172 : (Jvm.Cond.static ({ cls := "EpochTree", name := "readJoin", desc := "(LEpochTree$Server;LEpochTree$Server;I)V" } : Jvm.MethodName)) ∈ tb := List.mem_of_getElem? (i := 172) rfl
set_option maxRecDepth 20000 in
theorem tb_173 : (Jvm.Cond.code ({ cls := "EpochTree", name := "readJoin", desc := "(LEpochTree$Server;LEpochTree$Server;I)V" } : Jvm.MethodName) prog_1_method_30_code (3 : Nat) (Option.none : Option Jvm.ClassFile.FieldType)) ∈ tb := List.mem_of_getElem? (i := 173) rfl
set_option maxRecDepth 20000 in
theorem tb_174 : (Jvm.Cond.methodLink "EpochTree" (192 : Nat) ({ cls := "java/lang/Math", name := "max", desc := "(II)I" } : Jvm.MethodName)) ∈ tb := List.mem_of_getElem? (i := 174) rfl
set_option maxRecDepth 20000 in
theorem tb_175 : (Jvm.Cond.static ({ cls := "java/lang/Math", name := "max", desc := "(II)I" } : Jvm.MethodName)) ∈ tb := List.mem_of_getElem? (i := 175) rfl
set_option maxRecDepth 20000 in
theorem tb_176 : (Jvm.Cond.code ({ cls := "java/lang/Math", name := "max", desc := "(II)I" } : Jvm.MethodName) prog_10_method_65_code (2 : Nat) (Option.some Jvm.ClassFile.FieldType.int)) ∈ tb := List.mem_of_getElem? (i := 176) rfl
set_option maxRecDepth 20000 in
theorem tb_177 : (Jvm.Cond.methodLink "EpochTree" (87 : Nat) ({ cls := "EpochTree", name := "readAccepted", desc := "(LEpochTree$Server;LEpochTree$Server;Z)V" } : Jvm.MethodName)) ∈ tb := List.mem_of_getElem? (i := 177) rfl
set_option maxRecDepth 20000 in
theorem tb_178 : (Jvm.Cond.instanceMethod ({ cls := "EpochTree", name := "readAccepted", desc := "(LEpochTree$Server;LEpochTree$Server;Z)V" } : Jvm.MethodName)) ∈ tb := List.mem_of_getElem? (i := 178) rfl
set_option maxRecDepth 20000 in
theorem tb_179 : (Jvm.Cond.code ({ cls := "EpochTree", name := "readAccepted", desc := "(LEpochTree$Server;LEpochTree$Server;Z)V" } : Jvm.MethodName) prog_1_method_31_code (4 : Nat) (Option.none : Option Jvm.ClassFile.FieldType)) ∈ tb := List.mem_of_getElem? (i := 179) rfl
set_option maxRecDepth 20000 in
theorem tb_180 : (Jvm.Cond.methodLink "EpochTree" (200 : Nat) ({ cls := "EpochTree", name := "sendNewLeader", desc := "(LEpochTree$Server;LEpochTree$Server;)V" } : Jvm.MethodName)) ∈ tb := List.mem_of_getElem? (i := 180) rfl
set_option maxRecDepth 20000 in
theorem tb_181 : (Jvm.Cond.static ({ cls := "EpochTree", name := "sendNewLeader", desc := "(LEpochTree$Server;LEpochTree$Server;)V" } : Jvm.MethodName)) ∈ tb := List.mem_of_getElem? (i := 181) rfl
set_option maxRecDepth 20000 in
theorem tb_182 : (Jvm.Cond.code ({ cls := "EpochTree", name := "sendNewLeader", desc := "(LEpochTree$Server;LEpochTree$Server;)V" } : Jvm.MethodName) prog_1_method_33_code (2 : Nat) (Option.none : Option Jvm.ClassFile.FieldType)) ∈ tb := List.mem_of_getElem? (i := 182) rfl
set_option maxRecDepth 20000 in
theorem tb_183 : (Jvm.Cond.methodLink "EpochTree" (204 : Nat) ({ cls := "EpochTree", name := "chooseList", desc := "(LEpochTree$Server;LEpochTree$Server;)V" } : Jvm.MethodName)) ∈ tb := List.mem_of_getElem? (i := 183) rfl
set_option maxRecDepth 20000 in
theorem tb_184 : (Jvm.Cond.static ({ cls := "EpochTree", name := "chooseList", desc := "(LEpochTree$Server;LEpochTree$Server;)V" } : Jvm.MethodName)) ∈ tb := List.mem_of_getElem? (i := 184) rfl
set_option maxRecDepth 20000 in
theorem tb_185 : (Jvm.Cond.code ({ cls := "EpochTree", name := "chooseList", desc := "(LEpochTree$Server;LEpochTree$Server;)V" } : Jvm.MethodName) prog_1_method_32_code (4 : Nat) (Option.none : Option Jvm.ClassFile.FieldType)) ∈ tb := List.mem_of_getElem? (i := 185) rfl
set_option maxRecDepth 20000 in
theorem tb_186 : (Jvm.Cond.instanceMethod ({ cls := "EpochTree$EntryList", name := "lastMark", desc := "()I" } : Jvm.MethodName)) ∈ tb := List.mem_of_getElem? (i := 186) rfl
set_option maxRecDepth 20000 in
theorem tb_187 : (Jvm.Cond.code ({ cls := "EpochTree$EntryList", name := "lastMark", desc := "()I" } : Jvm.MethodName) prog_2_method_4_code (1 : Nat) (Option.some Jvm.ClassFile.FieldType.int)) ∈ tb := List.mem_of_getElem? (i := 187) rfl
set_option maxRecDepth 20000 in
theorem tb_188 : (Jvm.Cond.methodLink "EpochTree$EntryList" (31 : Nat) ({ cls := "EpochTree$EntryList", name := "markAt", desc := "(I)I" } : Jvm.MethodName)) ∈ tb := List.mem_of_getElem? (i := 188) rfl
set_option maxRecDepth 20000 in
theorem tb_189 : (Jvm.Cond.instanceMethod ({ cls := "EpochTree$EntryList", name := "markAt", desc := "(I)I" } : Jvm.MethodName)) ∈ tb := List.mem_of_getElem? (i := 189) rfl
set_option maxRecDepth 20000 in
theorem tb_190 : (Jvm.Cond.code ({ cls := "EpochTree$EntryList", name := "markAt", desc := "(I)I" } : Jvm.MethodName) prog_2_method_3_code (2 : Nat) (Option.some Jvm.ClassFile.FieldType.int)) ∈ tb := List.mem_of_getElem? (i := 190) rfl
set_option maxRecDepth 20000 in
theorem tb_191 : (Jvm.Cond.instanceMethod ({ cls := "EpochTree$EntryList", name := "becomeFirst", desc := "(LEpochTree$EntryList;I)V" } : Jvm.MethodName)) ∈ tb := List.mem_of_getElem? (i := 191) rfl
set_option maxRecDepth 20000 in
theorem tb_192 : (Jvm.Cond.code ({ cls := "EpochTree$EntryList", name := "becomeFirst", desc := "(LEpochTree$EntryList;I)V" } : Jvm.MethodName) prog_2_method_7_code (4 : Nat) (Option.none : Option Jvm.ClassFile.FieldType)) ∈ tb := List.mem_of_getElem? (i := 192) rfl
set_option maxRecDepth 20000 in
theorem tb_193 : (Jvm.Cond.methodLink "EpochTree$EntryList" (43 : Nat) ({ cls := "EpochTree$EntryList", name := "appendFrom", desc := "(LEpochTree$EntryList;I)V" } : Jvm.MethodName)) ∈ tb := List.mem_of_getElem? (i := 193) rfl
set_option maxRecDepth 20000 in
theorem tb_194 : (Jvm.Cond.instanceMethod ({ cls := "EpochTree$EntryList", name := "appendFrom", desc := "(LEpochTree$EntryList;I)V" } : Jvm.MethodName)) ∈ tb := List.mem_of_getElem? (i := 194) rfl
set_option maxRecDepth 20000 in
theorem tb_195 : (Jvm.Cond.code ({ cls := "EpochTree$EntryList", name := "appendFrom", desc := "(LEpochTree$EntryList;I)V" } : Jvm.MethodName) prog_2_method_6_code (4 : Nat) (Option.none : Option Jvm.ClassFile.FieldType)) ∈ tb := List.mem_of_getElem? (i := 195) rfl
set_option maxRecDepth 20000 in
theorem tb_196 : (Jvm.Cond.methodLink "EpochTree$EntryList" (39 : Nat) ({ cls := "EpochTree$EntryList", name := "append", desc := "(IIIII)V" } : Jvm.MethodName)) ∈ tb := List.mem_of_getElem? (i := 196) rfl
set_option maxRecDepth 20000 in
theorem tb_197 : (Jvm.Cond.instanceMethod ({ cls := "EpochTree$EntryList", name := "append", desc := "(IIIII)V" } : Jvm.MethodName)) ∈ tb := List.mem_of_getElem? (i := 197) rfl
set_option maxRecDepth 20000 in
theorem tb_198 : (Jvm.Cond.code ({ cls := "EpochTree$EntryList", name := "append", desc := "(IIIII)V" } : Jvm.MethodName) prog_2_method_5_code (6 : Nat) (Option.none : Option Jvm.ClassFile.FieldType)) ∈ tb := List.mem_of_getElem? (i := 198) rfl
set_option maxRecDepth 20000 in
theorem tb_199 : (Jvm.Cond.methodLink "EpochTree$EntryList" (35 : Nat) ({ cls := "EpochTree$EntryList", name := "isFull", desc := "()Z" } : Jvm.MethodName)) ∈ tb := List.mem_of_getElem? (i := 199) rfl
set_option maxRecDepth 20000 in
theorem tb_200 : (Jvm.Cond.instanceMethod ({ cls := "EpochTree$EntryList", name := "isFull", desc := "()Z" } : Jvm.MethodName)) ∈ tb := List.mem_of_getElem? (i := 200) rfl
set_option maxRecDepth 20000 in
theorem tb_201 : (Jvm.Cond.code ({ cls := "EpochTree$EntryList", name := "isFull", desc := "()Z" } : Jvm.MethodName) prog_2_method_2_code (1 : Nat) (Option.some Jvm.ClassFile.FieldType.boolean)) ∈ tb := List.mem_of_getElem? (i := 201) rfl
set_option maxRecDepth 20000 in
theorem tb_202 : (Jvm.Cond.methodLink "EpochTree" (207 : Nat) ({ cls := "EpochTree", name := "sendNewLeaderToWaiting", desc := "(LEpochTree$Server;)V" } : Jvm.MethodName)) ∈ tb := List.mem_of_getElem? (i := 202) rfl
set_option maxRecDepth 20000 in
theorem tb_203 : (Jvm.Cond.instanceMethod ({ cls := "EpochTree", name := "sendNewLeaderToWaiting", desc := "(LEpochTree$Server;)V" } : Jvm.MethodName)) ∈ tb := List.mem_of_getElem? (i := 203) rfl
set_option maxRecDepth 20000 in
theorem tb_204 : (Jvm.Cond.code ({ cls := "EpochTree", name := "sendNewLeaderToWaiting", desc := "(LEpochTree$Server;)V" } : Jvm.MethodName) prog_1_method_34_code (3 : Nat) (Option.none : Option Jvm.ClassFile.FieldType)) ∈ tb := List.mem_of_getElem? (i := 204) rfl
set_option maxRecDepth 20000 in
theorem tb_205 : (Jvm.Cond.methodLink "EpochTree" (91 : Nat) ({ cls := "EpochTree", name := "readAck", desc := "(LEpochTree$Server;LEpochTree$Server;I)V" } : Jvm.MethodName)) ∈ tb := List.mem_of_getElem? (i := 205) rfl
set_option maxRecDepth 20000 in
theorem tb_206 : (Jvm.Cond.instanceMethod ({ cls := "EpochTree", name := "readAck", desc := "(LEpochTree$Server;LEpochTree$Server;I)V" } : Jvm.MethodName)) ∈ tb := List.mem_of_getElem? (i := 206) rfl
set_option maxRecDepth 20000 in
theorem tb_207 : (Jvm.Cond.code ({ cls := "EpochTree", name := "readAck", desc := "(LEpochTree$Server;LEpochTree$Server;I)V" } : Jvm.MethodName) prog_1_method_35_code (5 : Nat) (Option.none : Option Jvm.ClassFile.FieldType)) ∈ tb := List.mem_of_getElem? (i := 207) rfl
set_option maxRecDepth 20000 in
theorem tb_208 : (Jvm.Cond.methodLink "EpochTree" (223 : Nat) ({ cls := "java/util/Arrays", name := "fill", desc := "([II)V" } : Jvm.MethodName)) ∈ tb := List.mem_of_getElem? (i := 208) rfl
set_option maxRecDepth 20000 in
theorem tb_209 : (Jvm.Cond.static ({ cls := "java/util/Arrays", name := "fill", desc := "([II)V" } : Jvm.MethodName)) ∈ tb := List.mem_of_getElem? (i := 209) rfl
set_option maxRecDepth 20000 in
theorem tb_210 : (Jvm.Cond.code ({ cls := "java/util/Arrays", name := "fill", desc := "([II)V" } : Jvm.MethodName) prog_11_method_103_code (4 : Nat) (Option.none : Option Jvm.ClassFile.FieldType)) ∈ tb := List.mem_of_getElem? (i := 210) rfl
set_option maxRecDepth 20000 in
theorem tb_211 : (Jvm.Cond.instanceMethod ({ cls := "EpochTree$Server", name := "applyUpTo", desc := "(I)V" } : Jvm.MethodName)) ∈ tb := List.mem_of_getElem? (i := 211) rfl
set_option maxRecDepth 20000 in
theorem tb_212 : (Jvm.Cond.code ({ cls := "EpochTree$Server", name := "applyUpTo", desc := "(I)V" } : Jvm.MethodName) prog_5_method_2_code (4 : Nat) (Option.none : Option Jvm.ClassFile.FieldType)) ∈ tb := List.mem_of_getElem? (i := 212) rfl
set_option maxRecDepth 20000 in
theorem tb_213 : (Jvm.Cond.methodLink "EpochTree$Server" (53 : Nat) ({ cls := "java/lang/Math", name := "min", desc := "(II)I" } : Jvm.MethodName)) ∈ tb := List.mem_of_getElem? (i := 213) rfl
set_option maxRecDepth 20000 in
theorem tb_214 : (Jvm.Cond.static ({ cls := "java/lang/Math", name := "min", desc := "(II)I" } : Jvm.MethodName)) ∈ tb := List.mem_of_getElem? (i := 214) rfl
set_option maxRecDepth 20000 in
theorem tb_215 : (Jvm.Cond.code ({ cls := "java/lang/Math", name := "min", desc := "(II)I" } : Jvm.MethodName) prog_10_method_69_code (2 : Nat) (Option.some Jvm.ClassFile.FieldType.int)) ∈ tb := List.mem_of_getElem? (i := 215) rfl
set_option maxRecDepth 20000 in
theorem tb_216 : (Jvm.Cond.instanceMethod ({ cls := "EpochTree$Tree", name := "change", desc := "(IIII)I" } : Jvm.MethodName)) ∈ tb := List.mem_of_getElem? (i := 216) rfl
set_option maxRecDepth 20000 in
theorem tb_217 : (Jvm.Cond.code ({ cls := "EpochTree$Tree", name := "change", desc := "(IIII)I" } : Jvm.MethodName) prog_7_method_9_code (5 : Nat) (Option.some Jvm.ClassFile.FieldType.int)) ∈ tb := List.mem_of_getElem? (i := 217) rfl
set_option maxRecDepth 20000 in
theorem tb_218 : (Jvm.Cond.methodLink "EpochTree$Tree" (45 : Nat) ({ cls := "EpochTree$Tree", name := "create", desc := "(III)I" } : Jvm.MethodName)) ∈ tb := List.mem_of_getElem? (i := 218) rfl
set_option maxRecDepth 20000 in
theorem tb_219 : (Jvm.Cond.instanceMethod ({ cls := "EpochTree$Tree", name := "create", desc := "(III)I" } : Jvm.MethodName)) ∈ tb := List.mem_of_getElem? (i := 219) rfl
set_option maxRecDepth 20000 in
theorem tb_220 : (Jvm.Cond.code ({ cls := "EpochTree$Tree", name := "create", desc := "(III)I" } : Jvm.MethodName) prog_7_method_10_code (6 : Nat) (Option.some Jvm.ClassFile.FieldType.int)) ∈ tb := List.mem_of_getElem? (i := 220) rfl
set_option maxRecDepth 20000 in
theorem tb_221 : (Jvm.Cond.methodLink "EpochTree$Tree" (62 : Nat) ({ cls := "EpochTree$Tree", name := "isOpen", desc := "(I)Z" } : Jvm.MethodName)) ∈ tb := List.mem_of_getElem? (i := 221) rfl
set_option maxRecDepth 20000 in
theorem tb_222 : (Jvm.Cond.instanceMethod ({ cls := "EpochTree$Tree", name := "isOpen", desc := "(I)Z" } : Jvm.MethodName)) ∈ tb := List.mem_of_getElem? (i := 222) rfl
set_option maxRecDepth 20000 in
theorem tb_223 : (Jvm.Cond.code ({ cls := "EpochTree$Tree", name := "isOpen", desc := "(I)Z" } : Jvm.MethodName) prog_7_method_4_code (2 : Nat) (Option.some Jvm.ClassFile.FieldType.boolean)) ∈ tb := List.mem_of_getElem? (i := 223) rfl
set_option maxRecDepth 20000 in
theorem tb_224 : (Jvm.Cond.static ({ cls := "EpochTree", name := "isSession", desc := "(I)Z" } : Jvm.MethodName)) ∈ tb := List.mem_of_getElem? (i := 224) rfl
set_option maxRecDepth 20000 in
theorem tb_225 : (Jvm.Cond.code ({ cls := "EpochTree", name := "isSession", desc := "(I)Z" } : Jvm.MethodName) prog_1_method_23_code (1 : Nat) (Option.some Jvm.ClassFile.FieldType.boolean)) ∈ tb := List.mem_of_getElem? (i := 225) rfl
set_option maxRecDepth 20000 in
theorem tb_226 : (Jvm.Cond.methodLink "EpochTree$Tree" (39 : Nat) ({ cls := "EpochTree$Tree", name := "find", desc := "(I)I" } : Jvm.MethodName)) ∈ tb := List.mem_of_getElem? (i := 226) rfl
set_option maxRecDepth 20000 in
theorem tb_227 : (Jvm.Cond.instanceMethod ({ cls := "EpochTree$Tree", name := "find", desc := "(I)I" } : Jvm.MethodName)) ∈ tb := List.mem_of_getElem? (i := 227) rfl
set_option maxRecDepth 20000 in
theorem tb_228 : (Jvm.Cond.code ({ cls := "EpochTree$Tree", name := "find", desc := "(I)I" } : Jvm.MethodName) prog_7_method_7_code (3 : Nat) (Option.some Jvm.ClassFile.FieldType.int)) ∈ tb := List.mem_of_getElem? (i := 228) rfl
set_option maxRecDepth 20000 in
theorem tb_229 : (Jvm.Cond.methodLink "EpochTree$Tree" (65 : Nat) ({ cls := "EpochTree$Tree", name := "add", desc := "(III)V" } : Jvm.MethodName)) ∈ tb := List.mem_of_getElem? (i := 229) rfl
set_option maxRecDepth 20000 in
theorem tb_230 : (Jvm.Cond.instanceMethod ({ cls := "EpochTree$Tree", name := "add", desc := "(III)V" } : Jvm.MethodName)) ∈ tb := List.mem_of_getElem? (i := 230) rfl
set_option maxRecDepth 20000 in
theorem tb_231 : (Jvm.Cond.code ({ cls := "EpochTree$Tree", name := "add", desc := "(III)V" } : Jvm.MethodName) prog_7_method_11_code (4 : Nat) (Option.none : Option Jvm.ClassFile.FieldType)) ∈ tb := List.mem_of_getElem? (i := 231) rfl
set_option maxRecDepth 20000 in
theorem tb_232 : (Jvm.Cond.methodLink "EpochTree$Tree" (49 : Nat) ({ cls := "EpochTree$Tree", name := "set", desc := "(III)I" } : Jvm.MethodName)) ∈ tb := List.mem_of_getElem? (i := 232) rfl
set_option maxRecDepth 20000 in
theorem tb_233 : (Jvm.Cond.instanceMethod ({ cls := "EpochTree$Tree", name := "set", desc := "(III)I" } : Jvm.MethodName)) ∈ tb := List.mem_of_getElem? (i := 233) rfl
set_option maxRecDepth 20000 in
theorem tb_234 : (Jvm.Cond.code ({ cls := "EpochTree$Tree", name := "set", desc := "(III)I" } : Jvm.MethodName) prog_7_method_12_code (5 : Nat) (Option.some Jvm.ClassFile.FieldType.int)) ∈ tb := List.mem_of_getElem? (i := 234) rfl
set_option maxRecDepth 20000 in
theorem tb_235 : (Jvm.Cond.methodLink "EpochTree$Tree" (52 : Nat) ({ cls := "EpochTree$Tree", name := "delete", desc := "(II)I" } : Jvm.MethodName)) ∈ tb := List.mem_of_getElem? (i := 235) rfl
set_option maxRecDepth 20000 in
theorem tb_236 : (Jvm.Cond.instanceMethod ({ cls := "EpochTree$Tree", name := "delete", desc := "(II)I" } : Jvm.MethodName)) ∈ tb := List.mem_of_getElem? (i := 236) rfl
set_option maxRecDepth 20000 in
theorem tb_237 : (Jvm.Cond.code ({ cls := "EpochTree$Tree", name := "delete", desc := "(II)I" } : Jvm.MethodName) prog_7_method_13_code (4 : Nat) (Option.some Jvm.ClassFile.FieldType.int)) ∈ tb := List.mem_of_getElem? (i := 237) rfl
set_option maxRecDepth 20000 in
theorem tb_238 : (Jvm.Cond.methodLink "EpochTree$Tree" (42 : Nat) ({ cls := "EpochTree$Tree", name := "countChildren", desc := "(I)I" } : Jvm.MethodName)) ∈ tb := List.mem_of_getElem? (i := 238) rfl
set_option maxRecDepth 20000 in
theorem tb_239 : (Jvm.Cond.instanceMethod ({ cls := "EpochTree$Tree", name := "countChildren", desc := "(I)I" } : Jvm.MethodName)) ∈ tb := List.mem_of_getElem? (i := 239) rfl
set_option maxRecDepth 20000 in
theorem tb_240 : (Jvm.Cond.code ({ cls := "EpochTree$Tree", name := "countChildren", desc := "(I)I" } : Jvm.MethodName) prog_7_method_8_code (4 : Nat) (Option.some Jvm.ClassFile.FieldType.int)) ∈ tb := List.mem_of_getElem? (i := 240) rfl
set_option maxRecDepth 20000 in
theorem tb_241 : (Jvm.Cond.methodLink "EpochTree$Tree" (69 : Nat) ({ cls := "EpochTree$Tree", name := "remove", desc := "(I)V" } : Jvm.MethodName)) ∈ tb := List.mem_of_getElem? (i := 241) rfl
set_option maxRecDepth 20000 in
theorem tb_242 : (Jvm.Cond.instanceMethod ({ cls := "EpochTree$Tree", name := "remove", desc := "(I)V" } : Jvm.MethodName)) ∈ tb := List.mem_of_getElem? (i := 242) rfl
set_option maxRecDepth 20000 in
theorem tb_243 : (Jvm.Cond.code ({ cls := "EpochTree$Tree", name := "remove", desc := "(I)V" } : Jvm.MethodName) prog_7_method_14_code (2 : Nat) (Option.none : Option Jvm.ClassFile.FieldType)) ∈ tb := List.mem_of_getElem? (i := 243) rfl
set_option maxRecDepth 20000 in
theorem tb_244 : (Jvm.Cond.methodLink "EpochTree$Tree" (56 : Nat) ({ cls := "EpochTree$Tree", name := "open", desc := "(I)I" } : Jvm.MethodName)) ∈ tb := List.mem_of_getElem? (i := 244) rfl
set_option maxRecDepth 20000 in
theorem tb_245 : (Jvm.Cond.instanceMethod ({ cls := "EpochTree$Tree", name := "open", desc := "(I)I" } : Jvm.MethodName)) ∈ tb := List.mem_of_getElem? (i := 245) rfl
set_option maxRecDepth 20000 in
theorem tb_246 : (Jvm.Cond.code ({ cls := "EpochTree$Tree", name := "open", desc := "(I)I" } : Jvm.MethodName) prog_7_method_15_code (2 : Nat) (Option.some Jvm.ClassFile.FieldType.int)) ∈ tb := List.mem_of_getElem? (i := 246) rfl
set_option maxRecDepth 20000 in
theorem tb_247 : (Jvm.Cond.methodLink "EpochTree$Tree" (59 : Nat) ({ cls := "EpochTree$Tree", name := "close", desc := "(I)I" } : Jvm.MethodName)) ∈ tb := List.mem_of_getElem? (i := 247) rfl
set_option maxRecDepth 20000 in
theorem tb_248 : (Jvm.Cond.instanceMethod ({ cls := "EpochTree$Tree", name := "close", desc := "(I)I" } : Jvm.MethodName)) ∈ tb := List.mem_of_getElem? (i := 248) rfl
set_option maxRecDepth 20000 in
theorem tb_249 : (Jvm.Cond.code ({ cls := "EpochTree$Tree", name := "close", desc := "(I)I" } : Jvm.MethodName) prog_7_method_16_code (3 : Nat) (Option.some Jvm.ClassFile.FieldType.int)) ∈ tb := List.mem_of_getElem? (i := 249) rfl
set_option maxRecDepth 20000 in
theorem tb_250 : (Jvm.Cond.methodLink "EpochTree" (232 : Nat) ({ cls := "EpochTree", name := "sendOnTiedLinks", desc := "(LEpochTree$Server;II)V" } : Jvm.MethodName)) ∈ tb := List.mem_of_getElem? (i := 250) rfl
set_option maxRecDepth 20000 in
theorem tb_251 : (Jvm.Cond.instanceMethod ({ cls := "EpochTree", name := "sendOnTiedLinks", desc := "(LEpochTree$Server;II)V" } : Jvm.MethodName)) ∈ tb := List.mem_of_getElem? (i := 251) rfl
set_option maxRecDepth 20000 in
theorem tb_252 : (Jvm.Cond.code ({ cls := "EpochTree", name := "sendOnTiedLinks", desc := "(LEpochTree$Server;II)V" } : Jvm.MethodName) prog_1_method_36_code (5 : Nat) (Option.none : Option Jvm.ClassFile.FieldType)) ∈ tb := List.mem_of_getElem? (i := 252) rfl
set_option maxRecDepth 20000 in
theorem tb_253 : (Jvm.Cond.instanceMethod ({ cls := "EpochTree", name := "down", desc := "(I)I" } : Jvm.MethodName)) ∈ tb := List.mem_of_getElem? (i := 253) rfl
set_option maxRecDepth 20000 in
theorem tb_254 : (Jvm.Cond.selects "EpochTree" ({ cls := "EpochTree", name := "down", desc := "(I)I" } : Jvm.MethodName) ({ cls := "EpochTree", name := "down", desc := "(I)I" } : Jvm.MethodName)) ∈ tb := List.mem_of_getElem? (i := 254) rfl
set_option maxRecDepth 20000 in
theorem tb_255 : (Jvm.Cond.code ({ cls := "EpochTree", name := "down", desc := "(I)I" } : Jvm.MethodName) prog_1_method_8_code (6 : Nat) (Option.some Jvm.ClassFile.FieldType.int)) ∈ tb := List.mem_of_getElem? (i := 255) rfl
set_option maxRecDepth 20000 in
theorem tb_256 : (Jvm.Cond.methodLink "EpochTree" (97 : Nat) ({ cls := "EpochTree", name := "readNewEpoch", desc := "(II)V" } : Jvm.MethodName)) ∈ tb := List.mem_of_getElem? (i := 256) rfl
set_option maxRecDepth 20000 in
theorem tb_257 : (Jvm.Cond.instanceMethod ({ cls := "EpochTree", name := "readNewEpoch", desc := "(II)V" } : Jvm.MethodName)) ∈ tb := List.mem_of_getElem? (i := 257) rfl
set_option maxRecDepth 20000 in
theorem tb_258 : (Jvm.Cond.code ({ cls := "EpochTree", name := "readNewEpoch", desc := "(II)V" } : Jvm.MethodName) prog_1_method_37_code (5 : Nat) (Option.none : Option Jvm.ClassFile.FieldType)) ∈ tb := List.mem_of_getElem? (i := 258) rfl
set_option maxRecDepth 20000 in
theorem tb_259 : (Jvm.Cond.methodLink "EpochTree" (100 : Nat) ({ cls := "EpochTree", name := "readNewLeader", desc := "(LEpochTree$Server;I)V" } : Jvm.MethodName)) ∈ tb := List.mem_of_getElem? (i := 259) rfl
set_option maxRecDepth 20000 in
theorem tb_260 : (Jvm.Cond.instanceMethod ({ cls := "EpochTree", name := "readNewLeader", desc := "(LEpochTree$Server;I)V" } : Jvm.MethodName)) ∈ tb := List.mem_of_getElem? (i := 260) rfl
set_option maxRecDepth 20000 in
theorem tb_261 : (Jvm.Cond.code ({ cls := "EpochTree", name := "readNewLeader", desc := "(LEpochTree$Server;I)V" } : Jvm.MethodName) prog_1_method_38_code (3 : Nat) (Option.none : Option Jvm.ClassFile.FieldType)) ∈ tb := List.mem_of_getElem? (i := 261) rfl
set_option maxRecDepth 20000 in
theorem tb_262 : (Jvm.Cond.methodLink "EpochTree" (104 : Nat) ({ cls := "EpochTree", name := "readProposal", desc := "(LEpochTree$Server;I)V" } : Jvm.MethodName)) ∈ tb := List.mem_of_getElem? (i := 262) rfl
set_option maxRecDepth 20000 in
theorem tb_263 : (Jvm.Cond.instanceMethod ({ cls := "EpochTree", name := "readProposal", desc := "(LEpochTree$Server;I)V" } : Jvm.MethodName)) ∈ tb := List.mem_of_getElem? (i := 263) rfl
set_option maxRecDepth 20000 in
theorem tb_264 : (Jvm.Cond.code ({ cls := "EpochTree", name := "readProposal", desc := "(LEpochTree$Server;I)V" } : Jvm.MethodName) prog_1_method_39_code (3 : Nat) (Option.none : Option Jvm.ClassFile.FieldType)) ∈ tb := List.mem_of_getElem? (i := 264) rfl
set_option maxRecDepth 20000 in
theorem tb_265 : (Jvm.Cond.instanceMethod ({ cls := "EpochTree", name := "submit", desc := "(IIIII)I" } : Jvm.MethodName)) ∈ tb := List.mem_of_getElem? (i := 265) rfl
set_option maxRecDepth 20000 in
theorem tb_266 : (Jvm.Cond.selects "EpochTree" ({ cls := "EpochTree", name := "submit", desc := "(IIIII)I" } : Jvm.MethodName) ({ cls := "EpochTree", name := "submit", desc := "(IIIII)I" } : Jvm.MethodName)) ∈ tb := List.mem_of_getElem? (i := 266) rfl
set_option maxRecDepth 20000 in
theorem tb_267 : (Jvm.Cond.code ({ cls := "EpochTree", name := "submit", desc := "(IIIII)I" } : Jvm.MethodName) prog_1_method_9_code (7 : Nat) (Option.some Jvm.ClassFile.FieldType.int)) ∈ tb := List.mem_of_getElem? (i := 267) rfl
set_option maxRecDepth 20000 in
theorem tb_268 : (Jvm.Cond.methodLink "EpochTree" (110 : Nat) ({ cls := "EpochTree", name := "isChange", desc := "(III)Z" } : Jvm.MethodName)) ∈ tb := List.mem_of_getElem? (i := 268) rfl
set_option maxRecDepth 20000 in
theorem tb_269 : (Jvm.Cond.static ({ cls := "EpochTree", name := "isChange", desc := "(III)Z" } : Jvm.MethodName)) ∈ tb := List.mem_of_getElem? (i := 269) rfl
set_option maxRecDepth 20000 in
theorem tb_270 : (Jvm.Cond.code ({ cls := "EpochTree", name := "isChange", desc := "(III)Z" } : Jvm.MethodName) prog_1_method_25_code (3 : Nat) (Option.some Jvm.ClassFile.FieldType.boolean)) ∈ tb := List.mem_of_getElem? (i := 270) rfl
set_option maxRecDepth 20000 in
theorem tb_271 : (Jvm.Cond.methodLink "EpochTree" (175 : Nat) ({ cls := "EpochTree", name := "isNodePath", desc := "(I)Z" } : Jvm.MethodName)) ∈ tb := List.mem_of_getElem? (i := 271) rfl
set_option maxRecDepth 20000 in
theorem tb_272 : (Jvm.Cond.static ({ cls := "EpochTree", name := "isNodePath", desc := "(I)Z" } : Jvm.MethodName)) ∈ tb := List.mem_of_getElem? (i := 272) rfl
set_option maxRecDepth 20000 in
theorem tb_273 : (Jvm.Cond.code ({ cls := "EpochTree", name := "isNodePath", desc := "(I)Z" } : Jvm.MethodName) prog_1_method_24_code (2 : Nat) (Option.some Jvm.ClassFile.FieldType.boolean)) ∈ tb := List.mem_of_getElem? (i := 273) rfl
set_option maxRecDepth 20000 in
theorem tb_274 : (Jvm.Cond.methodLink "EpochTree" (139 : Nat) ({ cls := "EpochTree", name := "isSession", desc := "(I)Z" } : Jvm.MethodName)) ∈ tb := List.mem_of_getElem? (i := 274) rfl
set_option maxRecDepth 20000 in
theorem tb_275 : (Jvm.Cond.methodLink "EpochTree" (124 : Nat) ({ cls := "EpochTree", name := "makeEntry", desc := "(LEpochTree$Server;IIII)V" } : Jvm.MethodName)) ∈ tb := List.mem_of_getElem? (i := 275) rfl
set_option maxRecDepth 20000 in
theorem tb_276 : (Jvm.Cond.instanceMethod ({ cls := "EpochTree", name := "makeEntry", desc := "(LEpochTree$Server;IIII)V" } : Jvm.MethodName)) ∈ tb := List.mem_of_getElem? (i := 276) rfl
set_option maxRecDepth 20000 in
theorem tb_277 : (Jvm.Cond.code ({ cls := "EpochTree", name := "makeEntry", desc := "(LEpochTree$Server;IIII)V" } : Jvm.MethodName) prog_1_method_40_code (7 : Nat) (Option.none : Option Jvm.ClassFile.FieldType)) ∈ tb := List.mem_of_getElem? (i := 277) rfl
set_option maxRecDepth 20000 in
theorem tb_278 : (Jvm.Cond.instanceMethod ({ cls := "EpochTree", name := "tick", desc := "()I" } : Jvm.MethodName)) ∈ tb := List.mem_of_getElem? (i := 278) rfl
set_option maxRecDepth 20000 in
theorem tb_279 : (Jvm.Cond.selects "EpochTree" ({ cls := "EpochTree", name := "tick", desc := "()I" } : Jvm.MethodName) ({ cls := "EpochTree", name := "tick", desc := "()I" } : Jvm.MethodName)) ∈ tb := List.mem_of_getElem? (i := 279) rfl
set_option maxRecDepth 20000 in
theorem tb_280 : (Jvm.Cond.code ({ cls := "EpochTree", name := "tick", desc := "()I" } : Jvm.MethodName) prog_1_method_10_code (3 : Nat) (Option.some Jvm.ClassFile.FieldType.int)) ∈ tb := List.mem_of_getElem? (i := 280) rfl
set_option maxRecDepth 20000 in
theorem tb_281 : (Jvm.Cond.methodLink "EpochTree" (131 : Nat) ({ cls := "EpochTree", name := "growAges", desc := "(LEpochTree$Server;)V" } : Jvm.MethodName)) ∈ tb := List.mem_of_getElem? (i := 281) rfl
set_option maxRecDepth 20000 in
theorem tb_282 : (Jvm.Cond.static ({ cls := "EpochTree", name := "growAges", desc := "(LEpochTree$Server;)V" } : Jvm.MethodName)) ∈ tb := List.mem_of_getElem? (i := 282) rfl
set_option maxRecDepth 20000 in
theorem tb_283 : (Jvm.Cond.code ({ cls := "EpochTree", name := "growAges", desc := "(LEpochTree$Server;)V" } : Jvm.MethodName) prog_1_method_41_code (3 : Nat) (Option.none : Option Jvm.ClassFile.FieldType)) ∈ tb := List.mem_of_getElem? (i := 283) rfl
set_option maxRecDepth 20000 in
theorem tb_284 : (Jvm.Cond.methodLink "EpochTree" (246 : Nat) ({ cls := "java/lang/Math", name := "min", desc := "(II)I" } : Jvm.MethodName)) ∈ tb := List.mem_of_getElem? (i := 284) rfl
set_option maxRecDepth 20000 in
theorem tb_285 : (Jvm.Cond.methodLink "EpochTree" (135 : Nat) ({ cls := "EpochTree", name := "closeOldSessions", desc := "(LEpochTree$Server;)I" } : Jvm.MethodName)) ∈ tb := List.mem_of_getElem? (i := 285) rfl
set_option maxRecDepth 20000 in
theorem tb_286 : (Jvm.Cond.instanceMethod ({ cls := "EpochTree", name := "closeOldSessions", desc := "(LEpochTree$Server;)I" } : Jvm.MethodName)) ∈ tb := List.mem_of_getElem? (i := 286) rfl
set_option maxRecDepth 20000 in
theorem tb_287 : (Jvm.Cond.code ({ cls := "EpochTree", name := "closeOldSessions", desc := "(LEpochTree$Server;)I" } : Jvm.MethodName) prog_1_method_42_code (5 : Nat) (Option.some Jvm.ClassFile.FieldType.int)) ∈ tb := List.mem_of_getElem? (i := 287) rfl
set_option maxRecDepth 20000 in
theorem tb_288 : (Jvm.Cond.instanceMethod ({ cls := "EpochTree", name := "touch", desc := "(II)Z" } : Jvm.MethodName)) ∈ tb := List.mem_of_getElem? (i := 288) rfl
set_option maxRecDepth 20000 in
theorem tb_289 : (Jvm.Cond.selects "EpochTree" ({ cls := "EpochTree", name := "touch", desc := "(II)Z" } : Jvm.MethodName) ({ cls := "EpochTree", name := "touch", desc := "(II)Z" } : Jvm.MethodName)) ∈ tb := List.mem_of_getElem? (i := 289) rfl
set_option maxRecDepth 20000 in
theorem tb_290 : (Jvm.Cond.code ({ cls := "EpochTree", name := "touch", desc := "(II)Z" } : Jvm.MethodName) prog_1_method_11_code (4 : Nat) (Option.some Jvm.ClassFile.FieldType.boolean)) ∈ tb := List.mem_of_getElem? (i := 290) rfl
set_option maxRecDepth 20000 in
theorem tb_291 : (Jvm.Cond.instanceMethod ({ cls := "EpochTree", name := "role", desc := "(I)I" } : Jvm.MethodName)) ∈ tb := List.mem_of_getElem? (i := 291) rfl
set_option maxRecDepth 20000 in
theorem tb_292 : (Jvm.Cond.selects "EpochTree" ({ cls := "EpochTree", name := "role", desc := "(I)I" } : Jvm.MethodName) ({ cls := "EpochTree", name := "role", desc := "(I)I" } : Jvm.MethodName)) ∈ tb := List.mem_of_getElem? (i := 292) rfl
set_option maxRecDepth 20000 in
theorem tb_293 : (Jvm.Cond.code ({ cls := "EpochTree", name := "role", desc := "(I)I" } : Jvm.MethodName) prog_1_method_12_code (2 : Nat) (Option.some Jvm.ClassFile.FieldType.int)) ∈ tb := List.mem_of_getElem? (i := 293) rfl
set_option maxRecDepth 20000 in
theorem tb_294 : (Jvm.Cond.instanceMethod ({ cls := "EpochTree", name := "promise", desc := "(I)I" } : Jvm.MethodName)) ∈ tb := List.mem_of_getElem? (i := 294) rfl
set_option maxRecDepth 20000 in
theorem tb_295 : (Jvm.Cond.selects "EpochTree" ({ cls := "EpochTree", name := "promise", desc := "(I)I" } : Jvm.MethodName) ({ cls := "EpochTree", name := "promise", desc := "(I)I" } : Jvm.MethodName)) ∈ tb := List.mem_of_getElem? (i := 295) rfl
set_option maxRecDepth 20000 in
theorem tb_296 : (Jvm.Cond.code ({ cls := "EpochTree", name := "promise", desc := "(I)I" } : Jvm.MethodName) prog_1_method_13_code (2 : Nat) (Option.some Jvm.ClassFile.FieldType.int)) ∈ tb := List.mem_of_getElem? (i := 296) rfl
set_option maxRecDepth 20000 in
theorem tb_297 : (Jvm.Cond.instanceMethod ({ cls := "EpochTree", name := "epoch", desc := "(I)I" } : Jvm.MethodName)) ∈ tb := List.mem_of_getElem? (i := 297) rfl
set_option maxRecDepth 20000 in
theorem tb_298 : (Jvm.Cond.selects "EpochTree" ({ cls := "EpochTree", name := "epoch", desc := "(I)I" } : Jvm.MethodName) ({ cls := "EpochTree", name := "epoch", desc := "(I)I" } : Jvm.MethodName)) ∈ tb := List.mem_of_getElem? (i := 298) rfl
set_option maxRecDepth 20000 in
theorem tb_299 : (Jvm.Cond.code ({ cls := "EpochTree", name := "epoch", desc := "(I)I" } : Jvm.MethodName) prog_1_method_14_code (2 : Nat) (Option.some Jvm.ClassFile.FieldType.int)) ∈ tb := List.mem_of_getElem? (i := 299) rfl
set_option maxRecDepth 20000 in
theorem tb_300 : (Jvm.Cond.instanceMethod ({ cls := "EpochTree", name := "length", desc := "(I)I" } : Jvm.MethodName)) ∈ tb := List.mem_of_getElem? (i := 300) rfl
set_option maxRecDepth 20000 in
theorem tb_301 : (Jvm.Cond.selects "EpochTree" ({ cls := "EpochTree", name := "length", desc := "(I)I" } : Jvm.MethodName) ({ cls := "EpochTree", name := "length", desc := "(I)I" } : Jvm.MethodName)) ∈ tb := List.mem_of_getElem? (i := 301) rfl
set_option maxRecDepth 20000 in
theorem tb_302 : (Jvm.Cond.code ({ cls := "EpochTree", name := "length", desc := "(I)I" } : Jvm.MethodName) prog_1_method_15_code (2 : Nat) (Option.some Jvm.ClassFile.FieldType.int)) ∈ tb := List.mem_of_getElem? (i := 302) rfl
set_option maxRecDepth 20000 in
theorem tb_303 : (Jvm.Cond.instanceMethod ({ cls := "EpochTree", name := "mark", desc := "(II)I" } : Jvm.MethodName)) ∈ tb := List.mem_of_getElem? (i := 303) rfl
set_option maxRecDepth 20000 in
theorem tb_304 : (Jvm.Cond.selects "EpochTree" ({ cls := "EpochTree", name := "mark", desc := "(II)I" } : Jvm.MethodName) ({ cls := "EpochTree", name := "mark", desc := "(II)I" } : Jvm.MethodName)) ∈ tb := List.mem_of_getElem? (i := 304) rfl
set_option maxRecDepth 20000 in
theorem tb_305 : (Jvm.Cond.code ({ cls := "EpochTree", name := "mark", desc := "(II)I" } : Jvm.MethodName) prog_1_method_16_code (3 : Nat) (Option.some Jvm.ClassFile.FieldType.int)) ∈ tb := List.mem_of_getElem? (i := 305) rfl
set_option maxRecDepth 20000 in
theorem tb_306 : (Jvm.Cond.instanceMethod ({ cls := "EpochTree", name := "applied", desc := "(I)I" } : Jvm.MethodName)) ∈ tb := List.mem_of_getElem? (i := 306) rfl
set_option maxRecDepth 20000 in
theorem tb_307 : (Jvm.Cond.selects "EpochTree" ({ cls := "EpochTree", name := "applied", desc := "(I)I" } : Jvm.MethodName) ({ cls := "EpochTree", name := "applied", desc := "(I)I" } : Jvm.MethodName)) ∈ tb := List.mem_of_getElem? (i := 307) rfl
set_option maxRecDepth 20000 in
theorem tb_308 : (Jvm.Cond.code ({ cls := "EpochTree", name := "applied", desc := "(I)I" } : Jvm.MethodName) prog_1_method_17_code (2 : Nat) (Option.some Jvm.ClassFile.FieldType.int)) ∈ tb := List.mem_of_getElem? (i := 308) rfl
set_option maxRecDepth 20000 in
theorem tb_309 : (Jvm.Cond.instanceMethod ({ cls := "EpochTree", name := "result", desc := "(II)I" } : Jvm.MethodName)) ∈ tb := List.mem_of_getElem? (i := 309) rfl
set_option maxRecDepth 20000 in
theorem tb_310 : (Jvm.Cond.selects "EpochTree" ({ cls := "EpochTree", name := "result", desc := "(II)I" } : Jvm.MethodName) ({ cls := "EpochTree", name := "result", desc := "(II)I" } : Jvm.MethodName)) ∈ tb := List.mem_of_getElem? (i := 310) rfl
set_option maxRecDepth 20000 in
theorem tb_311 : (Jvm.Cond.code ({ cls := "EpochTree", name := "result", desc := "(II)I" } : Jvm.MethodName) prog_1_method_18_code (3 : Nat) (Option.some Jvm.ClassFile.FieldType.int)) ∈ tb := List.mem_of_getElem? (i := 311) rfl
set_option maxRecDepth 20000 in
theorem tb_312 : (Jvm.Cond.instanceMethod ({ cls := "EpochTree", name := "node", desc := "(III)I" } : Jvm.MethodName)) ∈ tb := List.mem_of_getElem? (i := 312) rfl
set_option maxRecDepth 20000 in
theorem tb_313 : (Jvm.Cond.selects "EpochTree" ({ cls := "EpochTree", name := "node", desc := "(III)I" } : Jvm.MethodName) ({ cls := "EpochTree", name := "node", desc := "(III)I" } : Jvm.MethodName)) ∈ tb := List.mem_of_getElem? (i := 313) rfl
set_option maxRecDepth 20000 in
theorem tb_314 : (Jvm.Cond.code ({ cls := "EpochTree", name := "node", desc := "(III)I" } : Jvm.MethodName) prog_1_method_19_code (4 : Nat) (Option.some Jvm.ClassFile.FieldType.int)) ∈ tb := List.mem_of_getElem? (i := 314) rfl
set_option maxRecDepth 20000 in
theorem tb_315 : (Jvm.Cond.instanceMethod ({ cls := "EpochTree$Tree", name := "look", desc := "(II)I" } : Jvm.MethodName)) ∈ tb := List.mem_of_getElem? (i := 315) rfl
set_option maxRecDepth 20000 in
theorem tb_316 : (Jvm.Cond.code ({ cls := "EpochTree$Tree", name := "look", desc := "(II)I" } : Jvm.MethodName) prog_7_method_5_code (4 : Nat) (Option.some Jvm.ClassFile.FieldType.int)) ∈ tb := List.mem_of_getElem? (i := 316) rfl
set_option maxRecDepth 20000 in
theorem tb_317 : (Jvm.Cond.methodLink "EpochTree$Tree" (35 : Nat) ({ cls := "EpochTree$Tree", name := "lookAtRoot", desc := "(I)I" } : Jvm.MethodName)) ∈ tb := List.mem_of_getElem? (i := 317) rfl
set_option maxRecDepth 20000 in
theorem tb_318 : (Jvm.Cond.instanceMethod ({ cls := "EpochTree$Tree", name := "lookAtRoot", desc := "(I)I" } : Jvm.MethodName)) ∈ tb := List.mem_of_getElem? (i := 318) rfl
set_option maxRecDepth 20000 in
theorem tb_319 : (Jvm.Cond.code ({ cls := "EpochTree$Tree", name := "lookAtRoot", desc := "(I)I" } : Jvm.MethodName) prog_7_method_6_code (2 : Nat) (Option.some Jvm.ClassFile.FieldType.int)) ∈ tb := List.mem_of_getElem? (i := 319) rfl
set_option maxRecDepth 20000 in
theorem tb_320 : (Jvm.Cond.instanceMethod ({ cls := "EpochTree", name := "tree", desc := "(I)I" } : Jvm.MethodName)) ∈ tb := List.mem_of_getElem? (i := 320) rfl
set_option maxRecDepth 20000 in
theorem tb_321 : (Jvm.Cond.selects "EpochTree" ({ cls := "EpochTree", name := "tree", desc := "(I)I" } : Jvm.MethodName) ({ cls := "EpochTree", name := "tree", desc := "(I)I" } : Jvm.MethodName)) ∈ tb := List.mem_of_getElem? (i := 321) rfl
set_option maxRecDepth 20000 in
theorem tb_322 : (Jvm.Cond.code ({ cls := "EpochTree", name := "tree", desc := "(I)I" } : Jvm.MethodName) prog_1_method_20_code (2 : Nat) (Option.some Jvm.ClassFile.FieldType.int)) ∈ tb := List.mem_of_getElem? (i := 322) rfl
set_option maxRecDepth 20000 in
theorem tb_323 : (Jvm.Cond.instanceMethod ({ cls := "EpochTree$Tree", name := "summary", desc := "()I" } : Jvm.MethodName)) ∈ tb := List.mem_of_getElem? (i := 323) rfl
set_option maxRecDepth 20000 in
theorem tb_324 : (Jvm.Cond.code ({ cls := "EpochTree$Tree", name := "summary", desc := "()I" } : Jvm.MethodName) prog_7_method_3_code (1 : Nat) (Option.some Jvm.ClassFile.FieldType.int)) ∈ tb := List.mem_of_getElem? (i := 324) rfl
set_option maxRecDepth 20000 in
theorem tb_325 : (Jvm.Cond.instanceMethod ({ cls := "EpochTree", name := "waiting", desc := "(IZ)I" } : Jvm.MethodName)) ∈ tb := List.mem_of_getElem? (i := 325) rfl
set_option maxRecDepth 20000 in
theorem tb_326 : (Jvm.Cond.selects "EpochTree" ({ cls := "EpochTree", name := "waiting", desc := "(IZ)I" } : Jvm.MethodName) ({ cls := "EpochTree", name := "waiting", desc := "(IZ)I" } : Jvm.MethodName)) ∈ tb := List.mem_of_getElem? (i := 326) rfl
set_option maxRecDepth 20000 in
theorem tb_327 : (Jvm.Cond.code ({ cls := "EpochTree", name := "waiting", desc := "(IZ)I" } : Jvm.MethodName) prog_1_method_21_code (4 : Nat) (Option.some Jvm.ClassFile.FieldType.int)) ∈ tb := List.mem_of_getElem? (i := 327) rfl
set_option maxRecDepth 20000 in
theorem tb_328 : (Jvm.Cond.instantiable "EpochTreeModel" (33 : Nat)) ∈ tb := List.mem_of_getElem? (i := 328) rfl
set_option maxRecDepth 20000 in
theorem tb_329 : (Jvm.Cond.instanceMethod ({ cls := "EpochTreeModel", name := "<init>", desc := "()V" } : Jvm.MethodName)) ∈ tb := List.mem_of_getElem? (i := 329) rfl
set_option maxRecDepth 20000 in
theorem tb_330 : (Jvm.Cond.code ({ cls := "EpochTreeModel", name := "<init>", desc := "()V" } : Jvm.MethodName) prog_9_method_1_code (2 : Nat) (Option.none : Option Jvm.ClassFile.FieldType)) ∈ tb := List.mem_of_getElem? (i := 330) rfl
set_option maxRecDepth 20000 in
theorem tb_331 : (Jvm.Cond.methodLink "EpochTreeModel" (1 : Nat) ({ cls := "java/lang/Object", name := "<init>", desc := "()V" } : Jvm.MethodName)) ∈ tb := List.mem_of_getElem? (i := 331) rfl
set_option maxRecDepth 20000 in
theorem tb_332 : (Jvm.Cond.fieldLink "EpochTreeModel" (7 : Nat) "EpochTreeModel" "role" "[I") ∈ tb := List.mem_of_getElem? (i := 332) rfl
set_option maxRecDepth 20000 in
theorem tb_333 : (Jvm.Cond.fieldLink "EpochTreeModel" (13 : Nat) "EpochTreeModel" "promise" "[I") ∈ tb := List.mem_of_getElem? (i := 333) rfl
set_option maxRecDepth 20000 in
theorem tb_334 : (Jvm.Cond.fieldLink "EpochTreeModel" (16 : Nat) "EpochTreeModel" "epoch" "[I") ∈ tb := List.mem_of_getElem? (i := 334) rfl
set_option maxRecDepth 20000 in
theorem tb_335 : (Jvm.Cond.fieldLink "EpochTreeModel" (19 : Nat) "EpochTreeModel" "applied" "[I") ∈ tb := List.mem_of_getElem? (i := 335) rfl
set_option maxRecDepth 20000 in
theorem tb_336 : (Jvm.Cond.fieldLink "EpochTreeModel" (22 : Nat) "EpochTreeModel" "length" "[I") ∈ tb := List.mem_of_getElem? (i := 336) rfl
set_option maxRecDepth 20000 in
theorem tb_337 : (Jvm.Cond.fieldLink "EpochTreeModel" (25 : Nat) "EpochTreeModel" "mark" "[I") ∈ tb := List.mem_of_getElem? (i := 337) rfl
set_option maxRecDepth 20000 in
theorem tb_338 : (Jvm.Cond.fieldLink "EpochTreeModel" (28 : Nat) "EpochTreeModel" "kind" "[I") ∈ tb := List.mem_of_getElem? (i := 338) rfl
set_option maxRecDepth 20000 in
theorem tb_339 : (Jvm.Cond.fieldLink "EpochTreeModel" (31 : Nat) "EpochTreeModel" "path" "[I") ∈ tb := List.mem_of_getElem? (i := 339) rfl
set_option maxRecDepth 20000 in
theorem tb_340 : (Jvm.Cond.fieldLink "EpochTreeModel" (34 : Nat) "EpochTreeModel" "first" "[I") ∈ tb := List.mem_of_getElem? (i := 340) rfl
set_option maxRecDepth 20000 in
theorem tb_341 : (Jvm.Cond.fieldLink "EpochTreeModel" (37 : Nat) "EpochTreeModel" "second" "[I") ∈ tb := List.mem_of_getElem? (i := 341) rfl
set_option maxRecDepth 20000 in
theorem tb_342 : (Jvm.Cond.fieldLink "EpochTreeModel" (40 : Nat) "EpochTreeModel" "chosen" "[I") ∈ tb := List.mem_of_getElem? (i := 342) rfl
set_option maxRecDepth 20000 in
theorem tb_343 : (Jvm.Cond.fieldLink "EpochTreeModel" (43 : Nat) "EpochTreeModel" "settled" "[Z") ∈ tb := List.mem_of_getElem? (i := 343) rfl
set_option maxRecDepth 20000 in
theorem tb_344 : (Jvm.Cond.fieldLink "EpochTreeModel" (47 : Nat) "EpochTreeModel" "made" "[I") ∈ tb := List.mem_of_getElem? (i := 344) rfl
set_option maxRecDepth 20000 in
theorem tb_345 : (Jvm.Cond.fieldLink "EpochTreeModel" (50 : Nat) "EpochTreeModel" "age" "[I") ∈ tb := List.mem_of_getElem? (i := 345) rfl
set_option maxRecDepth 20000 in
theorem tb_346 : (Jvm.Cond.fieldLink "EpochTreeModel" (53 : Nat) "EpochTreeModel" "leader" "[I") ∈ tb := List.mem_of_getElem? (i := 346) rfl
set_option maxRecDepth 20000 in
theorem tb_347 : (Jvm.Cond.fieldLink "EpochTreeModel" (56 : Nat) "EpochTreeModel" "waits" "[Z") ∈ tb := List.mem_of_getElem? (i := 347) rfl
set_option maxRecDepth 20000 in
theorem tb_348 : (Jvm.Cond.fieldLink "EpochTreeModel" (59 : Nat) "EpochTreeModel" "tied" "[Z") ∈ tb := List.mem_of_getElem? (i := 348) rfl
set_option maxRecDepth 20000 in
theorem tb_349 : (Jvm.Cond.fieldLink "EpochTreeModel" (62 : Nat) "EpochTreeModel" "heard" "[Z") ∈ tb := List.mem_of_getElem? (i := 349) rfl
set_option maxRecDepth 20000 in
theorem tb_350 : (Jvm.Cond.fieldLink "EpochTreeModel" (65 : Nat) "EpochTreeModel" "upKind" "[I") ∈ tb := List.mem_of_getElem? (i := 350) rfl
set_option maxRecDepth 20000 in
theorem tb_351 : (Jvm.Cond.fieldLink "EpochTreeModel" (68 : Nat) "EpochTreeModel" "upValue" "[I") ∈ tb := List.mem_of_getElem? (i := 351) rfl
set_option maxRecDepth 20000 in
theorem tb_352 : (Jvm.Cond.fieldLink "EpochTreeModel" (71 : Nat) "EpochTreeModel" "upSent" "[I") ∈ tb := List.mem_of_getElem? (i := 352) rfl
set_option maxRecDepth 20000 in
theorem tb_353 : (Jvm.Cond.fieldLink "EpochTreeModel" (74 : Nat) "EpochTreeModel" "upRead" "[I") ∈ tb := List.mem_of_getElem? (i := 353) rfl
set_option maxRecDepth 20000 in
theorem tb_354 : (Jvm.Cond.fieldLink "EpochTreeModel" (77 : Nat) "EpochTreeModel" "downKind" "[I") ∈ tb := List.mem_of_getElem? (i := 354) rfl
set_option maxRecDepth 20000 in
theorem tb_355 : (Jvm.Cond.fieldLink "EpochTreeModel" (80 : Nat) "EpochTreeModel" "downValue" "[I") ∈ tb := List.mem_of_getElem? (i := 355) rfl
set_option maxRecDepth 20000 in
theorem tb_356 : (Jvm.Cond.fieldLink "EpochTreeModel" (83 : Nat) "EpochTreeModel" "downSent" "[I") ∈ tb := List.mem_of_getElem? (i := 356) rfl
set_option maxRecDepth 20000 in
theorem tb_357 : (Jvm.Cond.fieldLink "EpochTreeModel" (86 : Nat) "EpochTreeModel" "downRead" "[I") ∈ tb := List.mem_of_getElem? (i := 357) rfl
set_option maxRecDepth 20000 in
theorem tb_358 : (Jvm.Cond.fieldLink "EpochTreeModel" (107 : Nat) "EpochTreeModel" "nodes" "I") ∈ tb := List.mem_of_getElem? (i := 358) rfl
set_option maxRecDepth 20000 in
theorem tb_359 : (Jvm.Cond.fieldLink "EpochTreeModel" (89 : Nat) "EpochTreeModel" "nodePath" "[I") ∈ tb := List.mem_of_getElem? (i := 359) rfl
set_option maxRecDepth 20000 in
theorem tb_360 : (Jvm.Cond.fieldLink "EpochTreeModel" (92 : Nat) "EpochTreeModel" "nodeData" "[I") ∈ tb := List.mem_of_getElem? (i := 360) rfl
set_option maxRecDepth 20000 in
theorem tb_361 : (Jvm.Cond.fieldLink "EpochTreeModel" (95 : Nat) "EpochTreeModel" "nodeVersion" "[I") ∈ tb := List.mem_of_getElem? (i := 361) rfl
set_option maxRecDepth 20000 in
theorem tb_362 : (Jvm.Cond.fieldLink "EpochTreeModel" (98 : Nat) "EpochTreeModel" "nodeOwner" "[I") ∈ tb := List.mem_of_getElem? (i := 362) rfl
set_option maxRecDepth 20000 in
theorem tb_363 : (Jvm.Cond.fieldLink "EpochTreeModel" (101 : Nat) "EpochTreeModel" "open" "[Z") ∈ tb := List.mem_of_getElem? (i := 363) rfl
set_option maxRecDepth 20000 in
theorem tb_364 : (Jvm.Cond.fieldLink "EpochTreeModel" (104 : Nat) "EpochTreeModel" "results" "[I") ∈ tb := List.mem_of_getElem? (i := 364) rfl
set_option maxRecDepth 20000 in
theorem tb_365 : (Jvm.Cond.laysFinal "EpochTreeModel" "EpochTreeModel" "role" "[I") ∈ tb := List.mem_of_getElem? (i := 365) rfl
set_option maxRecDepth 20000 in
theorem tb_366 : (Jvm.Cond.laysFinal "EpochTreeModel" "EpochTreeModel" "promise" "[I") ∈ tb := List.mem_of_getElem? (i := 366) rfl
set_option maxRecDepth 20000 in
theorem tb_367 : (Jvm.Cond.laysFinal "EpochTreeModel" "EpochTreeModel" "epoch" "[I") ∈ tb := List.mem_of_getElem? (i := 367) rfl
set_option maxRecDepth 20000 in
theorem tb_368 : (Jvm.Cond.laysFinal "EpochTreeModel" "EpochTreeModel" "applied" "[I") ∈ tb := List.mem_of_getElem? (i := 368) rfl
set_option maxRecDepth 20000 in
theorem tb_369 : (Jvm.Cond.laysFinal "EpochTreeModel" "EpochTreeModel" "length" "[I") ∈ tb := List.mem_of_getElem? (i := 369) rfl
set_option maxRecDepth 20000 in
theorem tb_370 : (Jvm.Cond.laysFinal "EpochTreeModel" "EpochTreeModel" "mark" "[I") ∈ tb := List.mem_of_getElem? (i := 370) rfl
set_option maxRecDepth 20000 in
theorem tb_371 : (Jvm.Cond.laysFinal "EpochTreeModel" "EpochTreeModel" "kind" "[I") ∈ tb := List.mem_of_getElem? (i := 371) rfl
set_option maxRecDepth 20000 in
theorem tb_372 : (Jvm.Cond.laysFinal "EpochTreeModel" "EpochTreeModel" "path" "[I") ∈ tb := List.mem_of_getElem? (i := 372) rfl
set_option maxRecDepth 20000 in
theorem tb_373 : (Jvm.Cond.laysFinal "EpochTreeModel" "EpochTreeModel" "first" "[I") ∈ tb := List.mem_of_getElem? (i := 373) rfl
set_option maxRecDepth 20000 in
theorem tb_374 : (Jvm.Cond.laysFinal "EpochTreeModel" "EpochTreeModel" "second" "[I") ∈ tb := List.mem_of_getElem? (i := 374) rfl
set_option maxRecDepth 20000 in
theorem tb_375 : (Jvm.Cond.laysFinal "EpochTreeModel" "EpochTreeModel" "chosen" "[I") ∈ tb := List.mem_of_getElem? (i := 375) rfl
set_option maxRecDepth 20000 in
theorem tb_376 : (Jvm.Cond.laysFinal "EpochTreeModel" "EpochTreeModel" "settled" "[Z") ∈ tb := List.mem_of_getElem? (i := 376) rfl
set_option maxRecDepth 20000 in
theorem tb_377 : (Jvm.Cond.laysFinal "EpochTreeModel" "EpochTreeModel" "made" "[I") ∈ tb := List.mem_of_getElem? (i := 377) rfl
set_option maxRecDepth 20000 in
theorem tb_378 : (Jvm.Cond.laysFinal "EpochTreeModel" "EpochTreeModel" "age" "[I") ∈ tb := List.mem_of_getElem? (i := 378) rfl
set_option maxRecDepth 20000 in
theorem tb_379 : (Jvm.Cond.laysFinal "EpochTreeModel" "EpochTreeModel" "leader" "[I") ∈ tb := List.mem_of_getElem? (i := 379) rfl
set_option maxRecDepth 20000 in
theorem tb_380 : (Jvm.Cond.laysFinal "EpochTreeModel" "EpochTreeModel" "waits" "[Z") ∈ tb := List.mem_of_getElem? (i := 380) rfl
set_option maxRecDepth 20000 in
theorem tb_381 : (Jvm.Cond.laysFinal "EpochTreeModel" "EpochTreeModel" "tied" "[Z") ∈ tb := List.mem_of_getElem? (i := 381) rfl
set_option maxRecDepth 20000 in
theorem tb_382 : (Jvm.Cond.laysFinal "EpochTreeModel" "EpochTreeModel" "heard" "[Z") ∈ tb := List.mem_of_getElem? (i := 382) rfl
set_option maxRecDepth 20000 in
theorem tb_383 : (Jvm.Cond.laysFinal "EpochTreeModel" "EpochTreeModel" "upKind" "[I") ∈ tb := List.mem_of_getElem? (i := 383) rfl
set_option maxRecDepth 20000 in
theorem tb_384 : (Jvm.Cond.laysFinal "EpochTreeModel" "EpochTreeModel" "upValue" "[I") ∈ tb := List.mem_of_getElem? (i := 384) rfl
set_option maxRecDepth 20000 in
theorem tb_385 : (Jvm.Cond.laysFinal "EpochTreeModel" "EpochTreeModel" "upSent" "[I") ∈ tb := List.mem_of_getElem? (i := 385) rfl
set_option maxRecDepth 20000 in
theorem tb_386 : (Jvm.Cond.laysFinal "EpochTreeModel" "EpochTreeModel" "upRead" "[I") ∈ tb := List.mem_of_getElem? (i := 386) rfl
set_option maxRecDepth 20000 in
theorem tb_387 : (Jvm.Cond.laysFinal "EpochTreeModel" "EpochTreeModel" "downKind" "[I") ∈ tb := List.mem_of_getElem? (i := 387) rfl
set_option maxRecDepth 20000 in
theorem tb_388 : (Jvm.Cond.laysFinal "EpochTreeModel" "EpochTreeModel" "downValue" "[I") ∈ tb := List.mem_of_getElem? (i := 388) rfl
set_option maxRecDepth 20000 in
theorem tb_389 : (Jvm.Cond.laysFinal "EpochTreeModel" "EpochTreeModel" "downSent" "[I") ∈ tb := List.mem_of_getElem? (i := 389) rfl
set_option maxRecDepth 20000 in
theorem tb_390 : (Jvm.Cond.laysFinal "EpochTreeModel" "EpochTreeModel" "downRead" "[I") ∈ tb := List.mem_of_getElem? (i := 390) rfl
set_option maxRecDepth 20000 in
theorem tb_391 : (Jvm.Cond.lays "EpochTreeModel" "EpochTreeModel" "nodes" "I") ∈ tb := List.mem_of_getElem? (i := 391) rfl
set_option maxRecDepth 20000 in
theorem tb_392 : (Jvm.Cond.laysFinal "EpochTreeModel" "EpochTreeModel" "nodePath" "[I") ∈ tb := List.mem_of_getElem? (i := 392) rfl
set_option maxRecDepth 20000 in
theorem tb_393 : (Jvm.Cond.laysFinal "EpochTreeModel" "EpochTreeModel" "nodeData" "[I") ∈ tb := List.mem_of_getElem? (i := 393) rfl
set_option maxRecDepth 20000 in
theorem tb_394 : (Jvm.Cond.laysFinal "EpochTreeModel" "EpochTreeModel" "nodeVersion" "[I") ∈ tb := List.mem_of_getElem? (i := 394) rfl
set_option maxRecDepth 20000 in
theorem tb_395 : (Jvm.Cond.laysFinal "EpochTreeModel" "EpochTreeModel" "nodeOwner" "[I") ∈ tb := List.mem_of_getElem? (i := 395) rfl
set_option maxRecDepth 20000 in
theorem tb_396 : (Jvm.Cond.laysFinal "EpochTreeModel" "EpochTreeModel" "open" "[Z") ∈ tb := List.mem_of_getElem? (i := 396) rfl
set_option maxRecDepth 20000 in
theorem tb_397 : (Jvm.Cond.laysFinal "EpochTreeModel" "EpochTreeModel" "results" "[I") ∈ tb := List.mem_of_getElem? (i := 397) rfl
set_option maxRecDepth 20000 in
theorem tb_398 : (Jvm.Cond.arrayClass Jvm.ClassFile.FieldType.boolean) ∈ tb := List.mem_of_getElem? (i := 398) rfl
set_option maxRecDepth 20000 in
theorem tb_399 : (Jvm.Cond.instanceMethod ({ cls := "EpochTreeModel", name := "lead", desc := "(I)Z" } : Jvm.MethodName)) ∈ tb := List.mem_of_getElem? (i := 399) rfl
set_option maxRecDepth 20000 in
theorem tb_400 : (Jvm.Cond.selects "EpochTreeModel" ({ cls := "EpochTreeModel", name := "lead", desc := "(I)Z" } : Jvm.MethodName) ({ cls := "EpochTreeModel", name := "lead", desc := "(I)Z" } : Jvm.MethodName)) ∈ tb := List.mem_of_getElem? (i := 400) rfl
set_option maxRecDepth 20000 in
theorem tb_401 : (Jvm.Cond.code ({ cls := "EpochTreeModel", name := "lead", desc := "(I)Z" } : Jvm.MethodName) prog_9_method_12_code (2 : Nat) (Option.some Jvm.ClassFile.FieldType.boolean)) ∈ tb := List.mem_of_getElem? (i := 401) rfl
set_option maxRecDepth 20000 in
theorem tb_402 : (Jvm.Cond.methodLink "EpochTreeModel" (138 : Nat) ({ cls := "EpochTreeModel", name := "out", desc := "(I)Z" } : Jvm.MethodName)) ∈ tb := List.mem_of_getElem? (i := 402) rfl
set_option maxRecDepth 20000 in
theorem tb_403 : (Jvm.Cond.static ({ cls := "EpochTreeModel", name := "out", desc := "(I)Z" } : Jvm.MethodName)) ∈ tb := List.mem_of_getElem? (i := 403) rfl
set_option maxRecDepth 20000 in
theorem tb_404 : (Jvm.Cond.code ({ cls := "EpochTreeModel", name := "out", desc := "(I)Z" } : Jvm.MethodName) prog_9_method_2_code (1 : Nat) (Option.some Jvm.ClassFile.FieldType.boolean)) ∈ tb := List.mem_of_getElem? (i := 404) rfl
set_option maxRecDepth 20000 in
theorem tb_405 : (Jvm.Cond.instanceMethod ({ cls := "EpochTreeModel", name := "follow", desc := "(II)Z" } : Jvm.MethodName)) ∈ tb := List.mem_of_getElem? (i := 405) rfl
set_option maxRecDepth 20000 in
theorem tb_406 : (Jvm.Cond.selects "EpochTreeModel" ({ cls := "EpochTreeModel", name := "follow", desc := "(II)Z" } : Jvm.MethodName) ({ cls := "EpochTreeModel", name := "follow", desc := "(II)Z" } : Jvm.MethodName)) ∈ tb := List.mem_of_getElem? (i := 406) rfl
set_option maxRecDepth 20000 in
theorem tb_407 : (Jvm.Cond.code ({ cls := "EpochTreeModel", name := "follow", desc := "(II)Z" } : Jvm.MethodName) prog_9_method_13_code (3 : Nat) (Option.some Jvm.ClassFile.FieldType.boolean)) ∈ tb := List.mem_of_getElem? (i := 407) rfl
set_option maxRecDepth 20000 in
theorem tb_408 : (Jvm.Cond.methodLink "EpochTreeModel" (134 : Nat) ({ cls := "EpochTreeModel", name := "cut", desc := "(I)V" } : Jvm.MethodName)) ∈ tb := List.mem_of_getElem? (i := 408) rfl
set_option maxRecDepth 20000 in
theorem tb_409 : (Jvm.Cond.instanceMethod ({ cls := "EpochTreeModel", name := "cut", desc := "(I)V" } : Jvm.MethodName)) ∈ tb := List.mem_of_getElem? (i := 409) rfl
set_option maxRecDepth 20000 in
theorem tb_410 : (Jvm.Cond.code ({ cls := "EpochTreeModel", name := "cut", desc := "(I)V" } : Jvm.MethodName) prog_9_method_9_code (2 : Nat) (Option.none : Option Jvm.ClassFile.FieldType)) ∈ tb := List.mem_of_getElem? (i := 410) rfl
set_option maxRecDepth 20000 in
theorem tb_411 : (Jvm.Cond.methodLink "EpochTreeModel" (142 : Nat) ({ cls := "EpochTreeModel", name := "sendUp", desc := "(III)V" } : Jvm.MethodName)) ∈ tb := List.mem_of_getElem? (i := 411) rfl
set_option maxRecDepth 20000 in
theorem tb_412 : (Jvm.Cond.instanceMethod ({ cls := "EpochTreeModel", name := "sendUp", desc := "(III)V" } : Jvm.MethodName)) ∈ tb := List.mem_of_getElem? (i := 412) rfl
set_option maxRecDepth 20000 in
theorem tb_413 : (Jvm.Cond.code ({ cls := "EpochTreeModel", name := "sendUp", desc := "(III)V" } : Jvm.MethodName) prog_9_method_17_code (5 : Nat) (Option.none : Option Jvm.ClassFile.FieldType)) ∈ tb := List.mem_of_getElem? (i := 413) rfl
set_option maxRecDepth 20000 in
theorem tb_414 : (Jvm.Cond.instanceMethod ({ cls := "EpochTreeModel", name := "quit", desc := "(I)Z" } : Jvm.MethodName)) ∈ tb := List.mem_of_getElem? (i := 414) rfl
set_option maxRecDepth 20000 in
theorem tb_415 : (Jvm.Cond.selects "EpochTreeModel" ({ cls := "EpochTreeModel", name := "quit", desc := "(I)Z" } : Jvm.MethodName) ({ cls := "EpochTreeModel", name := "quit", desc := "(I)Z" } : Jvm.MethodName)) ∈ tb := List.mem_of_getElem? (i := 415) rfl
set_option maxRecDepth 20000 in
theorem tb_416 : (Jvm.Cond.code ({ cls := "EpochTreeModel", name := "quit", desc := "(I)Z" } : Jvm.MethodName) prog_9_method_14_code (2 : Nat) (Option.some Jvm.ClassFile.FieldType.boolean)) ∈ tb := List.mem_of_getElem? (i := 416) rfl
set_option maxRecDepth 20000 in
theorem tb_417 : (Jvm.Cond.methodLink "EpochTreeModel" (146 : Nat) ({ cls := "EpochTreeModel", name := "cease", desc := "(I)V" } : Jvm.MethodName)) ∈ tb := List.mem_of_getElem? (i := 417) rfl
set_option maxRecDepth 20000 in
theorem tb_418 : (Jvm.Cond.instanceMethod ({ cls := "EpochTreeModel", name := "cease", desc := "(I)V" } : Jvm.MethodName)) ∈ tb := List.mem_of_getElem? (i := 418) rfl
set_option maxRecDepth 20000 in
theorem tb_419 : (Jvm.Cond.code ({ cls := "EpochTreeModel", name := "cease", desc := "(I)V" } : Jvm.MethodName) prog_9_method_11_code (3 : Nat) (Option.none : Option Jvm.ClassFile.FieldType)) ∈ tb := List.mem_of_getElem? (i := 419) rfl
set_option maxRecDepth 20000 in
theorem tb_420 : (Jvm.Cond.methodLink "EpochTreeModel" (130 : Nat) ({ cls := "EpochTreeModel", name := "follows", desc := "(II)Z" } : Jvm.MethodName)) ∈ tb := List.mem_of_getElem? (i := 420) rfl
set_option maxRecDepth 20000 in
theorem tb_421 : (Jvm.Cond.instanceMethod ({ cls := "EpochTreeModel", name := "follows", desc := "(II)Z" } : Jvm.MethodName)) ∈ tb := List.mem_of_getElem? (i := 421) rfl
set_option maxRecDepth 20000 in
theorem tb_422 : (Jvm.Cond.code ({ cls := "EpochTreeModel", name := "follows", desc := "(II)Z" } : Jvm.MethodName) prog_9_method_10_code (3 : Nat) (Option.some Jvm.ClassFile.FieldType.boolean)) ∈ tb := List.mem_of_getElem? (i := 422) rfl
set_option maxRecDepth 20000 in
theorem tb_423 : (Jvm.Cond.instanceMethod ({ cls := "EpochTreeModel", name := "crash", desc := "(I)Z" } : Jvm.MethodName)) ∈ tb := List.mem_of_getElem? (i := 423) rfl
set_option maxRecDepth 20000 in
theorem tb_424 : (Jvm.Cond.selects "EpochTreeModel" ({ cls := "EpochTreeModel", name := "crash", desc := "(I)Z" } : Jvm.MethodName) ({ cls := "EpochTreeModel", name := "crash", desc := "(I)Z" } : Jvm.MethodName)) ∈ tb := List.mem_of_getElem? (i := 424) rfl
set_option maxRecDepth 20000 in
theorem tb_425 : (Jvm.Cond.code ({ cls := "EpochTreeModel", name := "crash", desc := "(I)Z" } : Jvm.MethodName) prog_9_method_15_code (2 : Nat) (Option.some Jvm.ClassFile.FieldType.boolean)) ∈ tb := List.mem_of_getElem? (i := 425) rfl
set_option maxRecDepth 20000 in
theorem tb_426 : (Jvm.Cond.instanceMethod ({ cls := "EpochTreeModel", name := "restart", desc := "(I)Z" } : Jvm.MethodName)) ∈ tb := List.mem_of_getElem? (i := 426) rfl
set_option maxRecDepth 20000 in
theorem tb_427 : (Jvm.Cond.selects "EpochTreeModel" ({ cls := "EpochTreeModel", name := "restart", desc := "(I)Z" } : Jvm.MethodName) ({ cls := "EpochTreeModel", name := "restart", desc := "(I)Z" } : Jvm.MethodName)) ∈ tb := List.mem_of_getElem? (i := 427) rfl
set_option maxRecDepth 20000 in
theorem tb_428 : (Jvm.Cond.code ({ cls := "EpochTreeModel", name := "restart", desc := "(I)Z" } : Jvm.MethodName) prog_9_method_16_code (2 : Nat) (Option.some Jvm.ClassFile.FieldType.boolean)) ∈ tb := List.mem_of_getElem? (i := 428) rfl
set_option maxRecDepth 20000 in
theorem tb_429 : (Jvm.Cond.instanceMethod ({ cls := "EpochTreeModel", name := "up", desc := "(I)I" } : Jvm.MethodName)) ∈ tb := List.mem_of_getElem? (i := 429) rfl
set_option maxRecDepth 20000 in
theorem tb_430 : (Jvm.Cond.selects "EpochTreeModel" ({ cls := "EpochTreeModel", name := "up", desc := "(I)I" } : Jvm.MethodName) ({ cls := "EpochTreeModel", name := "up", desc := "(I)I" } : Jvm.MethodName)) ∈ tb := List.mem_of_getElem? (i := 430) rfl
set_option maxRecDepth 20000 in
theorem tb_431 : (Jvm.Cond.code ({ cls := "EpochTreeModel", name := "up", desc := "(I)I" } : Jvm.MethodName) prog_9_method_25_code (6 : Nat) (Option.some Jvm.ClassFile.FieldType.int)) ∈ tb := List.mem_of_getElem? (i := 431) rfl
set_option maxRecDepth 20000 in
theorem tb_432 : (Jvm.Cond.methodLink "EpochTreeModel" (149 : Nat) ({ cls := "EpochTreeModel", name := "sendDown", desc := "(III)V" } : Jvm.MethodName)) ∈ tb := List.mem_of_getElem? (i := 432) rfl
set_option maxRecDepth 20000 in
theorem tb_433 : (Jvm.Cond.instanceMethod ({ cls := "EpochTreeModel", name := "sendDown", desc := "(III)V" } : Jvm.MethodName)) ∈ tb := List.mem_of_getElem? (i := 433) rfl
set_option maxRecDepth 20000 in
theorem tb_434 : (Jvm.Cond.code ({ cls := "EpochTreeModel", name := "sendDown", desc := "(III)V" } : Jvm.MethodName) prog_9_method_18_code (5 : Nat) (Option.none : Option Jvm.ClassFile.FieldType)) ∈ tb := List.mem_of_getElem? (i := 434) rfl
set_option maxRecDepth 20000 in
theorem tb_435 : (Jvm.Cond.methodLink "EpochTreeModel" (165 : Nat) ({ cls := "EpochTreeModel", name := "accepted", desc := "(IIZ)V" } : Jvm.MethodName)) ∈ tb := List.mem_of_getElem? (i := 435) rfl
set_option maxRecDepth 20000 in
theorem tb_436 : (Jvm.Cond.instanceMethod ({ cls := "EpochTreeModel", name := "accepted", desc := "(IIZ)V" } : Jvm.MethodName)) ∈ tb := List.mem_of_getElem? (i := 436) rfl
set_option maxRecDepth 20000 in
theorem tb_437 : (Jvm.Cond.code ({ cls := "EpochTreeModel", name := "accepted", desc := "(IIZ)V" } : Jvm.MethodName) prog_9_method_23_code (5 : Nat) (Option.none : Option Jvm.ClassFile.FieldType)) ∈ tb := List.mem_of_getElem? (i := 437) rfl
set_option maxRecDepth 20000 in
theorem tb_438 : (Jvm.Cond.methodLink "EpochTreeModel" (156 : Nat) ({ cls := "EpochTreeModel", name := "newLeader", desc := "(II)V" } : Jvm.MethodName)) ∈ tb := List.mem_of_getElem? (i := 438) rfl
set_option maxRecDepth 20000 in
theorem tb_439 : (Jvm.Cond.instanceMethod ({ cls := "EpochTreeModel", name := "newLeader", desc := "(II)V" } : Jvm.MethodName)) ∈ tb := List.mem_of_getElem? (i := 439) rfl
set_option maxRecDepth 20000 in
theorem tb_440 : (Jvm.Cond.code ({ cls := "EpochTreeModel", name := "newLeader", desc := "(II)V" } : Jvm.MethodName) prog_9_method_19_code (3 : Nat) (Option.none : Option Jvm.ClassFile.FieldType)) ∈ tb := List.mem_of_getElem? (i := 440) rfl
set_option maxRecDepth 20000 in
theorem tb_441 : (Jvm.Cond.methodLink "EpochTreeModel" (159 : Nat) ({ cls := "EpochTreeModel", name := "lastMark", desc := "(I)I" } : Jvm.MethodName)) ∈ tb := List.mem_of_getElem? (i := 441) rfl
set_option maxRecDepth 20000 in
theorem tb_442 : (Jvm.Cond.instanceMethod ({ cls := "EpochTreeModel", name := "lastMark", desc := "(I)I" } : Jvm.MethodName)) ∈ tb := List.mem_of_getElem? (i := 442) rfl
set_option maxRecDepth 20000 in
theorem tb_443 : (Jvm.Cond.code ({ cls := "EpochTreeModel", name := "lastMark", desc := "(I)I" } : Jvm.MethodName) prog_9_method_22_code (2 : Nat) (Option.some Jvm.ClassFile.FieldType.int)) ∈ tb := List.mem_of_getElem? (i := 443) rfl
set_option maxRecDepth 20000 in
theorem tb_444 : (Jvm.Cond.methodLink "EpochTreeModel" (162 : Nat) ({ cls := "EpochTreeModel", name := "copy", desc := "(III)V" } : Jvm.MethodName)) ∈ tb := List.mem_of_getElem? (i := 444) rfl
set_option maxRecDepth 20000 in
theorem tb_445 : (Jvm.Cond.instanceMethod ({ cls := "EpochTreeModel", name := "copy", desc := "(III)V" } : Jvm.MethodName)) ∈ tb := List.mem_of_getElem? (i := 445) rfl
set_option maxRecDepth 20000 in
theorem tb_446 : (Jvm.Cond.code ({ cls := "EpochTreeModel", name := "copy", desc := "(III)V" } : Jvm.MethodName) prog_9_method_20_code (5 : Nat) (Option.none : Option Jvm.ClassFile.FieldType)) ∈ tb := List.mem_of_getElem? (i := 446) rfl
set_option maxRecDepth 20000 in
theorem tb_447 : (Jvm.Cond.methodLink "EpochTreeModel" (152 : Nat) ({ cls := "EpochTreeModel", name := "copyEntry", desc := "(II)V" } : Jvm.MethodName)) ∈ tb := List.mem_of_getElem? (i := 447) rfl
set_option maxRecDepth 20000 in
theorem tb_448 : (Jvm.Cond.instanceMethod ({ cls := "EpochTreeModel", name := "copyEntry", desc := "(II)V" } : Jvm.MethodName)) ∈ tb := List.mem_of_getElem? (i := 448) rfl
set_option maxRecDepth 20000 in
theorem tb_449 : (Jvm.Cond.code ({ cls := "EpochTreeModel", name := "copyEntry", desc := "(II)V" } : Jvm.MethodName) prog_9_method_21_code (3 : Nat) (Option.none : Option Jvm.ClassFile.FieldType)) ∈ tb := List.mem_of_getElem? (i := 449) rfl
set_option maxRecDepth 20000 in
theorem tb_450 : (Jvm.Cond.methodLink "EpochTreeModel" (169 : Nat) ({ cls := "EpochTreeModel", name := "acknowledged", desc := "(III)V" } : Jvm.MethodName)) ∈ tb := List.mem_of_getElem? (i := 450) rfl
set_option maxRecDepth 20000 in
theorem tb_451 : (Jvm.Cond.instanceMethod ({ cls := "EpochTreeModel", name := "acknowledged", desc := "(III)V" } : Jvm.MethodName)) ∈ tb := List.mem_of_getElem? (i := 451) rfl
set_option maxRecDepth 20000 in
theorem tb_452 : (Jvm.Cond.code ({ cls := "EpochTreeModel", name := "acknowledged", desc := "(III)V" } : Jvm.MethodName) prog_9_method_24_code (6 : Nat) (Option.none : Option Jvm.ClassFile.FieldType)) ∈ tb := List.mem_of_getElem? (i := 452) rfl
set_option maxRecDepth 20000 in
theorem tb_453 : (Jvm.Cond.instanceMethod ({ cls := "EpochTreeModel", name := "down", desc := "(I)I" } : Jvm.MethodName)) ∈ tb := List.mem_of_getElem? (i := 453) rfl
set_option maxRecDepth 20000 in
theorem tb_454 : (Jvm.Cond.selects "EpochTreeModel" ({ cls := "EpochTreeModel", name := "down", desc := "(I)I" } : Jvm.MethodName) ({ cls := "EpochTreeModel", name := "down", desc := "(I)I" } : Jvm.MethodName)) ∈ tb := List.mem_of_getElem? (i := 454) rfl
set_option maxRecDepth 20000 in
theorem tb_455 : (Jvm.Cond.code ({ cls := "EpochTreeModel", name := "down", desc := "(I)I" } : Jvm.MethodName) prog_9_method_26_code (6 : Nat) (Option.some Jvm.ClassFile.FieldType.int)) ∈ tb := List.mem_of_getElem? (i := 455) rfl
set_option maxRecDepth 20000 in
theorem tb_456 : (Jvm.Cond.instanceMethod ({ cls := "EpochTreeModel", name := "submit", desc := "(IIIII)I" } : Jvm.MethodName)) ∈ tb := List.mem_of_getElem? (i := 456) rfl
set_option maxRecDepth 20000 in
theorem tb_457 : (Jvm.Cond.selects "EpochTreeModel" ({ cls := "EpochTreeModel", name := "submit", desc := "(IIIII)I" } : Jvm.MethodName) ({ cls := "EpochTreeModel", name := "submit", desc := "(IIIII)I" } : Jvm.MethodName)) ∈ tb := List.mem_of_getElem? (i := 457) rfl
set_option maxRecDepth 20000 in
theorem tb_458 : (Jvm.Cond.code ({ cls := "EpochTreeModel", name := "submit", desc := "(IIIII)I" } : Jvm.MethodName) prog_9_method_29_code (6 : Nat) (Option.some Jvm.ClassFile.FieldType.int)) ∈ tb := List.mem_of_getElem? (i := 458) rfl
set_option maxRecDepth 20000 in
theorem tb_459 : (Jvm.Cond.methodLink "EpochTreeModel" (172 : Nat) ({ cls := "EpochTreeModel", name := "isPath", desc := "(I)Z" } : Jvm.MethodName)) ∈ tb := List.mem_of_getElem? (i := 459) rfl
set_option maxRecDepth 20000 in
theorem tb_460 : (Jvm.Cond.static ({ cls := "EpochTreeModel", name := "isPath", desc := "(I)Z" } : Jvm.MethodName)) ∈ tb := List.mem_of_getElem? (i := 460) rfl
set_option maxRecDepth 20000 in
theorem tb_461 : (Jvm.Cond.code ({ cls := "EpochTreeModel", name := "isPath", desc := "(I)Z" } : Jvm.MethodName) prog_9_method_28_code (1 : Nat) (Option.some Jvm.ClassFile.FieldType.boolean)) ∈ tb := List.mem_of_getElem? (i := 461) rfl
set_option maxRecDepth 20000 in
theorem tb_462 : (Jvm.Cond.methodLink "EpochTreeModel" (175 : Nat) ({ cls := "EpochTreeModel", name := "make", desc := "(IIIII)V" } : Jvm.MethodName)) ∈ tb := List.mem_of_getElem? (i := 462) rfl
set_option maxRecDepth 20000 in
theorem tb_463 : (Jvm.Cond.instanceMethod ({ cls := "EpochTreeModel", name := "make", desc := "(IIIII)V" } : Jvm.MethodName)) ∈ tb := List.mem_of_getElem? (i := 463) rfl
set_option maxRecDepth 20000 in
theorem tb_464 : (Jvm.Cond.code ({ cls := "EpochTreeModel", name := "make", desc := "(IIIII)V" } : Jvm.MethodName) prog_9_method_27_code (8 : Nat) (Option.none : Option Jvm.ClassFile.FieldType)) ∈ tb := List.mem_of_getElem? (i := 464) rfl
set_option maxRecDepth 20000 in
theorem tb_465 : (Jvm.Cond.instanceMethod ({ cls := "EpochTreeModel", name := "tick", desc := "()I" } : Jvm.MethodName)) ∈ tb := List.mem_of_getElem? (i := 465) rfl
set_option maxRecDepth 20000 in
theorem tb_466 : (Jvm.Cond.selects "EpochTreeModel" ({ cls := "EpochTreeModel", name := "tick", desc := "()I" } : Jvm.MethodName) ({ cls := "EpochTreeModel", name := "tick", desc := "()I" } : Jvm.MethodName)) ∈ tb := List.mem_of_getElem? (i := 466) rfl
set_option maxRecDepth 20000 in
theorem tb_467 : (Jvm.Cond.code ({ cls := "EpochTreeModel", name := "tick", desc := "()I" } : Jvm.MethodName) prog_9_method_30_code (5 : Nat) (Option.some Jvm.ClassFile.FieldType.int)) ∈ tb := List.mem_of_getElem? (i := 467) rfl
set_option maxRecDepth 20000 in
theorem tb_468 : (Jvm.Cond.methodLink "EpochTreeModel" (179 : Nat) ({ cls := "EpochTreeModel", name := "work", desc := "(I)V" } : Jvm.MethodName)) ∈ tb := List.mem_of_getElem? (i := 468) rfl
set_option maxRecDepth 20000 in
theorem tb_469 : (Jvm.Cond.instanceMethod ({ cls := "EpochTreeModel", name := "work", desc := "(I)V" } : Jvm.MethodName)) ∈ tb := List.mem_of_getElem? (i := 469) rfl
set_option maxRecDepth 20000 in
theorem tb_470 : (Jvm.Cond.code ({ cls := "EpochTreeModel", name := "work", desc := "(I)V" } : Jvm.MethodName) prog_9_method_8_code (6 : Nat) (Option.none : Option Jvm.ClassFile.FieldType)) ∈ tb := List.mem_of_getElem? (i := 470) rfl
set_option maxRecDepth 20000 in
theorem tb_471 : (Jvm.Cond.methodLink "EpochTreeModel" (118 : Nat) ({ cls := "EpochTreeModel", name := "create", desc := "(III)I" } : Jvm.MethodName)) ∈ tb := List.mem_of_getElem? (i := 471) rfl
set_option maxRecDepth 20000 in
theorem tb_472 : (Jvm.Cond.instanceMethod ({ cls := "EpochTreeModel", name := "create", desc := "(III)I" } : Jvm.MethodName)) ∈ tb := List.mem_of_getElem? (i := 472) rfl
set_option maxRecDepth 20000 in
theorem tb_473 : (Jvm.Cond.code ({ cls := "EpochTreeModel", name := "create", desc := "(III)I" } : Jvm.MethodName) prog_9_method_5_code (5 : Nat) (Option.some Jvm.ClassFile.FieldType.int)) ∈ tb := List.mem_of_getElem? (i := 473) rfl
set_option maxRecDepth 20000 in
theorem tb_474 : (Jvm.Cond.methodLink "EpochTreeModel" (111 : Nat) ({ cls := "EpochTreeModel", name := "find", desc := "(I)I" } : Jvm.MethodName)) ∈ tb := List.mem_of_getElem? (i := 474) rfl
set_option maxRecDepth 20000 in
theorem tb_475 : (Jvm.Cond.instanceMethod ({ cls := "EpochTreeModel", name := "find", desc := "(I)I" } : Jvm.MethodName)) ∈ tb := List.mem_of_getElem? (i := 475) rfl
set_option maxRecDepth 20000 in
theorem tb_476 : (Jvm.Cond.code ({ cls := "EpochTreeModel", name := "find", desc := "(I)I" } : Jvm.MethodName) prog_9_method_3_code (3 : Nat) (Option.some Jvm.ClassFile.FieldType.int)) ∈ tb := List.mem_of_getElem? (i := 476) rfl
set_option maxRecDepth 20000 in
theorem tb_477 : (Jvm.Cond.methodLink "EpochTreeModel" (122 : Nat) ({ cls := "EpochTreeModel", name := "alter", desc := "(ZIII)I" } : Jvm.MethodName)) ∈ tb := List.mem_of_getElem? (i := 477) rfl
set_option maxRecDepth 20000 in
theorem tb_478 : (Jvm.Cond.instanceMethod ({ cls := "EpochTreeModel", name := "alter", desc := "(ZIII)I" } : Jvm.MethodName)) ∈ tb := List.mem_of_getElem? (i := 478) rfl
set_option maxRecDepth 20000 in
theorem tb_479 : (Jvm.Cond.code ({ cls := "EpochTreeModel", name := "alter", desc := "(ZIII)I" } : Jvm.MethodName) prog_9_method_6_code (6 : Nat) (Option.some Jvm.ClassFile.FieldType.int)) ∈ tb := List.mem_of_getElem? (i := 479) rfl
set_option maxRecDepth 20000 in
theorem tb_480 : (Jvm.Cond.methodLink "EpochTreeModel" (115 : Nat) ({ cls := "EpochTreeModel", name := "children", desc := "(I)I" } : Jvm.MethodName)) ∈ tb := List.mem_of_getElem? (i := 480) rfl
set_option maxRecDepth 20000 in
theorem tb_481 : (Jvm.Cond.instanceMethod ({ cls := "EpochTreeModel", name := "children", desc := "(I)I" } : Jvm.MethodName)) ∈ tb := List.mem_of_getElem? (i := 481) rfl
set_option maxRecDepth 20000 in
theorem tb_482 : (Jvm.Cond.code ({ cls := "EpochTreeModel", name := "children", desc := "(I)I" } : Jvm.MethodName) prog_9_method_4_code (4 : Nat) (Option.some Jvm.ClassFile.FieldType.int)) ∈ tb := List.mem_of_getElem? (i := 482) rfl
set_option maxRecDepth 20000 in
theorem tb_483 : (Jvm.Cond.methodLink "EpochTreeModel" (126 : Nat) ({ cls := "EpochTreeModel", name := "session", desc := "(ZI)I" } : Jvm.MethodName)) ∈ tb := List.mem_of_getElem? (i := 483) rfl
set_option maxRecDepth 20000 in
theorem tb_484 : (Jvm.Cond.instanceMethod ({ cls := "EpochTreeModel", name := "session", desc := "(ZI)I" } : Jvm.MethodName)) ∈ tb := List.mem_of_getElem? (i := 484) rfl
set_option maxRecDepth 20000 in
theorem tb_485 : (Jvm.Cond.code ({ cls := "EpochTreeModel", name := "session", desc := "(ZI)I" } : Jvm.MethodName) prog_9_method_7_code (4 : Nat) (Option.some Jvm.ClassFile.FieldType.int)) ∈ tb := List.mem_of_getElem? (i := 485) rfl
set_option maxRecDepth 20000 in
theorem tb_486 : (Jvm.Cond.instanceMethod ({ cls := "EpochTreeModel", name := "touch", desc := "(II)Z" } : Jvm.MethodName)) ∈ tb := List.mem_of_getElem? (i := 486) rfl
set_option maxRecDepth 20000 in
theorem tb_487 : (Jvm.Cond.selects "EpochTreeModel" ({ cls := "EpochTreeModel", name := "touch", desc := "(II)Z" } : Jvm.MethodName) ({ cls := "EpochTreeModel", name := "touch", desc := "(II)Z" } : Jvm.MethodName)) ∈ tb := List.mem_of_getElem? (i := 487) rfl
set_option maxRecDepth 20000 in
theorem tb_488 : (Jvm.Cond.code ({ cls := "EpochTreeModel", name := "touch", desc := "(II)Z" } : Jvm.MethodName) prog_9_method_31_code (3 : Nat) (Option.some Jvm.ClassFile.FieldType.boolean)) ∈ tb := List.mem_of_getElem? (i := 488) rfl
set_option maxRecDepth 20000 in
theorem tb_489 : (Jvm.Cond.instanceMethod ({ cls := "EpochTreeModel", name := "role", desc := "(I)I" } : Jvm.MethodName)) ∈ tb := List.mem_of_getElem? (i := 489) rfl
set_option maxRecDepth 20000 in
theorem tb_490 : (Jvm.Cond.selects "EpochTreeModel" ({ cls := "EpochTreeModel", name := "role", desc := "(I)I" } : Jvm.MethodName) ({ cls := "EpochTreeModel", name := "role", desc := "(I)I" } : Jvm.MethodName)) ∈ tb := List.mem_of_getElem? (i := 490) rfl
set_option maxRecDepth 20000 in
theorem tb_491 : (Jvm.Cond.code ({ cls := "EpochTreeModel", name := "role", desc := "(I)I" } : Jvm.MethodName) prog_9_method_32_code (2 : Nat) (Option.some Jvm.ClassFile.FieldType.int)) ∈ tb := List.mem_of_getElem? (i := 491) rfl
set_option maxRecDepth 20000 in
theorem tb_492 : (Jvm.Cond.instanceMethod ({ cls := "EpochTreeModel", name := "promise", desc := "(I)I" } : Jvm.MethodName)) ∈ tb := List.mem_of_getElem? (i := 492) rfl
set_option maxRecDepth 20000 in
theorem tb_493 : (Jvm.Cond.selects "EpochTreeModel" ({ cls := "EpochTreeModel", name := "promise", desc := "(I)I" } : Jvm.MethodName) ({ cls := "EpochTreeModel", name := "promise", desc := "(I)I" } : Jvm.MethodName)) ∈ tb := List.mem_of_getElem? (i := 493) rfl
set_option maxRecDepth 20000 in
theorem tb_494 : (Jvm.Cond.code ({ cls := "EpochTreeModel", name := "promise", desc := "(I)I" } : Jvm.MethodName) prog_9_method_33_code (2 : Nat) (Option.some Jvm.ClassFile.FieldType.int)) ∈ tb := List.mem_of_getElem? (i := 494) rfl
set_option maxRecDepth 20000 in
theorem tb_495 : (Jvm.Cond.instanceMethod ({ cls := "EpochTreeModel", name := "epoch", desc := "(I)I" } : Jvm.MethodName)) ∈ tb := List.mem_of_getElem? (i := 495) rfl
set_option maxRecDepth 20000 in
theorem tb_496 : (Jvm.Cond.selects "EpochTreeModel" ({ cls := "EpochTreeModel", name := "epoch", desc := "(I)I" } : Jvm.MethodName) ({ cls := "EpochTreeModel", name := "epoch", desc := "(I)I" } : Jvm.MethodName)) ∈ tb := List.mem_of_getElem? (i := 496) rfl
set_option maxRecDepth 20000 in
theorem tb_497 : (Jvm.Cond.code ({ cls := "EpochTreeModel", name := "epoch", desc := "(I)I" } : Jvm.MethodName) prog_9_method_34_code (2 : Nat) (Option.some Jvm.ClassFile.FieldType.int)) ∈ tb := List.mem_of_getElem? (i := 497) rfl
set_option maxRecDepth 20000 in
theorem tb_498 : (Jvm.Cond.instanceMethod ({ cls := "EpochTreeModel", name := "length", desc := "(I)I" } : Jvm.MethodName)) ∈ tb := List.mem_of_getElem? (i := 498) rfl
set_option maxRecDepth 20000 in
theorem tb_499 : (Jvm.Cond.selects "EpochTreeModel" ({ cls := "EpochTreeModel", name := "length", desc := "(I)I" } : Jvm.MethodName) ({ cls := "EpochTreeModel", name := "length", desc := "(I)I" } : Jvm.MethodName)) ∈ tb := List.mem_of_getElem? (i := 499) rfl
set_option maxRecDepth 20000 in
theorem tb_500 : (Jvm.Cond.code ({ cls := "EpochTreeModel", name := "length", desc := "(I)I" } : Jvm.MethodName) prog_9_method_35_code (2 : Nat) (Option.some Jvm.ClassFile.FieldType.int)) ∈ tb := List.mem_of_getElem? (i := 500) rfl
set_option maxRecDepth 20000 in
theorem tb_501 : (Jvm.Cond.instanceMethod ({ cls := "EpochTreeModel", name := "mark", desc := "(II)I" } : Jvm.MethodName)) ∈ tb := List.mem_of_getElem? (i := 501) rfl
set_option maxRecDepth 20000 in
theorem tb_502 : (Jvm.Cond.selects "EpochTreeModel" ({ cls := "EpochTreeModel", name := "mark", desc := "(II)I" } : Jvm.MethodName) ({ cls := "EpochTreeModel", name := "mark", desc := "(II)I" } : Jvm.MethodName)) ∈ tb := List.mem_of_getElem? (i := 502) rfl
set_option maxRecDepth 20000 in
theorem tb_503 : (Jvm.Cond.code ({ cls := "EpochTreeModel", name := "mark", desc := "(II)I" } : Jvm.MethodName) prog_9_method_36_code (3 : Nat) (Option.some Jvm.ClassFile.FieldType.int)) ∈ tb := List.mem_of_getElem? (i := 503) rfl
set_option maxRecDepth 20000 in
theorem tb_504 : (Jvm.Cond.instanceMethod ({ cls := "EpochTreeModel", name := "applied", desc := "(I)I" } : Jvm.MethodName)) ∈ tb := List.mem_of_getElem? (i := 504) rfl
set_option maxRecDepth 20000 in
theorem tb_505 : (Jvm.Cond.selects "EpochTreeModel" ({ cls := "EpochTreeModel", name := "applied", desc := "(I)I" } : Jvm.MethodName) ({ cls := "EpochTreeModel", name := "applied", desc := "(I)I" } : Jvm.MethodName)) ∈ tb := List.mem_of_getElem? (i := 505) rfl
set_option maxRecDepth 20000 in
theorem tb_506 : (Jvm.Cond.code ({ cls := "EpochTreeModel", name := "applied", desc := "(I)I" } : Jvm.MethodName) prog_9_method_37_code (2 : Nat) (Option.some Jvm.ClassFile.FieldType.int)) ∈ tb := List.mem_of_getElem? (i := 506) rfl
set_option maxRecDepth 20000 in
theorem tb_507 : (Jvm.Cond.instanceMethod ({ cls := "EpochTreeModel", name := "result", desc := "(II)I" } : Jvm.MethodName)) ∈ tb := List.mem_of_getElem? (i := 507) rfl
set_option maxRecDepth 20000 in
theorem tb_508 : (Jvm.Cond.selects "EpochTreeModel" ({ cls := "EpochTreeModel", name := "result", desc := "(II)I" } : Jvm.MethodName) ({ cls := "EpochTreeModel", name := "result", desc := "(II)I" } : Jvm.MethodName)) ∈ tb := List.mem_of_getElem? (i := 508) rfl
set_option maxRecDepth 20000 in
theorem tb_509 : (Jvm.Cond.code ({ cls := "EpochTreeModel", name := "result", desc := "(II)I" } : Jvm.MethodName) prog_9_method_38_code (3 : Nat) (Option.some Jvm.ClassFile.FieldType.int)) ∈ tb := List.mem_of_getElem? (i := 509) rfl
set_option maxRecDepth 20000 in
theorem tb_510 : (Jvm.Cond.instanceMethod ({ cls := "EpochTreeModel", name := "node", desc := "(III)I" } : Jvm.MethodName)) ∈ tb := List.mem_of_getElem? (i := 510) rfl
set_option maxRecDepth 20000 in
theorem tb_511 : (Jvm.Cond.selects "EpochTreeModel" ({ cls := "EpochTreeModel", name := "node", desc := "(III)I" } : Jvm.MethodName) ({ cls := "EpochTreeModel", name := "node", desc := "(III)I" } : Jvm.MethodName)) ∈ tb := List.mem_of_getElem? (i := 511) rfl
set_option maxRecDepth 20000 in
theorem tb_512 : (Jvm.Cond.code ({ cls := "EpochTreeModel", name := "node", desc := "(III)I" } : Jvm.MethodName) prog_9_method_39_code (5 : Nat) (Option.some Jvm.ClassFile.FieldType.int)) ∈ tb := List.mem_of_getElem? (i := 512) rfl
set_option maxRecDepth 20000 in
theorem tb_513 : (Jvm.Cond.instanceMethod ({ cls := "EpochTreeModel", name := "tree", desc := "(I)I" } : Jvm.MethodName)) ∈ tb := List.mem_of_getElem? (i := 513) rfl
set_option maxRecDepth 20000 in
theorem tb_514 : (Jvm.Cond.selects "EpochTreeModel" ({ cls := "EpochTreeModel", name := "tree", desc := "(I)I" } : Jvm.MethodName) ({ cls := "EpochTreeModel", name := "tree", desc := "(I)I" } : Jvm.MethodName)) ∈ tb := List.mem_of_getElem? (i := 514) rfl
set_option maxRecDepth 20000 in
theorem tb_515 : (Jvm.Cond.code ({ cls := "EpochTreeModel", name := "tree", desc := "(I)I" } : Jvm.MethodName) prog_9_method_40_code (4 : Nat) (Option.some Jvm.ClassFile.FieldType.int)) ∈ tb := List.mem_of_getElem? (i := 515) rfl
set_option maxRecDepth 20000 in
theorem tb_516 : (Jvm.Cond.instanceMethod ({ cls := "EpochTreeModel", name := "waiting", desc := "(IZ)I" } : Jvm.MethodName)) ∈ tb := List.mem_of_getElem? (i := 516) rfl
set_option maxRecDepth 20000 in
theorem tb_517 : (Jvm.Cond.selects "EpochTreeModel" ({ cls := "EpochTreeModel", name := "waiting", desc := "(IZ)I" } : Jvm.MethodName) ({ cls := "EpochTreeModel", name := "waiting", desc := "(IZ)I" } : Jvm.MethodName)) ∈ tb := List.mem_of_getElem? (i := 517) rfl
set_option maxRecDepth 20000 in
theorem tb_518 : (Jvm.Cond.code ({ cls := "EpochTreeModel", name := "waiting", desc := "(IZ)I" } : Jvm.MethodName) prog_9_method_41_code (3 : Nat) (Option.some Jvm.ClassFile.FieldType.int)) ∈ tb := List.mem_of_getElem? (i := 518) rfl
set_option maxRecDepth 20000 in
theorem tb_519 : (Jvm.Cond.selects "EpochTree" ({ cls := "EpochTree", name := "hasRole", desc := "(II)Z" } : Jvm.MethodName) ({ cls := "EpochTree", name := "hasRole", desc := "(II)Z" } : Jvm.MethodName)) ∈ tb := List.mem_of_getElem? (i := 519) rfl
set_option maxRecDepth 20000 in
theorem tb_520 : (Jvm.Cond.selects "EpochTree$Term" ({ cls := "EpochTree$Term", name := "begin", desc := "()V" } : Jvm.MethodName) ({ cls := "EpochTree$Term", name := "begin", desc := "()V" } : Jvm.MethodName)) ∈ tb := List.mem_of_getElem? (i := 520) rfl
set_option maxRecDepth 20000 in
theorem tb_521 : (Jvm.Cond.selects "EpochTree" ({ cls := "EpochTree", name := "leads", desc := "(I)Z" } : Jvm.MethodName) ({ cls := "EpochTree", name := "leads", desc := "(I)Z" } : Jvm.MethodName)) ∈ tb := List.mem_of_getElem? (i := 521) rfl
set_option maxRecDepth 20000 in
theorem tb_522 : (Jvm.Cond.selects "EpochTree$Row" ({ cls := "EpochTree$Row", name := "send", desc := "(II)V" } : Jvm.MethodName) ({ cls := "EpochTree$Row", name := "send", desc := "(II)V" } : Jvm.MethodName)) ∈ tb := List.mem_of_getElem? (i := 522) rfl
set_option maxRecDepth 20000 in
theorem tb_523 : (Jvm.Cond.selects "EpochTree" ({ cls := "EpochTree", name := "stopTo", desc := "(II)V" } : Jvm.MethodName) ({ cls := "EpochTree", name := "stopTo", desc := "(II)V" } : Jvm.MethodName)) ∈ tb := List.mem_of_getElem? (i := 523) rfl
set_option maxRecDepth 20000 in
theorem tb_524 : (Jvm.Cond.selects "EpochTree$Link" ({ cls := "EpochTree$Link", name := "clear", desc := "()V" } : Jvm.MethodName) ({ cls := "EpochTree$Link", name := "clear", desc := "()V" } : Jvm.MethodName)) ∈ tb := List.mem_of_getElem? (i := 524) rfl
set_option maxRecDepth 20000 in
theorem tb_525 : (Jvm.Cond.selects "EpochTree$Row" ({ cls := "EpochTree$Row", name := "clear", desc := "()V" } : Jvm.MethodName) ({ cls := "EpochTree$Row", name := "clear", desc := "()V" } : Jvm.MethodName)) ∈ tb := List.mem_of_getElem? (i := 525) rfl
set_option maxRecDepth 20000 in
theorem tb_526 : (Jvm.Cond.selects "EpochTree$Server" ({ cls := "EpochTree$Server", name := "forgetApplied", desc := "()V" } : Jvm.MethodName) ({ cls := "EpochTree$Server", name := "forgetApplied", desc := "()V" } : Jvm.MethodName)) ∈ tb := List.mem_of_getElem? (i := 526) rfl
set_option maxRecDepth 20000 in
theorem tb_527 : (Jvm.Cond.selects "EpochTree$Tree" ({ cls := "EpochTree$Tree", name := "clear", desc := "()V" } : Jvm.MethodName) ({ cls := "EpochTree$Tree", name := "clear", desc := "()V" } : Jvm.MethodName)) ∈ tb := List.mem_of_getElem? (i := 527) rfl
set_option maxRecDepth 20000 in
theorem tb_528 : (Jvm.Cond.selects "EpochTree$Row" ({ cls := "EpochTree$Row", name := "count", desc := "()I" } : Jvm.MethodName) ({ cls := "EpochTree$Row", name := "count", desc := "()I" } : Jvm.MethodName)) ∈ tb := List.mem_of_getElem? (i := 528) rfl
set_option maxRecDepth 20000 in
theorem tb_529 : (Jvm.Cond.selects "EpochTree$Row" ({ cls := "EpochTree$Row", name := "firstKind", desc := "()I" } : Jvm.MethodName) ({ cls := "EpochTree$Row", name := "firstKind", desc := "()I" } : Jvm.MethodName)) ∈ tb := List.mem_of_getElem? (i := 529) rfl
set_option maxRecDepth 20000 in
theorem tb_530 : (Jvm.Cond.selects "EpochTree$Row" ({ cls := "EpochTree$Row", name := "firstValue", desc := "()I" } : Jvm.MethodName) ({ cls := "EpochTree$Row", name := "firstValue", desc := "()I" } : Jvm.MethodName)) ∈ tb := List.mem_of_getElem? (i := 530) rfl
set_option maxRecDepth 20000 in
theorem tb_531 : (Jvm.Cond.selects "EpochTree$Row" ({ cls := "EpochTree$Row", name := "dropFirst", desc := "()V" } : Jvm.MethodName) ({ cls := "EpochTree$Row", name := "dropFirst", desc := "()V" } : Jvm.MethodName)) ∈ tb := List.mem_of_getElem? (i := 531) rfl
set_option maxRecDepth 20000 in
theorem tb_532 : (Jvm.Cond.selects "EpochTree" ({ cls := "EpochTree", name := "readAccepted", desc := "(LEpochTree$Server;LEpochTree$Server;Z)V" } : Jvm.MethodName) ({ cls := "EpochTree", name := "readAccepted", desc := "(LEpochTree$Server;LEpochTree$Server;Z)V" } : Jvm.MethodName)) ∈ tb := List.mem_of_getElem? (i := 532) rfl
set_option maxRecDepth 20000 in
theorem tb_533 : (Jvm.Cond.selects "EpochTree$EntryList" ({ cls := "EpochTree$EntryList", name := "lastMark", desc := "()I" } : Jvm.MethodName) ({ cls := "EpochTree$EntryList", name := "lastMark", desc := "()I" } : Jvm.MethodName)) ∈ tb := List.mem_of_getElem? (i := 533) rfl
set_option maxRecDepth 20000 in
theorem tb_534 : (Jvm.Cond.selects "EpochTree$EntryList" ({ cls := "EpochTree$EntryList", name := "markAt", desc := "(I)I" } : Jvm.MethodName) ({ cls := "EpochTree$EntryList", name := "markAt", desc := "(I)I" } : Jvm.MethodName)) ∈ tb := List.mem_of_getElem? (i := 534) rfl
set_option maxRecDepth 20000 in
theorem tb_535 : (Jvm.Cond.selects "EpochTree$EntryList" ({ cls := "EpochTree$EntryList", name := "becomeFirst", desc := "(LEpochTree$EntryList;I)V" } : Jvm.MethodName) ({ cls := "EpochTree$EntryList", name := "becomeFirst", desc := "(LEpochTree$EntryList;I)V" } : Jvm.MethodName)) ∈ tb := List.mem_of_getElem? (i := 535) rfl
set_option maxRecDepth 20000 in
theorem tb_536 : (Jvm.Cond.selects "EpochTree$EntryList" ({ cls := "EpochTree$EntryList", name := "appendFrom", desc := "(LEpochTree$EntryList;I)V" } : Jvm.MethodName) ({ cls := "EpochTree$EntryList", name := "appendFrom", desc := "(LEpochTree$EntryList;I)V" } : Jvm.MethodName)) ∈ tb := List.mem_of_getElem? (i := 536) rfl
set_option maxRecDepth 20000 in
theorem tb_537 : (Jvm.Cond.selects "EpochTree$EntryList" ({ cls := "EpochTree$EntryList", name := "append", desc := "(IIIII)V" } : Jvm.MethodName) ({ cls := "EpochTree$EntryList", name := "append", desc := "(IIIII)V" } : Jvm.MethodName)) ∈ tb := List.mem_of_getElem? (i := 537) rfl
set_option maxRecDepth 20000 in
theorem tb_538 : (Jvm.Cond.selects "EpochTree$EntryList" ({ cls := "EpochTree$EntryList", name := "isFull", desc := "()Z" } : Jvm.MethodName) ({ cls := "EpochTree$EntryList", name := "isFull", desc := "()Z" } : Jvm.MethodName)) ∈ tb := List.mem_of_getElem? (i := 538) rfl
set_option maxRecDepth 20000 in
theorem tb_539 : (Jvm.Cond.selects "EpochTree" ({ cls := "EpochTree", name := "sendNewLeaderToWaiting", desc := "(LEpochTree$Server;)V" } : Jvm.MethodName) ({ cls := "EpochTree", name := "sendNewLeaderToWaiting", desc := "(LEpochTree$Server;)V" } : Jvm.MethodName)) ∈ tb := List.mem_of_getElem? (i := 539) rfl
set_option maxRecDepth 20000 in
theorem tb_540 : (Jvm.Cond.selects "EpochTree" ({ cls := "EpochTree", name := "readAck", desc := "(LEpochTree$Server;LEpochTree$Server;I)V" } : Jvm.MethodName) ({ cls := "EpochTree", name := "readAck", desc := "(LEpochTree$Server;LEpochTree$Server;I)V" } : Jvm.MethodName)) ∈ tb := List.mem_of_getElem? (i := 540) rfl
set_option maxRecDepth 20000 in
theorem tb_541 : (Jvm.Cond.selects "EpochTree$Server" ({ cls := "EpochTree$Server", name := "applyUpTo", desc := "(I)V" } : Jvm.MethodName) ({ cls := "EpochTree$Server", name := "applyUpTo", desc := "(I)V" } : Jvm.MethodName)) ∈ tb := List.mem_of_getElem? (i := 541) rfl
set_option maxRecDepth 20000 in
theorem tb_542 : (Jvm.Cond.selects "EpochTree$Tree" ({ cls := "EpochTree$Tree", name := "change", desc := "(IIII)I" } : Jvm.MethodName) ({ cls := "EpochTree$Tree", name := "change", desc := "(IIII)I" } : Jvm.MethodName)) ∈ tb := List.mem_of_getElem? (i := 542) rfl
set_option maxRecDepth 20000 in
theorem tb_543 : (Jvm.Cond.selects "EpochTree$Tree" ({ cls := "EpochTree$Tree", name := "create", desc := "(III)I" } : Jvm.MethodName) ({ cls := "EpochTree$Tree", name := "create", desc := "(III)I" } : Jvm.MethodName)) ∈ tb := List.mem_of_getElem? (i := 543) rfl
set_option maxRecDepth 20000 in
theorem tb_544 : (Jvm.Cond.selects "EpochTree$Tree" ({ cls := "EpochTree$Tree", name := "isOpen", desc := "(I)Z" } : Jvm.MethodName) ({ cls := "EpochTree$Tree", name := "isOpen", desc := "(I)Z" } : Jvm.MethodName)) ∈ tb := List.mem_of_getElem? (i := 544) rfl
set_option maxRecDepth 20000 in
theorem tb_545 : (Jvm.Cond.selects "EpochTree$Tree" ({ cls := "EpochTree$Tree", name := "find", desc := "(I)I" } : Jvm.MethodName) ({ cls := "EpochTree$Tree", name := "find", desc := "(I)I" } : Jvm.MethodName)) ∈ tb := List.mem_of_getElem? (i := 545) rfl
set_option maxRecDepth 20000 in
theorem tb_546 : (Jvm.Cond.selects "EpochTree$Tree" ({ cls := "EpochTree$Tree", name := "add", desc := "(III)V" } : Jvm.MethodName) ({ cls := "EpochTree$Tree", name := "add", desc := "(III)V" } : Jvm.MethodName)) ∈ tb := List.mem_of_getElem? (i := 546) rfl
set_option maxRecDepth 20000 in
theorem tb_547 : (Jvm.Cond.selects "EpochTree$Tree" ({ cls := "EpochTree$Tree", name := "set", desc := "(III)I" } : Jvm.MethodName) ({ cls := "EpochTree$Tree", name := "set", desc := "(III)I" } : Jvm.MethodName)) ∈ tb := List.mem_of_getElem? (i := 547) rfl
set_option maxRecDepth 20000 in
theorem tb_548 : (Jvm.Cond.selects "EpochTree$Tree" ({ cls := "EpochTree$Tree", name := "delete", desc := "(II)I" } : Jvm.MethodName) ({ cls := "EpochTree$Tree", name := "delete", desc := "(II)I" } : Jvm.MethodName)) ∈ tb := List.mem_of_getElem? (i := 548) rfl
set_option maxRecDepth 20000 in
theorem tb_549 : (Jvm.Cond.selects "EpochTree$Tree" ({ cls := "EpochTree$Tree", name := "countChildren", desc := "(I)I" } : Jvm.MethodName) ({ cls := "EpochTree$Tree", name := "countChildren", desc := "(I)I" } : Jvm.MethodName)) ∈ tb := List.mem_of_getElem? (i := 549) rfl
set_option maxRecDepth 20000 in
theorem tb_550 : (Jvm.Cond.selects "EpochTree$Tree" ({ cls := "EpochTree$Tree", name := "remove", desc := "(I)V" } : Jvm.MethodName) ({ cls := "EpochTree$Tree", name := "remove", desc := "(I)V" } : Jvm.MethodName)) ∈ tb := List.mem_of_getElem? (i := 550) rfl
set_option maxRecDepth 20000 in
theorem tb_551 : (Jvm.Cond.selects "EpochTree$Tree" ({ cls := "EpochTree$Tree", name := "open", desc := "(I)I" } : Jvm.MethodName) ({ cls := "EpochTree$Tree", name := "open", desc := "(I)I" } : Jvm.MethodName)) ∈ tb := List.mem_of_getElem? (i := 551) rfl
set_option maxRecDepth 20000 in
theorem tb_552 : (Jvm.Cond.selects "EpochTree$Tree" ({ cls := "EpochTree$Tree", name := "close", desc := "(I)I" } : Jvm.MethodName) ({ cls := "EpochTree$Tree", name := "close", desc := "(I)I" } : Jvm.MethodName)) ∈ tb := List.mem_of_getElem? (i := 552) rfl
set_option maxRecDepth 20000 in
theorem tb_553 : (Jvm.Cond.selects "EpochTree" ({ cls := "EpochTree", name := "sendOnTiedLinks", desc := "(LEpochTree$Server;II)V" } : Jvm.MethodName) ({ cls := "EpochTree", name := "sendOnTiedLinks", desc := "(LEpochTree$Server;II)V" } : Jvm.MethodName)) ∈ tb := List.mem_of_getElem? (i := 553) rfl
set_option maxRecDepth 20000 in
theorem tb_554 : (Jvm.Cond.selects "EpochTree" ({ cls := "EpochTree", name := "readNewEpoch", desc := "(II)V" } : Jvm.MethodName) ({ cls := "EpochTree", name := "readNewEpoch", desc := "(II)V" } : Jvm.MethodName)) ∈ tb := List.mem_of_getElem? (i := 554) rfl
set_option maxRecDepth 20000 in
theorem tb_555 : (Jvm.Cond.selects "EpochTree" ({ cls := "EpochTree", name := "readNewLeader", desc := "(LEpochTree$Server;I)V" } : Jvm.MethodName) ({ cls := "EpochTree", name := "readNewLeader", desc := "(LEpochTree$Server;I)V" } : Jvm.MethodName)) ∈ tb := List.mem_of_getElem? (i := 555) rfl
set_option maxRecDepth 20000 in
theorem tb_556 : (Jvm.Cond.selects "EpochTree" ({ cls := "EpochTree", name := "readProposal", desc := "(LEpochTree$Server;I)V" } : Jvm.MethodName) ({ cls := "EpochTree", name := "readProposal", desc := "(LEpochTree$Server;I)V" } : Jvm.MethodName)) ∈ tb := List.mem_of_getElem? (i := 556) rfl
set_option maxRecDepth 20000 in
theorem tb_557 : (Jvm.Cond.selects "EpochTree" ({ cls := "EpochTree", name := "makeEntry", desc := "(LEpochTree$Server;IIII)V" } : Jvm.MethodName) ({ cls := "EpochTree", name := "makeEntry", desc := "(LEpochTree$Server;IIII)V" } : Jvm.MethodName)) ∈ tb := List.mem_of_getElem? (i := 557) rfl
set_option maxRecDepth 20000 in
theorem tb_558 : (Jvm.Cond.selects "EpochTree" ({ cls := "EpochTree", name := "closeOldSessions", desc := "(LEpochTree$Server;)I" } : Jvm.MethodName) ({ cls := "EpochTree", name := "closeOldSessions", desc := "(LEpochTree$Server;)I" } : Jvm.MethodName)) ∈ tb := List.mem_of_getElem? (i := 558) rfl
set_option maxRecDepth 20000 in
theorem tb_559 : (Jvm.Cond.selects "EpochTree$Tree" ({ cls := "EpochTree$Tree", name := "look", desc := "(II)I" } : Jvm.MethodName) ({ cls := "EpochTree$Tree", name := "look", desc := "(II)I" } : Jvm.MethodName)) ∈ tb := List.mem_of_getElem? (i := 559) rfl
set_option maxRecDepth 20000 in
theorem tb_560 : (Jvm.Cond.selects "EpochTree$Tree" ({ cls := "EpochTree$Tree", name := "lookAtRoot", desc := "(I)I" } : Jvm.MethodName) ({ cls := "EpochTree$Tree", name := "lookAtRoot", desc := "(I)I" } : Jvm.MethodName)) ∈ tb := List.mem_of_getElem? (i := 560) rfl
set_option maxRecDepth 20000 in
theorem tb_561 : (Jvm.Cond.selects "EpochTree$Tree" ({ cls := "EpochTree$Tree", name := "summary", desc := "()I" } : Jvm.MethodName) ({ cls := "EpochTree$Tree", name := "summary", desc := "()I" } : Jvm.MethodName)) ∈ tb := List.mem_of_getElem? (i := 561) rfl
set_option maxRecDepth 20000 in
theorem tb_562 : (Jvm.Cond.selects "EpochTreeModel" ({ cls := "EpochTreeModel", name := "cut", desc := "(I)V" } : Jvm.MethodName) ({ cls := "EpochTreeModel", name := "cut", desc := "(I)V" } : Jvm.MethodName)) ∈ tb := List.mem_of_getElem? (i := 562) rfl
set_option maxRecDepth 20000 in
theorem tb_563 : (Jvm.Cond.selects "EpochTreeModel" ({ cls := "EpochTreeModel", name := "sendUp", desc := "(III)V" } : Jvm.MethodName) ({ cls := "EpochTreeModel", name := "sendUp", desc := "(III)V" } : Jvm.MethodName)) ∈ tb := List.mem_of_getElem? (i := 563) rfl
set_option maxRecDepth 20000 in
theorem tb_564 : (Jvm.Cond.selects "EpochTreeModel" ({ cls := "EpochTreeModel", name := "cease", desc := "(I)V" } : Jvm.MethodName) ({ cls := "EpochTreeModel", name := "cease", desc := "(I)V" } : Jvm.MethodName)) ∈ tb := List.mem_of_getElem? (i := 564) rfl
set_option maxRecDepth 20000 in
theorem tb_565 : (Jvm.Cond.selects "EpochTreeModel" ({ cls := "EpochTreeModel", name := "follows", desc := "(II)Z" } : Jvm.MethodName) ({ cls := "EpochTreeModel", name := "follows", desc := "(II)Z" } : Jvm.MethodName)) ∈ tb := List.mem_of_getElem? (i := 565) rfl
set_option maxRecDepth 20000 in
theorem tb_566 : (Jvm.Cond.selects "EpochTreeModel" ({ cls := "EpochTreeModel", name := "sendDown", desc := "(III)V" } : Jvm.MethodName) ({ cls := "EpochTreeModel", name := "sendDown", desc := "(III)V" } : Jvm.MethodName)) ∈ tb := List.mem_of_getElem? (i := 566) rfl
set_option maxRecDepth 20000 in
theorem tb_567 : (Jvm.Cond.selects "EpochTreeModel" ({ cls := "EpochTreeModel", name := "accepted", desc := "(IIZ)V" } : Jvm.MethodName) ({ cls := "EpochTreeModel", name := "accepted", desc := "(IIZ)V" } : Jvm.MethodName)) ∈ tb := List.mem_of_getElem? (i := 567) rfl
set_option maxRecDepth 20000 in
theorem tb_568 : (Jvm.Cond.selects "EpochTreeModel" ({ cls := "EpochTreeModel", name := "newLeader", desc := "(II)V" } : Jvm.MethodName) ({ cls := "EpochTreeModel", name := "newLeader", desc := "(II)V" } : Jvm.MethodName)) ∈ tb := List.mem_of_getElem? (i := 568) rfl
set_option maxRecDepth 20000 in
theorem tb_569 : (Jvm.Cond.selects "EpochTreeModel" ({ cls := "EpochTreeModel", name := "lastMark", desc := "(I)I" } : Jvm.MethodName) ({ cls := "EpochTreeModel", name := "lastMark", desc := "(I)I" } : Jvm.MethodName)) ∈ tb := List.mem_of_getElem? (i := 569) rfl
set_option maxRecDepth 20000 in
theorem tb_570 : (Jvm.Cond.selects "EpochTreeModel" ({ cls := "EpochTreeModel", name := "copy", desc := "(III)V" } : Jvm.MethodName) ({ cls := "EpochTreeModel", name := "copy", desc := "(III)V" } : Jvm.MethodName)) ∈ tb := List.mem_of_getElem? (i := 570) rfl
set_option maxRecDepth 20000 in
theorem tb_571 : (Jvm.Cond.selects "EpochTreeModel" ({ cls := "EpochTreeModel", name := "copyEntry", desc := "(II)V" } : Jvm.MethodName) ({ cls := "EpochTreeModel", name := "copyEntry", desc := "(II)V" } : Jvm.MethodName)) ∈ tb := List.mem_of_getElem? (i := 571) rfl
set_option maxRecDepth 20000 in
theorem tb_572 : (Jvm.Cond.selects "EpochTreeModel" ({ cls := "EpochTreeModel", name := "acknowledged", desc := "(III)V" } : Jvm.MethodName) ({ cls := "EpochTreeModel", name := "acknowledged", desc := "(III)V" } : Jvm.MethodName)) ∈ tb := List.mem_of_getElem? (i := 572) rfl
set_option maxRecDepth 20000 in
theorem tb_573 : (Jvm.Cond.selects "EpochTreeModel" ({ cls := "EpochTreeModel", name := "make", desc := "(IIIII)V" } : Jvm.MethodName) ({ cls := "EpochTreeModel", name := "make", desc := "(IIIII)V" } : Jvm.MethodName)) ∈ tb := List.mem_of_getElem? (i := 573) rfl
set_option maxRecDepth 20000 in
theorem tb_574 : (Jvm.Cond.selects "EpochTreeModel" ({ cls := "EpochTreeModel", name := "work", desc := "(I)V" } : Jvm.MethodName) ({ cls := "EpochTreeModel", name := "work", desc := "(I)V" } : Jvm.MethodName)) ∈ tb := List.mem_of_getElem? (i := 574) rfl
set_option maxRecDepth 20000 in
theorem tb_575 : (Jvm.Cond.selects "EpochTreeModel" ({ cls := "EpochTreeModel", name := "create", desc := "(III)I" } : Jvm.MethodName) ({ cls := "EpochTreeModel", name := "create", desc := "(III)I" } : Jvm.MethodName)) ∈ tb := List.mem_of_getElem? (i := 575) rfl
set_option maxRecDepth 20000 in
theorem tb_576 : (Jvm.Cond.selects "EpochTreeModel" ({ cls := "EpochTreeModel", name := "find", desc := "(I)I" } : Jvm.MethodName) ({ cls := "EpochTreeModel", name := "find", desc := "(I)I" } : Jvm.MethodName)) ∈ tb := List.mem_of_getElem? (i := 576) rfl
set_option maxRecDepth 20000 in
theorem tb_577 : (Jvm.Cond.selects "EpochTreeModel" ({ cls := "EpochTreeModel", name := "alter", desc := "(ZIII)I" } : Jvm.MethodName) ({ cls := "EpochTreeModel", name := "alter", desc := "(ZIII)I" } : Jvm.MethodName)) ∈ tb := List.mem_of_getElem? (i := 577) rfl
set_option maxRecDepth 20000 in
theorem tb_578 : (Jvm.Cond.selects "EpochTreeModel" ({ cls := "EpochTreeModel", name := "children", desc := "(I)I" } : Jvm.MethodName) ({ cls := "EpochTreeModel", name := "children", desc := "(I)I" } : Jvm.MethodName)) ∈ tb := List.mem_of_getElem? (i := 578) rfl
set_option maxRecDepth 20000 in
theorem tb_579 : (Jvm.Cond.selects "EpochTreeModel" ({ cls := "EpochTreeModel", name := "session", desc := "(ZI)I" } : Jvm.MethodName) ({ cls := "EpochTreeModel", name := "session", desc := "(ZI)I" } : Jvm.MethodName)) ∈ tb := List.mem_of_getElem? (i := 579) rfl
set_option maxRecDepth 20000 in
theorem tb_good : tb.all goodWord = true := by decide +kernel
set_option maxRecDepth 20000 in
theorem inX0 : ∀ w ∈ u_ws RX0 TX0 6, w ∈ tb := mem_r _ [32, 33, 34, 35, 36, 37] (by decide +kernel)
set_option maxRecDepth 20000 in
theorem inX1 : ∀ w ∈ u_ws RX1 TX1 5, w ∈ tb := mem_r _ [79, 80, 81, 82, 83] (by decide +kernel)
set_option maxRecDepth 20000 in
theorem inX2 : ∀ w ∈ u_ws RX2 TX2 4, w ∈ tb := mem_r _ [70, 71, 72, 73] (by decide +kernel)
set_option maxRecDepth 20000 in
theorem inX3 : ∀ w ∈ u_ws RX3 TX3 11, w ∈ tb := mem_r _ [105, 106, 107, 108, 109, 110, 111, 112, 113, 114, 115] (by decide +kernel)
set_option maxRecDepth 20000 in
theorem inX4 : ∀ w ∈ u_ws RX4 TX4 4, w ∈ tb := mem_r _ [93, 94, 95, 96] (by decide +kernel)
set_option maxRecDepth 20000 in
theorem inX5 : ∀ w ∈ u_ws RX5 TX5 6, w ∈ tb := mem_r _ [50, 51, 52, 53, 54, 55] (by decide +kernel)
set_option maxRecDepth 20000 in
theorem inX6 : ∀ w ∈ u_ws RX6 TX6 1, w ∈ tb := mem_r _ [117] (by decide +kernel)
set_option maxRecDepth 20000 in
theorem inX7 : ∀ w ∈ u_ws RX7 TX7 33, w ∈ tb := mem_r _ [365, 366, 367, 368, 369, 370, 371, 372, 373, 374, 375, 376, 377, 378, 379, 380, 381, 382, 383, 384, 385, 386, 387, 388, 389, 390, 391, 392, 393, 394, 395, 396, 397] (by decide +kernel)
def nb : List Cond := [
  (Jvm.Cond.arrayOver (Jvm.ClassFile.FieldType.object "EpochTree$Server")),
  (Jvm.Cond.methodLinkNest "EpochTree" (15 : Nat) ({ cls := "EpochTree$Server", name := "<init>", desc := "(I)V" } : Jvm.MethodName) "EpochTree"),
  (Jvm.Cond.methodLinkNest "EpochTree$Server" (17 : Nat) ({ cls := "EpochTree$EntryList", name := "<init>", desc := "()V" } : Jvm.MethodName) "EpochTree"),
  (Jvm.Cond.fieldLinkNest "EpochTree$Server" (62 : Nat) "EpochTree$EntryList" "kinds" "[I" "EpochTree"),
  (Jvm.Cond.fieldLinkNest "EpochTree$Server" (65 : Nat) "EpochTree$EntryList" "paths" "[I" "EpochTree"),
  (Jvm.Cond.fieldLinkNest "EpochTree$Server" (68 : Nat) "EpochTree$EntryList" "as" "[I" "EpochTree"),
  (Jvm.Cond.fieldLinkNest "EpochTree$Server" (71 : Nat) "EpochTree$EntryList" "bs" "[I" "EpochTree"),
  (Jvm.Cond.fieldLinkNest "EpochTree$Server" (50 : Nat) "EpochTree$EntryList" "size" "I" "EpochTree"),
  (Jvm.Cond.fieldLinkNest "EpochTree" (128 : Nat) "EpochTree$EntryList" "size" "I" "EpochTree"),
  (Jvm.Cond.methodLinkNest "EpochTree$Server" (31 : Nat) ({ cls := "EpochTree$Tree", name := "<init>", desc := "()V" } : Jvm.MethodName) "EpochTree"),
  (Jvm.Cond.methodLinkNest "EpochTree$Server" (38 : Nat) ({ cls := "EpochTree$Link", name := "<init>", desc := "()V" } : Jvm.MethodName) "EpochTree"),
  (Jvm.Cond.methodLinkNest "EpochTree$Link" (11 : Nat) ({ cls := "EpochTree$Row", name := "<init>", desc := "(I)V" } : Jvm.MethodName) "EpochTree"),
  (Jvm.Cond.fieldLinkNest "EpochTree" (46 : Nat) "EpochTree$Link" "up" "LEpochTree$Row;" "EpochTree"),
  (Jvm.Cond.fieldLinkNest "EpochTree" (94 : Nat) "EpochTree$Link" "down" "LEpochTree$Row;" "EpochTree"),
  (Jvm.Cond.fieldLinkNest "EpochTree" (220 : Nat) "EpochTree$Link" "tied" "Z" "EpochTree"),
  (Jvm.Cond.fieldLinkNest "EpochTree" (229 : Nat) "EpochTree$Link" "acked" "Z" "EpochTree"),
  (Jvm.Cond.fieldLinkNest "EpochTree" (210 : Nat) "EpochTree$Link" "waitsForList" "Z" "EpochTree"),
  (Jvm.Cond.methodLinkNest "EpochTree$Server" (45 : Nat) ({ cls := "EpochTree$Term", name := "<init>", desc := "()V" } : Jvm.MethodName) "EpochTree"),
  (Jvm.Cond.fieldLinkNest "EpochTree" (188 : Nat) "EpochTree$Term" "epochChosen" "Z" "EpochTree"),
  (Jvm.Cond.fieldLinkNest "EpochTree" (197 : Nat) "EpochTree$Term" "listChosen" "Z" "EpochTree"),
  (Jvm.Cond.fieldLinkNest "EpochTree" (239 : Nat) "EpochTree$Term" "made" "I" "EpochTree"),
  (Jvm.Cond.fieldLinkNest "EpochTree" (151 : Nat) "EpochTree$Term" "ages" "[I" "EpochTree"),
  (Jvm.Cond.fieldLinkNest "EpochTree" (178 : Nat) "EpochTree$Server" "number" "I" "EpochTree"),
  (Jvm.Cond.fieldLinkNest "EpochTree" (52 : Nat) "EpochTree$Server" "promise" "I" "EpochTree"),
  (Jvm.Cond.fieldLinkNest "EpochTree" (155 : Nat) "EpochTree$Server" "epoch" "I" "EpochTree"),
  (Jvm.Cond.fieldLinkNest "EpochTree" (114 : Nat) "EpochTree$Server" "list" "LEpochTree$EntryList;" "EpochTree"),
  (Jvm.Cond.fieldLinkNest "EpochTree" (22 : Nat) "EpochTree$Server" "role" "I" "EpochTree"),
  (Jvm.Cond.fieldLinkNest "EpochTree" (39 : Nat) "EpochTree$Server" "leader" "I" "EpochTree"),
  (Jvm.Cond.fieldLinkNest "EpochTree" (162 : Nat) "EpochTree$Server" "applied" "I" "EpochTree"),
  (Jvm.Cond.fieldLinkNest "EpochTree" (165 : Nat) "EpochTree$Server" "results" "[I" "EpochTree"),
  (Jvm.Cond.fieldLinkNest "EpochTree" (142 : Nat) "EpochTree$Server" "tree" "LEpochTree$Tree;" "EpochTree"),
  (Jvm.Cond.fieldLinkNest "EpochTree" (42 : Nat) "EpochTree$Server" "link" "LEpochTree$Link;" "EpochTree"),
  (Jvm.Cond.fieldLinkNest "EpochTree" (26 : Nat) "EpochTree$Server" "term" "LEpochTree$Term;" "EpochTree"),
  (Jvm.Cond.methodLinkNest "EpochTree" (30 : Nat) ({ cls := "EpochTree$Term", name := "begin", desc := "()V" } : Jvm.MethodName) "EpochTree"),
  (Jvm.Cond.methodLinkNest "EpochTree" (55 : Nat) ({ cls := "EpochTree$Row", name := "send", desc := "(II)V" } : Jvm.MethodName) "EpochTree"),
  (Jvm.Cond.methodLinkNest "EpochTree" (185 : Nat) ({ cls := "EpochTree$Link", name := "clear", desc := "()V" } : Jvm.MethodName) "EpochTree"),
  (Jvm.Cond.methodLinkNest "EpochTree$Link" (23 : Nat) ({ cls := "EpochTree$Row", name := "clear", desc := "()V" } : Jvm.MethodName) "EpochTree"),
  (Jvm.Cond.methodLinkNest "EpochTree" (67 : Nat) ({ cls := "EpochTree$Server", name := "forgetApplied", desc := "()V" } : Jvm.MethodName) "EpochTree"),
  (Jvm.Cond.methodLinkNest "EpochTree$Server" (78 : Nat) ({ cls := "EpochTree$Tree", name := "clear", desc := "()V" } : Jvm.MethodName) "EpochTree"),
  (Jvm.Cond.methodLinkNest "EpochTree" (70 : Nat) ({ cls := "EpochTree$Row", name := "count", desc := "()I" } : Jvm.MethodName) "EpochTree"),
  (Jvm.Cond.methodLinkNest "EpochTree" (74 : Nat) ({ cls := "EpochTree$Row", name := "firstKind", desc := "()I" } : Jvm.MethodName) "EpochTree"),
  (Jvm.Cond.methodLinkNest "EpochTree" (77 : Nat) ({ cls := "EpochTree$Row", name := "firstValue", desc := "()I" } : Jvm.MethodName) "EpochTree"),
  (Jvm.Cond.methodLinkNest "EpochTree" (80 : Nat) ({ cls := "EpochTree$Row", name := "dropFirst", desc := "()V" } : Jvm.MethodName) "EpochTree"),
  (Jvm.Cond.methodLinkNest "EpochTree" (213 : Nat) ({ cls := "EpochTree$EntryList", name := "lastMark", desc := "()I" } : Jvm.MethodName) "EpochTree"),
  (Jvm.Cond.methodLinkNest "EpochTree" (216 : Nat) ({ cls := "EpochTree$EntryList", name := "becomeFirst", desc := "(LEpochTree$EntryList;I)V" } : Jvm.MethodName) "EpochTree"),
  (Jvm.Cond.methodLinkNest "EpochTree" (107 : Nat) ({ cls := "EpochTree$Server", name := "applyUpTo", desc := "(I)V" } : Jvm.MethodName) "EpochTree"),
  (Jvm.Cond.methodLinkNest "EpochTree$Server" (74 : Nat) ({ cls := "EpochTree$Tree", name := "change", desc := "(IIII)I" } : Jvm.MethodName) "EpochTree"),
  (Jvm.Cond.methodLinkNest "EpochTree$Tree" (31 : Nat) ({ cls := "EpochTree", name := "isSession", desc := "(I)Z" } : Jvm.MethodName) "EpochTree"),
  (Jvm.Cond.methodLinkNest "EpochTree" (236 : Nat) ({ cls := "EpochTree$EntryList", name := "appendFrom", desc := "(LEpochTree$EntryList;I)V" } : Jvm.MethodName) "EpochTree"),
  (Jvm.Cond.methodLinkNest "EpochTree" (118 : Nat) ({ cls := "EpochTree$EntryList", name := "isFull", desc := "()Z" } : Jvm.MethodName) "EpochTree"),
  (Jvm.Cond.methodLinkNest "EpochTree" (242 : Nat) ({ cls := "EpochTree$EntryList", name := "append", desc := "(IIIII)V" } : Jvm.MethodName) "EpochTree"),
  (Jvm.Cond.methodLinkNest "EpochTree" (146 : Nat) ({ cls := "EpochTree$Tree", name := "isOpen", desc := "(I)Z" } : Jvm.MethodName) "EpochTree"),
  (Jvm.Cond.methodLinkNest "EpochTree" (158 : Nat) ({ cls := "EpochTree$EntryList", name := "markAt", desc := "(I)I" } : Jvm.MethodName) "EpochTree"),
  (Jvm.Cond.methodLinkNest "EpochTree" (168 : Nat) ({ cls := "EpochTree$Tree", name := "look", desc := "(II)I" } : Jvm.MethodName) "EpochTree"),
  (Jvm.Cond.methodLinkNest "EpochTree" (172 : Nat) ({ cls := "EpochTree$Tree", name := "summary", desc := "()I" } : Jvm.MethodName) "EpochTree")]
set_option maxRecDepth 20000 in
theorem nb_0 : (Jvm.Cond.arrayOver (Jvm.ClassFile.FieldType.object "EpochTree$Server")) ∈ nb := List.mem_of_getElem? (i := 0) rfl
set_option maxRecDepth 20000 in
theorem nb_1 : (Jvm.Cond.methodLinkNest "EpochTree" (15 : Nat) ({ cls := "EpochTree$Server", name := "<init>", desc := "(I)V" } : Jvm.MethodName) "EpochTree") ∈ nb := List.mem_of_getElem? (i := 1) rfl
set_option maxRecDepth 20000 in
theorem nb_2 : (Jvm.Cond.methodLinkNest "EpochTree$Server" (17 : Nat) ({ cls := "EpochTree$EntryList", name := "<init>", desc := "()V" } : Jvm.MethodName) "EpochTree") ∈ nb := List.mem_of_getElem? (i := 2) rfl
set_option maxRecDepth 20000 in
theorem nb_3 : (Jvm.Cond.fieldLinkNest "EpochTree$Server" (62 : Nat) "EpochTree$EntryList" "kinds" "[I" "EpochTree") ∈ nb := List.mem_of_getElem? (i := 3) rfl
set_option maxRecDepth 20000 in
theorem nb_4 : (Jvm.Cond.fieldLinkNest "EpochTree$Server" (65 : Nat) "EpochTree$EntryList" "paths" "[I" "EpochTree") ∈ nb := List.mem_of_getElem? (i := 4) rfl
set_option maxRecDepth 20000 in
theorem nb_5 : (Jvm.Cond.fieldLinkNest "EpochTree$Server" (68 : Nat) "EpochTree$EntryList" "as" "[I" "EpochTree") ∈ nb := List.mem_of_getElem? (i := 5) rfl
set_option maxRecDepth 20000 in
theorem nb_6 : (Jvm.Cond.fieldLinkNest "EpochTree$Server" (71 : Nat) "EpochTree$EntryList" "bs" "[I" "EpochTree") ∈ nb := List.mem_of_getElem? (i := 6) rfl
set_option maxRecDepth 20000 in
theorem nb_7 : (Jvm.Cond.fieldLinkNest "EpochTree$Server" (50 : Nat) "EpochTree$EntryList" "size" "I" "EpochTree") ∈ nb := List.mem_of_getElem? (i := 7) rfl
set_option maxRecDepth 20000 in
theorem nb_8 : (Jvm.Cond.fieldLinkNest "EpochTree" (128 : Nat) "EpochTree$EntryList" "size" "I" "EpochTree") ∈ nb := List.mem_of_getElem? (i := 8) rfl
set_option maxRecDepth 20000 in
theorem nb_9 : (Jvm.Cond.methodLinkNest "EpochTree$Server" (31 : Nat) ({ cls := "EpochTree$Tree", name := "<init>", desc := "()V" } : Jvm.MethodName) "EpochTree") ∈ nb := List.mem_of_getElem? (i := 9) rfl
set_option maxRecDepth 20000 in
theorem nb_10 : (Jvm.Cond.methodLinkNest "EpochTree$Server" (38 : Nat) ({ cls := "EpochTree$Link", name := "<init>", desc := "()V" } : Jvm.MethodName) "EpochTree") ∈ nb := List.mem_of_getElem? (i := 10) rfl
set_option maxRecDepth 20000 in
theorem nb_11 : (Jvm.Cond.methodLinkNest "EpochTree$Link" (11 : Nat) ({ cls := "EpochTree$Row", name := "<init>", desc := "(I)V" } : Jvm.MethodName) "EpochTree") ∈ nb := List.mem_of_getElem? (i := 11) rfl
set_option maxRecDepth 20000 in
theorem nb_12 : (Jvm.Cond.fieldLinkNest "EpochTree" (46 : Nat) "EpochTree$Link" "up" "LEpochTree$Row;" "EpochTree") ∈ nb := List.mem_of_getElem? (i := 12) rfl
set_option maxRecDepth 20000 in
theorem nb_13 : (Jvm.Cond.fieldLinkNest "EpochTree" (94 : Nat) "EpochTree$Link" "down" "LEpochTree$Row;" "EpochTree") ∈ nb := List.mem_of_getElem? (i := 13) rfl
set_option maxRecDepth 20000 in
theorem nb_14 : (Jvm.Cond.fieldLinkNest "EpochTree" (220 : Nat) "EpochTree$Link" "tied" "Z" "EpochTree") ∈ nb := List.mem_of_getElem? (i := 14) rfl
set_option maxRecDepth 20000 in
theorem nb_15 : (Jvm.Cond.fieldLinkNest "EpochTree" (229 : Nat) "EpochTree$Link" "acked" "Z" "EpochTree") ∈ nb := List.mem_of_getElem? (i := 15) rfl
set_option maxRecDepth 20000 in
theorem nb_16 : (Jvm.Cond.fieldLinkNest "EpochTree" (210 : Nat) "EpochTree$Link" "waitsForList" "Z" "EpochTree") ∈ nb := List.mem_of_getElem? (i := 16) rfl
set_option maxRecDepth 20000 in
theorem nb_17 : (Jvm.Cond.methodLinkNest "EpochTree$Server" (45 : Nat) ({ cls := "EpochTree$Term", name := "<init>", desc := "()V" } : Jvm.MethodName) "EpochTree") ∈ nb := List.mem_of_getElem? (i := 17) rfl
set_option maxRecDepth 20000 in
theorem nb_18 : (Jvm.Cond.fieldLinkNest "EpochTree" (188 : Nat) "EpochTree$Term" "epochChosen" "Z" "EpochTree") ∈ nb := List.mem_of_getElem? (i := 18) rfl
set_option maxRecDepth 20000 in
theorem nb_19 : (Jvm.Cond.fieldLinkNest "EpochTree" (197 : Nat) "EpochTree$Term" "listChosen" "Z" "EpochTree") ∈ nb := List.mem_of_getElem? (i := 19) rfl
set_option maxRecDepth 20000 in
theorem nb_20 : (Jvm.Cond.fieldLinkNest "EpochTree" (239 : Nat) "EpochTree$Term" "made" "I" "EpochTree") ∈ nb := List.mem_of_getElem? (i := 20) rfl
set_option maxRecDepth 20000 in
theorem nb_21 : (Jvm.Cond.fieldLinkNest "EpochTree" (151 : Nat) "EpochTree$Term" "ages" "[I" "EpochTree") ∈ nb := List.mem_of_getElem? (i := 21) rfl
set_option maxRecDepth 20000 in
theorem nb_22 : (Jvm.Cond.fieldLinkNest "EpochTree" (178 : Nat) "EpochTree$Server" "number" "I" "EpochTree") ∈ nb := List.mem_of_getElem? (i := 22) rfl
set_option maxRecDepth 20000 in
theorem nb_23 : (Jvm.Cond.fieldLinkNest "EpochTree" (52 : Nat) "EpochTree$Server" "promise" "I" "EpochTree") ∈ nb := List.mem_of_getElem? (i := 23) rfl
set_option maxRecDepth 20000 in
theorem nb_24 : (Jvm.Cond.fieldLinkNest "EpochTree" (155 : Nat) "EpochTree$Server" "epoch" "I" "EpochTree") ∈ nb := List.mem_of_getElem? (i := 24) rfl
set_option maxRecDepth 20000 in
theorem nb_25 : (Jvm.Cond.fieldLinkNest "EpochTree" (114 : Nat) "EpochTree$Server" "list" "LEpochTree$EntryList;" "EpochTree") ∈ nb := List.mem_of_getElem? (i := 25) rfl
set_option maxRecDepth 20000 in
theorem nb_26 : (Jvm.Cond.fieldLinkNest "EpochTree" (22 : Nat) "EpochTree$Server" "role" "I" "EpochTree") ∈ nb := List.mem_of_getElem? (i := 26) rfl
set_option maxRecDepth 20000 in
theorem nb_27 : (Jvm.Cond.fieldLinkNest "EpochTree" (39 : Nat) "EpochTree$Server" "leader" "I" "EpochTree") ∈ nb := List.mem_of_getElem? (i := 27) rfl
set_option maxRecDepth 20000 in
theorem nb_28 : (Jvm.Cond.fieldLinkNest "EpochTree" (162 : Nat) "EpochTree$Server" "applied" "I" "EpochTree") ∈ nb := List.mem_of_getElem? (i := 28) rfl
set_option maxRecDepth 20000 in
theorem nb_29 : (Jvm.Cond.fieldLinkNest "EpochTree" (165 : Nat) "EpochTree$Server" "results" "[I" "EpochTree") ∈ nb := List.mem_of_getElem? (i := 29) rfl
set_option maxRecDepth 20000 in
theorem nb_30 : (Jvm.Cond.fieldLinkNest "EpochTree" (142 : Nat) "EpochTree$Server" "tree" "LEpochTree$Tree;" "EpochTree") ∈ nb := List.mem_of_getElem? (i := 30) rfl
set_option maxRecDepth 20000 in
theorem nb_31 : (Jvm.Cond.fieldLinkNest "EpochTree" (42 : Nat) "EpochTree$Server" "link" "LEpochTree$Link;" "EpochTree") ∈ nb := List.mem_of_getElem? (i := 31) rfl
set_option maxRecDepth 20000 in
theorem nb_32 : (Jvm.Cond.fieldLinkNest "EpochTree" (26 : Nat) "EpochTree$Server" "term" "LEpochTree$Term;" "EpochTree") ∈ nb := List.mem_of_getElem? (i := 32) rfl
set_option maxRecDepth 20000 in
theorem nb_33 : (Jvm.Cond.methodLinkNest "EpochTree" (30 : Nat) ({ cls := "EpochTree$Term", name := "begin", desc := "()V" } : Jvm.MethodName) "EpochTree") ∈ nb := List.mem_of_getElem? (i := 33) rfl
set_option maxRecDepth 20000 in
theorem nb_34 : (Jvm.Cond.methodLinkNest "EpochTree" (55 : Nat) ({ cls := "EpochTree$Row", name := "send", desc := "(II)V" } : Jvm.MethodName) "EpochTree") ∈ nb := List.mem_of_getElem? (i := 34) rfl
set_option maxRecDepth 20000 in
theorem nb_35 : (Jvm.Cond.methodLinkNest "EpochTree" (185 : Nat) ({ cls := "EpochTree$Link", name := "clear", desc := "()V" } : Jvm.MethodName) "EpochTree") ∈ nb := List.mem_of_getElem? (i := 35) rfl
set_option maxRecDepth 20000 in
theorem nb_36 : (Jvm.Cond.methodLinkNest "EpochTree$Link" (23 : Nat) ({ cls := "EpochTree$Row", name := "clear", desc := "()V" } : Jvm.MethodName) "EpochTree") ∈ nb := List.mem_of_getElem? (i := 36) rfl
set_option maxRecDepth 20000 in
theorem nb_37 : (Jvm.Cond.methodLinkNest "EpochTree" (67 : Nat) ({ cls := "EpochTree$Server", name := "forgetApplied", desc := "()V" } : Jvm.MethodName) "EpochTree") ∈ nb := List.mem_of_getElem? (i := 37) rfl
set_option maxRecDepth 20000 in
theorem nb_38 : (Jvm.Cond.methodLinkNest "EpochTree$Server" (78 : Nat) ({ cls := "EpochTree$Tree", name := "clear", desc := "()V" } : Jvm.MethodName) "EpochTree") ∈ nb := List.mem_of_getElem? (i := 38) rfl
set_option maxRecDepth 20000 in
theorem nb_39 : (Jvm.Cond.methodLinkNest "EpochTree" (70 : Nat) ({ cls := "EpochTree$Row", name := "count", desc := "()I" } : Jvm.MethodName) "EpochTree") ∈ nb := List.mem_of_getElem? (i := 39) rfl
set_option maxRecDepth 20000 in
theorem nb_40 : (Jvm.Cond.methodLinkNest "EpochTree" (74 : Nat) ({ cls := "EpochTree$Row", name := "firstKind", desc := "()I" } : Jvm.MethodName) "EpochTree") ∈ nb := List.mem_of_getElem? (i := 40) rfl
set_option maxRecDepth 20000 in
theorem nb_41 : (Jvm.Cond.methodLinkNest "EpochTree" (77 : Nat) ({ cls := "EpochTree$Row", name := "firstValue", desc := "()I" } : Jvm.MethodName) "EpochTree") ∈ nb := List.mem_of_getElem? (i := 41) rfl
set_option maxRecDepth 20000 in
theorem nb_42 : (Jvm.Cond.methodLinkNest "EpochTree" (80 : Nat) ({ cls := "EpochTree$Row", name := "dropFirst", desc := "()V" } : Jvm.MethodName) "EpochTree") ∈ nb := List.mem_of_getElem? (i := 42) rfl
set_option maxRecDepth 20000 in
theorem nb_43 : (Jvm.Cond.methodLinkNest "EpochTree" (213 : Nat) ({ cls := "EpochTree$EntryList", name := "lastMark", desc := "()I" } : Jvm.MethodName) "EpochTree") ∈ nb := List.mem_of_getElem? (i := 43) rfl
set_option maxRecDepth 20000 in
theorem nb_44 : (Jvm.Cond.methodLinkNest "EpochTree" (216 : Nat) ({ cls := "EpochTree$EntryList", name := "becomeFirst", desc := "(LEpochTree$EntryList;I)V" } : Jvm.MethodName) "EpochTree") ∈ nb := List.mem_of_getElem? (i := 44) rfl
set_option maxRecDepth 20000 in
theorem nb_45 : (Jvm.Cond.methodLinkNest "EpochTree" (107 : Nat) ({ cls := "EpochTree$Server", name := "applyUpTo", desc := "(I)V" } : Jvm.MethodName) "EpochTree") ∈ nb := List.mem_of_getElem? (i := 45) rfl
set_option maxRecDepth 20000 in
theorem nb_46 : (Jvm.Cond.methodLinkNest "EpochTree$Server" (74 : Nat) ({ cls := "EpochTree$Tree", name := "change", desc := "(IIII)I" } : Jvm.MethodName) "EpochTree") ∈ nb := List.mem_of_getElem? (i := 46) rfl
set_option maxRecDepth 20000 in
theorem nb_47 : (Jvm.Cond.methodLinkNest "EpochTree$Tree" (31 : Nat) ({ cls := "EpochTree", name := "isSession", desc := "(I)Z" } : Jvm.MethodName) "EpochTree") ∈ nb := List.mem_of_getElem? (i := 47) rfl
set_option maxRecDepth 20000 in
theorem nb_48 : (Jvm.Cond.methodLinkNest "EpochTree" (236 : Nat) ({ cls := "EpochTree$EntryList", name := "appendFrom", desc := "(LEpochTree$EntryList;I)V" } : Jvm.MethodName) "EpochTree") ∈ nb := List.mem_of_getElem? (i := 48) rfl
set_option maxRecDepth 20000 in
theorem nb_49 : (Jvm.Cond.methodLinkNest "EpochTree" (118 : Nat) ({ cls := "EpochTree$EntryList", name := "isFull", desc := "()Z" } : Jvm.MethodName) "EpochTree") ∈ nb := List.mem_of_getElem? (i := 49) rfl
set_option maxRecDepth 20000 in
theorem nb_50 : (Jvm.Cond.methodLinkNest "EpochTree" (242 : Nat) ({ cls := "EpochTree$EntryList", name := "append", desc := "(IIIII)V" } : Jvm.MethodName) "EpochTree") ∈ nb := List.mem_of_getElem? (i := 50) rfl
set_option maxRecDepth 20000 in
theorem nb_51 : (Jvm.Cond.methodLinkNest "EpochTree" (146 : Nat) ({ cls := "EpochTree$Tree", name := "isOpen", desc := "(I)Z" } : Jvm.MethodName) "EpochTree") ∈ nb := List.mem_of_getElem? (i := 51) rfl
set_option maxRecDepth 20000 in
theorem nb_52 : (Jvm.Cond.methodLinkNest "EpochTree" (158 : Nat) ({ cls := "EpochTree$EntryList", name := "markAt", desc := "(I)I" } : Jvm.MethodName) "EpochTree") ∈ nb := List.mem_of_getElem? (i := 52) rfl
set_option maxRecDepth 20000 in
theorem nb_53 : (Jvm.Cond.methodLinkNest "EpochTree" (168 : Nat) ({ cls := "EpochTree$Tree", name := "look", desc := "(II)I" } : Jvm.MethodName) "EpochTree") ∈ nb := List.mem_of_getElem? (i := 53) rfl
set_option maxRecDepth 20000 in
theorem nb_54 : (Jvm.Cond.methodLinkNest "EpochTree" (172 : Nat) ({ cls := "EpochTree$Tree", name := "summary", desc := "()I" } : Jvm.MethodName) "EpochTree") ∈ nb := List.mem_of_getElem? (i := 54) rfl
end
section
theorem dX0_init_0 : decode cX0_init 0 = .ok (.aload_n 0, 1) := by decide +kernel
theorem dX0_init_1 : decode cX0_init 1 = .ok (.invokespecial 3, 3) := by decide +kernel
theorem dX0_init_4 : decode cX0_init 4 = .ok (.aload_n 0, 1) := by decide +kernel
theorem dX0_init_5 : decode cX0_init 5 = .ok (.bipush 24, 2) := by decide +kernel
theorem dX0_init_7 : decode cX0_init 7 = .ok (.newarray .int, 2) := by decide +kernel
theorem dX0_init_9 : decode cX0_init 9 = .ok (.putfield 9, 3) := by decide +kernel
theorem dX0_init_12 : decode cX0_init 12 = .ok (.aload_n 0, 1) := by decide +kernel
theorem dX0_init_13 : decode cX0_init 13 = .ok (.bipush 24, 2) := by decide +kernel
theorem dX0_init_15 : decode cX0_init 15 = .ok (.newarray .int, 2) := by decide +kernel
theorem dX0_init_17 : decode cX0_init 17 = .ok (.putfield 15, 3) := by decide +kernel
theorem dX0_init_20 : decode cX0_init 20 = .ok (.aload_n 0, 1) := by decide +kernel
theorem dX0_init_21 : decode cX0_init 21 = .ok (.bipush 24, 2) := by decide +kernel
theorem dX0_init_23 : decode cX0_init 23 = .ok (.newarray .int, 2) := by decide +kernel
theorem dX0_init_25 : decode cX0_init 25 = .ok (.putfield 18, 3) := by decide +kernel
theorem dX0_init_28 : decode cX0_init 28 = .ok (.aload_n 0, 1) := by decide +kernel
theorem dX0_init_29 : decode cX0_init 29 = .ok (.bipush 24, 2) := by decide +kernel
theorem dX0_init_31 : decode cX0_init 31 = .ok (.newarray .int, 2) := by decide +kernel
theorem dX0_init_33 : decode cX0_init 33 = .ok (.putfield 21, 3) := by decide +kernel
theorem dX0_init_36 : decode cX0_init 36 = .ok (.aload_n 0, 1) := by decide +kernel
theorem dX0_init_37 : decode cX0_init 37 = .ok (.bipush 24, 2) := by decide +kernel
theorem dX0_init_39 : decode cX0_init 39 = .ok (.newarray .int, 2) := by decide +kernel
theorem dX0_init_41 : decode cX0_init 41 = .ok (.putfield 24, 3) := by decide +kernel
theorem dX0_init_44 : decode cX0_init 44 = .ok (.return_, 1) := by decide +kernel
theorem dX0_isFull_0 : decode cX0_isFull 0 = .ok (.aload_n 0, 1) := by decide +kernel
theorem dX0_isFull_1 : decode cX0_isFull 1 = .ok (.getfield 27, 3) := by decide +kernel
theorem dX0_isFull_4 : decode cX0_isFull 4 = .ok (.bipush 24, 2) := by decide +kernel
theorem dX0_isFull_6 : decode cX0_isFull 6 = .ok (.if_icmp .lt 7, 3) := by decide +kernel
theorem dX0_isFull_9 : decode cX0_isFull 9 = .ok (.iconst 1, 1) := by decide +kernel
theorem dX0_isFull_10 : decode cX0_isFull 10 = .ok (.goto 4, 3) := by decide +kernel
theorem dX0_isFull_13 : decode cX0_isFull 13 = .ok (.iconst 0, 1) := by decide +kernel
theorem dX0_isFull_14 : decode cX0_isFull 14 = .ok (.ireturn, 1) := by decide +kernel
theorem dX0_markAt_0 : decode cX0_markAt 0 = .ok (.iload_n 1, 1) := by decide +kernel
theorem dX0_markAt_1 : decode cX0_markAt 1 = .ok (.iconst 1, 1) := by decide +kernel
theorem dX0_markAt_2 : decode cX0_markAt 2 = .ok (.if_icmp .lt 22, 3) := by decide +kernel
theorem dX0_markAt_5 : decode cX0_markAt 5 = .ok (.iload_n 1, 1) := by decide +kernel
theorem dX0_markAt_6 : decode cX0_markAt 6 = .ok (.aload_n 0, 1) := by decide +kernel
theorem dX0_markAt_7 : decode cX0_markAt 7 = .ok (.getfield 27, 3) := by decide +kernel
theorem dX0_markAt_10 : decode cX0_markAt 10 = .ok (.if_icmp .gt 14, 3) := by decide +kernel
theorem dX0_markAt_13 : decode cX0_markAt 13 = .ok (.aload_n 0, 1) := by decide +kernel
theorem dX0_markAt_14 : decode cX0_markAt 14 = .ok (.getfield 9, 3) := by decide +kernel
theorem dX0_markAt_17 : decode cX0_markAt 17 = .ok (.iload_n 1, 1) := by decide +kernel
theorem dX0_markAt_18 : decode cX0_markAt 18 = .ok (.iconst 1, 1) := by decide +kernel
theorem dX0_markAt_19 : decode cX0_markAt 19 = .ok (.isub, 1) := by decide +kernel
theorem dX0_markAt_20 : decode cX0_markAt 20 = .ok (.iaload, 1) := by decide +kernel
theorem dX0_markAt_21 : decode cX0_markAt 21 = .ok (.goto 4, 3) := by decide +kernel
theorem dX0_markAt_24 : decode cX0_markAt 24 = .ok (.iconst 0, 1) := by decide +kernel
theorem dX0_markAt_25 : decode cX0_markAt 25 = .ok (.ireturn, 1) := by decide +kernel
theorem dX0_lastMark_0 : decode cX0_lastMark 0 = .ok (.aload_n 0, 1) := by decide +kernel
theorem dX0_lastMark_1 : decode cX0_lastMark 1 = .ok (.aload_n 0, 1) := by decide +kernel
theorem dX0_lastMark_2 : decode cX0_lastMark 2 = .ok (.getfield 27, 3) := by decide +kernel
theorem dX0_lastMark_5 : decode cX0_lastMark 5 = .ok (.invokevirtual 31, 3) := by decide +kernel
theorem dX0_lastMark_8 : decode cX0_lastMark 8 = .ok (.ireturn, 1) := by decide +kernel
theorem dX0_append_0 : decode cX0_append 0 = .ok (.aload_n 0, 1) := by decide +kernel
theorem dX0_append_1 : decode cX0_append 1 = .ok (.invokevirtual 35, 3) := by decide +kernel
theorem dX0_append_4 : decode cX0_append 4 = .ok (.ifCond .eq 4, 3) := by decide +kernel
theorem dX0_append_7 : decode cX0_append 7 = .ok (.return_, 1) := by decide +kernel
theorem dX0_append_8 : decode cX0_append 8 = .ok (.aload_n 0, 1) := by decide +kernel
theorem dX0_append_9 : decode cX0_append 9 = .ok (.getfield 9, 3) := by decide +kernel
theorem dX0_append_12 : decode cX0_append 12 = .ok (.aload_n 0, 1) := by decide +kernel
theorem dX0_append_13 : decode cX0_append 13 = .ok (.getfield 27, 3) := by decide +kernel
theorem dX0_append_16 : decode cX0_append 16 = .ok (.iload_n 1, 1) := by decide +kernel
theorem dX0_append_17 : decode cX0_append 17 = .ok (.iastore, 1) := by decide +kernel
theorem dX0_append_18 : decode cX0_append 18 = .ok (.aload_n 0, 1) := by decide +kernel
theorem dX0_append_19 : decode cX0_append 19 = .ok (.getfield 15, 3) := by decide +kernel
theorem dX0_append_22 : decode cX0_append 22 = .ok (.aload_n 0, 1) := by decide +kernel
theorem dX0_append_23 : decode cX0_append 23 = .ok (.getfield 27, 3) := by decide +kernel
theorem dX0_append_26 : decode cX0_append 26 = .ok (.iload_n 2, 1) := by decide +kernel
theorem dX0_append_27 : decode cX0_append 27 = .ok (.iastore, 1) := by decide +kernel
theorem dX0_append_28 : decode cX0_append 28 = .ok (.aload_n 0, 1) := by decide +kernel
theorem dX0_append_29 : decode cX0_append 29 = .ok (.getfield 18, 3) := by decide +kernel
theorem dX0_append_32 : decode cX0_append 32 = .ok (.aload_n 0, 1) := by decide +kernel
theorem dX0_append_33 : decode cX0_append 33 = .ok (.getfield 27, 3) := by decide +kernel
theorem dX0_append_36 : decode cX0_append 36 = .ok (.iload_n 3, 1) := by decide +kernel
theorem dX0_append_37 : decode cX0_append 37 = .ok (.iastore, 1) := by decide +kernel
theorem dX0_append_38 : decode cX0_append 38 = .ok (.aload_n 0, 1) := by decide +kernel
theorem dX0_append_39 : decode cX0_append 39 = .ok (.getfield 21, 3) := by decide +kernel
theorem dX0_append_42 : decode cX0_append 42 = .ok (.aload_n 0, 1) := by decide +kernel
theorem dX0_append_43 : decode cX0_append 43 = .ok (.getfield 27, 3) := by decide +kernel
theorem dX0_append_46 : decode cX0_append 46 = .ok (.iload 4, 2) := by decide +kernel
theorem dX0_append_48 : decode cX0_append 48 = .ok (.iastore, 1) := by decide +kernel
theorem dX0_append_49 : decode cX0_append 49 = .ok (.aload_n 0, 1) := by decide +kernel
theorem dX0_append_50 : decode cX0_append 50 = .ok (.getfield 24, 3) := by decide +kernel
theorem dX0_append_53 : decode cX0_append 53 = .ok (.aload_n 0, 1) := by decide +kernel
theorem dX0_append_54 : decode cX0_append 54 = .ok (.getfield 27, 3) := by decide +kernel
theorem dX0_append_57 : decode cX0_append 57 = .ok (.iload 5, 2) := by decide +kernel
theorem dX0_append_59 : decode cX0_append 59 = .ok (.iastore, 1) := by decide +kernel
theorem dX0_append_60 : decode cX0_append 60 = .ok (.aload_n 0, 1) := by decide +kernel
theorem dX0_append_61 : decode cX0_append 61 = .ok (.dup, 1) := by decide +kernel
theorem dX0_append_62 : decode cX0_append 62 = .ok (.getfield 27, 3) := by decide +kernel
theorem dX0_append_65 : decode cX0_append 65 = .ok (.iconst 1, 1) := by decide +kernel
theorem dX0_append_66 : decode cX0_append 66 = .ok (.iadd, 1) := by decide +kernel
theorem dX0_append_67 : decode cX0_append 67 = .ok (.putfield 27, 3) := by decide +kernel
theorem dX0_append_70 : decode cX0_append 70 = .ok (.return_, 1) := by decide +kernel
theorem dX0_appendFrom_0 : decode cX0_appendFrom 0 = .ok (.iload_n 2, 1) := by decide +kernel
theorem dX0_appendFrom_1 : decode cX0_appendFrom 1 = .ok (.iconst 1, 1) := by decide +kernel
theorem dX0_appendFrom_2 : decode cX0_appendFrom 2 = .ok (.if_icmp .lt 49, 3) := by decide +kernel
theorem dX0_appendFrom_5 : decode cX0_appendFrom 5 = .ok (.iload_n 2, 1) := by decide +kernel
theorem dX0_appendFrom_6 : decode cX0_appendFrom 6 = .ok (.aload_n 1, 1) := by decide +kernel
theorem dX0_appendFrom_7 : decode cX0_appendFrom 7 = .ok (.getfield 27, 3) := by decide +kernel
theorem dX0_appendFrom_10 : decode cX0_appendFrom 10 = .ok (.if_icmp .gt 41, 3) := by decide +kernel
theorem dX0_appendFrom_13 : decode cX0_appendFrom 13 = .ok (.iload_n 2, 1) := by decide +kernel
theorem dX0_appendFrom_14 : decode cX0_appendFrom 14 = .ok (.iconst 1, 1) := by decide +kernel
theorem dX0_appendFrom_15 : decode cX0_appendFrom 15 = .ok (.isub, 1) := by decide +kernel
theorem dX0_appendFrom_16 : decode cX0_appendFrom 16 = .ok (.istore_n 3, 1) := by decide +kernel
theorem dX0_appendFrom_17 : decode cX0_appendFrom 17 = .ok (.aload_n 0, 1) := by decide +kernel
theorem dX0_appendFrom_18 : decode cX0_appendFrom 18 = .ok (.aload_n 1, 1) := by decide +kernel
theorem dX0_appendFrom_19 : decode cX0_appendFrom 19 = .ok (.getfield 9, 3) := by decide +kernel
theorem dX0_appendFrom_22 : decode cX0_appendFrom 22 = .ok (.iload_n 3, 1) := by decide +kernel
theorem dX0_appendFrom_23 : decode cX0_appendFrom 23 = .ok (.iaload, 1) := by decide +kernel
theorem dX0_appendFrom_24 : decode cX0_appendFrom 24 = .ok (.aload_n 1, 1) := by decide +kernel
theorem dX0_appendFrom_25 : decode cX0_appendFrom 25 = .ok (.getfield 15, 3) := by decide +kernel
theorem dX0_appendFrom_28 : decode cX0_appendFrom 28 = .ok (.iload_n 3, 1) := by decide +kernel
theorem dX0_appendFrom_29 : decode cX0_appendFrom 29 = .ok (.iaload, 1) := by decide +kernel
theorem dX0_appendFrom_30 : decode cX0_appendFrom 30 = .ok (.aload_n 1, 1) := by decide +kernel
theorem dX0_appendFrom_31 : decode cX0_appendFrom 31 = .ok (.getfield 18, 3) := by decide +kernel
theorem dX0_appendFrom_34 : decode cX0_appendFrom 34 = .ok (.iload_n 3, 1) := by decide +kernel
theorem dX0_appendFrom_35 : decode cX0_appendFrom 35 = .ok (.iaload, 1) := by decide +kernel
theorem dX0_appendFrom_36 : decode cX0_appendFrom 36 = .ok (.aload_n 1, 1) := by decide +kernel
theorem dX0_appendFrom_37 : decode cX0_appendFrom 37 = .ok (.getfield 21, 3) := by decide +kernel
theorem dX0_appendFrom_40 : decode cX0_appendFrom 40 = .ok (.iload_n 3, 1) := by decide +kernel
theorem dX0_appendFrom_41 : decode cX0_appendFrom 41 = .ok (.iaload, 1) := by decide +kernel
theorem dX0_appendFrom_42 : decode cX0_appendFrom 42 = .ok (.aload_n 1, 1) := by decide +kernel
theorem dX0_appendFrom_43 : decode cX0_appendFrom 43 = .ok (.getfield 24, 3) := by decide +kernel
theorem dX0_appendFrom_46 : decode cX0_appendFrom 46 = .ok (.iload_n 3, 1) := by decide +kernel
theorem dX0_appendFrom_47 : decode cX0_appendFrom 47 = .ok (.iaload, 1) := by decide +kernel
theorem dX0_appendFrom_48 : decode cX0_appendFrom 48 = .ok (.invokevirtual 39, 3) := by decide +kernel
theorem dX0_appendFrom_51 : decode cX0_appendFrom 51 = .ok (.return_, 1) := by decide +kernel
theorem dX0_becomeFirst_0 : decode cX0_becomeFirst 0 = .ok (.aload_n 0, 1) := by decide +kernel
theorem dX0_becomeFirst_1 : decode cX0_becomeFirst 1 = .ok (.iconst 0, 1) := by decide +kernel
theorem dX0_becomeFirst_2 : decode cX0_becomeFirst 2 = .ok (.putfield 27, 3) := by decide +kernel
theorem dX0_becomeFirst_5 : decode cX0_becomeFirst 5 = .ok (.iconst 1, 1) := by decide +kernel
theorem dX0_becomeFirst_6 : decode cX0_becomeFirst 6 = .ok (.istore_n 3, 1) := by decide +kernel
theorem dX0_becomeFirst_7 : decode cX0_becomeFirst 7 = .ok (.iload_n 3, 1) := by decide +kernel
theorem dX0_becomeFirst_8 : decode cX0_becomeFirst 8 = .ok (.iload_n 2, 1) := by decide +kernel
theorem dX0_becomeFirst_9 : decode cX0_becomeFirst 9 = .ok (.if_icmp .gt 23, 3) := by decide +kernel
theorem dX0_becomeFirst_12 : decode cX0_becomeFirst 12 = .ok (.iload_n 3, 1) := by decide +kernel
theorem dX0_becomeFirst_13 : decode cX0_becomeFirst 13 = .ok (.aload_n 1, 1) := by decide +kernel
theorem dX0_becomeFirst_14 : decode cX0_becomeFirst 14 = .ok (.getfield 27, 3) := by decide +kernel
theorem dX0_becomeFirst_17 : decode cX0_becomeFirst 17 = .ok (.if_icmp .gt 15, 3) := by decide +kernel
theorem dX0_becomeFirst_20 : decode cX0_becomeFirst 20 = .ok (.aload_n 0, 1) := by decide +kernel
theorem dX0_becomeFirst_21 : decode cX0_becomeFirst 21 = .ok (.aload_n 1, 1) := by decide +kernel
theorem dX0_becomeFirst_22 : decode cX0_becomeFirst 22 = .ok (.iload_n 3, 1) := by decide +kernel
theorem dX0_becomeFirst_23 : decode cX0_becomeFirst 23 = .ok (.invokevirtual 43, 3) := by decide +kernel
theorem dX0_becomeFirst_26 : decode cX0_becomeFirst 26 = .ok (.iinc 3 1, 3) := by decide +kernel
theorem dX0_becomeFirst_29 : decode cX0_becomeFirst 29 = .ok (.goto (-22), 3) := by decide +kernel
theorem dX0_becomeFirst_32 : decode cX0_becomeFirst 32 = .ok (.return_, 1) := by decide +kernel
theorem dX1_init_0 : decode cX1_init 0 = .ok (.aload_n 0, 1) := by decide +kernel
theorem dX1_init_1 : decode cX1_init 1 = .ok (.invokespecial 3, 3) := by decide +kernel
theorem dX1_init_4 : decode cX1_init 4 = .ok (.aload_n 0, 1) := by decide +kernel
theorem dX1_init_5 : decode cX1_init 5 = .ok (.new 9, 3) := by decide +kernel
theorem dX1_init_8 : decode cX1_init 8 = .ok (.dup, 1) := by decide +kernel
theorem dX1_init_9 : decode cX1_init 9 = .ok (.bipush 27, 2) := by decide +kernel
theorem dX1_init_11 : decode cX1_init 11 = .ok (.invokespecial 11, 3) := by decide +kernel
theorem dX1_init_14 : decode cX1_init 14 = .ok (.putfield 14, 3) := by decide +kernel
theorem dX1_init_17 : decode cX1_init 17 = .ok (.aload_n 0, 1) := by decide +kernel
theorem dX1_init_18 : decode cX1_init 18 = .ok (.new 9, 3) := by decide +kernel
theorem dX1_init_21 : decode cX1_init 21 = .ok (.dup, 1) := by decide +kernel
theorem dX1_init_22 : decode cX1_init 22 = .ok (.bipush 51, 2) := by decide +kernel
theorem dX1_init_24 : decode cX1_init 24 = .ok (.invokespecial 11, 3) := by decide +kernel
theorem dX1_init_27 : decode cX1_init 27 = .ok (.putfield 20, 3) := by decide +kernel
theorem dX1_init_30 : decode cX1_init 30 = .ok (.return_, 1) := by decide +kernel
theorem dX1_clear_0 : decode cX1_clear 0 = .ok (.aload_n 0, 1) := by decide +kernel
theorem dX1_clear_1 : decode cX1_clear 1 = .ok (.getfield 14, 3) := by decide +kernel
theorem dX1_clear_4 : decode cX1_clear 4 = .ok (.invokevirtual 23, 3) := by decide +kernel
theorem dX1_clear_7 : decode cX1_clear 7 = .ok (.aload_n 0, 1) := by decide +kernel
theorem dX1_clear_8 : decode cX1_clear 8 = .ok (.getfield 20, 3) := by decide +kernel
theorem dX1_clear_11 : decode cX1_clear 11 = .ok (.invokevirtual 23, 3) := by decide +kernel
theorem dX1_clear_14 : decode cX1_clear 14 = .ok (.aload_n 0, 1) := by decide +kernel
theorem dX1_clear_15 : decode cX1_clear 15 = .ok (.iconst 0, 1) := by decide +kernel
theorem dX1_clear_16 : decode cX1_clear 16 = .ok (.putfield 26, 3) := by decide +kernel
theorem dX1_clear_19 : decode cX1_clear 19 = .ok (.aload_n 0, 1) := by decide +kernel
theorem dX1_clear_20 : decode cX1_clear 20 = .ok (.iconst 0, 1) := by decide +kernel
theorem dX1_clear_21 : decode cX1_clear 21 = .ok (.putfield 30, 3) := by decide +kernel
theorem dX1_clear_24 : decode cX1_clear 24 = .ok (.aload_n 0, 1) := by decide +kernel
theorem dX1_clear_25 : decode cX1_clear 25 = .ok (.iconst 0, 1) := by decide +kernel
theorem dX1_clear_26 : decode cX1_clear 26 = .ok (.putfield 33, 3) := by decide +kernel
theorem dX1_clear_29 : decode cX1_clear 29 = .ok (.return_, 1) := by decide +kernel
theorem dX2_init_0 : decode cX2_init 0 = .ok (.aload_n 0, 1) := by decide +kernel
theorem dX2_init_1 : decode cX2_init 1 = .ok (.invokespecial 1, 3) := by decide +kernel
theorem dX2_init_4 : decode cX2_init 4 = .ok (.aload_n 0, 1) := by decide +kernel
theorem dX2_init_5 : decode cX2_init 5 = .ok (.iload_n 1, 1) := by decide +kernel
theorem dX2_init_6 : decode cX2_init 6 = .ok (.newarray .int, 2) := by decide +kernel
theorem dX2_init_8 : decode cX2_init 8 = .ok (.putfield 7, 3) := by decide +kernel
theorem dX2_init_11 : decode cX2_init 11 = .ok (.aload_n 0, 1) := by decide +kernel
theorem dX2_init_12 : decode cX2_init 12 = .ok (.iload_n 1, 1) := by decide +kernel
theorem dX2_init_13 : decode cX2_init 13 = .ok (.newarray .int, 2) := by decide +kernel
theorem dX2_init_15 : decode cX2_init 15 = .ok (.putfield 13, 3) := by decide +kernel
theorem dX2_init_18 : decode cX2_init 18 = .ok (.return_, 1) := by decide +kernel
theorem dX2_clear_0 : decode cX2_clear 0 = .ok (.aload_n 0, 1) := by decide +kernel
theorem dX2_clear_1 : decode cX2_clear 1 = .ok (.iconst 0, 1) := by decide +kernel
theorem dX2_clear_2 : decode cX2_clear 2 = .ok (.putfield 16, 3) := by decide +kernel
theorem dX2_clear_5 : decode cX2_clear 5 = .ok (.aload_n 0, 1) := by decide +kernel
theorem dX2_clear_6 : decode cX2_clear 6 = .ok (.iconst 0, 1) := by decide +kernel
theorem dX2_clear_7 : decode cX2_clear 7 = .ok (.putfield 20, 3) := by decide +kernel
theorem dX2_clear_10 : decode cX2_clear 10 = .ok (.return_, 1) := by decide +kernel
theorem dX2_count_0 : decode cX2_count 0 = .ok (.aload_n 0, 1) := by decide +kernel
theorem dX2_count_1 : decode cX2_count 1 = .ok (.getfield 20, 3) := by decide +kernel
theorem dX2_count_4 : decode cX2_count 4 = .ok (.aload_n 0, 1) := by decide +kernel
theorem dX2_count_5 : decode cX2_count 5 = .ok (.getfield 16, 3) := by decide +kernel
theorem dX2_count_8 : decode cX2_count 8 = .ok (.isub, 1) := by decide +kernel
theorem dX2_count_9 : decode cX2_count 9 = .ok (.ireturn, 1) := by decide +kernel
theorem dX2_send_0 : decode cX2_send 0 = .ok (.aload_n 0, 1) := by decide +kernel
theorem dX2_send_1 : decode cX2_send 1 = .ok (.getfield 20, 3) := by decide +kernel
theorem dX2_send_4 : decode cX2_send 4 = .ok (.aload_n 0, 1) := by decide +kernel
theorem dX2_send_5 : decode cX2_send 5 = .ok (.getfield 7, 3) := by decide +kernel
theorem dX2_send_8 : decode cX2_send 8 = .ok (.arraylength, 1) := by decide +kernel
theorem dX2_send_9 : decode cX2_send 9 = .ok (.if_icmp .ge 33, 3) := by decide +kernel
theorem dX2_send_12 : decode cX2_send 12 = .ok (.aload_n 0, 1) := by decide +kernel
theorem dX2_send_13 : decode cX2_send 13 = .ok (.getfield 7, 3) := by decide +kernel
theorem dX2_send_16 : decode cX2_send 16 = .ok (.aload_n 0, 1) := by decide +kernel
theorem dX2_send_17 : decode cX2_send 17 = .ok (.getfield 20, 3) := by decide +kernel
theorem dX2_send_20 : decode cX2_send 20 = .ok (.iload_n 1, 1) := by decide +kernel
theorem dX2_send_21 : decode cX2_send 21 = .ok (.iastore, 1) := by decide +kernel
theorem dX2_send_22 : decode cX2_send 22 = .ok (.aload_n 0, 1) := by decide +kernel
theorem dX2_send_23 : decode cX2_send 23 = .ok (.getfield 13, 3) := by decide +kernel
theorem dX2_send_26 : decode cX2_send 26 = .ok (.aload_n 0, 1) := by decide +kernel
theorem dX2_send_27 : decode cX2_send 27 = .ok (.getfield 20, 3) := by decide +kernel
theorem dX2_send_30 : decode cX2_send 30 = .ok (.iload_n 2, 1) := by decide +kernel
theorem dX2_send_31 : decode cX2_send 31 = .ok (.iastore, 1) := by decide +kernel
theorem dX2_send_32 : decode cX2_send 32 = .ok (.aload_n 0, 1) := by decide +kernel
theorem dX2_send_33 : decode cX2_send 33 = .ok (.dup, 1) := by decide +kernel
theorem dX2_send_34 : decode cX2_send 34 = .ok (.getfield 20, 3) := by decide +kernel
theorem dX2_send_37 : decode cX2_send 37 = .ok (.iconst 1, 1) := by decide +kernel
theorem dX2_send_38 : decode cX2_send 38 = .ok (.iadd, 1) := by decide +kernel
theorem dX2_send_39 : decode cX2_send 39 = .ok (.putfield 20, 3) := by decide +kernel
theorem dX2_send_42 : decode cX2_send 42 = .ok (.return_, 1) := by decide +kernel
theorem dX2_firstKind_0 : decode cX2_firstKind 0 = .ok (.aload_n 0, 1) := by decide +kernel
theorem dX2_firstKind_1 : decode cX2_firstKind 1 = .ok (.getfield 16, 3) := by decide +kernel
theorem dX2_firstKind_4 : decode cX2_firstKind 4 = .ok (.aload_n 0, 1) := by decide +kernel
theorem dX2_firstKind_5 : decode cX2_firstKind 5 = .ok (.getfield 20, 3) := by decide +kernel
theorem dX2_firstKind_8 : decode cX2_firstKind 8 = .ok (.if_icmp .ge 15, 3) := by decide +kernel
theorem dX2_firstKind_11 : decode cX2_firstKind 11 = .ok (.aload_n 0, 1) := by decide +kernel
theorem dX2_firstKind_12 : decode cX2_firstKind 12 = .ok (.getfield 7, 3) := by decide +kernel
theorem dX2_firstKind_15 : decode cX2_firstKind 15 = .ok (.aload_n 0, 1) := by decide +kernel
theorem dX2_firstKind_16 : decode cX2_firstKind 16 = .ok (.getfield 16, 3) := by decide +kernel
theorem dX2_firstKind_19 : decode cX2_firstKind 19 = .ok (.iaload, 1) := by decide +kernel
theorem dX2_firstKind_20 : decode cX2_firstKind 20 = .ok (.goto 4, 3) := by decide +kernel
theorem dX2_firstKind_23 : decode cX2_firstKind 23 = .ok (.iconst 0, 1) := by decide +kernel
theorem dX2_firstKind_24 : decode cX2_firstKind 24 = .ok (.ireturn, 1) := by decide +kernel
theorem dX2_firstValue_0 : decode cX2_firstValue 0 = .ok (.aload_n 0, 1) := by decide +kernel
theorem dX2_firstValue_1 : decode cX2_firstValue 1 = .ok (.getfield 16, 3) := by decide +kernel
theorem dX2_firstValue_4 : decode cX2_firstValue 4 = .ok (.aload_n 0, 1) := by decide +kernel
theorem dX2_firstValue_5 : decode cX2_firstValue 5 = .ok (.getfield 20, 3) := by decide +kernel
theorem dX2_firstValue_8 : decode cX2_firstValue 8 = .ok (.if_icmp .ge 15, 3) := by decide +kernel
theorem dX2_firstValue_11 : decode cX2_firstValue 11 = .ok (.aload_n 0, 1) := by decide +kernel
theorem dX2_firstValue_12 : decode cX2_firstValue 12 = .ok (.getfield 13, 3) := by decide +kernel
theorem dX2_firstValue_15 : decode cX2_firstValue 15 = .ok (.aload_n 0, 1) := by decide +kernel
theorem dX2_firstValue_16 : decode cX2_firstValue 16 = .ok (.getfield 16, 3) := by decide +kernel
theorem dX2_firstValue_19 : decode cX2_firstValue 19 = .ok (.iaload, 1) := by decide +kernel
theorem dX2_firstValue_20 : decode cX2_firstValue 20 = .ok (.goto 4, 3) := by decide +kernel
theorem dX2_firstValue_23 : decode cX2_firstValue 23 = .ok (.iconst 0, 1) := by decide +kernel
theorem dX2_firstValue_24 : decode cX2_firstValue 24 = .ok (.ireturn, 1) := by decide +kernel
theorem dX2_dropFirst_0 : decode cX2_dropFirst 0 = .ok (.aload_n 0, 1) := by decide +kernel
theorem dX2_dropFirst_1 : decode cX2_dropFirst 1 = .ok (.getfield 16, 3) := by decide +kernel
theorem dX2_dropFirst_4 : decode cX2_dropFirst 4 = .ok (.aload_n 0, 1) := by decide +kernel
theorem dX2_dropFirst_5 : decode cX2_dropFirst 5 = .ok (.getfield 20, 3) := by decide +kernel
theorem dX2_dropFirst_8 : decode cX2_dropFirst 8 = .ok (.if_icmp .ge 13, 3) := by decide +kernel
theorem dX2_dropFirst_11 : decode cX2_dropFirst 11 = .ok (.aload_n 0, 1) := by decide +kernel
theorem dX2_dropFirst_12 : decode cX2_dropFirst 12 = .ok (.dup, 1) := by decide +kernel
theorem dX2_dropFirst_13 : decode cX2_dropFirst 13 = .ok (.getfield 16, 3) := by decide +kernel
theorem dX2_dropFirst_16 : decode cX2_dropFirst 16 = .ok (.iconst 1, 1) := by decide +kernel
theorem dX2_dropFirst_17 : decode cX2_dropFirst 17 = .ok (.iadd, 1) := by decide +kernel
theorem dX2_dropFirst_18 : decode cX2_dropFirst 18 = .ok (.putfield 16, 3) := by decide +kernel
theorem dX2_dropFirst_21 : decode cX2_dropFirst 21 = .ok (.return_, 1) := by decide +kernel
theorem dX3_init_0 : decode cX3_init 0 = .ok (.aload_n 0, 1) := by decide +kernel
theorem dX3_init_1 : decode cX3_init 1 = .ok (.invokespecial 3, 3) := by decide +kernel
theorem dX3_init_4 : decode cX3_init 4 = .ok (.aload_n 0, 1) := by decide +kernel
theorem dX3_init_5 : decode cX3_init 5 = .ok (.iload_n 1, 1) := by decide +kernel
theorem dX3_init_6 : decode cX3_init 6 = .ok (.putfield 9, 3) := by decide +kernel
theorem dX3_init_9 : decode cX3_init 9 = .ok (.aload_n 0, 1) := by decide +kernel
theorem dX3_init_10 : decode cX3_init 10 = .ok (.new 15, 3) := by decide +kernel
theorem dX3_init_13 : decode cX3_init 13 = .ok (.dup, 1) := by decide +kernel
theorem dX3_init_14 : decode cX3_init 14 = .ok (.invokespecial 17, 3) := by decide +kernel
theorem dX3_init_17 : decode cX3_init 17 = .ok (.putfield 18, 3) := by decide +kernel
theorem dX3_init_20 : decode cX3_init 20 = .ok (.aload_n 0, 1) := by decide +kernel
theorem dX3_init_21 : decode cX3_init 21 = .ok (.iconst 1, 1) := by decide +kernel
theorem dX3_init_22 : decode cX3_init 22 = .ok (.putfield 22, 3) := by decide +kernel
theorem dX3_init_25 : decode cX3_init 25 = .ok (.aload_n 0, 1) := by decide +kernel
theorem dX3_init_26 : decode cX3_init 26 = .ok (.bipush 24, 2) := by decide +kernel
theorem dX3_init_28 : decode cX3_init 28 = .ok (.newarray .int, 2) := by decide +kernel
theorem dX3_init_30 : decode cX3_init 30 = .ok (.putfield 25, 3) := by decide +kernel
theorem dX3_init_33 : decode cX3_init 33 = .ok (.aload_n 0, 1) := by decide +kernel
theorem dX3_init_34 : decode cX3_init 34 = .ok (.new 29, 3) := by decide +kernel
theorem dX3_init_37 : decode cX3_init 37 = .ok (.dup, 1) := by decide +kernel
theorem dX3_init_38 : decode cX3_init 38 = .ok (.invokespecial 31, 3) := by decide +kernel
theorem dX3_init_41 : decode cX3_init 41 = .ok (.putfield 32, 3) := by decide +kernel
theorem dX3_init_44 : decode cX3_init 44 = .ok (.aload_n 0, 1) := by decide +kernel
theorem dX3_init_45 : decode cX3_init 45 = .ok (.new 36, 3) := by decide +kernel
theorem dX3_init_48 : decode cX3_init 48 = .ok (.dup, 1) := by decide +kernel
theorem dX3_init_49 : decode cX3_init 49 = .ok (.invokespecial 38, 3) := by decide +kernel
theorem dX3_init_52 : decode cX3_init 52 = .ok (.putfield 39, 3) := by decide +kernel
theorem dX3_init_55 : decode cX3_init 55 = .ok (.aload_n 0, 1) := by decide +kernel
theorem dX3_init_56 : decode cX3_init 56 = .ok (.new 43, 3) := by decide +kernel
theorem dX3_init_59 : decode cX3_init 59 = .ok (.dup, 1) := by decide +kernel
theorem dX3_init_60 : decode cX3_init 60 = .ok (.invokespecial 45, 3) := by decide +kernel
theorem dX3_init_63 : decode cX3_init 63 = .ok (.putfield 46, 3) := by decide +kernel
theorem dX3_init_66 : decode cX3_init 66 = .ok (.return_, 1) := by decide +kernel
theorem dX3_applyUpTo_0 : decode cX3_applyUpTo 0 = .ok (.iload_n 1, 1) := by decide +kernel
theorem dX3_applyUpTo_1 : decode cX3_applyUpTo 1 = .ok (.aload_n 0, 1) := by decide +kernel
theorem dX3_applyUpTo_2 : decode cX3_applyUpTo 2 = .ok (.getfield 18, 3) := by decide +kernel
theorem dX3_applyUpTo_5 : decode cX3_applyUpTo 5 = .ok (.getfield 50, 3) := by decide +kernel
theorem dX3_applyUpTo_8 : decode cX3_applyUpTo 8 = .ok (.invokestatic 53, 3) := by decide +kernel
theorem dX3_applyUpTo_11 : decode cX3_applyUpTo 11 = .ok (.istore_n 2, 1) := by decide +kernel
theorem dX3_applyUpTo_12 : decode cX3_applyUpTo 12 = .ok (.aload_n 0, 1) := by decide +kernel
theorem dX3_applyUpTo_13 : decode cX3_applyUpTo 13 = .ok (.getfield 59, 3) := by decide +kernel
theorem dX3_applyUpTo_16 : decode cX3_applyUpTo 16 = .ok (.istore_n 3, 1) := by decide +kernel
theorem dX3_applyUpTo_17 : decode cX3_applyUpTo 17 = .ok (.iload_n 3, 1) := by decide +kernel
theorem dX3_applyUpTo_18 : decode cX3_applyUpTo 18 = .ok (.iload_n 2, 1) := by decide +kernel
theorem dX3_applyUpTo_19 : decode cX3_applyUpTo 19 = .ok (.if_icmp .ge 65, 3) := by decide +kernel
theorem dX3_applyUpTo_22 : decode cX3_applyUpTo 22 = .ok (.aload_n 0, 1) := by decide +kernel
theorem dX3_applyUpTo_23 : decode cX3_applyUpTo 23 = .ok (.getfield 25, 3) := by decide +kernel
theorem dX3_applyUpTo_26 : decode cX3_applyUpTo 26 = .ok (.iload_n 3, 1) := by decide +kernel
theorem dX3_applyUpTo_27 : decode cX3_applyUpTo 27 = .ok (.aload_n 0, 1) := by decide +kernel
theorem dX3_applyUpTo_28 : decode cX3_applyUpTo 28 = .ok (.getfield 32, 3) := by decide +kernel
theorem dX3_applyUpTo_31 : decode cX3_applyUpTo 31 = .ok (.aload_n 0, 1) := by decide +kernel
theorem dX3_applyUpTo_32 : decode cX3_applyUpTo 32 = .ok (.getfield 18, 3) := by decide +kernel
theorem dX3_applyUpTo_35 : decode cX3_applyUpTo 35 = .ok (.getfield 62, 3) := by decide +kernel
theorem dX3_applyUpTo_38 : decode cX3_applyUpTo 38 = .ok (.iload_n 3, 1) := by decide +kernel
theorem dX3_applyUpTo_39 : decode cX3_applyUpTo 39 = .ok (.iaload, 1) := by decide +kernel
theorem dX3_applyUpTo_40 : decode cX3_applyUpTo 40 = .ok (.aload_n 0, 1) := by decide +kernel
theorem dX3_applyUpTo_41 : decode cX3_applyUpTo 41 = .ok (.getfield 18, 3) := by decide +kernel
theorem dX3_applyUpTo_44 : decode cX3_applyUpTo 44 = .ok (.getfield 65, 3) := by decide +kernel
theorem dX3_applyUpTo_47 : decode cX3_applyUpTo 47 = .ok (.iload_n 3, 1) := by decide +kernel
theorem dX3_applyUpTo_48 : decode cX3_applyUpTo 48 = .ok (.iaload, 1) := by decide +kernel
theorem dX3_applyUpTo_49 : decode cX3_applyUpTo 49 = .ok (.aload_n 0, 1) := by decide +kernel
theorem dX3_applyUpTo_50 : decode cX3_applyUpTo 50 = .ok (.getfield 18, 3) := by decide +kernel
theorem dX3_applyUpTo_53 : decode cX3_applyUpTo 53 = .ok (.getfield 68, 3) := by decide +kernel
theorem dX3_applyUpTo_56 : decode cX3_applyUpTo 56 = .ok (.iload_n 3, 1) := by decide +kernel
theorem dX3_applyUpTo_57 : decode cX3_applyUpTo 57 = .ok (.iaload, 1) := by decide +kernel
theorem dX3_applyUpTo_58 : decode cX3_applyUpTo 58 = .ok (.aload_n 0, 1) := by decide +kernel
theorem dX3_applyUpTo_59 : decode cX3_applyUpTo 59 = .ok (.getfield 18, 3) := by decide +kernel
theorem dX3_applyUpTo_62 : decode cX3_applyUpTo 62 = .ok (.getfield 71, 3) := by decide +kernel
theorem dX3_applyUpTo_65 : decode cX3_applyUpTo 65 = .ok (.iload_n 3, 1) := by decide +kernel
theorem dX3_applyUpTo_66 : decode cX3_applyUpTo 66 = .ok (.iaload, 1) := by decide +kernel
theorem dX3_applyUpTo_67 : decode cX3_applyUpTo 67 = .ok (.invokevirtual 74, 3) := by decide +kernel
theorem dX3_applyUpTo_70 : decode cX3_applyUpTo 70 = .ok (.iastore, 1) := by decide +kernel
theorem dX3_applyUpTo_71 : decode cX3_applyUpTo 71 = .ok (.aload_n 0, 1) := by decide +kernel
theorem dX3_applyUpTo_72 : decode cX3_applyUpTo 72 = .ok (.iload_n 3, 1) := by decide +kernel
theorem dX3_applyUpTo_73 : decode cX3_applyUpTo 73 = .ok (.iconst 1, 1) := by decide +kernel
theorem dX3_applyUpTo_74 : decode cX3_applyUpTo 74 = .ok (.iadd, 1) := by decide +kernel
theorem dX3_applyUpTo_75 : decode cX3_applyUpTo 75 = .ok (.putfield 59, 3) := by decide +kernel
theorem dX3_applyUpTo_78 : decode cX3_applyUpTo 78 = .ok (.iinc 3 1, 3) := by decide +kernel
theorem dX3_applyUpTo_81 : decode cX3_applyUpTo 81 = .ok (.goto (-64), 3) := by decide +kernel
theorem dX3_applyUpTo_84 : decode cX3_applyUpTo 84 = .ok (.return_, 1) := by decide +kernel
theorem dX3_forgetApplied_0 : decode cX3_forgetApplied 0 = .ok (.aload_n 0, 1) := by decide +kernel
theorem dX3_forgetApplied_1 : decode cX3_forgetApplied 1 = .ok (.iconst 0, 1) := by decide +kernel
theorem dX3_forgetApplied_2 : decode cX3_forgetApplied 2 = .ok (.putfield 59, 3) := by decide +kernel
theorem dX3_forgetApplied_5 : decode cX3_forgetApplied 5 = .ok (.aload_n 0, 1) := by decide +kernel
theorem dX3_forgetApplied_6 : decode cX3_forgetApplied 6 = .ok (.getfield 32, 3) := by decide +kernel
theorem dX3_forgetApplied_9 : decode cX3_forgetApplied 9 = .ok (.invokevirtual 78, 3) := by decide +kernel
theorem dX3_forgetApplied_12 : decode cX3_forgetApplied 12 = .ok (.return_, 1) := by decide +kernel
theorem dX4_init_0 : decode cX4_init 0 = .ok (.aload_n 0, 1) := by decide +kernel
theorem dX4_init_1 : decode cX4_init 1 = .ok (.invokespecial 3, 3) := by decide +kernel
theorem dX4_init_4 : decode cX4_init 4 = .ok (.aload_n 0, 1) := by decide +kernel
theorem dX4_init_5 : decode cX4_init 5 = .ok (.iconst 5, 1) := by decide +kernel
theorem dX4_init_6 : decode cX4_init 6 = .ok (.newarray .int, 2) := by decide +kernel
theorem dX4_init_8 : decode cX4_init 8 = .ok (.putfield 9, 3) := by decide +kernel
theorem dX4_init_11 : decode cX4_init 11 = .ok (.return_, 1) := by decide +kernel
theorem dX4_begin_0 : decode cX4_begin 0 = .ok (.aload_n 0, 1) := by decide +kernel
theorem dX4_begin_1 : decode cX4_begin 1 = .ok (.iconst 0, 1) := by decide +kernel
theorem dX4_begin_2 : decode cX4_begin 2 = .ok (.putfield 15, 3) := by decide +kernel
theorem dX4_begin_5 : decode cX4_begin 5 = .ok (.aload_n 0, 1) := by decide +kernel
theorem dX4_begin_6 : decode cX4_begin 6 = .ok (.iconst 0, 1) := by decide +kernel
theorem dX4_begin_7 : decode cX4_begin 7 = .ok (.putfield 19, 3) := by decide +kernel
theorem dX4_begin_10 : decode cX4_begin 10 = .ok (.aload_n 0, 1) := by decide +kernel
theorem dX4_begin_11 : decode cX4_begin 11 = .ok (.iconst 0, 1) := by decide +kernel
theorem dX4_begin_12 : decode cX4_begin 12 = .ok (.putfield 22, 3) := by decide +kernel
theorem dX4_begin_15 : decode cX4_begin 15 = .ok (.return_, 1) := by decide +kernel
theorem dXA_fill_0 : decode cXA_fill 0 = .ok (.iconst 0, 1) := by decide +kernel
theorem dXA_fill_1 : decode cXA_fill 1 = .ok (.istore_n 2, 1) := by decide +kernel
theorem dXA_fill_2 : decode cXA_fill 2 = .ok (.aload_n 0, 1) := by decide +kernel
theorem dXA_fill_3 : decode cXA_fill 3 = .ok (.arraylength, 1) := by decide +kernel
theorem dXA_fill_4 : decode cXA_fill 4 = .ok (.istore_n 3, 1) := by decide +kernel
theorem dXA_fill_5 : decode cXA_fill 5 = .ok (.iload_n 2, 1) := by decide +kernel
theorem dXA_fill_6 : decode cXA_fill 6 = .ok (.iload_n 3, 1) := by decide +kernel
theorem dXA_fill_7 : decode cXA_fill 7 = .ok (.if_icmp .ge 13, 3) := by decide +kernel
theorem dXA_fill_10 : decode cXA_fill 10 = .ok (.aload_n 0, 1) := by decide +kernel
theorem dXA_fill_11 : decode cXA_fill 11 = .ok (.iload_n 2, 1) := by decide +kernel
theorem dXA_fill_12 : decode cXA_fill 12 = .ok (.iload_n 1, 1) := by decide +kernel
theorem dXA_fill_13 : decode cXA_fill 13 = .ok (.iastore, 1) := by decide +kernel
theorem dXA_fill_14 : decode cXA_fill 14 = .ok (.iinc 2 1, 3) := by decide +kernel
theorem dXA_fill_17 : decode cXA_fill 17 = .ok (.goto (-12), 3) := by decide +kernel
theorem dXA_fill_20 : decode cXA_fill 20 = .ok (.return_, 1) := by decide +kernel
end
section
theorem dX5_init_0 : decode cX5_init 0 = .ok (.aload_n 0, 1) := by decide +kernel
theorem dX5_init_1 : decode cX5_init 1 = .ok (.invokespecial 3, 3) := by decide +kernel
theorem dX5_init_4 : decode cX5_init 4 = .ok (.aload_n 0, 1) := by decide +kernel
theorem dX5_init_5 : decode cX5_init 5 = .ok (.bipush 24, 2) := by decide +kernel
theorem dX5_init_7 : decode cX5_init 7 = .ok (.newarray .int, 2) := by decide +kernel
theorem dX5_init_9 : decode cX5_init 9 = .ok (.putfield 9, 3) := by decide +kernel
theorem dX5_init_12 : decode cX5_init 12 = .ok (.aload_n 0, 1) := by decide +kernel
theorem dX5_init_13 : decode cX5_init 13 = .ok (.bipush 24, 2) := by decide +kernel
theorem dX5_init_15 : decode cX5_init 15 = .ok (.newarray .int, 2) := by decide +kernel
theorem dX5_init_17 : decode cX5_init 17 = .ok (.putfield 15, 3) := by decide +kernel
theorem dX5_init_20 : decode cX5_init 20 = .ok (.aload_n 0, 1) := by decide +kernel
theorem dX5_init_21 : decode cX5_init 21 = .ok (.bipush 24, 2) := by decide +kernel
theorem dX5_init_23 : decode cX5_init 23 = .ok (.newarray .int, 2) := by decide +kernel
theorem dX5_init_25 : decode cX5_init 25 = .ok (.putfield 18, 3) := by decide +kernel
theorem dX5_init_28 : decode cX5_init 28 = .ok (.aload_n 0, 1) := by decide +kernel
theorem dX5_init_29 : decode cX5_init 29 = .ok (.bipush 24, 2) := by decide +kernel
theorem dX5_init_31 : decode cX5_init 31 = .ok (.newarray .int, 2) := by decide +kernel
theorem dX5_init_33 : decode cX5_init 33 = .ok (.putfield 21, 3) := by decide +kernel
theorem dX5_init_36 : decode cX5_init 36 = .ok (.return_, 1) := by decide +kernel
theorem dX5_clear_0 : decode cX5_clear 0 = .ok (.aload_n 0, 1) := by decide +kernel
theorem dX5_clear_1 : decode cX5_clear 1 = .ok (.iconst 0, 1) := by decide +kernel
theorem dX5_clear_2 : decode cX5_clear 2 = .ok (.putfield 24, 3) := by decide +kernel
theorem dX5_clear_5 : decode cX5_clear 5 = .ok (.aload_n 0, 1) := by decide +kernel
theorem dX5_clear_6 : decode cX5_clear 6 = .ok (.iconst 0, 1) := by decide +kernel
theorem dX5_clear_7 : decode cX5_clear 7 = .ok (.putfield 28, 3) := by decide +kernel
theorem dX5_clear_10 : decode cX5_clear 10 = .ok (.return_, 1) := by decide +kernel
theorem dX5_summary_0 : decode cX5_summary 0 = .ok (.aload_n 0, 1) := by decide +kernel
theorem dX5_summary_1 : decode cX5_summary 1 = .ok (.getfield 24, 3) := by decide +kernel
theorem dX5_summary_4 : decode cX5_summary 4 = .ok (.bipush 64, 2) := by decide +kernel
theorem dX5_summary_6 : decode cX5_summary 6 = .ok (.aload_n 0, 1) := by decide +kernel
theorem dX5_summary_7 : decode cX5_summary 7 = .ok (.getfield 28, 3) := by decide +kernel
theorem dX5_summary_10 : decode cX5_summary 10 = .ok (.imul, 1) := by decide +kernel
theorem dX5_summary_11 : decode cX5_summary 11 = .ok (.iadd, 1) := by decide +kernel
theorem dX5_summary_12 : decode cX5_summary 12 = .ok (.ireturn, 1) := by decide +kernel
theorem dX5_isOpen_0 : decode cX5_isOpen 0 = .ok (.iload_n 1, 1) := by decide +kernel
theorem dX5_isOpen_1 : decode cX5_isOpen 1 = .ok (.invokestatic 31, 3) := by decide +kernel
theorem dX5_isOpen_4 : decode cX5_isOpen 4 = .ok (.ifCond .eq 18, 3) := by decide +kernel
theorem dX5_isOpen_7 : decode cX5_isOpen 7 = .ok (.aload_n 0, 1) := by decide +kernel
theorem dX5_isOpen_8 : decode cX5_isOpen 8 = .ok (.getfield 28, 3) := by decide +kernel
theorem dX5_isOpen_11 : decode cX5_isOpen 11 = .ok (.iconst 1, 1) := by decide +kernel
theorem dX5_isOpen_12 : decode cX5_isOpen 12 = .ok (.iload_n 1, 1) := by decide +kernel
theorem dX5_isOpen_13 : decode cX5_isOpen 13 = .ok (.ishl, 1) := by decide +kernel
theorem dX5_isOpen_14 : decode cX5_isOpen 14 = .ok (.iand, 1) := by decide +kernel
theorem dX5_isOpen_15 : decode cX5_isOpen 15 = .ok (.ifCond .eq 7, 3) := by decide +kernel
theorem dX5_isOpen_18 : decode cX5_isOpen 18 = .ok (.iconst 1, 1) := by decide +kernel
theorem dX5_isOpen_19 : decode cX5_isOpen 19 = .ok (.goto 4, 3) := by decide +kernel
theorem dX5_isOpen_22 : decode cX5_isOpen 22 = .ok (.iconst 0, 1) := by decide +kernel
theorem dX5_isOpen_23 : decode cX5_isOpen 23 = .ok (.ireturn, 1) := by decide +kernel
theorem dX5_look_0 : decode cX5_look 0 = .ok (.iload_n 1, 1) := by decide +kernel
theorem dX5_look_1 : decode cX5_look 1 = .ok (.ifCond .ne 9, 3) := by decide +kernel
theorem dX5_look_4 : decode cX5_look 4 = .ok (.aload_n 0, 1) := by decide +kernel
theorem dX5_look_5 : decode cX5_look 5 = .ok (.iload_n 2, 1) := by decide +kernel
theorem dX5_look_6 : decode cX5_look 6 = .ok (.invokevirtual 35, 3) := by decide +kernel
theorem dX5_look_9 : decode cX5_look 9 = .ok (.ireturn, 1) := by decide +kernel
theorem dX5_look_10 : decode cX5_look 10 = .ok (.aload_n 0, 1) := by decide +kernel
theorem dX5_look_11 : decode cX5_look 11 = .ok (.iload_n 1, 1) := by decide +kernel
theorem dX5_look_12 : decode cX5_look 12 = .ok (.invokevirtual 39, 3) := by decide +kernel
theorem dX5_look_15 : decode cX5_look 15 = .ok (.istore_n 3, 1) := by decide +kernel
theorem dX5_look_16 : decode cX5_look 16 = .ok (.iload_n 3, 1) := by decide +kernel
theorem dX5_look_17 : decode cX5_look 17 = .ok (.iconst (-1), 1) := by decide +kernel
theorem dX5_look_18 : decode cX5_look 18 = .ok (.if_icmp .ne 5, 3) := by decide +kernel
theorem dX5_look_21 : decode cX5_look 21 = .ok (.iconst 0, 1) := by decide +kernel
theorem dX5_look_22 : decode cX5_look 22 = .ok (.ireturn, 1) := by decide +kernel
theorem dX5_look_23 : decode cX5_look 23 = .ok (.iload_n 2, 1) := by decide +kernel
theorem dX5_look_24 : decode cX5_look 24 = .ok (.tableswitch 65 0 4 #[36, 38, 45, 52, 58], 36) := by decide +kernel
theorem dX5_look_60 : decode cX5_look 60 = .ok (.iconst 1, 1) := by decide +kernel
theorem dX5_look_61 : decode cX5_look 61 = .ok (.ireturn, 1) := by decide +kernel
theorem dX5_look_62 : decode cX5_look 62 = .ok (.aload_n 0, 1) := by decide +kernel
theorem dX5_look_63 : decode cX5_look 63 = .ok (.getfield 15, 3) := by decide +kernel
theorem dX5_look_66 : decode cX5_look 66 = .ok (.iload_n 3, 1) := by decide +kernel
theorem dX5_look_67 : decode cX5_look 67 = .ok (.iaload, 1) := by decide +kernel
theorem dX5_look_68 : decode cX5_look 68 = .ok (.ireturn, 1) := by decide +kernel
theorem dX5_look_69 : decode cX5_look 69 = .ok (.aload_n 0, 1) := by decide +kernel
theorem dX5_look_70 : decode cX5_look 70 = .ok (.getfield 18, 3) := by decide +kernel
theorem dX5_look_73 : decode cX5_look 73 = .ok (.iload_n 3, 1) := by decide +kernel
theorem dX5_look_74 : decode cX5_look 74 = .ok (.iaload, 1) := by decide +kernel
theorem dX5_look_75 : decode cX5_look 75 = .ok (.ireturn, 1) := by decide +kernel
theorem dX5_look_76 : decode cX5_look 76 = .ok (.aload_n 0, 1) := by decide +kernel
theorem dX5_look_77 : decode cX5_look 77 = .ok (.iload_n 1, 1) := by decide +kernel
theorem dX5_look_78 : decode cX5_look 78 = .ok (.invokevirtual 42, 3) := by decide +kernel
theorem dX5_look_81 : decode cX5_look 81 = .ok (.ireturn, 1) := by decide +kernel
theorem dX5_look_82 : decode cX5_look 82 = .ok (.aload_n 0, 1) := by decide +kernel
theorem dX5_look_83 : decode cX5_look 83 = .ok (.getfield 21, 3) := by decide +kernel
theorem dX5_look_86 : decode cX5_look 86 = .ok (.iload_n 3, 1) := by decide +kernel
theorem dX5_look_87 : decode cX5_look 87 = .ok (.iaload, 1) := by decide +kernel
theorem dX5_look_88 : decode cX5_look 88 = .ok (.ireturn, 1) := by decide +kernel
theorem dX5_look_89 : decode cX5_look 89 = .ok (.iconst 0, 1) := by decide +kernel
theorem dX5_look_90 : decode cX5_look 90 = .ok (.ireturn, 1) := by decide +kernel
theorem dX5_lookAtRoot_0 : decode cX5_lookAtRoot 0 = .ok (.iload_n 1, 1) := by decide +kernel
theorem dX5_lookAtRoot_1 : decode cX5_lookAtRoot 1 = .ok (.ifCond .ne 5, 3) := by decide +kernel
theorem dX5_lookAtRoot_4 : decode cX5_lookAtRoot 4 = .ok (.iconst 1, 1) := by decide +kernel
theorem dX5_lookAtRoot_5 : decode cX5_lookAtRoot 5 = .ok (.ireturn, 1) := by decide +kernel
theorem dX5_lookAtRoot_6 : decode cX5_lookAtRoot 6 = .ok (.iload_n 1, 1) := by decide +kernel
theorem dX5_lookAtRoot_7 : decode cX5_lookAtRoot 7 = .ok (.iconst 3, 1) := by decide +kernel
theorem dX5_lookAtRoot_8 : decode cX5_lookAtRoot 8 = .ok (.if_icmp .ne 11, 3) := by decide +kernel
theorem dX5_lookAtRoot_11 : decode cX5_lookAtRoot 11 = .ok (.aload_n 0, 1) := by decide +kernel
theorem dX5_lookAtRoot_12 : decode cX5_lookAtRoot 12 = .ok (.iconst 0, 1) := by decide +kernel
theorem dX5_lookAtRoot_13 : decode cX5_lookAtRoot 13 = .ok (.invokevirtual 42, 3) := by decide +kernel
theorem dX5_lookAtRoot_16 : decode cX5_lookAtRoot 16 = .ok (.goto 4, 3) := by decide +kernel
theorem dX5_lookAtRoot_19 : decode cX5_lookAtRoot 19 = .ok (.iconst 0, 1) := by decide +kernel
theorem dX5_lookAtRoot_20 : decode cX5_lookAtRoot 20 = .ok (.ireturn, 1) := by decide +kernel
theorem dX5_find_0 : decode cX5_find 0 = .ok (.iconst 0, 1) := by decide +kernel
theorem dX5_find_1 : decode cX5_find 1 = .ok (.istore_n 2, 1) := by decide +kernel
theorem dX5_find_2 : decode cX5_find 2 = .ok (.iload_n 2, 1) := by decide +kernel
theorem dX5_find_3 : decode cX5_find 3 = .ok (.aload_n 0, 1) := by decide +kernel
theorem dX5_find_4 : decode cX5_find 4 = .ok (.getfield 24, 3) := by decide +kernel
theorem dX5_find_7 : decode cX5_find 7 = .ok (.if_icmp .ge 21, 3) := by decide +kernel
theorem dX5_find_10 : decode cX5_find 10 = .ok (.aload_n 0, 1) := by decide +kernel
theorem dX5_find_11 : decode cX5_find 11 = .ok (.getfield 9, 3) := by decide +kernel
theorem dX5_find_14 : decode cX5_find 14 = .ok (.iload_n 2, 1) := by decide +kernel
theorem dX5_find_15 : decode cX5_find 15 = .ok (.iaload, 1) := by decide +kernel
theorem dX5_find_16 : decode cX5_find 16 = .ok (.iload_n 1, 1) := by decide +kernel
theorem dX5_find_17 : decode cX5_find 17 = .ok (.if_icmp .ne 5, 3) := by decide +kernel
theorem dX5_find_20 : decode cX5_find 20 = .ok (.iload_n 2, 1) := by decide +kernel
theorem dX5_find_21 : decode cX5_find 21 = .ok (.ireturn, 1) := by decide +kernel
theorem dX5_find_22 : decode cX5_find 22 = .ok (.iinc 2 1, 3) := by decide +kernel
theorem dX5_find_25 : decode cX5_find 25 = .ok (.goto (-23), 3) := by decide +kernel
theorem dX5_find_28 : decode cX5_find 28 = .ok (.iconst (-1), 1) := by decide +kernel
theorem dX5_find_29 : decode cX5_find 29 = .ok (.ireturn, 1) := by decide +kernel
theorem dX5_countChildren_0 : decode cX5_countChildren 0 = .ok (.iconst 0, 1) := by decide +kernel
theorem dX5_countChildren_1 : decode cX5_countChildren 1 = .ok (.istore_n 2, 1) := by decide +kernel
theorem dX5_countChildren_2 : decode cX5_countChildren 2 = .ok (.iconst 0, 1) := by decide +kernel
theorem dX5_countChildren_3 : decode cX5_countChildren 3 = .ok (.istore_n 3, 1) := by decide +kernel
theorem dX5_countChildren_4 : decode cX5_countChildren 4 = .ok (.iload_n 3, 1) := by decide +kernel
theorem dX5_countChildren_5 : decode cX5_countChildren 5 = .ok (.aload_n 0, 1) := by decide +kernel
theorem dX5_countChildren_6 : decode cX5_countChildren 6 = .ok (.getfield 24, 3) := by decide +kernel
theorem dX5_countChildren_9 : decode cX5_countChildren 9 = .ok (.if_icmp .ge 25, 3) := by decide +kernel
theorem dX5_countChildren_12 : decode cX5_countChildren 12 = .ok (.aload_n 0, 1) := by decide +kernel
theorem dX5_countChildren_13 : decode cX5_countChildren 13 = .ok (.getfield 9, 3) := by decide +kernel
theorem dX5_countChildren_16 : decode cX5_countChildren 16 = .ok (.iload_n 3, 1) := by decide +kernel
theorem dX5_countChildren_17 : decode cX5_countChildren 17 = .ok (.iaload, 1) := by decide +kernel
theorem dX5_countChildren_18 : decode cX5_countChildren 18 = .ok (.bipush 8, 2) := by decide +kernel
theorem dX5_countChildren_20 : decode cX5_countChildren 20 = .ok (.idiv, 1) := by decide +kernel
theorem dX5_countChildren_21 : decode cX5_countChildren 21 = .ok (.iload_n 1, 1) := by decide +kernel
theorem dX5_countChildren_22 : decode cX5_countChildren 22 = .ok (.if_icmp .ne 6, 3) := by decide +kernel
theorem dX5_countChildren_25 : decode cX5_countChildren 25 = .ok (.iinc 2 1, 3) := by decide +kernel
theorem dX5_countChildren_28 : decode cX5_countChildren 28 = .ok (.iinc 3 1, 3) := by decide +kernel
theorem dX5_countChildren_31 : decode cX5_countChildren 31 = .ok (.goto (-27), 3) := by decide +kernel
theorem dX5_countChildren_34 : decode cX5_countChildren 34 = .ok (.iload_n 2, 1) := by decide +kernel
theorem dX5_countChildren_35 : decode cX5_countChildren 35 = .ok (.ireturn, 1) := by decide +kernel
theorem dX5_change_0 : decode cX5_change 0 = .ok (.iload_n 1, 1) := by decide +kernel
theorem dX5_change_1 : decode cX5_change 1 = .ok (.tableswitch 64 1 4 #[31, 40, 49, 57], 31) := by decide +kernel
theorem dX5_change_32 : decode cX5_change 32 = .ok (.aload_n 0, 1) := by decide +kernel
theorem dX5_change_33 : decode cX5_change 33 = .ok (.iload_n 2, 1) := by decide +kernel
theorem dX5_change_34 : decode cX5_change 34 = .ok (.iload_n 3, 1) := by decide +kernel
theorem dX5_change_35 : decode cX5_change 35 = .ok (.iload 4, 2) := by decide +kernel
theorem dX5_change_37 : decode cX5_change 37 = .ok (.invokevirtual 45, 3) := by decide +kernel
theorem dX5_change_40 : decode cX5_change 40 = .ok (.ireturn, 1) := by decide +kernel
theorem dX5_change_41 : decode cX5_change 41 = .ok (.aload_n 0, 1) := by decide +kernel
theorem dX5_change_42 : decode cX5_change 42 = .ok (.iload_n 2, 1) := by decide +kernel
theorem dX5_change_43 : decode cX5_change 43 = .ok (.iload_n 3, 1) := by decide +kernel
theorem dX5_change_44 : decode cX5_change 44 = .ok (.iload 4, 2) := by decide +kernel
theorem dX5_change_46 : decode cX5_change 46 = .ok (.invokevirtual 49, 3) := by decide +kernel
theorem dX5_change_49 : decode cX5_change 49 = .ok (.ireturn, 1) := by decide +kernel
theorem dX5_change_50 : decode cX5_change 50 = .ok (.aload_n 0, 1) := by decide +kernel
theorem dX5_change_51 : decode cX5_change 51 = .ok (.iload_n 2, 1) := by decide +kernel
theorem dX5_change_52 : decode cX5_change 52 = .ok (.iload 4, 2) := by decide +kernel
theorem dX5_change_54 : decode cX5_change 54 = .ok (.invokevirtual 52, 3) := by decide +kernel
theorem dX5_change_57 : decode cX5_change 57 = .ok (.ireturn, 1) := by decide +kernel
theorem dX5_change_58 : decode cX5_change 58 = .ok (.aload_n 0, 1) := by decide +kernel
theorem dX5_change_59 : decode cX5_change 59 = .ok (.iload 4, 2) := by decide +kernel
theorem dX5_change_61 : decode cX5_change 61 = .ok (.invokevirtual 56, 3) := by decide +kernel
theorem dX5_change_64 : decode cX5_change 64 = .ok (.ireturn, 1) := by decide +kernel
theorem dX5_change_65 : decode cX5_change 65 = .ok (.aload_n 0, 1) := by decide +kernel
theorem dX5_change_66 : decode cX5_change 66 = .ok (.iload 4, 2) := by decide +kernel
theorem dX5_change_68 : decode cX5_change 68 = .ok (.invokevirtual 59, 3) := by decide +kernel
theorem dX5_change_71 : decode cX5_change 71 = .ok (.ireturn, 1) := by decide +kernel
theorem dX5_create_0 : decode cX5_create 0 = .ok (.iload_n 3, 1) := by decide +kernel
theorem dX5_create_1 : decode cX5_create 1 = .ok (.ifCond .eq 14, 3) := by decide +kernel
theorem dX5_create_4 : decode cX5_create 4 = .ok (.aload_n 0, 1) := by decide +kernel
theorem dX5_create_5 : decode cX5_create 5 = .ok (.iload_n 3, 1) := by decide +kernel
theorem dX5_create_6 : decode cX5_create 6 = .ok (.invokevirtual 62, 3) := by decide +kernel
theorem dX5_create_9 : decode cX5_create 9 = .ok (.ifCond .ne 6, 3) := by decide +kernel
theorem dX5_create_12 : decode cX5_create 12 = .ok (.bipush 6, 2) := by decide +kernel
theorem dX5_create_14 : decode cX5_create 14 = .ok (.ireturn, 1) := by decide +kernel
theorem dX5_create_15 : decode cX5_create 15 = .ok (.aload_n 0, 1) := by decide +kernel
theorem dX5_create_16 : decode cX5_create 16 = .ok (.iload_n 1, 1) := by decide +kernel
theorem dX5_create_17 : decode cX5_create 17 = .ok (.invokevirtual 39, 3) := by decide +kernel
theorem dX5_create_20 : decode cX5_create 20 = .ok (.iconst (-1), 1) := by decide +kernel
theorem dX5_create_21 : decode cX5_create 21 = .ok (.if_icmp .eq 5, 3) := by decide +kernel
theorem dX5_create_24 : decode cX5_create 24 = .ok (.iconst 2, 1) := by decide +kernel
theorem dX5_create_25 : decode cX5_create 25 = .ok (.ireturn, 1) := by decide +kernel
theorem dX5_create_26 : decode cX5_create 26 = .ok (.iload_n 1, 1) := by decide +kernel
theorem dX5_create_27 : decode cX5_create 27 = .ok (.bipush 8, 2) := by decide +kernel
theorem dX5_create_29 : decode cX5_create 29 = .ok (.idiv, 1) := by decide +kernel
theorem dX5_create_30 : decode cX5_create 30 = .ok (.istore 4, 2) := by decide +kernel
theorem dX5_create_32 : decode cX5_create 32 = .ok (.aload_n 0, 1) := by decide +kernel
theorem dX5_create_33 : decode cX5_create 33 = .ok (.iload 4, 2) := by decide +kernel
theorem dX5_create_35 : decode cX5_create 35 = .ok (.invokevirtual 39, 3) := by decide +kernel
theorem dX5_create_38 : decode cX5_create 38 = .ok (.istore 5, 2) := by decide +kernel
theorem dX5_create_40 : decode cX5_create 40 = .ok (.iload 4, 2) := by decide +kernel
theorem dX5_create_42 : decode cX5_create 42 = .ok (.ifCond .eq 11, 3) := by decide +kernel
theorem dX5_create_45 : decode cX5_create 45 = .ok (.iload 5, 2) := by decide +kernel
theorem dX5_create_47 : decode cX5_create 47 = .ok (.iconst (-1), 1) := by decide +kernel
theorem dX5_create_48 : decode cX5_create 48 = .ok (.if_icmp .ne 5, 3) := by decide +kernel
theorem dX5_create_51 : decode cX5_create 51 = .ok (.iconst 1, 1) := by decide +kernel
theorem dX5_create_52 : decode cX5_create 52 = .ok (.ireturn, 1) := by decide +kernel
theorem dX5_create_53 : decode cX5_create 53 = .ok (.iload 5, 2) := by decide +kernel
theorem dX5_create_55 : decode cX5_create 55 = .ok (.iconst (-1), 1) := by decide +kernel
theorem dX5_create_56 : decode cX5_create 56 = .ok (.if_icmp .eq 15, 3) := by decide +kernel
theorem dX5_create_59 : decode cX5_create 59 = .ok (.aload_n 0, 1) := by decide +kernel
theorem dX5_create_60 : decode cX5_create 60 = .ok (.getfield 21, 3) := by decide +kernel
theorem dX5_create_63 : decode cX5_create 63 = .ok (.iload 5, 2) := by decide +kernel
theorem dX5_create_65 : decode cX5_create 65 = .ok (.iaload, 1) := by decide +kernel
theorem dX5_create_66 : decode cX5_create 66 = .ok (.ifCond .eq 5, 3) := by decide +kernel
theorem dX5_create_69 : decode cX5_create 69 = .ok (.iconst 3, 1) := by decide +kernel
theorem dX5_create_70 : decode cX5_create 70 = .ok (.ireturn, 1) := by decide +kernel
theorem dX5_create_71 : decode cX5_create 71 = .ok (.aload_n 0, 1) := by decide +kernel
theorem dX5_create_72 : decode cX5_create 72 = .ok (.iload_n 1, 1) := by decide +kernel
theorem dX5_create_73 : decode cX5_create 73 = .ok (.iload_n 2, 1) := by decide +kernel
theorem dX5_create_74 : decode cX5_create 74 = .ok (.iload_n 3, 1) := by decide +kernel
theorem dX5_create_75 : decode cX5_create 75 = .ok (.invokevirtual 65, 3) := by decide +kernel
theorem dX5_create_78 : decode cX5_create 78 = .ok (.iconst 0, 1) := by decide +kernel
theorem dX5_create_79 : decode cX5_create 79 = .ok (.ireturn, 1) := by decide +kernel
theorem dX5_add_0 : decode cX5_add 0 = .ok (.aload_n 0, 1) := by decide +kernel
theorem dX5_add_1 : decode cX5_add 1 = .ok (.getfield 24, 3) := by decide +kernel
theorem dX5_add_4 : decode cX5_add 4 = .ok (.bipush 24, 2) := by decide +kernel
theorem dX5_add_6 : decode cX5_add 6 = .ok (.if_icmp .ge 53, 3) := by decide +kernel
theorem dX5_add_9 : decode cX5_add 9 = .ok (.aload_n 0, 1) := by decide +kernel
theorem dX5_add_10 : decode cX5_add 10 = .ok (.getfield 9, 3) := by decide +kernel
theorem dX5_add_13 : decode cX5_add 13 = .ok (.aload_n 0, 1) := by decide +kernel
theorem dX5_add_14 : decode cX5_add 14 = .ok (.getfield 24, 3) := by decide +kernel
theorem dX5_add_17 : decode cX5_add 17 = .ok (.iload_n 1, 1) := by decide +kernel
theorem dX5_add_18 : decode cX5_add 18 = .ok (.iastore, 1) := by decide +kernel
theorem dX5_add_19 : decode cX5_add 19 = .ok (.aload_n 0, 1) := by decide +kernel
theorem dX5_add_20 : decode cX5_add 20 = .ok (.getfield 15, 3) := by decide +kernel
theorem dX5_add_23 : decode cX5_add 23 = .ok (.aload_n 0, 1) := by decide +kernel
theorem dX5_add_24 : decode cX5_add 24 = .ok (.getfield 24, 3) := by decide +kernel
theorem dX5_add_27 : decode cX5_add 27 = .ok (.iload_n 2, 1) := by decide +kernel
theorem dX5_add_28 : decode cX5_add 28 = .ok (.iastore, 1) := by decide +kernel
theorem dX5_add_29 : decode cX5_add 29 = .ok (.aload_n 0, 1) := by decide +kernel
theorem dX5_add_30 : decode cX5_add 30 = .ok (.getfield 18, 3) := by decide +kernel
theorem dX5_add_33 : decode cX5_add 33 = .ok (.aload_n 0, 1) := by decide +kernel
theorem dX5_add_34 : decode cX5_add 34 = .ok (.getfield 24, 3) := by decide +kernel
theorem dX5_add_37 : decode cX5_add 37 = .ok (.iconst 0, 1) := by decide +kernel
theorem dX5_add_38 : decode cX5_add 38 = .ok (.iastore, 1) := by decide +kernel
theorem dX5_add_39 : decode cX5_add 39 = .ok (.aload_n 0, 1) := by decide +kernel
theorem dX5_add_40 : decode cX5_add 40 = .ok (.getfield 21, 3) := by decide +kernel
theorem dX5_add_43 : decode cX5_add 43 = .ok (.aload_n 0, 1) := by decide +kernel
theorem dX5_add_44 : decode cX5_add 44 = .ok (.getfield 24, 3) := by decide +kernel
theorem dX5_add_47 : decode cX5_add 47 = .ok (.iload_n 3, 1) := by decide +kernel
theorem dX5_add_48 : decode cX5_add 48 = .ok (.iastore, 1) := by decide +kernel
theorem dX5_add_49 : decode cX5_add 49 = .ok (.aload_n 0, 1) := by decide +kernel
theorem dX5_add_50 : decode cX5_add 50 = .ok (.dup, 1) := by decide +kernel
theorem dX5_add_51 : decode cX5_add 51 = .ok (.getfield 24, 3) := by decide +kernel
theorem dX5_add_54 : decode cX5_add 54 = .ok (.iconst 1, 1) := by decide +kernel
theorem dX5_add_55 : decode cX5_add 55 = .ok (.iadd, 1) := by decide +kernel
theorem dX5_add_56 : decode cX5_add 56 = .ok (.putfield 24, 3) := by decide +kernel
theorem dX5_add_59 : decode cX5_add 59 = .ok (.return_, 1) := by decide +kernel
theorem dX5_set_0 : decode cX5_set 0 = .ok (.aload_n 0, 1) := by decide +kernel
theorem dX5_set_1 : decode cX5_set 1 = .ok (.iload_n 1, 1) := by decide +kernel
theorem dX5_set_2 : decode cX5_set 2 = .ok (.invokevirtual 39, 3) := by decide +kernel
theorem dX5_set_5 : decode cX5_set 5 = .ok (.istore 4, 2) := by decide +kernel
theorem dX5_set_7 : decode cX5_set 7 = .ok (.iload 4, 2) := by decide +kernel
theorem dX5_set_9 : decode cX5_set 9 = .ok (.iconst (-1), 1) := by decide +kernel
theorem dX5_set_10 : decode cX5_set 10 = .ok (.if_icmp .ne 5, 3) := by decide +kernel
theorem dX5_set_13 : decode cX5_set 13 = .ok (.iconst 1, 1) := by decide +kernel
theorem dX5_set_14 : decode cX5_set 14 = .ok (.ireturn, 1) := by decide +kernel
theorem dX5_set_15 : decode cX5_set 15 = .ok (.iload_n 3, 1) := by decide +kernel
theorem dX5_set_16 : decode cX5_set 16 = .ok (.iconst (-1), 1) := by decide +kernel
theorem dX5_set_17 : decode cX5_set 17 = .ok (.if_icmp .eq 16, 3) := by decide +kernel
theorem dX5_set_20 : decode cX5_set 20 = .ok (.iload_n 3, 1) := by decide +kernel
theorem dX5_set_21 : decode cX5_set 21 = .ok (.aload_n 0, 1) := by decide +kernel
theorem dX5_set_22 : decode cX5_set 22 = .ok (.getfield 18, 3) := by decide +kernel
theorem dX5_set_25 : decode cX5_set 25 = .ok (.iload 4, 2) := by decide +kernel
theorem dX5_set_27 : decode cX5_set 27 = .ok (.iaload, 1) := by decide +kernel
theorem dX5_set_28 : decode cX5_set 28 = .ok (.if_icmp .eq 5, 3) := by decide +kernel
theorem dX5_set_31 : decode cX5_set 31 = .ok (.iconst 5, 1) := by decide +kernel
theorem dX5_set_32 : decode cX5_set 32 = .ok (.ireturn, 1) := by decide +kernel
theorem dX5_set_33 : decode cX5_set 33 = .ok (.aload_n 0, 1) := by decide +kernel
theorem dX5_set_34 : decode cX5_set 34 = .ok (.getfield 15, 3) := by decide +kernel
theorem dX5_set_37 : decode cX5_set 37 = .ok (.iload 4, 2) := by decide +kernel
theorem dX5_set_39 : decode cX5_set 39 = .ok (.iload_n 2, 1) := by decide +kernel
theorem dX5_set_40 : decode cX5_set 40 = .ok (.iastore, 1) := by decide +kernel
theorem dX5_set_41 : decode cX5_set 41 = .ok (.aload_n 0, 1) := by decide +kernel
theorem dX5_set_42 : decode cX5_set 42 = .ok (.getfield 18, 3) := by decide +kernel
theorem dX5_set_45 : decode cX5_set 45 = .ok (.iload 4, 2) := by decide +kernel
theorem dX5_set_47 : decode cX5_set 47 = .ok (.dup2, 1) := by decide +kernel
theorem dX5_set_48 : decode cX5_set 48 = .ok (.iaload, 1) := by decide +kernel
theorem dX5_set_49 : decode cX5_set 49 = .ok (.iconst 1, 1) := by decide +kernel
theorem dX5_set_50 : decode cX5_set 50 = .ok (.iadd, 1) := by decide +kernel
theorem dX5_set_51 : decode cX5_set 51 = .ok (.iastore, 1) := by decide +kernel
theorem dX5_set_52 : decode cX5_set 52 = .ok (.iconst 0, 1) := by decide +kernel
theorem dX5_set_53 : decode cX5_set 53 = .ok (.ireturn, 1) := by decide +kernel
theorem dX5_delete_0 : decode cX5_delete 0 = .ok (.aload_n 0, 1) := by decide +kernel
theorem dX5_delete_1 : decode cX5_delete 1 = .ok (.iload_n 1, 1) := by decide +kernel
theorem dX5_delete_2 : decode cX5_delete 2 = .ok (.invokevirtual 39, 3) := by decide +kernel
theorem dX5_delete_5 : decode cX5_delete 5 = .ok (.istore_n 3, 1) := by decide +kernel
theorem dX5_delete_6 : decode cX5_delete 6 = .ok (.iload_n 3, 1) := by decide +kernel
theorem dX5_delete_7 : decode cX5_delete 7 = .ok (.iconst (-1), 1) := by decide +kernel
theorem dX5_delete_8 : decode cX5_delete 8 = .ok (.if_icmp .ne 5, 3) := by decide +kernel
theorem dX5_delete_11 : decode cX5_delete 11 = .ok (.iconst 1, 1) := by decide +kernel
theorem dX5_delete_12 : decode cX5_delete 12 = .ok (.ireturn, 1) := by decide +kernel
theorem dX5_delete_13 : decode cX5_delete 13 = .ok (.iload_n 2, 1) := by decide +kernel
theorem dX5_delete_14 : decode cX5_delete 14 = .ok (.iconst (-1), 1) := by decide +kernel
theorem dX5_delete_15 : decode cX5_delete 15 = .ok (.if_icmp .eq 15, 3) := by decide +kernel
theorem dX5_delete_18 : decode cX5_delete 18 = .ok (.iload_n 2, 1) := by decide +kernel
theorem dX5_delete_19 : decode cX5_delete 19 = .ok (.aload_n 0, 1) := by decide +kernel
theorem dX5_delete_20 : decode cX5_delete 20 = .ok (.getfield 18, 3) := by decide +kernel
theorem dX5_delete_23 : decode cX5_delete 23 = .ok (.iload_n 3, 1) := by decide +kernel
theorem dX5_delete_24 : decode cX5_delete 24 = .ok (.iaload, 1) := by decide +kernel
theorem dX5_delete_25 : decode cX5_delete 25 = .ok (.if_icmp .eq 5, 3) := by decide +kernel
theorem dX5_delete_28 : decode cX5_delete 28 = .ok (.iconst 5, 1) := by decide +kernel
theorem dX5_delete_29 : decode cX5_delete 29 = .ok (.ireturn, 1) := by decide +kernel
theorem dX5_delete_30 : decode cX5_delete 30 = .ok (.aload_n 0, 1) := by decide +kernel
theorem dX5_delete_31 : decode cX5_delete 31 = .ok (.iload_n 1, 1) := by decide +kernel
theorem dX5_delete_32 : decode cX5_delete 32 = .ok (.invokevirtual 42, 3) := by decide +kernel
theorem dX5_delete_35 : decode cX5_delete 35 = .ok (.ifCond .le 5, 3) := by decide +kernel
theorem dX5_delete_38 : decode cX5_delete 38 = .ok (.iconst 4, 1) := by decide +kernel
theorem dX5_delete_39 : decode cX5_delete 39 = .ok (.ireturn, 1) := by decide +kernel
theorem dX5_delete_40 : decode cX5_delete 40 = .ok (.aload_n 0, 1) := by decide +kernel
theorem dX5_delete_41 : decode cX5_delete 41 = .ok (.iload_n 3, 1) := by decide +kernel
theorem dX5_delete_42 : decode cX5_delete 42 = .ok (.invokevirtual 69, 3) := by decide +kernel
theorem dX5_delete_45 : decode cX5_delete 45 = .ok (.iconst 0, 1) := by decide +kernel
theorem dX5_delete_46 : decode cX5_delete 46 = .ok (.ireturn, 1) := by decide +kernel
theorem dX5_remove_0 : decode cX5_remove 0 = .ok (.aload_n 0, 1) := by decide +kernel
theorem dX5_remove_1 : decode cX5_remove 1 = .ok (.dup, 1) := by decide +kernel
theorem dX5_remove_2 : decode cX5_remove 2 = .ok (.getfield 24, 3) := by decide +kernel
theorem dX5_remove_5 : decode cX5_remove 5 = .ok (.iconst 1, 1) := by decide +kernel
theorem dX5_remove_6 : decode cX5_remove 6 = .ok (.isub, 1) := by decide +kernel
theorem dX5_remove_7 : decode cX5_remove 7 = .ok (.putfield 24, 3) := by decide +kernel
theorem dX5_remove_10 : decode cX5_remove 10 = .ok (.aload_n 0, 1) := by decide +kernel
theorem dX5_remove_11 : decode cX5_remove 11 = .ok (.getfield 9, 3) := by decide +kernel
theorem dX5_remove_14 : decode cX5_remove 14 = .ok (.iload_n 1, 1) := by decide +kernel
theorem dX5_remove_15 : decode cX5_remove 15 = .ok (.aload_n 0, 1) := by decide +kernel
theorem dX5_remove_16 : decode cX5_remove 16 = .ok (.getfield 9, 3) := by decide +kernel
theorem dX5_remove_19 : decode cX5_remove 19 = .ok (.aload_n 0, 1) := by decide +kernel
theorem dX5_remove_20 : decode cX5_remove 20 = .ok (.getfield 24, 3) := by decide +kernel
theorem dX5_remove_23 : decode cX5_remove 23 = .ok (.iaload, 1) := by decide +kernel
theorem dX5_remove_24 : decode cX5_remove 24 = .ok (.iastore, 1) := by decide +kernel
theorem dX5_remove_25 : decode cX5_remove 25 = .ok (.aload_n 0, 1) := by decide +kernel
theorem dX5_remove_26 : decode cX5_remove 26 = .ok (.getfield 15, 3) := by decide +kernel
theorem dX5_remove_29 : decode cX5_remove 29 = .ok (.iload_n 1, 1) := by decide +kernel
theorem dX5_remove_30 : decode cX5_remove 30 = .ok (.aload_n 0, 1) := by decide +kernel
theorem dX5_remove_31 : decode cX5_remove 31 = .ok (.getfield 15, 3) := by decide +kernel
theorem dX5_remove_34 : decode cX5_remove 34 = .ok (.aload_n 0, 1) := by decide +kernel
theorem dX5_remove_35 : decode cX5_remove 35 = .ok (.getfield 24, 3) := by decide +kernel
theorem dX5_remove_38 : decode cX5_remove 38 = .ok (.iaload, 1) := by decide +kernel
theorem dX5_remove_39 : decode cX5_remove 39 = .ok (.iastore, 1) := by decide +kernel
theorem dX5_remove_40 : decode cX5_remove 40 = .ok (.aload_n 0, 1) := by decide +kernel
theorem dX5_remove_41 : decode cX5_remove 41 = .ok (.getfield 18, 3) := by decide +kernel
theorem dX5_remove_44 : decode cX5_remove 44 = .ok (.iload_n 1, 1) := by decide +kernel
theorem dX5_remove_45 : decode cX5_remove 45 = .ok (.aload_n 0, 1) := by decide +kernel
theorem dX5_remove_46 : decode cX5_remove 46 = .ok (.getfield 18, 3) := by decide +kernel
theorem dX5_remove_49 : decode cX5_remove 49 = .ok (.aload_n 0, 1) := by decide +kernel
theorem dX5_remove_50 : decode cX5_remove 50 = .ok (.getfield 24, 3) := by decide +kernel
theorem dX5_remove_53 : decode cX5_remove 53 = .ok (.iaload, 1) := by decide +kernel
theorem dX5_remove_54 : decode cX5_remove 54 = .ok (.iastore, 1) := by decide +kernel
theorem dX5_remove_55 : decode cX5_remove 55 = .ok (.aload_n 0, 1) := by decide +kernel
theorem dX5_remove_56 : decode cX5_remove 56 = .ok (.getfield 21, 3) := by decide +kernel
theorem dX5_remove_59 : decode cX5_remove 59 = .ok (.iload_n 1, 1) := by decide +kernel
theorem dX5_remove_60 : decode cX5_remove 60 = .ok (.aload_n 0, 1) := by decide +kernel
theorem dX5_remove_61 : decode cX5_remove 61 = .ok (.getfield 21, 3) := by decide +kernel
theorem dX5_remove_64 : decode cX5_remove 64 = .ok (.aload_n 0, 1) := by decide +kernel
theorem dX5_remove_65 : decode cX5_remove 65 = .ok (.getfield 24, 3) := by decide +kernel
theorem dX5_remove_68 : decode cX5_remove 68 = .ok (.iaload, 1) := by decide +kernel
theorem dX5_remove_69 : decode cX5_remove 69 = .ok (.iastore, 1) := by decide +kernel
theorem dX5_remove_70 : decode cX5_remove 70 = .ok (.return_, 1) := by decide +kernel
theorem dX5_open_0 : decode cX5_open 0 = .ok (.aload_n 0, 1) := by decide +kernel
theorem dX5_open_1 : decode cX5_open 1 = .ok (.iload_n 1, 1) := by decide +kernel
theorem dX5_open_2 : decode cX5_open 2 = .ok (.invokevirtual 62, 3) := by decide +kernel
theorem dX5_open_5 : decode cX5_open 5 = .ok (.ifCond .eq 5, 3) := by decide +kernel
theorem dX5_open_8 : decode cX5_open 8 = .ok (.iconst 2, 1) := by decide +kernel
theorem dX5_open_9 : decode cX5_open 9 = .ok (.ireturn, 1) := by decide +kernel
theorem dX5_open_10 : decode cX5_open 10 = .ok (.aload_n 0, 1) := by decide +kernel
theorem dX5_open_11 : decode cX5_open 11 = .ok (.dup, 1) := by decide +kernel
theorem dX5_open_12 : decode cX5_open 12 = .ok (.getfield 28, 3) := by decide +kernel
theorem dX5_open_15 : decode cX5_open 15 = .ok (.iconst 1, 1) := by decide +kernel
theorem dX5_open_16 : decode cX5_open 16 = .ok (.iload_n 1, 1) := by decide +kernel
theorem dX5_open_17 : decode cX5_open 17 = .ok (.ishl, 1) := by decide +kernel
theorem dX5_open_18 : decode cX5_open 18 = .ok (.ior, 1) := by decide +kernel
theorem dX5_open_19 : decode cX5_open 19 = .ok (.putfield 28, 3) := by decide +kernel
theorem dX5_open_22 : decode cX5_open 22 = .ok (.iconst 0, 1) := by decide +kernel
theorem dX5_open_23 : decode cX5_open 23 = .ok (.ireturn, 1) := by decide +kernel
theorem dX5_close_0 : decode cX5_close 0 = .ok (.aload_n 0, 1) := by decide +kernel
theorem dX5_close_1 : decode cX5_close 1 = .ok (.iload_n 1, 1) := by decide +kernel
theorem dX5_close_2 : decode cX5_close 2 = .ok (.invokevirtual 62, 3) := by decide +kernel
theorem dX5_close_5 : decode cX5_close 5 = .ok (.ifCond .ne 6, 3) := by decide +kernel
theorem dX5_close_8 : decode cX5_close 8 = .ok (.bipush 6, 2) := by decide +kernel
theorem dX5_close_10 : decode cX5_close 10 = .ok (.ireturn, 1) := by decide +kernel
theorem dX5_close_11 : decode cX5_close 11 = .ok (.aload_n 0, 1) := by decide +kernel
theorem dX5_close_12 : decode cX5_close 12 = .ok (.getfield 24, 3) := by decide +kernel
theorem dX5_close_15 : decode cX5_close 15 = .ok (.iconst 1, 1) := by decide +kernel
theorem dX5_close_16 : decode cX5_close 16 = .ok (.isub, 1) := by decide +kernel
theorem dX5_close_17 : decode cX5_close 17 = .ok (.istore_n 2, 1) := by decide +kernel
theorem dX5_close_18 : decode cX5_close 18 = .ok (.iload_n 2, 1) := by decide +kernel
theorem dX5_close_19 : decode cX5_close 19 = .ok (.ifCond .lt 24, 3) := by decide +kernel
theorem dX5_close_22 : decode cX5_close 22 = .ok (.aload_n 0, 1) := by decide +kernel
theorem dX5_close_23 : decode cX5_close 23 = .ok (.getfield 21, 3) := by decide +kernel
theorem dX5_close_26 : decode cX5_close 26 = .ok (.iload_n 2, 1) := by decide +kernel
theorem dX5_close_27 : decode cX5_close 27 = .ok (.iaload, 1) := by decide +kernel
theorem dX5_close_28 : decode cX5_close 28 = .ok (.iload_n 1, 1) := by decide +kernel
theorem dX5_close_29 : decode cX5_close 29 = .ok (.if_icmp .ne 8, 3) := by decide +kernel
theorem dX5_close_32 : decode cX5_close 32 = .ok (.aload_n 0, 1) := by decide +kernel
theorem dX5_close_33 : decode cX5_close 33 = .ok (.iload_n 2, 1) := by decide +kernel
theorem dX5_close_34 : decode cX5_close 34 = .ok (.invokevirtual 69, 3) := by decide +kernel
theorem dX5_close_37 : decode cX5_close 37 = .ok (.iinc 2 (-1), 3) := by decide +kernel
theorem dX5_close_40 : decode cX5_close 40 = .ok (.goto (-22), 3) := by decide +kernel
theorem dX5_close_43 : decode cX5_close 43 = .ok (.aload_n 0, 1) := by decide +kernel
theorem dX5_close_44 : decode cX5_close 44 = .ok (.dup, 1) := by decide +kernel
theorem dX5_close_45 : decode cX5_close 45 = .ok (.getfield 28, 3) := by decide +kernel
theorem dX5_close_48 : decode cX5_close 48 = .ok (.iconst 1, 1) := by decide +kernel
theorem dX5_close_49 : decode cX5_close 49 = .ok (.iload_n 1, 1) := by decide +kernel
theorem dX5_close_50 : decode cX5_close 50 = .ok (.ishl, 1) := by decide +kernel
theorem dX5_close_51 : decode cX5_close 51 = .ok (.iconst (-1), 1) := by decide +kernel
theorem dX5_close_52 : decode cX5_close 52 = .ok (.ixor, 1) := by decide +kernel
theorem dX5_close_53 : decode cX5_close 53 = .ok (.iand, 1) := by decide +kernel
theorem dX5_close_54 : decode cX5_close 54 = .ok (.putfield 28, 3) := by decide +kernel
theorem dX5_close_57 : decode cX5_close 57 = .ok (.iconst 0, 1) := by decide +kernel
theorem dX5_close_58 : decode cX5_close 58 = .ok (.ireturn, 1) := by decide +kernel
end
section
theorem dX6_init_0 : decode cX6_init 0 = .ok (.aload_n 0, 1) := by decide +kernel
theorem dX6_init_1 : decode cX6_init 1 = .ok (.invokespecial 3, 3) := by decide +kernel
theorem dX6_init_4 : decode cX6_init 4 = .ok (.aload_n 0, 1) := by decide +kernel
theorem dX6_init_5 : decode cX6_init 5 = .ok (.iconst 3, 1) := by decide +kernel
theorem dX6_init_6 : decode cX6_init 6 = .ok (.anewarray 9, 3) := by decide +kernel
theorem dX6_init_9 : decode cX6_init 9 = .ok (.putfield 11, 3) := by decide +kernel
theorem dX6_init_12 : decode cX6_init 12 = .ok (.iconst 0, 1) := by decide +kernel
theorem dX6_init_13 : decode cX6_init 13 = .ok (.istore_n 1, 1) := by decide +kernel
theorem dX6_init_14 : decode cX6_init 14 = .ok (.iload_n 1, 1) := by decide +kernel
theorem dX6_init_15 : decode cX6_init 15 = .ok (.iconst 3, 1) := by decide +kernel
theorem dX6_init_16 : decode cX6_init 16 = .ok (.if_icmp .ge 23, 3) := by decide +kernel
theorem dX6_init_19 : decode cX6_init 19 = .ok (.aload_n 0, 1) := by decide +kernel
theorem dX6_init_20 : decode cX6_init 20 = .ok (.getfield 11, 3) := by decide +kernel
theorem dX6_init_23 : decode cX6_init 23 = .ok (.iload_n 1, 1) := by decide +kernel
theorem dX6_init_24 : decode cX6_init 24 = .ok (.new 9, 3) := by decide +kernel
theorem dX6_init_27 : decode cX6_init 27 = .ok (.dup, 1) := by decide +kernel
theorem dX6_init_28 : decode cX6_init 28 = .ok (.iload_n 1, 1) := by decide +kernel
theorem dX6_init_29 : decode cX6_init 29 = .ok (.invokespecial 15, 3) := by decide +kernel
theorem dX6_init_32 : decode cX6_init 32 = .ok (.aastore, 1) := by decide +kernel
theorem dX6_init_33 : decode cX6_init 33 = .ok (.iinc 1 1, 3) := by decide +kernel
theorem dX6_init_36 : decode cX6_init 36 = .ok (.goto (-22), 3) := by decide +kernel
theorem dX6_init_39 : decode cX6_init 39 = .ok (.return_, 1) := by decide +kernel
theorem dX6_lead_0 : decode cX6_lead 0 = .ok (.aload_n 0, 1) := by decide +kernel
theorem dX6_lead_1 : decode cX6_lead 1 = .ok (.iload_n 1, 1) := by decide +kernel
theorem dX6_lead_2 : decode cX6_lead 2 = .ok (.iconst 1, 1) := by decide +kernel
theorem dX6_lead_3 : decode cX6_lead 3 = .ok (.invokevirtual 18, 3) := by decide +kernel
theorem dX6_lead_6 : decode cX6_lead 6 = .ok (.ifCond .ne 5, 3) := by decide +kernel
theorem dX6_lead_9 : decode cX6_lead 9 = .ok (.iconst 0, 1) := by decide +kernel
theorem dX6_lead_10 : decode cX6_lead 10 = .ok (.ireturn, 1) := by decide +kernel
theorem dX6_lead_11 : decode cX6_lead 11 = .ok (.aload_n 0, 1) := by decide +kernel
theorem dX6_lead_12 : decode cX6_lead 12 = .ok (.getfield 11, 3) := by decide +kernel
theorem dX6_lead_15 : decode cX6_lead 15 = .ok (.iload_n 1, 1) := by decide +kernel
theorem dX6_lead_16 : decode cX6_lead 16 = .ok (.aaload, 1) := by decide +kernel
theorem dX6_lead_17 : decode cX6_lead 17 = .ok (.iconst 3, 1) := by decide +kernel
theorem dX6_lead_18 : decode cX6_lead 18 = .ok (.putfield 22, 3) := by decide +kernel
theorem dX6_lead_21 : decode cX6_lead 21 = .ok (.aload_n 0, 1) := by decide +kernel
theorem dX6_lead_22 : decode cX6_lead 22 = .ok (.getfield 11, 3) := by decide +kernel
theorem dX6_lead_25 : decode cX6_lead 25 = .ok (.iload_n 1, 1) := by decide +kernel
theorem dX6_lead_26 : decode cX6_lead 26 = .ok (.aaload, 1) := by decide +kernel
theorem dX6_lead_27 : decode cX6_lead 27 = .ok (.getfield 26, 3) := by decide +kernel
theorem dX6_lead_30 : decode cX6_lead 30 = .ok (.invokevirtual 30, 3) := by decide +kernel
theorem dX6_lead_33 : decode cX6_lead 33 = .ok (.iconst 1, 1) := by decide +kernel
theorem dX6_lead_34 : decode cX6_lead 34 = .ok (.ireturn, 1) := by decide +kernel
theorem dX6_follow_0 : decode cX6_follow 0 = .ok (.aload_n 0, 1) := by decide +kernel
theorem dX6_follow_1 : decode cX6_follow 1 = .ok (.iload_n 1, 1) := by decide +kernel
theorem dX6_follow_2 : decode cX6_follow 2 = .ok (.iconst 1, 1) := by decide +kernel
theorem dX6_follow_3 : decode cX6_follow 3 = .ok (.invokevirtual 18, 3) := by decide +kernel
theorem dX6_follow_6 : decode cX6_follow 6 = .ok (.ifCond .eq 11, 3) := by decide +kernel
theorem dX6_follow_9 : decode cX6_follow 9 = .ok (.aload_n 0, 1) := by decide +kernel
theorem dX6_follow_10 : decode cX6_follow 10 = .ok (.iload_n 2, 1) := by decide +kernel
theorem dX6_follow_11 : decode cX6_follow 11 = .ok (.invokevirtual 35, 3) := by decide +kernel
theorem dX6_follow_14 : decode cX6_follow 14 = .ok (.ifCond .ne 5, 3) := by decide +kernel
theorem dX6_follow_17 : decode cX6_follow 17 = .ok (.iconst 0, 1) := by decide +kernel
theorem dX6_follow_18 : decode cX6_follow 18 = .ok (.ireturn, 1) := by decide +kernel
theorem dX6_follow_19 : decode cX6_follow 19 = .ok (.aload_n 0, 1) := by decide +kernel
theorem dX6_follow_20 : decode cX6_follow 20 = .ok (.getfield 11, 3) := by decide +kernel
theorem dX6_follow_23 : decode cX6_follow 23 = .ok (.iload_n 1, 1) := by decide +kernel
theorem dX6_follow_24 : decode cX6_follow 24 = .ok (.aaload, 1) := by decide +kernel
theorem dX6_follow_25 : decode cX6_follow 25 = .ok (.astore_n 3, 1) := by decide +kernel
theorem dX6_follow_26 : decode cX6_follow 26 = .ok (.aload_n 3, 1) := by decide +kernel
theorem dX6_follow_27 : decode cX6_follow 27 = .ok (.iconst 2, 1) := by decide +kernel
theorem dX6_follow_28 : decode cX6_follow 28 = .ok (.putfield 22, 3) := by decide +kernel
theorem dX6_follow_31 : decode cX6_follow 31 = .ok (.aload_n 3, 1) := by decide +kernel
theorem dX6_follow_32 : decode cX6_follow 32 = .ok (.iload_n 2, 1) := by decide +kernel
theorem dX6_follow_33 : decode cX6_follow 33 = .ok (.putfield 39, 3) := by decide +kernel
theorem dX6_follow_36 : decode cX6_follow 36 = .ok (.aload_n 3, 1) := by decide +kernel
theorem dX6_follow_37 : decode cX6_follow 37 = .ok (.getfield 42, 3) := by decide +kernel
theorem dX6_follow_40 : decode cX6_follow 40 = .ok (.getfield 46, 3) := by decide +kernel
theorem dX6_follow_43 : decode cX6_follow 43 = .ok (.iconst 1, 1) := by decide +kernel
theorem dX6_follow_44 : decode cX6_follow 44 = .ok (.aload_n 3, 1) := by decide +kernel
theorem dX6_follow_45 : decode cX6_follow 45 = .ok (.getfield 52, 3) := by decide +kernel
theorem dX6_follow_48 : decode cX6_follow 48 = .ok (.invokevirtual 55, 3) := by decide +kernel
theorem dX6_follow_51 : decode cX6_follow 51 = .ok (.iconst 1, 1) := by decide +kernel
theorem dX6_follow_52 : decode cX6_follow 52 = .ok (.ireturn, 1) := by decide +kernel
theorem dX6_quit_0 : decode cX6_quit 0 = .ok (.aload_n 0, 1) := by decide +kernel
theorem dX6_quit_1 : decode cX6_quit 1 = .ok (.iload_n 1, 1) := by decide +kernel
theorem dX6_quit_2 : decode cX6_quit 2 = .ok (.iconst 2, 1) := by decide +kernel
theorem dX6_quit_3 : decode cX6_quit 3 = .ok (.invokevirtual 18, 3) := by decide +kernel
theorem dX6_quit_6 : decode cX6_quit 6 = .ok (.ifCond .ne 13, 3) := by decide +kernel
theorem dX6_quit_9 : decode cX6_quit 9 = .ok (.aload_n 0, 1) := by decide +kernel
theorem dX6_quit_10 : decode cX6_quit 10 = .ok (.iload_n 1, 1) := by decide +kernel
theorem dX6_quit_11 : decode cX6_quit 11 = .ok (.invokevirtual 35, 3) := by decide +kernel
theorem dX6_quit_14 : decode cX6_quit 14 = .ok (.ifCond .ne 5, 3) := by decide +kernel
theorem dX6_quit_17 : decode cX6_quit 17 = .ok (.iconst 0, 1) := by decide +kernel
theorem dX6_quit_18 : decode cX6_quit 18 = .ok (.ireturn, 1) := by decide +kernel
theorem dX6_quit_19 : decode cX6_quit 19 = .ok (.aload_n 0, 1) := by decide +kernel
theorem dX6_quit_20 : decode cX6_quit 20 = .ok (.iload_n 1, 1) := by decide +kernel
theorem dX6_quit_21 : decode cX6_quit 21 = .ok (.iconst 1, 1) := by decide +kernel
theorem dX6_quit_22 : decode cX6_quit 22 = .ok (.invokevirtual 61, 3) := by decide +kernel
theorem dX6_quit_25 : decode cX6_quit 25 = .ok (.iconst 1, 1) := by decide +kernel
theorem dX6_quit_26 : decode cX6_quit 26 = .ok (.ireturn, 1) := by decide +kernel
theorem dX6_crash_0 : decode cX6_crash 0 = .ok (.iload_n 1, 1) := by decide +kernel
theorem dX6_crash_1 : decode cX6_crash 1 = .ok (.invokestatic 64, 3) := by decide +kernel
theorem dX6_crash_4 : decode cX6_crash 4 = .ok (.ifCond .eq 15, 3) := by decide +kernel
theorem dX6_crash_7 : decode cX6_crash 7 = .ok (.aload_n 0, 1) := by decide +kernel
theorem dX6_crash_8 : decode cX6_crash 8 = .ok (.getfield 11, 3) := by decide +kernel
theorem dX6_crash_11 : decode cX6_crash 11 = .ok (.iload_n 1, 1) := by decide +kernel
theorem dX6_crash_12 : decode cX6_crash 12 = .ok (.aaload, 1) := by decide +kernel
theorem dX6_crash_13 : decode cX6_crash 13 = .ok (.getfield 22, 3) := by decide +kernel
theorem dX6_crash_16 : decode cX6_crash 16 = .ok (.ifCond .ne 5, 3) := by decide +kernel
theorem dX6_crash_19 : decode cX6_crash 19 = .ok (.iconst 0, 1) := by decide +kernel
theorem dX6_crash_20 : decode cX6_crash 20 = .ok (.ireturn, 1) := by decide +kernel
theorem dX6_crash_21 : decode cX6_crash 21 = .ok (.aload_n 0, 1) := by decide +kernel
theorem dX6_crash_22 : decode cX6_crash 22 = .ok (.iload_n 1, 1) := by decide +kernel
theorem dX6_crash_23 : decode cX6_crash 23 = .ok (.iconst 0, 1) := by decide +kernel
theorem dX6_crash_24 : decode cX6_crash 24 = .ok (.invokevirtual 61, 3) := by decide +kernel
theorem dX6_crash_27 : decode cX6_crash 27 = .ok (.aload_n 0, 1) := by decide +kernel
theorem dX6_crash_28 : decode cX6_crash 28 = .ok (.getfield 11, 3) := by decide +kernel
theorem dX6_crash_31 : decode cX6_crash 31 = .ok (.iload_n 1, 1) := by decide +kernel
theorem dX6_crash_32 : decode cX6_crash 32 = .ok (.aaload, 1) := by decide +kernel
theorem dX6_crash_33 : decode cX6_crash 33 = .ok (.invokevirtual 67, 3) := by decide +kernel
theorem dX6_crash_36 : decode cX6_crash 36 = .ok (.iconst 1, 1) := by decide +kernel
theorem dX6_crash_37 : decode cX6_crash 37 = .ok (.ireturn, 1) := by decide +kernel
theorem dX6_restart_0 : decode cX6_restart 0 = .ok (.aload_n 0, 1) := by decide +kernel
theorem dX6_restart_1 : decode cX6_restart 1 = .ok (.iload_n 1, 1) := by decide +kernel
theorem dX6_restart_2 : decode cX6_restart 2 = .ok (.iconst 0, 1) := by decide +kernel
theorem dX6_restart_3 : decode cX6_restart 3 = .ok (.invokevirtual 18, 3) := by decide +kernel
theorem dX6_restart_6 : decode cX6_restart 6 = .ok (.ifCond .ne 5, 3) := by decide +kernel
theorem dX6_restart_9 : decode cX6_restart 9 = .ok (.iconst 0, 1) := by decide +kernel
theorem dX6_restart_10 : decode cX6_restart 10 = .ok (.ireturn, 1) := by decide +kernel
theorem dX6_restart_11 : decode cX6_restart 11 = .ok (.aload_n 0, 1) := by decide +kernel
theorem dX6_restart_12 : decode cX6_restart 12 = .ok (.getfield 11, 3) := by decide +kernel
theorem dX6_restart_15 : decode cX6_restart 15 = .ok (.iload_n 1, 1) := by decide +kernel
theorem dX6_restart_16 : decode cX6_restart 16 = .ok (.aaload, 1) := by decide +kernel
theorem dX6_restart_17 : decode cX6_restart 17 = .ok (.iconst 1, 1) := by decide +kernel
theorem dX6_restart_18 : decode cX6_restart 18 = .ok (.putfield 22, 3) := by decide +kernel
theorem dX6_restart_21 : decode cX6_restart 21 = .ok (.iconst 1, 1) := by decide +kernel
theorem dX6_restart_22 : decode cX6_restart 22 = .ok (.ireturn, 1) := by decide +kernel
theorem dX6_up_0 : decode cX6_up 0 = .ok (.aload_n 0, 1) := by decide +kernel
theorem dX6_up_1 : decode cX6_up 1 = .ok (.iload_n 1, 1) := by decide +kernel
theorem dX6_up_2 : decode cX6_up 2 = .ok (.iconst 2, 1) := by decide +kernel
theorem dX6_up_3 : decode cX6_up 3 = .ok (.invokevirtual 18, 3) := by decide +kernel
theorem dX6_up_6 : decode cX6_up 6 = .ok (.ifCond .ne 5, 3) := by decide +kernel
theorem dX6_up_9 : decode cX6_up 9 = .ok (.iconst 0, 1) := by decide +kernel
theorem dX6_up_10 : decode cX6_up 10 = .ok (.ireturn, 1) := by decide +kernel
theorem dX6_up_11 : decode cX6_up 11 = .ok (.aload_n 0, 1) := by decide +kernel
theorem dX6_up_12 : decode cX6_up 12 = .ok (.getfield 11, 3) := by decide +kernel
theorem dX6_up_15 : decode cX6_up 15 = .ok (.iload_n 1, 1) := by decide +kernel
theorem dX6_up_16 : decode cX6_up 16 = .ok (.aaload, 1) := by decide +kernel
theorem dX6_up_17 : decode cX6_up 17 = .ok (.astore_n 2, 1) := by decide +kernel
theorem dX6_up_18 : decode cX6_up 18 = .ok (.aload_n 0, 1) := by decide +kernel
theorem dX6_up_19 : decode cX6_up 19 = .ok (.getfield 11, 3) := by decide +kernel
theorem dX6_up_22 : decode cX6_up 22 = .ok (.aload_n 2, 1) := by decide +kernel
theorem dX6_up_23 : decode cX6_up 23 = .ok (.getfield 39, 3) := by decide +kernel
theorem dX6_up_26 : decode cX6_up 26 = .ok (.aaload, 1) := by decide +kernel
theorem dX6_up_27 : decode cX6_up 27 = .ok (.astore_n 3, 1) := by decide +kernel
theorem dX6_up_28 : decode cX6_up 28 = .ok (.aload_n 2, 1) := by decide +kernel
theorem dX6_up_29 : decode cX6_up 29 = .ok (.getfield 42, 3) := by decide +kernel
theorem dX6_up_32 : decode cX6_up 32 = .ok (.getfield 46, 3) := by decide +kernel
theorem dX6_up_35 : decode cX6_up 35 = .ok (.astore 4, 2) := by decide +kernel
theorem dX6_up_37 : decode cX6_up 37 = .ok (.aload 4, 2) := by decide +kernel
theorem dX6_up_39 : decode cX6_up 39 = .ok (.invokevirtual 70, 3) := by decide +kernel
theorem dX6_up_42 : decode cX6_up 42 = .ok (.ifCond .ne 5, 3) := by decide +kernel
theorem dX6_up_45 : decode cX6_up 45 = .ok (.iconst 0, 1) := by decide +kernel
theorem dX6_up_46 : decode cX6_up 46 = .ok (.ireturn, 1) := by decide +kernel
theorem dX6_up_47 : decode cX6_up 47 = .ok (.aload 4, 2) := by decide +kernel
theorem dX6_up_49 : decode cX6_up 49 = .ok (.invokevirtual 74, 3) := by decide +kernel
theorem dX6_up_52 : decode cX6_up 52 = .ok (.istore 5, 2) := by decide +kernel
theorem dX6_up_54 : decode cX6_up 54 = .ok (.aload 4, 2) := by decide +kernel
theorem dX6_up_56 : decode cX6_up 56 = .ok (.invokevirtual 77, 3) := by decide +kernel
theorem dX6_up_59 : decode cX6_up 59 = .ok (.istore 6, 2) := by decide +kernel
theorem dX6_up_61 : decode cX6_up 61 = .ok (.aload 4, 2) := by decide +kernel
theorem dX6_up_63 : decode cX6_up 63 = .ok (.invokevirtual 80, 3) := by decide +kernel
theorem dX6_up_66 : decode cX6_up 66 = .ok (.iload 5, 2) := by decide +kernel
theorem dX6_up_68 : decode cX6_up 68 = .ok (.iconst 1, 1) := by decide +kernel
theorem dX6_up_69 : decode cX6_up 69 = .ok (.if_icmp .ne 13, 3) := by decide +kernel
theorem dX6_up_72 : decode cX6_up 72 = .ok (.aload_n 3, 1) := by decide +kernel
theorem dX6_up_73 : decode cX6_up 73 = .ok (.aload_n 2, 1) := by decide +kernel
theorem dX6_up_74 : decode cX6_up 74 = .ok (.iload 6, 2) := by decide +kernel
theorem dX6_up_76 : decode cX6_up 76 = .ok (.invokestatic 83, 3) := by decide +kernel
theorem dX6_up_79 : decode cX6_up 79 = .ok (.goto 36, 3) := by decide +kernel
theorem dX6_up_82 : decode cX6_up 82 = .ok (.iload 5, 2) := by decide +kernel
theorem dX6_up_84 : decode cX6_up 84 = .ok (.iconst 2, 1) := by decide +kernel
theorem dX6_up_85 : decode cX6_up 85 = .ok (.if_icmp .ne 22, 3) := by decide +kernel
theorem dX6_up_88 : decode cX6_up 88 = .ok (.aload_n 0, 1) := by decide +kernel
theorem dX6_up_89 : decode cX6_up 89 = .ok (.aload_n 3, 1) := by decide +kernel
theorem dX6_up_90 : decode cX6_up 90 = .ok (.aload_n 2, 1) := by decide +kernel
theorem dX6_up_91 : decode cX6_up 91 = .ok (.iload 6, 2) := by decide +kernel
theorem dX6_up_93 : decode cX6_up 93 = .ok (.ifCond .eq 7, 3) := by decide +kernel
theorem dX6_up_96 : decode cX6_up 96 = .ok (.iconst 1, 1) := by decide +kernel
theorem dX6_up_97 : decode cX6_up 97 = .ok (.goto 4, 3) := by decide +kernel
theorem dX6_up_100 : decode cX6_up 100 = .ok (.iconst 0, 1) := by decide +kernel
theorem dX6_up_101 : decode cX6_up 101 = .ok (.invokevirtual 87, 3) := by decide +kernel
theorem dX6_up_104 : decode cX6_up 104 = .ok (.goto 11, 3) := by decide +kernel
theorem dX6_up_107 : decode cX6_up 107 = .ok (.aload_n 0, 1) := by decide +kernel
theorem dX6_up_108 : decode cX6_up 108 = .ok (.aload_n 3, 1) := by decide +kernel
theorem dX6_up_109 : decode cX6_up 109 = .ok (.aload_n 2, 1) := by decide +kernel
theorem dX6_up_110 : decode cX6_up 110 = .ok (.iload 6, 2) := by decide +kernel
theorem dX6_up_112 : decode cX6_up 112 = .ok (.invokevirtual 91, 3) := by decide +kernel
theorem dX6_up_115 : decode cX6_up 115 = .ok (.iload 5, 2) := by decide +kernel
theorem dX6_up_117 : decode cX6_up 117 = .ok (.ireturn, 1) := by decide +kernel
theorem dX6_down_0 : decode cX6_down 0 = .ok (.aload_n 0, 1) := by decide +kernel
theorem dX6_down_1 : decode cX6_down 1 = .ok (.iload_n 1, 1) := by decide +kernel
theorem dX6_down_2 : decode cX6_down 2 = .ok (.iconst 2, 1) := by decide +kernel
theorem dX6_down_3 : decode cX6_down 3 = .ok (.invokevirtual 18, 3) := by decide +kernel
theorem dX6_down_6 : decode cX6_down 6 = .ok (.ifCond .ne 5, 3) := by decide +kernel
theorem dX6_down_9 : decode cX6_down 9 = .ok (.iconst 0, 1) := by decide +kernel
theorem dX6_down_10 : decode cX6_down 10 = .ok (.ireturn, 1) := by decide +kernel
theorem dX6_down_11 : decode cX6_down 11 = .ok (.aload_n 0, 1) := by decide +kernel
theorem dX6_down_12 : decode cX6_down 12 = .ok (.getfield 11, 3) := by decide +kernel
theorem dX6_down_15 : decode cX6_down 15 = .ok (.iload_n 1, 1) := by decide +kernel
theorem dX6_down_16 : decode cX6_down 16 = .ok (.aaload, 1) := by decide +kernel
theorem dX6_down_17 : decode cX6_down 17 = .ok (.astore_n 2, 1) := by decide +kernel
theorem dX6_down_18 : decode cX6_down 18 = .ok (.aload_n 2, 1) := by decide +kernel
theorem dX6_down_19 : decode cX6_down 19 = .ok (.getfield 42, 3) := by decide +kernel
theorem dX6_down_22 : decode cX6_down 22 = .ok (.getfield 94, 3) := by decide +kernel
theorem dX6_down_25 : decode cX6_down 25 = .ok (.astore_n 3, 1) := by decide +kernel
theorem dX6_down_26 : decode cX6_down 26 = .ok (.aload_n 3, 1) := by decide +kernel
theorem dX6_down_27 : decode cX6_down 27 = .ok (.invokevirtual 70, 3) := by decide +kernel
theorem dX6_down_30 : decode cX6_down 30 = .ok (.ifCond .ne 5, 3) := by decide +kernel
theorem dX6_down_33 : decode cX6_down 33 = .ok (.iconst 0, 1) := by decide +kernel
theorem dX6_down_34 : decode cX6_down 34 = .ok (.ireturn, 1) := by decide +kernel
theorem dX6_down_35 : decode cX6_down 35 = .ok (.aload_n 3, 1) := by decide +kernel
theorem dX6_down_36 : decode cX6_down 36 = .ok (.invokevirtual 74, 3) := by decide +kernel
theorem dX6_down_39 : decode cX6_down 39 = .ok (.istore 4, 2) := by decide +kernel
theorem dX6_down_41 : decode cX6_down 41 = .ok (.aload_n 3, 1) := by decide +kernel
theorem dX6_down_42 : decode cX6_down 42 = .ok (.invokevirtual 77, 3) := by decide +kernel
theorem dX6_down_45 : decode cX6_down 45 = .ok (.istore 5, 2) := by decide +kernel
theorem dX6_down_47 : decode cX6_down 47 = .ok (.aload_n 3, 1) := by decide +kernel
theorem dX6_down_48 : decode cX6_down 48 = .ok (.invokevirtual 80, 3) := by decide +kernel
theorem dX6_down_51 : decode cX6_down 51 = .ok (.iload 4, 2) := by decide +kernel
theorem dX6_down_53 : decode cX6_down 53 = .ok (.iconst 4, 1) := by decide +kernel
theorem dX6_down_54 : decode cX6_down 54 = .ok (.if_icmp .ne 13, 3) := by decide +kernel
theorem dX6_down_57 : decode cX6_down 57 = .ok (.aload_n 0, 1) := by decide +kernel
theorem dX6_down_58 : decode cX6_down 58 = .ok (.iload_n 1, 1) := by decide +kernel
theorem dX6_down_59 : decode cX6_down 59 = .ok (.iload 5, 2) := by decide +kernel
theorem dX6_down_61 : decode cX6_down 61 = .ok (.invokevirtual 97, 3) := by decide +kernel
theorem dX6_down_64 : decode cX6_down 64 = .ok (.goto 42, 3) := by decide +kernel
theorem dX6_down_67 : decode cX6_down 67 = .ok (.iload 4, 2) := by decide +kernel
theorem dX6_down_69 : decode cX6_down 69 = .ok (.iconst 5, 1) := by decide +kernel
theorem dX6_down_70 : decode cX6_down 70 = .ok (.if_icmp .ne 13, 3) := by decide +kernel
theorem dX6_down_73 : decode cX6_down 73 = .ok (.aload_n 0, 1) := by decide +kernel
theorem dX6_down_74 : decode cX6_down 74 = .ok (.aload_n 2, 1) := by decide +kernel
theorem dX6_down_75 : decode cX6_down 75 = .ok (.iload 5, 2) := by decide +kernel
theorem dX6_down_77 : decode cX6_down 77 = .ok (.invokevirtual 100, 3) := by decide +kernel
theorem dX6_down_80 : decode cX6_down 80 = .ok (.goto 26, 3) := by decide +kernel
theorem dX6_down_83 : decode cX6_down 83 = .ok (.iload 4, 2) := by decide +kernel
theorem dX6_down_85 : decode cX6_down 85 = .ok (.bipush 6, 2) := by decide +kernel
theorem dX6_down_87 : decode cX6_down 87 = .ok (.if_icmp .ne 13, 3) := by decide +kernel
theorem dX6_down_90 : decode cX6_down 90 = .ok (.aload_n 0, 1) := by decide +kernel
theorem dX6_down_91 : decode cX6_down 91 = .ok (.aload_n 2, 1) := by decide +kernel
theorem dX6_down_92 : decode cX6_down 92 = .ok (.iload 5, 2) := by decide +kernel
theorem dX6_down_94 : decode cX6_down 94 = .ok (.invokevirtual 104, 3) := by decide +kernel
theorem dX6_down_97 : decode cX6_down 97 = .ok (.goto 9, 3) := by decide +kernel
theorem dX6_down_100 : decode cX6_down 100 = .ok (.aload_n 2, 1) := by decide +kernel
theorem dX6_down_101 : decode cX6_down 101 = .ok (.iload 5, 2) := by decide +kernel
theorem dX6_down_103 : decode cX6_down 103 = .ok (.invokevirtual 107, 3) := by decide +kernel
theorem dX6_down_106 : decode cX6_down 106 = .ok (.iload 4, 2) := by decide +kernel
theorem dX6_down_108 : decode cX6_down 108 = .ok (.ireturn, 1) := by decide +kernel
theorem dX6_submit_0 : decode cX6_submit 0 = .ok (.iload_n 1, 1) := by decide +kernel
theorem dX6_submit_1 : decode cX6_submit 1 = .ok (.invokestatic 64, 3) := by decide +kernel
theorem dX6_submit_4 : decode cX6_submit 4 = .ok (.ifCond .eq 13, 3) := by decide +kernel
theorem dX6_submit_7 : decode cX6_submit 7 = .ok (.iload_n 2, 1) := by decide +kernel
theorem dX6_submit_8 : decode cX6_submit 8 = .ok (.iload_n 3, 1) := by decide +kernel
theorem dX6_submit_9 : decode cX6_submit 9 = .ok (.iload 5, 2) := by decide +kernel
theorem dX6_submit_11 : decode cX6_submit 11 = .ok (.invokestatic 110, 3) := by decide +kernel
theorem dX6_submit_14 : decode cX6_submit 14 = .ok (.ifCond .ne 5, 3) := by decide +kernel
theorem dX6_submit_17 : decode cX6_submit 17 = .ok (.iconst (-1), 1) := by decide +kernel
theorem dX6_submit_18 : decode cX6_submit 18 = .ok (.ireturn, 1) := by decide +kernel
theorem dX6_submit_19 : decode cX6_submit 19 = .ok (.aload_n 0, 1) := by decide +kernel
theorem dX6_submit_20 : decode cX6_submit 20 = .ok (.getfield 11, 3) := by decide +kernel
theorem dX6_submit_23 : decode cX6_submit 23 = .ok (.iload_n 1, 1) := by decide +kernel
theorem dX6_submit_24 : decode cX6_submit 24 = .ok (.aaload, 1) := by decide +kernel
theorem dX6_submit_25 : decode cX6_submit 25 = .ok (.astore 6, 2) := by decide +kernel
theorem dX6_submit_27 : decode cX6_submit 27 = .ok (.aload 6, 2) := by decide +kernel
theorem dX6_submit_29 : decode cX6_submit 29 = .ok (.getfield 22, 3) := by decide +kernel
theorem dX6_submit_32 : decode cX6_submit 32 = .ok (.iconst 4, 1) := by decide +kernel
theorem dX6_submit_33 : decode cX6_submit 33 = .ok (.if_icmp .eq 6, 3) := by decide +kernel
theorem dX6_submit_36 : decode cX6_submit 36 = .ok (.bipush (-2), 2) := by decide +kernel
theorem dX6_submit_38 : decode cX6_submit 38 = .ok (.ireturn, 1) := by decide +kernel
theorem dX6_submit_39 : decode cX6_submit 39 = .ok (.aload 6, 2) := by decide +kernel
theorem dX6_submit_41 : decode cX6_submit 41 = .ok (.getfield 114, 3) := by decide +kernel
theorem dX6_submit_44 : decode cX6_submit 44 = .ok (.invokevirtual 118, 3) := by decide +kernel
theorem dX6_submit_47 : decode cX6_submit 47 = .ok (.ifCond .eq 6, 3) := by decide +kernel
theorem dX6_submit_50 : decode cX6_submit 50 = .ok (.bipush (-3), 2) := by decide +kernel
theorem dX6_submit_52 : decode cX6_submit 52 = .ok (.ireturn, 1) := by decide +kernel
theorem dX6_submit_53 : decode cX6_submit 53 = .ok (.aload_n 0, 1) := by decide +kernel
theorem dX6_submit_54 : decode cX6_submit 54 = .ok (.aload 6, 2) := by decide +kernel
theorem dX6_submit_56 : decode cX6_submit 56 = .ok (.iload_n 2, 1) := by decide +kernel
theorem dX6_submit_57 : decode cX6_submit 57 = .ok (.iload_n 3, 1) := by decide +kernel
theorem dX6_submit_58 : decode cX6_submit 58 = .ok (.iload 4, 2) := by decide +kernel
theorem dX6_submit_60 : decode cX6_submit 60 = .ok (.iload 5, 2) := by decide +kernel
theorem dX6_submit_62 : decode cX6_submit 62 = .ok (.invokevirtual 124, 3) := by decide +kernel
theorem dX6_submit_65 : decode cX6_submit 65 = .ok (.aload 6, 2) := by decide +kernel
theorem dX6_submit_67 : decode cX6_submit 67 = .ok (.getfield 114, 3) := by decide +kernel
theorem dX6_submit_70 : decode cX6_submit 70 = .ok (.getfield 128, 3) := by decide +kernel
theorem dX6_submit_73 : decode cX6_submit 73 = .ok (.ireturn, 1) := by decide +kernel
theorem dX6_tick_0 : decode cX6_tick 0 = .ok (.iconst 0, 1) := by decide +kernel
theorem dX6_tick_1 : decode cX6_tick 1 = .ok (.istore_n 1, 1) := by decide +kernel
theorem dX6_tick_2 : decode cX6_tick 2 = .ok (.iconst 0, 1) := by decide +kernel
theorem dX6_tick_3 : decode cX6_tick 3 = .ok (.istore_n 2, 1) := by decide +kernel
theorem dX6_tick_4 : decode cX6_tick 4 = .ok (.iload_n 2, 1) := by decide +kernel
theorem dX6_tick_5 : decode cX6_tick 5 = .ok (.iconst 3, 1) := by decide +kernel
theorem dX6_tick_6 : decode cX6_tick 6 = .ok (.if_icmp .ge 44, 3) := by decide +kernel
theorem dX6_tick_9 : decode cX6_tick 9 = .ok (.aload_n 0, 1) := by decide +kernel
theorem dX6_tick_10 : decode cX6_tick 10 = .ok (.getfield 11, 3) := by decide +kernel
theorem dX6_tick_13 : decode cX6_tick 13 = .ok (.iload_n 2, 1) := by decide +kernel
theorem dX6_tick_14 : decode cX6_tick 14 = .ok (.aaload, 1) := by decide +kernel
theorem dX6_tick_15 : decode cX6_tick 15 = .ok (.getfield 22, 3) := by decide +kernel
theorem dX6_tick_18 : decode cX6_tick 18 = .ok (.iconst 4, 1) := by decide +kernel
theorem dX6_tick_19 : decode cX6_tick 19 = .ok (.if_icmp .ne 25, 3) := by decide +kernel
theorem dX6_tick_22 : decode cX6_tick 22 = .ok (.aload_n 0, 1) := by decide +kernel
theorem dX6_tick_23 : decode cX6_tick 23 = .ok (.getfield 11, 3) := by decide +kernel
theorem dX6_tick_26 : decode cX6_tick 26 = .ok (.iload_n 2, 1) := by decide +kernel
theorem dX6_tick_27 : decode cX6_tick 27 = .ok (.aaload, 1) := by decide +kernel
theorem dX6_tick_28 : decode cX6_tick 28 = .ok (.invokestatic 131, 3) := by decide +kernel
theorem dX6_tick_31 : decode cX6_tick 31 = .ok (.iload_n 1, 1) := by decide +kernel
theorem dX6_tick_32 : decode cX6_tick 32 = .ok (.aload_n 0, 1) := by decide +kernel
theorem dX6_tick_33 : decode cX6_tick 33 = .ok (.aload_n 0, 1) := by decide +kernel
theorem dX6_tick_34 : decode cX6_tick 34 = .ok (.getfield 11, 3) := by decide +kernel
theorem dX6_tick_37 : decode cX6_tick 37 = .ok (.iload_n 2, 1) := by decide +kernel
theorem dX6_tick_38 : decode cX6_tick 38 = .ok (.aaload, 1) := by decide +kernel
theorem dX6_tick_39 : decode cX6_tick 39 = .ok (.invokevirtual 135, 3) := by decide +kernel
theorem dX6_tick_42 : decode cX6_tick 42 = .ok (.iadd, 1) := by decide +kernel
theorem dX6_tick_43 : decode cX6_tick 43 = .ok (.istore_n 1, 1) := by decide +kernel
theorem dX6_tick_44 : decode cX6_tick 44 = .ok (.iinc 2 1, 3) := by decide +kernel
theorem dX6_tick_47 : decode cX6_tick 47 = .ok (.goto (-43), 3) := by decide +kernel
theorem dX6_tick_50 : decode cX6_tick 50 = .ok (.iload_n 1, 1) := by decide +kernel
theorem dX6_tick_51 : decode cX6_tick 51 = .ok (.ireturn, 1) := by decide +kernel
theorem dX6_touch_0 : decode cX6_touch 0 = .ok (.aload_n 0, 1) := by decide +kernel
theorem dX6_touch_1 : decode cX6_touch 1 = .ok (.iload_n 1, 1) := by decide +kernel
theorem dX6_touch_2 : decode cX6_touch 2 = .ok (.iconst 4, 1) := by decide +kernel
theorem dX6_touch_3 : decode cX6_touch 3 = .ok (.invokevirtual 18, 3) := by decide +kernel
theorem dX6_touch_6 : decode cX6_touch 6 = .ok (.ifCond .eq 10, 3) := by decide +kernel
theorem dX6_touch_9 : decode cX6_touch 9 = .ok (.iload_n 2, 1) := by decide +kernel
theorem dX6_touch_10 : decode cX6_touch 10 = .ok (.invokestatic 139, 3) := by decide +kernel
theorem dX6_touch_13 : decode cX6_touch 13 = .ok (.ifCond .ne 5, 3) := by decide +kernel
theorem dX6_touch_16 : decode cX6_touch 16 = .ok (.iconst 0, 1) := by decide +kernel
theorem dX6_touch_17 : decode cX6_touch 17 = .ok (.ireturn, 1) := by decide +kernel
theorem dX6_touch_18 : decode cX6_touch 18 = .ok (.aload_n 0, 1) := by decide +kernel
theorem dX6_touch_19 : decode cX6_touch 19 = .ok (.getfield 11, 3) := by decide +kernel
theorem dX6_touch_22 : decode cX6_touch 22 = .ok (.iload_n 1, 1) := by decide +kernel
theorem dX6_touch_23 : decode cX6_touch 23 = .ok (.aaload, 1) := by decide +kernel
theorem dX6_touch_24 : decode cX6_touch 24 = .ok (.astore_n 3, 1) := by decide +kernel
theorem dX6_touch_25 : decode cX6_touch 25 = .ok (.aload_n 3, 1) := by decide +kernel
theorem dX6_touch_26 : decode cX6_touch 26 = .ok (.getfield 142, 3) := by decide +kernel
theorem dX6_touch_29 : decode cX6_touch 29 = .ok (.iload_n 2, 1) := by decide +kernel
theorem dX6_touch_30 : decode cX6_touch 30 = .ok (.invokevirtual 146, 3) := by decide +kernel
theorem dX6_touch_33 : decode cX6_touch 33 = .ok (.ifCond .ne 5, 3) := by decide +kernel
theorem dX6_touch_36 : decode cX6_touch 36 = .ok (.iconst 0, 1) := by decide +kernel
theorem dX6_touch_37 : decode cX6_touch 37 = .ok (.ireturn, 1) := by decide +kernel
theorem dX6_touch_38 : decode cX6_touch 38 = .ok (.aload_n 3, 1) := by decide +kernel
theorem dX6_touch_39 : decode cX6_touch 39 = .ok (.getfield 26, 3) := by decide +kernel
theorem dX6_touch_42 : decode cX6_touch 42 = .ok (.getfield 151, 3) := by decide +kernel
theorem dX6_touch_45 : decode cX6_touch 45 = .ok (.iload_n 2, 1) := by decide +kernel
theorem dX6_touch_46 : decode cX6_touch 46 = .ok (.iconst 0, 1) := by decide +kernel
theorem dX6_touch_47 : decode cX6_touch 47 = .ok (.iastore, 1) := by decide +kernel
theorem dX6_touch_48 : decode cX6_touch 48 = .ok (.iconst 1, 1) := by decide +kernel
theorem dX6_touch_49 : decode cX6_touch 49 = .ok (.ireturn, 1) := by decide +kernel
theorem dX6_role_0 : decode cX6_role 0 = .ok (.iload_n 1, 1) := by decide +kernel
theorem dX6_role_1 : decode cX6_role 1 = .ok (.invokestatic 64, 3) := by decide +kernel
theorem dX6_role_4 : decode cX6_role 4 = .ok (.ifCond .eq 15, 3) := by decide +kernel
theorem dX6_role_7 : decode cX6_role 7 = .ok (.aload_n 0, 1) := by decide +kernel
theorem dX6_role_8 : decode cX6_role 8 = .ok (.getfield 11, 3) := by decide +kernel
theorem dX6_role_11 : decode cX6_role 11 = .ok (.iload_n 1, 1) := by decide +kernel
theorem dX6_role_12 : decode cX6_role 12 = .ok (.aaload, 1) := by decide +kernel
theorem dX6_role_13 : decode cX6_role 13 = .ok (.getfield 22, 3) := by decide +kernel
theorem dX6_role_16 : decode cX6_role 16 = .ok (.goto 4, 3) := by decide +kernel
theorem dX6_role_19 : decode cX6_role 19 = .ok (.iconst (-1), 1) := by decide +kernel
theorem dX6_role_20 : decode cX6_role 20 = .ok (.ireturn, 1) := by decide +kernel
theorem dX6_promise_0 : decode cX6_promise 0 = .ok (.iload_n 1, 1) := by decide +kernel
theorem dX6_promise_1 : decode cX6_promise 1 = .ok (.invokestatic 64, 3) := by decide +kernel
theorem dX6_promise_4 : decode cX6_promise 4 = .ok (.ifCond .eq 15, 3) := by decide +kernel
theorem dX6_promise_7 : decode cX6_promise 7 = .ok (.aload_n 0, 1) := by decide +kernel
theorem dX6_promise_8 : decode cX6_promise 8 = .ok (.getfield 11, 3) := by decide +kernel
theorem dX6_promise_11 : decode cX6_promise 11 = .ok (.iload_n 1, 1) := by decide +kernel
theorem dX6_promise_12 : decode cX6_promise 12 = .ok (.aaload, 1) := by decide +kernel
theorem dX6_promise_13 : decode cX6_promise 13 = .ok (.getfield 52, 3) := by decide +kernel
theorem dX6_promise_16 : decode cX6_promise 16 = .ok (.goto 4, 3) := by decide +kernel
theorem dX6_promise_19 : decode cX6_promise 19 = .ok (.iconst (-1), 1) := by decide +kernel
theorem dX6_promise_20 : decode cX6_promise 20 = .ok (.ireturn, 1) := by decide +kernel
theorem dX6_epoch_0 : decode cX6_epoch 0 = .ok (.iload_n 1, 1) := by decide +kernel
theorem dX6_epoch_1 : decode cX6_epoch 1 = .ok (.invokestatic 64, 3) := by decide +kernel
theorem dX6_epoch_4 : decode cX6_epoch 4 = .ok (.ifCond .eq 15, 3) := by decide +kernel
theorem dX6_epoch_7 : decode cX6_epoch 7 = .ok (.aload_n 0, 1) := by decide +kernel
theorem dX6_epoch_8 : decode cX6_epoch 8 = .ok (.getfield 11, 3) := by decide +kernel
theorem dX6_epoch_11 : decode cX6_epoch 11 = .ok (.iload_n 1, 1) := by decide +kernel
theorem dX6_epoch_12 : decode cX6_epoch 12 = .ok (.aaload, 1) := by decide +kernel
theorem dX6_epoch_13 : decode cX6_epoch 13 = .ok (.getfield 155, 3) := by decide +kernel
theorem dX6_epoch_16 : decode cX6_epoch 16 = .ok (.goto 4, 3) := by decide +kernel
theorem dX6_epoch_19 : decode cX6_epoch 19 = .ok (.iconst (-1), 1) := by decide +kernel
theorem dX6_epoch_20 : decode cX6_epoch 20 = .ok (.ireturn, 1) := by decide +kernel
theorem dX6_length_0 : decode cX6_length 0 = .ok (.iload_n 1, 1) := by decide +kernel
theorem dX6_length_1 : decode cX6_length 1 = .ok (.invokestatic 64, 3) := by decide +kernel
theorem dX6_length_4 : decode cX6_length 4 = .ok (.ifCond .eq 18, 3) := by decide +kernel
theorem dX6_length_7 : decode cX6_length 7 = .ok (.aload_n 0, 1) := by decide +kernel
theorem dX6_length_8 : decode cX6_length 8 = .ok (.getfield 11, 3) := by decide +kernel
theorem dX6_length_11 : decode cX6_length 11 = .ok (.iload_n 1, 1) := by decide +kernel
theorem dX6_length_12 : decode cX6_length 12 = .ok (.aaload, 1) := by decide +kernel
theorem dX6_length_13 : decode cX6_length 13 = .ok (.getfield 114, 3) := by decide +kernel
theorem dX6_length_16 : decode cX6_length 16 = .ok (.getfield 128, 3) := by decide +kernel
theorem dX6_length_19 : decode cX6_length 19 = .ok (.goto 4, 3) := by decide +kernel
theorem dX6_length_22 : decode cX6_length 22 = .ok (.iconst (-1), 1) := by decide +kernel
theorem dX6_length_23 : decode cX6_length 23 = .ok (.ireturn, 1) := by decide +kernel
theorem dX6_mark_0 : decode cX6_mark 0 = .ok (.iload_n 1, 1) := by decide +kernel
theorem dX6_mark_1 : decode cX6_mark 1 = .ok (.invokestatic 64, 3) := by decide +kernel
theorem dX6_mark_4 : decode cX6_mark 4 = .ok (.ifCond .eq 19, 3) := by decide +kernel
theorem dX6_mark_7 : decode cX6_mark 7 = .ok (.aload_n 0, 1) := by decide +kernel
theorem dX6_mark_8 : decode cX6_mark 8 = .ok (.getfield 11, 3) := by decide +kernel
theorem dX6_mark_11 : decode cX6_mark 11 = .ok (.iload_n 1, 1) := by decide +kernel
theorem dX6_mark_12 : decode cX6_mark 12 = .ok (.aaload, 1) := by decide +kernel
theorem dX6_mark_13 : decode cX6_mark 13 = .ok (.getfield 114, 3) := by decide +kernel
theorem dX6_mark_16 : decode cX6_mark 16 = .ok (.iload_n 2, 1) := by decide +kernel
theorem dX6_mark_17 : decode cX6_mark 17 = .ok (.invokevirtual 158, 3) := by decide +kernel
theorem dX6_mark_20 : decode cX6_mark 20 = .ok (.goto 4, 3) := by decide +kernel
theorem dX6_mark_23 : decode cX6_mark 23 = .ok (.iconst 0, 1) := by decide +kernel
theorem dX6_mark_24 : decode cX6_mark 24 = .ok (.ireturn, 1) := by decide +kernel
theorem dX6_applied_0 : decode cX6_applied 0 = .ok (.iload_n 1, 1) := by decide +kernel
theorem dX6_applied_1 : decode cX6_applied 1 = .ok (.invokestatic 64, 3) := by decide +kernel
theorem dX6_applied_4 : decode cX6_applied 4 = .ok (.ifCond .eq 15, 3) := by decide +kernel
theorem dX6_applied_7 : decode cX6_applied 7 = .ok (.aload_n 0, 1) := by decide +kernel
theorem dX6_applied_8 : decode cX6_applied 8 = .ok (.getfield 11, 3) := by decide +kernel
theorem dX6_applied_11 : decode cX6_applied 11 = .ok (.iload_n 1, 1) := by decide +kernel
theorem dX6_applied_12 : decode cX6_applied 12 = .ok (.aaload, 1) := by decide +kernel
theorem dX6_applied_13 : decode cX6_applied 13 = .ok (.getfield 162, 3) := by decide +kernel
theorem dX6_applied_16 : decode cX6_applied 16 = .ok (.goto 4, 3) := by decide +kernel
theorem dX6_applied_19 : decode cX6_applied 19 = .ok (.iconst (-1), 1) := by decide +kernel
theorem dX6_applied_20 : decode cX6_applied 20 = .ok (.ireturn, 1) := by decide +kernel
theorem dX6_result_0 : decode cX6_result 0 = .ok (.iload_n 1, 1) := by decide +kernel
theorem dX6_result_1 : decode cX6_result 1 = .ok (.invokestatic 64, 3) := by decide +kernel
theorem dX6_result_4 : decode cX6_result 4 = .ok (.ifCond .eq 21, 3) := by decide +kernel
theorem dX6_result_7 : decode cX6_result 7 = .ok (.iload_n 2, 1) := by decide +kernel
theorem dX6_result_8 : decode cX6_result 8 = .ok (.iconst 1, 1) := by decide +kernel
theorem dX6_result_9 : decode cX6_result 9 = .ok (.if_icmp .lt 16, 3) := by decide +kernel
theorem dX6_result_12 : decode cX6_result 12 = .ok (.iload_n 2, 1) := by decide +kernel
theorem dX6_result_13 : decode cX6_result 13 = .ok (.aload_n 0, 1) := by decide +kernel
theorem dX6_result_14 : decode cX6_result 14 = .ok (.getfield 11, 3) := by decide +kernel
theorem dX6_result_17 : decode cX6_result 17 = .ok (.iload_n 1, 1) := by decide +kernel
theorem dX6_result_18 : decode cX6_result 18 = .ok (.aaload, 1) := by decide +kernel
theorem dX6_result_19 : decode cX6_result 19 = .ok (.getfield 162, 3) := by decide +kernel
theorem dX6_result_22 : decode cX6_result 22 = .ok (.if_icmp .le 5, 3) := by decide +kernel
theorem dX6_result_25 : decode cX6_result 25 = .ok (.iconst (-1), 1) := by decide +kernel
theorem dX6_result_26 : decode cX6_result 26 = .ok (.ireturn, 1) := by decide +kernel
theorem dX6_result_27 : decode cX6_result 27 = .ok (.aload_n 0, 1) := by decide +kernel
theorem dX6_result_28 : decode cX6_result 28 = .ok (.getfield 11, 3) := by decide +kernel
theorem dX6_result_31 : decode cX6_result 31 = .ok (.iload_n 1, 1) := by decide +kernel
theorem dX6_result_32 : decode cX6_result 32 = .ok (.aaload, 1) := by decide +kernel
theorem dX6_result_33 : decode cX6_result 33 = .ok (.getfield 165, 3) := by decide +kernel
theorem dX6_result_36 : decode cX6_result 36 = .ok (.iload_n 2, 1) := by decide +kernel
theorem dX6_result_37 : decode cX6_result 37 = .ok (.iconst 1, 1) := by decide +kernel
theorem dX6_result_38 : decode cX6_result 38 = .ok (.isub, 1) := by decide +kernel
theorem dX6_result_39 : decode cX6_result 39 = .ok (.iaload, 1) := by decide +kernel
theorem dX6_result_40 : decode cX6_result 40 = .ok (.ireturn, 1) := by decide +kernel
theorem dX6_node_0 : decode cX6_node 0 = .ok (.iload_n 1, 1) := by decide +kernel
theorem dX6_node_1 : decode cX6_node 1 = .ok (.invokestatic 64, 3) := by decide +kernel
theorem dX6_node_4 : decode cX6_node 4 = .ok (.ifCond .eq 20, 3) := by decide +kernel
theorem dX6_node_7 : decode cX6_node 7 = .ok (.aload_n 0, 1) := by decide +kernel
theorem dX6_node_8 : decode cX6_node 8 = .ok (.getfield 11, 3) := by decide +kernel
theorem dX6_node_11 : decode cX6_node 11 = .ok (.iload_n 1, 1) := by decide +kernel
theorem dX6_node_12 : decode cX6_node 12 = .ok (.aaload, 1) := by decide +kernel
theorem dX6_node_13 : decode cX6_node 13 = .ok (.getfield 142, 3) := by decide +kernel
theorem dX6_node_16 : decode cX6_node 16 = .ok (.iload_n 2, 1) := by decide +kernel
theorem dX6_node_17 : decode cX6_node 17 = .ok (.iload_n 3, 1) := by decide +kernel
theorem dX6_node_18 : decode cX6_node 18 = .ok (.invokevirtual 168, 3) := by decide +kernel
theorem dX6_node_21 : decode cX6_node 21 = .ok (.goto 4, 3) := by decide +kernel
theorem dX6_node_24 : decode cX6_node 24 = .ok (.iconst 0, 1) := by decide +kernel
theorem dX6_node_25 : decode cX6_node 25 = .ok (.ireturn, 1) := by decide +kernel
theorem dX6_tree_0 : decode cX6_tree 0 = .ok (.iload_n 1, 1) := by decide +kernel
theorem dX6_tree_1 : decode cX6_tree 1 = .ok (.invokestatic 64, 3) := by decide +kernel
theorem dX6_tree_4 : decode cX6_tree 4 = .ok (.ifCond .eq 18, 3) := by decide +kernel
theorem dX6_tree_7 : decode cX6_tree 7 = .ok (.aload_n 0, 1) := by decide +kernel
theorem dX6_tree_8 : decode cX6_tree 8 = .ok (.getfield 11, 3) := by decide +kernel
theorem dX6_tree_11 : decode cX6_tree 11 = .ok (.iload_n 1, 1) := by decide +kernel
theorem dX6_tree_12 : decode cX6_tree 12 = .ok (.aaload, 1) := by decide +kernel
theorem dX6_tree_13 : decode cX6_tree 13 = .ok (.getfield 142, 3) := by decide +kernel
theorem dX6_tree_16 : decode cX6_tree 16 = .ok (.invokevirtual 172, 3) := by decide +kernel
theorem dX6_tree_19 : decode cX6_tree 19 = .ok (.goto 4, 3) := by decide +kernel
theorem dX6_tree_22 : decode cX6_tree 22 = .ok (.iconst (-1), 1) := by decide +kernel
theorem dX6_tree_23 : decode cX6_tree 23 = .ok (.ireturn, 1) := by decide +kernel
theorem dX6_waiting_0 : decode cX6_waiting 0 = .ok (.aload_n 0, 1) := by decide +kernel
theorem dX6_waiting_1 : decode cX6_waiting 1 = .ok (.iload_n 1, 1) := by decide +kernel
theorem dX6_waiting_2 : decode cX6_waiting 2 = .ok (.iconst 2, 1) := by decide +kernel
theorem dX6_waiting_3 : decode cX6_waiting 3 = .ok (.invokevirtual 18, 3) := by decide +kernel
theorem dX6_waiting_6 : decode cX6_waiting 6 = .ok (.ifCond .ne 5, 3) := by decide +kernel
theorem dX6_waiting_9 : decode cX6_waiting 9 = .ok (.iconst 0, 1) := by decide +kernel
theorem dX6_waiting_10 : decode cX6_waiting 10 = .ok (.ireturn, 1) := by decide +kernel
theorem dX6_waiting_11 : decode cX6_waiting 11 = .ok (.aload_n 0, 1) := by decide +kernel
theorem dX6_waiting_12 : decode cX6_waiting 12 = .ok (.getfield 11, 3) := by decide +kernel
theorem dX6_waiting_15 : decode cX6_waiting 15 = .ok (.iload_n 1, 1) := by decide +kernel
theorem dX6_waiting_16 : decode cX6_waiting 16 = .ok (.aaload, 1) := by decide +kernel
theorem dX6_waiting_17 : decode cX6_waiting 17 = .ok (.getfield 42, 3) := by decide +kernel
theorem dX6_waiting_20 : decode cX6_waiting 20 = .ok (.astore_n 3, 1) := by decide +kernel
theorem dX6_waiting_21 : decode cX6_waiting 21 = .ok (.iload_n 2, 1) := by decide +kernel
theorem dX6_waiting_22 : decode cX6_waiting 22 = .ok (.ifCond .eq 13, 3) := by decide +kernel
theorem dX6_waiting_25 : decode cX6_waiting 25 = .ok (.aload_n 3, 1) := by decide +kernel
theorem dX6_waiting_26 : decode cX6_waiting 26 = .ok (.getfield 46, 3) := by decide +kernel
theorem dX6_waiting_29 : decode cX6_waiting 29 = .ok (.invokevirtual 70, 3) := by decide +kernel
theorem dX6_waiting_32 : decode cX6_waiting 32 = .ok (.goto 10, 3) := by decide +kernel
theorem dX6_waiting_35 : decode cX6_waiting 35 = .ok (.aload_n 3, 1) := by decide +kernel
theorem dX6_waiting_36 : decode cX6_waiting 36 = .ok (.getfield 94, 3) := by decide +kernel
theorem dX6_waiting_39 : decode cX6_waiting 39 = .ok (.invokevirtual 70, 3) := by decide +kernel
theorem dX6_waiting_42 : decode cX6_waiting 42 = .ok (.ireturn, 1) := by decide +kernel
theorem dX6_isServer_0 : decode cX6_isServer 0 = .ok (.iload_n 0, 1) := by decide +kernel
theorem dX6_isServer_1 : decode cX6_isServer 1 = .ok (.ifCond .lt 12, 3) := by decide +kernel
theorem dX6_isServer_4 : decode cX6_isServer 4 = .ok (.iload_n 0, 1) := by decide +kernel
theorem dX6_isServer_5 : decode cX6_isServer 5 = .ok (.iconst 3, 1) := by decide +kernel
theorem dX6_isServer_6 : decode cX6_isServer 6 = .ok (.if_icmp .ge 7, 3) := by decide +kernel
theorem dX6_isServer_9 : decode cX6_isServer 9 = .ok (.iconst 1, 1) := by decide +kernel
theorem dX6_isServer_10 : decode cX6_isServer 10 = .ok (.goto 4, 3) := by decide +kernel
theorem dX6_isServer_13 : decode cX6_isServer 13 = .ok (.iconst 0, 1) := by decide +kernel
theorem dX6_isServer_14 : decode cX6_isServer 14 = .ok (.ireturn, 1) := by decide +kernel
theorem dX6_isSession_0 : decode cX6_isSession 0 = .ok (.iload_n 0, 1) := by decide +kernel
theorem dX6_isSession_1 : decode cX6_isSession 1 = .ok (.iconst 1, 1) := by decide +kernel
theorem dX6_isSession_2 : decode cX6_isSession 2 = .ok (.if_icmp .lt 12, 3) := by decide +kernel
theorem dX6_isSession_5 : decode cX6_isSession 5 = .ok (.iload_n 0, 1) := by decide +kernel
theorem dX6_isSession_6 : decode cX6_isSession 6 = .ok (.iconst 4, 1) := by decide +kernel
theorem dX6_isSession_7 : decode cX6_isSession 7 = .ok (.if_icmp .gt 7, 3) := by decide +kernel
theorem dX6_isSession_10 : decode cX6_isSession 10 = .ok (.iconst 1, 1) := by decide +kernel
theorem dX6_isSession_11 : decode cX6_isSession 11 = .ok (.goto 4, 3) := by decide +kernel
theorem dX6_isSession_14 : decode cX6_isSession 14 = .ok (.iconst 0, 1) := by decide +kernel
theorem dX6_isSession_15 : decode cX6_isSession 15 = .ok (.ireturn, 1) := by decide +kernel
theorem dX6_isNodePath_0 : decode cX6_isNodePath 0 = .ok (.iload_n 0, 1) := by decide +kernel
theorem dX6_isNodePath_1 : decode cX6_isNodePath 1 = .ok (.iconst 1, 1) := by decide +kernel
theorem dX6_isNodePath_2 : decode cX6_isNodePath 2 = .ok (.if_icmp .lt 10, 3) := by decide +kernel
theorem dX6_isNodePath_5 : decode cX6_isNodePath 5 = .ok (.iload_n 0, 1) := by decide +kernel
theorem dX6_isNodePath_6 : decode cX6_isNodePath 6 = .ok (.sipush 511, 3) := by decide +kernel
theorem dX6_isNodePath_9 : decode cX6_isNodePath 9 = .ok (.if_icmp .le 5, 3) := by decide +kernel
theorem dX6_isNodePath_12 : decode cX6_isNodePath 12 = .ok (.iconst 0, 1) := by decide +kernel
theorem dX6_isNodePath_13 : decode cX6_isNodePath 13 = .ok (.ireturn, 1) := by decide +kernel
theorem dX6_isNodePath_14 : decode cX6_isNodePath 14 = .ok (.iload_n 0, 1) := by decide +kernel
theorem dX6_isNodePath_15 : decode cX6_isNodePath 15 = .ok (.istore_n 1, 1) := by decide +kernel
theorem dX6_isNodePath_16 : decode cX6_isNodePath 16 = .ok (.iload_n 1, 1) := by decide +kernel
theorem dX6_isNodePath_17 : decode cX6_isNodePath 17 = .ok (.ifCond .le 20, 3) := by decide +kernel
theorem dX6_isNodePath_20 : decode cX6_isNodePath 20 = .ok (.iload_n 1, 1) := by decide +kernel
theorem dX6_isNodePath_21 : decode cX6_isNodePath 21 = .ok (.bipush 8, 2) := by decide +kernel
theorem dX6_isNodePath_23 : decode cX6_isNodePath 23 = .ok (.irem, 1) := by decide +kernel
theorem dX6_isNodePath_24 : decode cX6_isNodePath 24 = .ok (.ifCond .ne 5, 3) := by decide +kernel
theorem dX6_isNodePath_27 : decode cX6_isNodePath 27 = .ok (.iconst 0, 1) := by decide +kernel
theorem dX6_isNodePath_28 : decode cX6_isNodePath 28 = .ok (.ireturn, 1) := by decide +kernel
theorem dX6_isNodePath_29 : decode cX6_isNodePath 29 = .ok (.iload_n 1, 1) := by decide +kernel
theorem dX6_isNodePath_30 : decode cX6_isNodePath 30 = .ok (.bipush 8, 2) := by decide +kernel
theorem dX6_isNodePath_32 : decode cX6_isNodePath 32 = .ok (.idiv, 1) := by decide +kernel
theorem dX6_isNodePath_33 : decode cX6_isNodePath 33 = .ok (.istore_n 1, 1) := by decide +kernel
theorem dX6_isNodePath_34 : decode cX6_isNodePath 34 = .ok (.goto (-18), 3) := by decide +kernel
theorem dX6_isNodePath_37 : decode cX6_isNodePath 37 = .ok (.iconst 1, 1) := by decide +kernel
theorem dX6_isNodePath_38 : decode cX6_isNodePath 38 = .ok (.ireturn, 1) := by decide +kernel
theorem dX6_isChange_0 : decode cX6_isChange 0 = .ok (.iload_n 0, 1) := by decide +kernel
theorem dX6_isChange_1 : decode cX6_isChange 1 = .ok (.tableswitch 82 1 5 #[35, 59, 59, 77, 77], 35) := by decide +kernel
theorem dX6_isChange_36 : decode cX6_isChange 36 = .ok (.iload_n 1, 1) := by decide +kernel
theorem dX6_isChange_37 : decode cX6_isChange 37 = .ok (.invokestatic 175, 3) := by decide +kernel
theorem dX6_isChange_40 : decode cX6_isChange 40 = .ok (.ifCond .eq 18, 3) := by decide +kernel
theorem dX6_isChange_43 : decode cX6_isChange 43 = .ok (.iload_n 2, 1) := by decide +kernel
theorem dX6_isChange_44 : decode cX6_isChange 44 = .ok (.ifCond .eq 10, 3) := by decide +kernel
theorem dX6_isChange_47 : decode cX6_isChange 47 = .ok (.iload_n 2, 1) := by decide +kernel
theorem dX6_isChange_48 : decode cX6_isChange 48 = .ok (.invokestatic 139, 3) := by decide +kernel
theorem dX6_isChange_51 : decode cX6_isChange 51 = .ok (.ifCond .eq 7, 3) := by decide +kernel
theorem dX6_isChange_54 : decode cX6_isChange 54 = .ok (.iconst 1, 1) := by decide +kernel
theorem dX6_isChange_55 : decode cX6_isChange 55 = .ok (.goto 4, 3) := by decide +kernel
theorem dX6_isChange_58 : decode cX6_isChange 58 = .ok (.iconst 0, 1) := by decide +kernel
theorem dX6_isChange_59 : decode cX6_isChange 59 = .ok (.ireturn, 1) := by decide +kernel
theorem dX6_isChange_60 : decode cX6_isChange 60 = .ok (.iload_n 1, 1) := by decide +kernel
theorem dX6_isChange_61 : decode cX6_isChange 61 = .ok (.invokestatic 175, 3) := by decide +kernel
theorem dX6_isChange_64 : decode cX6_isChange 64 = .ok (.ifCond .eq 12, 3) := by decide +kernel
theorem dX6_isChange_67 : decode cX6_isChange 67 = .ok (.iload_n 2, 1) := by decide +kernel
theorem dX6_isChange_68 : decode cX6_isChange 68 = .ok (.iconst (-1), 1) := by decide +kernel
theorem dX6_isChange_69 : decode cX6_isChange 69 = .ok (.if_icmp .lt 7, 3) := by decide +kernel
theorem dX6_isChange_72 : decode cX6_isChange 72 = .ok (.iconst 1, 1) := by decide +kernel
theorem dX6_isChange_73 : decode cX6_isChange 73 = .ok (.goto 4, 3) := by decide +kernel
theorem dX6_isChange_76 : decode cX6_isChange 76 = .ok (.iconst 0, 1) := by decide +kernel
theorem dX6_isChange_77 : decode cX6_isChange 77 = .ok (.ireturn, 1) := by decide +kernel
theorem dX6_isChange_78 : decode cX6_isChange 78 = .ok (.iload_n 2, 1) := by decide +kernel
theorem dX6_isChange_79 : decode cX6_isChange 79 = .ok (.invokestatic 139, 3) := by decide +kernel
theorem dX6_isChange_82 : decode cX6_isChange 82 = .ok (.ireturn, 1) := by decide +kernel
theorem dX6_isChange_83 : decode cX6_isChange 83 = .ok (.iconst 0, 1) := by decide +kernel
theorem dX6_isChange_84 : decode cX6_isChange 84 = .ok (.ireturn, 1) := by decide +kernel
theorem dX6_hasRole_0 : decode cX6_hasRole 0 = .ok (.iload_n 1, 1) := by decide +kernel
theorem dX6_hasRole_1 : decode cX6_hasRole 1 = .ok (.invokestatic 64, 3) := by decide +kernel
theorem dX6_hasRole_4 : decode cX6_hasRole 4 = .ok (.ifCond .eq 20, 3) := by decide +kernel
theorem dX6_hasRole_7 : decode cX6_hasRole 7 = .ok (.aload_n 0, 1) := by decide +kernel
theorem dX6_hasRole_8 : decode cX6_hasRole 8 = .ok (.getfield 11, 3) := by decide +kernel
theorem dX6_hasRole_11 : decode cX6_hasRole 11 = .ok (.iload_n 1, 1) := by decide +kernel
theorem dX6_hasRole_12 : decode cX6_hasRole 12 = .ok (.aaload, 1) := by decide +kernel
theorem dX6_hasRole_13 : decode cX6_hasRole 13 = .ok (.getfield 22, 3) := by decide +kernel
theorem dX6_hasRole_16 : decode cX6_hasRole 16 = .ok (.iload_n 2, 1) := by decide +kernel
theorem dX6_hasRole_17 : decode cX6_hasRole 17 = .ok (.if_icmp .ne 7, 3) := by decide +kernel
theorem dX6_hasRole_20 : decode cX6_hasRole 20 = .ok (.iconst 1, 1) := by decide +kernel
theorem dX6_hasRole_21 : decode cX6_hasRole 21 = .ok (.goto 4, 3) := by decide +kernel
theorem dX6_hasRole_24 : decode cX6_hasRole 24 = .ok (.iconst 0, 1) := by decide +kernel
theorem dX6_hasRole_25 : decode cX6_hasRole 25 = .ok (.ireturn, 1) := by decide +kernel
theorem dX6_leads_0 : decode cX6_leads 0 = .ok (.aload_n 0, 1) := by decide +kernel
theorem dX6_leads_1 : decode cX6_leads 1 = .ok (.iload_n 1, 1) := by decide +kernel
theorem dX6_leads_2 : decode cX6_leads 2 = .ok (.iconst 3, 1) := by decide +kernel
theorem dX6_leads_3 : decode cX6_leads 3 = .ok (.invokevirtual 18, 3) := by decide +kernel
theorem dX6_leads_6 : decode cX6_leads 6 = .ok (.ifCond .ne 12, 3) := by decide +kernel
theorem dX6_leads_9 : decode cX6_leads 9 = .ok (.aload_n 0, 1) := by decide +kernel
theorem dX6_leads_10 : decode cX6_leads 10 = .ok (.iload_n 1, 1) := by decide +kernel
theorem dX6_leads_11 : decode cX6_leads 11 = .ok (.iconst 4, 1) := by decide +kernel
theorem dX6_leads_12 : decode cX6_leads 12 = .ok (.invokevirtual 18, 3) := by decide +kernel
theorem dX6_leads_15 : decode cX6_leads 15 = .ok (.ifCond .eq 7, 3) := by decide +kernel
theorem dX6_leads_18 : decode cX6_leads 18 = .ok (.iconst 1, 1) := by decide +kernel
theorem dX6_leads_19 : decode cX6_leads 19 = .ok (.goto 4, 3) := by decide +kernel
theorem dX6_leads_22 : decode cX6_leads 22 = .ok (.iconst 0, 1) := by decide +kernel
theorem dX6_leads_23 : decode cX6_leads 23 = .ok (.ireturn, 1) := by decide +kernel
theorem dX6_isFollowerOf_0 : decode cX6_isFollowerOf 0 = .ok (.aload_n 0, 1) := by decide +kernel
theorem dX6_isFollowerOf_1 : decode cX6_isFollowerOf 1 = .ok (.getfield 22, 3) := by decide +kernel
theorem dX6_isFollowerOf_4 : decode cX6_isFollowerOf 4 = .ok (.iconst 2, 1) := by decide +kernel
theorem dX6_isFollowerOf_5 : decode cX6_isFollowerOf 5 = .ok (.if_icmp .ne 18, 3) := by decide +kernel
theorem dX6_isFollowerOf_8 : decode cX6_isFollowerOf 8 = .ok (.aload_n 0, 1) := by decide +kernel
theorem dX6_isFollowerOf_9 : decode cX6_isFollowerOf 9 = .ok (.getfield 39, 3) := by decide +kernel
theorem dX6_isFollowerOf_12 : decode cX6_isFollowerOf 12 = .ok (.aload_n 1, 1) := by decide +kernel
theorem dX6_isFollowerOf_13 : decode cX6_isFollowerOf 13 = .ok (.getfield 178, 3) := by decide +kernel
theorem dX6_isFollowerOf_16 : decode cX6_isFollowerOf 16 = .ok (.if_icmp .ne 7, 3) := by decide +kernel
theorem dX6_isFollowerOf_19 : decode cX6_isFollowerOf 19 = .ok (.iconst 1, 1) := by decide +kernel
theorem dX6_isFollowerOf_20 : decode cX6_isFollowerOf 20 = .ok (.goto 4, 3) := by decide +kernel
theorem dX6_isFollowerOf_23 : decode cX6_isFollowerOf 23 = .ok (.iconst 0, 1) := by decide +kernel
theorem dX6_isFollowerOf_24 : decode cX6_isFollowerOf 24 = .ok (.ireturn, 1) := by decide +kernel
theorem dX6_stopTo_0 : decode cX6_stopTo 0 = .ok (.aload_n 0, 1) := by decide +kernel
theorem dX6_stopTo_1 : decode cX6_stopTo 1 = .ok (.getfield 11, 3) := by decide +kernel
theorem dX6_stopTo_4 : decode cX6_stopTo 4 = .ok (.iload_n 1, 1) := by decide +kernel
theorem dX6_stopTo_5 : decode cX6_stopTo 5 = .ok (.aaload, 1) := by decide +kernel
theorem dX6_stopTo_6 : decode cX6_stopTo 6 = .ok (.astore_n 3, 1) := by decide +kernel
theorem dX6_stopTo_7 : decode cX6_stopTo 7 = .ok (.iconst 0, 1) := by decide +kernel
theorem dX6_stopTo_8 : decode cX6_stopTo 8 = .ok (.istore 4, 2) := by decide +kernel
theorem dX6_stopTo_10 : decode cX6_stopTo 10 = .ok (.iload 4, 2) := by decide +kernel
theorem dX6_stopTo_12 : decode cX6_stopTo 12 = .ok (.iconst 3, 1) := by decide +kernel
theorem dX6_stopTo_13 : decode cX6_stopTo 13 = .ok (.if_icmp .ge 47, 3) := by decide +kernel
theorem dX6_stopTo_16 : decode cX6_stopTo 16 = .ok (.aload_n 0, 1) := by decide +kernel
theorem dX6_stopTo_17 : decode cX6_stopTo 17 = .ok (.getfield 11, 3) := by decide +kernel
theorem dX6_stopTo_20 : decode cX6_stopTo 20 = .ok (.iload 4, 2) := by decide +kernel
theorem dX6_stopTo_22 : decode cX6_stopTo 22 = .ok (.aaload, 1) := by decide +kernel
theorem dX6_stopTo_23 : decode cX6_stopTo 23 = .ok (.aload_n 3, 1) := by decide +kernel
theorem dX6_stopTo_24 : decode cX6_stopTo 24 = .ok (.invokestatic 181, 3) := by decide +kernel
theorem dX6_stopTo_27 : decode cX6_stopTo 27 = .ok (.ifCond .eq 27, 3) := by decide +kernel
theorem dX6_stopTo_30 : decode cX6_stopTo 30 = .ok (.aload_n 0, 1) := by decide +kernel
theorem dX6_stopTo_31 : decode cX6_stopTo 31 = .ok (.getfield 11, 3) := by decide +kernel
theorem dX6_stopTo_34 : decode cX6_stopTo 34 = .ok (.iload 4, 2) := by decide +kernel
theorem dX6_stopTo_36 : decode cX6_stopTo 36 = .ok (.aaload, 1) := by decide +kernel
theorem dX6_stopTo_37 : decode cX6_stopTo 37 = .ok (.getfield 42, 3) := by decide +kernel
theorem dX6_stopTo_40 : decode cX6_stopTo 40 = .ok (.invokevirtual 185, 3) := by decide +kernel
theorem dX6_stopTo_43 : decode cX6_stopTo 43 = .ok (.aload_n 0, 1) := by decide +kernel
theorem dX6_stopTo_44 : decode cX6_stopTo 44 = .ok (.getfield 11, 3) := by decide +kernel
theorem dX6_stopTo_47 : decode cX6_stopTo 47 = .ok (.iload 4, 2) := by decide +kernel
theorem dX6_stopTo_49 : decode cX6_stopTo 49 = .ok (.aaload, 1) := by decide +kernel
theorem dX6_stopTo_50 : decode cX6_stopTo 50 = .ok (.iconst 1, 1) := by decide +kernel
theorem dX6_stopTo_51 : decode cX6_stopTo 51 = .ok (.putfield 22, 3) := by decide +kernel
theorem dX6_stopTo_54 : decode cX6_stopTo 54 = .ok (.iinc 4 1, 3) := by decide +kernel
theorem dX6_stopTo_57 : decode cX6_stopTo 57 = .ok (.goto (-47), 3) := by decide +kernel
theorem dX6_stopTo_60 : decode cX6_stopTo 60 = .ok (.aload_n 3, 1) := by decide +kernel
theorem dX6_stopTo_61 : decode cX6_stopTo 61 = .ok (.getfield 42, 3) := by decide +kernel
theorem dX6_stopTo_64 : decode cX6_stopTo 64 = .ok (.invokevirtual 185, 3) := by decide +kernel
theorem dX6_stopTo_67 : decode cX6_stopTo 67 = .ok (.aload_n 3, 1) := by decide +kernel
theorem dX6_stopTo_68 : decode cX6_stopTo 68 = .ok (.iload_n 2, 1) := by decide +kernel
theorem dX6_stopTo_69 : decode cX6_stopTo 69 = .ok (.putfield 22, 3) := by decide +kernel
theorem dX6_stopTo_72 : decode cX6_stopTo 72 = .ok (.return_, 1) := by decide +kernel
theorem dX6_readJoin_0 : decode cX6_readJoin 0 = .ok (.aload_n 0, 1) := by decide +kernel
theorem dX6_readJoin_1 : decode cX6_readJoin 1 = .ok (.getfield 26, 3) := by decide +kernel
theorem dX6_readJoin_4 : decode cX6_readJoin 4 = .ok (.getfield 188, 3) := by decide +kernel
theorem dX6_readJoin_7 : decode cX6_readJoin 7 = .ok (.ifCond .ne 25, 3) := by decide +kernel
theorem dX6_readJoin_10 : decode cX6_readJoin 10 = .ok (.aload_n 0, 1) := by decide +kernel
theorem dX6_readJoin_11 : decode cX6_readJoin 11 = .ok (.getfield 26, 3) := by decide +kernel
theorem dX6_readJoin_14 : decode cX6_readJoin 14 = .ok (.iconst 1, 1) := by decide +kernel
theorem dX6_readJoin_15 : decode cX6_readJoin 15 = .ok (.putfield 188, 3) := by decide +kernel
theorem dX6_readJoin_18 : decode cX6_readJoin 18 = .ok (.aload_n 0, 1) := by decide +kernel
theorem dX6_readJoin_19 : decode cX6_readJoin 19 = .ok (.iload_n 2, 1) := by decide +kernel
theorem dX6_readJoin_20 : decode cX6_readJoin 20 = .ok (.aload_n 0, 1) := by decide +kernel
theorem dX6_readJoin_21 : decode cX6_readJoin 21 = .ok (.getfield 52, 3) := by decide +kernel
theorem dX6_readJoin_24 : decode cX6_readJoin 24 = .ok (.invokestatic 192, 3) := by decide +kernel
theorem dX6_readJoin_27 : decode cX6_readJoin 27 = .ok (.iconst 1, 1) := by decide +kernel
theorem dX6_readJoin_28 : decode cX6_readJoin 28 = .ok (.iadd, 1) := by decide +kernel
theorem dX6_readJoin_29 : decode cX6_readJoin 29 = .ok (.putfield 52, 3) := by decide +kernel
theorem dX6_readJoin_32 : decode cX6_readJoin 32 = .ok (.aload_n 1, 1) := by decide +kernel
theorem dX6_readJoin_33 : decode cX6_readJoin 33 = .ok (.getfield 42, 3) := by decide +kernel
theorem dX6_readJoin_36 : decode cX6_readJoin 36 = .ok (.getfield 94, 3) := by decide +kernel
theorem dX6_readJoin_39 : decode cX6_readJoin 39 = .ok (.iconst 4, 1) := by decide +kernel
theorem dX6_readJoin_40 : decode cX6_readJoin 40 = .ok (.aload_n 0, 1) := by decide +kernel
theorem dX6_readJoin_41 : decode cX6_readJoin 41 = .ok (.getfield 52, 3) := by decide +kernel
theorem dX6_readJoin_44 : decode cX6_readJoin 44 = .ok (.invokevirtual 55, 3) := by decide +kernel
theorem dX6_readJoin_47 : decode cX6_readJoin 47 = .ok (.return_, 1) := by decide +kernel
theorem dX6_readAccepted_0 : decode cX6_readAccepted 0 = .ok (.aload_n 1, 1) := by decide +kernel
theorem dX6_readAccepted_1 : decode cX6_readAccepted 1 = .ok (.getfield 26, 3) := by decide +kernel
theorem dX6_readAccepted_4 : decode cX6_readAccepted 4 = .ok (.getfield 197, 3) := by decide +kernel
theorem dX6_readAccepted_7 : decode cX6_readAccepted 7 = .ok (.ifCond .eq 11, 3) := by decide +kernel
theorem dX6_readAccepted_10 : decode cX6_readAccepted 10 = .ok (.aload_n 1, 1) := by decide +kernel
theorem dX6_readAccepted_11 : decode cX6_readAccepted 11 = .ok (.aload_n 2, 1) := by decide +kernel
theorem dX6_readAccepted_12 : decode cX6_readAccepted 12 = .ok (.invokestatic 200, 3) := by decide +kernel
theorem dX6_readAccepted_15 : decode cX6_readAccepted 15 = .ok (.goto 33, 3) := by decide +kernel
theorem dX6_readAccepted_18 : decode cX6_readAccepted 18 = .ok (.iload_n 3, 1) := by decide +kernel
theorem dX6_readAccepted_19 : decode cX6_readAccepted 19 = .ok (.ifCond .eq 21, 3) := by decide +kernel
theorem dX6_readAccepted_22 : decode cX6_readAccepted 22 = .ok (.aload_n 1, 1) := by decide +kernel
theorem dX6_readAccepted_23 : decode cX6_readAccepted 23 = .ok (.aload_n 2, 1) := by decide +kernel
theorem dX6_readAccepted_24 : decode cX6_readAccepted 24 = .ok (.invokestatic 204, 3) := by decide +kernel
theorem dX6_readAccepted_27 : decode cX6_readAccepted 27 = .ok (.aload_n 1, 1) := by decide +kernel
theorem dX6_readAccepted_28 : decode cX6_readAccepted 28 = .ok (.aload_n 2, 1) := by decide +kernel
theorem dX6_readAccepted_29 : decode cX6_readAccepted 29 = .ok (.invokestatic 200, 3) := by decide +kernel
theorem dX6_readAccepted_32 : decode cX6_readAccepted 32 = .ok (.aload_n 0, 1) := by decide +kernel
theorem dX6_readAccepted_33 : decode cX6_readAccepted 33 = .ok (.aload_n 1, 1) := by decide +kernel
theorem dX6_readAccepted_34 : decode cX6_readAccepted 34 = .ok (.invokevirtual 207, 3) := by decide +kernel
theorem dX6_readAccepted_37 : decode cX6_readAccepted 37 = .ok (.goto 11, 3) := by decide +kernel
theorem dX6_readAccepted_40 : decode cX6_readAccepted 40 = .ok (.aload_n 2, 1) := by decide +kernel
theorem dX6_readAccepted_41 : decode cX6_readAccepted 41 = .ok (.getfield 42, 3) := by decide +kernel
theorem dX6_readAccepted_44 : decode cX6_readAccepted 44 = .ok (.iconst 1, 1) := by decide +kernel
theorem dX6_readAccepted_45 : decode cX6_readAccepted 45 = .ok (.putfield 210, 3) := by decide +kernel
theorem dX6_readAccepted_48 : decode cX6_readAccepted 48 = .ok (.return_, 1) := by decide +kernel
theorem dX6_chooseList_0 : decode cX6_chooseList 0 = .ok (.aload_n 1, 1) := by decide +kernel
theorem dX6_chooseList_1 : decode cX6_chooseList 1 = .ok (.getfield 155, 3) := by decide +kernel
theorem dX6_chooseList_4 : decode cX6_chooseList 4 = .ok (.aload_n 0, 1) := by decide +kernel
theorem dX6_chooseList_5 : decode cX6_chooseList 5 = .ok (.getfield 155, 3) := by decide +kernel
theorem dX6_chooseList_8 : decode cX6_chooseList 8 = .ok (.if_icmp .ne 7, 3) := by decide +kernel
theorem dX6_chooseList_11 : decode cX6_chooseList 11 = .ok (.iconst 1, 1) := by decide +kernel
theorem dX6_chooseList_12 : decode cX6_chooseList 12 = .ok (.goto 4, 3) := by decide +kernel
theorem dX6_chooseList_15 : decode cX6_chooseList 15 = .ok (.iconst 0, 1) := by decide +kernel
theorem dX6_chooseList_16 : decode cX6_chooseList 16 = .ok (.istore_n 2, 1) := by decide +kernel
theorem dX6_chooseList_17 : decode cX6_chooseList 17 = .ok (.aload_n 1, 1) := by decide +kernel
theorem dX6_chooseList_18 : decode cX6_chooseList 18 = .ok (.getfield 114, 3) := by decide +kernel
theorem dX6_chooseList_21 : decode cX6_chooseList 21 = .ok (.invokevirtual 213, 3) := by decide +kernel
theorem dX6_chooseList_24 : decode cX6_chooseList 24 = .ok (.aload_n 0, 1) := by decide +kernel
theorem dX6_chooseList_25 : decode cX6_chooseList 25 = .ok (.getfield 114, 3) := by decide +kernel
theorem dX6_chooseList_28 : decode cX6_chooseList 28 = .ok (.invokevirtual 213, 3) := by decide +kernel
theorem dX6_chooseList_31 : decode cX6_chooseList 31 = .ok (.if_icmp .le 7, 3) := by decide +kernel
theorem dX6_chooseList_34 : decode cX6_chooseList 34 = .ok (.iconst 1, 1) := by decide +kernel
theorem dX6_chooseList_35 : decode cX6_chooseList 35 = .ok (.goto 4, 3) := by decide +kernel
theorem dX6_chooseList_38 : decode cX6_chooseList 38 = .ok (.iconst 0, 1) := by decide +kernel
theorem dX6_chooseList_39 : decode cX6_chooseList 39 = .ok (.istore_n 3, 1) := by decide +kernel
theorem dX6_chooseList_40 : decode cX6_chooseList 40 = .ok (.aload_n 1, 1) := by decide +kernel
theorem dX6_chooseList_41 : decode cX6_chooseList 41 = .ok (.getfield 155, 3) := by decide +kernel
theorem dX6_chooseList_44 : decode cX6_chooseList 44 = .ok (.aload_n 0, 1) := by decide +kernel
theorem dX6_chooseList_45 : decode cX6_chooseList 45 = .ok (.getfield 155, 3) := by decide +kernel
theorem dX6_chooseList_48 : decode cX6_chooseList 48 = .ok (.if_icmp .gt 11, 3) := by decide +kernel
theorem dX6_chooseList_51 : decode cX6_chooseList 51 = .ok (.iload_n 2, 1) := by decide +kernel
theorem dX6_chooseList_52 : decode cX6_chooseList 52 = .ok (.ifCond .eq 25, 3) := by decide +kernel
theorem dX6_chooseList_55 : decode cX6_chooseList 55 = .ok (.iload_n 3, 1) := by decide +kernel
theorem dX6_chooseList_56 : decode cX6_chooseList 56 = .ok (.ifCond .eq 21, 3) := by decide +kernel
theorem dX6_chooseList_59 : decode cX6_chooseList 59 = .ok (.aload_n 0, 1) := by decide +kernel
theorem dX6_chooseList_60 : decode cX6_chooseList 60 = .ok (.getfield 114, 3) := by decide +kernel
theorem dX6_chooseList_63 : decode cX6_chooseList 63 = .ok (.aload_n 1, 1) := by decide +kernel
theorem dX6_chooseList_64 : decode cX6_chooseList 64 = .ok (.getfield 114, 3) := by decide +kernel
theorem dX6_chooseList_67 : decode cX6_chooseList 67 = .ok (.aload_n 1, 1) := by decide +kernel
theorem dX6_chooseList_68 : decode cX6_chooseList 68 = .ok (.getfield 114, 3) := by decide +kernel
theorem dX6_chooseList_71 : decode cX6_chooseList 71 = .ok (.getfield 128, 3) := by decide +kernel
theorem dX6_chooseList_74 : decode cX6_chooseList 74 = .ok (.invokevirtual 216, 3) := by decide +kernel
theorem dX6_chooseList_77 : decode cX6_chooseList 77 = .ok (.aload_n 0, 1) := by decide +kernel
theorem dX6_chooseList_78 : decode cX6_chooseList 78 = .ok (.aload_n 0, 1) := by decide +kernel
theorem dX6_chooseList_79 : decode cX6_chooseList 79 = .ok (.getfield 52, 3) := by decide +kernel
theorem dX6_chooseList_82 : decode cX6_chooseList 82 = .ok (.putfield 155, 3) := by decide +kernel
theorem dX6_chooseList_85 : decode cX6_chooseList 85 = .ok (.aload_n 0, 1) := by decide +kernel
theorem dX6_chooseList_86 : decode cX6_chooseList 86 = .ok (.getfield 26, 3) := by decide +kernel
theorem dX6_chooseList_89 : decode cX6_chooseList 89 = .ok (.iconst 1, 1) := by decide +kernel
theorem dX6_chooseList_90 : decode cX6_chooseList 90 = .ok (.putfield 197, 3) := by decide +kernel
theorem dX6_chooseList_93 : decode cX6_chooseList 93 = .ok (.return_, 1) := by decide +kernel
theorem dX6_sendNewLeader_0 : decode cX6_sendNewLeader 0 = .ok (.aload_n 1, 1) := by decide +kernel
theorem dX6_sendNewLeader_1 : decode cX6_sendNewLeader 1 = .ok (.getfield 42, 3) := by decide +kernel
theorem dX6_sendNewLeader_4 : decode cX6_sendNewLeader 4 = .ok (.iconst 1, 1) := by decide +kernel
theorem dX6_sendNewLeader_5 : decode cX6_sendNewLeader 5 = .ok (.putfield 220, 3) := by decide +kernel
theorem dX6_sendNewLeader_8 : decode cX6_sendNewLeader 8 = .ok (.aload_n 1, 1) := by decide +kernel
theorem dX6_sendNewLeader_9 : decode cX6_sendNewLeader 9 = .ok (.getfield 42, 3) := by decide +kernel
theorem dX6_sendNewLeader_12 : decode cX6_sendNewLeader 12 = .ok (.iconst 0, 1) := by decide +kernel
theorem dX6_sendNewLeader_13 : decode cX6_sendNewLeader 13 = .ok (.putfield 210, 3) := by decide +kernel
theorem dX6_sendNewLeader_16 : decode cX6_sendNewLeader 16 = .ok (.aload_n 1, 1) := by decide +kernel
theorem dX6_sendNewLeader_17 : decode cX6_sendNewLeader 17 = .ok (.getfield 42, 3) := by decide +kernel
theorem dX6_sendNewLeader_20 : decode cX6_sendNewLeader 20 = .ok (.getfield 94, 3) := by decide +kernel
theorem dX6_sendNewLeader_23 : decode cX6_sendNewLeader 23 = .ok (.iconst 5, 1) := by decide +kernel
theorem dX6_sendNewLeader_24 : decode cX6_sendNewLeader 24 = .ok (.aload_n 0, 1) := by decide +kernel
theorem dX6_sendNewLeader_25 : decode cX6_sendNewLeader 25 = .ok (.getfield 114, 3) := by decide +kernel
theorem dX6_sendNewLeader_28 : decode cX6_sendNewLeader 28 = .ok (.getfield 128, 3) := by decide +kernel
theorem dX6_sendNewLeader_31 : decode cX6_sendNewLeader 31 = .ok (.invokevirtual 55, 3) := by decide +kernel
theorem dX6_sendNewLeader_34 : decode cX6_sendNewLeader 34 = .ok (.return_, 1) := by decide +kernel
theorem dX6_sendNewLeaderToWaiting_0 : decode cX6_sendNewLeaderToWaiting 0 = .ok (.iconst 0, 1) := by decide +kernel
theorem dX6_sendNewLeaderToWaiting_1 : decode cX6_sendNewLeaderToWaiting 1 = .ok (.istore_n 2, 1) := by decide +kernel
theorem dX6_sendNewLeaderToWaiting_2 : decode cX6_sendNewLeaderToWaiting 2 = .ok (.iload_n 2, 1) := by decide +kernel
theorem dX6_sendNewLeaderToWaiting_3 : decode cX6_sendNewLeaderToWaiting 3 = .ok (.iconst 3, 1) := by decide +kernel
theorem dX6_sendNewLeaderToWaiting_4 : decode cX6_sendNewLeaderToWaiting 4 = .ok (.if_icmp .ge 47, 3) := by decide +kernel
theorem dX6_sendNewLeaderToWaiting_7 : decode cX6_sendNewLeaderToWaiting 7 = .ok (.aload_n 0, 1) := by decide +kernel
theorem dX6_sendNewLeaderToWaiting_8 : decode cX6_sendNewLeaderToWaiting 8 = .ok (.getfield 11, 3) := by decide +kernel
theorem dX6_sendNewLeaderToWaiting_11 : decode cX6_sendNewLeaderToWaiting 11 = .ok (.iload_n 2, 1) := by decide +kernel
theorem dX6_sendNewLeaderToWaiting_12 : decode cX6_sendNewLeaderToWaiting 12 = .ok (.aaload, 1) := by decide +kernel
theorem dX6_sendNewLeaderToWaiting_13 : decode cX6_sendNewLeaderToWaiting 13 = .ok (.aload_n 1, 1) := by decide +kernel
theorem dX6_sendNewLeaderToWaiting_14 : decode cX6_sendNewLeaderToWaiting 14 = .ok (.invokestatic 181, 3) := by decide +kernel
theorem dX6_sendNewLeaderToWaiting_17 : decode cX6_sendNewLeaderToWaiting 17 = .ok (.ifCond .eq 28, 3) := by decide +kernel
theorem dX6_sendNewLeaderToWaiting_20 : decode cX6_sendNewLeaderToWaiting 20 = .ok (.aload_n 0, 1) := by decide +kernel
theorem dX6_sendNewLeaderToWaiting_21 : decode cX6_sendNewLeaderToWaiting 21 = .ok (.getfield 11, 3) := by decide +kernel
theorem dX6_sendNewLeaderToWaiting_24 : decode cX6_sendNewLeaderToWaiting 24 = .ok (.iload_n 2, 1) := by decide +kernel
theorem dX6_sendNewLeaderToWaiting_25 : decode cX6_sendNewLeaderToWaiting 25 = .ok (.aaload, 1) := by decide +kernel
theorem dX6_sendNewLeaderToWaiting_26 : decode cX6_sendNewLeaderToWaiting 26 = .ok (.getfield 42, 3) := by decide +kernel
theorem dX6_sendNewLeaderToWaiting_29 : decode cX6_sendNewLeaderToWaiting 29 = .ok (.getfield 210, 3) := by decide +kernel
theorem dX6_sendNewLeaderToWaiting_32 : decode cX6_sendNewLeaderToWaiting 32 = .ok (.ifCond .eq 13, 3) := by decide +kernel
theorem dX6_sendNewLeaderToWaiting_35 : decode cX6_sendNewLeaderToWaiting 35 = .ok (.aload_n 1, 1) := by decide +kernel
theorem dX6_sendNewLeaderToWaiting_36 : decode cX6_sendNewLeaderToWaiting 36 = .ok (.aload_n 0, 1) := by decide +kernel
theorem dX6_sendNewLeaderToWaiting_37 : decode cX6_sendNewLeaderToWaiting 37 = .ok (.getfield 11, 3) := by decide +kernel
theorem dX6_sendNewLeaderToWaiting_40 : decode cX6_sendNewLeaderToWaiting 40 = .ok (.iload_n 2, 1) := by decide +kernel
theorem dX6_sendNewLeaderToWaiting_41 : decode cX6_sendNewLeaderToWaiting 41 = .ok (.aaload, 1) := by decide +kernel
theorem dX6_sendNewLeaderToWaiting_42 : decode cX6_sendNewLeaderToWaiting 42 = .ok (.invokestatic 200, 3) := by decide +kernel
theorem dX6_sendNewLeaderToWaiting_45 : decode cX6_sendNewLeaderToWaiting 45 = .ok (.iinc 2 1, 3) := by decide +kernel
theorem dX6_sendNewLeaderToWaiting_48 : decode cX6_sendNewLeaderToWaiting 48 = .ok (.goto (-46), 3) := by decide +kernel
theorem dX6_sendNewLeaderToWaiting_51 : decode cX6_sendNewLeaderToWaiting 51 = .ok (.return_, 1) := by decide +kernel
theorem dX6_readAck_0 : decode cX6_readAck 0 = .ok (.aload_n 1, 1) := by decide +kernel
theorem dX6_readAck_1 : decode cX6_readAck 1 = .ok (.getfield 22, 3) := by decide +kernel
theorem dX6_readAck_4 : decode cX6_readAck 4 = .ok (.iconst 3, 1) := by decide +kernel
theorem dX6_readAck_5 : decode cX6_readAck 5 = .ok (.if_icmp .ne 19, 3) := by decide +kernel
theorem dX6_readAck_8 : decode cX6_readAck 8 = .ok (.aload_n 1, 1) := by decide +kernel
theorem dX6_readAck_9 : decode cX6_readAck 9 = .ok (.iconst 4, 1) := by decide +kernel
theorem dX6_readAck_10 : decode cX6_readAck 10 = .ok (.putfield 22, 3) := by decide +kernel
theorem dX6_readAck_13 : decode cX6_readAck 13 = .ok (.aload_n 1, 1) := by decide +kernel
theorem dX6_readAck_14 : decode cX6_readAck 14 = .ok (.getfield 26, 3) := by decide +kernel
theorem dX6_readAck_17 : decode cX6_readAck 17 = .ok (.getfield 151, 3) := by decide +kernel
theorem dX6_readAck_20 : decode cX6_readAck 20 = .ok (.iconst 0, 1) := by decide +kernel
theorem dX6_readAck_21 : decode cX6_readAck 21 = .ok (.invokestatic 223, 3) := by decide +kernel
theorem dX6_readAck_24 : decode cX6_readAck 24 = .ok (.aload_n 2, 1) := by decide +kernel
theorem dX6_readAck_25 : decode cX6_readAck 25 = .ok (.getfield 42, 3) := by decide +kernel
theorem dX6_readAck_28 : decode cX6_readAck 28 = .ok (.getfield 229, 3) := by decide +kernel
theorem dX6_readAck_31 : decode cX6_readAck 31 = .ok (.ifCond .ne 7, 3) := by decide +kernel
theorem dX6_readAck_34 : decode cX6_readAck 34 = .ok (.iconst 1, 1) := by decide +kernel
theorem dX6_readAck_35 : decode cX6_readAck 35 = .ok (.goto 4, 3) := by decide +kernel
theorem dX6_readAck_38 : decode cX6_readAck 38 = .ok (.iconst 0, 1) := by decide +kernel
theorem dX6_readAck_39 : decode cX6_readAck 39 = .ok (.istore 4, 2) := by decide +kernel
theorem dX6_readAck_41 : decode cX6_readAck 41 = .ok (.aload_n 2, 1) := by decide +kernel
theorem dX6_readAck_42 : decode cX6_readAck 42 = .ok (.getfield 42, 3) := by decide +kernel
theorem dX6_readAck_45 : decode cX6_readAck 45 = .ok (.iconst 1, 1) := by decide +kernel
theorem dX6_readAck_46 : decode cX6_readAck 46 = .ok (.putfield 229, 3) := by decide +kernel
theorem dX6_readAck_49 : decode cX6_readAck 49 = .ok (.iload_n 3, 1) := by decide +kernel
theorem dX6_readAck_50 : decode cX6_readAck 50 = .ok (.aload_n 1, 1) := by decide +kernel
theorem dX6_readAck_51 : decode cX6_readAck 51 = .ok (.getfield 162, 3) := by decide +kernel
theorem dX6_readAck_54 : decode cX6_readAck 54 = .ok (.if_icmp .le 19, 3) := by decide +kernel
theorem dX6_readAck_57 : decode cX6_readAck 57 = .ok (.aload_n 1, 1) := by decide +kernel
theorem dX6_readAck_58 : decode cX6_readAck 58 = .ok (.iload_n 3, 1) := by decide +kernel
theorem dX6_readAck_59 : decode cX6_readAck 59 = .ok (.invokevirtual 107, 3) := by decide +kernel
theorem dX6_readAck_62 : decode cX6_readAck 62 = .ok (.aload_n 0, 1) := by decide +kernel
theorem dX6_readAck_63 : decode cX6_readAck 63 = .ok (.aload_n 1, 1) := by decide +kernel
theorem dX6_readAck_64 : decode cX6_readAck 64 = .ok (.bipush 7, 2) := by decide +kernel
theorem dX6_readAck_66 : decode cX6_readAck 66 = .ok (.iload_n 3, 1) := by decide +kernel
theorem dX6_readAck_67 : decode cX6_readAck 67 = .ok (.invokevirtual 232, 3) := by decide +kernel
theorem dX6_readAck_70 : decode cX6_readAck 70 = .ok (.goto 24, 3) := by decide +kernel
theorem dX6_readAck_73 : decode cX6_readAck 73 = .ok (.iload 4, 2) := by decide +kernel
theorem dX6_readAck_75 : decode cX6_readAck 75 = .ok (.ifCond .eq 19, 3) := by decide +kernel
theorem dX6_readAck_78 : decode cX6_readAck 78 = .ok (.aload_n 2, 1) := by decide +kernel
theorem dX6_readAck_79 : decode cX6_readAck 79 = .ok (.getfield 42, 3) := by decide +kernel
theorem dX6_readAck_82 : decode cX6_readAck 82 = .ok (.getfield 94, 3) := by decide +kernel
theorem dX6_readAck_85 : decode cX6_readAck 85 = .ok (.bipush 7, 2) := by decide +kernel
theorem dX6_readAck_87 : decode cX6_readAck 87 = .ok (.aload_n 1, 1) := by decide +kernel
theorem dX6_readAck_88 : decode cX6_readAck 88 = .ok (.getfield 162, 3) := by decide +kernel
theorem dX6_readAck_91 : decode cX6_readAck 91 = .ok (.invokevirtual 55, 3) := by decide +kernel
theorem dX6_readAck_94 : decode cX6_readAck 94 = .ok (.return_, 1) := by decide +kernel
theorem dX6_sendOnTiedLinks_0 : decode cX6_sendOnTiedLinks 0 = .ok (.iconst 0, 1) := by decide +kernel
theorem dX6_sendOnTiedLinks_1 : decode cX6_sendOnTiedLinks 1 = .ok (.istore 4, 2) := by decide +kernel
theorem dX6_sendOnTiedLinks_3 : decode cX6_sendOnTiedLinks 3 = .ok (.iload 4, 2) := by decide +kernel
theorem dX6_sendOnTiedLinks_5 : decode cX6_sendOnTiedLinks 5 = .ok (.iconst 3, 1) := by decide +kernel
theorem dX6_sendOnTiedLinks_6 : decode cX6_sendOnTiedLinks 6 = .ok (.if_icmp .ge 57, 3) := by decide +kernel
theorem dX6_sendOnTiedLinks_9 : decode cX6_sendOnTiedLinks 9 = .ok (.aload_n 0, 1) := by decide +kernel
theorem dX6_sendOnTiedLinks_10 : decode cX6_sendOnTiedLinks 10 = .ok (.getfield 11, 3) := by decide +kernel
theorem dX6_sendOnTiedLinks_13 : decode cX6_sendOnTiedLinks 13 = .ok (.iload 4, 2) := by decide +kernel
theorem dX6_sendOnTiedLinks_15 : decode cX6_sendOnTiedLinks 15 = .ok (.aaload, 1) := by decide +kernel
theorem dX6_sendOnTiedLinks_16 : decode cX6_sendOnTiedLinks 16 = .ok (.aload_n 1, 1) := by decide +kernel
theorem dX6_sendOnTiedLinks_17 : decode cX6_sendOnTiedLinks 17 = .ok (.invokestatic 181, 3) := by decide +kernel
theorem dX6_sendOnTiedLinks_20 : decode cX6_sendOnTiedLinks 20 = .ok (.ifCond .eq 37, 3) := by decide +kernel
theorem dX6_sendOnTiedLinks_23 : decode cX6_sendOnTiedLinks 23 = .ok (.aload_n 0, 1) := by decide +kernel
theorem dX6_sendOnTiedLinks_24 : decode cX6_sendOnTiedLinks 24 = .ok (.getfield 11, 3) := by decide +kernel
theorem dX6_sendOnTiedLinks_27 : decode cX6_sendOnTiedLinks 27 = .ok (.iload 4, 2) := by decide +kernel
theorem dX6_sendOnTiedLinks_29 : decode cX6_sendOnTiedLinks 29 = .ok (.aaload, 1) := by decide +kernel
theorem dX6_sendOnTiedLinks_30 : decode cX6_sendOnTiedLinks 30 = .ok (.getfield 42, 3) := by decide +kernel
theorem dX6_sendOnTiedLinks_33 : decode cX6_sendOnTiedLinks 33 = .ok (.getfield 220, 3) := by decide +kernel
theorem dX6_sendOnTiedLinks_36 : decode cX6_sendOnTiedLinks 36 = .ok (.ifCond .eq 21, 3) := by decide +kernel
theorem dX6_sendOnTiedLinks_39 : decode cX6_sendOnTiedLinks 39 = .ok (.aload_n 0, 1) := by decide +kernel
theorem dX6_sendOnTiedLinks_40 : decode cX6_sendOnTiedLinks 40 = .ok (.getfield 11, 3) := by decide +kernel
theorem dX6_sendOnTiedLinks_43 : decode cX6_sendOnTiedLinks 43 = .ok (.iload 4, 2) := by decide +kernel
theorem dX6_sendOnTiedLinks_45 : decode cX6_sendOnTiedLinks 45 = .ok (.aaload, 1) := by decide +kernel
theorem dX6_sendOnTiedLinks_46 : decode cX6_sendOnTiedLinks 46 = .ok (.getfield 42, 3) := by decide +kernel
theorem dX6_sendOnTiedLinks_49 : decode cX6_sendOnTiedLinks 49 = .ok (.getfield 94, 3) := by decide +kernel
theorem dX6_sendOnTiedLinks_52 : decode cX6_sendOnTiedLinks 52 = .ok (.iload_n 2, 1) := by decide +kernel
theorem dX6_sendOnTiedLinks_53 : decode cX6_sendOnTiedLinks 53 = .ok (.iload_n 3, 1) := by decide +kernel
theorem dX6_sendOnTiedLinks_54 : decode cX6_sendOnTiedLinks 54 = .ok (.invokevirtual 55, 3) := by decide +kernel
theorem dX6_sendOnTiedLinks_57 : decode cX6_sendOnTiedLinks 57 = .ok (.iinc 4 1, 3) := by decide +kernel
theorem dX6_sendOnTiedLinks_60 : decode cX6_sendOnTiedLinks 60 = .ok (.goto (-57), 3) := by decide +kernel
theorem dX6_sendOnTiedLinks_63 : decode cX6_sendOnTiedLinks 63 = .ok (.return_, 1) := by decide +kernel
theorem dX6_readNewEpoch_0 : decode cX6_readNewEpoch 0 = .ok (.aload_n 0, 1) := by decide +kernel
theorem dX6_readNewEpoch_1 : decode cX6_readNewEpoch 1 = .ok (.getfield 11, 3) := by decide +kernel
theorem dX6_readNewEpoch_4 : decode cX6_readNewEpoch 4 = .ok (.iload_n 1, 1) := by decide +kernel
theorem dX6_readNewEpoch_5 : decode cX6_readNewEpoch 5 = .ok (.aaload, 1) := by decide +kernel
theorem dX6_readNewEpoch_6 : decode cX6_readNewEpoch 6 = .ok (.astore_n 3, 1) := by decide +kernel
theorem dX6_readNewEpoch_7 : decode cX6_readNewEpoch 7 = .ok (.iload_n 2, 1) := by decide +kernel
theorem dX6_readNewEpoch_8 : decode cX6_readNewEpoch 8 = .ok (.aload_n 3, 1) := by decide +kernel
theorem dX6_readNewEpoch_9 : decode cX6_readNewEpoch 9 = .ok (.getfield 52, 3) := by decide +kernel
theorem dX6_readNewEpoch_12 : decode cX6_readNewEpoch 12 = .ok (.if_icmp .ge 10, 3) := by decide +kernel
theorem dX6_readNewEpoch_15 : decode cX6_readNewEpoch 15 = .ok (.aload_n 0, 1) := by decide +kernel
theorem dX6_readNewEpoch_16 : decode cX6_readNewEpoch 16 = .ok (.iload_n 1, 1) := by decide +kernel
theorem dX6_readNewEpoch_17 : decode cX6_readNewEpoch 17 = .ok (.iconst 1, 1) := by decide +kernel
theorem dX6_readNewEpoch_18 : decode cX6_readNewEpoch 18 = .ok (.invokevirtual 61, 3) := by decide +kernel
theorem dX6_readNewEpoch_21 : decode cX6_readNewEpoch 21 = .ok (.return_, 1) := by decide +kernel
theorem dX6_readNewEpoch_22 : decode cX6_readNewEpoch 22 = .ok (.iload_n 2, 1) := by decide +kernel
theorem dX6_readNewEpoch_23 : decode cX6_readNewEpoch 23 = .ok (.aload_n 3, 1) := by decide +kernel
theorem dX6_readNewEpoch_24 : decode cX6_readNewEpoch 24 = .ok (.getfield 52, 3) := by decide +kernel
theorem dX6_readNewEpoch_27 : decode cX6_readNewEpoch 27 = .ok (.if_icmp .le 7, 3) := by decide +kernel
theorem dX6_readNewEpoch_30 : decode cX6_readNewEpoch 30 = .ok (.iconst 1, 1) := by decide +kernel
theorem dX6_readNewEpoch_31 : decode cX6_readNewEpoch 31 = .ok (.goto 4, 3) := by decide +kernel
theorem dX6_readNewEpoch_34 : decode cX6_readNewEpoch 34 = .ok (.iconst 0, 1) := by decide +kernel
theorem dX6_readNewEpoch_35 : decode cX6_readNewEpoch 35 = .ok (.istore 4, 2) := by decide +kernel
theorem dX6_readNewEpoch_37 : decode cX6_readNewEpoch 37 = .ok (.aload_n 3, 1) := by decide +kernel
theorem dX6_readNewEpoch_38 : decode cX6_readNewEpoch 38 = .ok (.iload_n 2, 1) := by decide +kernel
theorem dX6_readNewEpoch_39 : decode cX6_readNewEpoch 39 = .ok (.putfield 52, 3) := by decide +kernel
theorem dX6_readNewEpoch_42 : decode cX6_readNewEpoch 42 = .ok (.aload_n 3, 1) := by decide +kernel
theorem dX6_readNewEpoch_43 : decode cX6_readNewEpoch 43 = .ok (.getfield 42, 3) := by decide +kernel
theorem dX6_readNewEpoch_46 : decode cX6_readNewEpoch 46 = .ok (.getfield 46, 3) := by decide +kernel
theorem dX6_readNewEpoch_49 : decode cX6_readNewEpoch 49 = .ok (.iconst 2, 1) := by decide +kernel
theorem dX6_readNewEpoch_50 : decode cX6_readNewEpoch 50 = .ok (.iload 4, 2) := by decide +kernel
theorem dX6_readNewEpoch_52 : decode cX6_readNewEpoch 52 = .ok (.ifCond .eq 7, 3) := by decide +kernel
theorem dX6_readNewEpoch_55 : decode cX6_readNewEpoch 55 = .ok (.iconst 1, 1) := by decide +kernel
theorem dX6_readNewEpoch_56 : decode cX6_readNewEpoch 56 = .ok (.goto 4, 3) := by decide +kernel
theorem dX6_readNewEpoch_59 : decode cX6_readNewEpoch 59 = .ok (.iconst 0, 1) := by decide +kernel
theorem dX6_readNewEpoch_60 : decode cX6_readNewEpoch 60 = .ok (.invokevirtual 55, 3) := by decide +kernel
theorem dX6_readNewEpoch_63 : decode cX6_readNewEpoch 63 = .ok (.return_, 1) := by decide +kernel
theorem dX6_readNewLeader_0 : decode cX6_readNewLeader 0 = .ok (.aload_n 1, 1) := by decide +kernel
theorem dX6_readNewLeader_1 : decode cX6_readNewLeader 1 = .ok (.aload_n 1, 1) := by decide +kernel
theorem dX6_readNewLeader_2 : decode cX6_readNewLeader 2 = .ok (.getfield 52, 3) := by decide +kernel
theorem dX6_readNewLeader_5 : decode cX6_readNewLeader 5 = .ok (.putfield 155, 3) := by decide +kernel
theorem dX6_readNewLeader_8 : decode cX6_readNewLeader 8 = .ok (.aload_n 1, 1) := by decide +kernel
theorem dX6_readNewLeader_9 : decode cX6_readNewLeader 9 = .ok (.getfield 114, 3) := by decide +kernel
theorem dX6_readNewLeader_12 : decode cX6_readNewLeader 12 = .ok (.aload_n 0, 1) := by decide +kernel
theorem dX6_readNewLeader_13 : decode cX6_readNewLeader 13 = .ok (.getfield 11, 3) := by decide +kernel
theorem dX6_readNewLeader_16 : decode cX6_readNewLeader 16 = .ok (.aload_n 1, 1) := by decide +kernel
theorem dX6_readNewLeader_17 : decode cX6_readNewLeader 17 = .ok (.getfield 39, 3) := by decide +kernel
theorem dX6_readNewLeader_20 : decode cX6_readNewLeader 20 = .ok (.aaload, 1) := by decide +kernel
theorem dX6_readNewLeader_21 : decode cX6_readNewLeader 21 = .ok (.getfield 114, 3) := by decide +kernel
theorem dX6_readNewLeader_24 : decode cX6_readNewLeader 24 = .ok (.iload_n 2, 1) := by decide +kernel
theorem dX6_readNewLeader_25 : decode cX6_readNewLeader 25 = .ok (.invokevirtual 216, 3) := by decide +kernel
theorem dX6_readNewLeader_28 : decode cX6_readNewLeader 28 = .ok (.aload_n 1, 1) := by decide +kernel
theorem dX6_readNewLeader_29 : decode cX6_readNewLeader 29 = .ok (.getfield 42, 3) := by decide +kernel
theorem dX6_readNewLeader_32 : decode cX6_readNewLeader 32 = .ok (.getfield 46, 3) := by decide +kernel
theorem dX6_readNewLeader_35 : decode cX6_readNewLeader 35 = .ok (.iconst 3, 1) := by decide +kernel
theorem dX6_readNewLeader_36 : decode cX6_readNewLeader 36 = .ok (.iload_n 2, 1) := by decide +kernel
theorem dX6_readNewLeader_37 : decode cX6_readNewLeader 37 = .ok (.invokevirtual 55, 3) := by decide +kernel
theorem dX6_readNewLeader_40 : decode cX6_readNewLeader 40 = .ok (.return_, 1) := by decide +kernel
theorem dX6_readProposal_0 : decode cX6_readProposal 0 = .ok (.aload_n 1, 1) := by decide +kernel
theorem dX6_readProposal_1 : decode cX6_readProposal 1 = .ok (.getfield 114, 3) := by decide +kernel
theorem dX6_readProposal_4 : decode cX6_readProposal 4 = .ok (.aload_n 0, 1) := by decide +kernel
theorem dX6_readProposal_5 : decode cX6_readProposal 5 = .ok (.getfield 11, 3) := by decide +kernel
theorem dX6_readProposal_8 : decode cX6_readProposal 8 = .ok (.aload_n 1, 1) := by decide +kernel
theorem dX6_readProposal_9 : decode cX6_readProposal 9 = .ok (.getfield 39, 3) := by decide +kernel
theorem dX6_readProposal_12 : decode cX6_readProposal 12 = .ok (.aaload, 1) := by decide +kernel
theorem dX6_readProposal_13 : decode cX6_readProposal 13 = .ok (.getfield 114, 3) := by decide +kernel
theorem dX6_readProposal_16 : decode cX6_readProposal 16 = .ok (.iload_n 2, 1) := by decide +kernel
theorem dX6_readProposal_17 : decode cX6_readProposal 17 = .ok (.invokevirtual 236, 3) := by decide +kernel
theorem dX6_readProposal_20 : decode cX6_readProposal 20 = .ok (.aload_n 1, 1) := by decide +kernel
theorem dX6_readProposal_21 : decode cX6_readProposal 21 = .ok (.getfield 42, 3) := by decide +kernel
theorem dX6_readProposal_24 : decode cX6_readProposal 24 = .ok (.getfield 46, 3) := by decide +kernel
theorem dX6_readProposal_27 : decode cX6_readProposal 27 = .ok (.iconst 3, 1) := by decide +kernel
theorem dX6_readProposal_28 : decode cX6_readProposal 28 = .ok (.aload_n 1, 1) := by decide +kernel
theorem dX6_readProposal_29 : decode cX6_readProposal 29 = .ok (.getfield 114, 3) := by decide +kernel
theorem dX6_readProposal_32 : decode cX6_readProposal 32 = .ok (.getfield 128, 3) := by decide +kernel
theorem dX6_readProposal_35 : decode cX6_readProposal 35 = .ok (.invokevirtual 55, 3) := by decide +kernel
theorem dX6_readProposal_38 : decode cX6_readProposal 38 = .ok (.return_, 1) := by decide +kernel
theorem dX6_makeEntry_0 : decode cX6_makeEntry 0 = .ok (.aload_n 1, 1) := by decide +kernel
theorem dX6_makeEntry_1 : decode cX6_makeEntry 1 = .ok (.getfield 26, 3) := by decide +kernel
theorem dX6_makeEntry_4 : decode cX6_makeEntry 4 = .ok (.dup, 1) := by decide +kernel
theorem dX6_makeEntry_5 : decode cX6_makeEntry 5 = .ok (.getfield 239, 3) := by decide +kernel
theorem dX6_makeEntry_8 : decode cX6_makeEntry 8 = .ok (.iconst 1, 1) := by decide +kernel
theorem dX6_makeEntry_9 : decode cX6_makeEntry 9 = .ok (.iadd, 1) := by decide +kernel
theorem dX6_makeEntry_10 : decode cX6_makeEntry 10 = .ok (.putfield 239, 3) := by decide +kernel
theorem dX6_makeEntry_13 : decode cX6_makeEntry 13 = .ok (.sipush 1000, 3) := by decide +kernel
theorem dX6_makeEntry_16 : decode cX6_makeEntry 16 = .ok (.aload_n 1, 1) := by decide +kernel
theorem dX6_makeEntry_17 : decode cX6_makeEntry 17 = .ok (.getfield 155, 3) := by decide +kernel
theorem dX6_makeEntry_20 : decode cX6_makeEntry 20 = .ok (.imul, 1) := by decide +kernel
theorem dX6_makeEntry_21 : decode cX6_makeEntry 21 = .ok (.aload_n 1, 1) := by decide +kernel
theorem dX6_makeEntry_22 : decode cX6_makeEntry 22 = .ok (.getfield 26, 3) := by decide +kernel
theorem dX6_makeEntry_25 : decode cX6_makeEntry 25 = .ok (.getfield 239, 3) := by decide +kernel
theorem dX6_makeEntry_28 : decode cX6_makeEntry 28 = .ok (.iadd, 1) := by decide +kernel
theorem dX6_makeEntry_29 : decode cX6_makeEntry 29 = .ok (.istore 6, 2) := by decide +kernel
theorem dX6_makeEntry_31 : decode cX6_makeEntry 31 = .ok (.aload_n 1, 1) := by decide +kernel
theorem dX6_makeEntry_32 : decode cX6_makeEntry 32 = .ok (.getfield 114, 3) := by decide +kernel
theorem dX6_makeEntry_35 : decode cX6_makeEntry 35 = .ok (.iload 6, 2) := by decide +kernel
theorem dX6_makeEntry_37 : decode cX6_makeEntry 37 = .ok (.iload_n 2, 1) := by decide +kernel
theorem dX6_makeEntry_38 : decode cX6_makeEntry 38 = .ok (.iload_n 3, 1) := by decide +kernel
theorem dX6_makeEntry_39 : decode cX6_makeEntry 39 = .ok (.iload 4, 2) := by decide +kernel
theorem dX6_makeEntry_41 : decode cX6_makeEntry 41 = .ok (.iload 5, 2) := by decide +kernel
theorem dX6_makeEntry_43 : decode cX6_makeEntry 43 = .ok (.invokevirtual 242, 3) := by decide +kernel
theorem dX6_makeEntry_46 : decode cX6_makeEntry 46 = .ok (.aload_n 0, 1) := by decide +kernel
theorem dX6_makeEntry_47 : decode cX6_makeEntry 47 = .ok (.aload_n 1, 1) := by decide +kernel
theorem dX6_makeEntry_48 : decode cX6_makeEntry 48 = .ok (.bipush 6, 2) := by decide +kernel
theorem dX6_makeEntry_50 : decode cX6_makeEntry 50 = .ok (.aload_n 1, 1) := by decide +kernel
theorem dX6_makeEntry_51 : decode cX6_makeEntry 51 = .ok (.getfield 114, 3) := by decide +kernel
theorem dX6_makeEntry_54 : decode cX6_makeEntry 54 = .ok (.getfield 128, 3) := by decide +kernel
theorem dX6_makeEntry_57 : decode cX6_makeEntry 57 = .ok (.invokevirtual 232, 3) := by decide +kernel
theorem dX6_makeEntry_60 : decode cX6_makeEntry 60 = .ok (.return_, 1) := by decide +kernel
theorem dX6_growAges_0 : decode cX6_growAges 0 = .ok (.aload_n 0, 1) := by decide +kernel
theorem dX6_growAges_1 : decode cX6_growAges 1 = .ok (.getfield 26, 3) := by decide +kernel
theorem dX6_growAges_4 : decode cX6_growAges 4 = .ok (.getfield 151, 3) := by decide +kernel
theorem dX6_growAges_7 : decode cX6_growAges 7 = .ok (.astore_n 1, 1) := by decide +kernel
theorem dX6_growAges_8 : decode cX6_growAges 8 = .ok (.iconst 1, 1) := by decide +kernel
theorem dX6_growAges_9 : decode cX6_growAges 9 = .ok (.istore_n 2, 1) := by decide +kernel
theorem dX6_growAges_10 : decode cX6_growAges 10 = .ok (.iload_n 2, 1) := by decide +kernel
theorem dX6_growAges_11 : decode cX6_growAges 11 = .ok (.iconst 4, 1) := by decide +kernel
theorem dX6_growAges_12 : decode cX6_growAges 12 = .ok (.if_icmp .gt 36, 3) := by decide +kernel
theorem dX6_growAges_15 : decode cX6_growAges 15 = .ok (.aload_n 1, 1) := by decide +kernel
theorem dX6_growAges_16 : decode cX6_growAges 16 = .ok (.iload_n 2, 1) := by decide +kernel
theorem dX6_growAges_17 : decode cX6_growAges 17 = .ok (.aload_n 0, 1) := by decide +kernel
theorem dX6_growAges_18 : decode cX6_growAges 18 = .ok (.getfield 142, 3) := by decide +kernel
theorem dX6_growAges_21 : decode cX6_growAges 21 = .ok (.iload_n 2, 1) := by decide +kernel
theorem dX6_growAges_22 : decode cX6_growAges 22 = .ok (.invokevirtual 146, 3) := by decide +kernel
theorem dX6_growAges_25 : decode cX6_growAges 25 = .ok (.ifCond .eq 15, 3) := by decide +kernel
theorem dX6_growAges_28 : decode cX6_growAges 28 = .ok (.aload_n 1, 1) := by decide +kernel
theorem dX6_growAges_29 : decode cX6_growAges 29 = .ok (.iload_n 2, 1) := by decide +kernel
theorem dX6_growAges_30 : decode cX6_growAges 30 = .ok (.iaload, 1) := by decide +kernel
theorem dX6_growAges_31 : decode cX6_growAges 31 = .ok (.iconst 1, 1) := by decide +kernel
theorem dX6_growAges_32 : decode cX6_growAges 32 = .ok (.iadd, 1) := by decide +kernel
theorem dX6_growAges_33 : decode cX6_growAges 33 = .ok (.iconst 3, 1) := by decide +kernel
theorem dX6_growAges_34 : decode cX6_growAges 34 = .ok (.invokestatic 246, 3) := by decide +kernel
theorem dX6_growAges_37 : decode cX6_growAges 37 = .ok (.goto 4, 3) := by decide +kernel
theorem dX6_growAges_40 : decode cX6_growAges 40 = .ok (.iconst 0, 1) := by decide +kernel
theorem dX6_growAges_41 : decode cX6_growAges 41 = .ok (.iastore, 1) := by decide +kernel
theorem dX6_growAges_42 : decode cX6_growAges 42 = .ok (.iinc 2 1, 3) := by decide +kernel
theorem dX6_growAges_45 : decode cX6_growAges 45 = .ok (.goto (-35), 3) := by decide +kernel
theorem dX6_growAges_48 : decode cX6_growAges 48 = .ok (.return_, 1) := by decide +kernel
theorem dX6_closeOldSessions_0 : decode cX6_closeOldSessions 0 = .ok (.aload_n 1, 1) := by decide +kernel
theorem dX6_closeOldSessions_1 : decode cX6_closeOldSessions 1 = .ok (.getfield 26, 3) := by decide +kernel
theorem dX6_closeOldSessions_4 : decode cX6_closeOldSessions 4 = .ok (.getfield 151, 3) := by decide +kernel
theorem dX6_closeOldSessions_7 : decode cX6_closeOldSessions 7 = .ok (.astore_n 2, 1) := by decide +kernel
theorem dX6_closeOldSessions_8 : decode cX6_closeOldSessions 8 = .ok (.iconst 0, 1) := by decide +kernel
theorem dX6_closeOldSessions_9 : decode cX6_closeOldSessions 9 = .ok (.istore_n 3, 1) := by decide +kernel
theorem dX6_closeOldSessions_10 : decode cX6_closeOldSessions 10 = .ok (.iconst 1, 1) := by decide +kernel
theorem dX6_closeOldSessions_11 : decode cX6_closeOldSessions 11 = .ok (.istore 4, 2) := by decide +kernel
theorem dX6_closeOldSessions_13 : decode cX6_closeOldSessions 13 = .ok (.iload 4, 2) := by decide +kernel
theorem dX6_closeOldSessions_15 : decode cX6_closeOldSessions 15 = .ok (.iconst 4, 1) := by decide +kernel
theorem dX6_closeOldSessions_16 : decode cX6_closeOldSessions 16 = .ok (.if_icmp .gt 45, 3) := by decide +kernel
theorem dX6_closeOldSessions_19 : decode cX6_closeOldSessions 19 = .ok (.aload_n 2, 1) := by decide +kernel
theorem dX6_closeOldSessions_20 : decode cX6_closeOldSessions 20 = .ok (.iload 4, 2) := by decide +kernel
theorem dX6_closeOldSessions_22 : decode cX6_closeOldSessions 22 = .ok (.iaload, 1) := by decide +kernel
theorem dX6_closeOldSessions_23 : decode cX6_closeOldSessions 23 = .ok (.iconst 3, 1) := by decide +kernel
theorem dX6_closeOldSessions_24 : decode cX6_closeOldSessions 24 = .ok (.if_icmp .ne 31, 3) := by decide +kernel
theorem dX6_closeOldSessions_27 : decode cX6_closeOldSessions 27 = .ok (.aload_n 1, 1) := by decide +kernel
theorem dX6_closeOldSessions_28 : decode cX6_closeOldSessions 28 = .ok (.getfield 114, 3) := by decide +kernel
theorem dX6_closeOldSessions_31 : decode cX6_closeOldSessions 31 = .ok (.invokevirtual 118, 3) := by decide +kernel
theorem dX6_closeOldSessions_34 : decode cX6_closeOldSessions 34 = .ok (.ifCond .ne 21, 3) := by decide +kernel
theorem dX6_closeOldSessions_37 : decode cX6_closeOldSessions 37 = .ok (.aload_n 0, 1) := by decide +kernel
theorem dX6_closeOldSessions_38 : decode cX6_closeOldSessions 38 = .ok (.aload_n 1, 1) := by decide +kernel
theorem dX6_closeOldSessions_39 : decode cX6_closeOldSessions 39 = .ok (.iconst 5, 1) := by decide +kernel
theorem dX6_closeOldSessions_40 : decode cX6_closeOldSessions 40 = .ok (.iconst 0, 1) := by decide +kernel
theorem dX6_closeOldSessions_41 : decode cX6_closeOldSessions 41 = .ok (.iconst 0, 1) := by decide +kernel
theorem dX6_closeOldSessions_42 : decode cX6_closeOldSessions 42 = .ok (.iload 4, 2) := by decide +kernel
theorem dX6_closeOldSessions_44 : decode cX6_closeOldSessions 44 = .ok (.invokevirtual 124, 3) := by decide +kernel
theorem dX6_closeOldSessions_47 : decode cX6_closeOldSessions 47 = .ok (.aload_n 2, 1) := by decide +kernel
theorem dX6_closeOldSessions_48 : decode cX6_closeOldSessions 48 = .ok (.iload 4, 2) := by decide +kernel
theorem dX6_closeOldSessions_50 : decode cX6_closeOldSessions 50 = .ok (.iconst 0, 1) := by decide +kernel
theorem dX6_closeOldSessions_51 : decode cX6_closeOldSessions 51 = .ok (.iastore, 1) := by decide +kernel
theorem dX6_closeOldSessions_52 : decode cX6_closeOldSessions 52 = .ok (.iinc 3 1, 3) := by decide +kernel
theorem dX6_closeOldSessions_55 : decode cX6_closeOldSessions 55 = .ok (.iinc 4 1, 3) := by decide +kernel
theorem dX6_closeOldSessions_58 : decode cX6_closeOldSessions 58 = .ok (.goto (-45), 3) := by decide +kernel
theorem dX6_closeOldSessions_61 : decode cX6_closeOldSessions 61 = .ok (.iload_n 3, 1) := by decide +kernel
theorem dX6_closeOldSessions_62 : decode cX6_closeOldSessions 62 = .ok (.ireturn, 1) := by decide +kernel
end
section
theorem dX7_init_0 : decode cX7_init 0 = .ok (.aload_n 0, 1) := by decide +kernel
theorem dX7_init_1 : decode cX7_init 1 = .ok (.invokespecial 1, 3) := by decide +kernel
theorem dX7_init_4 : decode cX7_init 4 = .ok (.aload_n 0, 1) := by decide +kernel
theorem dX7_init_5 : decode cX7_init 5 = .ok (.iconst 3, 1) := by decide +kernel
theorem dX7_init_6 : decode cX7_init 6 = .ok (.newarray .int, 2) := by decide +kernel
theorem dX7_init_8 : decode cX7_init 8 = .ok (.putfield 7, 3) := by decide +kernel
theorem dX7_init_11 : decode cX7_init 11 = .ok (.aload_n 0, 1) := by decide +kernel
theorem dX7_init_12 : decode cX7_init 12 = .ok (.iconst 3, 1) := by decide +kernel
theorem dX7_init_13 : decode cX7_init 13 = .ok (.newarray .int, 2) := by decide +kernel
theorem dX7_init_15 : decode cX7_init 15 = .ok (.putfield 13, 3) := by decide +kernel
theorem dX7_init_18 : decode cX7_init 18 = .ok (.aload_n 0, 1) := by decide +kernel
theorem dX7_init_19 : decode cX7_init 19 = .ok (.iconst 3, 1) := by decide +kernel
theorem dX7_init_20 : decode cX7_init 20 = .ok (.newarray .int, 2) := by decide +kernel
theorem dX7_init_22 : decode cX7_init 22 = .ok (.putfield 16, 3) := by decide +kernel
theorem dX7_init_25 : decode cX7_init 25 = .ok (.aload_n 0, 1) := by decide +kernel
theorem dX7_init_26 : decode cX7_init 26 = .ok (.iconst 3, 1) := by decide +kernel
theorem dX7_init_27 : decode cX7_init 27 = .ok (.newarray .int, 2) := by decide +kernel
theorem dX7_init_29 : decode cX7_init 29 = .ok (.putfield 19, 3) := by decide +kernel
theorem dX7_init_32 : decode cX7_init 32 = .ok (.aload_n 0, 1) := by decide +kernel
theorem dX7_init_33 : decode cX7_init 33 = .ok (.iconst 3, 1) := by decide +kernel
theorem dX7_init_34 : decode cX7_init 34 = .ok (.newarray .int, 2) := by decide +kernel
theorem dX7_init_36 : decode cX7_init 36 = .ok (.putfield 22, 3) := by decide +kernel
theorem dX7_init_39 : decode cX7_init 39 = .ok (.aload_n 0, 1) := by decide +kernel
theorem dX7_init_40 : decode cX7_init 40 = .ok (.bipush 72, 2) := by decide +kernel
theorem dX7_init_42 : decode cX7_init 42 = .ok (.newarray .int, 2) := by decide +kernel
theorem dX7_init_44 : decode cX7_init 44 = .ok (.putfield 25, 3) := by decide +kernel
theorem dX7_init_47 : decode cX7_init 47 = .ok (.aload_n 0, 1) := by decide +kernel
theorem dX7_init_48 : decode cX7_init 48 = .ok (.bipush 72, 2) := by decide +kernel
theorem dX7_init_50 : decode cX7_init 50 = .ok (.newarray .int, 2) := by decide +kernel
theorem dX7_init_52 : decode cX7_init 52 = .ok (.putfield 28, 3) := by decide +kernel
theorem dX7_init_55 : decode cX7_init 55 = .ok (.aload_n 0, 1) := by decide +kernel
theorem dX7_init_56 : decode cX7_init 56 = .ok (.bipush 72, 2) := by decide +kernel
theorem dX7_init_58 : decode cX7_init 58 = .ok (.newarray .int, 2) := by decide +kernel
theorem dX7_init_60 : decode cX7_init 60 = .ok (.putfield 31, 3) := by decide +kernel
theorem dX7_init_63 : decode cX7_init 63 = .ok (.aload_n 0, 1) := by decide +kernel
theorem dX7_init_64 : decode cX7_init 64 = .ok (.bipush 72, 2) := by decide +kernel
theorem dX7_init_66 : decode cX7_init 66 = .ok (.newarray .int, 2) := by decide +kernel
theorem dX7_init_68 : decode cX7_init 68 = .ok (.putfield 34, 3) := by decide +kernel
theorem dX7_init_71 : decode cX7_init 71 = .ok (.aload_n 0, 1) := by decide +kernel
theorem dX7_init_72 : decode cX7_init 72 = .ok (.bipush 72, 2) := by decide +kernel
theorem dX7_init_74 : decode cX7_init 74 = .ok (.newarray .int, 2) := by decide +kernel
theorem dX7_init_76 : decode cX7_init 76 = .ok (.putfield 37, 3) := by decide +kernel
theorem dX7_init_79 : decode cX7_init 79 = .ok (.aload_n 0, 1) := by decide +kernel
theorem dX7_init_80 : decode cX7_init 80 = .ok (.iconst 3, 1) := by decide +kernel
theorem dX7_init_81 : decode cX7_init 81 = .ok (.newarray .int, 2) := by decide +kernel
theorem dX7_init_83 : decode cX7_init 83 = .ok (.putfield 40, 3) := by decide +kernel
theorem dX7_init_86 : decode cX7_init 86 = .ok (.aload_n 0, 1) := by decide +kernel
theorem dX7_init_87 : decode cX7_init 87 = .ok (.iconst 3, 1) := by decide +kernel
theorem dX7_init_88 : decode cX7_init 88 = .ok (.newarray .boolean, 2) := by decide +kernel
theorem dX7_init_90 : decode cX7_init 90 = .ok (.putfield 43, 3) := by decide +kernel
theorem dX7_init_93 : decode cX7_init 93 = .ok (.aload_n 0, 1) := by decide +kernel
theorem dX7_init_94 : decode cX7_init 94 = .ok (.iconst 3, 1) := by decide +kernel
theorem dX7_init_95 : decode cX7_init 95 = .ok (.newarray .int, 2) := by decide +kernel
theorem dX7_init_97 : decode cX7_init 97 = .ok (.putfield 47, 3) := by decide +kernel
theorem dX7_init_100 : decode cX7_init 100 = .ok (.aload_n 0, 1) := by decide +kernel
theorem dX7_init_101 : decode cX7_init 101 = .ok (.bipush 15, 2) := by decide +kernel
theorem dX7_init_103 : decode cX7_init 103 = .ok (.newarray .int, 2) := by decide +kernel
theorem dX7_init_105 : decode cX7_init 105 = .ok (.putfield 50, 3) := by decide +kernel
theorem dX7_init_108 : decode cX7_init 108 = .ok (.aload_n 0, 1) := by decide +kernel
theorem dX7_init_109 : decode cX7_init 109 = .ok (.iconst 3, 1) := by decide +kernel
theorem dX7_init_110 : decode cX7_init 110 = .ok (.newarray .int, 2) := by decide +kernel
theorem dX7_init_112 : decode cX7_init 112 = .ok (.putfield 53, 3) := by decide +kernel
theorem dX7_init_115 : decode cX7_init 115 = .ok (.aload_n 0, 1) := by decide +kernel
theorem dX7_init_116 : decode cX7_init 116 = .ok (.iconst 3, 1) := by decide +kernel
theorem dX7_init_117 : decode cX7_init 117 = .ok (.newarray .boolean, 2) := by decide +kernel
theorem dX7_init_119 : decode cX7_init 119 = .ok (.putfield 56, 3) := by decide +kernel
theorem dX7_init_122 : decode cX7_init 122 = .ok (.aload_n 0, 1) := by decide +kernel
theorem dX7_init_123 : decode cX7_init 123 = .ok (.iconst 3, 1) := by decide +kernel
theorem dX7_init_124 : decode cX7_init 124 = .ok (.newarray .boolean, 2) := by decide +kernel
theorem dX7_init_126 : decode cX7_init 126 = .ok (.putfield 59, 3) := by decide +kernel
theorem dX7_init_129 : decode cX7_init 129 = .ok (.aload_n 0, 1) := by decide +kernel
theorem dX7_init_130 : decode cX7_init 130 = .ok (.iconst 3, 1) := by decide +kernel
theorem dX7_init_131 : decode cX7_init 131 = .ok (.newarray .boolean, 2) := by decide +kernel
theorem dX7_init_133 : decode cX7_init 133 = .ok (.putfield 62, 3) := by decide +kernel
theorem dX7_init_136 : decode cX7_init 136 = .ok (.aload_n 0, 1) := by decide +kernel
theorem dX7_init_137 : decode cX7_init 137 = .ok (.sipush 192, 3) := by decide +kernel
theorem dX7_init_140 : decode cX7_init 140 = .ok (.newarray .int, 2) := by decide +kernel
theorem dX7_init_142 : decode cX7_init 142 = .ok (.putfield 65, 3) := by decide +kernel
theorem dX7_init_145 : decode cX7_init 145 = .ok (.aload_n 0, 1) := by decide +kernel
theorem dX7_init_146 : decode cX7_init 146 = .ok (.sipush 192, 3) := by decide +kernel
theorem dX7_init_149 : decode cX7_init 149 = .ok (.newarray .int, 2) := by decide +kernel
theorem dX7_init_151 : decode cX7_init 151 = .ok (.putfield 68, 3) := by decide +kernel
theorem dX7_init_154 : decode cX7_init 154 = .ok (.aload_n 0, 1) := by decide +kernel
theorem dX7_init_155 : decode cX7_init 155 = .ok (.iconst 3, 1) := by decide +kernel
theorem dX7_init_156 : decode cX7_init 156 = .ok (.newarray .int, 2) := by decide +kernel
theorem dX7_init_158 : decode cX7_init 158 = .ok (.putfield 71, 3) := by decide +kernel
theorem dX7_init_161 : decode cX7_init 161 = .ok (.aload_n 0, 1) := by decide +kernel
theorem dX7_init_162 : decode cX7_init 162 = .ok (.iconst 3, 1) := by decide +kernel
theorem dX7_init_163 : decode cX7_init 163 = .ok (.newarray .int, 2) := by decide +kernel
theorem dX7_init_165 : decode cX7_init 165 = .ok (.putfield 74, 3) := by decide +kernel
theorem dX7_init_168 : decode cX7_init 168 = .ok (.aload_n 0, 1) := by decide +kernel
theorem dX7_init_169 : decode cX7_init 169 = .ok (.sipush 192, 3) := by decide +kernel
theorem dX7_init_172 : decode cX7_init 172 = .ok (.newarray .int, 2) := by decide +kernel
theorem dX7_init_174 : decode cX7_init 174 = .ok (.putfield 77, 3) := by decide +kernel
theorem dX7_init_177 : decode cX7_init 177 = .ok (.aload_n 0, 1) := by decide +kernel
theorem dX7_init_178 : decode cX7_init 178 = .ok (.sipush 192, 3) := by decide +kernel
theorem dX7_init_181 : decode cX7_init 181 = .ok (.newarray .int, 2) := by decide +kernel
theorem dX7_init_183 : decode cX7_init 183 = .ok (.putfield 80, 3) := by decide +kernel
theorem dX7_init_186 : decode cX7_init 186 = .ok (.aload_n 0, 1) := by decide +kernel
theorem dX7_init_187 : decode cX7_init 187 = .ok (.iconst 3, 1) := by decide +kernel
theorem dX7_init_188 : decode cX7_init 188 = .ok (.newarray .int, 2) := by decide +kernel
theorem dX7_init_190 : decode cX7_init 190 = .ok (.putfield 83, 3) := by decide +kernel
theorem dX7_init_193 : decode cX7_init 193 = .ok (.aload_n 0, 1) := by decide +kernel
theorem dX7_init_194 : decode cX7_init 194 = .ok (.iconst 3, 1) := by decide +kernel
theorem dX7_init_195 : decode cX7_init 195 = .ok (.newarray .int, 2) := by decide +kernel
theorem dX7_init_197 : decode cX7_init 197 = .ok (.putfield 86, 3) := by decide +kernel
theorem dX7_init_200 : decode cX7_init 200 = .ok (.aload_n 0, 1) := by decide +kernel
theorem dX7_init_201 : decode cX7_init 201 = .ok (.bipush 24, 2) := by decide +kernel
theorem dX7_init_203 : decode cX7_init 203 = .ok (.newarray .int, 2) := by decide +kernel
theorem dX7_init_205 : decode cX7_init 205 = .ok (.putfield 89, 3) := by decide +kernel
theorem dX7_init_208 : decode cX7_init 208 = .ok (.aload_n 0, 1) := by decide +kernel
theorem dX7_init_209 : decode cX7_init 209 = .ok (.bipush 24, 2) := by decide +kernel
theorem dX7_init_211 : decode cX7_init 211 = .ok (.newarray .int, 2) := by decide +kernel
theorem dX7_init_213 : decode cX7_init 213 = .ok (.putfield 92, 3) := by decide +kernel
theorem dX7_init_216 : decode cX7_init 216 = .ok (.aload_n 0, 1) := by decide +kernel
theorem dX7_init_217 : decode cX7_init 217 = .ok (.bipush 24, 2) := by decide +kernel
theorem dX7_init_219 : decode cX7_init 219 = .ok (.newarray .int, 2) := by decide +kernel
theorem dX7_init_221 : decode cX7_init 221 = .ok (.putfield 95, 3) := by decide +kernel
theorem dX7_init_224 : decode cX7_init 224 = .ok (.aload_n 0, 1) := by decide +kernel
theorem dX7_init_225 : decode cX7_init 225 = .ok (.bipush 24, 2) := by decide +kernel
theorem dX7_init_227 : decode cX7_init 227 = .ok (.newarray .int, 2) := by decide +kernel
theorem dX7_init_229 : decode cX7_init 229 = .ok (.putfield 98, 3) := by decide +kernel
theorem dX7_init_232 : decode cX7_init 232 = .ok (.aload_n 0, 1) := by decide +kernel
theorem dX7_init_233 : decode cX7_init 233 = .ok (.iconst 5, 1) := by decide +kernel
theorem dX7_init_234 : decode cX7_init 234 = .ok (.newarray .boolean, 2) := by decide +kernel
theorem dX7_init_236 : decode cX7_init 236 = .ok (.putfield 101, 3) := by decide +kernel
theorem dX7_init_239 : decode cX7_init 239 = .ok (.aload_n 0, 1) := by decide +kernel
theorem dX7_init_240 : decode cX7_init 240 = .ok (.bipush 24, 2) := by decide +kernel
theorem dX7_init_242 : decode cX7_init 242 = .ok (.newarray .int, 2) := by decide +kernel
theorem dX7_init_244 : decode cX7_init 244 = .ok (.putfield 104, 3) := by decide +kernel
theorem dX7_init_247 : decode cX7_init 247 = .ok (.iconst 0, 1) := by decide +kernel
theorem dX7_init_248 : decode cX7_init 248 = .ok (.istore_n 1, 1) := by decide +kernel
theorem dX7_init_249 : decode cX7_init 249 = .ok (.iload_n 1, 1) := by decide +kernel
theorem dX7_init_250 : decode cX7_init 250 = .ok (.iconst 3, 1) := by decide +kernel
theorem dX7_init_251 : decode cX7_init 251 = .ok (.if_icmp .ge 16, 3) := by decide +kernel
theorem dX7_init_254 : decode cX7_init 254 = .ok (.aload_n 0, 1) := by decide +kernel
theorem dX7_init_255 : decode cX7_init 255 = .ok (.getfield 7, 3) := by decide +kernel
theorem dX7_init_258 : decode cX7_init 258 = .ok (.iload_n 1, 1) := by decide +kernel
theorem dX7_init_259 : decode cX7_init 259 = .ok (.iconst 1, 1) := by decide +kernel
theorem dX7_init_260 : decode cX7_init 260 = .ok (.iastore, 1) := by decide +kernel
theorem dX7_init_261 : decode cX7_init 261 = .ok (.iinc 1 1, 3) := by decide +kernel
theorem dX7_init_264 : decode cX7_init 264 = .ok (.goto (-15), 3) := by decide +kernel
theorem dX7_init_267 : decode cX7_init 267 = .ok (.return_, 1) := by decide +kernel
theorem dX7_out_0 : decode cX7_out 0 = .ok (.iload_n 0, 1) := by decide +kernel
theorem dX7_out_1 : decode cX7_out 1 = .ok (.ifCond .lt 8, 3) := by decide +kernel
theorem dX7_out_4 : decode cX7_out 4 = .ok (.iload_n 0, 1) := by decide +kernel
theorem dX7_out_5 : decode cX7_out 5 = .ok (.iconst 2, 1) := by decide +kernel
theorem dX7_out_6 : decode cX7_out 6 = .ok (.if_icmp .le 7, 3) := by decide +kernel
theorem dX7_out_9 : decode cX7_out 9 = .ok (.iconst 1, 1) := by decide +kernel
theorem dX7_out_10 : decode cX7_out 10 = .ok (.goto 4, 3) := by decide +kernel
theorem dX7_out_13 : decode cX7_out 13 = .ok (.iconst 0, 1) := by decide +kernel
theorem dX7_out_14 : decode cX7_out 14 = .ok (.ireturn, 1) := by decide +kernel
theorem dX7_find_0 : decode cX7_find 0 = .ok (.iconst 0, 1) := by decide +kernel
theorem dX7_find_1 : decode cX7_find 1 = .ok (.istore_n 2, 1) := by decide +kernel
theorem dX7_find_2 : decode cX7_find 2 = .ok (.iload_n 2, 1) := by decide +kernel
theorem dX7_find_3 : decode cX7_find 3 = .ok (.aload_n 0, 1) := by decide +kernel
theorem dX7_find_4 : decode cX7_find 4 = .ok (.getfield 107, 3) := by decide +kernel
theorem dX7_find_7 : decode cX7_find 7 = .ok (.if_icmp .ge 21, 3) := by decide +kernel
theorem dX7_find_10 : decode cX7_find 10 = .ok (.aload_n 0, 1) := by decide +kernel
theorem dX7_find_11 : decode cX7_find 11 = .ok (.getfield 89, 3) := by decide +kernel
theorem dX7_find_14 : decode cX7_find 14 = .ok (.iload_n 2, 1) := by decide +kernel
theorem dX7_find_15 : decode cX7_find 15 = .ok (.iaload, 1) := by decide +kernel
theorem dX7_find_16 : decode cX7_find 16 = .ok (.iload_n 1, 1) := by decide +kernel
theorem dX7_find_17 : decode cX7_find 17 = .ok (.if_icmp .ne 5, 3) := by decide +kernel
theorem dX7_find_20 : decode cX7_find 20 = .ok (.iload_n 2, 1) := by decide +kernel
theorem dX7_find_21 : decode cX7_find 21 = .ok (.ireturn, 1) := by decide +kernel
theorem dX7_find_22 : decode cX7_find 22 = .ok (.iinc 2 1, 3) := by decide +kernel
theorem dX7_find_25 : decode cX7_find 25 = .ok (.goto (-23), 3) := by decide +kernel
theorem dX7_find_28 : decode cX7_find 28 = .ok (.iconst (-1), 1) := by decide +kernel
theorem dX7_find_29 : decode cX7_find 29 = .ok (.ireturn, 1) := by decide +kernel
theorem dX7_children_0 : decode cX7_children 0 = .ok (.iconst 0, 1) := by decide +kernel
theorem dX7_children_1 : decode cX7_children 1 = .ok (.istore_n 2, 1) := by decide +kernel
theorem dX7_children_2 : decode cX7_children 2 = .ok (.iconst 0, 1) := by decide +kernel
theorem dX7_children_3 : decode cX7_children 3 = .ok (.istore_n 3, 1) := by decide +kernel
theorem dX7_children_4 : decode cX7_children 4 = .ok (.iload_n 3, 1) := by decide +kernel
theorem dX7_children_5 : decode cX7_children 5 = .ok (.aload_n 0, 1) := by decide +kernel
theorem dX7_children_6 : decode cX7_children 6 = .ok (.getfield 107, 3) := by decide +kernel
theorem dX7_children_9 : decode cX7_children 9 = .ok (.if_icmp .ge 39, 3) := by decide +kernel
theorem dX7_children_12 : decode cX7_children 12 = .ok (.aload_n 0, 1) := by decide +kernel
theorem dX7_children_13 : decode cX7_children 13 = .ok (.getfield 89, 3) := by decide +kernel
theorem dX7_children_16 : decode cX7_children 16 = .ok (.iload_n 3, 1) := by decide +kernel
theorem dX7_children_17 : decode cX7_children 17 = .ok (.iaload, 1) := by decide +kernel
theorem dX7_children_18 : decode cX7_children 18 = .ok (.ifCond .le 22, 3) := by decide +kernel
theorem dX7_children_21 : decode cX7_children 21 = .ok (.aload_n 0, 1) := by decide +kernel
theorem dX7_children_22 : decode cX7_children 22 = .ok (.getfield 89, 3) := by decide +kernel
theorem dX7_children_25 : decode cX7_children 25 = .ok (.iload_n 3, 1) := by decide +kernel
theorem dX7_children_26 : decode cX7_children 26 = .ok (.iaload, 1) := by decide +kernel
theorem dX7_children_27 : decode cX7_children 27 = .ok (.bipush 8, 2) := by decide +kernel
theorem dX7_children_29 : decode cX7_children 29 = .ok (.idiv, 1) := by decide +kernel
theorem dX7_children_30 : decode cX7_children 30 = .ok (.iload_n 1, 1) := by decide +kernel
theorem dX7_children_31 : decode cX7_children 31 = .ok (.if_icmp .ne 9, 3) := by decide +kernel
theorem dX7_children_34 : decode cX7_children 34 = .ok (.iload_n 2, 1) := by decide +kernel
theorem dX7_children_35 : decode cX7_children 35 = .ok (.iconst 1, 1) := by decide +kernel
theorem dX7_children_36 : decode cX7_children 36 = .ok (.iadd, 1) := by decide +kernel
theorem dX7_children_37 : decode cX7_children 37 = .ok (.goto 4, 3) := by decide +kernel
theorem dX7_children_40 : decode cX7_children 40 = .ok (.iload_n 2, 1) := by decide +kernel
theorem dX7_children_41 : decode cX7_children 41 = .ok (.istore_n 2, 1) := by decide +kernel
theorem dX7_children_42 : decode cX7_children 42 = .ok (.iinc 3 1, 3) := by decide +kernel
theorem dX7_children_45 : decode cX7_children 45 = .ok (.goto (-41), 3) := by decide +kernel
theorem dX7_children_48 : decode cX7_children 48 = .ok (.iload_n 2, 1) := by decide +kernel
theorem dX7_children_49 : decode cX7_children 49 = .ok (.ireturn, 1) := by decide +kernel
theorem dX7_create_0 : decode cX7_create 0 = .ok (.iload_n 3, 1) := by decide +kernel
theorem dX7_create_1 : decode cX7_create 1 = .ok (.ifCond .eq 15, 3) := by decide +kernel
theorem dX7_create_4 : decode cX7_create 4 = .ok (.aload_n 0, 1) := by decide +kernel
theorem dX7_create_5 : decode cX7_create 5 = .ok (.getfield 101, 3) := by decide +kernel
theorem dX7_create_8 : decode cX7_create 8 = .ok (.iload_n 3, 1) := by decide +kernel
theorem dX7_create_9 : decode cX7_create 9 = .ok (.baload, 1) := by decide +kernel
theorem dX7_create_10 : decode cX7_create 10 = .ok (.ifCond .ne 6, 3) := by decide +kernel
theorem dX7_create_13 : decode cX7_create 13 = .ok (.bipush 6, 2) := by decide +kernel
theorem dX7_create_15 : decode cX7_create 15 = .ok (.ireturn, 1) := by decide +kernel
theorem dX7_create_16 : decode cX7_create 16 = .ok (.aload_n 0, 1) := by decide +kernel
theorem dX7_create_17 : decode cX7_create 17 = .ok (.iload_n 1, 1) := by decide +kernel
theorem dX7_create_18 : decode cX7_create 18 = .ok (.invokevirtual 111, 3) := by decide +kernel
theorem dX7_create_21 : decode cX7_create 21 = .ok (.ifCond .lt 5, 3) := by decide +kernel
theorem dX7_create_24 : decode cX7_create 24 = .ok (.iconst 2, 1) := by decide +kernel
theorem dX7_create_25 : decode cX7_create 25 = .ok (.ireturn, 1) := by decide +kernel
theorem dX7_create_26 : decode cX7_create 26 = .ok (.aload_n 0, 1) := by decide +kernel
theorem dX7_create_27 : decode cX7_create 27 = .ok (.iload_n 1, 1) := by decide +kernel
theorem dX7_create_28 : decode cX7_create 28 = .ok (.bipush 8, 2) := by decide +kernel
theorem dX7_create_30 : decode cX7_create 30 = .ok (.idiv, 1) := by decide +kernel
theorem dX7_create_31 : decode cX7_create 31 = .ok (.invokevirtual 111, 3) := by decide +kernel
theorem dX7_create_34 : decode cX7_create 34 = .ok (.istore 4, 2) := by decide +kernel
theorem dX7_create_36 : decode cX7_create 36 = .ok (.iload_n 1, 1) := by decide +kernel
theorem dX7_create_37 : decode cX7_create 37 = .ok (.bipush 8, 2) := by decide +kernel
theorem dX7_create_39 : decode cX7_create 39 = .ok (.idiv, 1) := by decide +kernel
theorem dX7_create_40 : decode cX7_create 40 = .ok (.ifCond .le 10, 3) := by decide +kernel
theorem dX7_create_43 : decode cX7_create 43 = .ok (.iload 4, 2) := by decide +kernel
theorem dX7_create_45 : decode cX7_create 45 = .ok (.ifCond .ge 5, 3) := by decide +kernel
theorem dX7_create_48 : decode cX7_create 48 = .ok (.iconst 1, 1) := by decide +kernel
theorem dX7_create_49 : decode cX7_create 49 = .ok (.ireturn, 1) := by decide +kernel
theorem dX7_create_50 : decode cX7_create 50 = .ok (.iload_n 1, 1) := by decide +kernel
theorem dX7_create_51 : decode cX7_create 51 = .ok (.bipush 8, 2) := by decide +kernel
theorem dX7_create_53 : decode cX7_create 53 = .ok (.idiv, 1) := by decide +kernel
theorem dX7_create_54 : decode cX7_create 54 = .ok (.ifCond .le 15, 3) := by decide +kernel
theorem dX7_create_57 : decode cX7_create 57 = .ok (.aload_n 0, 1) := by decide +kernel
theorem dX7_create_58 : decode cX7_create 58 = .ok (.getfield 98, 3) := by decide +kernel
theorem dX7_create_61 : decode cX7_create 61 = .ok (.iload 4, 2) := by decide +kernel
theorem dX7_create_63 : decode cX7_create 63 = .ok (.iaload, 1) := by decide +kernel
theorem dX7_create_64 : decode cX7_create 64 = .ok (.ifCond .eq 5, 3) := by decide +kernel
theorem dX7_create_67 : decode cX7_create 67 = .ok (.iconst 3, 1) := by decide +kernel
theorem dX7_create_68 : decode cX7_create 68 = .ok (.ireturn, 1) := by decide +kernel
theorem dX7_create_69 : decode cX7_create 69 = .ok (.aload_n 0, 1) := by decide +kernel
theorem dX7_create_70 : decode cX7_create 70 = .ok (.getfield 89, 3) := by decide +kernel
theorem dX7_create_73 : decode cX7_create 73 = .ok (.aload_n 0, 1) := by decide +kernel
theorem dX7_create_74 : decode cX7_create 74 = .ok (.getfield 107, 3) := by decide +kernel
theorem dX7_create_77 : decode cX7_create 77 = .ok (.iload_n 1, 1) := by decide +kernel
theorem dX7_create_78 : decode cX7_create 78 = .ok (.iastore, 1) := by decide +kernel
theorem dX7_create_79 : decode cX7_create 79 = .ok (.aload_n 0, 1) := by decide +kernel
theorem dX7_create_80 : decode cX7_create 80 = .ok (.getfield 92, 3) := by decide +kernel
theorem dX7_create_83 : decode cX7_create 83 = .ok (.aload_n 0, 1) := by decide +kernel
theorem dX7_create_84 : decode cX7_create 84 = .ok (.getfield 107, 3) := by decide +kernel
theorem dX7_create_87 : decode cX7_create 87 = .ok (.iload_n 2, 1) := by decide +kernel
theorem dX7_create_88 : decode cX7_create 88 = .ok (.iastore, 1) := by decide +kernel
theorem dX7_create_89 : decode cX7_create 89 = .ok (.aload_n 0, 1) := by decide +kernel
theorem dX7_create_90 : decode cX7_create 90 = .ok (.getfield 95, 3) := by decide +kernel
theorem dX7_create_93 : decode cX7_create 93 = .ok (.aload_n 0, 1) := by decide +kernel
theorem dX7_create_94 : decode cX7_create 94 = .ok (.getfield 107, 3) := by decide +kernel
theorem dX7_create_97 : decode cX7_create 97 = .ok (.iconst 0, 1) := by decide +kernel
theorem dX7_create_98 : decode cX7_create 98 = .ok (.iastore, 1) := by decide +kernel
theorem dX7_create_99 : decode cX7_create 99 = .ok (.aload_n 0, 1) := by decide +kernel
theorem dX7_create_100 : decode cX7_create 100 = .ok (.getfield 98, 3) := by decide +kernel
theorem dX7_create_103 : decode cX7_create 103 = .ok (.aload_n 0, 1) := by decide +kernel
theorem dX7_create_104 : decode cX7_create 104 = .ok (.getfield 107, 3) := by decide +kernel
theorem dX7_create_107 : decode cX7_create 107 = .ok (.iload_n 3, 1) := by decide +kernel
theorem dX7_create_108 : decode cX7_create 108 = .ok (.iastore, 1) := by decide +kernel
theorem dX7_create_109 : decode cX7_create 109 = .ok (.aload_n 0, 1) := by decide +kernel
theorem dX7_create_110 : decode cX7_create 110 = .ok (.dup, 1) := by decide +kernel
theorem dX7_create_111 : decode cX7_create 111 = .ok (.getfield 107, 3) := by decide +kernel
theorem dX7_create_114 : decode cX7_create 114 = .ok (.iconst 1, 1) := by decide +kernel
theorem dX7_create_115 : decode cX7_create 115 = .ok (.iadd, 1) := by decide +kernel
theorem dX7_create_116 : decode cX7_create 116 = .ok (.putfield 107, 3) := by decide +kernel
theorem dX7_create_119 : decode cX7_create 119 = .ok (.iconst 0, 1) := by decide +kernel
theorem dX7_create_120 : decode cX7_create 120 = .ok (.ireturn, 1) := by decide +kernel
theorem dX7_alter_0 : decode cX7_alter 0 = .ok (.aload_n 0, 1) := by decide +kernel
theorem dX7_alter_1 : decode cX7_alter 1 = .ok (.iload_n 2, 1) := by decide +kernel
theorem dX7_alter_2 : decode cX7_alter 2 = .ok (.invokevirtual 111, 3) := by decide +kernel
theorem dX7_alter_5 : decode cX7_alter 5 = .ok (.istore 5, 2) := by decide +kernel
theorem dX7_alter_7 : decode cX7_alter 7 = .ok (.iload 5, 2) := by decide +kernel
theorem dX7_alter_9 : decode cX7_alter 9 = .ok (.ifCond .ge 5, 3) := by decide +kernel
theorem dX7_alter_12 : decode cX7_alter 12 = .ok (.iconst 1, 1) := by decide +kernel
theorem dX7_alter_13 : decode cX7_alter 13 = .ok (.ireturn, 1) := by decide +kernel
theorem dX7_alter_14 : decode cX7_alter 14 = .ok (.iload 4, 2) := by decide +kernel
theorem dX7_alter_16 : decode cX7_alter 16 = .ok (.iconst (-1), 1) := by decide +kernel
theorem dX7_alter_17 : decode cX7_alter 17 = .ok (.if_icmp .eq 17, 3) := by decide +kernel
theorem dX7_alter_20 : decode cX7_alter 20 = .ok (.iload 4, 2) := by decide +kernel
theorem dX7_alter_22 : decode cX7_alter 22 = .ok (.aload_n 0, 1) := by decide +kernel
theorem dX7_alter_23 : decode cX7_alter 23 = .ok (.getfield 95, 3) := by decide +kernel
theorem dX7_alter_26 : decode cX7_alter 26 = .ok (.iload 5, 2) := by decide +kernel
theorem dX7_alter_28 : decode cX7_alter 28 = .ok (.iaload, 1) := by decide +kernel
theorem dX7_alter_29 : decode cX7_alter 29 = .ok (.if_icmp .eq 5, 3) := by decide +kernel
theorem dX7_alter_32 : decode cX7_alter 32 = .ok (.iconst 5, 1) := by decide +kernel
theorem dX7_alter_33 : decode cX7_alter 33 = .ok (.ireturn, 1) := by decide +kernel
theorem dX7_alter_34 : decode cX7_alter 34 = .ok (.iload_n 1, 1) := by decide +kernel
theorem dX7_alter_35 : decode cX7_alter 35 = .ok (.ifCond .ne 13, 3) := by decide +kernel
theorem dX7_alter_38 : decode cX7_alter 38 = .ok (.aload_n 0, 1) := by decide +kernel
theorem dX7_alter_39 : decode cX7_alter 39 = .ok (.iload_n 2, 1) := by decide +kernel
theorem dX7_alter_40 : decode cX7_alter 40 = .ok (.invokevirtual 115, 3) := by decide +kernel
theorem dX7_alter_43 : decode cX7_alter 43 = .ok (.ifCond .le 5, 3) := by decide +kernel
theorem dX7_alter_46 : decode cX7_alter 46 = .ok (.iconst 4, 1) := by decide +kernel
theorem dX7_alter_47 : decode cX7_alter 47 = .ok (.ireturn, 1) := by decide +kernel
theorem dX7_alter_48 : decode cX7_alter 48 = .ok (.iload_n 1, 1) := by decide +kernel
theorem dX7_alter_49 : decode cX7_alter 49 = .ok (.ifCond .eq 25, 3) := by decide +kernel
theorem dX7_alter_52 : decode cX7_alter 52 = .ok (.aload_n 0, 1) := by decide +kernel
theorem dX7_alter_53 : decode cX7_alter 53 = .ok (.getfield 92, 3) := by decide +kernel
theorem dX7_alter_56 : decode cX7_alter 56 = .ok (.iload 5, 2) := by decide +kernel
theorem dX7_alter_58 : decode cX7_alter 58 = .ok (.iload_n 3, 1) := by decide +kernel
theorem dX7_alter_59 : decode cX7_alter 59 = .ok (.iastore, 1) := by decide +kernel
theorem dX7_alter_60 : decode cX7_alter 60 = .ok (.aload_n 0, 1) := by decide +kernel
theorem dX7_alter_61 : decode cX7_alter 61 = .ok (.getfield 95, 3) := by decide +kernel
theorem dX7_alter_64 : decode cX7_alter 64 = .ok (.iload 5, 2) := by decide +kernel
theorem dX7_alter_66 : decode cX7_alter 66 = .ok (.dup2, 1) := by decide +kernel
theorem dX7_alter_67 : decode cX7_alter 67 = .ok (.iaload, 1) := by decide +kernel
theorem dX7_alter_68 : decode cX7_alter 68 = .ok (.iconst 1, 1) := by decide +kernel
theorem dX7_alter_69 : decode cX7_alter 69 = .ok (.iadd, 1) := by decide +kernel
theorem dX7_alter_70 : decode cX7_alter 70 = .ok (.iastore, 1) := by decide +kernel
theorem dX7_alter_71 : decode cX7_alter 71 = .ok (.goto 11, 3) := by decide +kernel
theorem dX7_alter_74 : decode cX7_alter 74 = .ok (.aload_n 0, 1) := by decide +kernel
theorem dX7_alter_75 : decode cX7_alter 75 = .ok (.getfield 89, 3) := by decide +kernel
theorem dX7_alter_78 : decode cX7_alter 78 = .ok (.iload 5, 2) := by decide +kernel
theorem dX7_alter_80 : decode cX7_alter 80 = .ok (.iconst (-1), 1) := by decide +kernel
theorem dX7_alter_81 : decode cX7_alter 81 = .ok (.iastore, 1) := by decide +kernel
theorem dX7_alter_82 : decode cX7_alter 82 = .ok (.iconst 0, 1) := by decide +kernel
theorem dX7_alter_83 : decode cX7_alter 83 = .ok (.ireturn, 1) := by decide +kernel
theorem dX7_session_0 : decode cX7_session 0 = .ok (.aload_n 0, 1) := by decide +kernel
theorem dX7_session_1 : decode cX7_session 1 = .ok (.getfield 101, 3) := by decide +kernel
theorem dX7_session_4 : decode cX7_session 4 = .ok (.iload_n 2, 1) := by decide +kernel
theorem dX7_session_5 : decode cX7_session 5 = .ok (.baload, 1) := by decide +kernel
theorem dX7_session_6 : decode cX7_session 6 = .ok (.iload_n 1, 1) := by decide +kernel
theorem dX7_session_7 : decode cX7_session 7 = .ok (.if_icmp .ne 14, 3) := by decide +kernel
theorem dX7_session_10 : decode cX7_session 10 = .ok (.iload_n 1, 1) := by decide +kernel
theorem dX7_session_11 : decode cX7_session 11 = .ok (.ifCond .eq 7, 3) := by decide +kernel
theorem dX7_session_14 : decode cX7_session 14 = .ok (.iconst 2, 1) := by decide +kernel
theorem dX7_session_15 : decode cX7_session 15 = .ok (.goto 5, 3) := by decide +kernel
theorem dX7_session_18 : decode cX7_session 18 = .ok (.bipush 6, 2) := by decide +kernel
theorem dX7_session_20 : decode cX7_session 20 = .ok (.ireturn, 1) := by decide +kernel
theorem dX7_session_21 : decode cX7_session 21 = .ok (.aload_n 0, 1) := by decide +kernel
theorem dX7_session_22 : decode cX7_session 22 = .ok (.getfield 101, 3) := by decide +kernel
theorem dX7_session_25 : decode cX7_session 25 = .ok (.iload_n 2, 1) := by decide +kernel
theorem dX7_session_26 : decode cX7_session 26 = .ok (.iload_n 1, 1) := by decide +kernel
theorem dX7_session_27 : decode cX7_session 27 = .ok (.bastore, 1) := by decide +kernel
theorem dX7_session_28 : decode cX7_session 28 = .ok (.iconst 0, 1) := by decide +kernel
theorem dX7_session_29 : decode cX7_session 29 = .ok (.istore_n 3, 1) := by decide +kernel
theorem dX7_session_30 : decode cX7_session 30 = .ok (.iload_n 3, 1) := by decide +kernel
theorem dX7_session_31 : decode cX7_session 31 = .ok (.aload_n 0, 1) := by decide +kernel
theorem dX7_session_32 : decode cX7_session 32 = .ok (.getfield 107, 3) := by decide +kernel
theorem dX7_session_35 : decode cX7_session 35 = .ok (.if_icmp .ge 30, 3) := by decide +kernel
theorem dX7_session_38 : decode cX7_session 38 = .ok (.iload_n 1, 1) := by decide +kernel
theorem dX7_session_39 : decode cX7_session 39 = .ok (.ifCond .ne 20, 3) := by decide +kernel
theorem dX7_session_42 : decode cX7_session 42 = .ok (.aload_n 0, 1) := by decide +kernel
theorem dX7_session_43 : decode cX7_session 43 = .ok (.getfield 98, 3) := by decide +kernel
theorem dX7_session_46 : decode cX7_session 46 = .ok (.iload_n 3, 1) := by decide +kernel
theorem dX7_session_47 : decode cX7_session 47 = .ok (.iaload, 1) := by decide +kernel
theorem dX7_session_48 : decode cX7_session 48 = .ok (.iload_n 2, 1) := by decide +kernel
theorem dX7_session_49 : decode cX7_session 49 = .ok (.if_icmp .ne 10, 3) := by decide +kernel
theorem dX7_session_52 : decode cX7_session 52 = .ok (.aload_n 0, 1) := by decide +kernel
theorem dX7_session_53 : decode cX7_session 53 = .ok (.getfield 89, 3) := by decide +kernel
theorem dX7_session_56 : decode cX7_session 56 = .ok (.iload_n 3, 1) := by decide +kernel
theorem dX7_session_57 : decode cX7_session 57 = .ok (.iconst (-1), 1) := by decide +kernel
theorem dX7_session_58 : decode cX7_session 58 = .ok (.iastore, 1) := by decide +kernel
theorem dX7_session_59 : decode cX7_session 59 = .ok (.iinc 3 1, 3) := by decide +kernel
theorem dX7_session_62 : decode cX7_session 62 = .ok (.goto (-32), 3) := by decide +kernel
theorem dX7_session_65 : decode cX7_session 65 = .ok (.iconst 0, 1) := by decide +kernel
theorem dX7_session_66 : decode cX7_session 66 = .ok (.ireturn, 1) := by decide +kernel
theorem dX7_work_0 : decode cX7_work 0 = .ok (.aload_n 0, 1) := by decide +kernel
theorem dX7_work_1 : decode cX7_work 1 = .ok (.iconst 0, 1) := by decide +kernel
theorem dX7_work_2 : decode cX7_work 2 = .ok (.putfield 107, 3) := by decide +kernel
theorem dX7_work_5 : decode cX7_work 5 = .ok (.iconst 0, 1) := by decide +kernel
theorem dX7_work_6 : decode cX7_work 6 = .ok (.istore_n 2, 1) := by decide +kernel
theorem dX7_work_7 : decode cX7_work 7 = .ok (.iload_n 2, 1) := by decide +kernel
theorem dX7_work_8 : decode cX7_work 8 = .ok (.iconst 5, 1) := by decide +kernel
theorem dX7_work_9 : decode cX7_work 9 = .ok (.if_icmp .ge 16, 3) := by decide +kernel
theorem dX7_work_12 : decode cX7_work 12 = .ok (.aload_n 0, 1) := by decide +kernel
theorem dX7_work_13 : decode cX7_work 13 = .ok (.getfield 101, 3) := by decide +kernel
theorem dX7_work_16 : decode cX7_work 16 = .ok (.iload_n 2, 1) := by decide +kernel
theorem dX7_work_17 : decode cX7_work 17 = .ok (.iconst 0, 1) := by decide +kernel
theorem dX7_work_18 : decode cX7_work 18 = .ok (.bastore, 1) := by decide +kernel
theorem dX7_work_19 : decode cX7_work 19 = .ok (.iinc 2 1, 3) := by decide +kernel
theorem dX7_work_22 : decode cX7_work 22 = .ok (.goto (-15), 3) := by decide +kernel
theorem dX7_work_25 : decode cX7_work 25 = .ok (.iconst 0, 1) := by decide +kernel
theorem dX7_work_26 : decode cX7_work 26 = .ok (.istore_n 2, 1) := by decide +kernel
theorem dX7_work_27 : decode cX7_work 27 = .ok (.iload_n 2, 1) := by decide +kernel
theorem dX7_work_28 : decode cX7_work 28 = .ok (.aload_n 0, 1) := by decide +kernel
theorem dX7_work_29 : decode cX7_work 29 = .ok (.getfield 19, 3) := by decide +kernel
theorem dX7_work_32 : decode cX7_work 32 = .ok (.iload_n 1, 1) := by decide +kernel
theorem dX7_work_33 : decode cX7_work 33 = .ok (.iaload, 1) := by decide +kernel
theorem dX7_work_34 : decode cX7_work 34 = .ok (.if_icmp .ge 140, 3) := by decide +kernel
theorem dX7_work_37 : decode cX7_work 37 = .ok (.bipush 24, 2) := by decide +kernel
theorem dX7_work_39 : decode cX7_work 39 = .ok (.iload_n 1, 1) := by decide +kernel
theorem dX7_work_40 : decode cX7_work 40 = .ok (.imul, 1) := by decide +kernel
theorem dX7_work_41 : decode cX7_work 41 = .ok (.iload_n 2, 1) := by decide +kernel
theorem dX7_work_42 : decode cX7_work 42 = .ok (.iadd, 1) := by decide +kernel
theorem dX7_work_43 : decode cX7_work 43 = .ok (.istore_n 3, 1) := by decide +kernel
theorem dX7_work_44 : decode cX7_work 44 = .ok (.aload_n 0, 1) := by decide +kernel
theorem dX7_work_45 : decode cX7_work 45 = .ok (.getfield 34, 3) := by decide +kernel
theorem dX7_work_48 : decode cX7_work 48 = .ok (.iload_n 3, 1) := by decide +kernel
theorem dX7_work_49 : decode cX7_work 49 = .ok (.iaload, 1) := by decide +kernel
theorem dX7_work_50 : decode cX7_work 50 = .ok (.istore 4, 2) := by decide +kernel
theorem dX7_work_52 : decode cX7_work 52 = .ok (.aload_n 0, 1) := by decide +kernel
theorem dX7_work_53 : decode cX7_work 53 = .ok (.getfield 37, 3) := by decide +kernel
theorem dX7_work_56 : decode cX7_work 56 = .ok (.iload_n 3, 1) := by decide +kernel
theorem dX7_work_57 : decode cX7_work 57 = .ok (.iaload, 1) := by decide +kernel
theorem dX7_work_58 : decode cX7_work 58 = .ok (.istore 5, 2) := by decide +kernel
theorem dX7_work_60 : decode cX7_work 60 = .ok (.aload_n 0, 1) := by decide +kernel
theorem dX7_work_61 : decode cX7_work 61 = .ok (.getfield 28, 3) := by decide +kernel
theorem dX7_work_64 : decode cX7_work 64 = .ok (.iload_n 3, 1) := by decide +kernel
theorem dX7_work_65 : decode cX7_work 65 = .ok (.iaload, 1) := by decide +kernel
theorem dX7_work_66 : decode cX7_work 66 = .ok (.iconst 1, 1) := by decide +kernel
theorem dX7_work_67 : decode cX7_work 67 = .ok (.if_icmp .ne 26, 3) := by decide +kernel
theorem dX7_work_70 : decode cX7_work 70 = .ok (.aload_n 0, 1) := by decide +kernel
theorem dX7_work_71 : decode cX7_work 71 = .ok (.getfield 104, 3) := by decide +kernel
theorem dX7_work_74 : decode cX7_work 74 = .ok (.iload_n 2, 1) := by decide +kernel
theorem dX7_work_75 : decode cX7_work 75 = .ok (.aload_n 0, 1) := by decide +kernel
theorem dX7_work_76 : decode cX7_work 76 = .ok (.aload_n 0, 1) := by decide +kernel
theorem dX7_work_77 : decode cX7_work 77 = .ok (.getfield 31, 3) := by decide +kernel
theorem dX7_work_80 : decode cX7_work 80 = .ok (.iload_n 3, 1) := by decide +kernel
theorem dX7_work_81 : decode cX7_work 81 = .ok (.iaload, 1) := by decide +kernel
theorem dX7_work_82 : decode cX7_work 82 = .ok (.iload 4, 2) := by decide +kernel
theorem dX7_work_84 : decode cX7_work 84 = .ok (.iload 5, 2) := by decide +kernel
theorem dX7_work_86 : decode cX7_work 86 = .ok (.invokevirtual 118, 3) := by decide +kernel
theorem dX7_work_89 : decode cX7_work 89 = .ok (.iastore, 1) := by decide +kernel
theorem dX7_work_90 : decode cX7_work 90 = .ok (.goto 78, 3) := by decide +kernel
theorem dX7_work_93 : decode cX7_work 93 = .ok (.aload_n 0, 1) := by decide +kernel
theorem dX7_work_94 : decode cX7_work 94 = .ok (.getfield 28, 3) := by decide +kernel
theorem dX7_work_97 : decode cX7_work 97 = .ok (.iload_n 3, 1) := by decide +kernel
theorem dX7_work_98 : decode cX7_work 98 = .ok (.iaload, 1) := by decide +kernel
theorem dX7_work_99 : decode cX7_work 99 = .ok (.iconst 3, 1) := by decide +kernel
theorem dX7_work_100 : decode cX7_work 100 = .ok (.if_icmp .gt 41, 3) := by decide +kernel
theorem dX7_work_103 : decode cX7_work 103 = .ok (.aload_n 0, 1) := by decide +kernel
theorem dX7_work_104 : decode cX7_work 104 = .ok (.getfield 104, 3) := by decide +kernel
theorem dX7_work_107 : decode cX7_work 107 = .ok (.iload_n 2, 1) := by decide +kernel
theorem dX7_work_108 : decode cX7_work 108 = .ok (.aload_n 0, 1) := by decide +kernel
theorem dX7_work_109 : decode cX7_work 109 = .ok (.aload_n 0, 1) := by decide +kernel
theorem dX7_work_110 : decode cX7_work 110 = .ok (.getfield 28, 3) := by decide +kernel
theorem dX7_work_113 : decode cX7_work 113 = .ok (.iload_n 3, 1) := by decide +kernel
theorem dX7_work_114 : decode cX7_work 114 = .ok (.iaload, 1) := by decide +kernel
theorem dX7_work_115 : decode cX7_work 115 = .ok (.iconst 2, 1) := by decide +kernel
theorem dX7_work_116 : decode cX7_work 116 = .ok (.if_icmp .ne 7, 3) := by decide +kernel
theorem dX7_work_119 : decode cX7_work 119 = .ok (.iconst 1, 1) := by decide +kernel
theorem dX7_work_120 : decode cX7_work 120 = .ok (.goto 4, 3) := by decide +kernel
theorem dX7_work_123 : decode cX7_work 123 = .ok (.iconst 0, 1) := by decide +kernel
theorem dX7_work_124 : decode cX7_work 124 = .ok (.aload_n 0, 1) := by decide +kernel
theorem dX7_work_125 : decode cX7_work 125 = .ok (.getfield 31, 3) := by decide +kernel
theorem dX7_work_128 : decode cX7_work 128 = .ok (.iload_n 3, 1) := by decide +kernel
theorem dX7_work_129 : decode cX7_work 129 = .ok (.iaload, 1) := by decide +kernel
theorem dX7_work_130 : decode cX7_work 130 = .ok (.iload 4, 2) := by decide +kernel
theorem dX7_work_132 : decode cX7_work 132 = .ok (.iload 5, 2) := by decide +kernel
theorem dX7_work_134 : decode cX7_work 134 = .ok (.invokevirtual 122, 3) := by decide +kernel
theorem dX7_work_137 : decode cX7_work 137 = .ok (.iastore, 1) := by decide +kernel
theorem dX7_work_138 : decode cX7_work 138 = .ok (.goto 30, 3) := by decide +kernel
theorem dX7_work_141 : decode cX7_work 141 = .ok (.aload_n 0, 1) := by decide +kernel
theorem dX7_work_142 : decode cX7_work 142 = .ok (.getfield 104, 3) := by decide +kernel
theorem dX7_work_145 : decode cX7_work 145 = .ok (.iload_n 2, 1) := by decide +kernel
theorem dX7_work_146 : decode cX7_work 146 = .ok (.aload_n 0, 1) := by decide +kernel
theorem dX7_work_147 : decode cX7_work 147 = .ok (.aload_n 0, 1) := by decide +kernel
theorem dX7_work_148 : decode cX7_work 148 = .ok (.getfield 28, 3) := by decide +kernel
theorem dX7_work_151 : decode cX7_work 151 = .ok (.iload_n 3, 1) := by decide +kernel
theorem dX7_work_152 : decode cX7_work 152 = .ok (.iaload, 1) := by decide +kernel
theorem dX7_work_153 : decode cX7_work 153 = .ok (.iconst 4, 1) := by decide +kernel
theorem dX7_work_154 : decode cX7_work 154 = .ok (.if_icmp .ne 7, 3) := by decide +kernel
theorem dX7_work_157 : decode cX7_work 157 = .ok (.iconst 1, 1) := by decide +kernel
theorem dX7_work_158 : decode cX7_work 158 = .ok (.goto 4, 3) := by decide +kernel
theorem dX7_work_161 : decode cX7_work 161 = .ok (.iconst 0, 1) := by decide +kernel
theorem dX7_work_162 : decode cX7_work 162 = .ok (.iload 5, 2) := by decide +kernel
theorem dX7_work_164 : decode cX7_work 164 = .ok (.invokevirtual 126, 3) := by decide +kernel
theorem dX7_work_167 : decode cX7_work 167 = .ok (.iastore, 1) := by decide +kernel
theorem dX7_work_168 : decode cX7_work 168 = .ok (.iinc 2 1, 3) := by decide +kernel
theorem dX7_work_171 : decode cX7_work 171 = .ok (.goto (-144), 3) := by decide +kernel
theorem dX7_work_174 : decode cX7_work 174 = .ok (.return_, 1) := by decide +kernel
theorem dX7_cut_0 : decode cX7_cut 0 = .ok (.aload_n 0, 1) := by decide +kernel
theorem dX7_cut_1 : decode cX7_cut 1 = .ok (.getfield 7, 3) := by decide +kernel
theorem dX7_cut_4 : decode cX7_cut 4 = .ok (.iload_n 1, 1) := by decide +kernel
theorem dX7_cut_5 : decode cX7_cut 5 = .ok (.iconst 1, 1) := by decide +kernel
theorem dX7_cut_6 : decode cX7_cut 6 = .ok (.iastore, 1) := by decide +kernel
theorem dX7_cut_7 : decode cX7_cut 7 = .ok (.aload_n 0, 1) := by decide +kernel
theorem dX7_cut_8 : decode cX7_cut 8 = .ok (.getfield 56, 3) := by decide +kernel
theorem dX7_cut_11 : decode cX7_cut 11 = .ok (.iload_n 1, 1) := by decide +kernel
theorem dX7_cut_12 : decode cX7_cut 12 = .ok (.iconst 0, 1) := by decide +kernel
theorem dX7_cut_13 : decode cX7_cut 13 = .ok (.bastore, 1) := by decide +kernel
theorem dX7_cut_14 : decode cX7_cut 14 = .ok (.aload_n 0, 1) := by decide +kernel
theorem dX7_cut_15 : decode cX7_cut 15 = .ok (.getfield 59, 3) := by decide +kernel
theorem dX7_cut_18 : decode cX7_cut 18 = .ok (.iload_n 1, 1) := by decide +kernel
theorem dX7_cut_19 : decode cX7_cut 19 = .ok (.iconst 0, 1) := by decide +kernel
theorem dX7_cut_20 : decode cX7_cut 20 = .ok (.bastore, 1) := by decide +kernel
theorem dX7_cut_21 : decode cX7_cut 21 = .ok (.aload_n 0, 1) := by decide +kernel
theorem dX7_cut_22 : decode cX7_cut 22 = .ok (.getfield 62, 3) := by decide +kernel
theorem dX7_cut_25 : decode cX7_cut 25 = .ok (.iload_n 1, 1) := by decide +kernel
theorem dX7_cut_26 : decode cX7_cut 26 = .ok (.iconst 0, 1) := by decide +kernel
theorem dX7_cut_27 : decode cX7_cut 27 = .ok (.bastore, 1) := by decide +kernel
theorem dX7_cut_28 : decode cX7_cut 28 = .ok (.aload_n 0, 1) := by decide +kernel
theorem dX7_cut_29 : decode cX7_cut 29 = .ok (.getfield 71, 3) := by decide +kernel
theorem dX7_cut_32 : decode cX7_cut 32 = .ok (.iload_n 1, 1) := by decide +kernel
theorem dX7_cut_33 : decode cX7_cut 33 = .ok (.iconst 0, 1) := by decide +kernel
theorem dX7_cut_34 : decode cX7_cut 34 = .ok (.iastore, 1) := by decide +kernel
theorem dX7_cut_35 : decode cX7_cut 35 = .ok (.aload_n 0, 1) := by decide +kernel
theorem dX7_cut_36 : decode cX7_cut 36 = .ok (.getfield 74, 3) := by decide +kernel
theorem dX7_cut_39 : decode cX7_cut 39 = .ok (.iload_n 1, 1) := by decide +kernel
theorem dX7_cut_40 : decode cX7_cut 40 = .ok (.iconst 0, 1) := by decide +kernel
theorem dX7_cut_41 : decode cX7_cut 41 = .ok (.iastore, 1) := by decide +kernel
theorem dX7_cut_42 : decode cX7_cut 42 = .ok (.aload_n 0, 1) := by decide +kernel
theorem dX7_cut_43 : decode cX7_cut 43 = .ok (.getfield 83, 3) := by decide +kernel
theorem dX7_cut_46 : decode cX7_cut 46 = .ok (.iload_n 1, 1) := by decide +kernel
theorem dX7_cut_47 : decode cX7_cut 47 = .ok (.iconst 0, 1) := by decide +kernel
theorem dX7_cut_48 : decode cX7_cut 48 = .ok (.iastore, 1) := by decide +kernel
theorem dX7_cut_49 : decode cX7_cut 49 = .ok (.aload_n 0, 1) := by decide +kernel
theorem dX7_cut_50 : decode cX7_cut 50 = .ok (.getfield 86, 3) := by decide +kernel
theorem dX7_cut_53 : decode cX7_cut 53 = .ok (.iload_n 1, 1) := by decide +kernel
theorem dX7_cut_54 : decode cX7_cut 54 = .ok (.iconst 0, 1) := by decide +kernel
theorem dX7_cut_55 : decode cX7_cut 55 = .ok (.iastore, 1) := by decide +kernel
theorem dX7_cut_56 : decode cX7_cut 56 = .ok (.return_, 1) := by decide +kernel
theorem dX7_follows_0 : decode cX7_follows 0 = .ok (.aload_n 0, 1) := by decide +kernel
theorem dX7_follows_1 : decode cX7_follows 1 = .ok (.getfield 7, 3) := by decide +kernel
theorem dX7_follows_4 : decode cX7_follows 4 = .ok (.iload_n 1, 1) := by decide +kernel
theorem dX7_follows_5 : decode cX7_follows 5 = .ok (.iaload, 1) := by decide +kernel
theorem dX7_follows_6 : decode cX7_follows 6 = .ok (.iconst 2, 1) := by decide +kernel
theorem dX7_follows_7 : decode cX7_follows 7 = .ok (.if_icmp .ne 17, 3) := by decide +kernel
theorem dX7_follows_10 : decode cX7_follows 10 = .ok (.aload_n 0, 1) := by decide +kernel
theorem dX7_follows_11 : decode cX7_follows 11 = .ok (.getfield 53, 3) := by decide +kernel
theorem dX7_follows_14 : decode cX7_follows 14 = .ok (.iload_n 1, 1) := by decide +kernel
theorem dX7_follows_15 : decode cX7_follows 15 = .ok (.iaload, 1) := by decide +kernel
theorem dX7_follows_16 : decode cX7_follows 16 = .ok (.iload_n 2, 1) := by decide +kernel
theorem dX7_follows_17 : decode cX7_follows 17 = .ok (.if_icmp .ne 7, 3) := by decide +kernel
theorem dX7_follows_20 : decode cX7_follows 20 = .ok (.iconst 1, 1) := by decide +kernel
theorem dX7_follows_21 : decode cX7_follows 21 = .ok (.goto 4, 3) := by decide +kernel
theorem dX7_follows_24 : decode cX7_follows 24 = .ok (.iconst 0, 1) := by decide +kernel
theorem dX7_follows_25 : decode cX7_follows 25 = .ok (.ireturn, 1) := by decide +kernel
theorem dX7_cease_0 : decode cX7_cease 0 = .ok (.iconst 0, 1) := by decide +kernel
theorem dX7_cease_1 : decode cX7_cease 1 = .ok (.istore_n 2, 1) := by decide +kernel
theorem dX7_cease_2 : decode cX7_cease 2 = .ok (.iload_n 2, 1) := by decide +kernel
theorem dX7_cease_3 : decode cX7_cease 3 = .ok (.iconst 3, 1) := by decide +kernel
theorem dX7_cease_4 : decode cX7_cease 4 = .ok (.if_icmp .ge 23, 3) := by decide +kernel
theorem dX7_cease_7 : decode cX7_cease 7 = .ok (.aload_n 0, 1) := by decide +kernel
theorem dX7_cease_8 : decode cX7_cease 8 = .ok (.iload_n 2, 1) := by decide +kernel
theorem dX7_cease_9 : decode cX7_cease 9 = .ok (.iload_n 1, 1) := by decide +kernel
theorem dX7_cease_10 : decode cX7_cease 10 = .ok (.invokevirtual 130, 3) := by decide +kernel
theorem dX7_cease_13 : decode cX7_cease 13 = .ok (.ifCond .eq 8, 3) := by decide +kernel
theorem dX7_cease_16 : decode cX7_cease 16 = .ok (.aload_n 0, 1) := by decide +kernel
theorem dX7_cease_17 : decode cX7_cease 17 = .ok (.iload_n 2, 1) := by decide +kernel
theorem dX7_cease_18 : decode cX7_cease 18 = .ok (.invokevirtual 134, 3) := by decide +kernel
theorem dX7_cease_21 : decode cX7_cease 21 = .ok (.iinc 2 1, 3) := by decide +kernel
theorem dX7_cease_24 : decode cX7_cease 24 = .ok (.goto (-22), 3) := by decide +kernel
theorem dX7_cease_27 : decode cX7_cease 27 = .ok (.aload_n 0, 1) := by decide +kernel
theorem dX7_cease_28 : decode cX7_cease 28 = .ok (.iload_n 1, 1) := by decide +kernel
theorem dX7_cease_29 : decode cX7_cease 29 = .ok (.invokevirtual 134, 3) := by decide +kernel
theorem dX7_cease_32 : decode cX7_cease 32 = .ok (.return_, 1) := by decide +kernel
theorem dX7_lead_0 : decode cX7_lead 0 = .ok (.iload_n 1, 1) := by decide +kernel
theorem dX7_lead_1 : decode cX7_lead 1 = .ok (.invokestatic 138, 3) := by decide +kernel
theorem dX7_lead_4 : decode cX7_lead 4 = .ok (.ifCond .eq 5, 3) := by decide +kernel
theorem dX7_lead_7 : decode cX7_lead 7 = .ok (.iconst 0, 1) := by decide +kernel
theorem dX7_lead_8 : decode cX7_lead 8 = .ok (.ireturn, 1) := by decide +kernel
theorem dX7_lead_9 : decode cX7_lead 9 = .ok (.aload_n 0, 1) := by decide +kernel
theorem dX7_lead_10 : decode cX7_lead 10 = .ok (.getfield 7, 3) := by decide +kernel
theorem dX7_lead_13 : decode cX7_lead 13 = .ok (.iload_n 1, 1) := by decide +kernel
theorem dX7_lead_14 : decode cX7_lead 14 = .ok (.iaload, 1) := by decide +kernel
theorem dX7_lead_15 : decode cX7_lead 15 = .ok (.iconst 1, 1) := by decide +kernel
theorem dX7_lead_16 : decode cX7_lead 16 = .ok (.if_icmp .eq 5, 3) := by decide +kernel
theorem dX7_lead_19 : decode cX7_lead 19 = .ok (.iconst 0, 1) := by decide +kernel
theorem dX7_lead_20 : decode cX7_lead 20 = .ok (.ireturn, 1) := by decide +kernel
theorem dX7_lead_21 : decode cX7_lead 21 = .ok (.aload_n 0, 1) := by decide +kernel
theorem dX7_lead_22 : decode cX7_lead 22 = .ok (.getfield 7, 3) := by decide +kernel
theorem dX7_lead_25 : decode cX7_lead 25 = .ok (.iload_n 1, 1) := by decide +kernel
theorem dX7_lead_26 : decode cX7_lead 26 = .ok (.iconst 3, 1) := by decide +kernel
theorem dX7_lead_27 : decode cX7_lead 27 = .ok (.iastore, 1) := by decide +kernel
theorem dX7_lead_28 : decode cX7_lead 28 = .ok (.aload_n 0, 1) := by decide +kernel
theorem dX7_lead_29 : decode cX7_lead 29 = .ok (.getfield 40, 3) := by decide +kernel
theorem dX7_lead_32 : decode cX7_lead 32 = .ok (.iload_n 1, 1) := by decide +kernel
theorem dX7_lead_33 : decode cX7_lead 33 = .ok (.iconst 0, 1) := by decide +kernel
theorem dX7_lead_34 : decode cX7_lead 34 = .ok (.iastore, 1) := by decide +kernel
theorem dX7_lead_35 : decode cX7_lead 35 = .ok (.aload_n 0, 1) := by decide +kernel
theorem dX7_lead_36 : decode cX7_lead 36 = .ok (.getfield 43, 3) := by decide +kernel
theorem dX7_lead_39 : decode cX7_lead 39 = .ok (.iload_n 1, 1) := by decide +kernel
theorem dX7_lead_40 : decode cX7_lead 40 = .ok (.iconst 0, 1) := by decide +kernel
theorem dX7_lead_41 : decode cX7_lead 41 = .ok (.bastore, 1) := by decide +kernel
theorem dX7_lead_42 : decode cX7_lead 42 = .ok (.aload_n 0, 1) := by decide +kernel
theorem dX7_lead_43 : decode cX7_lead 43 = .ok (.getfield 47, 3) := by decide +kernel
theorem dX7_lead_46 : decode cX7_lead 46 = .ok (.iload_n 1, 1) := by decide +kernel
theorem dX7_lead_47 : decode cX7_lead 47 = .ok (.iconst 0, 1) := by decide +kernel
theorem dX7_lead_48 : decode cX7_lead 48 = .ok (.iastore, 1) := by decide +kernel
theorem dX7_lead_49 : decode cX7_lead 49 = .ok (.iconst 1, 1) := by decide +kernel
theorem dX7_lead_50 : decode cX7_lead 50 = .ok (.ireturn, 1) := by decide +kernel
theorem dX7_follow_0 : decode cX7_follow 0 = .ok (.iload_n 1, 1) := by decide +kernel
theorem dX7_follow_1 : decode cX7_follow 1 = .ok (.invokestatic 138, 3) := by decide +kernel
theorem dX7_follow_4 : decode cX7_follow 4 = .ok (.ifCond .ne 10, 3) := by decide +kernel
theorem dX7_follow_7 : decode cX7_follow 7 = .ok (.iload_n 2, 1) := by decide +kernel
theorem dX7_follow_8 : decode cX7_follow 8 = .ok (.invokestatic 138, 3) := by decide +kernel
theorem dX7_follow_11 : decode cX7_follow 11 = .ok (.ifCond .eq 5, 3) := by decide +kernel
theorem dX7_follow_14 : decode cX7_follow 14 = .ok (.iconst 0, 1) := by decide +kernel
theorem dX7_follow_15 : decode cX7_follow 15 = .ok (.ireturn, 1) := by decide +kernel
theorem dX7_follow_16 : decode cX7_follow 16 = .ok (.aload_n 0, 1) := by decide +kernel
theorem dX7_follow_17 : decode cX7_follow 17 = .ok (.getfield 7, 3) := by decide +kernel
theorem dX7_follow_20 : decode cX7_follow 20 = .ok (.iload_n 1, 1) := by decide +kernel
theorem dX7_follow_21 : decode cX7_follow 21 = .ok (.iaload, 1) := by decide +kernel
theorem dX7_follow_22 : decode cX7_follow 22 = .ok (.iconst 1, 1) := by decide +kernel
theorem dX7_follow_23 : decode cX7_follow 23 = .ok (.if_icmp .ne 13, 3) := by decide +kernel
theorem dX7_follow_26 : decode cX7_follow 26 = .ok (.aload_n 0, 1) := by decide +kernel
theorem dX7_follow_27 : decode cX7_follow 27 = .ok (.getfield 7, 3) := by decide +kernel
theorem dX7_follow_30 : decode cX7_follow 30 = .ok (.iload_n 2, 1) := by decide +kernel
theorem dX7_follow_31 : decode cX7_follow 31 = .ok (.iaload, 1) := by decide +kernel
theorem dX7_follow_32 : decode cX7_follow 32 = .ok (.iconst 3, 1) := by decide +kernel
theorem dX7_follow_33 : decode cX7_follow 33 = .ok (.if_icmp .ge 5, 3) := by decide +kernel
theorem dX7_follow_36 : decode cX7_follow 36 = .ok (.iconst 0, 1) := by decide +kernel
theorem dX7_follow_37 : decode cX7_follow 37 = .ok (.ireturn, 1) := by decide +kernel
theorem dX7_follow_38 : decode cX7_follow 38 = .ok (.aload_n 0, 1) := by decide +kernel
theorem dX7_follow_39 : decode cX7_follow 39 = .ok (.iload_n 1, 1) := by decide +kernel
theorem dX7_follow_40 : decode cX7_follow 40 = .ok (.invokevirtual 134, 3) := by decide +kernel
theorem dX7_follow_43 : decode cX7_follow 43 = .ok (.aload_n 0, 1) := by decide +kernel
theorem dX7_follow_44 : decode cX7_follow 44 = .ok (.getfield 7, 3) := by decide +kernel
theorem dX7_follow_47 : decode cX7_follow 47 = .ok (.iload_n 1, 1) := by decide +kernel
theorem dX7_follow_48 : decode cX7_follow 48 = .ok (.iconst 2, 1) := by decide +kernel
theorem dX7_follow_49 : decode cX7_follow 49 = .ok (.iastore, 1) := by decide +kernel
theorem dX7_follow_50 : decode cX7_follow 50 = .ok (.aload_n 0, 1) := by decide +kernel
theorem dX7_follow_51 : decode cX7_follow 51 = .ok (.getfield 53, 3) := by decide +kernel
theorem dX7_follow_54 : decode cX7_follow 54 = .ok (.iload_n 1, 1) := by decide +kernel
theorem dX7_follow_55 : decode cX7_follow 55 = .ok (.iload_n 2, 1) := by decide +kernel
theorem dX7_follow_56 : decode cX7_follow 56 = .ok (.iastore, 1) := by decide +kernel
theorem dX7_follow_57 : decode cX7_follow 57 = .ok (.aload_n 0, 1) := by decide +kernel
theorem dX7_follow_58 : decode cX7_follow 58 = .ok (.iload_n 1, 1) := by decide +kernel
theorem dX7_follow_59 : decode cX7_follow 59 = .ok (.iconst 1, 1) := by decide +kernel
theorem dX7_follow_60 : decode cX7_follow 60 = .ok (.aload_n 0, 1) := by decide +kernel
theorem dX7_follow_61 : decode cX7_follow 61 = .ok (.getfield 13, 3) := by decide +kernel
theorem dX7_follow_64 : decode cX7_follow 64 = .ok (.iload_n 1, 1) := by decide +kernel
theorem dX7_follow_65 : decode cX7_follow 65 = .ok (.iaload, 1) := by decide +kernel
theorem dX7_follow_66 : decode cX7_follow 66 = .ok (.invokevirtual 142, 3) := by decide +kernel
theorem dX7_follow_69 : decode cX7_follow 69 = .ok (.iconst 1, 1) := by decide +kernel
theorem dX7_follow_70 : decode cX7_follow 70 = .ok (.ireturn, 1) := by decide +kernel
theorem dX7_quit_0 : decode cX7_quit 0 = .ok (.iload_n 1, 1) := by decide +kernel
theorem dX7_quit_1 : decode cX7_quit 1 = .ok (.invokestatic 138, 3) := by decide +kernel
theorem dX7_quit_4 : decode cX7_quit 4 = .ok (.ifCond .eq 5, 3) := by decide +kernel
theorem dX7_quit_7 : decode cX7_quit 7 = .ok (.iconst 0, 1) := by decide +kernel
theorem dX7_quit_8 : decode cX7_quit 8 = .ok (.ireturn, 1) := by decide +kernel
theorem dX7_quit_9 : decode cX7_quit 9 = .ok (.aload_n 0, 1) := by decide +kernel
theorem dX7_quit_10 : decode cX7_quit 10 = .ok (.getfield 7, 3) := by decide +kernel
theorem dX7_quit_13 : decode cX7_quit 13 = .ok (.iload_n 1, 1) := by decide +kernel
theorem dX7_quit_14 : decode cX7_quit 14 = .ok (.iaload, 1) := by decide +kernel
theorem dX7_quit_15 : decode cX7_quit 15 = .ok (.iconst 2, 1) := by decide +kernel
theorem dX7_quit_16 : decode cX7_quit 16 = .ok (.if_icmp .ge 5, 3) := by decide +kernel
theorem dX7_quit_19 : decode cX7_quit 19 = .ok (.iconst 0, 1) := by decide +kernel
theorem dX7_quit_20 : decode cX7_quit 20 = .ok (.ireturn, 1) := by decide +kernel
theorem dX7_quit_21 : decode cX7_quit 21 = .ok (.aload_n 0, 1) := by decide +kernel
theorem dX7_quit_22 : decode cX7_quit 22 = .ok (.iload_n 1, 1) := by decide +kernel
theorem dX7_quit_23 : decode cX7_quit 23 = .ok (.invokevirtual 146, 3) := by decide +kernel
theorem dX7_quit_26 : decode cX7_quit 26 = .ok (.iconst 1, 1) := by decide +kernel
theorem dX7_quit_27 : decode cX7_quit 27 = .ok (.ireturn, 1) := by decide +kernel
theorem dX7_crash_0 : decode cX7_crash 0 = .ok (.iload_n 1, 1) := by decide +kernel
theorem dX7_crash_1 : decode cX7_crash 1 = .ok (.invokestatic 138, 3) := by decide +kernel
theorem dX7_crash_4 : decode cX7_crash 4 = .ok (.ifCond .eq 5, 3) := by decide +kernel
theorem dX7_crash_7 : decode cX7_crash 7 = .ok (.iconst 0, 1) := by decide +kernel
theorem dX7_crash_8 : decode cX7_crash 8 = .ok (.ireturn, 1) := by decide +kernel
theorem dX7_crash_9 : decode cX7_crash 9 = .ok (.aload_n 0, 1) := by decide +kernel
theorem dX7_crash_10 : decode cX7_crash 10 = .ok (.getfield 7, 3) := by decide +kernel
theorem dX7_crash_13 : decode cX7_crash 13 = .ok (.iload_n 1, 1) := by decide +kernel
theorem dX7_crash_14 : decode cX7_crash 14 = .ok (.iaload, 1) := by decide +kernel
theorem dX7_crash_15 : decode cX7_crash 15 = .ok (.ifCond .ne 5, 3) := by decide +kernel
theorem dX7_crash_18 : decode cX7_crash 18 = .ok (.iconst 0, 1) := by decide +kernel
theorem dX7_crash_19 : decode cX7_crash 19 = .ok (.ireturn, 1) := by decide +kernel
theorem dX7_crash_20 : decode cX7_crash 20 = .ok (.aload_n 0, 1) := by decide +kernel
theorem dX7_crash_21 : decode cX7_crash 21 = .ok (.iload_n 1, 1) := by decide +kernel
theorem dX7_crash_22 : decode cX7_crash 22 = .ok (.invokevirtual 146, 3) := by decide +kernel
theorem dX7_crash_25 : decode cX7_crash 25 = .ok (.aload_n 0, 1) := by decide +kernel
theorem dX7_crash_26 : decode cX7_crash 26 = .ok (.getfield 7, 3) := by decide +kernel
theorem dX7_crash_29 : decode cX7_crash 29 = .ok (.iload_n 1, 1) := by decide +kernel
theorem dX7_crash_30 : decode cX7_crash 30 = .ok (.iconst 0, 1) := by decide +kernel
theorem dX7_crash_31 : decode cX7_crash 31 = .ok (.iastore, 1) := by decide +kernel
theorem dX7_crash_32 : decode cX7_crash 32 = .ok (.aload_n 0, 1) := by decide +kernel
theorem dX7_crash_33 : decode cX7_crash 33 = .ok (.getfield 19, 3) := by decide +kernel
theorem dX7_crash_36 : decode cX7_crash 36 = .ok (.iload_n 1, 1) := by decide +kernel
theorem dX7_crash_37 : decode cX7_crash 37 = .ok (.iconst 0, 1) := by decide +kernel
theorem dX7_crash_38 : decode cX7_crash 38 = .ok (.iastore, 1) := by decide +kernel
theorem dX7_crash_39 : decode cX7_crash 39 = .ok (.iconst 1, 1) := by decide +kernel
theorem dX7_crash_40 : decode cX7_crash 40 = .ok (.ireturn, 1) := by decide +kernel
theorem dX7_restart_0 : decode cX7_restart 0 = .ok (.iload_n 1, 1) := by decide +kernel
theorem dX7_restart_1 : decode cX7_restart 1 = .ok (.invokestatic 138, 3) := by decide +kernel
theorem dX7_restart_4 : decode cX7_restart 4 = .ok (.ifCond .eq 5, 3) := by decide +kernel
theorem dX7_restart_7 : decode cX7_restart 7 = .ok (.iconst 0, 1) := by decide +kernel
theorem dX7_restart_8 : decode cX7_restart 8 = .ok (.ireturn, 1) := by decide +kernel
theorem dX7_restart_9 : decode cX7_restart 9 = .ok (.aload_n 0, 1) := by decide +kernel
theorem dX7_restart_10 : decode cX7_restart 10 = .ok (.getfield 7, 3) := by decide +kernel
theorem dX7_restart_13 : decode cX7_restart 13 = .ok (.iload_n 1, 1) := by decide +kernel
theorem dX7_restart_14 : decode cX7_restart 14 = .ok (.iaload, 1) := by decide +kernel
theorem dX7_restart_15 : decode cX7_restart 15 = .ok (.ifCond .eq 5, 3) := by decide +kernel
theorem dX7_restart_18 : decode cX7_restart 18 = .ok (.iconst 0, 1) := by decide +kernel
theorem dX7_restart_19 : decode cX7_restart 19 = .ok (.ireturn, 1) := by decide +kernel
theorem dX7_restart_20 : decode cX7_restart 20 = .ok (.aload_n 0, 1) := by decide +kernel
theorem dX7_restart_21 : decode cX7_restart 21 = .ok (.getfield 7, 3) := by decide +kernel
theorem dX7_restart_24 : decode cX7_restart 24 = .ok (.iload_n 1, 1) := by decide +kernel
theorem dX7_restart_25 : decode cX7_restart 25 = .ok (.iconst 1, 1) := by decide +kernel
theorem dX7_restart_26 : decode cX7_restart 26 = .ok (.iastore, 1) := by decide +kernel
theorem dX7_restart_27 : decode cX7_restart 27 = .ok (.iconst 1, 1) := by decide +kernel
theorem dX7_restart_28 : decode cX7_restart 28 = .ok (.ireturn, 1) := by decide +kernel
theorem dX7_sendUp_0 : decode cX7_sendUp 0 = .ok (.bipush 64, 2) := by decide +kernel
theorem dX7_sendUp_2 : decode cX7_sendUp 2 = .ok (.iload_n 1, 1) := by decide +kernel
theorem dX7_sendUp_3 : decode cX7_sendUp 3 = .ok (.imul, 1) := by decide +kernel
theorem dX7_sendUp_4 : decode cX7_sendUp 4 = .ok (.aload_n 0, 1) := by decide +kernel
theorem dX7_sendUp_5 : decode cX7_sendUp 5 = .ok (.getfield 71, 3) := by decide +kernel
theorem dX7_sendUp_8 : decode cX7_sendUp 8 = .ok (.iload_n 1, 1) := by decide +kernel
theorem dX7_sendUp_9 : decode cX7_sendUp 9 = .ok (.iaload, 1) := by decide +kernel
theorem dX7_sendUp_10 : decode cX7_sendUp 10 = .ok (.iadd, 1) := by decide +kernel
theorem dX7_sendUp_11 : decode cX7_sendUp 11 = .ok (.istore 4, 2) := by decide +kernel
theorem dX7_sendUp_13 : decode cX7_sendUp 13 = .ok (.aload_n 0, 1) := by decide +kernel
theorem dX7_sendUp_14 : decode cX7_sendUp 14 = .ok (.getfield 65, 3) := by decide +kernel
theorem dX7_sendUp_17 : decode cX7_sendUp 17 = .ok (.iload 4, 2) := by decide +kernel
theorem dX7_sendUp_19 : decode cX7_sendUp 19 = .ok (.iload_n 2, 1) := by decide +kernel
theorem dX7_sendUp_20 : decode cX7_sendUp 20 = .ok (.iastore, 1) := by decide +kernel
theorem dX7_sendUp_21 : decode cX7_sendUp 21 = .ok (.aload_n 0, 1) := by decide +kernel
theorem dX7_sendUp_22 : decode cX7_sendUp 22 = .ok (.getfield 68, 3) := by decide +kernel
theorem dX7_sendUp_25 : decode cX7_sendUp 25 = .ok (.iload 4, 2) := by decide +kernel
theorem dX7_sendUp_27 : decode cX7_sendUp 27 = .ok (.iload_n 3, 1) := by decide +kernel
theorem dX7_sendUp_28 : decode cX7_sendUp 28 = .ok (.iastore, 1) := by decide +kernel
theorem dX7_sendUp_29 : decode cX7_sendUp 29 = .ok (.aload_n 0, 1) := by decide +kernel
theorem dX7_sendUp_30 : decode cX7_sendUp 30 = .ok (.getfield 71, 3) := by decide +kernel
theorem dX7_sendUp_33 : decode cX7_sendUp 33 = .ok (.iload_n 1, 1) := by decide +kernel
theorem dX7_sendUp_34 : decode cX7_sendUp 34 = .ok (.dup2, 1) := by decide +kernel
theorem dX7_sendUp_35 : decode cX7_sendUp 35 = .ok (.iaload, 1) := by decide +kernel
theorem dX7_sendUp_36 : decode cX7_sendUp 36 = .ok (.iconst 1, 1) := by decide +kernel
theorem dX7_sendUp_37 : decode cX7_sendUp 37 = .ok (.iadd, 1) := by decide +kernel
theorem dX7_sendUp_38 : decode cX7_sendUp 38 = .ok (.iastore, 1) := by decide +kernel
theorem dX7_sendUp_39 : decode cX7_sendUp 39 = .ok (.return_, 1) := by decide +kernel
theorem dX7_sendDown_0 : decode cX7_sendDown 0 = .ok (.bipush 64, 2) := by decide +kernel
theorem dX7_sendDown_2 : decode cX7_sendDown 2 = .ok (.iload_n 1, 1) := by decide +kernel
theorem dX7_sendDown_3 : decode cX7_sendDown 3 = .ok (.imul, 1) := by decide +kernel
theorem dX7_sendDown_4 : decode cX7_sendDown 4 = .ok (.aload_n 0, 1) := by decide +kernel
theorem dX7_sendDown_5 : decode cX7_sendDown 5 = .ok (.getfield 83, 3) := by decide +kernel
theorem dX7_sendDown_8 : decode cX7_sendDown 8 = .ok (.iload_n 1, 1) := by decide +kernel
theorem dX7_sendDown_9 : decode cX7_sendDown 9 = .ok (.iaload, 1) := by decide +kernel
theorem dX7_sendDown_10 : decode cX7_sendDown 10 = .ok (.iadd, 1) := by decide +kernel
theorem dX7_sendDown_11 : decode cX7_sendDown 11 = .ok (.istore 4, 2) := by decide +kernel
theorem dX7_sendDown_13 : decode cX7_sendDown 13 = .ok (.aload_n 0, 1) := by decide +kernel
theorem dX7_sendDown_14 : decode cX7_sendDown 14 = .ok (.getfield 77, 3) := by decide +kernel
theorem dX7_sendDown_17 : decode cX7_sendDown 17 = .ok (.iload 4, 2) := by decide +kernel
theorem dX7_sendDown_19 : decode cX7_sendDown 19 = .ok (.iload_n 2, 1) := by decide +kernel
theorem dX7_sendDown_20 : decode cX7_sendDown 20 = .ok (.iastore, 1) := by decide +kernel
theorem dX7_sendDown_21 : decode cX7_sendDown 21 = .ok (.aload_n 0, 1) := by decide +kernel
theorem dX7_sendDown_22 : decode cX7_sendDown 22 = .ok (.getfield 80, 3) := by decide +kernel
theorem dX7_sendDown_25 : decode cX7_sendDown 25 = .ok (.iload 4, 2) := by decide +kernel
theorem dX7_sendDown_27 : decode cX7_sendDown 27 = .ok (.iload_n 3, 1) := by decide +kernel
theorem dX7_sendDown_28 : decode cX7_sendDown 28 = .ok (.iastore, 1) := by decide +kernel
theorem dX7_sendDown_29 : decode cX7_sendDown 29 = .ok (.aload_n 0, 1) := by decide +kernel
theorem dX7_sendDown_30 : decode cX7_sendDown 30 = .ok (.getfield 83, 3) := by decide +kernel
theorem dX7_sendDown_33 : decode cX7_sendDown 33 = .ok (.iload_n 1, 1) := by decide +kernel
theorem dX7_sendDown_34 : decode cX7_sendDown 34 = .ok (.dup2, 1) := by decide +kernel
theorem dX7_sendDown_35 : decode cX7_sendDown 35 = .ok (.iaload, 1) := by decide +kernel
theorem dX7_sendDown_36 : decode cX7_sendDown 36 = .ok (.iconst 1, 1) := by decide +kernel
theorem dX7_sendDown_37 : decode cX7_sendDown 37 = .ok (.iadd, 1) := by decide +kernel
theorem dX7_sendDown_38 : decode cX7_sendDown 38 = .ok (.iastore, 1) := by decide +kernel
theorem dX7_sendDown_39 : decode cX7_sendDown 39 = .ok (.return_, 1) := by decide +kernel
theorem dX7_newLeader_0 : decode cX7_newLeader 0 = .ok (.aload_n 0, 1) := by decide +kernel
theorem dX7_newLeader_1 : decode cX7_newLeader 1 = .ok (.getfield 56, 3) := by decide +kernel
theorem dX7_newLeader_4 : decode cX7_newLeader 4 = .ok (.iload_n 1, 1) := by decide +kernel
theorem dX7_newLeader_5 : decode cX7_newLeader 5 = .ok (.iconst 0, 1) := by decide +kernel
theorem dX7_newLeader_6 : decode cX7_newLeader 6 = .ok (.bastore, 1) := by decide +kernel
theorem dX7_newLeader_7 : decode cX7_newLeader 7 = .ok (.aload_n 0, 1) := by decide +kernel
theorem dX7_newLeader_8 : decode cX7_newLeader 8 = .ok (.getfield 59, 3) := by decide +kernel
theorem dX7_newLeader_11 : decode cX7_newLeader 11 = .ok (.iload_n 1, 1) := by decide +kernel
theorem dX7_newLeader_12 : decode cX7_newLeader 12 = .ok (.iconst 1, 1) := by decide +kernel
theorem dX7_newLeader_13 : decode cX7_newLeader 13 = .ok (.bastore, 1) := by decide +kernel
theorem dX7_newLeader_14 : decode cX7_newLeader 14 = .ok (.aload_n 0, 1) := by decide +kernel
theorem dX7_newLeader_15 : decode cX7_newLeader 15 = .ok (.iload_n 1, 1) := by decide +kernel
theorem dX7_newLeader_16 : decode cX7_newLeader 16 = .ok (.iconst 5, 1) := by decide +kernel
theorem dX7_newLeader_17 : decode cX7_newLeader 17 = .ok (.aload_n 0, 1) := by decide +kernel
theorem dX7_newLeader_18 : decode cX7_newLeader 18 = .ok (.getfield 22, 3) := by decide +kernel
theorem dX7_newLeader_21 : decode cX7_newLeader 21 = .ok (.iload_n 2, 1) := by decide +kernel
theorem dX7_newLeader_22 : decode cX7_newLeader 22 = .ok (.iaload, 1) := by decide +kernel
theorem dX7_newLeader_23 : decode cX7_newLeader 23 = .ok (.invokevirtual 149, 3) := by decide +kernel
theorem dX7_newLeader_26 : decode cX7_newLeader 26 = .ok (.return_, 1) := by decide +kernel
theorem dX7_copy_0 : decode cX7_copy 0 = .ok (.iconst 0, 1) := by decide +kernel
theorem dX7_copy_1 : decode cX7_copy 1 = .ok (.istore 4, 2) := by decide +kernel
theorem dX7_copy_3 : decode cX7_copy 3 = .ok (.iload 4, 2) := by decide +kernel
theorem dX7_copy_5 : decode cX7_copy 5 = .ok (.iload_n 3, 1) := by decide +kernel
theorem dX7_copy_6 : decode cX7_copy 6 = .ok (.if_icmp .ge 27, 3) := by decide +kernel
theorem dX7_copy_9 : decode cX7_copy 9 = .ok (.aload_n 0, 1) := by decide +kernel
theorem dX7_copy_10 : decode cX7_copy 10 = .ok (.bipush 24, 2) := by decide +kernel
theorem dX7_copy_12 : decode cX7_copy 12 = .ok (.iload_n 1, 1) := by decide +kernel
theorem dX7_copy_13 : decode cX7_copy 13 = .ok (.imul, 1) := by decide +kernel
theorem dX7_copy_14 : decode cX7_copy 14 = .ok (.iload 4, 2) := by decide +kernel
theorem dX7_copy_16 : decode cX7_copy 16 = .ok (.iadd, 1) := by decide +kernel
theorem dX7_copy_17 : decode cX7_copy 17 = .ok (.bipush 24, 2) := by decide +kernel
theorem dX7_copy_19 : decode cX7_copy 19 = .ok (.iload_n 2, 1) := by decide +kernel
theorem dX7_copy_20 : decode cX7_copy 20 = .ok (.imul, 1) := by decide +kernel
theorem dX7_copy_21 : decode cX7_copy 21 = .ok (.iload 4, 2) := by decide +kernel
theorem dX7_copy_23 : decode cX7_copy 23 = .ok (.iadd, 1) := by decide +kernel
theorem dX7_copy_24 : decode cX7_copy 24 = .ok (.invokevirtual 152, 3) := by decide +kernel
theorem dX7_copy_27 : decode cX7_copy 27 = .ok (.iinc 4 1, 3) := by decide +kernel
theorem dX7_copy_30 : decode cX7_copy 30 = .ok (.goto (-27), 3) := by decide +kernel
theorem dX7_copy_33 : decode cX7_copy 33 = .ok (.aload_n 0, 1) := by decide +kernel
theorem dX7_copy_34 : decode cX7_copy 34 = .ok (.getfield 22, 3) := by decide +kernel
theorem dX7_copy_37 : decode cX7_copy 37 = .ok (.iload_n 2, 1) := by decide +kernel
theorem dX7_copy_38 : decode cX7_copy 38 = .ok (.iload_n 3, 1) := by decide +kernel
theorem dX7_copy_39 : decode cX7_copy 39 = .ok (.iastore, 1) := by decide +kernel
theorem dX7_copy_40 : decode cX7_copy 40 = .ok (.return_, 1) := by decide +kernel
theorem dX7_copyEntry_0 : decode cX7_copyEntry 0 = .ok (.aload_n 0, 1) := by decide +kernel
theorem dX7_copyEntry_1 : decode cX7_copyEntry 1 = .ok (.getfield 25, 3) := by decide +kernel
theorem dX7_copyEntry_4 : decode cX7_copyEntry 4 = .ok (.iload_n 2, 1) := by decide +kernel
theorem dX7_copyEntry_5 : decode cX7_copyEntry 5 = .ok (.aload_n 0, 1) := by decide +kernel
theorem dX7_copyEntry_6 : decode cX7_copyEntry 6 = .ok (.getfield 25, 3) := by decide +kernel
theorem dX7_copyEntry_9 : decode cX7_copyEntry 9 = .ok (.iload_n 1, 1) := by decide +kernel
theorem dX7_copyEntry_10 : decode cX7_copyEntry 10 = .ok (.iaload, 1) := by decide +kernel
theorem dX7_copyEntry_11 : decode cX7_copyEntry 11 = .ok (.iastore, 1) := by decide +kernel
theorem dX7_copyEntry_12 : decode cX7_copyEntry 12 = .ok (.aload_n 0, 1) := by decide +kernel
theorem dX7_copyEntry_13 : decode cX7_copyEntry 13 = .ok (.getfield 28, 3) := by decide +kernel
theorem dX7_copyEntry_16 : decode cX7_copyEntry 16 = .ok (.iload_n 2, 1) := by decide +kernel
theorem dX7_copyEntry_17 : decode cX7_copyEntry 17 = .ok (.aload_n 0, 1) := by decide +kernel
theorem dX7_copyEntry_18 : decode cX7_copyEntry 18 = .ok (.getfield 28, 3) := by decide +kernel
theorem dX7_copyEntry_21 : decode cX7_copyEntry 21 = .ok (.iload_n 1, 1) := by decide +kernel
theorem dX7_copyEntry_22 : decode cX7_copyEntry 22 = .ok (.iaload, 1) := by decide +kernel
theorem dX7_copyEntry_23 : decode cX7_copyEntry 23 = .ok (.iastore, 1) := by decide +kernel
theorem dX7_copyEntry_24 : decode cX7_copyEntry 24 = .ok (.aload_n 0, 1) := by decide +kernel
theorem dX7_copyEntry_25 : decode cX7_copyEntry 25 = .ok (.getfield 31, 3) := by decide +kernel
theorem dX7_copyEntry_28 : decode cX7_copyEntry 28 = .ok (.iload_n 2, 1) := by decide +kernel
theorem dX7_copyEntry_29 : decode cX7_copyEntry 29 = .ok (.aload_n 0, 1) := by decide +kernel
theorem dX7_copyEntry_30 : decode cX7_copyEntry 30 = .ok (.getfield 31, 3) := by decide +kernel
theorem dX7_copyEntry_33 : decode cX7_copyEntry 33 = .ok (.iload_n 1, 1) := by decide +kernel
theorem dX7_copyEntry_34 : decode cX7_copyEntry 34 = .ok (.iaload, 1) := by decide +kernel
theorem dX7_copyEntry_35 : decode cX7_copyEntry 35 = .ok (.iastore, 1) := by decide +kernel
theorem dX7_copyEntry_36 : decode cX7_copyEntry 36 = .ok (.aload_n 0, 1) := by decide +kernel
theorem dX7_copyEntry_37 : decode cX7_copyEntry 37 = .ok (.getfield 34, 3) := by decide +kernel
theorem dX7_copyEntry_40 : decode cX7_copyEntry 40 = .ok (.iload_n 2, 1) := by decide +kernel
theorem dX7_copyEntry_41 : decode cX7_copyEntry 41 = .ok (.aload_n 0, 1) := by decide +kernel
theorem dX7_copyEntry_42 : decode cX7_copyEntry 42 = .ok (.getfield 34, 3) := by decide +kernel
theorem dX7_copyEntry_45 : decode cX7_copyEntry 45 = .ok (.iload_n 1, 1) := by decide +kernel
theorem dX7_copyEntry_46 : decode cX7_copyEntry 46 = .ok (.iaload, 1) := by decide +kernel
theorem dX7_copyEntry_47 : decode cX7_copyEntry 47 = .ok (.iastore, 1) := by decide +kernel
theorem dX7_copyEntry_48 : decode cX7_copyEntry 48 = .ok (.aload_n 0, 1) := by decide +kernel
theorem dX7_copyEntry_49 : decode cX7_copyEntry 49 = .ok (.getfield 37, 3) := by decide +kernel
theorem dX7_copyEntry_52 : decode cX7_copyEntry 52 = .ok (.iload_n 2, 1) := by decide +kernel
theorem dX7_copyEntry_53 : decode cX7_copyEntry 53 = .ok (.aload_n 0, 1) := by decide +kernel
theorem dX7_copyEntry_54 : decode cX7_copyEntry 54 = .ok (.getfield 37, 3) := by decide +kernel
theorem dX7_copyEntry_57 : decode cX7_copyEntry 57 = .ok (.iload_n 1, 1) := by decide +kernel
theorem dX7_copyEntry_58 : decode cX7_copyEntry 58 = .ok (.iaload, 1) := by decide +kernel
theorem dX7_copyEntry_59 : decode cX7_copyEntry 59 = .ok (.iastore, 1) := by decide +kernel
theorem dX7_copyEntry_60 : decode cX7_copyEntry 60 = .ok (.return_, 1) := by decide +kernel
theorem dX7_lastMark_0 : decode cX7_lastMark 0 = .ok (.aload_n 0, 1) := by decide +kernel
theorem dX7_lastMark_1 : decode cX7_lastMark 1 = .ok (.getfield 22, 3) := by decide +kernel
theorem dX7_lastMark_4 : decode cX7_lastMark 4 = .ok (.iload_n 1, 1) := by decide +kernel
theorem dX7_lastMark_5 : decode cX7_lastMark 5 = .ok (.iaload, 1) := by decide +kernel
theorem dX7_lastMark_6 : decode cX7_lastMark 6 = .ok (.ifCond .ne 7, 3) := by decide +kernel
theorem dX7_lastMark_9 : decode cX7_lastMark 9 = .ok (.iconst 0, 1) := by decide +kernel
theorem dX7_lastMark_10 : decode cX7_lastMark 10 = .ok (.goto 21, 3) := by decide +kernel
theorem dX7_lastMark_13 : decode cX7_lastMark 13 = .ok (.aload_n 0, 1) := by decide +kernel
theorem dX7_lastMark_14 : decode cX7_lastMark 14 = .ok (.getfield 25, 3) := by decide +kernel
theorem dX7_lastMark_17 : decode cX7_lastMark 17 = .ok (.bipush 24, 2) := by decide +kernel
theorem dX7_lastMark_19 : decode cX7_lastMark 19 = .ok (.iload_n 1, 1) := by decide +kernel
theorem dX7_lastMark_20 : decode cX7_lastMark 20 = .ok (.imul, 1) := by decide +kernel
theorem dX7_lastMark_21 : decode cX7_lastMark 21 = .ok (.aload_n 0, 1) := by decide +kernel
theorem dX7_lastMark_22 : decode cX7_lastMark 22 = .ok (.getfield 22, 3) := by decide +kernel
theorem dX7_lastMark_25 : decode cX7_lastMark 25 = .ok (.iload_n 1, 1) := by decide +kernel
theorem dX7_lastMark_26 : decode cX7_lastMark 26 = .ok (.iaload, 1) := by decide +kernel
theorem dX7_lastMark_27 : decode cX7_lastMark 27 = .ok (.iadd, 1) := by decide +kernel
theorem dX7_lastMark_28 : decode cX7_lastMark 28 = .ok (.iconst 1, 1) := by decide +kernel
theorem dX7_lastMark_29 : decode cX7_lastMark 29 = .ok (.isub, 1) := by decide +kernel
theorem dX7_lastMark_30 : decode cX7_lastMark 30 = .ok (.iaload, 1) := by decide +kernel
theorem dX7_lastMark_31 : decode cX7_lastMark 31 = .ok (.ireturn, 1) := by decide +kernel
theorem dX7_accepted_0 : decode cX7_accepted 0 = .ok (.aload_n 0, 1) := by decide +kernel
theorem dX7_accepted_1 : decode cX7_accepted 1 = .ok (.getfield 43, 3) := by decide +kernel
theorem dX7_accepted_4 : decode cX7_accepted 4 = .ok (.iload_n 2, 1) := by decide +kernel
theorem dX7_accepted_5 : decode cX7_accepted 5 = .ok (.baload, 1) := by decide +kernel
theorem dX7_accepted_6 : decode cX7_accepted 6 = .ok (.ifCond .eq 10, 3) := by decide +kernel
theorem dX7_accepted_9 : decode cX7_accepted 9 = .ok (.aload_n 0, 1) := by decide +kernel
theorem dX7_accepted_10 : decode cX7_accepted 10 = .ok (.iload_n 1, 1) := by decide +kernel
theorem dX7_accepted_11 : decode cX7_accepted 11 = .ok (.iload_n 2, 1) := by decide +kernel
theorem dX7_accepted_12 : decode cX7_accepted 12 = .ok (.invokevirtual 156, 3) := by decide +kernel
theorem dX7_accepted_15 : decode cX7_accepted 15 = .ok (.return_, 1) := by decide +kernel
theorem dX7_accepted_16 : decode cX7_accepted 16 = .ok (.iload_n 3, 1) := by decide +kernel
theorem dX7_accepted_17 : decode cX7_accepted 17 = .ok (.ifCond .ne 11, 3) := by decide +kernel
theorem dX7_accepted_20 : decode cX7_accepted 20 = .ok (.aload_n 0, 1) := by decide +kernel
theorem dX7_accepted_21 : decode cX7_accepted 21 = .ok (.getfield 56, 3) := by decide +kernel
theorem dX7_accepted_24 : decode cX7_accepted 24 = .ok (.iload_n 1, 1) := by decide +kernel
theorem dX7_accepted_25 : decode cX7_accepted 25 = .ok (.iconst 1, 1) := by decide +kernel
theorem dX7_accepted_26 : decode cX7_accepted 26 = .ok (.bastore, 1) := by decide +kernel
theorem dX7_accepted_27 : decode cX7_accepted 27 = .ok (.return_, 1) := by decide +kernel
theorem dX7_accepted_28 : decode cX7_accepted 28 = .ok (.aload_n 0, 1) := by decide +kernel
theorem dX7_accepted_29 : decode cX7_accepted 29 = .ok (.getfield 16, 3) := by decide +kernel
theorem dX7_accepted_32 : decode cX7_accepted 32 = .ok (.iload_n 1, 1) := by decide +kernel
theorem dX7_accepted_33 : decode cX7_accepted 33 = .ok (.iaload, 1) := by decide +kernel
theorem dX7_accepted_34 : decode cX7_accepted 34 = .ok (.aload_n 0, 1) := by decide +kernel
theorem dX7_accepted_35 : decode cX7_accepted 35 = .ok (.getfield 16, 3) := by decide +kernel
theorem dX7_accepted_38 : decode cX7_accepted 38 = .ok (.iload_n 2, 1) := by decide +kernel
theorem dX7_accepted_39 : decode cX7_accepted 39 = .ok (.iaload, 1) := by decide +kernel
theorem dX7_accepted_40 : decode cX7_accepted 40 = .ok (.if_icmp .gt 31, 3) := by decide +kernel
theorem dX7_accepted_43 : decode cX7_accepted 43 = .ok (.aload_n 0, 1) := by decide +kernel
theorem dX7_accepted_44 : decode cX7_accepted 44 = .ok (.getfield 16, 3) := by decide +kernel
theorem dX7_accepted_47 : decode cX7_accepted 47 = .ok (.iload_n 1, 1) := by decide +kernel
theorem dX7_accepted_48 : decode cX7_accepted 48 = .ok (.iaload, 1) := by decide +kernel
theorem dX7_accepted_49 : decode cX7_accepted 49 = .ok (.aload_n 0, 1) := by decide +kernel
theorem dX7_accepted_50 : decode cX7_accepted 50 = .ok (.getfield 16, 3) := by decide +kernel
theorem dX7_accepted_53 : decode cX7_accepted 53 = .ok (.iload_n 2, 1) := by decide +kernel
theorem dX7_accepted_54 : decode cX7_accepted 54 = .ok (.iaload, 1) := by decide +kernel
theorem dX7_accepted_55 : decode cX7_accepted 55 = .ok (.if_icmp .ne 28, 3) := by decide +kernel
theorem dX7_accepted_58 : decode cX7_accepted 58 = .ok (.aload_n 0, 1) := by decide +kernel
theorem dX7_accepted_59 : decode cX7_accepted 59 = .ok (.iload_n 1, 1) := by decide +kernel
theorem dX7_accepted_60 : decode cX7_accepted 60 = .ok (.invokevirtual 159, 3) := by decide +kernel
theorem dX7_accepted_63 : decode cX7_accepted 63 = .ok (.aload_n 0, 1) := by decide +kernel
theorem dX7_accepted_64 : decode cX7_accepted 64 = .ok (.iload_n 2, 1) := by decide +kernel
theorem dX7_accepted_65 : decode cX7_accepted 65 = .ok (.invokevirtual 159, 3) := by decide +kernel
theorem dX7_accepted_68 : decode cX7_accepted 68 = .ok (.if_icmp .le 15, 3) := by decide +kernel
theorem dX7_accepted_71 : decode cX7_accepted 71 = .ok (.aload_n 0, 1) := by decide +kernel
theorem dX7_accepted_72 : decode cX7_accepted 72 = .ok (.iload_n 1, 1) := by decide +kernel
theorem dX7_accepted_73 : decode cX7_accepted 73 = .ok (.iload_n 2, 1) := by decide +kernel
theorem dX7_accepted_74 : decode cX7_accepted 74 = .ok (.aload_n 0, 1) := by decide +kernel
theorem dX7_accepted_75 : decode cX7_accepted 75 = .ok (.getfield 22, 3) := by decide +kernel
theorem dX7_accepted_78 : decode cX7_accepted 78 = .ok (.iload_n 1, 1) := by decide +kernel
theorem dX7_accepted_79 : decode cX7_accepted 79 = .ok (.iaload, 1) := by decide +kernel
theorem dX7_accepted_80 : decode cX7_accepted 80 = .ok (.invokevirtual 162, 3) := by decide +kernel
theorem dX7_accepted_83 : decode cX7_accepted 83 = .ok (.aload_n 0, 1) := by decide +kernel
theorem dX7_accepted_84 : decode cX7_accepted 84 = .ok (.getfield 16, 3) := by decide +kernel
theorem dX7_accepted_87 : decode cX7_accepted 87 = .ok (.iload_n 2, 1) := by decide +kernel
theorem dX7_accepted_88 : decode cX7_accepted 88 = .ok (.aload_n 0, 1) := by decide +kernel
theorem dX7_accepted_89 : decode cX7_accepted 89 = .ok (.getfield 40, 3) := by decide +kernel
theorem dX7_accepted_92 : decode cX7_accepted 92 = .ok (.iload_n 2, 1) := by decide +kernel
theorem dX7_accepted_93 : decode cX7_accepted 93 = .ok (.iaload, 1) := by decide +kernel
theorem dX7_accepted_94 : decode cX7_accepted 94 = .ok (.iastore, 1) := by decide +kernel
theorem dX7_accepted_95 : decode cX7_accepted 95 = .ok (.aload_n 0, 1) := by decide +kernel
theorem dX7_accepted_96 : decode cX7_accepted 96 = .ok (.getfield 43, 3) := by decide +kernel
theorem dX7_accepted_99 : decode cX7_accepted 99 = .ok (.iload_n 2, 1) := by decide +kernel
theorem dX7_accepted_100 : decode cX7_accepted 100 = .ok (.iconst 1, 1) := by decide +kernel
theorem dX7_accepted_101 : decode cX7_accepted 101 = .ok (.bastore, 1) := by decide +kernel
theorem dX7_accepted_102 : decode cX7_accepted 102 = .ok (.aload_n 0, 1) := by decide +kernel
theorem dX7_accepted_103 : decode cX7_accepted 103 = .ok (.iload_n 1, 1) := by decide +kernel
theorem dX7_accepted_104 : decode cX7_accepted 104 = .ok (.iload_n 2, 1) := by decide +kernel
theorem dX7_accepted_105 : decode cX7_accepted 105 = .ok (.invokevirtual 156, 3) := by decide +kernel
theorem dX7_accepted_108 : decode cX7_accepted 108 = .ok (.iconst 0, 1) := by decide +kernel
theorem dX7_accepted_109 : decode cX7_accepted 109 = .ok (.istore 4, 2) := by decide +kernel
theorem dX7_accepted_111 : decode cX7_accepted 111 = .ok (.iload 4, 2) := by decide +kernel
theorem dX7_accepted_113 : decode cX7_accepted 113 = .ok (.iconst 3, 1) := by decide +kernel
theorem dX7_accepted_114 : decode cX7_accepted 114 = .ok (.if_icmp .ge 36, 3) := by decide +kernel
theorem dX7_accepted_117 : decode cX7_accepted 117 = .ok (.aload_n 0, 1) := by decide +kernel
theorem dX7_accepted_118 : decode cX7_accepted 118 = .ok (.iload 4, 2) := by decide +kernel
theorem dX7_accepted_120 : decode cX7_accepted 120 = .ok (.iload_n 2, 1) := by decide +kernel
theorem dX7_accepted_121 : decode cX7_accepted 121 = .ok (.invokevirtual 130, 3) := by decide +kernel
theorem dX7_accepted_124 : decode cX7_accepted 124 = .ok (.ifCond .eq 20, 3) := by decide +kernel
theorem dX7_accepted_127 : decode cX7_accepted 127 = .ok (.aload_n 0, 1) := by decide +kernel
theorem dX7_accepted_128 : decode cX7_accepted 128 = .ok (.getfield 56, 3) := by decide +kernel
theorem dX7_accepted_131 : decode cX7_accepted 131 = .ok (.iload 4, 2) := by decide +kernel
theorem dX7_accepted_133 : decode cX7_accepted 133 = .ok (.baload, 1) := by decide +kernel
theorem dX7_accepted_134 : decode cX7_accepted 134 = .ok (.ifCond .eq 10, 3) := by decide +kernel
theorem dX7_accepted_137 : decode cX7_accepted 137 = .ok (.aload_n 0, 1) := by decide +kernel
theorem dX7_accepted_138 : decode cX7_accepted 138 = .ok (.iload 4, 2) := by decide +kernel
theorem dX7_accepted_140 : decode cX7_accepted 140 = .ok (.iload_n 2, 1) := by decide +kernel
theorem dX7_accepted_141 : decode cX7_accepted 141 = .ok (.invokevirtual 156, 3) := by decide +kernel
theorem dX7_accepted_144 : decode cX7_accepted 144 = .ok (.iinc 4 1, 3) := by decide +kernel
theorem dX7_accepted_147 : decode cX7_accepted 147 = .ok (.goto (-36), 3) := by decide +kernel
theorem dX7_accepted_150 : decode cX7_accepted 150 = .ok (.return_, 1) := by decide +kernel
theorem dX7_acknowledged_0 : decode cX7_acknowledged 0 = .ok (.aload_n 0, 1) := by decide +kernel
theorem dX7_acknowledged_1 : decode cX7_acknowledged 1 = .ok (.getfield 62, 3) := by decide +kernel
theorem dX7_acknowledged_4 : decode cX7_acknowledged 4 = .ok (.iload_n 1, 1) := by decide +kernel
theorem dX7_acknowledged_5 : decode cX7_acknowledged 5 = .ok (.baload, 1) := by decide +kernel
theorem dX7_acknowledged_6 : decode cX7_acknowledged 6 = .ok (.istore 4, 2) := by decide +kernel
theorem dX7_acknowledged_8 : decode cX7_acknowledged 8 = .ok (.aload_n 0, 1) := by decide +kernel
theorem dX7_acknowledged_9 : decode cX7_acknowledged 9 = .ok (.getfield 62, 3) := by decide +kernel
theorem dX7_acknowledged_12 : decode cX7_acknowledged 12 = .ok (.iload_n 1, 1) := by decide +kernel
theorem dX7_acknowledged_13 : decode cX7_acknowledged 13 = .ok (.iconst 1, 1) := by decide +kernel
theorem dX7_acknowledged_14 : decode cX7_acknowledged 14 = .ok (.bastore, 1) := by decide +kernel
theorem dX7_acknowledged_15 : decode cX7_acknowledged 15 = .ok (.aload_n 0, 1) := by decide +kernel
theorem dX7_acknowledged_16 : decode cX7_acknowledged 16 = .ok (.getfield 7, 3) := by decide +kernel
theorem dX7_acknowledged_19 : decode cX7_acknowledged 19 = .ok (.iload_n 2, 1) := by decide +kernel
theorem dX7_acknowledged_20 : decode cX7_acknowledged 20 = .ok (.iaload, 1) := by decide +kernel
theorem dX7_acknowledged_21 : decode cX7_acknowledged 21 = .ok (.iconst 3, 1) := by decide +kernel
theorem dX7_acknowledged_22 : decode cX7_acknowledged 22 = .ok (.if_icmp .ne 37, 3) := by decide +kernel
theorem dX7_acknowledged_25 : decode cX7_acknowledged 25 = .ok (.aload_n 0, 1) := by decide +kernel
theorem dX7_acknowledged_26 : decode cX7_acknowledged 26 = .ok (.getfield 7, 3) := by decide +kernel
theorem dX7_acknowledged_29 : decode cX7_acknowledged 29 = .ok (.iload_n 2, 1) := by decide +kernel
theorem dX7_acknowledged_30 : decode cX7_acknowledged 30 = .ok (.iconst 4, 1) := by decide +kernel
theorem dX7_acknowledged_31 : decode cX7_acknowledged 31 = .ok (.iastore, 1) := by decide +kernel
theorem dX7_acknowledged_32 : decode cX7_acknowledged 32 = .ok (.iconst 0, 1) := by decide +kernel
theorem dX7_acknowledged_33 : decode cX7_acknowledged 33 = .ok (.istore 5, 2) := by decide +kernel
theorem dX7_acknowledged_35 : decode cX7_acknowledged 35 = .ok (.iload 5, 2) := by decide +kernel
theorem dX7_acknowledged_37 : decode cX7_acknowledged 37 = .ok (.iconst 5, 1) := by decide +kernel
theorem dX7_acknowledged_38 : decode cX7_acknowledged 38 = .ok (.if_icmp .ge 21, 3) := by decide +kernel
theorem dX7_acknowledged_41 : decode cX7_acknowledged 41 = .ok (.aload_n 0, 1) := by decide +kernel
theorem dX7_acknowledged_42 : decode cX7_acknowledged 42 = .ok (.getfield 50, 3) := by decide +kernel
theorem dX7_acknowledged_45 : decode cX7_acknowledged 45 = .ok (.iconst 5, 1) := by decide +kernel
theorem dX7_acknowledged_46 : decode cX7_acknowledged 46 = .ok (.iload_n 2, 1) := by decide +kernel
theorem dX7_acknowledged_47 : decode cX7_acknowledged 47 = .ok (.imul, 1) := by decide +kernel
theorem dX7_acknowledged_48 : decode cX7_acknowledged 48 = .ok (.iload 5, 2) := by decide +kernel
theorem dX7_acknowledged_50 : decode cX7_acknowledged 50 = .ok (.iadd, 1) := by decide +kernel
theorem dX7_acknowledged_51 : decode cX7_acknowledged 51 = .ok (.iconst 0, 1) := by decide +kernel
theorem dX7_acknowledged_52 : decode cX7_acknowledged 52 = .ok (.iastore, 1) := by decide +kernel
theorem dX7_acknowledged_53 : decode cX7_acknowledged 53 = .ok (.iinc 5 1, 3) := by decide +kernel
theorem dX7_acknowledged_56 : decode cX7_acknowledged 56 = .ok (.goto (-21), 3) := by decide +kernel
theorem dX7_acknowledged_59 : decode cX7_acknowledged 59 = .ok (.iload_n 3, 1) := by decide +kernel
theorem dX7_acknowledged_60 : decode cX7_acknowledged 60 = .ok (.aload_n 0, 1) := by decide +kernel
theorem dX7_acknowledged_61 : decode cX7_acknowledged 61 = .ok (.getfield 19, 3) := by decide +kernel
theorem dX7_acknowledged_64 : decode cX7_acknowledged 64 = .ok (.iload_n 2, 1) := by decide +kernel
theorem dX7_acknowledged_65 : decode cX7_acknowledged 65 = .ok (.iaload, 1) := by decide +kernel
theorem dX7_acknowledged_66 : decode cX7_acknowledged 66 = .ok (.if_icmp .le 57, 3) := by decide +kernel
theorem dX7_acknowledged_69 : decode cX7_acknowledged 69 = .ok (.aload_n 0, 1) := by decide +kernel
theorem dX7_acknowledged_70 : decode cX7_acknowledged 70 = .ok (.getfield 19, 3) := by decide +kernel
theorem dX7_acknowledged_73 : decode cX7_acknowledged 73 = .ok (.iload_n 2, 1) := by decide +kernel
theorem dX7_acknowledged_74 : decode cX7_acknowledged 74 = .ok (.iload_n 3, 1) := by decide +kernel
theorem dX7_acknowledged_75 : decode cX7_acknowledged 75 = .ok (.iastore, 1) := by decide +kernel
theorem dX7_acknowledged_76 : decode cX7_acknowledged 76 = .ok (.iconst 0, 1) := by decide +kernel
theorem dX7_acknowledged_77 : decode cX7_acknowledged 77 = .ok (.istore 5, 2) := by decide +kernel
theorem dX7_acknowledged_79 : decode cX7_acknowledged 79 = .ok (.iload 5, 2) := by decide +kernel
theorem dX7_acknowledged_81 : decode cX7_acknowledged 81 = .ok (.iconst 3, 1) := by decide +kernel
theorem dX7_acknowledged_82 : decode cX7_acknowledged 82 = .ok (.if_icmp .ge 38, 3) := by decide +kernel
theorem dX7_acknowledged_85 : decode cX7_acknowledged 85 = .ok (.aload_n 0, 1) := by decide +kernel
theorem dX7_acknowledged_86 : decode cX7_acknowledged 86 = .ok (.iload 5, 2) := by decide +kernel
theorem dX7_acknowledged_88 : decode cX7_acknowledged 88 = .ok (.iload_n 2, 1) := by decide +kernel
theorem dX7_acknowledged_89 : decode cX7_acknowledged 89 = .ok (.invokevirtual 130, 3) := by decide +kernel
theorem dX7_acknowledged_92 : decode cX7_acknowledged 92 = .ok (.ifCond .eq 22, 3) := by decide +kernel
theorem dX7_acknowledged_95 : decode cX7_acknowledged 95 = .ok (.aload_n 0, 1) := by decide +kernel
theorem dX7_acknowledged_96 : decode cX7_acknowledged 96 = .ok (.getfield 59, 3) := by decide +kernel
theorem dX7_acknowledged_99 : decode cX7_acknowledged 99 = .ok (.iload 5, 2) := by decide +kernel
theorem dX7_acknowledged_101 : decode cX7_acknowledged 101 = .ok (.baload, 1) := by decide +kernel
theorem dX7_acknowledged_102 : decode cX7_acknowledged 102 = .ok (.ifCond .eq 12, 3) := by decide +kernel
theorem dX7_acknowledged_105 : decode cX7_acknowledged 105 = .ok (.aload_n 0, 1) := by decide +kernel
theorem dX7_acknowledged_106 : decode cX7_acknowledged 106 = .ok (.iload 5, 2) := by decide +kernel
theorem dX7_acknowledged_108 : decode cX7_acknowledged 108 = .ok (.bipush 7, 2) := by decide +kernel
theorem dX7_acknowledged_110 : decode cX7_acknowledged 110 = .ok (.iload_n 3, 1) := by decide +kernel
theorem dX7_acknowledged_111 : decode cX7_acknowledged 111 = .ok (.invokevirtual 149, 3) := by decide +kernel
theorem dX7_acknowledged_114 : decode cX7_acknowledged 114 = .ok (.iinc 5 1, 3) := by decide +kernel
theorem dX7_acknowledged_117 : decode cX7_acknowledged 117 = .ok (.goto (-38), 3) := by decide +kernel
theorem dX7_acknowledged_120 : decode cX7_acknowledged 120 = .ok (.goto 21, 3) := by decide +kernel
theorem dX7_acknowledged_123 : decode cX7_acknowledged 123 = .ok (.iload 4, 2) := by decide +kernel
theorem dX7_acknowledged_125 : decode cX7_acknowledged 125 = .ok (.ifCond .ne 16, 3) := by decide +kernel
theorem dX7_acknowledged_128 : decode cX7_acknowledged 128 = .ok (.aload_n 0, 1) := by decide +kernel
theorem dX7_acknowledged_129 : decode cX7_acknowledged 129 = .ok (.iload_n 1, 1) := by decide +kernel
theorem dX7_acknowledged_130 : decode cX7_acknowledged 130 = .ok (.bipush 7, 2) := by decide +kernel
theorem dX7_acknowledged_132 : decode cX7_acknowledged 132 = .ok (.aload_n 0, 1) := by decide +kernel
theorem dX7_acknowledged_133 : decode cX7_acknowledged 133 = .ok (.getfield 19, 3) := by decide +kernel
theorem dX7_acknowledged_136 : decode cX7_acknowledged 136 = .ok (.iload_n 2, 1) := by decide +kernel
theorem dX7_acknowledged_137 : decode cX7_acknowledged 137 = .ok (.iaload, 1) := by decide +kernel
theorem dX7_acknowledged_138 : decode cX7_acknowledged 138 = .ok (.invokevirtual 149, 3) := by decide +kernel
theorem dX7_acknowledged_141 : decode cX7_acknowledged 141 = .ok (.return_, 1) := by decide +kernel
theorem dX7_up_0 : decode cX7_up 0 = .ok (.iload_n 1, 1) := by decide +kernel
theorem dX7_up_1 : decode cX7_up 1 = .ok (.invokestatic 138, 3) := by decide +kernel
theorem dX7_up_4 : decode cX7_up 4 = .ok (.ifCond .eq 5, 3) := by decide +kernel
theorem dX7_up_7 : decode cX7_up 7 = .ok (.iconst 0, 1) := by decide +kernel
theorem dX7_up_8 : decode cX7_up 8 = .ok (.ireturn, 1) := by decide +kernel
theorem dX7_up_9 : decode cX7_up 9 = .ok (.aload_n 0, 1) := by decide +kernel
theorem dX7_up_10 : decode cX7_up 10 = .ok (.getfield 7, 3) := by decide +kernel
theorem dX7_up_13 : decode cX7_up 13 = .ok (.iload_n 1, 1) := by decide +kernel
theorem dX7_up_14 : decode cX7_up 14 = .ok (.iaload, 1) := by decide +kernel
theorem dX7_up_15 : decode cX7_up 15 = .ok (.iconst 2, 1) := by decide +kernel
theorem dX7_up_16 : decode cX7_up 16 = .ok (.if_icmp .ne 18, 3) := by decide +kernel
theorem dX7_up_19 : decode cX7_up 19 = .ok (.aload_n 0, 1) := by decide +kernel
theorem dX7_up_20 : decode cX7_up 20 = .ok (.getfield 74, 3) := by decide +kernel
theorem dX7_up_23 : decode cX7_up 23 = .ok (.iload_n 1, 1) := by decide +kernel
theorem dX7_up_24 : decode cX7_up 24 = .ok (.iaload, 1) := by decide +kernel
theorem dX7_up_25 : decode cX7_up 25 = .ok (.aload_n 0, 1) := by decide +kernel
theorem dX7_up_26 : decode cX7_up 26 = .ok (.getfield 71, 3) := by decide +kernel
theorem dX7_up_29 : decode cX7_up 29 = .ok (.iload_n 1, 1) := by decide +kernel
theorem dX7_up_30 : decode cX7_up 30 = .ok (.iaload, 1) := by decide +kernel
theorem dX7_up_31 : decode cX7_up 31 = .ok (.if_icmp .ne 5, 3) := by decide +kernel
theorem dX7_up_34 : decode cX7_up 34 = .ok (.iconst 0, 1) := by decide +kernel
theorem dX7_up_35 : decode cX7_up 35 = .ok (.ireturn, 1) := by decide +kernel
theorem dX7_up_36 : decode cX7_up 36 = .ok (.aload_n 0, 1) := by decide +kernel
theorem dX7_up_37 : decode cX7_up 37 = .ok (.getfield 53, 3) := by decide +kernel
theorem dX7_up_40 : decode cX7_up 40 = .ok (.iload_n 1, 1) := by decide +kernel
theorem dX7_up_41 : decode cX7_up 41 = .ok (.iaload, 1) := by decide +kernel
theorem dX7_up_42 : decode cX7_up 42 = .ok (.istore_n 2, 1) := by decide +kernel
theorem dX7_up_43 : decode cX7_up 43 = .ok (.bipush 64, 2) := by decide +kernel
theorem dX7_up_45 : decode cX7_up 45 = .ok (.iload_n 1, 1) := by decide +kernel
theorem dX7_up_46 : decode cX7_up 46 = .ok (.imul, 1) := by decide +kernel
theorem dX7_up_47 : decode cX7_up 47 = .ok (.aload_n 0, 1) := by decide +kernel
theorem dX7_up_48 : decode cX7_up 48 = .ok (.getfield 74, 3) := by decide +kernel
theorem dX7_up_51 : decode cX7_up 51 = .ok (.iload_n 1, 1) := by decide +kernel
theorem dX7_up_52 : decode cX7_up 52 = .ok (.iaload, 1) := by decide +kernel
theorem dX7_up_53 : decode cX7_up 53 = .ok (.iadd, 1) := by decide +kernel
theorem dX7_up_54 : decode cX7_up 54 = .ok (.istore_n 3, 1) := by decide +kernel
theorem dX7_up_55 : decode cX7_up 55 = .ok (.aload_n 0, 1) := by decide +kernel
theorem dX7_up_56 : decode cX7_up 56 = .ok (.getfield 65, 3) := by decide +kernel
theorem dX7_up_59 : decode cX7_up 59 = .ok (.iload_n 3, 1) := by decide +kernel
theorem dX7_up_60 : decode cX7_up 60 = .ok (.iaload, 1) := by decide +kernel
theorem dX7_up_61 : decode cX7_up 61 = .ok (.istore 4, 2) := by decide +kernel
theorem dX7_up_63 : decode cX7_up 63 = .ok (.aload_n 0, 1) := by decide +kernel
theorem dX7_up_64 : decode cX7_up 64 = .ok (.getfield 68, 3) := by decide +kernel
theorem dX7_up_67 : decode cX7_up 67 = .ok (.iload_n 3, 1) := by decide +kernel
theorem dX7_up_68 : decode cX7_up 68 = .ok (.iaload, 1) := by decide +kernel
theorem dX7_up_69 : decode cX7_up 69 = .ok (.istore 5, 2) := by decide +kernel
theorem dX7_up_71 : decode cX7_up 71 = .ok (.aload_n 0, 1) := by decide +kernel
theorem dX7_up_72 : decode cX7_up 72 = .ok (.getfield 74, 3) := by decide +kernel
theorem dX7_up_75 : decode cX7_up 75 = .ok (.iload_n 1, 1) := by decide +kernel
theorem dX7_up_76 : decode cX7_up 76 = .ok (.dup2, 1) := by decide +kernel
theorem dX7_up_77 : decode cX7_up 77 = .ok (.iaload, 1) := by decide +kernel
theorem dX7_up_78 : decode cX7_up 78 = .ok (.iconst 1, 1) := by decide +kernel
theorem dX7_up_79 : decode cX7_up 79 = .ok (.iadd, 1) := by decide +kernel
theorem dX7_up_80 : decode cX7_up 80 = .ok (.iastore, 1) := by decide +kernel
theorem dX7_up_81 : decode cX7_up 81 = .ok (.iload 4, 2) := by decide +kernel
theorem dX7_up_83 : decode cX7_up 83 = .ok (.iconst 1, 1) := by decide +kernel
theorem dX7_up_84 : decode cX7_up 84 = .ok (.if_icmp .ne 69, 3) := by decide +kernel
theorem dX7_up_87 : decode cX7_up 87 = .ok (.aload_n 0, 1) := by decide +kernel
theorem dX7_up_88 : decode cX7_up 88 = .ok (.getfield 40, 3) := by decide +kernel
theorem dX7_up_91 : decode cX7_up 91 = .ok (.iload_n 2, 1) := by decide +kernel
theorem dX7_up_92 : decode cX7_up 92 = .ok (.iaload, 1) := by decide +kernel
theorem dX7_up_93 : decode cX7_up 93 = .ok (.ifCond .ne 45, 3) := by decide +kernel
theorem dX7_up_96 : decode cX7_up 96 = .ok (.aload_n 0, 1) := by decide +kernel
theorem dX7_up_97 : decode cX7_up 97 = .ok (.getfield 40, 3) := by decide +kernel
theorem dX7_up_100 : decode cX7_up 100 = .ok (.iload_n 2, 1) := by decide +kernel
theorem dX7_up_101 : decode cX7_up 101 = .ok (.iconst 1, 1) := by decide +kernel
theorem dX7_up_102 : decode cX7_up 102 = .ok (.iload 5, 2) := by decide +kernel
theorem dX7_up_104 : decode cX7_up 104 = .ok (.aload_n 0, 1) := by decide +kernel
theorem dX7_up_105 : decode cX7_up 105 = .ok (.getfield 13, 3) := by decide +kernel
theorem dX7_up_108 : decode cX7_up 108 = .ok (.iload_n 2, 1) := by decide +kernel
theorem dX7_up_109 : decode cX7_up 109 = .ok (.iaload, 1) := by decide +kernel
theorem dX7_up_110 : decode cX7_up 110 = .ok (.if_icmp .le 8, 3) := by decide +kernel
theorem dX7_up_113 : decode cX7_up 113 = .ok (.iload 5, 2) := by decide +kernel
theorem dX7_up_115 : decode cX7_up 115 = .ok (.goto 9, 3) := by decide +kernel
theorem dX7_up_118 : decode cX7_up 118 = .ok (.aload_n 0, 1) := by decide +kernel
theorem dX7_up_119 : decode cX7_up 119 = .ok (.getfield 13, 3) := by decide +kernel
theorem dX7_up_122 : decode cX7_up 122 = .ok (.iload_n 2, 1) := by decide +kernel
theorem dX7_up_123 : decode cX7_up 123 = .ok (.iaload, 1) := by decide +kernel
theorem dX7_up_124 : decode cX7_up 124 = .ok (.iadd, 1) := by decide +kernel
theorem dX7_up_125 : decode cX7_up 125 = .ok (.iastore, 1) := by decide +kernel
theorem dX7_up_126 : decode cX7_up 126 = .ok (.aload_n 0, 1) := by decide +kernel
theorem dX7_up_127 : decode cX7_up 127 = .ok (.getfield 13, 3) := by decide +kernel
theorem dX7_up_130 : decode cX7_up 130 = .ok (.iload_n 2, 1) := by decide +kernel
theorem dX7_up_131 : decode cX7_up 131 = .ok (.aload_n 0, 1) := by decide +kernel
theorem dX7_up_132 : decode cX7_up 132 = .ok (.getfield 40, 3) := by decide +kernel
theorem dX7_up_135 : decode cX7_up 135 = .ok (.iload_n 2, 1) := by decide +kernel
theorem dX7_up_136 : decode cX7_up 136 = .ok (.iaload, 1) := by decide +kernel
theorem dX7_up_137 : decode cX7_up 137 = .ok (.iastore, 1) := by decide +kernel
theorem dX7_up_138 : decode cX7_up 138 = .ok (.aload_n 0, 1) := by decide +kernel
theorem dX7_up_139 : decode cX7_up 139 = .ok (.iload_n 1, 1) := by decide +kernel
theorem dX7_up_140 : decode cX7_up 140 = .ok (.iconst 4, 1) := by decide +kernel
theorem dX7_up_141 : decode cX7_up 141 = .ok (.aload_n 0, 1) := by decide +kernel
theorem dX7_up_142 : decode cX7_up 142 = .ok (.getfield 40, 3) := by decide +kernel
theorem dX7_up_145 : decode cX7_up 145 = .ok (.iload_n 2, 1) := by decide +kernel
theorem dX7_up_146 : decode cX7_up 146 = .ok (.iaload, 1) := by decide +kernel
theorem dX7_up_147 : decode cX7_up 147 = .ok (.invokevirtual 149, 3) := by decide +kernel
theorem dX7_up_150 : decode cX7_up 150 = .ok (.goto 37, 3) := by decide +kernel
theorem dX7_up_153 : decode cX7_up 153 = .ok (.iload 4, 2) := by decide +kernel
theorem dX7_up_155 : decode cX7_up 155 = .ok (.iconst 2, 1) := by decide +kernel
theorem dX7_up_156 : decode cX7_up 156 = .ok (.if_icmp .ne 23, 3) := by decide +kernel
theorem dX7_up_159 : decode cX7_up 159 = .ok (.aload_n 0, 1) := by decide +kernel
theorem dX7_up_160 : decode cX7_up 160 = .ok (.iload_n 1, 1) := by decide +kernel
theorem dX7_up_161 : decode cX7_up 161 = .ok (.iload_n 2, 1) := by decide +kernel
theorem dX7_up_162 : decode cX7_up 162 = .ok (.iload 5, 2) := by decide +kernel
theorem dX7_up_164 : decode cX7_up 164 = .ok (.iconst 1, 1) := by decide +kernel
theorem dX7_up_165 : decode cX7_up 165 = .ok (.if_icmp .ne 7, 3) := by decide +kernel
theorem dX7_up_168 : decode cX7_up 168 = .ok (.iconst 1, 1) := by decide +kernel
theorem dX7_up_169 : decode cX7_up 169 = .ok (.goto 4, 3) := by decide +kernel
theorem dX7_up_172 : decode cX7_up 172 = .ok (.iconst 0, 1) := by decide +kernel
theorem dX7_up_173 : decode cX7_up 173 = .ok (.invokevirtual 165, 3) := by decide +kernel
theorem dX7_up_176 : decode cX7_up 176 = .ok (.goto 11, 3) := by decide +kernel
theorem dX7_up_179 : decode cX7_up 179 = .ok (.aload_n 0, 1) := by decide +kernel
theorem dX7_up_180 : decode cX7_up 180 = .ok (.iload_n 1, 1) := by decide +kernel
theorem dX7_up_181 : decode cX7_up 181 = .ok (.iload_n 2, 1) := by decide +kernel
theorem dX7_up_182 : decode cX7_up 182 = .ok (.iload 5, 2) := by decide +kernel
theorem dX7_up_184 : decode cX7_up 184 = .ok (.invokevirtual 169, 3) := by decide +kernel
theorem dX7_up_187 : decode cX7_up 187 = .ok (.iload 4, 2) := by decide +kernel
theorem dX7_up_189 : decode cX7_up 189 = .ok (.ireturn, 1) := by decide +kernel
theorem dX7_down_0 : decode cX7_down 0 = .ok (.iload_n 1, 1) := by decide +kernel
theorem dX7_down_1 : decode cX7_down 1 = .ok (.invokestatic 138, 3) := by decide +kernel
theorem dX7_down_4 : decode cX7_down 4 = .ok (.ifCond .eq 5, 3) := by decide +kernel
theorem dX7_down_7 : decode cX7_down 7 = .ok (.iconst 0, 1) := by decide +kernel
theorem dX7_down_8 : decode cX7_down 8 = .ok (.ireturn, 1) := by decide +kernel
theorem dX7_down_9 : decode cX7_down 9 = .ok (.aload_n 0, 1) := by decide +kernel
theorem dX7_down_10 : decode cX7_down 10 = .ok (.getfield 7, 3) := by decide +kernel
theorem dX7_down_13 : decode cX7_down 13 = .ok (.iload_n 1, 1) := by decide +kernel
theorem dX7_down_14 : decode cX7_down 14 = .ok (.iaload, 1) := by decide +kernel
theorem dX7_down_15 : decode cX7_down 15 = .ok (.iconst 2, 1) := by decide +kernel
theorem dX7_down_16 : decode cX7_down 16 = .ok (.if_icmp .ne 18, 3) := by decide +kernel
theorem dX7_down_19 : decode cX7_down 19 = .ok (.aload_n 0, 1) := by decide +kernel
theorem dX7_down_20 : decode cX7_down 20 = .ok (.getfield 86, 3) := by decide +kernel
theorem dX7_down_23 : decode cX7_down 23 = .ok (.iload_n 1, 1) := by decide +kernel
theorem dX7_down_24 : decode cX7_down 24 = .ok (.iaload, 1) := by decide +kernel
theorem dX7_down_25 : decode cX7_down 25 = .ok (.aload_n 0, 1) := by decide +kernel
theorem dX7_down_26 : decode cX7_down 26 = .ok (.getfield 83, 3) := by decide +kernel
theorem dX7_down_29 : decode cX7_down 29 = .ok (.iload_n 1, 1) := by decide +kernel
theorem dX7_down_30 : decode cX7_down 30 = .ok (.iaload, 1) := by decide +kernel
theorem dX7_down_31 : decode cX7_down 31 = .ok (.if_icmp .ne 5, 3) := by decide +kernel
theorem dX7_down_34 : decode cX7_down 34 = .ok (.iconst 0, 1) := by decide +kernel
theorem dX7_down_35 : decode cX7_down 35 = .ok (.ireturn, 1) := by decide +kernel
theorem dX7_down_36 : decode cX7_down 36 = .ok (.aload_n 0, 1) := by decide +kernel
theorem dX7_down_37 : decode cX7_down 37 = .ok (.getfield 53, 3) := by decide +kernel
theorem dX7_down_40 : decode cX7_down 40 = .ok (.iload_n 1, 1) := by decide +kernel
theorem dX7_down_41 : decode cX7_down 41 = .ok (.iaload, 1) := by decide +kernel
theorem dX7_down_42 : decode cX7_down 42 = .ok (.istore_n 2, 1) := by decide +kernel
theorem dX7_down_43 : decode cX7_down 43 = .ok (.bipush 64, 2) := by decide +kernel
theorem dX7_down_45 : decode cX7_down 45 = .ok (.iload_n 1, 1) := by decide +kernel
theorem dX7_down_46 : decode cX7_down 46 = .ok (.imul, 1) := by decide +kernel
theorem dX7_down_47 : decode cX7_down 47 = .ok (.aload_n 0, 1) := by decide +kernel
theorem dX7_down_48 : decode cX7_down 48 = .ok (.getfield 86, 3) := by decide +kernel
theorem dX7_down_51 : decode cX7_down 51 = .ok (.iload_n 1, 1) := by decide +kernel
theorem dX7_down_52 : decode cX7_down 52 = .ok (.iaload, 1) := by decide +kernel
theorem dX7_down_53 : decode cX7_down 53 = .ok (.iadd, 1) := by decide +kernel
theorem dX7_down_54 : decode cX7_down 54 = .ok (.istore_n 3, 1) := by decide +kernel
theorem dX7_down_55 : decode cX7_down 55 = .ok (.aload_n 0, 1) := by decide +kernel
theorem dX7_down_56 : decode cX7_down 56 = .ok (.getfield 77, 3) := by decide +kernel
theorem dX7_down_59 : decode cX7_down 59 = .ok (.iload_n 3, 1) := by decide +kernel
theorem dX7_down_60 : decode cX7_down 60 = .ok (.iaload, 1) := by decide +kernel
theorem dX7_down_61 : decode cX7_down 61 = .ok (.istore 4, 2) := by decide +kernel
theorem dX7_down_63 : decode cX7_down 63 = .ok (.aload_n 0, 1) := by decide +kernel
theorem dX7_down_64 : decode cX7_down 64 = .ok (.getfield 80, 3) := by decide +kernel
theorem dX7_down_67 : decode cX7_down 67 = .ok (.iload_n 3, 1) := by decide +kernel
theorem dX7_down_68 : decode cX7_down 68 = .ok (.iaload, 1) := by decide +kernel
theorem dX7_down_69 : decode cX7_down 69 = .ok (.istore 5, 2) := by decide +kernel
theorem dX7_down_71 : decode cX7_down 71 = .ok (.aload_n 0, 1) := by decide +kernel
theorem dX7_down_72 : decode cX7_down 72 = .ok (.getfield 86, 3) := by decide +kernel
theorem dX7_down_75 : decode cX7_down 75 = .ok (.iload_n 1, 1) := by decide +kernel
theorem dX7_down_76 : decode cX7_down 76 = .ok (.dup2, 1) := by decide +kernel
theorem dX7_down_77 : decode cX7_down 77 = .ok (.iaload, 1) := by decide +kernel
theorem dX7_down_78 : decode cX7_down 78 = .ok (.iconst 1, 1) := by decide +kernel
theorem dX7_down_79 : decode cX7_down 79 = .ok (.iadd, 1) := by decide +kernel
theorem dX7_down_80 : decode cX7_down 80 = .ok (.iastore, 1) := by decide +kernel
theorem dX7_down_81 : decode cX7_down 81 = .ok (.iload 4, 2) := by decide +kernel
theorem dX7_down_83 : decode cX7_down 83 = .ok (.iconst 4, 1) := by decide +kernel
theorem dX7_down_84 : decode cX7_down 84 = .ok (.if_icmp .ne 22, 3) := by decide +kernel
theorem dX7_down_87 : decode cX7_down 87 = .ok (.iload 5, 2) := by decide +kernel
theorem dX7_down_89 : decode cX7_down 89 = .ok (.aload_n 0, 1) := by decide +kernel
theorem dX7_down_90 : decode cX7_down 90 = .ok (.getfield 13, 3) := by decide +kernel
theorem dX7_down_93 : decode cX7_down 93 = .ok (.iload_n 1, 1) := by decide +kernel
theorem dX7_down_94 : decode cX7_down 94 = .ok (.iaload, 1) := by decide +kernel
theorem dX7_down_95 : decode cX7_down 95 = .ok (.if_icmp .ge 11, 3) := by decide +kernel
theorem dX7_down_98 : decode cX7_down 98 = .ok (.aload_n 0, 1) := by decide +kernel
theorem dX7_down_99 : decode cX7_down 99 = .ok (.iload_n 1, 1) := by decide +kernel
theorem dX7_down_100 : decode cX7_down 100 = .ok (.invokevirtual 134, 3) := by decide +kernel
theorem dX7_down_103 : decode cX7_down 103 = .ok (.goto 161, 3) := by decide +kernel
theorem dX7_down_106 : decode cX7_down 106 = .ok (.iload 4, 2) := by decide +kernel
theorem dX7_down_108 : decode cX7_down 108 = .ok (.iconst 4, 1) := by decide +kernel
theorem dX7_down_109 : decode cX7_down 109 = .ok (.if_icmp .ne 36, 3) := by decide +kernel
theorem dX7_down_112 : decode cX7_down 112 = .ok (.aload_n 0, 1) := by decide +kernel
theorem dX7_down_113 : decode cX7_down 113 = .ok (.iload_n 1, 1) := by decide +kernel
theorem dX7_down_114 : decode cX7_down 114 = .ok (.iconst 2, 1) := by decide +kernel
theorem dX7_down_115 : decode cX7_down 115 = .ok (.iload 5, 2) := by decide +kernel
theorem dX7_down_117 : decode cX7_down 117 = .ok (.aload_n 0, 1) := by decide +kernel
theorem dX7_down_118 : decode cX7_down 118 = .ok (.getfield 13, 3) := by decide +kernel
theorem dX7_down_121 : decode cX7_down 121 = .ok (.iload_n 1, 1) := by decide +kernel
theorem dX7_down_122 : decode cX7_down 122 = .ok (.iaload, 1) := by decide +kernel
theorem dX7_down_123 : decode cX7_down 123 = .ok (.if_icmp .le 7, 3) := by decide +kernel
theorem dX7_down_126 : decode cX7_down 126 = .ok (.iconst 1, 1) := by decide +kernel
theorem dX7_down_127 : decode cX7_down 127 = .ok (.goto 4, 3) := by decide +kernel
theorem dX7_down_130 : decode cX7_down 130 = .ok (.iconst 0, 1) := by decide +kernel
theorem dX7_down_131 : decode cX7_down 131 = .ok (.invokevirtual 142, 3) := by decide +kernel
theorem dX7_down_134 : decode cX7_down 134 = .ok (.aload_n 0, 1) := by decide +kernel
theorem dX7_down_135 : decode cX7_down 135 = .ok (.getfield 13, 3) := by decide +kernel
theorem dX7_down_138 : decode cX7_down 138 = .ok (.iload_n 1, 1) := by decide +kernel
theorem dX7_down_139 : decode cX7_down 139 = .ok (.iload 5, 2) := by decide +kernel
theorem dX7_down_141 : decode cX7_down 141 = .ok (.iastore, 1) := by decide +kernel
theorem dX7_down_142 : decode cX7_down 142 = .ok (.goto 122, 3) := by decide +kernel
theorem dX7_down_145 : decode cX7_down 145 = .ok (.iload 4, 2) := by decide +kernel
theorem dX7_down_147 : decode cX7_down 147 = .ok (.iconst 5, 1) := by decide +kernel
theorem dX7_down_148 : decode cX7_down 148 = .ok (.if_icmp .ne 34, 3) := by decide +kernel
theorem dX7_down_151 : decode cX7_down 151 = .ok (.aload_n 0, 1) := by decide +kernel
theorem dX7_down_152 : decode cX7_down 152 = .ok (.getfield 16, 3) := by decide +kernel
theorem dX7_down_155 : decode cX7_down 155 = .ok (.iload_n 1, 1) := by decide +kernel
theorem dX7_down_156 : decode cX7_down 156 = .ok (.aload_n 0, 1) := by decide +kernel
theorem dX7_down_157 : decode cX7_down 157 = .ok (.getfield 13, 3) := by decide +kernel
theorem dX7_down_160 : decode cX7_down 160 = .ok (.iload_n 1, 1) := by decide +kernel
theorem dX7_down_161 : decode cX7_down 161 = .ok (.iaload, 1) := by decide +kernel
theorem dX7_down_162 : decode cX7_down 162 = .ok (.iastore, 1) := by decide +kernel
theorem dX7_down_163 : decode cX7_down 163 = .ok (.aload_n 0, 1) := by decide +kernel
theorem dX7_down_164 : decode cX7_down 164 = .ok (.iload_n 2, 1) := by decide +kernel
theorem dX7_down_165 : decode cX7_down 165 = .ok (.iload_n 1, 1) := by decide +kernel
theorem dX7_down_166 : decode cX7_down 166 = .ok (.iload 5, 2) := by decide +kernel
theorem dX7_down_168 : decode cX7_down 168 = .ok (.invokevirtual 162, 3) := by decide +kernel
theorem dX7_down_171 : decode cX7_down 171 = .ok (.aload_n 0, 1) := by decide +kernel
theorem dX7_down_172 : decode cX7_down 172 = .ok (.iload_n 1, 1) := by decide +kernel
theorem dX7_down_173 : decode cX7_down 173 = .ok (.iconst 3, 1) := by decide +kernel
theorem dX7_down_174 : decode cX7_down 174 = .ok (.iload 5, 2) := by decide +kernel
theorem dX7_down_176 : decode cX7_down 176 = .ok (.invokevirtual 142, 3) := by decide +kernel
theorem dX7_down_179 : decode cX7_down 179 = .ok (.goto 85, 3) := by decide +kernel
theorem dX7_down_182 : decode cX7_down 182 = .ok (.iload 4, 2) := by decide +kernel
theorem dX7_down_184 : decode cX7_down 184 = .ok (.bipush 6, 2) := by decide +kernel
theorem dX7_down_186 : decode cX7_down 186 = .ok (.if_icmp .ne 50, 3) := by decide +kernel
theorem dX7_down_189 : decode cX7_down 189 = .ok (.aload_n 0, 1) := by decide +kernel
theorem dX7_down_190 : decode cX7_down 190 = .ok (.bipush 24, 2) := by decide +kernel
theorem dX7_down_192 : decode cX7_down 192 = .ok (.iload_n 2, 1) := by decide +kernel
theorem dX7_down_193 : decode cX7_down 193 = .ok (.imul, 1) := by decide +kernel
theorem dX7_down_194 : decode cX7_down 194 = .ok (.iload 5, 2) := by decide +kernel
theorem dX7_down_196 : decode cX7_down 196 = .ok (.iadd, 1) := by decide +kernel
theorem dX7_down_197 : decode cX7_down 197 = .ok (.bipush 24, 2) := by decide +kernel
theorem dX7_down_199 : decode cX7_down 199 = .ok (.iload_n 1, 1) := by decide +kernel
theorem dX7_down_200 : decode cX7_down 200 = .ok (.imul, 1) := by decide +kernel
theorem dX7_down_201 : decode cX7_down 201 = .ok (.aload_n 0, 1) := by decide +kernel
theorem dX7_down_202 : decode cX7_down 202 = .ok (.getfield 22, 3) := by decide +kernel
theorem dX7_down_205 : decode cX7_down 205 = .ok (.iload_n 1, 1) := by decide +kernel
theorem dX7_down_206 : decode cX7_down 206 = .ok (.iaload, 1) := by decide +kernel
theorem dX7_down_207 : decode cX7_down 207 = .ok (.iadd, 1) := by decide +kernel
theorem dX7_down_208 : decode cX7_down 208 = .ok (.invokevirtual 152, 3) := by decide +kernel
theorem dX7_down_211 : decode cX7_down 211 = .ok (.aload_n 0, 1) := by decide +kernel
theorem dX7_down_212 : decode cX7_down 212 = .ok (.getfield 22, 3) := by decide +kernel
theorem dX7_down_215 : decode cX7_down 215 = .ok (.iload_n 1, 1) := by decide +kernel
theorem dX7_down_216 : decode cX7_down 216 = .ok (.dup2, 1) := by decide +kernel
theorem dX7_down_217 : decode cX7_down 217 = .ok (.iaload, 1) := by decide +kernel
theorem dX7_down_218 : decode cX7_down 218 = .ok (.iconst 1, 1) := by decide +kernel
theorem dX7_down_219 : decode cX7_down 219 = .ok (.iadd, 1) := by decide +kernel
theorem dX7_down_220 : decode cX7_down 220 = .ok (.iastore, 1) := by decide +kernel
theorem dX7_down_221 : decode cX7_down 221 = .ok (.aload_n 0, 1) := by decide +kernel
theorem dX7_down_222 : decode cX7_down 222 = .ok (.iload_n 1, 1) := by decide +kernel
theorem dX7_down_223 : decode cX7_down 223 = .ok (.iconst 3, 1) := by decide +kernel
theorem dX7_down_224 : decode cX7_down 224 = .ok (.aload_n 0, 1) := by decide +kernel
theorem dX7_down_225 : decode cX7_down 225 = .ok (.getfield 22, 3) := by decide +kernel
theorem dX7_down_228 : decode cX7_down 228 = .ok (.iload_n 1, 1) := by decide +kernel
theorem dX7_down_229 : decode cX7_down 229 = .ok (.iaload, 1) := by decide +kernel
theorem dX7_down_230 : decode cX7_down 230 = .ok (.invokevirtual 142, 3) := by decide +kernel
theorem dX7_down_233 : decode cX7_down 233 = .ok (.goto 31, 3) := by decide +kernel
theorem dX7_down_236 : decode cX7_down 236 = .ok (.aload_n 0, 1) := by decide +kernel
theorem dX7_down_237 : decode cX7_down 237 = .ok (.getfield 19, 3) := by decide +kernel
theorem dX7_down_240 : decode cX7_down 240 = .ok (.iload_n 1, 1) := by decide +kernel
theorem dX7_down_241 : decode cX7_down 241 = .ok (.iload 5, 2) := by decide +kernel
theorem dX7_down_243 : decode cX7_down 243 = .ok (.aload_n 0, 1) := by decide +kernel
theorem dX7_down_244 : decode cX7_down 244 = .ok (.getfield 19, 3) := by decide +kernel
theorem dX7_down_247 : decode cX7_down 247 = .ok (.iload_n 1, 1) := by decide +kernel
theorem dX7_down_248 : decode cX7_down 248 = .ok (.iaload, 1) := by decide +kernel
theorem dX7_down_249 : decode cX7_down 249 = .ok (.if_icmp .le 8, 3) := by decide +kernel
theorem dX7_down_252 : decode cX7_down 252 = .ok (.iload 5, 2) := by decide +kernel
theorem dX7_down_254 : decode cX7_down 254 = .ok (.goto 9, 3) := by decide +kernel
theorem dX7_down_257 : decode cX7_down 257 = .ok (.aload_n 0, 1) := by decide +kernel
theorem dX7_down_258 : decode cX7_down 258 = .ok (.getfield 19, 3) := by decide +kernel
theorem dX7_down_261 : decode cX7_down 261 = .ok (.iload_n 1, 1) := by decide +kernel
theorem dX7_down_262 : decode cX7_down 262 = .ok (.iaload, 1) := by decide +kernel
theorem dX7_down_263 : decode cX7_down 263 = .ok (.iastore, 1) := by decide +kernel
theorem dX7_down_264 : decode cX7_down 264 = .ok (.iload 4, 2) := by decide +kernel
theorem dX7_down_266 : decode cX7_down 266 = .ok (.ireturn, 1) := by decide +kernel
theorem dX7_make_0 : decode cX7_make 0 = .ok (.bipush 24, 2) := by decide +kernel
theorem dX7_make_2 : decode cX7_make 2 = .ok (.iload_n 1, 1) := by decide +kernel
theorem dX7_make_3 : decode cX7_make 3 = .ok (.imul, 1) := by decide +kernel
theorem dX7_make_4 : decode cX7_make 4 = .ok (.aload_n 0, 1) := by decide +kernel
theorem dX7_make_5 : decode cX7_make 5 = .ok (.getfield 22, 3) := by decide +kernel
theorem dX7_make_8 : decode cX7_make 8 = .ok (.iload_n 1, 1) := by decide +kernel
theorem dX7_make_9 : decode cX7_make 9 = .ok (.iaload, 1) := by decide +kernel
theorem dX7_make_10 : decode cX7_make 10 = .ok (.iadd, 1) := by decide +kernel
theorem dX7_make_11 : decode cX7_make 11 = .ok (.istore 6, 2) := by decide +kernel
theorem dX7_make_13 : decode cX7_make 13 = .ok (.aload_n 0, 1) := by decide +kernel
theorem dX7_make_14 : decode cX7_make 14 = .ok (.getfield 47, 3) := by decide +kernel
theorem dX7_make_17 : decode cX7_make 17 = .ok (.iload_n 1, 1) := by decide +kernel
theorem dX7_make_18 : decode cX7_make 18 = .ok (.dup2, 1) := by decide +kernel
theorem dX7_make_19 : decode cX7_make 19 = .ok (.iaload, 1) := by decide +kernel
theorem dX7_make_20 : decode cX7_make 20 = .ok (.iconst 1, 1) := by decide +kernel
theorem dX7_make_21 : decode cX7_make 21 = .ok (.iadd, 1) := by decide +kernel
theorem dX7_make_22 : decode cX7_make 22 = .ok (.iastore, 1) := by decide +kernel
theorem dX7_make_23 : decode cX7_make 23 = .ok (.aload_n 0, 1) := by decide +kernel
theorem dX7_make_24 : decode cX7_make 24 = .ok (.getfield 25, 3) := by decide +kernel
theorem dX7_make_27 : decode cX7_make 27 = .ok (.iload 6, 2) := by decide +kernel
theorem dX7_make_29 : decode cX7_make 29 = .ok (.sipush 1000, 3) := by decide +kernel
theorem dX7_make_32 : decode cX7_make 32 = .ok (.aload_n 0, 1) := by decide +kernel
theorem dX7_make_33 : decode cX7_make 33 = .ok (.getfield 16, 3) := by decide +kernel
theorem dX7_make_36 : decode cX7_make 36 = .ok (.iload_n 1, 1) := by decide +kernel
theorem dX7_make_37 : decode cX7_make 37 = .ok (.iaload, 1) := by decide +kernel
theorem dX7_make_38 : decode cX7_make 38 = .ok (.imul, 1) := by decide +kernel
theorem dX7_make_39 : decode cX7_make 39 = .ok (.aload_n 0, 1) := by decide +kernel
theorem dX7_make_40 : decode cX7_make 40 = .ok (.getfield 47, 3) := by decide +kernel
theorem dX7_make_43 : decode cX7_make 43 = .ok (.iload_n 1, 1) := by decide +kernel
theorem dX7_make_44 : decode cX7_make 44 = .ok (.iaload, 1) := by decide +kernel
theorem dX7_make_45 : decode cX7_make 45 = .ok (.iadd, 1) := by decide +kernel
theorem dX7_make_46 : decode cX7_make 46 = .ok (.iastore, 1) := by decide +kernel
theorem dX7_make_47 : decode cX7_make 47 = .ok (.aload_n 0, 1) := by decide +kernel
theorem dX7_make_48 : decode cX7_make 48 = .ok (.getfield 28, 3) := by decide +kernel
theorem dX7_make_51 : decode cX7_make 51 = .ok (.iload 6, 2) := by decide +kernel
theorem dX7_make_53 : decode cX7_make 53 = .ok (.iload_n 2, 1) := by decide +kernel
theorem dX7_make_54 : decode cX7_make 54 = .ok (.iastore, 1) := by decide +kernel
theorem dX7_make_55 : decode cX7_make 55 = .ok (.aload_n 0, 1) := by decide +kernel
theorem dX7_make_56 : decode cX7_make 56 = .ok (.getfield 31, 3) := by decide +kernel
theorem dX7_make_59 : decode cX7_make 59 = .ok (.iload 6, 2) := by decide +kernel
theorem dX7_make_61 : decode cX7_make 61 = .ok (.iload_n 3, 1) := by decide +kernel
theorem dX7_make_62 : decode cX7_make 62 = .ok (.iastore, 1) := by decide +kernel
theorem dX7_make_63 : decode cX7_make 63 = .ok (.aload_n 0, 1) := by decide +kernel
theorem dX7_make_64 : decode cX7_make 64 = .ok (.getfield 34, 3) := by decide +kernel
theorem dX7_make_67 : decode cX7_make 67 = .ok (.iload 6, 2) := by decide +kernel
theorem dX7_make_69 : decode cX7_make 69 = .ok (.iload 4, 2) := by decide +kernel
theorem dX7_make_71 : decode cX7_make 71 = .ok (.iastore, 1) := by decide +kernel
theorem dX7_make_72 : decode cX7_make 72 = .ok (.aload_n 0, 1) := by decide +kernel
theorem dX7_make_73 : decode cX7_make 73 = .ok (.getfield 37, 3) := by decide +kernel
theorem dX7_make_76 : decode cX7_make 76 = .ok (.iload 6, 2) := by decide +kernel
theorem dX7_make_78 : decode cX7_make 78 = .ok (.iload 5, 2) := by decide +kernel
theorem dX7_make_80 : decode cX7_make 80 = .ok (.iastore, 1) := by decide +kernel
theorem dX7_make_81 : decode cX7_make 81 = .ok (.iconst 0, 1) := by decide +kernel
theorem dX7_make_82 : decode cX7_make 82 = .ok (.istore 7, 2) := by decide +kernel
theorem dX7_make_84 : decode cX7_make 84 = .ok (.iload 7, 2) := by decide +kernel
theorem dX7_make_86 : decode cX7_make 86 = .ok (.iconst 3, 1) := by decide +kernel
theorem dX7_make_87 : decode cX7_make 87 = .ok (.if_icmp .ge 43, 3) := by decide +kernel
theorem dX7_make_90 : decode cX7_make 90 = .ok (.aload_n 0, 1) := by decide +kernel
theorem dX7_make_91 : decode cX7_make 91 = .ok (.iload 7, 2) := by decide +kernel
theorem dX7_make_93 : decode cX7_make 93 = .ok (.iload_n 1, 1) := by decide +kernel
theorem dX7_make_94 : decode cX7_make 94 = .ok (.invokevirtual 130, 3) := by decide +kernel
theorem dX7_make_97 : decode cX7_make 97 = .ok (.ifCond .eq 27, 3) := by decide +kernel
theorem dX7_make_100 : decode cX7_make 100 = .ok (.aload_n 0, 1) := by decide +kernel
theorem dX7_make_101 : decode cX7_make 101 = .ok (.getfield 59, 3) := by decide +kernel
theorem dX7_make_104 : decode cX7_make 104 = .ok (.iload 7, 2) := by decide +kernel
theorem dX7_make_106 : decode cX7_make 106 = .ok (.baload, 1) := by decide +kernel
theorem dX7_make_107 : decode cX7_make 107 = .ok (.ifCond .eq 17, 3) := by decide +kernel
theorem dX7_make_110 : decode cX7_make 110 = .ok (.aload_n 0, 1) := by decide +kernel
theorem dX7_make_111 : decode cX7_make 111 = .ok (.iload 7, 2) := by decide +kernel
theorem dX7_make_113 : decode cX7_make 113 = .ok (.bipush 6, 2) := by decide +kernel
theorem dX7_make_115 : decode cX7_make 115 = .ok (.aload_n 0, 1) := by decide +kernel
theorem dX7_make_116 : decode cX7_make 116 = .ok (.getfield 22, 3) := by decide +kernel
theorem dX7_make_119 : decode cX7_make 119 = .ok (.iload_n 1, 1) := by decide +kernel
theorem dX7_make_120 : decode cX7_make 120 = .ok (.iaload, 1) := by decide +kernel
theorem dX7_make_121 : decode cX7_make 121 = .ok (.invokevirtual 149, 3) := by decide +kernel
theorem dX7_make_124 : decode cX7_make 124 = .ok (.iinc 7 1, 3) := by decide +kernel
theorem dX7_make_127 : decode cX7_make 127 = .ok (.goto (-43), 3) := by decide +kernel
theorem dX7_make_130 : decode cX7_make 130 = .ok (.aload_n 0, 1) := by decide +kernel
theorem dX7_make_131 : decode cX7_make 131 = .ok (.getfield 22, 3) := by decide +kernel
theorem dX7_make_134 : decode cX7_make 134 = .ok (.iload_n 1, 1) := by decide +kernel
theorem dX7_make_135 : decode cX7_make 135 = .ok (.dup2, 1) := by decide +kernel
theorem dX7_make_136 : decode cX7_make 136 = .ok (.iaload, 1) := by decide +kernel
theorem dX7_make_137 : decode cX7_make 137 = .ok (.iconst 1, 1) := by decide +kernel
theorem dX7_make_138 : decode cX7_make 138 = .ok (.iadd, 1) := by decide +kernel
theorem dX7_make_139 : decode cX7_make 139 = .ok (.iastore, 1) := by decide +kernel
theorem dX7_make_140 : decode cX7_make 140 = .ok (.return_, 1) := by decide +kernel
theorem dX7_isPath_0 : decode cX7_isPath 0 = .ok (.iload_n 0, 1) := by decide +kernel
theorem dX7_isPath_1 : decode cX7_isPath 1 = .ok (.iconst 1, 1) := by decide +kernel
theorem dX7_isPath_2 : decode cX7_isPath 2 = .ok (.if_icmp .lt 10, 3) := by decide +kernel
theorem dX7_isPath_5 : decode cX7_isPath 5 = .ok (.iload_n 0, 1) := by decide +kernel
theorem dX7_isPath_6 : decode cX7_isPath 6 = .ok (.sipush 511, 3) := by decide +kernel
theorem dX7_isPath_9 : decode cX7_isPath 9 = .ok (.if_icmp .le 5, 3) := by decide +kernel
theorem dX7_isPath_12 : decode cX7_isPath 12 = .ok (.iconst 0, 1) := by decide +kernel
theorem dX7_isPath_13 : decode cX7_isPath 13 = .ok (.ireturn, 1) := by decide +kernel
theorem dX7_isPath_14 : decode cX7_isPath 14 = .ok (.iload_n 0, 1) := by decide +kernel
theorem dX7_isPath_15 : decode cX7_isPath 15 = .ok (.bipush 8, 2) := by decide +kernel
theorem dX7_isPath_17 : decode cX7_isPath 17 = .ok (.irem, 1) := by decide +kernel
theorem dX7_isPath_18 : decode cX7_isPath 18 = .ok (.ifCond .eq 23, 3) := by decide +kernel
theorem dX7_isPath_21 : decode cX7_isPath 21 = .ok (.iload_n 0, 1) := by decide +kernel
theorem dX7_isPath_22 : decode cX7_isPath 22 = .ok (.bipush 8, 2) := by decide +kernel
theorem dX7_isPath_24 : decode cX7_isPath 24 = .ok (.if_icmp .lt 13, 3) := by decide +kernel
theorem dX7_isPath_27 : decode cX7_isPath 27 = .ok (.iload_n 0, 1) := by decide +kernel
theorem dX7_isPath_28 : decode cX7_isPath 28 = .ok (.bipush 8, 2) := by decide +kernel
theorem dX7_isPath_30 : decode cX7_isPath 30 = .ok (.idiv, 1) := by decide +kernel
theorem dX7_isPath_31 : decode cX7_isPath 31 = .ok (.bipush 8, 2) := by decide +kernel
theorem dX7_isPath_33 : decode cX7_isPath 33 = .ok (.irem, 1) := by decide +kernel
theorem dX7_isPath_34 : decode cX7_isPath 34 = .ok (.ifCond .eq 7, 3) := by decide +kernel
theorem dX7_isPath_37 : decode cX7_isPath 37 = .ok (.iconst 1, 1) := by decide +kernel
theorem dX7_isPath_38 : decode cX7_isPath 38 = .ok (.goto 4, 3) := by decide +kernel
theorem dX7_isPath_41 : decode cX7_isPath 41 = .ok (.iconst 0, 1) := by decide +kernel
theorem dX7_isPath_42 : decode cX7_isPath 42 = .ok (.ireturn, 1) := by decide +kernel
theorem dX7_submit_0 : decode cX7_submit 0 = .ok (.iload_n 1, 1) := by decide +kernel
theorem dX7_submit_1 : decode cX7_submit 1 = .ok (.invokestatic 138, 3) := by decide +kernel
theorem dX7_submit_4 : decode cX7_submit 4 = .ok (.ifCond .ne 13, 3) := by decide +kernel
theorem dX7_submit_7 : decode cX7_submit 7 = .ok (.iload_n 2, 1) := by decide +kernel
theorem dX7_submit_8 : decode cX7_submit 8 = .ok (.iconst 1, 1) := by decide +kernel
theorem dX7_submit_9 : decode cX7_submit 9 = .ok (.if_icmp .lt 8, 3) := by decide +kernel
theorem dX7_submit_12 : decode cX7_submit 12 = .ok (.iload_n 2, 1) := by decide +kernel
theorem dX7_submit_13 : decode cX7_submit 13 = .ok (.iconst 5, 1) := by decide +kernel
theorem dX7_submit_14 : decode cX7_submit 14 = .ok (.if_icmp .le 5, 3) := by decide +kernel
theorem dX7_submit_17 : decode cX7_submit 17 = .ok (.iconst (-1), 1) := by decide +kernel
theorem dX7_submit_18 : decode cX7_submit 18 = .ok (.ireturn, 1) := by decide +kernel
theorem dX7_submit_19 : decode cX7_submit 19 = .ok (.iload_n 2, 1) := by decide +kernel
theorem dX7_submit_20 : decode cX7_submit 20 = .ok (.iconst 3, 1) := by decide +kernel
theorem dX7_submit_21 : decode cX7_submit 21 = .ok (.if_icmp .gt 12, 3) := by decide +kernel
theorem dX7_submit_24 : decode cX7_submit 24 = .ok (.iload_n 3, 1) := by decide +kernel
theorem dX7_submit_25 : decode cX7_submit 25 = .ok (.invokestatic 172, 3) := by decide +kernel
theorem dX7_submit_28 : decode cX7_submit 28 = .ok (.ifCond .ne 5, 3) := by decide +kernel
theorem dX7_submit_31 : decode cX7_submit 31 = .ok (.iconst (-1), 1) := by decide +kernel
theorem dX7_submit_32 : decode cX7_submit 32 = .ok (.ireturn, 1) := by decide +kernel
theorem dX7_submit_33 : decode cX7_submit 33 = .ok (.iload_n 2, 1) := by decide +kernel
theorem dX7_submit_34 : decode cX7_submit 34 = .ok (.iconst 1, 1) := by decide +kernel
theorem dX7_submit_35 : decode cX7_submit 35 = .ok (.if_icmp .ne 16, 3) := by decide +kernel
theorem dX7_submit_38 : decode cX7_submit 38 = .ok (.iload 5, 2) := by decide +kernel
theorem dX7_submit_40 : decode cX7_submit 40 = .ok (.ifCond .lt 9, 3) := by decide +kernel
theorem dX7_submit_43 : decode cX7_submit 43 = .ok (.iload 5, 2) := by decide +kernel
theorem dX7_submit_45 : decode cX7_submit 45 = .ok (.iconst 4, 1) := by decide +kernel
theorem dX7_submit_46 : decode cX7_submit 46 = .ok (.if_icmp .le 5, 3) := by decide +kernel
theorem dX7_submit_49 : decode cX7_submit 49 = .ok (.iconst (-1), 1) := by decide +kernel
theorem dX7_submit_50 : decode cX7_submit 50 = .ok (.ireturn, 1) := by decide +kernel
theorem dX7_submit_51 : decode cX7_submit 51 = .ok (.iload_n 2, 1) := by decide +kernel
theorem dX7_submit_52 : decode cX7_submit 52 = .ok (.iconst 2, 1) := by decide +kernel
theorem dX7_submit_53 : decode cX7_submit 53 = .ok (.if_icmp .eq 8, 3) := by decide +kernel
theorem dX7_submit_56 : decode cX7_submit 56 = .ok (.iload_n 2, 1) := by decide +kernel
theorem dX7_submit_57 : decode cX7_submit 57 = .ok (.iconst 3, 1) := by decide +kernel
theorem dX7_submit_58 : decode cX7_submit 58 = .ok (.if_icmp .ne 11, 3) := by decide +kernel
theorem dX7_submit_61 : decode cX7_submit 61 = .ok (.iload 5, 2) := by decide +kernel
theorem dX7_submit_63 : decode cX7_submit 63 = .ok (.iconst (-1), 1) := by decide +kernel
theorem dX7_submit_64 : decode cX7_submit 64 = .ok (.if_icmp .ge 5, 3) := by decide +kernel
theorem dX7_submit_67 : decode cX7_submit 67 = .ok (.iconst (-1), 1) := by decide +kernel
theorem dX7_submit_68 : decode cX7_submit 68 = .ok (.ireturn, 1) := by decide +kernel
theorem dX7_submit_69 : decode cX7_submit 69 = .ok (.iload_n 2, 1) := by decide +kernel
theorem dX7_submit_70 : decode cX7_submit 70 = .ok (.iconst 4, 1) := by decide +kernel
theorem dX7_submit_71 : decode cX7_submit 71 = .ok (.if_icmp .lt 17, 3) := by decide +kernel
theorem dX7_submit_74 : decode cX7_submit 74 = .ok (.iload 5, 2) := by decide +kernel
theorem dX7_submit_76 : decode cX7_submit 76 = .ok (.iconst 1, 1) := by decide +kernel
theorem dX7_submit_77 : decode cX7_submit 77 = .ok (.if_icmp .lt 9, 3) := by decide +kernel
theorem dX7_submit_80 : decode cX7_submit 80 = .ok (.iload 5, 2) := by decide +kernel
theorem dX7_submit_82 : decode cX7_submit 82 = .ok (.iconst 4, 1) := by decide +kernel
theorem dX7_submit_83 : decode cX7_submit 83 = .ok (.if_icmp .le 5, 3) := by decide +kernel
theorem dX7_submit_86 : decode cX7_submit 86 = .ok (.iconst (-1), 1) := by decide +kernel
theorem dX7_submit_87 : decode cX7_submit 87 = .ok (.ireturn, 1) := by decide +kernel
theorem dX7_submit_88 : decode cX7_submit 88 = .ok (.aload_n 0, 1) := by decide +kernel
theorem dX7_submit_89 : decode cX7_submit 89 = .ok (.getfield 7, 3) := by decide +kernel
theorem dX7_submit_92 : decode cX7_submit 92 = .ok (.iload_n 1, 1) := by decide +kernel
theorem dX7_submit_93 : decode cX7_submit 93 = .ok (.iaload, 1) := by decide +kernel
theorem dX7_submit_94 : decode cX7_submit 94 = .ok (.iconst 4, 1) := by decide +kernel
theorem dX7_submit_95 : decode cX7_submit 95 = .ok (.if_icmp .eq 6, 3) := by decide +kernel
theorem dX7_submit_98 : decode cX7_submit 98 = .ok (.bipush (-2), 2) := by decide +kernel
theorem dX7_submit_100 : decode cX7_submit 100 = .ok (.ireturn, 1) := by decide +kernel
theorem dX7_submit_101 : decode cX7_submit 101 = .ok (.aload_n 0, 1) := by decide +kernel
theorem dX7_submit_102 : decode cX7_submit 102 = .ok (.getfield 22, 3) := by decide +kernel
theorem dX7_submit_105 : decode cX7_submit 105 = .ok (.iload_n 1, 1) := by decide +kernel
theorem dX7_submit_106 : decode cX7_submit 106 = .ok (.iaload, 1) := by decide +kernel
theorem dX7_submit_107 : decode cX7_submit 107 = .ok (.bipush 24, 2) := by decide +kernel
theorem dX7_submit_109 : decode cX7_submit 109 = .ok (.if_icmp .ne 6, 3) := by decide +kernel
theorem dX7_submit_112 : decode cX7_submit 112 = .ok (.bipush (-3), 2) := by decide +kernel
theorem dX7_submit_114 : decode cX7_submit 114 = .ok (.ireturn, 1) := by decide +kernel
theorem dX7_submit_115 : decode cX7_submit 115 = .ok (.aload_n 0, 1) := by decide +kernel
theorem dX7_submit_116 : decode cX7_submit 116 = .ok (.iload_n 1, 1) := by decide +kernel
theorem dX7_submit_117 : decode cX7_submit 117 = .ok (.iload_n 2, 1) := by decide +kernel
theorem dX7_submit_118 : decode cX7_submit 118 = .ok (.iload_n 3, 1) := by decide +kernel
theorem dX7_submit_119 : decode cX7_submit 119 = .ok (.iload 4, 2) := by decide +kernel
theorem dX7_submit_121 : decode cX7_submit 121 = .ok (.iload 5, 2) := by decide +kernel
theorem dX7_submit_123 : decode cX7_submit 123 = .ok (.invokevirtual 175, 3) := by decide +kernel
theorem dX7_submit_126 : decode cX7_submit 126 = .ok (.aload_n 0, 1) := by decide +kernel
theorem dX7_submit_127 : decode cX7_submit 127 = .ok (.getfield 22, 3) := by decide +kernel
theorem dX7_submit_130 : decode cX7_submit 130 = .ok (.iload_n 1, 1) := by decide +kernel
theorem dX7_submit_131 : decode cX7_submit 131 = .ok (.iaload, 1) := by decide +kernel
theorem dX7_submit_132 : decode cX7_submit 132 = .ok (.ireturn, 1) := by decide +kernel
theorem dX7_tick_0 : decode cX7_tick 0 = .ok (.iconst 0, 1) := by decide +kernel
theorem dX7_tick_1 : decode cX7_tick 1 = .ok (.istore_n 1, 1) := by decide +kernel
theorem dX7_tick_2 : decode cX7_tick 2 = .ok (.iconst 0, 1) := by decide +kernel
theorem dX7_tick_3 : decode cX7_tick 3 = .ok (.istore_n 2, 1) := by decide +kernel
theorem dX7_tick_4 : decode cX7_tick 4 = .ok (.iload_n 2, 1) := by decide +kernel
theorem dX7_tick_5 : decode cX7_tick 5 = .ok (.iconst 3, 1) := by decide +kernel
theorem dX7_tick_6 : decode cX7_tick 6 = .ok (.if_icmp .ge 155, 3) := by decide +kernel
theorem dX7_tick_9 : decode cX7_tick 9 = .ok (.aload_n 0, 1) := by decide +kernel
theorem dX7_tick_10 : decode cX7_tick 10 = .ok (.getfield 7, 3) := by decide +kernel
theorem dX7_tick_13 : decode cX7_tick 13 = .ok (.iload_n 2, 1) := by decide +kernel
theorem dX7_tick_14 : decode cX7_tick 14 = .ok (.iaload, 1) := by decide +kernel
theorem dX7_tick_15 : decode cX7_tick 15 = .ok (.iconst 4, 1) := by decide +kernel
theorem dX7_tick_16 : decode cX7_tick 16 = .ok (.if_icmp .ne 139, 3) := by decide +kernel
theorem dX7_tick_19 : decode cX7_tick 19 = .ok (.aload_n 0, 1) := by decide +kernel
theorem dX7_tick_20 : decode cX7_tick 20 = .ok (.iload_n 2, 1) := by decide +kernel
theorem dX7_tick_21 : decode cX7_tick 21 = .ok (.invokevirtual 179, 3) := by decide +kernel
theorem dX7_tick_24 : decode cX7_tick 24 = .ok (.iconst 1, 1) := by decide +kernel
theorem dX7_tick_25 : decode cX7_tick 25 = .ok (.istore_n 3, 1) := by decide +kernel
theorem dX7_tick_26 : decode cX7_tick 26 = .ok (.iload_n 3, 1) := by decide +kernel
theorem dX7_tick_27 : decode cX7_tick 27 = .ok (.iconst 4, 1) := by decide +kernel
theorem dX7_tick_28 : decode cX7_tick 28 = .ok (.if_icmp .gt 66, 3) := by decide +kernel
theorem dX7_tick_31 : decode cX7_tick 31 = .ok (.aload_n 0, 1) := by decide +kernel
theorem dX7_tick_32 : decode cX7_tick 32 = .ok (.getfield 50, 3) := by decide +kernel
theorem dX7_tick_35 : decode cX7_tick 35 = .ok (.iconst 5, 1) := by decide +kernel
theorem dX7_tick_36 : decode cX7_tick 36 = .ok (.iload_n 2, 1) := by decide +kernel
theorem dX7_tick_37 : decode cX7_tick 37 = .ok (.imul, 1) := by decide +kernel
theorem dX7_tick_38 : decode cX7_tick 38 = .ok (.iload_n 3, 1) := by decide +kernel
theorem dX7_tick_39 : decode cX7_tick 39 = .ok (.iadd, 1) := by decide +kernel
theorem dX7_tick_40 : decode cX7_tick 40 = .ok (.iaload, 1) := by decide +kernel
theorem dX7_tick_41 : decode cX7_tick 41 = .ok (.iconst 3, 1) := by decide +kernel
theorem dX7_tick_42 : decode cX7_tick 42 = .ok (.if_icmp .ge 18, 3) := by decide +kernel
theorem dX7_tick_45 : decode cX7_tick 45 = .ok (.aload_n 0, 1) := by decide +kernel
theorem dX7_tick_46 : decode cX7_tick 46 = .ok (.getfield 50, 3) := by decide +kernel
theorem dX7_tick_49 : decode cX7_tick 49 = .ok (.iconst 5, 1) := by decide +kernel
theorem dX7_tick_50 : decode cX7_tick 50 = .ok (.iload_n 2, 1) := by decide +kernel
theorem dX7_tick_51 : decode cX7_tick 51 = .ok (.imul, 1) := by decide +kernel
theorem dX7_tick_52 : decode cX7_tick 52 = .ok (.iload_n 3, 1) := by decide +kernel
theorem dX7_tick_53 : decode cX7_tick 53 = .ok (.iadd, 1) := by decide +kernel
theorem dX7_tick_54 : decode cX7_tick 54 = .ok (.iaload, 1) := by decide +kernel
theorem dX7_tick_55 : decode cX7_tick 55 = .ok (.iconst 1, 1) := by decide +kernel
theorem dX7_tick_56 : decode cX7_tick 56 = .ok (.iadd, 1) := by decide +kernel
theorem dX7_tick_57 : decode cX7_tick 57 = .ok (.goto 4, 3) := by decide +kernel
theorem dX7_tick_60 : decode cX7_tick 60 = .ok (.iconst 3, 1) := by decide +kernel
theorem dX7_tick_61 : decode cX7_tick 61 = .ok (.istore 4, 2) := by decide +kernel
theorem dX7_tick_63 : decode cX7_tick 63 = .ok (.aload_n 0, 1) := by decide +kernel
theorem dX7_tick_64 : decode cX7_tick 64 = .ok (.getfield 50, 3) := by decide +kernel
theorem dX7_tick_67 : decode cX7_tick 67 = .ok (.iconst 5, 1) := by decide +kernel
theorem dX7_tick_68 : decode cX7_tick 68 = .ok (.iload_n 2, 1) := by decide +kernel
theorem dX7_tick_69 : decode cX7_tick 69 = .ok (.imul, 1) := by decide +kernel
theorem dX7_tick_70 : decode cX7_tick 70 = .ok (.iload_n 3, 1) := by decide +kernel
theorem dX7_tick_71 : decode cX7_tick 71 = .ok (.iadd, 1) := by decide +kernel
theorem dX7_tick_72 : decode cX7_tick 72 = .ok (.aload_n 0, 1) := by decide +kernel
theorem dX7_tick_73 : decode cX7_tick 73 = .ok (.getfield 101, 3) := by decide +kernel
theorem dX7_tick_76 : decode cX7_tick 76 = .ok (.iload_n 3, 1) := by decide +kernel
theorem dX7_tick_77 : decode cX7_tick 77 = .ok (.baload, 1) := by decide +kernel
theorem dX7_tick_78 : decode cX7_tick 78 = .ok (.ifCond .eq 8, 3) := by decide +kernel
theorem dX7_tick_81 : decode cX7_tick 81 = .ok (.iload 4, 2) := by decide +kernel
theorem dX7_tick_83 : decode cX7_tick 83 = .ok (.goto 4, 3) := by decide +kernel
theorem dX7_tick_86 : decode cX7_tick 86 = .ok (.iconst 0, 1) := by decide +kernel
theorem dX7_tick_87 : decode cX7_tick 87 = .ok (.iastore, 1) := by decide +kernel
theorem dX7_tick_88 : decode cX7_tick 88 = .ok (.iinc 3 1, 3) := by decide +kernel
theorem dX7_tick_91 : decode cX7_tick 91 = .ok (.goto (-65), 3) := by decide +kernel
theorem dX7_tick_94 : decode cX7_tick 94 = .ok (.iconst 1, 1) := by decide +kernel
theorem dX7_tick_95 : decode cX7_tick 95 = .ok (.istore_n 3, 1) := by decide +kernel
theorem dX7_tick_96 : decode cX7_tick 96 = .ok (.iload_n 3, 1) := by decide +kernel
theorem dX7_tick_97 : decode cX7_tick 97 = .ok (.iconst 4, 1) := by decide +kernel
theorem dX7_tick_98 : decode cX7_tick 98 = .ok (.if_icmp .gt 57, 3) := by decide +kernel
theorem dX7_tick_101 : decode cX7_tick 101 = .ok (.aload_n 0, 1) := by decide +kernel
theorem dX7_tick_102 : decode cX7_tick 102 = .ok (.getfield 50, 3) := by decide +kernel
theorem dX7_tick_105 : decode cX7_tick 105 = .ok (.iconst 5, 1) := by decide +kernel
theorem dX7_tick_106 : decode cX7_tick 106 = .ok (.iload_n 2, 1) := by decide +kernel
theorem dX7_tick_107 : decode cX7_tick 107 = .ok (.imul, 1) := by decide +kernel
theorem dX7_tick_108 : decode cX7_tick 108 = .ok (.iload_n 3, 1) := by decide +kernel
theorem dX7_tick_109 : decode cX7_tick 109 = .ok (.iadd, 1) := by decide +kernel
theorem dX7_tick_110 : decode cX7_tick 110 = .ok (.iaload, 1) := by decide +kernel
theorem dX7_tick_111 : decode cX7_tick 111 = .ok (.iconst 3, 1) := by decide +kernel
theorem dX7_tick_112 : decode cX7_tick 112 = .ok (.if_icmp .ne 37, 3) := by decide +kernel
theorem dX7_tick_115 : decode cX7_tick 115 = .ok (.aload_n 0, 1) := by decide +kernel
theorem dX7_tick_116 : decode cX7_tick 116 = .ok (.getfield 22, 3) := by decide +kernel
theorem dX7_tick_119 : decode cX7_tick 119 = .ok (.iload_n 2, 1) := by decide +kernel
theorem dX7_tick_120 : decode cX7_tick 120 = .ok (.iaload, 1) := by decide +kernel
theorem dX7_tick_121 : decode cX7_tick 121 = .ok (.bipush 24, 2) := by decide +kernel
theorem dX7_tick_123 : decode cX7_tick 123 = .ok (.if_icmp .ge 26, 3) := by decide +kernel
theorem dX7_tick_126 : decode cX7_tick 126 = .ok (.aload_n 0, 1) := by decide +kernel
theorem dX7_tick_127 : decode cX7_tick 127 = .ok (.iload_n 2, 1) := by decide +kernel
theorem dX7_tick_128 : decode cX7_tick 128 = .ok (.iconst 5, 1) := by decide +kernel
theorem dX7_tick_129 : decode cX7_tick 129 = .ok (.iconst 0, 1) := by decide +kernel
theorem dX7_tick_130 : decode cX7_tick 130 = .ok (.iconst 0, 1) := by decide +kernel
theorem dX7_tick_131 : decode cX7_tick 131 = .ok (.iload_n 3, 1) := by decide +kernel
theorem dX7_tick_132 : decode cX7_tick 132 = .ok (.invokevirtual 175, 3) := by decide +kernel
theorem dX7_tick_135 : decode cX7_tick 135 = .ok (.aload_n 0, 1) := by decide +kernel
theorem dX7_tick_136 : decode cX7_tick 136 = .ok (.getfield 50, 3) := by decide +kernel
theorem dX7_tick_139 : decode cX7_tick 139 = .ok (.iconst 5, 1) := by decide +kernel
theorem dX7_tick_140 : decode cX7_tick 140 = .ok (.iload_n 2, 1) := by decide +kernel
theorem dX7_tick_141 : decode cX7_tick 141 = .ok (.imul, 1) := by decide +kernel
theorem dX7_tick_142 : decode cX7_tick 142 = .ok (.iload_n 3, 1) := by decide +kernel
theorem dX7_tick_143 : decode cX7_tick 143 = .ok (.iadd, 1) := by decide +kernel
theorem dX7_tick_144 : decode cX7_tick 144 = .ok (.iconst 0, 1) := by decide +kernel
theorem dX7_tick_145 : decode cX7_tick 145 = .ok (.iastore, 1) := by decide +kernel
theorem dX7_tick_146 : decode cX7_tick 146 = .ok (.iinc 1 1, 3) := by decide +kernel
theorem dX7_tick_149 : decode cX7_tick 149 = .ok (.iinc 3 1, 3) := by decide +kernel
theorem dX7_tick_152 : decode cX7_tick 152 = .ok (.goto (-56), 3) := by decide +kernel
theorem dX7_tick_155 : decode cX7_tick 155 = .ok (.iinc 2 1, 3) := by decide +kernel
theorem dX7_tick_158 : decode cX7_tick 158 = .ok (.goto (-154), 3) := by decide +kernel
theorem dX7_tick_161 : decode cX7_tick 161 = .ok (.iload_n 1, 1) := by decide +kernel
theorem dX7_tick_162 : decode cX7_tick 162 = .ok (.ireturn, 1) := by decide +kernel
theorem dX7_touch_0 : decode cX7_touch 0 = .ok (.iload_n 1, 1) := by decide +kernel
theorem dX7_touch_1 : decode cX7_touch 1 = .ok (.invokestatic 138, 3) := by decide +kernel
theorem dX7_touch_4 : decode cX7_touch 4 = .ok (.ifCond .ne 13, 3) := by decide +kernel
theorem dX7_touch_7 : decode cX7_touch 7 = .ok (.iload_n 2, 1) := by decide +kernel
theorem dX7_touch_8 : decode cX7_touch 8 = .ok (.iconst 1, 1) := by decide +kernel
theorem dX7_touch_9 : decode cX7_touch 9 = .ok (.if_icmp .lt 8, 3) := by decide +kernel
theorem dX7_touch_12 : decode cX7_touch 12 = .ok (.iload_n 2, 1) := by decide +kernel
theorem dX7_touch_13 : decode cX7_touch 13 = .ok (.iconst 4, 1) := by decide +kernel
theorem dX7_touch_14 : decode cX7_touch 14 = .ok (.if_icmp .le 5, 3) := by decide +kernel
theorem dX7_touch_17 : decode cX7_touch 17 = .ok (.iconst 0, 1) := by decide +kernel
theorem dX7_touch_18 : decode cX7_touch 18 = .ok (.ireturn, 1) := by decide +kernel
theorem dX7_touch_19 : decode cX7_touch 19 = .ok (.aload_n 0, 1) := by decide +kernel
theorem dX7_touch_20 : decode cX7_touch 20 = .ok (.iload_n 1, 1) := by decide +kernel
theorem dX7_touch_21 : decode cX7_touch 21 = .ok (.invokevirtual 179, 3) := by decide +kernel
theorem dX7_touch_24 : decode cX7_touch 24 = .ok (.aload_n 0, 1) := by decide +kernel
theorem dX7_touch_25 : decode cX7_touch 25 = .ok (.getfield 7, 3) := by decide +kernel
theorem dX7_touch_28 : decode cX7_touch 28 = .ok (.iload_n 1, 1) := by decide +kernel
theorem dX7_touch_29 : decode cX7_touch 29 = .ok (.iaload, 1) := by decide +kernel
theorem dX7_touch_30 : decode cX7_touch 30 = .ok (.iconst 4, 1) := by decide +kernel
theorem dX7_touch_31 : decode cX7_touch 31 = .ok (.if_icmp .ne 12, 3) := by decide +kernel
theorem dX7_touch_34 : decode cX7_touch 34 = .ok (.aload_n 0, 1) := by decide +kernel
theorem dX7_touch_35 : decode cX7_touch 35 = .ok (.getfield 101, 3) := by decide +kernel
theorem dX7_touch_38 : decode cX7_touch 38 = .ok (.iload_n 2, 1) := by decide +kernel
theorem dX7_touch_39 : decode cX7_touch 39 = .ok (.baload, 1) := by decide +kernel
theorem dX7_touch_40 : decode cX7_touch 40 = .ok (.ifCond .ne 5, 3) := by decide +kernel
theorem dX7_touch_43 : decode cX7_touch 43 = .ok (.iconst 0, 1) := by decide +kernel
theorem dX7_touch_44 : decode cX7_touch 44 = .ok (.ireturn, 1) := by decide +kernel
theorem dX7_touch_45 : decode cX7_touch 45 = .ok (.aload_n 0, 1) := by decide +kernel
theorem dX7_touch_46 : decode cX7_touch 46 = .ok (.getfield 50, 3) := by decide +kernel
theorem dX7_touch_49 : decode cX7_touch 49 = .ok (.iconst 5, 1) := by decide +kernel
theorem dX7_touch_50 : decode cX7_touch 50 = .ok (.iload_n 1, 1) := by decide +kernel
theorem dX7_touch_51 : decode cX7_touch 51 = .ok (.imul, 1) := by decide +kernel
theorem dX7_touch_52 : decode cX7_touch 52 = .ok (.iload_n 2, 1) := by decide +kernel
theorem dX7_touch_53 : decode cX7_touch 53 = .ok (.iadd, 1) := by decide +kernel
theorem dX7_touch_54 : decode cX7_touch 54 = .ok (.iconst 0, 1) := by decide +kernel
theorem dX7_touch_55 : decode cX7_touch 55 = .ok (.iastore, 1) := by decide +kernel
theorem dX7_touch_56 : decode cX7_touch 56 = .ok (.iconst 1, 1) := by decide +kernel
theorem dX7_touch_57 : decode cX7_touch 57 = .ok (.ireturn, 1) := by decide +kernel
theorem dX7_role_0 : decode cX7_role 0 = .ok (.iload_n 1, 1) := by decide +kernel
theorem dX7_role_1 : decode cX7_role 1 = .ok (.invokestatic 138, 3) := by decide +kernel
theorem dX7_role_4 : decode cX7_role 4 = .ok (.ifCond .eq 7, 3) := by decide +kernel
theorem dX7_role_7 : decode cX7_role 7 = .ok (.iconst (-1), 1) := by decide +kernel
theorem dX7_role_8 : decode cX7_role 8 = .ok (.goto 9, 3) := by decide +kernel
theorem dX7_role_11 : decode cX7_role 11 = .ok (.aload_n 0, 1) := by decide +kernel
theorem dX7_role_12 : decode cX7_role 12 = .ok (.getfield 7, 3) := by decide +kernel
theorem dX7_role_15 : decode cX7_role 15 = .ok (.iload_n 1, 1) := by decide +kernel
theorem dX7_role_16 : decode cX7_role 16 = .ok (.iaload, 1) := by decide +kernel
theorem dX7_role_17 : decode cX7_role 17 = .ok (.ireturn, 1) := by decide +kernel
theorem dX7_promise_0 : decode cX7_promise 0 = .ok (.iload_n 1, 1) := by decide +kernel
theorem dX7_promise_1 : decode cX7_promise 1 = .ok (.invokestatic 138, 3) := by decide +kernel
theorem dX7_promise_4 : decode cX7_promise 4 = .ok (.ifCond .eq 7, 3) := by decide +kernel
theorem dX7_promise_7 : decode cX7_promise 7 = .ok (.iconst (-1), 1) := by decide +kernel
theorem dX7_promise_8 : decode cX7_promise 8 = .ok (.goto 9, 3) := by decide +kernel
theorem dX7_promise_11 : decode cX7_promise 11 = .ok (.aload_n 0, 1) := by decide +kernel
theorem dX7_promise_12 : decode cX7_promise 12 = .ok (.getfield 13, 3) := by decide +kernel
theorem dX7_promise_15 : decode cX7_promise 15 = .ok (.iload_n 1, 1) := by decide +kernel
theorem dX7_promise_16 : decode cX7_promise 16 = .ok (.iaload, 1) := by decide +kernel
theorem dX7_promise_17 : decode cX7_promise 17 = .ok (.ireturn, 1) := by decide +kernel
theorem dX7_epoch_0 : decode cX7_epoch 0 = .ok (.iload_n 1, 1) := by decide +kernel
theorem dX7_epoch_1 : decode cX7_epoch 1 = .ok (.invokestatic 138, 3) := by decide +kernel
theorem dX7_epoch_4 : decode cX7_epoch 4 = .ok (.ifCond .eq 7, 3) := by decide +kernel
theorem dX7_epoch_7 : decode cX7_epoch 7 = .ok (.iconst (-1), 1) := by decide +kernel
theorem dX7_epoch_8 : decode cX7_epoch 8 = .ok (.goto 9, 3) := by decide +kernel
theorem dX7_epoch_11 : decode cX7_epoch 11 = .ok (.aload_n 0, 1) := by decide +kernel
theorem dX7_epoch_12 : decode cX7_epoch 12 = .ok (.getfield 16, 3) := by decide +kernel
theorem dX7_epoch_15 : decode cX7_epoch 15 = .ok (.iload_n 1, 1) := by decide +kernel
theorem dX7_epoch_16 : decode cX7_epoch 16 = .ok (.iaload, 1) := by decide +kernel
theorem dX7_epoch_17 : decode cX7_epoch 17 = .ok (.ireturn, 1) := by decide +kernel
theorem dX7_length_0 : decode cX7_length 0 = .ok (.iload_n 1, 1) := by decide +kernel
theorem dX7_length_1 : decode cX7_length 1 = .ok (.invokestatic 138, 3) := by decide +kernel
theorem dX7_length_4 : decode cX7_length 4 = .ok (.ifCond .eq 7, 3) := by decide +kernel
theorem dX7_length_7 : decode cX7_length 7 = .ok (.iconst (-1), 1) := by decide +kernel
theorem dX7_length_8 : decode cX7_length 8 = .ok (.goto 9, 3) := by decide +kernel
theorem dX7_length_11 : decode cX7_length 11 = .ok (.aload_n 0, 1) := by decide +kernel
theorem dX7_length_12 : decode cX7_length 12 = .ok (.getfield 22, 3) := by decide +kernel
theorem dX7_length_15 : decode cX7_length 15 = .ok (.iload_n 1, 1) := by decide +kernel
theorem dX7_length_16 : decode cX7_length 16 = .ok (.iaload, 1) := by decide +kernel
theorem dX7_length_17 : decode cX7_length 17 = .ok (.ireturn, 1) := by decide +kernel
theorem dX7_mark_0 : decode cX7_mark 0 = .ok (.iload_n 1, 1) := by decide +kernel
theorem dX7_mark_1 : decode cX7_mark 1 = .ok (.invokestatic 138, 3) := by decide +kernel
theorem dX7_mark_4 : decode cX7_mark 4 = .ok (.ifCond .eq 5, 3) := by decide +kernel
theorem dX7_mark_7 : decode cX7_mark 7 = .ok (.iconst 0, 1) := by decide +kernel
theorem dX7_mark_8 : decode cX7_mark 8 = .ok (.ireturn, 1) := by decide +kernel
theorem dX7_mark_9 : decode cX7_mark 9 = .ok (.iload_n 2, 1) := by decide +kernel
theorem dX7_mark_10 : decode cX7_mark 10 = .ok (.iconst 1, 1) := by decide +kernel
theorem dX7_mark_11 : decode cX7_mark 11 = .ok (.if_icmp .lt 13, 3) := by decide +kernel
theorem dX7_mark_14 : decode cX7_mark 14 = .ok (.iload_n 2, 1) := by decide +kernel
theorem dX7_mark_15 : decode cX7_mark 15 = .ok (.aload_n 0, 1) := by decide +kernel
theorem dX7_mark_16 : decode cX7_mark 16 = .ok (.getfield 22, 3) := by decide +kernel
theorem dX7_mark_19 : decode cX7_mark 19 = .ok (.iload_n 1, 1) := by decide +kernel
theorem dX7_mark_20 : decode cX7_mark 20 = .ok (.iaload, 1) := by decide +kernel
theorem dX7_mark_21 : decode cX7_mark 21 = .ok (.if_icmp .le 7, 3) := by decide +kernel
theorem dX7_mark_24 : decode cX7_mark 24 = .ok (.iconst 0, 1) := by decide +kernel
theorem dX7_mark_25 : decode cX7_mark 25 = .ok (.goto 16, 3) := by decide +kernel
theorem dX7_mark_28 : decode cX7_mark 28 = .ok (.aload_n 0, 1) := by decide +kernel
theorem dX7_mark_29 : decode cX7_mark 29 = .ok (.getfield 25, 3) := by decide +kernel
theorem dX7_mark_32 : decode cX7_mark 32 = .ok (.bipush 24, 2) := by decide +kernel
theorem dX7_mark_34 : decode cX7_mark 34 = .ok (.iload_n 1, 1) := by decide +kernel
theorem dX7_mark_35 : decode cX7_mark 35 = .ok (.imul, 1) := by decide +kernel
theorem dX7_mark_36 : decode cX7_mark 36 = .ok (.iload_n 2, 1) := by decide +kernel
theorem dX7_mark_37 : decode cX7_mark 37 = .ok (.iadd, 1) := by decide +kernel
theorem dX7_mark_38 : decode cX7_mark 38 = .ok (.iconst 1, 1) := by decide +kernel
theorem dX7_mark_39 : decode cX7_mark 39 = .ok (.isub, 1) := by decide +kernel
theorem dX7_mark_40 : decode cX7_mark 40 = .ok (.iaload, 1) := by decide +kernel
theorem dX7_mark_41 : decode cX7_mark 41 = .ok (.ireturn, 1) := by decide +kernel
theorem dX7_applied_0 : decode cX7_applied 0 = .ok (.iload_n 1, 1) := by decide +kernel
theorem dX7_applied_1 : decode cX7_applied 1 = .ok (.invokestatic 138, 3) := by decide +kernel
theorem dX7_applied_4 : decode cX7_applied 4 = .ok (.ifCond .eq 7, 3) := by decide +kernel
theorem dX7_applied_7 : decode cX7_applied 7 = .ok (.iconst (-1), 1) := by decide +kernel
theorem dX7_applied_8 : decode cX7_applied 8 = .ok (.goto 9, 3) := by decide +kernel
theorem dX7_applied_11 : decode cX7_applied 11 = .ok (.aload_n 0, 1) := by decide +kernel
theorem dX7_applied_12 : decode cX7_applied 12 = .ok (.getfield 19, 3) := by decide +kernel
theorem dX7_applied_15 : decode cX7_applied 15 = .ok (.iload_n 1, 1) := by decide +kernel
theorem dX7_applied_16 : decode cX7_applied 16 = .ok (.iaload, 1) := by decide +kernel
theorem dX7_applied_17 : decode cX7_applied 17 = .ok (.ireturn, 1) := by decide +kernel
theorem dX7_result_0 : decode cX7_result 0 = .ok (.iload_n 1, 1) := by decide +kernel
theorem dX7_result_1 : decode cX7_result 1 = .ok (.invokestatic 138, 3) := by decide +kernel
theorem dX7_result_4 : decode cX7_result 4 = .ok (.ifCond .eq 5, 3) := by decide +kernel
theorem dX7_result_7 : decode cX7_result 7 = .ok (.iconst (-1), 1) := by decide +kernel
theorem dX7_result_8 : decode cX7_result 8 = .ok (.ireturn, 1) := by decide +kernel
theorem dX7_result_9 : decode cX7_result 9 = .ok (.iload_n 2, 1) := by decide +kernel
theorem dX7_result_10 : decode cX7_result 10 = .ok (.iconst 1, 1) := by decide +kernel
theorem dX7_result_11 : decode cX7_result 11 = .ok (.if_icmp .lt 13, 3) := by decide +kernel
theorem dX7_result_14 : decode cX7_result 14 = .ok (.iload_n 2, 1) := by decide +kernel
theorem dX7_result_15 : decode cX7_result 15 = .ok (.aload_n 0, 1) := by decide +kernel
theorem dX7_result_16 : decode cX7_result 16 = .ok (.getfield 19, 3) := by decide +kernel
theorem dX7_result_19 : decode cX7_result 19 = .ok (.iload_n 1, 1) := by decide +kernel
theorem dX7_result_20 : decode cX7_result 20 = .ok (.iaload, 1) := by decide +kernel
theorem dX7_result_21 : decode cX7_result 21 = .ok (.if_icmp .le 5, 3) := by decide +kernel
theorem dX7_result_24 : decode cX7_result 24 = .ok (.iconst (-1), 1) := by decide +kernel
theorem dX7_result_25 : decode cX7_result 25 = .ok (.ireturn, 1) := by decide +kernel
theorem dX7_result_26 : decode cX7_result 26 = .ok (.aload_n 0, 1) := by decide +kernel
theorem dX7_result_27 : decode cX7_result 27 = .ok (.iload_n 1, 1) := by decide +kernel
theorem dX7_result_28 : decode cX7_result 28 = .ok (.invokevirtual 179, 3) := by decide +kernel
theorem dX7_result_31 : decode cX7_result 31 = .ok (.aload_n 0, 1) := by decide +kernel
theorem dX7_result_32 : decode cX7_result 32 = .ok (.getfield 104, 3) := by decide +kernel
theorem dX7_result_35 : decode cX7_result 35 = .ok (.iload_n 2, 1) := by decide +kernel
theorem dX7_result_36 : decode cX7_result 36 = .ok (.iconst 1, 1) := by decide +kernel
theorem dX7_result_37 : decode cX7_result 37 = .ok (.isub, 1) := by decide +kernel
theorem dX7_result_38 : decode cX7_result 38 = .ok (.iaload, 1) := by decide +kernel
theorem dX7_result_39 : decode cX7_result 39 = .ok (.ireturn, 1) := by decide +kernel
theorem dX7_node_0 : decode cX7_node 0 = .ok (.iload_n 1, 1) := by decide +kernel
theorem dX7_node_1 : decode cX7_node 1 = .ok (.invokestatic 138, 3) := by decide +kernel
theorem dX7_node_4 : decode cX7_node 4 = .ok (.ifCond .ne 23, 3) := by decide +kernel
theorem dX7_node_7 : decode cX7_node 7 = .ok (.iload_n 2, 1) := by decide +kernel
theorem dX7_node_8 : decode cX7_node 8 = .ok (.ifCond .lt 19, 3) := by decide +kernel
theorem dX7_node_11 : decode cX7_node 11 = .ok (.iload_n 2, 1) := by decide +kernel
theorem dX7_node_12 : decode cX7_node 12 = .ok (.sipush 511, 3) := by decide +kernel
theorem dX7_node_15 : decode cX7_node 15 = .ok (.if_icmp .gt 12, 3) := by decide +kernel
theorem dX7_node_18 : decode cX7_node 18 = .ok (.iload_n 3, 1) := by decide +kernel
theorem dX7_node_19 : decode cX7_node 19 = .ok (.ifCond .lt 8, 3) := by decide +kernel
theorem dX7_node_22 : decode cX7_node 22 = .ok (.iload_n 3, 1) := by decide +kernel
theorem dX7_node_23 : decode cX7_node 23 = .ok (.iconst 4, 1) := by decide +kernel
theorem dX7_node_24 : decode cX7_node 24 = .ok (.if_icmp .le 5, 3) := by decide +kernel
theorem dX7_node_27 : decode cX7_node 27 = .ok (.iconst 0, 1) := by decide +kernel
theorem dX7_node_28 : decode cX7_node 28 = .ok (.ireturn, 1) := by decide +kernel
theorem dX7_node_29 : decode cX7_node 29 = .ok (.aload_n 0, 1) := by decide +kernel
theorem dX7_node_30 : decode cX7_node 30 = .ok (.iload_n 1, 1) := by decide +kernel
theorem dX7_node_31 : decode cX7_node 31 = .ok (.invokevirtual 179, 3) := by decide +kernel
theorem dX7_node_34 : decode cX7_node 34 = .ok (.aload_n 0, 1) := by decide +kernel
theorem dX7_node_35 : decode cX7_node 35 = .ok (.iload_n 2, 1) := by decide +kernel
theorem dX7_node_36 : decode cX7_node 36 = .ok (.invokevirtual 111, 3) := by decide +kernel
theorem dX7_node_39 : decode cX7_node 39 = .ok (.istore 4, 2) := by decide +kernel
theorem dX7_node_41 : decode cX7_node 41 = .ok (.iload_n 2, 1) := by decide +kernel
theorem dX7_node_42 : decode cX7_node 42 = .ok (.ifCond .eq 10, 3) := by decide +kernel
theorem dX7_node_45 : decode cX7_node 45 = .ok (.iload 4, 2) := by decide +kernel
theorem dX7_node_47 : decode cX7_node 47 = .ok (.ifCond .ge 5, 3) := by decide +kernel
theorem dX7_node_50 : decode cX7_node 50 = .ok (.iconst 0, 1) := by decide +kernel
theorem dX7_node_51 : decode cX7_node 51 = .ok (.ireturn, 1) := by decide +kernel
theorem dX7_node_52 : decode cX7_node 52 = .ok (.iload_n 3, 1) := by decide +kernel
theorem dX7_node_53 : decode cX7_node 53 = .ok (.ifCond .ne 5, 3) := by decide +kernel
theorem dX7_node_56 : decode cX7_node 56 = .ok (.iconst 1, 1) := by decide +kernel
theorem dX7_node_57 : decode cX7_node 57 = .ok (.ireturn, 1) := by decide +kernel
theorem dX7_node_58 : decode cX7_node 58 = .ok (.iload_n 3, 1) := by decide +kernel
theorem dX7_node_59 : decode cX7_node 59 = .ok (.iconst 3, 1) := by decide +kernel
theorem dX7_node_60 : decode cX7_node 60 = .ok (.if_icmp .ne 9, 3) := by decide +kernel
theorem dX7_node_63 : decode cX7_node 63 = .ok (.aload_n 0, 1) := by decide +kernel
theorem dX7_node_64 : decode cX7_node 64 = .ok (.iload_n 2, 1) := by decide +kernel
theorem dX7_node_65 : decode cX7_node 65 = .ok (.invokevirtual 115, 3) := by decide +kernel
theorem dX7_node_68 : decode cX7_node 68 = .ok (.ireturn, 1) := by decide +kernel
theorem dX7_node_69 : decode cX7_node 69 = .ok (.iload_n 2, 1) := by decide +kernel
theorem dX7_node_70 : decode cX7_node 70 = .ok (.ifCond .ne 5, 3) := by decide +kernel
theorem dX7_node_73 : decode cX7_node 73 = .ok (.iconst 0, 1) := by decide +kernel
theorem dX7_node_74 : decode cX7_node 74 = .ok (.ireturn, 1) := by decide +kernel
theorem dX7_node_75 : decode cX7_node 75 = .ok (.iload_n 3, 1) := by decide +kernel
theorem dX7_node_76 : decode cX7_node 76 = .ok (.iconst 1, 1) := by decide +kernel
theorem dX7_node_77 : decode cX7_node 77 = .ok (.if_icmp .ne 13, 3) := by decide +kernel
theorem dX7_node_80 : decode cX7_node 80 = .ok (.aload_n 0, 1) := by decide +kernel
theorem dX7_node_81 : decode cX7_node 81 = .ok (.getfield 92, 3) := by decide +kernel
theorem dX7_node_84 : decode cX7_node 84 = .ok (.iload 4, 2) := by decide +kernel
theorem dX7_node_86 : decode cX7_node 86 = .ok (.iaload, 1) := by decide +kernel
theorem dX7_node_87 : decode cX7_node 87 = .ok (.goto 25, 3) := by decide +kernel
theorem dX7_node_90 : decode cX7_node 90 = .ok (.iload_n 3, 1) := by decide +kernel
theorem dX7_node_91 : decode cX7_node 91 = .ok (.iconst 2, 1) := by decide +kernel
theorem dX7_node_92 : decode cX7_node 92 = .ok (.if_icmp .ne 13, 3) := by decide +kernel
theorem dX7_node_95 : decode cX7_node 95 = .ok (.aload_n 0, 1) := by decide +kernel
theorem dX7_node_96 : decode cX7_node 96 = .ok (.getfield 95, 3) := by decide +kernel
theorem dX7_node_99 : decode cX7_node 99 = .ok (.iload 4, 2) := by decide +kernel
theorem dX7_node_101 : decode cX7_node 101 = .ok (.iaload, 1) := by decide +kernel
theorem dX7_node_102 : decode cX7_node 102 = .ok (.goto 10, 3) := by decide +kernel
theorem dX7_node_105 : decode cX7_node 105 = .ok (.aload_n 0, 1) := by decide +kernel
theorem dX7_node_106 : decode cX7_node 106 = .ok (.getfield 98, 3) := by decide +kernel
theorem dX7_node_109 : decode cX7_node 109 = .ok (.iload 4, 2) := by decide +kernel
theorem dX7_node_111 : decode cX7_node 111 = .ok (.iaload, 1) := by decide +kernel
theorem dX7_node_112 : decode cX7_node 112 = .ok (.ireturn, 1) := by decide +kernel
theorem dX7_tree_0 : decode cX7_tree 0 = .ok (.iload_n 1, 1) := by decide +kernel
theorem dX7_tree_1 : decode cX7_tree 1 = .ok (.invokestatic 138, 3) := by decide +kernel
theorem dX7_tree_4 : decode cX7_tree 4 = .ok (.ifCond .eq 5, 3) := by decide +kernel
theorem dX7_tree_7 : decode cX7_tree 7 = .ok (.iconst (-1), 1) := by decide +kernel
theorem dX7_tree_8 : decode cX7_tree 8 = .ok (.ireturn, 1) := by decide +kernel
theorem dX7_tree_9 : decode cX7_tree 9 = .ok (.aload_n 0, 1) := by decide +kernel
theorem dX7_tree_10 : decode cX7_tree 10 = .ok (.iload_n 1, 1) := by decide +kernel
theorem dX7_tree_11 : decode cX7_tree 11 = .ok (.invokevirtual 179, 3) := by decide +kernel
theorem dX7_tree_14 : decode cX7_tree 14 = .ok (.iconst 0, 1) := by decide +kernel
theorem dX7_tree_15 : decode cX7_tree 15 = .ok (.istore_n 2, 1) := by decide +kernel
theorem dX7_tree_16 : decode cX7_tree 16 = .ok (.iconst 0, 1) := by decide +kernel
theorem dX7_tree_17 : decode cX7_tree 17 = .ok (.istore_n 3, 1) := by decide +kernel
theorem dX7_tree_18 : decode cX7_tree 18 = .ok (.iload_n 3, 1) := by decide +kernel
theorem dX7_tree_19 : decode cX7_tree 19 = .ok (.aload_n 0, 1) := by decide +kernel
theorem dX7_tree_20 : decode cX7_tree 20 = .ok (.getfield 107, 3) := by decide +kernel
theorem dX7_tree_23 : decode cX7_tree 23 = .ok (.if_icmp .ge 26, 3) := by decide +kernel
theorem dX7_tree_26 : decode cX7_tree 26 = .ok (.aload_n 0, 1) := by decide +kernel
theorem dX7_tree_27 : decode cX7_tree 27 = .ok (.getfield 89, 3) := by decide +kernel
theorem dX7_tree_30 : decode cX7_tree 30 = .ok (.iload_n 3, 1) := by decide +kernel
theorem dX7_tree_31 : decode cX7_tree 31 = .ok (.iaload, 1) := by decide +kernel
theorem dX7_tree_32 : decode cX7_tree 32 = .ok (.ifCond .le 9, 3) := by decide +kernel
theorem dX7_tree_35 : decode cX7_tree 35 = .ok (.iload_n 2, 1) := by decide +kernel
theorem dX7_tree_36 : decode cX7_tree 36 = .ok (.iconst 1, 1) := by decide +kernel
theorem dX7_tree_37 : decode cX7_tree 37 = .ok (.iadd, 1) := by decide +kernel
theorem dX7_tree_38 : decode cX7_tree 38 = .ok (.goto 4, 3) := by decide +kernel
theorem dX7_tree_41 : decode cX7_tree 41 = .ok (.iload_n 2, 1) := by decide +kernel
theorem dX7_tree_42 : decode cX7_tree 42 = .ok (.istore_n 2, 1) := by decide +kernel
theorem dX7_tree_43 : decode cX7_tree 43 = .ok (.iinc 3 1, 3) := by decide +kernel
theorem dX7_tree_46 : decode cX7_tree 46 = .ok (.goto (-28), 3) := by decide +kernel
theorem dX7_tree_49 : decode cX7_tree 49 = .ok (.iconst 1, 1) := by decide +kernel
theorem dX7_tree_50 : decode cX7_tree 50 = .ok (.istore_n 3, 1) := by decide +kernel
theorem dX7_tree_51 : decode cX7_tree 51 = .ok (.iload_n 3, 1) := by decide +kernel
theorem dX7_tree_52 : decode cX7_tree 52 = .ok (.iconst 4, 1) := by decide +kernel
theorem dX7_tree_53 : decode cX7_tree 53 = .ok (.if_icmp .gt 29, 3) := by decide +kernel
theorem dX7_tree_56 : decode cX7_tree 56 = .ok (.aload_n 0, 1) := by decide +kernel
theorem dX7_tree_57 : decode cX7_tree 57 = .ok (.getfield 101, 3) := by decide +kernel
theorem dX7_tree_60 : decode cX7_tree 60 = .ok (.iload_n 3, 1) := by decide +kernel
theorem dX7_tree_61 : decode cX7_tree 61 = .ok (.baload, 1) := by decide +kernel
theorem dX7_tree_62 : decode cX7_tree 62 = .ok (.ifCond .eq 12, 3) := by decide +kernel
theorem dX7_tree_65 : decode cX7_tree 65 = .ok (.iload_n 2, 1) := by decide +kernel
theorem dX7_tree_66 : decode cX7_tree 66 = .ok (.bipush 64, 2) := by decide +kernel
theorem dX7_tree_68 : decode cX7_tree 68 = .ok (.iload_n 3, 1) := by decide +kernel
theorem dX7_tree_69 : decode cX7_tree 69 = .ok (.ishl, 1) := by decide +kernel
theorem dX7_tree_70 : decode cX7_tree 70 = .ok (.iadd, 1) := by decide +kernel
theorem dX7_tree_71 : decode cX7_tree 71 = .ok (.goto 4, 3) := by decide +kernel
theorem dX7_tree_74 : decode cX7_tree 74 = .ok (.iload_n 2, 1) := by decide +kernel
theorem dX7_tree_75 : decode cX7_tree 75 = .ok (.istore_n 2, 1) := by decide +kernel
theorem dX7_tree_76 : decode cX7_tree 76 = .ok (.iinc 3 1, 3) := by decide +kernel
theorem dX7_tree_79 : decode cX7_tree 79 = .ok (.goto (-28), 3) := by decide +kernel
theorem dX7_tree_82 : decode cX7_tree 82 = .ok (.iload_n 2, 1) := by decide +kernel
theorem dX7_tree_83 : decode cX7_tree 83 = .ok (.ireturn, 1) := by decide +kernel
theorem dX7_waiting_0 : decode cX7_waiting 0 = .ok (.iload_n 1, 1) := by decide +kernel
theorem dX7_waiting_1 : decode cX7_waiting 1 = .ok (.invokestatic 138, 3) := by decide +kernel
theorem dX7_waiting_4 : decode cX7_waiting 4 = .ok (.ifCond .eq 5, 3) := by decide +kernel
theorem dX7_waiting_7 : decode cX7_waiting 7 = .ok (.iconst 0, 1) := by decide +kernel
theorem dX7_waiting_8 : decode cX7_waiting 8 = .ok (.ireturn, 1) := by decide +kernel
theorem dX7_waiting_9 : decode cX7_waiting 9 = .ok (.aload_n 0, 1) := by decide +kernel
theorem dX7_waiting_10 : decode cX7_waiting 10 = .ok (.getfield 7, 3) := by decide +kernel
theorem dX7_waiting_13 : decode cX7_waiting 13 = .ok (.iload_n 1, 1) := by decide +kernel
theorem dX7_waiting_14 : decode cX7_waiting 14 = .ok (.iaload, 1) := by decide +kernel
theorem dX7_waiting_15 : decode cX7_waiting 15 = .ok (.iconst 2, 1) := by decide +kernel
theorem dX7_waiting_16 : decode cX7_waiting 16 = .ok (.if_icmp .eq 5, 3) := by decide +kernel
theorem dX7_waiting_19 : decode cX7_waiting 19 = .ok (.iconst 0, 1) := by decide +kernel
theorem dX7_waiting_20 : decode cX7_waiting 20 = .ok (.ireturn, 1) := by decide +kernel
theorem dX7_waiting_21 : decode cX7_waiting 21 = .ok (.iload_n 2, 1) := by decide +kernel
theorem dX7_waiting_22 : decode cX7_waiting 22 = .ok (.ifCond .eq 19, 3) := by decide +kernel
theorem dX7_waiting_25 : decode cX7_waiting 25 = .ok (.aload_n 0, 1) := by decide +kernel
theorem dX7_waiting_26 : decode cX7_waiting 26 = .ok (.getfield 71, 3) := by decide +kernel
theorem dX7_waiting_29 : decode cX7_waiting 29 = .ok (.iload_n 1, 1) := by decide +kernel
theorem dX7_waiting_30 : decode cX7_waiting 30 = .ok (.iaload, 1) := by decide +kernel
theorem dX7_waiting_31 : decode cX7_waiting 31 = .ok (.aload_n 0, 1) := by decide +kernel
theorem dX7_waiting_32 : decode cX7_waiting 32 = .ok (.getfield 74, 3) := by decide +kernel
theorem dX7_waiting_35 : decode cX7_waiting 35 = .ok (.iload_n 1, 1) := by decide +kernel
theorem dX7_waiting_36 : decode cX7_waiting 36 = .ok (.iaload, 1) := by decide +kernel
theorem dX7_waiting_37 : decode cX7_waiting 37 = .ok (.isub, 1) := by decide +kernel
theorem dX7_waiting_38 : decode cX7_waiting 38 = .ok (.goto 16, 3) := by decide +kernel
theorem dX7_waiting_41 : decode cX7_waiting 41 = .ok (.aload_n 0, 1) := by decide +kernel
theorem dX7_waiting_42 : decode cX7_waiting 42 = .ok (.getfield 83, 3) := by decide +kernel
theorem dX7_waiting_45 : decode cX7_waiting 45 = .ok (.iload_n 1, 1) := by decide +kernel
theorem dX7_waiting_46 : decode cX7_waiting 46 = .ok (.iaload, 1) := by decide +kernel
theorem dX7_waiting_47 : decode cX7_waiting 47 = .ok (.aload_n 0, 1) := by decide +kernel
theorem dX7_waiting_48 : decode cX7_waiting 48 = .ok (.getfield 86, 3) := by decide +kernel
theorem dX7_waiting_51 : decode cX7_waiting 51 = .ok (.iload_n 1, 1) := by decide +kernel
theorem dX7_waiting_52 : decode cX7_waiting 52 = .ok (.iaload, 1) := by decide +kernel
theorem dX7_waiting_53 : decode cX7_waiting 53 = .ok (.isub, 1) := by decide +kernel
theorem dX7_waiting_54 : decode cX7_waiting 54 = .ok (.ireturn, 1) := by decide +kernel
end
section
/-! A calculus over the kit's rows in which heap, locals array and written locations are hidden.
    gw: from every heap that holds the world ws, with locals that hold L, the machine at pc with stack st comes to Q. -/
-- the nest's words: they hold at a state, whoever asks
def NW (U : State) : Prop := ∀ w ∈ nb, va_Nw w U
def isNest : Cond → Bool
  | .fieldLinkNest .. => true
  | .methodLinkNest .. => true
  | .arrayOver (.object _) => true
  | _ => false
theorem nb_nest : nb.all isNest = true := by decide +kernel
theorem nest_kind {w : Cond} (h : isNest w = true) : (∃ a i b n d h, w = .fieldLinkNest a i b n d h) ∨ (∃ a i x h, w = .methodLinkNest a i x h) ∨ ∃ C, w = .arrayOver (.object C) := by
  unfold isNest at h
  split at h
  · exact Or.inl ⟨_, _, _, _, _, _, rfl⟩
  · exact Or.inr (Or.inl ⟨_, _, _, _, rfl⟩)
  · exact Or.inr (Or.inr ⟨_, rfl⟩)
  · cases h
theorem NW.warm {s U : State} (hW : s.WarmedH U.vm) (h : NW s) : NW U := by
  intro w hw
  have h0 := h w hw
  rcases nest_kind (List.all_eq_true.mp nb_nest w hw) with ⟨a, i, b, n, d, q, rfl⟩ | ⟨a, i, x, q, rfl⟩ | ⟨C, rfl⟩
  · exact va_Nw.warmF hW h0
  · exact va_Nw.warmM hW h0
  · exact va_AO.moved hW.alike h0
theorem NW.same {s U : State} (hv : s.vm = U.vm) (h : NW s) : NW U := by
  intro w hw
  have h0 := h w hw
  rcases nest_kind (List.all_eq_true.mp nb_nest w hw) with ⟨a, i, b, n, d, q, rfl⟩ | ⟨a, i, x, q, rfl⟩ | ⟨C, rfl⟩
  · exact va_Nw.same rfl hv h0
  · exact va_Nw.same rfl hv h0
  · exact va_AO.moved (by rw [hv]; exact Vm.Alike.refl _) h0
theorem NW.use {s : State} {args : Array Value} {w : Cond} (h : NW s) (hw : w ∈ nb) : w.before args s = true := by
  have h0 := h w hw
  rcases nest_kind (List.all_eq_true.mp nb_nest w hw) with ⟨a, i, b, n, d, q, rfl⟩ | ⟨a, i, x, q, rfl⟩ | ⟨C, rfl⟩
  · exact va_Nw.use rfl h0
  · exact va_Nw.use rfl h0
  · exact va_AO.use h0
section GC
variable {p : Program} {l : Launch} {e : Env} {R : Room} {s : State} {m : MethodId} {args : Array Value} {below : List Frame} {meth : Method} {c : Code}
variable {nL : Nat} {D : va_G} {cl : List vw_C} {A : Nat → Prop} {Q : State → Prop} {cells slots pc : Nat} {L L' : List (Nat × Value)} {st : List Value} {ws ws' : va_W}
variable {cc : ByteArray} {Ts : List Cond} {own : String} {tys : List (ClassId × FieldType)} {a : Nat}
def gw (p : Program) (l : Launch) (e : Env) (R : Room) (s : State) (m : MethodId) (args : Array Value) (below : List Frame) (meth : Method) (c : Code) (nL : Nat) (D : va_G) (cl : List vw_C) (A : Nat → Prop) (Q : State → Prop) (cells slots pc : Nat) (L : List (Nat × Value)) (st : List Value) (ws : va_W) : Prop :=
  ∀ (ls : Array Slot) (H : Heap) (locs : List Loc), lv_has ls nL L → va_P D cl ws H → va_D A ws → va_S A s.heap H locs → W p l e R s m args below meth c H locs cells slots Q (F0 m pc ls st)
def gf (p : Program) (s : State) (m : MethodId) (args : Array Value) (meth : Method) (c : Code) (nL : Nat) (D : va_G) (cl : List vw_C) (A : Nat → Prop) (cc : ByteArray) (Ts : List Cond) (own : String) (tys : List (ClassId × FieldType)) : Prop :=
  CallFix p m c cc nL s args Ts own ∧ va_K D cl tys s ∧ (∀ q, s.heap.size ≤ q → A q) ∧ NW s
-- a state that is the same by computation
theorem g_eq {pc' : Nat} (h1 : pc = pc') (h2 : L = L') {st' : List Value} (h3 : st = st') (h4 : ws = ws') (k : gw p l e R s m args below meth c nL D cl A Q cells slots pc' L' st' ws') : gw p l e R s m args below meth c nL D cl A Q cells slots pc L st ws := by
  subst h1; subst h2; subst h3; subst h4; exact k
theorem g_world (h4 : ws = ws') (k : gw p l e R s m args below meth c nL D cl A Q cells slots pc L st ws') : gw p l e R s m args below meth c nL D cl A Q cells slots pc L st ws := by
  subst h4; exact k
-- constants
theorem g_iconst (F : gf p s m args meth c nL D cl A cc Ts own tys) {n : Int} {v : Int32} (hd : decode cc pc = .ok (.iconst n, 1)) (hv : Int32.ofInt n = v)
    (k : gw p l e R s m args below meth c nL D cl A Q cells slots (pc + 1) L (.int v :: st) ws) : gw p l e R s m args below meth c nL D cl A Q cells slots pc L st ws :=
  fun ls H locs h1 h2 h3 h4 => lv_iconst F.1.1 F.1.2.1 hd hv (k ls H locs h1 h2 h3 h4)
theorem g_bipush (F : gf p s m args meth c nL D cl A cc Ts own tys) {n : Int} {v : Int32} (hd : decode cc pc = .ok (.bipush n, 2)) (hv : (Int8.ofInt n).toInt32 = v)
    (k : gw p l e R s m args below meth c nL D cl A Q cells slots (pc + 2) L (.int v :: st) ws) : gw p l e R s m args below meth c nL D cl A Q cells slots pc L st ws :=
  fun ls H locs h1 h2 h3 h4 => lv_bipush F.1.1 F.1.2.1 hd hv (k ls H locs h1 h2 h3 h4)
theorem g_sipush (F : gf p s m args meth c nL D cl A cc Ts own tys) {n : Int} {v : Int32} (hd : decode cc pc = .ok (.sipush n, 3)) (hv : (Int16.ofInt n).toInt32 = v)
    (k : gw p l e R s m args below meth c nL D cl A Q cells slots (pc + 3) L (.int v :: st) ws) : gw p l e R s m args below meth c nL D cl A Q cells slots pc L st ws :=
  fun ls H locs h1 h2 h3 h4 => lv_sipush F.1.1 F.1.2.1 hd hv (k ls H locs h1 h2 h3 h4)
-- locals: j is the place in L
theorem g_iload_n (F : gf p s m args meth c nL D cl A cc Ts own tys) {i : Fin 4} {x : Int32} (hd : decode cc pc = .ok (.iload_n i, 1)) (j : Nat) (hj : L[j]? = some ((i : Nat), .int x))
    (k : gw p l e R s m args below meth c nL D cl A Q cells slots (pc + 1) L (.int x :: st) ws) : gw p l e R s m args below meth c nL D cl A Q cells slots pc L st ws :=
  fun ls H locs h1 h2 h3 h4 => lv_iload_n F.1.1 F.1.2.1 hd rfl (lv_at h1 j hj) (k ls H locs h1 h2 h3 h4)
theorem g_iload (F : gf p s m args meth c nL D cl A cc Ts own tys) {i : Nat} {x : Int32} (hd : decode cc pc = .ok (.iload i, 2)) (j : Nat) (hj : L[j]? = some (i, .int x))
    (k : gw p l e R s m args below meth c nL D cl A Q cells slots (pc + 2) L (.int x :: st) ws) : gw p l e R s m args below meth c nL D cl A Q cells slots pc L st ws :=
  fun ls H locs h1 h2 h3 h4 => lv_iload F.1.1 F.1.2.1 hd (lv_at h1 j hj) (k ls H locs h1 h2 h3 h4)
theorem g_aload_n (F : gf p s m args meth c nL D cl A cc Ts own tys) {i : Fin 4} {x : Nat} (hd : decode cc pc = .ok (.aload_n i, 1)) (j : Nat) (hj : L[j]? = some ((i : Nat), .ref x))
    (k : gw p l e R s m args below meth c nL D cl A Q cells slots (pc + 1) L (.ref x :: st) ws) : gw p l e R s m args below meth c nL D cl A Q cells slots pc L st ws :=
  fun ls H locs h1 h2 h3 h4 => lv_aload_n F.1.1 F.1.2.1 hd rfl (lv_at h1 j hj) (k ls H locs h1 h2 h3 h4)
theorem g_aload (F : gf p s m args meth c nL D cl A cc Ts own tys) {i : Nat} {x : Nat} (hd : decode cc pc = .ok (.aload i, 2)) (j : Nat) (hj : L[j]? = some (i, .ref x))
    (k : gw p l e R s m args below meth c nL D cl A Q cells slots (pc + 2) L (.ref x :: st) ws) : gw p l e R s m args below meth c nL D cl A Q cells slots pc L st ws :=
  fun ls H locs h1 h2 h3 h4 => lv_aload F.1.1 F.1.2.1 hd (lv_at h1 j hj) (k ls H locs h1 h2 h3 h4)
theorem g_istore_n (F : gf p s m args meth c nL D cl A cc Ts own tys) {i : Fin 4} {x : Int32} (L' : List (Nat × Value)) (hd : decode cc pc = .ok (.istore_n i, 1)) (hn : (i : Nat) < nL) (hl : ((i : Nat), Value.int x) :: L.filter (fun q => !(q.1 == (i : Nat)) && !(q.1 + 1 == (i : Nat) && q.2.category == 2)) = L')
    (k : gw p l e R s m args below meth c nL D cl A Q cells slots (pc + 1) L' st ws) : gw p l e R s m args below meth c nL D cl A Q cells slots pc L (.int x :: st) ws :=
  fun ls H locs h1 h2 h3 h4 => lv_istore_n F.1.1 F.1.2.1 hd rfl h1 hn hl (fun ls' h' => k ls' H locs h' h2 h3 h4)
theorem g_istore (F : gf p s m args meth c nL D cl A cc Ts own tys) {i : Nat} {x : Int32} (L' : List (Nat × Value)) (hd : decode cc pc = .ok (.istore i, 2)) (hn : i < nL) (hl : (i, Value.int x) :: L.filter (fun q => !(q.1 == i) && !(q.1 + 1 == i && q.2.category == 2)) = L')
    (k : gw p l e R s m args below meth c nL D cl A Q cells slots (pc + 2) L' st ws) : gw p l e R s m args below meth c nL D cl A Q cells slots pc L (.int x :: st) ws :=
  fun ls H locs h1 h2 h3 h4 => lv_istore F.1.1 F.1.2.1 hd h1 hn hl (fun ls' h' => k ls' H locs h' h2 h3 h4)
theorem g_astore_n (F : gf p s m args meth c nL D cl A cc Ts own tys) {i : Fin 4} {x : Nat} (L' : List (Nat × Value)) (hd : decode cc pc = .ok (.astore_n i, 1)) (hn : (i : Nat) < nL) (hl : ((i : Nat), Value.ref x) :: L.filter (fun q => !(q.1 == (i : Nat)) && !(q.1 + 1 == (i : Nat) && q.2.category == 2)) = L')
    (k : gw p l e R s m args below meth c nL D cl A Q cells slots (pc + 1) L' st ws) : gw p l e R s m args below meth c nL D cl A Q cells slots pc L (.ref x :: st) ws :=
  fun ls H locs h1 h2 h3 h4 => lv_astore_n F.1.1 F.1.2.1 hd rfl h1 hn hl (fun ls' h' => k ls' H locs h' h2 h3 h4)
theorem g_astore (F : gf p s m args meth c nL D cl A cc Ts own tys) {i : Nat} {x : Nat} (L' : List (Nat × Value)) (hd : decode cc pc = .ok (.astore i, 2)) (hn : i < nL) (hl : (i, Value.ref x) :: L.filter (fun q => !(q.1 == i) && !(q.1 + 1 == i && q.2.category == 2)) = L')
    (k : gw p l e R s m args below meth c nL D cl A Q cells slots (pc + 2) L' st ws) : gw p l e R s m args below meth c nL D cl A Q cells slots pc L (.ref x :: st) ws :=
  fun ls H locs h1 h2 h3 h4 => lv_astore F.1.1 F.1.2.1 hd h1 hn hl (fun ls' h' => k ls' H locs h' h2 h3 h4)
theorem g_iinc (F : gf p s m args meth c nL D cl A cc Ts own tys) {i : Nat} {n : Int} {x v : Int32} (L' : List (Nat × Value)) (hd : decode cc pc = .ok (.iinc i n, 3)) (j : Nat) (hj : L[j]? = some (i, .int x)) (hv : x + Int32.ofInt n = v) (hn : i < nL) (hl : (i, Value.int v) :: L.filter (fun q => !(q.1 == i) && !(q.1 + 1 == i && q.2.category == 2)) = L')
    (k : gw p l e R s m args below meth c nL D cl A Q cells slots (pc + 3) L' st ws) : gw p l e R s m args below meth c nL D cl A Q cells slots pc L st ws :=
  fun ls H locs h1 h2 h3 h4 => lv_iinc F.1.1 F.1.2.1 hd h1 hj hv hn hl (fun ls' h' => k ls' H locs h' h2 h3 h4)
-- locals whose order or number is changed (a join, a loop's head)
theorem g_locals (L' : List (Nat × Value)) (ks : List Nat) (hl : lv_pick L ks = L') (k : gw p l e R s m args below meth c nL D cl A Q cells slots pc L' st ws) : gw p l e R s m args below meth c nL D cl A Q cells slots pc L st ws :=
  fun ls H locs h1 h2 h3 h4 => k ls H locs (lv_sub h1 ks hl) h2 h3 h4
-- arithmetic
theorem g_iadd (F : gf p s m args meth c nL D cl A cc Ts own tys) {x y : Int32} (hd : decode cc pc = .ok (.iadd, 1))
    (k : gw p l e R s m args below meth c nL D cl A Q cells slots (pc + 1) L (.int (x + y) :: st) ws) : gw p l e R s m args below meth c nL D cl A Q cells slots pc L (.int y :: .int x :: st) ws :=
  fun ls H locs h1 h2 h3 h4 => lv_iadd F.1.1 F.1.2.1 hd (k ls H locs h1 h2 h3 h4)
theorem g_isub (F : gf p s m args meth c nL D cl A cc Ts own tys) {x y : Int32} (hd : decode cc pc = .ok (.isub, 1))
    (k : gw p l e R s m args below meth c nL D cl A Q cells slots (pc + 1) L (.int (x - y) :: st) ws) : gw p l e R s m args below meth c nL D cl A Q cells slots pc L (.int y :: .int x :: st) ws :=
  fun ls H locs h1 h2 h3 h4 => lv_isub F.1.1 F.1.2.1 hd (k ls H locs h1 h2 h3 h4)
theorem g_imul (F : gf p s m args meth c nL D cl A cc Ts own tys) {x y : Int32} (hd : decode cc pc = .ok (.imul, 1))
    (k : gw p l e R s m args below meth c nL D cl A Q cells slots (pc + 1) L (.int (x * y) :: st) ws) : gw p l e R s m args below meth c nL D cl A Q cells slots pc L (.int y :: .int x :: st) ws :=
  fun ls H locs h1 h2 h3 h4 => lv_imul F.1.1 F.1.2.1 hd (k ls H locs h1 h2 h3 h4)
theorem g_iand (F : gf p s m args meth c nL D cl A cc Ts own tys) {x y : Int32} (hd : decode cc pc = .ok (.iand, 1))
    (k : gw p l e R s m args below meth c nL D cl A Q cells slots (pc + 1) L (.int (x &&& y) :: st) ws) : gw p l e R s m args below meth c nL D cl A Q cells slots pc L (.int y :: .int x :: st) ws :=
  fun ls H locs h1 h2 h3 h4 => lv_iand F.1.1 F.1.2.1 hd (k ls H locs h1 h2 h3 h4)
theorem g_ior (F : gf p s m args meth c nL D cl A cc Ts own tys) {x y : Int32} (hd : decode cc pc = .ok (.ior, 1))
    (k : gw p l e R s m args below meth c nL D cl A Q cells slots (pc + 1) L (.int (x ||| y) :: st) ws) : gw p l e R s m args below meth c nL D cl A Q cells slots pc L (.int y :: .int x :: st) ws :=
  fun ls H locs h1 h2 h3 h4 => lv_ior F.1.1 F.1.2.1 hd (k ls H locs h1 h2 h3 h4)
theorem g_ixor (F : gf p s m args meth c nL D cl A cc Ts own tys) {x y : Int32} (hd : decode cc pc = .ok (.ixor, 1))
    (k : gw p l e R s m args below meth c nL D cl A Q cells slots (pc + 1) L (.int (x ^^^ y) :: st) ws) : gw p l e R s m args below meth c nL D cl A Q cells slots pc L (.int y :: .int x :: st) ws :=
  fun ls H locs h1 h2 h3 h4 => lv_ixor F.1.1 F.1.2.1 hd (k ls H locs h1 h2 h3 h4)
theorem g_ishl (F : gf p s m args meth c nL D cl A cc Ts own tys) {x y : Int32} (hd : decode cc pc = .ok (.ishl, 1))
    (k : gw p l e R s m args below meth c nL D cl A Q cells slots (pc + 1) L (.int (x <<< (y &&& 31)) :: st) ws) : gw p l e R s m args below meth c nL D cl A Q cells slots pc L (.int y :: .int x :: st) ws :=
  fun ls H locs h1 h2 h3 h4 => lv_ishl F.1.1 F.1.2.1 hd (k ls H locs h1 h2 h3 h4)
theorem g_idiv (F : gf p s m args meth c nL D cl A cc Ts own tys) {x y : Int32} (hd : decode cc pc = .ok (.idiv, 1)) (hne : ¬ y = 0)
    (k : gw p l e R s m args below meth c nL D cl A Q cells slots (pc + 1) L (.int (x / y) :: st) ws) : gw p l e R s m args below meth c nL D cl A Q cells slots pc L (.int y :: .int x :: st) ws :=
  fun ls H locs h1 h2 h3 h4 => lv_idiv F.1.1 F.1.2.1 hd hne (k ls H locs h1 h2 h3 h4)
theorem g_irem (F : gf p s m args meth c nL D cl A cc Ts own tys) {x y : Int32} (hd : decode cc pc = .ok (.irem, 1)) (hne : ¬ y = 0)
    (k : gw p l e R s m args below meth c nL D cl A Q cells slots (pc + 1) L (.int (x - x / y * y) :: st) ws) : gw p l e R s m args below meth c nL D cl A Q cells slots pc L (.int y :: .int x :: st) ws :=
  fun ls H locs h1 h2 h3 h4 => lv_irem F.1.1 F.1.2.1 hd hne (k ls H locs h1 h2 h3 h4)
-- stack
theorem g_dup (F : gf p s m args meth c nL D cl A cc Ts own tys) {v : Value} (hd : decode cc pc = .ok (.dup, 1)) (hv : v.category = 1)
    (k : gw p l e R s m args below meth c nL D cl A Q cells slots (pc + 1) L (v :: v :: st) ws) : gw p l e R s m args below meth c nL D cl A Q cells slots pc L (v :: st) ws :=
  fun ls H locs h1 h2 h3 h4 => lv_dup F.1.1 F.1.2.1 hd hv (k ls H locs h1 h2 h3 h4)
theorem g_pop (F : gf p s m args meth c nL D cl A cc Ts own tys) {v : Value} (hd : decode cc pc = .ok (.pop, 1)) (hv : v.category = 1)
    (k : gw p l e R s m args below meth c nL D cl A Q cells slots (pc + 1) L st ws) : gw p l e R s m args below meth c nL D cl A Q cells slots pc L (v :: st) ws :=
  fun ls H locs h1 h2 h3 h4 => lv_pop F.1.1 F.1.2.1 hd hv (k ls H locs h1 h2 h3 h4)
-- a computed number gets a name
theorem g_topi {x : Int32} (k : ∀ y : Int32, y = x → gw p l e R s m args below meth c nL D cl A Q cells slots pc L (.int y :: st) ws) : gw p l e R s m args below meth c nL D cl A Q cells slots pc L (.int x :: st) ws := k x rfl
-- jumps
theorem g_goto (F : gf p s m args meth c nL D cl A cc Ts own tys) {off : Int} {tgt : Nat} (hd : decode cc pc = .ok (.goto off, 3)) (ht : (pc : Int) + off = (tgt : Int))
    (k : gw p l e R s m args below meth c nL D cl A Q cells slots tgt L st ws) : gw p l e R s m args below meth c nL D cl A Q cells slots pc L st ws :=
  fun ls H locs h1 h2 h3 h4 => lv_goto F.1.1 F.1.2.1 hd ht (k ls H locs h1 h2 h3 h4)
theorem g_if_eq (F : gf p s m args meth c nL D cl A cc Ts own tys) {x : Int32} {off : Int} {tgt : Nat} (hd : decode cc pc = .ok (.ifCond .eq off, 3)) (ht : (pc : Int) + off = (tgt : Int))
    (kt : x = 0 → gw p l e R s m args below meth c nL D cl A Q cells slots tgt L st ws) (kf : ¬ x = 0 → gw p l e R s m args below meth c nL D cl A Q cells slots (pc + 3) L st ws) : gw p l e R s m args below meth c nL D cl A Q cells slots pc L (.int x :: st) ws :=
  fun ls H locs h1 h2 h3 h4 => lv_if_eq F.1.1 F.1.2.1 hd ht (fun h => kt h ls H locs h1 h2 h3 h4) (fun h => kf h ls H locs h1 h2 h3 h4)
theorem g_if_ne (F : gf p s m args meth c nL D cl A cc Ts own tys) {x : Int32} {off : Int} {tgt : Nat} (hd : decode cc pc = .ok (.ifCond .ne off, 3)) (ht : (pc : Int) + off = (tgt : Int))
    (kt : ¬ x = 0 → gw p l e R s m args below meth c nL D cl A Q cells slots tgt L st ws) (kf : x = 0 → gw p l e R s m args below meth c nL D cl A Q cells slots (pc + 3) L st ws) : gw p l e R s m args below meth c nL D cl A Q cells slots pc L (.int x :: st) ws :=
  fun ls H locs h1 h2 h3 h4 => lv_if_ne F.1.1 F.1.2.1 hd ht (fun h => kt h ls H locs h1 h2 h3 h4) (fun h => kf h ls H locs h1 h2 h3 h4)
theorem g_if_lt (F : gf p s m args meth c nL D cl A cc Ts own tys) {x : Int32} {off : Int} {tgt : Nat} (hd : decode cc pc = .ok (.ifCond .lt off, 3)) (ht : (pc : Int) + off = (tgt : Int))
    (kt : x < 0 → gw p l e R s m args below meth c nL D cl A Q cells slots tgt L st ws) (kf : ¬ x < 0 → gw p l e R s m args below meth c nL D cl A Q cells slots (pc + 3) L st ws) : gw p l e R s m args below meth c nL D cl A Q cells slots pc L (.int x :: st) ws :=
  fun ls H locs h1 h2 h3 h4 => lv_if_lt F.1.1 F.1.2.1 hd ht (fun h => kt h ls H locs h1 h2 h3 h4) (fun h => kf h ls H locs h1 h2 h3 h4)
theorem g_if_ge (F : gf p s m args meth c nL D cl A cc Ts own tys) {x : Int32} {off : Int} {tgt : Nat} (hd : decode cc pc = .ok (.ifCond .ge off, 3)) (ht : (pc : Int) + off = (tgt : Int))
    (kt : 0 ≤ x → gw p l e R s m args below meth c nL D cl A Q cells slots tgt L st ws) (kf : ¬ 0 ≤ x → gw p l e R s m args below meth c nL D cl A Q cells slots (pc + 3) L st ws) : gw p l e R s m args below meth c nL D cl A Q cells slots pc L (.int x :: st) ws :=
  fun ls H locs h1 h2 h3 h4 => lv_if_ge F.1.1 F.1.2.1 hd ht (fun h => kt h ls H locs h1 h2 h3 h4) (fun h => kf h ls H locs h1 h2 h3 h4)
theorem g_if_gt (F : gf p s m args meth c nL D cl A cc Ts own tys) {x : Int32} {off : Int} {tgt : Nat} (hd : decode cc pc = .ok (.ifCond .gt off, 3)) (ht : (pc : Int) + off = (tgt : Int))
    (kt : 0 < x → gw p l e R s m args below meth c nL D cl A Q cells slots tgt L st ws) (kf : ¬ 0 < x → gw p l e R s m args below meth c nL D cl A Q cells slots (pc + 3) L st ws) : gw p l e R s m args below meth c nL D cl A Q cells slots pc L (.int x :: st) ws :=
  fun ls H locs h1 h2 h3 h4 => lv_if_gt F.1.1 F.1.2.1 hd ht (fun h => kt h ls H locs h1 h2 h3 h4) (fun h => kf h ls H locs h1 h2 h3 h4)
theorem g_if_le (F : gf p s m args meth c nL D cl A cc Ts own tys) {x : Int32} {off : Int} {tgt : Nat} (hd : decode cc pc = .ok (.ifCond .le off, 3)) (ht : (pc : Int) + off = (tgt : Int))
    (kt : x ≤ 0 → gw p l e R s m args below meth c nL D cl A Q cells slots tgt L st ws) (kf : ¬ x ≤ 0 → gw p l e R s m args below meth c nL D cl A Q cells slots (pc + 3) L st ws) : gw p l e R s m args below meth c nL D cl A Q cells slots pc L (.int x :: st) ws :=
  fun ls H locs h1 h2 h3 h4 => lv_if_le F.1.1 F.1.2.1 hd ht (fun h => kt h ls H locs h1 h2 h3 h4) (fun h => kf h ls H locs h1 h2 h3 h4)
theorem g_icmp_eq (F : gf p s m args meth c nL D cl A cc Ts own tys) {x y : Int32} {off : Int} {tgt : Nat} (hd : decode cc pc = .ok (.if_icmp .eq off, 3)) (ht : (pc : Int) + off = (tgt : Int))
    (kt : x = y → gw p l e R s m args below meth c nL D cl A Q cells slots tgt L st ws) (kf : ¬ x = y → gw p l e R s m args below meth c nL D cl A Q cells slots (pc + 3) L st ws) : gw p l e R s m args below meth c nL D cl A Q cells slots pc L (.int y :: .int x :: st) ws :=
  fun ls H locs h1 h2 h3 h4 => lv_icmp_eq F.1.1 F.1.2.1 hd ht (fun h => kt h ls H locs h1 h2 h3 h4) (fun h => kf h ls H locs h1 h2 h3 h4)
theorem g_icmp_ne (F : gf p s m args meth c nL D cl A cc Ts own tys) {x y : Int32} {off : Int} {tgt : Nat} (hd : decode cc pc = .ok (.if_icmp .ne off, 3)) (ht : (pc : Int) + off = (tgt : Int))
    (kt : ¬ x = y → gw p l e R s m args below meth c nL D cl A Q cells slots tgt L st ws) (kf : x = y → gw p l e R s m args below meth c nL D cl A Q cells slots (pc + 3) L st ws) : gw p l e R s m args below meth c nL D cl A Q cells slots pc L (.int y :: .int x :: st) ws :=
  fun ls H locs h1 h2 h3 h4 => lv_icmp_ne F.1.1 F.1.2.1 hd ht (fun h => kt h ls H locs h1 h2 h3 h4) (fun h => kf h ls H locs h1 h2 h3 h4)
theorem g_icmp_lt (F : gf p s m args meth c nL D cl A cc Ts own tys) {x y : Int32} {off : Int} {tgt : Nat} (hd : decode cc pc = .ok (.if_icmp .lt off, 3)) (ht : (pc : Int) + off = (tgt : Int))
    (kt : x < y → gw p l e R s m args below meth c nL D cl A Q cells slots tgt L st ws) (kf : ¬ x < y → gw p l e R s m args below meth c nL D cl A Q cells slots (pc + 3) L st ws) : gw p l e R s m args below meth c nL D cl A Q cells slots pc L (.int y :: .int x :: st) ws :=
  fun ls H locs h1 h2 h3 h4 => lv_icmp_lt F.1.1 F.1.2.1 hd ht (fun h => kt h ls H locs h1 h2 h3 h4) (fun h => kf h ls H locs h1 h2 h3 h4)
theorem g_icmp_ge (F : gf p s m args meth c nL D cl A cc Ts own tys) {x y : Int32} {off : Int} {tgt : Nat} (hd : decode cc pc = .ok (.if_icmp .ge off, 3)) (ht : (pc : Int) + off = (tgt : Int))
    (kt : y ≤ x → gw p l e R s m args below meth c nL D cl A Q cells slots tgt L st ws) (kf : ¬ y ≤ x → gw p l e R s m args below meth c nL D cl A Q cells slots (pc + 3) L st ws) : gw p l e R s m args below meth c nL D cl A Q cells slots pc L (.int y :: .int x :: st) ws :=
  fun ls H locs h1 h2 h3 h4 => lv_icmp_ge F.1.1 F.1.2.1 hd ht (fun h => kt h ls H locs h1 h2 h3 h4) (fun h => kf h ls H locs h1 h2 h3 h4)
theorem g_icmp_gt (F : gf p s m args meth c nL D cl A cc Ts own tys) {x y : Int32} {off : Int} {tgt : Nat} (hd : decode cc pc = .ok (.if_icmp .gt off, 3)) (ht : (pc : Int) + off = (tgt : Int))
    (kt : y < x → gw p l e R s m args below meth c nL D cl A Q cells slots tgt L st ws) (kf : ¬ y < x → gw p l e R s m args below meth c nL D cl A Q cells slots (pc + 3) L st ws) : gw p l e R s m args below meth c nL D cl A Q cells slots pc L (.int y :: .int x :: st) ws :=
  fun ls H locs h1 h2 h3 h4 => lv_icmp_gt F.1.1 F.1.2.1 hd ht (fun h => kt h ls H locs h1 h2 h3 h4) (fun h => kf h ls H locs h1 h2 h3 h4)
theorem g_icmp_le (F : gf p s m args meth c nL D cl A cc Ts own tys) {x y : Int32} {off : Int} {tgt : Nat} (hd : decode cc pc = .ok (.if_icmp .le off, 3)) (ht : (pc : Int) + off = (tgt : Int))
    (kt : x ≤ y → gw p l e R s m args below meth c nL D cl A Q cells slots tgt L st ws) (kf : ¬ x ≤ y → gw p l e R s m args below meth c nL D cl A Q cells slots (pc + 3) L st ws) : gw p l e R s m args below meth c nL D cl A Q cells slots pc L (.int y :: .int x :: st) ws :=
  fun ls H locs h1 h2 h3 h4 => lv_icmp_le F.1.1 F.1.2.1 hd ht (fun h => kt h ls H locs h1 h2 h3 h4) (fun h => kf h ls H locs h1 h2 h3 h4)
theorem g_tableOut (F : gf p s m args meth c nL D cl A cc Ts own tys) {dflt lo hi : Int} {offs : Array Int} {len : Nat} {x : Int32} {tgt : Nat} (hd : decode cc pc = .ok (.tableswitch dflt lo hi offs, len)) (h : x.toInt < lo ∨ hi < x.toInt) (ht : (pc : Int) + dflt = (tgt : Int))
    (k : gw p l e R s m args below meth c nL D cl A Q cells slots tgt L st ws) : gw p l e R s m args below meth c nL D cl A Q cells slots pc L (.int x :: st) ws :=
  fun ls H locs h1 h2 h3 h4 => lv_tableOut F.1.1 F.1.2.1 hd h ht (k ls H locs h1 h2 h3 h4)
theorem g_tableIn (F : gf p s m args meth c nL D cl A cc Ts own tys) {dflt lo hi : Int} {offs : Array Int} {len : Nat} {x : Int32} {off : Int} {tgt : Nat} (hd : decode cc pc = .ok (.tableswitch dflt lo hi offs, len)) (g1 : ¬ x.toInt < lo) (g2 : ¬ hi < x.toInt) (ho : offs[(x.toInt - lo).toNat]? = some off) (ht : (pc : Int) + off = (tgt : Int))
    (k : gw p l e R s m args below meth c nL D cl A Q cells slots tgt L st ws) : gw p l e R s m args below meth c nL D cl A Q cells slots pc L (.int x :: st) ws :=
  fun ls H locs h1 h2 h3 h4 => lv_tableIn F.1.1 F.1.2.1 hd g1 g2 ho ht (k ls H locs h1 h2 h3 h4)
theorem g_dup2 (F : gf p s m args meth c nL D cl A cc Ts own tys) {v w : Value} (hd : decode cc pc = .ok (.dup2, 1)) (hv : v.category = 1) (hw : w.category = 1)
    (k : gw p l e R s m args below meth c nL D cl A Q cells slots (pc + 1) L (v :: w :: v :: w :: st) ws) : gw p l e R s m args below meth c nL D cl A Q cells slots pc L (v :: w :: st) ws :=
  fun ls H locs h1 h2 h3 h4 => lv_dup2_11 F.1.1 F.1.2.1 hd hv hw (k ls H locs h1 h2 h3 h4)
theorem g_get (F : gf p s m args meth c nL D cl A cc Ts own tys) {ref C : String} {T : u_T} {N ci index : Nat} (hin : ∀ w ∈ u_ws C T N, w ∈ Ts) (q0 : Nat) {fs : List Value} (he : ws[q0]? = some (a, .inr (ci, fs))) (hc : cl[ci]? = some (C, T, N)) (j : Nat) (hj : j < N) (hlink : (Cond.fieldLink own index ref (T j).2.1 (T j).2.2.1).before args s = true) (hsame : ∀ x, s.fieldFound? (T j).1 (T j).2.1 (T j).2.2.1 = some x → s.fieldFound? ref (T j).2.1 (T j).2.2.1 = some x) {v : Value} (hv : fs[j]? = some v) (hd : decode cc pc = .ok (.getfield index, 3))
    (k : gw p l e R s m args below meth c nL D cl A Q cells slots (pc + 3) L (v :: st) ws) : gw p l e R s m args below meth c nL D cl A Q cells slots pc L (.ref a :: st) ws :=
  fun ls H locs h1 h2 h3 h4 => va_get F.1.1 F.1.2.1 F.1.2.2.2.2 hin F.1.2.2.2.1 F.2.1 h2 q0 he hc j hj hlink hsame hv hd (k ls H locs h1 h2 h3 h4)
theorem g_getN (F : gf p s m args meth c nL D cl A cc Ts own tys) {ref C : String} {T : u_T} {N ci index : Nat} (hin : ∀ w ∈ u_ws C T N, w ∈ Ts) (q0 : Nat) {fs : List Value} (he : ws[q0]? = some (a, .inr (ci, fs))) (hc : cl[ci]? = some (C, T, N)) (j : Nat) (hj : j < N) {host : String} (hlink : (Cond.fieldLinkNest own index ref (T j).2.1 (T j).2.2.1 host).before args s = true) (hsame : ∀ x, s.fieldFound? (T j).1 (T j).2.1 (T j).2.2.1 = some x → s.fieldFound? ref (T j).2.1 (T j).2.2.1 = some x) {v : Value} (hv : fs[j]? = some v) (hd : decode cc pc = .ok (.getfield index, 3))
    (k : gw p l e R s m args below meth c nL D cl A Q cells slots (pc + 3) L (v :: st) ws) : gw p l e R s m args below meth c nL D cl A Q cells slots pc L (.ref a :: st) ws :=
  fun ls H locs h1 h2 h3 h4 => va_getN F.1.1 F.1.2.1 F.1.2.2.2.2 hin F.1.2.2.2.1 F.2.1 h2 q0 he hc j hj hlink hsame hv hd (k ls H locs h1 h2 h3 h4)
theorem g_put (F : gf p s m args meth c nL D cl A cc Ts own tys) {ref C : String} {T : u_T} {N ci index : Nat} (hin : ∀ w ∈ u_ws C T N, w ∈ Ts) (ty0 : Nat → FieldType) (hty : ∀ k, k < N → parseFieldDescriptor (T k).2.2.1 = some (ty0 k)) (hnm : ∀ a, a < N → ∀ b, b < N → a ≠ b → (T a).2.1 ≠ (T b).2.1) (q0 : Nat) {fs : List Value} (he : ws[q0]? = some (a, .inr (ci, fs))) (hc : cl[ci]? = some (C, T, N)) (j : Nat) (hj : j < N) (hlink : (Cond.fieldLink own index ref (T j).2.1 (T j).2.2.1).before args s = true) (hsame : ∀ x, s.fieldFound? (T j).1 (T j).2.1 (T j).2.2.1 = some x → s.fieldFound? ref (T j).2.1 (T j).2.2.1 = some x) (hfin : (T j).2.2.2 = false) {ty : FieldType} {v : Value} (hdsc : parseFieldDescriptor (T j).2.2.1 = some ty) (hn : narrow ty v = v) (hfit : fits ty v = true) (hlen : j < fs.length) (hd : decode cc pc = .ok (.putfield index, 3)) (ws' : va_W) (hws : ws.set q0 (a, .inr (ci, fs.set j v)) = ws')
    (k : gw p l e R s m args below meth c nL D cl A Q cells slots (pc + 3) L st ws') : gw p l e R s m args below meth c nL D cl A Q cells slots pc L (v :: .ref a :: st) ws := by
  subst hws
  exact fun ls H locs h1 h2 h3 h4 => va_put F.1.1 F.1.2.1 F.1.2.2.2.2 hin ty0 hty hnm F.1.2.2.2.1 F.2.1 h2 h3 h4 q0 he hc j hj hlink hsame hfin hdsc hn hfit hlen hd (fun H1 locs1 g1 g2 g3 => k ls H1 locs1 h1 g1 g2 g3)
theorem g_putN (F : gf p s m args meth c nL D cl A cc Ts own tys) {ref C : String} {T : u_T} {N ci index : Nat} (hin : ∀ w ∈ u_ws C T N, w ∈ Ts) (ty0 : Nat → FieldType) (hty : ∀ k, k < N → parseFieldDescriptor (T k).2.2.1 = some (ty0 k)) (hnm : ∀ a, a < N → ∀ b, b < N → a ≠ b → (T a).2.1 ≠ (T b).2.1) (q0 : Nat) {fs : List Value} (he : ws[q0]? = some (a, .inr (ci, fs))) (hc : cl[ci]? = some (C, T, N)) (j : Nat) (hj : j < N) {host : String} (hlink : (Cond.fieldLinkNest own index ref (T j).2.1 (T j).2.2.1 host).before args s = true) (hsame : ∀ x, s.fieldFound? (T j).1 (T j).2.1 (T j).2.2.1 = some x → s.fieldFound? ref (T j).2.1 (T j).2.2.1 = some x) (hfin : (T j).2.2.2 = false) {ty : FieldType} {v : Value} (hdsc : parseFieldDescriptor (T j).2.2.1 = some ty) (hn : narrow ty v = v) (hfit : fits ty v = true) (hlen : j < fs.length) (hd : decode cc pc = .ok (.putfield index, 3)) (ws' : va_W) (hws : ws.set q0 (a, .inr (ci, fs.set j v)) = ws')
    (k : gw p l e R s m args below meth c nL D cl A Q cells slots (pc + 3) L st ws') : gw p l e R s m args below meth c nL D cl A Q cells slots pc L (v :: .ref a :: st) ws := by
  subst hws
  exact fun ls H locs h1 h2 h3 h4 => va_putN F.1.1 F.1.2.1 F.1.2.2.2.2 hin ty0 hty hnm F.1.2.2.2.1 F.2.1 h2 h3 h4 q0 he hc j hj hlink hsame hfin hdsc hn hfit hlen hd (fun H1 locs1 g1 g2 g3 => k ls H1 locs1 h1 g1 g2 g3)
theorem g_putF (F : gf p s m args meth c nL D cl A cc Ts own tys) {ref C : String} {T : u_T} {N ci index : Nat} (hin : ∀ w ∈ u_ws C T N, w ∈ Ts) (ty0 : Nat → FieldType) (hty : ∀ k, k < N → parseFieldDescriptor (T k).2.2.1 = some (ty0 k)) (hnm : ∀ a, a < N → ∀ b, b < N → a ≠ b → (T a).2.1 ≠ (T b).2.1) (q0 : Nat) {fs : List Value} (he : ws[q0]? = some (a, .inr (ci, fs))) (hc : cl[ci]? = some (C, T, N)) (j : Nat) (hj : j < N) (hlink : (Cond.fieldLink own index ref (T j).2.1 (T j).2.2.1).before args s = true) (hsame : ∀ x, s.fieldFound? (T j).1 (T j).2.1 (T j).2.2.1 = some x → s.fieldFound? ref (T j).2.1 (T j).2.2.1 = some x) (hfin : (T j).2.2.2 = true) (hin2 : meth.name = "<init>") (hdecl : (T j).1 = own) {ty : FieldType} {v : Value} (hdsc : parseFieldDescriptor (T j).2.2.1 = some ty) (hn : narrow ty v = v) (hfit : fits ty v = true) (hlen : j < fs.length) (hd : decode cc pc = .ok (.putfield index, 3)) (ws' : va_W) (hws : ws.set q0 (a, .inr (ci, fs.set j v)) = ws')
    (k : gw p l e R s m args below meth c nL D cl A Q cells slots (pc + 3) L st ws') : gw p l e R s m args below meth c nL D cl A Q cells slots pc L (v :: .ref a :: st) ws := by
  subst hws
  exact fun ls H locs h1 h2 h3 h4 => va_putF F.1.1 F.1.2.1 F.1.2.2.2.2 hin ty0 hty hnm F.1.2.2.2.1 F.2.1 h2 h3 h4 q0 he hc j hj hlink hsame hfin hin2 hdecl hdsc hn hfit hlen hd (fun H1 locs1 g1 g2 g3 => k ls H1 locs1 h1 g1 g2 g3)
theorem g_iald (F : gf p s m args meth c nL D cl A cc Ts own tys) (q0 t0 : Nat) {cA : ClassId} {n : Nat} {f : Nat → Int32} (ha : ws[q0]? = some (a, .inl (cA, n, .inl f))) (ht : tys[t0]? = some (cA, .int)) {i : Int32} (hin : vp_in i n) {v : Int32} (hv : f i.toNatClampNeg = v) (hd : decode cc pc = .ok (.iaload, 1))
    (k : gw p l e R s m args below meth c nL D cl A Q cells slots (pc + 1) L (.int v :: st) ws) : gw p l e R s m args below meth c nL D cl A Q cells slots pc L (.int i :: .ref a :: st) ws := by
  subst hv
  exact fun ls H locs h1 h2 h3 h4 => va_iald F.1.1 F.1.2.1 F.2.1 h2 q0 t0 ha ht hin hd (k ls H locs h1 h2 h3 h4)
theorem g_iast (F : gf p s m args meth c nL D cl A cc Ts own tys) (q0 t0 : Nat) {cA : ClassId} {n : Nat} {f : Nat → Int32} (ha : ws[q0]? = some (a, .inl (cA, n, .inl f))) (ht : tys[t0]? = some (cA, .int)) {i x : Int32} (hin : vp_in i n) (hd : decode cc pc = .ok (.iastore, 1)) (ws' : va_W) (hws : ws.set q0 (a, .inl (cA, n, .inl (upd f i.toNatClampNeg x))) = ws')
    (k : gw p l e R s m args below meth c nL D cl A Q cells slots (pc + 1) L st ws') : gw p l e R s m args below meth c nL D cl A Q cells slots pc L (.int x :: .int i :: .ref a :: st) ws := by
  subst hws
  exact fun ls H locs h1 h2 h3 h4 => va_iast F.1.1 F.1.2.1 F.2.1 h2 h3 h4 q0 t0 ha ht hin hd (fun H1 locs1 g1 g2 g3 => k ls H1 locs1 h1 g1 g2 g3)
theorem g_aald (F : gf p s m args meth c nL D cl A cc Ts own tys) (q0 t0 : Nat) {cA : ClassId} {C : String} {n : Nat} {f : Nat → Option Nat} (ha : ws[q0]? = some (a, .inl (cA, n, .inr (.inr (.inr (.inr f)))))) (ht : tys[t0]? = some (cA, .object C)) {i : Int32} (hin : vp_in i n) {x : Nat} (hv : f i.toNatClampNeg = some x) (hd : decode cc pc = .ok (.aaload, 1))
    (k : gw p l e R s m args below meth c nL D cl A Q cells slots (pc + 1) L (.ref x :: st) ws) : gw p l e R s m args below meth c nL D cl A Q cells slots pc L (.int i :: .ref a :: st) ws :=
  fun ls H locs h1 h2 h3 h4 => va_aldq F.1.1 F.1.2.1 F.2.1 h2 q0 t0 ha ht hin hd (by rw [hv]; exact k ls H locs h1 h2 h3 h4)
theorem g_aast (F : gf p s m args meth c nL D cl A cc Ts own tys) (q0 t0 qk ci : Nat) {cA : ClassId} {r : vw_C} {n v : Nat} {vs : List Value} {f : Nat → Option Nat} (ha : ws[q0]? = some (a, .inl (cA, n, .inr (.inr (.inr (.inr f)))))) (ht : tys[t0]? = some (cA, .object r.1)) (hv : ws[qk]? = some (v, .inr (ci, vs))) (hc : cl[ci]? = some r) {i : Int32} (hin : vp_in i n) (hd : decode cc pc = .ok (.aastore, 1)) (ws' : va_W) (hws : ws.set q0 (a, .inl (cA, n, .inr (.inr (.inr (.inr (va_up f i.toNatClampNeg (some v))))))) = ws')
    (k : gw p l e R s m args below meth c nL D cl A Q cells slots (pc + 1) L st ws') : gw p l e R s m args below meth c nL D cl A Q cells slots pc L (.ref v :: .int i :: .ref a :: st) ws := by
  subst hws
  exact fun ls H locs h1 h2 h3 h4 => va_astq F.1.1 F.1.2.1 F.2.1 h2 h3 h4 q0 t0 qk ci ha ht hv hc hin hd (fun H1 locs1 g1 g2 g3 => k ls H1 locs1 h1 g1 g2 g3)
theorem g_alen (F : gf p s m args meth c nL D cl A cc Ts own tys) (q0 t0 : Nat) {cA : ClassId} {x : vp_A} (ha : ws[q0]? = some (a, .inl (cA, x))) {ty : FieldType} (ht : tys[t0]? = some (cA, ty)) {v : Int32} (hv : Int32.ofNat x.1 = v) (hd : decode cc pc = .ok (.arraylength, 1))
    (k : gw p l e R s m args below meth c nL D cl A Q cells slots (pc + 1) L (.int v :: st) ws) : gw p l e R s m args below meth c nL D cl A Q cells slots pc L (.ref a :: st) ws :=
  fun ls H locs h1 h2 h3 h4 => va_alen F.1.1 F.1.2.1 F.2.1 h2 q0 t0 ha ht hv hd (k ls H locs h1 h2 h3 h4)
-- a new int array: its class is the one that tys names already
theorem g_newi (F : gf p s m args meth c nL D cl A cc Ts own tys) (t0 : Nat) {cA : ClassId} (ht : tys[t0]? = some (cA, .int)) (harr : (Cond.arrayClass .int).before args s = true) {n : Int32} {N : Nat} (hn : ¬ n < 0) (hN : n.toNatClampNeg = N) (hbytes : N * componentBytes .int ≤ 536870912) (hcells : cells + 1 ≤ R.cells) (hslots : slots + N ≤ R.slots) (hd : decode cc pc = .ok (.newarray .int, 2))
    (k : ∀ q : Nat, gw p l e R s m args below meth c nL D cl A Q (cells + 1) (slots + N) (pc + 2) L (.ref q :: st) (ws ++ [(q, .inl (cA, N, .inl (fun _ => 0)))])) : gw p l e R s m args below meth c nL D cl A Q cells slots pc L (.int n :: st) ws :=
  fun ls H locs h1 h2 h3 h4 => va_newa (atype := .int) (ty := .int) (a0 := (N, .inl (fun _ => 0))) F.1.1 F.1.2.1 harr rfl F.2.1 h2 h3 h4 F.2.2.1 (fun _ => rfl) hn hN hbytes hcells hslots hd (fun q cB H1 hK hP hD hS => by
    have e1 : s.vm.findClass ("[" ++ FieldType.int.toString) = some cA := (F.2.1.2 t0 _ ht).2
    have e2 : s.vm.findClass ("[" ++ FieldType.int.toString) = some cB := (hK.2 tys.length (cB, .int) (by simp)).2
    have e3 : cB = cA := Option.some.inj (e2.symm.trans e1)
    subst e3
    exact k q ls H1 locs h1 hP hD hS)
theorem g_newz (F : gf p s m args meth c nL D cl A cc Ts own tys) (t0 : Nat) {cA : ClassId} (ht : tys[t0]? = some (cA, .boolean)) (harr : (Cond.arrayClass .boolean).before args s = true) {n : Int32} {N : Nat} (hn : ¬ n < 0) (hN : n.toNatClampNeg = N) (hbytes : N * componentBytes .boolean ≤ 536870912) (hcells : cells + 1 ≤ R.cells) (hslots : slots + N ≤ R.slots) (hd : decode cc pc = .ok (.newarray .boolean, 2))
    (k : ∀ q : Nat, gw p l e R s m args below meth c nL D cl A Q (cells + 1) (slots + N) (pc + 2) L (.ref q :: st) (ws ++ [(q, .inl (cA, N, .inl (fun _ => 0)))])) : gw p l e R s m args below meth c nL D cl A Q cells slots pc L (.int n :: st) ws :=
  fun ls H locs h1 h2 h3 h4 => va_newa (atype := .boolean) (ty := .boolean) (a0 := (N, .inl (fun _ => 0))) F.1.1 F.1.2.1 harr rfl F.2.1 h2 h3 h4 F.2.2.1 (fun _ => rfl) hn hN hbytes hcells hslots hd (fun q cB H1 hK hP hD hS => by
    have e1 : s.vm.findClass ("[" ++ FieldType.boolean.toString) = some cA := (F.2.1.2 t0 _ ht).2
    have e2 : s.vm.findClass ("[" ++ FieldType.boolean.toString) = some cB := (hK.2 tys.length (cB, .boolean) (by simp)).2
    have e3 : cB = cA := Option.some.inj (e2.symm.trans e1)
    subst e3
    exact k q ls H1 locs h1 hP hD hS)
theorem g_new (F : gf p s m args meth c nL D cl A cc Ts own tys) {C : String} {T : u_T} {N ci index : Nat} (hin : ∀ w ∈ u_ws C T N, w ∈ Ts) (ty : Nat → FieldType) (hty : ∀ k, k < N → parseFieldDescriptor (T k).2.2.1 = some (ty k)) (hcl : (Cond.classLink own index C).before args s = true) (hinst : (Cond.instantiable C N).before args s = true) (hini : (Cond.initialized C).before args s = true) (hc : cl[ci]? = some (C, T, N)) {fs : List Value} (hfs : ∀ j, j < N → defaultValue (ty j) = vp_V fs j) (hcells : cells + 1 ≤ R.cells) (hslots : slots + N ≤ R.slots) (hd : decode cc pc = .ok (.new index, 3))
    (k : ∀ q : Nat, gw p l e R s m args below meth c nL D cl A Q (cells + 1) (slots + N) (pc + 3) L (.ref q :: st) (ws ++ [(q, .inr (ci, fs))])) : gw p l e R s m args below meth c nL D cl A Q cells slots pc L st ws :=
  fun ls H locs h1 h2 h3 h4 => va_new F.1.1 F.1.2.1 F.1.2.2.2.2 hin ty hty F.1.2.2.2.1 hcl hinst hini F.2.1 h2 h3 h4 F.2.2.1 hc hfs hcells hslots hd (fun q H1 hP hD hS => k q ls H1 locs h1 hP hD hS)
theorem g_objInit (F : gf p s m args meth c nL D cl A cc Ts own tys) {idx : Nat} {b : Nat} (hlink : (Cond.methodLink own idx objectInit).before args s = true) (hinst : (Cond.instanceMethod objectInit).before args s = true) (hcode : (Cond.code objectInit ⟨#[0xb1]⟩ 1 none).before args s = true) (hd : decode cc pc = .ok (.invokespecial idx, 3)) (hfr : 1 ≤ R.frames) (hlo : (st.map fun v => v.category).sum + 12 ≤ R.locals)
    (k : gw p l e R s m args below meth c nL D cl A Q cells slots (pc + 3) L st ws) : gw p l e R s m args below meth c nL D cl A Q cells slots pc L (.ref b :: st) ws :=
  fun ls H locs h1 h2 h3 h4 => W.objInit F.1.1 F.1.2.1 F.1.2.2.2.1 hlink hinst hcode rfl (by rw [F.1.2.2.1]; exact h1.1) rfl hd hfr (by show 2 * 0 + _ + 12 ≤ _; omega) (k ls H locs h1 h2 h3 h4)
theorem g_widen {k n : Nat} (e1 : cells ≤ k) (e2 : slots ≤ n) (kk : gw p l e R s m args below meth c nL D cl A Q k n pc L st ws) : gw p l e R s m args below meth c nL D cl A Q cells slots pc L st ws :=
  fun ls H locs h1 h2 h3 h4 => W.widen e1 e2 (kk ls H locs h1 h2 h3 h4)
-- contracts
def gP (D : va_G) (cl : List vw_C) (tys : List (ClassId × FieldType)) (av : List Value) (w0 : va_W) (sz : Nat) : Array Value → State → Prop :=
  va_Pc av (fun U => U.heap.size = sz ∧ va_P D cl w0 U.heap ∧ va_K D cl tys U ∧ NW U ∧ va_D (fun _ => True) w0)
def gQ (D : va_G) (cl : List vw_C) (tys : List (ClassId × FieldType)) (post : Option Value → va_W → Prop) (A : Nat → Prop) : Array Value → State → Outcome → State → Prop :=
  fun _ st oc t => (∃ (v : Option Value) (w1 : va_W), oc = .returned v ∧ post v w1 ∧ va_P D cl w1 t.heap ∧ va_K D cl tys t ∧ va_D A w1) ∧ va_F A st t
def gM (l : Launch) (y : MethodName) (Tc : List Cond) (rm : Room) (D : va_G) (cl : List vw_C) (tys : List (ClassId × FieldType)) (av : List Value) (w0 : va_W) (post : Option Value → va_W → Prop) (mc ms : Nat) : Prop :=
  ∀ sz : Nat, Met l y Tc rm (gP D cl tys av w0 sz) (gQ D cl tys post (va_A w0 sz)) mc ms (va_A w0 sz)
-- nothing is made, and the end is known
def gN (l : Launch) (y : MethodName) (Tc : List Cond) (rm : Room) (D : va_G) (cl : List vw_C) (tys : List (ClassId × FieldType)) (av : List Value) (w0 : va_W) (rv : Option Value) (w1 : va_W) : Prop :=
  gM l y Tc rm D cl tys av w0 (fun v w => v = rv ∧ w = w1) 0 0
theorem gP_blind {av : List Value} {w0 : va_W} {sz : Nat} : FrameBlind (gP D cl tys av w0 sz) := fun a U g mk q => by
  obtain ⟨q0, q1, qP, qK, qN, qD⟩ := q
  exact ⟨q0, q1, qP, va_K.moved (u := U) (U := U.calling g mk a) (Vm.Alike.refl U.vm) qK, NW.same (s := U) (U := U.calling g mk a) rfl qN, qD⟩
theorem g_head {y : MethodName} {Ts' : List Cond} {rm : Room} {ret : Option FieldType} {av : List Value} {w0 : va_W} {post : Option Value → va_W → Prop} {mc ms : Nat} (hy : plainName y.cls = true) (hw : Ts = Cond.code y cc nL ret :: Ts') (hlen : (lg_sl av).length ≤ nL)
    (body : ∀ (p : Program) (e : Env) (s : State) (m : MethodId) (args : Array Value) (below : List Frame) (meth : Method) (c : Code) (A : Nat → Prop), gf p s m args meth c nL D cl A cc Ts y.cls tys → meth.sig.returnType = ret → meth.locks = false → meth.name = y.name →
      gw p l e (headSpec Ts rm).room s m args below meth c nL D cl A (MQ below (gQ D cl tys post A) args s mc ms A) 0 0 0 (lv_args 0 av) [] w0) : gM l y Ts rm D cl tys av w0 post mc ms := by
  intro sz
  refine Met.ofW (cc := cc) (maxL := nL) (ret := ret) hy hw ?_
  intro p e s m args below meth c s₁ B hml hv
  obtain ⟨rfl, rfl, hP, hK, hN, hD0⟩ := hv
  have hts := atoms_spec (ws := Ts) B.pre
  have h := body p e s m av.toArray below meth c (va_A w0 s.heap.size) ⟨⟨B.exec, B.bytes, hml, findClass_of_methodNamed B.named, hts⟩, hK, fun q h => Or.inr h, hN⟩ B.returns B.notSynchronized (name_of_methodNamed B.named B.method).1
  rw [lg_entry_eq]
  exact h _ s.heap [] (lv_entry av hlen) hP (hD0.self (sz := s.heap.size)) va_S.rf
theorem g_iret (F : gf p s m args meth c nL D cl A cc Ts own tys) (hr : meth.sig.returnType = some .int) (hlk : meth.locks = false) {post : Option Value → va_W → Prop} {v : Int32} (hd : decode cc pc = .ok (.ireturn, 1)) (hp : post (some (.int v)) ws) :
    gw p l e R s m args below meth c nL D cl A (MQ below (gQ D cl tys post A) args s cells slots A) cells slots pc L [.int v] ws :=
  fun ls H locs h1 h2 h3 h4 => W.iret F.1.1 F.1.2.1 hr (fun t ht hW => ⟨⟨_, ws, rfl, hp, by rw [ht]; exact h2, va_K.moved hW.alike F.2.1, h3⟩, h4.F ht⟩) h4.2.2 hd hlk
theorem g_zret (F : gf p s m args meth c nL D cl A cc Ts own tys) {ty : FieldType} (hr : meth.sig.returnType = some ty) (hlk : meth.locks = false) {post : Option Value → va_W → Prop} {v : Int32} (hn : narrow ty (.int v) = .int v) (hd : decode cc pc = .ok (.ireturn, 1)) (hp : post (some (.int v)) ws) :
    gw p l e R s m args below meth c nL D cl A (MQ below (gQ D cl tys post A) args s cells slots A) cells slots pc L [.int v] ws :=
  fun ls H locs h1 h2 h3 h4 => W.zret F.1.1 F.1.2.1 hr hn (fun t ht hW => ⟨⟨_, ws, rfl, hp, by rw [ht]; exact h2, va_K.moved hW.alike F.2.1, h3⟩, h4.F ht⟩) h4.2.2 hd hlk
theorem g_vret (F : gf p s m args meth c nL D cl A cc Ts own tys) (hr : meth.sig.returnType = none) (hlk : meth.locks = false) {post : Option Value → va_W → Prop} (hd : decode cc pc = .ok (.return_, 1)) (hp : post none ws) :
    gw p l e R s m args below meth c nL D cl A (MQ below (gQ D cl tys post A) args s cells slots A) cells slots pc L [] ws :=
  fun ls H locs h1 h2 h3 h4 => W.vret F.1.1 F.1.2.1 hr (fun t ht hW => ⟨⟨_, ws, rfl, hp, by rw [ht]; exact h2, va_K.moved hW.alike F.2.1, h3⟩, h4.F ht⟩) h4.2.2 hd hlk
-- cells replaced where they stand
def gput (ws : va_W) (is : List Nat) (w1 : va_W) : va_W := match is, w1 with
  | i :: is, x :: w1 => gput (ws.set i x) is w1
  | _, _ => ws
theorem gput_get : ∀ (is : List Nat) (w1 ws : va_W), is.length = w1.length → (∀ i ∈ is, i < ws.length) → ∀ (k : Nat) (q : Nat × va_E), (gput ws is w1)[k]? = some q → (∃ j : Nat, is[j]? = some k ∧ w1[j]? = some q) ∨ (k ∉ is ∧ ws[k]? = some q)
  | [], w1, ws, _, _, k, q, h => Or.inr ⟨by simp, by simpa [gput] using h⟩
  | i :: is, [], ws, hl, _, k, q, h => by simp at hl
  | i :: is, x :: w1, ws, hl, hi, k, q, h => by
    have hi0 : i < ws.length := hi i (by simp)
    have h' : (gput (ws.set i x) is w1)[k]? = some q := h
    rcases gput_get is w1 (ws.set i x) (by simpa using hl) (fun j hj => by rw [List.length_set]; exact hi j (List.mem_cons_of_mem _ hj)) k q h' with ⟨j, h1, h2⟩ | ⟨h1, h2⟩
    · exact Or.inl ⟨j + 1, by simpa using h1, by simpa using h2⟩
    · by_cases hk : k = i
      · subst hk
        rw [List.getElem?_set_self hi0] at h2
        exact Or.inl ⟨0, by simp, by simpa using h2⟩
      · rw [List.getElem?_set_ne (Ne.symm hk)] at h2
        exact Or.inr ⟨by simp [hk, h1], h2⟩
theorem g_at {is : List Nat} {w : va_W} (hs : is.map (fun i => ws[i]?) = w.map some) : (∀ (k : Nat) (q : Nat × va_E), w[k]? = some q → ∃ i, is[k]? = some i ∧ ws[i]? = some q) ∧ ∀ (k i : Nat), is[k]? = some i → ∃ q, w[k]? = some q ∧ ws[i]? = some q := by
  refine ⟨fun k q hq => ?_, fun k i hi => ?_⟩
  · have h1 : (is.map (fun i => ws[i]?))[k]? = some (some q) := by rw [hs, List.getElem?_map, hq]; rfl
    rw [List.getElem?_map] at h1
    cases hi : is[k]? with
    | none => rw [hi] at h1; cases h1
    | some i => rw [hi] at h1; exact ⟨i, rfl, Option.some.inj h1⟩
  · have h1 : (w.map some)[k]? = some (ws[i]?) := by rw [← hs, List.getElem?_map, hi]; rfl
    rw [List.getElem?_map] at h1
    cases hq : w[k]? with
    | none => rw [hq] at h1; cases h1
    | some q => rw [hq] at h1; exact ⟨q, rfl, (Option.some.inj h1).symm⟩
theorem gput_len {w0 w1 : va_W} {is : List Nat} (hC : is.map (fun i => ws[i]?) = w0.map some) (hadr : w1.map Prod.fst = w0.map Prod.fst) : is.length = w1.length ∧ ∀ i ∈ is, i < ws.length := by
  have hl0 : is.length = w0.length := by have := congrArg List.length hC; simpa using this
  have hl1 : w1.length = w0.length := by have := congrArg List.length hadr; simpa using this
  refine ⟨by omega, fun i hi => ?_⟩
  obtain ⟨k, hk⟩ := List.getElem?_of_mem hi
  obtain ⟨q, -, h2⟩ := (g_at hC).2 k i hk
  exact (List.getElem?_eq_some_iff.mp h2).1
theorem gput_adr {w0 w1 : va_W} {is : List Nat} (hC : is.map (fun i => ws[i]?) = w0.map some) (hadr : w1.map Prod.fst = w0.map Prod.fst) : ∀ (k : Nat) (q : Nat × va_E), (gput ws is w1)[k]? = some q → ∃ q0, ws[k]? = some q0 ∧ q0.1 = q.1 := by
  intro k q h
  rcases gput_get is w1 ws (gput_len hC hadr).1 (gput_len hC hadr).2 k q h with ⟨j, h1, h2⟩ | ⟨-, h2⟩
  · obtain ⟨q0, h3, h4⟩ := (g_at hC).2 j k h1
    refine ⟨q0, h4, ?_⟩
    have e1 : (w1.map Prod.fst)[j]? = some q.1 := by rw [List.getElem?_map, h2]; rfl
    have e2 : (w0.map Prod.fst)[j]? = some q0.1 := by rw [List.getElem?_map, h3]; rfl
    rw [hadr, e2] at e1
    exact Option.some.inj e1
  · exact ⟨q, h2, rfl⟩
theorem gput_join {w0 w1 : va_W} {H H1 : Heap} {is : List Nat} (hP : va_P D cl ws H) (hD : va_D A ws) (hC : is.map (fun i => ws[i]?) = w0.map some) (hadr : w1.map Prod.fst = w0.map Prod.fst)
    (hk : ∀ q : Nat, q < H.size → ¬ va_A w0 H.size q → H1[q]? = H[q]?) (hP1 : va_P D cl w1 H1) : va_P D cl (gput ws is w1) H1 ∧ va_D A (gput ws is w1) := by
  have adr := gput_adr (w1 := w1) hC hadr
  refine ⟨fun k q h => ?_, fun i j x y hx hy hxy => ?_, fun k q h => ?_⟩
  · rcases gput_get is w1 ws (gput_len hC hadr).1 (gput_len hC hadr).2 k q h with ⟨j, -, h2⟩ | ⟨h1, h2⟩
    · exact hP1 j q h2
    · have hlt := (hP k q h2).lt
      refine (hP k q h2).kept (hk q.1 hlt (fun z => ?_))
      rcases z with ⟨k2, e, z⟩ | z
      · obtain ⟨i, h3, h4⟩ := (g_at hC).1 k2 (q.1, e) z
        have := hD.1 k i q (q.1, e) h2 h4 rfl
        subst this
        exact h1 (List.mem_of_getElem? h3)
      · omega
  · obtain ⟨x0, h1, h2⟩ := adr i x hx
    obtain ⟨y0, h3, h4⟩ := adr j y hy
    exact hD.1 i j x0 y0 h1 h3 (h2.trans (hxy.trans h4.symm))
  · obtain ⟨q0, h1, h2⟩ := adr k q h
    rw [← h2]
    exact hD.2 k q0 h1
-- .. and new cells behind them
theorem gput_more {w0 w1 nw : va_W} {H H1 : Heap} {is : List Nat} (hP : va_P D cl ws H) (hD : va_D A ws) (hC : is.map (fun i => ws[i]?) = w0.map some) (hadr : w1.map Prod.fst = w0.map Prod.fst)
    (hk : ∀ q : Nat, q < H.size → ¬ va_A w0 H.size q → H1[q]? = H[q]?) (hF : ∀ q, va_A w0 H.size q → A q) (hP1 : va_P D cl (w1 ++ nw) H1) (hD1 : va_D (va_A w0 H.size) (w1 ++ nw)) : va_P D cl (gput ws is w1 ++ nw) H1 ∧ va_D A (gput ws is w1 ++ nw) := by
  have ina : ∀ (k : Nat) (q : Nat × va_E), w1[k]? = some q → (w1 ++ nw)[k]? = some q := fun k q h => by
    rw [List.getElem?_append_left ((List.getElem?_eq_some_iff.mp h).1)]; exact h
  have inb : ∀ (k : Nat) (q : Nat × va_E), nw[k]? = some q → (w1 ++ nw)[w1.length + k]? = some q := fun k q h => by
    rw [List.getElem?_append_right (by omega)]; simpa using h
  obtain ⟨j1, j2⟩ := gput_join (H1 := H1) hP hD hC hadr hk (fun k q h => hP1 k q (ina k q h))
  have hnew : ∀ (k : Nat) (q : Nat × va_E), nw[k]? = some q → H.size ≤ q.1 := by
    intro k q h
    rcases hD1.2 _ q (inb k q h) with ⟨i, e, hi⟩ | h
    · exfalso
      have e1 : (w1.map Prod.fst)[i]? = some q.1 := by rw [hadr, List.getElem?_map, hi]; rfl
      rw [List.getElem?_map] at e1
      cases hw : w1[i]? with
      | none => rw [hw] at e1; cases e1
      | some x =>
        rw [hw] at e1
        have e2 : x.1 = q.1 := Option.some.inj e1
        have e3 := hD1.1 i (w1.length + k) x q (ina i x hw) (inb k q h) e2
        have e4 := (List.getElem?_eq_some_iff.mp hw).1
        omega
    · exact h
  refine ⟨j1.app (fun k q h => hP1 _ q (inb k q h)), j2.app ⟨fun i j x y hx hy hxy => ?_, fun k q h => hF q.1 (hD1.2 _ q (inb k q h))⟩ (fun i j x y hx hy hxy => ?_)⟩
  · have := hD1.1 _ _ x y (inb i x hx) (inb j y hy) hxy
    omega
  · obtain ⟨x0, h1, h2⟩ := gput_adr (w1 := w1) hC hadr i x hx
    have h3 := (hP i x0 h1).lt
    have h4 := hnew j y hy
    omega
-- a call that makes nothing: over any way of running it
theorem g_call (F : gf p s m args meth c nL D cl A cc Ts own tys) {av rest : List Value} {w0 w1 : va_W} {rv : Option Value} (is : List Nat) (hC : is.map (fun i => ws[i]?) = w0.map some) (hadr : w1.map Prod.fst = w0.map Prod.fst)
    (hrun : ∀ (ls : Array Slot) (H : Heap) (locs : List Loc), lv_has ls nL L → va_P D cl ws H → va_D A ws → va_P D cl w0 H → va_D (fun _ => True) w0 → va_Run p l e R s m args below meth c H locs cells slots 0 0 (F0 m pc ls st) rest (gQ D cl tys (fun v w => v = rv ∧ w = w1) (va_A w0 H.size) av.toArray) (va_A w0 H.size))
    (hnd : va_nd is = true) (ws' : va_W) (hws : gput ws is w1 = ws') (k : gw p l e R s m args below meth c nL D cl A Q cells slots (pc + 3) L (rv.toList ++ rest) ws') : gw p l e R s m args below meth c nL D cl A Q cells slots pc L st ws := by
  subst hws
  intro ls H locs h1 h2 h3 h4 T hT X
  have hP0 : va_P D cl w0 H := fun j q hq => by
    obtain ⟨i, -, h⟩ := (g_at hC).1 j q hq
    exact h2 i q h
  have hD0 : va_D A w0 := h3.sub is hnd hC
  have hF := va_free (wc := w0) h3 h4 F.2.2.1 is hC
  obtain ⟨v, st₀, t, T', Lc, e0, X', hL, e1, e2, ⟨⟨v', w', hv, ⟨rfl, rfl⟩, hP1, -, -⟩, hz, hk⟩, stp⟩ := hrun ls H locs h1 h2 h3 hP0 (hD0.weaken (fun _ _ _ _ => trivial)) T hT X
  cases hv
  rw [e0] at hz hk
  obtain ⟨j1, j2⟩ := gput_join (H1 := t.heap) h2 h3 hC hadr hk hP1
  rw [← e1] at j1
  obtain ⟨t2, a1, b1⟩ := k ls T'.heap (locs ++ Lc) h1 j1 j2 ⟨Nat.le_trans h4.1 (by rw [e1]; exact hz), fun q g1 g2 => by rw [e1, hk q (Nat.lt_of_lt_of_le g1 h4.1) (fun z => g2 (hF q z))]; exact h4.2.1 q g1 g2, fun q hq => by
      rcases List.mem_append.mp hq with h | h
      · exact h4.2.2 q h
      · exact hF _ (hL q h)⟩ T' rfl X'
  exact ⟨t2, stp t2 a1, b1⟩
theorem gP_pre {av : List Value} {w0 : va_W} {H : Heap} (F : gf p s m args meth c nL D cl A cc Ts own tys) (hP0 : va_P D cl w0 H) (hD0 : va_D (fun _ => True) w0) : ∀ U : State, U.heap = H → s.WarmedH U.vm → gP D cl tys av w0 H.size av.toArray U := fun U hU hW => ⟨rfl, by rw [hU], by rw [hU]; exact hP0, va_K.moved hW.alike F.2.1, NW.warm hW F.2.2.2, hD0⟩
-- the six ways of calling
theorem g_callS (F : gf p s m args meth c nL D cl A cc Ts own tys) {y : MethodName} {bytes : ByteArray} {maxL n index : Nat} {ret : Option FieldType} {Tc : List Cond} {rm : Room} {av rest : List Value} {w0 w1 : va_W} {rv : Option Value} (hM : gN l y Tc rm D cl tys av w0 rv w1) (cw : CallB R s args own index y bytes maxL ret Tc rm 0 0 n ∧ (Cond.static y).before args s = true) (is : List Nat) (hC : is.map (fun i => ws[i]?) = w0.map some) (hadr : w1.map Prod.fst = w0.map Prod.fst) (hnd : va_nd is = true) (hn : av.length = n) (hst : st = av.reverse ++ rest) (hW : (rest.map fun v => v.category).sum ≤ 8) (hf : cells ≤ R.cells ∧ slots ≤ R.slots) (hd : decode cc pc = .ok (.invokestatic index, 3)) (ws' : va_W) (hws : gput ws is w1 = ws')
    (k : gw p l e R s m args below meth c nL D cl A Q cells slots (pc + 3) L (rv.toList ++ rest) ws') : gw p l e R s m args below meth c nL D cl A Q cells slots pc L st ws :=
  g_call F (av := av) is hC hadr (fun ls H locs h1 h2 h3 g1 g2 => va_runS F.1 (hM H.size) cw ⟨gP_blind, gP_pre F g1 g2⟩ rfl hn h1.1 hst (lv_room hW) hd hf) hnd ws' hws k
theorem g_callSN (F : gf p s m args meth c nL D cl A cc Ts own tys) {y : MethodName} {bytes : ByteArray} {maxL n index : Nat} {host : String} {ret : Option FieldType} {Tc : List Cond} {rm : Room} {av rest : List Value} {w0 w1 : va_W} {rv : Option Value} (hM : gN l y Tc rm D cl tys av w0 rv w1) (cw : va_CN R s args own index y host bytes maxL ret Tc rm 0 0 n ∧ (Cond.static y).before args s = true ∧ True) (is : List Nat) (hC : is.map (fun i => ws[i]?) = w0.map some) (hadr : w1.map Prod.fst = w0.map Prod.fst) (hnd : va_nd is = true) (hn : av.length = n) (hst : st = av.reverse ++ rest) (hW : (rest.map fun v => v.category).sum ≤ 8) (hf : cells ≤ R.cells ∧ slots ≤ R.slots) (hd : decode cc pc = .ok (.invokestatic index, 3)) (ws' : va_W) (hws : gput ws is w1 = ws')
    (k : gw p l e R s m args below meth c nL D cl A Q cells slots (pc + 3) L (rv.toList ++ rest) ws') : gw p l e R s m args below meth c nL D cl A Q cells slots pc L st ws :=
  g_call F (av := av) is hC hadr (fun ls H locs h1 h2 h3 g1 g2 => va_runSN F.1 (hM H.size) cw ⟨gP_blind, gP_pre F g1 g2⟩ rfl hn h1.1 hst (lv_room hW) hd hf) hnd ws' hws k
theorem g_callV (F : gf p s m args meth c nL D cl A cc Ts own tys) {y : MethodName} {bytes : ByteArray} {maxL n index : Nat} {ret : Option FieldType} {Tc : List Cond} {rm : Room} {As rest : List Value} {w0 w1 : va_W} {rv : Option Value} {C : vw_C} {ci b : Nat} {fs : List Value} (hM : gN l y Tc rm D cl tys (.ref b :: As) w0 rv w1) (cw : CallW R s args own C.1 index y bytes maxL ret Tc rm 0 0 n) (q0 : Nat) (he : ws[q0]? = some (b, .inr (ci, fs))) (hcl : cl[ci]? = some C) (is : List Nat) (hC : is.map (fun i => ws[i]?) = w0.map some) (hadr : w1.map Prod.fst = w0.map Prod.fst) (hnd : va_nd is = true) (hn : As.length = n) (hst : st = As.reverse ++ .ref b :: rest) (hW : (rest.map fun v => v.category).sum ≤ 8) (hf : cells ≤ R.cells ∧ slots ≤ R.slots) (hd : decode cc pc = .ok (.invokevirtual index, 3)) (ws' : va_W) (hws : gput ws is w1 = ws')
    (k : gw p l e R s m args below meth c nL D cl A Q cells slots (pc + 3) L (rv.toList ++ rest) ws') : gw p l e R s m args below meth c nL D cl A Q cells slots pc L st ws :=
  g_call F (av := .ref b :: As) is hC hadr (fun ls H locs h1 h2 h3 g1 g2 => va_runV F.1 (hM H.size) cw ⟨gP_blind, va_recv F.2.1 h2 hcl he, gP_pre F g1 g2⟩ rfl hn h1.1 hst (lv_room hW) hd hf) hnd ws' hws k
theorem g_callVN (F : gf p s m args meth c nL D cl A cc Ts own tys) {y : MethodName} {bytes : ByteArray} {maxL n index : Nat} {host : String} {ret : Option FieldType} {Tc : List Cond} {rm : Room} {As rest : List Value} {w0 w1 : va_W} {rv : Option Value} {C : vw_C} {ci b : Nat} {fs : List Value} (hM : gN l y Tc rm D cl tys (.ref b :: As) w0 rv w1) (cw : va_CN R s args own index y host bytes maxL ret Tc rm 0 0 n ∧ (Cond.instanceMethod y).before args s = true ∧ (Cond.selects C.1 y y).before args s = true) (q0 : Nat) (he : ws[q0]? = some (b, .inr (ci, fs))) (hcl : cl[ci]? = some C) (is : List Nat) (hC : is.map (fun i => ws[i]?) = w0.map some) (hadr : w1.map Prod.fst = w0.map Prod.fst) (hnd : va_nd is = true) (hn : As.length = n) (hst : st = As.reverse ++ .ref b :: rest) (hW : (rest.map fun v => v.category).sum ≤ 8) (hf : cells ≤ R.cells ∧ slots ≤ R.slots) (hd : decode cc pc = .ok (.invokevirtual index, 3)) (ws' : va_W) (hws : gput ws is w1 = ws')
    (k : gw p l e R s m args below meth c nL D cl A Q cells slots (pc + 3) L (rv.toList ++ rest) ws') : gw p l e R s m args below meth c nL D cl A Q cells slots pc L st ws :=
  g_call F (av := .ref b :: As) is hC hadr (fun ls H locs h1 h2 h3 g1 g2 => va_runVN F.1 (hM H.size) cw ⟨gP_blind, va_recv F.2.1 h2 hcl he, gP_pre F g1 g2⟩ rfl hn h1.1 hst (lv_room hW) hd hf) hnd ws' hws k
-- a constructor's call: the cells handed over stand where they stood, the new ones behind
theorem g_callIN (F : gf p s m args meth c nL D cl A cc Ts own tys) {y : MethodName} {bytes : ByteArray} {maxL n index mc ms : Nat} {host : String} {Tc : List Cond} {rm : Room} {As rest : List Value} {w0 : va_W} {post : Option Value → va_W → Prop} {b : Nat} (hM : gM l y Tc rm D cl tys (.ref b :: As) w0 post mc ms) (cw : va_CN R s args own index y host bytes maxL none Tc rm mc ms n ∧ y.name = "<init>" ∧ (Cond.instanceMethod y).before args s = true) (is : List Nat) (hC : is.map (fun i => ws[i]?) = w0.map some) (hnd : va_nd is = true) (hn : As.length = n) (hst : st = As.reverse ++ .ref b :: rest) (hW : (rest.map fun v => v.category).sum ≤ 8) (hf : cells + mc ≤ R.cells ∧ slots + ms ≤ R.slots) (hd : decode cc pc = .ok (.invokespecial index, 3))
    (hpost : ∀ v w, post v w → v = none ∧ ∃ w1 nw, w = w1 ++ nw ∧ w1.map Prod.fst = w0.map Prod.fst)
    (k : ∀ w1 nw : va_W, post none (w1 ++ nw) → w1.map Prod.fst = w0.map Prod.fst → gw p l e R s m args below meth c nL D cl A Q (cells + mc) (slots + ms) (pc + 3) L rest (gput ws is w1 ++ nw)) : gw p l e R s m args below meth c nL D cl A Q cells slots pc L st ws := by
  intro ls H locs h1 h2 h3 h4 T hT X
  have hP0 : va_P D cl w0 H := fun j q hq => by
    obtain ⟨i, -, h⟩ := (g_at hC).1 j q hq
    exact h2 i q h
  have hD0 : va_D A w0 := h3.sub is hnd hC
  have hF := va_free (wc := w0) h3 h4 F.2.2.1 is hC
  obtain ⟨v, st₀, t, T', Lc, e0, X', hL, e1, e2, ⟨⟨v', w', hv, hpo, hP1, -, hD1⟩, hz, hk⟩, stp⟩ := va_runIN (b := b) (As := As) (rest := rest) F.1 (hM H.size) cw ⟨gP_blind, gP_pre F hP0 (hD0.weaken (fun _ _ _ _ => trivial))⟩ rfl hn h1.1 hst (lv_room hW) hd hf T hT X
  cases hv
  obtain ⟨rfl, w1, nw, rfl, hadr⟩ := hpost _ _ hpo
  rw [e0] at hz hk
  obtain ⟨j1, j2⟩ := gput_more (H1 := t.heap) h2 h3 hC hadr hk hF hP1 hD1
  rw [← e1] at j1
  obtain ⟨t2, a1, b1⟩ := k w1 nw hpo hadr ls T'.heap (locs ++ Lc) h1 j1 j2 ⟨Nat.le_trans h4.1 (by rw [e1]; exact hz), fun q g1 g2 => by rw [e1, hk q (Nat.lt_of_lt_of_le g1 h4.1) (fun z => g2 (hF q z))]; exact h4.2.1 q g1 g2, fun q hq => by
      rcases List.mem_append.mp hq with h | h
      · exact h4.2.2 q h
      · exact hF _ (hL q h)⟩ T' rfl X'
  exact ⟨t2, stp t2 a1, b1⟩
theorem g_mmax (F : gf p s m args meth c nL D cl A cc Ts own tys) {index : Nat} {x y : Int32} (hlink : (Cond.methodLink own index Lib.Math.max.name).before args s = true) (hstat : (Cond.static Lib.Math.max.name).before args s = true) (hini : (Cond.initialized "java/lang/Math").before args s = true) (hcode : (Cond.code Lib.Math.max.name Lib.Math.max.code 2 (some .int)).before args s = true) (hfr : 1 ≤ R.frames) (hlo : (st.map fun v => v.category).sum + 13 ≤ R.locals) (hc : cells ≤ R.cells) (hs : slots ≤ R.slots) (hd : decode cc pc = .ok (.invokestatic index, 3))
    (k : gw p l e R s m args below meth c nL D cl A Q cells slots (pc + 3) L (.int (if x < y then y else x) :: st) ws) : gw p l e R s m args below meth c nL D cl A Q cells slots pc L (.int y :: .int x :: st) ws :=
  fun ls H locs h1 h2 h3 h4 => va_mmax F.1.1 F.1.2.1 (by rw [F.1.2.2.1]; exact h1.1.symm) F.1.2.2.2.1 hlink hstat hini hcode hfr hlo hc hs hd (k ls H locs h1 h2 h3 h4)
theorem g_mmin (F : gf p s m args meth c nL D cl A cc Ts own tys) {index : Nat} {x y : Int32} (hlink : (Cond.methodLink own index Lib.Math.min.name).before args s = true) (hstat : (Cond.static Lib.Math.min.name).before args s = true) (hini : (Cond.initialized "java/lang/Math").before args s = true) (hcode : (Cond.code Lib.Math.min.name Lib.Math.min.code 2 (some .int)).before args s = true) (hfr : 1 ≤ R.frames) (hlo : (st.map fun v => v.category).sum + 13 ≤ R.locals) (hc : cells ≤ R.cells) (hs : slots ≤ R.slots) (hd : decode cc pc = .ok (.invokestatic index, 3))
    (k : gw p l e R s m args below meth c nL D cl A Q cells slots (pc + 3) L (.int (if y < x then y else x) :: st) ws) : gw p l e R s m args below meth c nL D cl A Q cells slots pc L (.int y :: .int x :: st) ws :=
  fun ls H locs h1 h2 h3 h4 => va_mmin F.1.1 F.1.2.1 (by rw [F.1.2.2.1]; exact h1.1.symm) F.1.2.2.2.1 hlink hstat hini hcode hfr hlo hc hs hd (k ls H locs h1 h2 h3 h4)
theorem g_newq (F : gf p s m args meth c nL D cl A cc Ts own tys) (t0 : Nat) {cA : ClassId} {C : String} {index : Nat} (ht : tys[t0]? = some (cA, .object C)) (hcl : (Cond.classLink own index C).before args s = true) (hover : va_AO C s) {n : Int32} {N : Nat} (hn : ¬ n < 0) (hN : n.toNatClampNeg = N) (hbytes : N * 4 ≤ 536870912) (hcells : cells + 1 ≤ R.cells) (hslots : slots + N ≤ R.slots) (hd : decode cc pc = .ok (.anewarray index, 3))
    (k : ∀ q : Nat, gw p l e R s m args below meth c nL D cl A Q (cells + 1) (slots + N) (pc + 3) L (.ref q :: st) (ws ++ [(q, .inl (cA, N, .inr (.inr (.inr (.inr (fun _ => none))))))])) : gw p l e R s m args below meth c nL D cl A Q cells slots pc L (.int n :: st) ws :=
  fun ls H locs h1 h2 h3 h4 => va_newq F.1.1 F.1.2.1 F.1.2.2.2.1 hcl hover F.2.1 h2 h3 h4 F.2.2.1 hn hN hbytes hcells hslots hd (fun q cB H1 hK hP hD hS => by
    obtain ⟨_, _, _, _, _, e1⟩ := (F.2.1.2 t0 _ ht).2
    obtain ⟨_, _, _, _, _, e2⟩ := (hK.2 tys.length (cB, .object C) (by simp)).2
    have e3 : cB = cA := Option.some.inj (e2.symm.trans e1)
    subst e3
    exact k q ls H1 locs h1 hP hD hS)
-- a call over the whole world: its cells stay where they stand
theorem adr_at {w0 w1 : va_W} (hadr : w1.map Prod.fst = w0.map Prod.fst) : ∀ (k : Nat) (q : Nat × va_E), w1[k]? = some q → ∃ q0, w0[k]? = some q0 ∧ q0.1 = q.1 := by
  intro k q h
  have e1 : (w1.map Prod.fst)[k]? = some q.1 := by rw [List.getElem?_map, h]; rfl
  rw [hadr, List.getElem?_map] at e1
  cases h0 : w0[k]? with
  | none => rw [h0] at e1; cases e1
  | some q0 => rw [h0] at e1; exact ⟨q0, rfl, Option.some.inj e1⟩
theorem adr_D {w0 w1 : va_W} (hadr : w1.map Prod.fst = w0.map Prod.fst) (h : va_D A w0) : va_D A w1 := by
  refine ⟨fun i j x y hx hy hxy => ?_, fun k q hk => ?_⟩
  · obtain ⟨x0, h1, h2⟩ := adr_at hadr i x hx
    obtain ⟨y0, h3, h4⟩ := adr_at hadr j y hy
    exact h.1 i j x0 y0 h1 h3 (h2.trans (hxy.trans h4.symm))
  · obtain ⟨q0, h1, h2⟩ := adr_at hadr k q hk
    rw [← h2]; exact h.2 k q0 h1
theorem g_callA (F : gf p s m args meth c nL D cl A cc Ts own tys) {av rest : List Value} {w1 : va_W} {rv : Option Value} (hadr : w1.map Prod.fst = ws.map Prod.fst)
    (hrun : ∀ (ls : Array Slot) (H : Heap) (locs : List Loc), lv_has ls nL L → va_P D cl ws H → va_D (fun _ => True) ws → va_Run p l e R s m args below meth c H locs cells slots 0 0 (F0 m pc ls st) rest (gQ D cl tys (fun v w => v = rv ∧ w = w1) (va_A ws H.size) av.toArray) (va_A ws H.size))
    (k : gw p l e R s m args below meth c nL D cl A Q cells slots (pc + 3) L (rv.toList ++ rest) w1) : gw p l e R s m args below meth c nL D cl A Q cells slots pc L st ws := by
  intro ls H locs h1 h2 h3 h4 T hT X
  have hF : ∀ q, va_A ws H.size q → A q := by
    intro q h
    rcases h with ⟨k, e, h⟩ | h
    · exact h3.2 k (q, e) h
    · exact F.2.2.1 q (Nat.le_trans h4.1 h)
  obtain ⟨v, st₀, t, T', Lc, e0, X', hL, e1, e2, ⟨⟨v', w', hv, ⟨rfl, rfl⟩, hP1, -, -⟩, hz, hk⟩, stp⟩ := hrun ls H locs h1 h2 (h3.weaken (fun _ _ _ _ => trivial)) T hT X
  cases hv
  rw [e0] at hz hk
  rw [← e1] at hP1
  obtain ⟨t2, a1, b1⟩ := k ls T'.heap (locs ++ Lc) h1 hP1 (adr_D hadr h3) ⟨Nat.le_trans h4.1 (by rw [e1]; exact hz), fun q g1 g2 => by rw [e1, hk q (Nat.lt_of_lt_of_le g1 h4.1) (fun z => g2 (hF q z))]; exact h4.2.1 q g1 g2, fun q hq => by
      rcases List.mem_append.mp hq with h | h
      · exact h4.2.2 q h
      · exact hF _ (hL q h)⟩ T' rfl X'
  exact ⟨t2, stp t2 a1, b1⟩
end GC
end
section
section PR
variable {X : Type} (mk : X → Nat) (a : Nat → Nat → Nat) (q : Nat → Nat → Nat → Nat) (lg : Nat → Nat → X)
variable (top : Nat) (own vt : Nat → Nat) (sett : Nat → Prop) (H : Nat → Nat → X) (HL I : Nat → Nat) (cl : Nat) (cm : Nat → X) (ce : Nat) (n : Nat → Nat → Nat)
def jB : Prop := ∀ s, s < 3 → a 0 s ≤ 4 ∧ a 2 s ≤ a 1 s ∧ a 4 s ≤ 24 ∧ a 3 s ≤ a 4 s
def jF : Prop := ∀ s, s < 3 → a 0 s = 2 → a 14 s < 3 ∧ a 14 s ≠ s ∧ 3 ≤ a 0 (a 14 s)
def jL : Prop := ∀ s, s < 3 → 3 ≤ a 0 s →
  (a 10 s ≠ 0 → a 10 s = a 1 s ∧ vt s = s) ∧
  (a 11 s ≠ 0 → a 10 s ≠ 0 ∧ a 2 s = a 1 s ∧ own (a 2 s) = s ∧ a 4 s = HL (a 2 s) ∧ a 12 s + I (a 2 s) ≤ HL (a 2 s) ∧ ∀ j, j < HL (a 2 s) → mk (H (a 2 s) j) ≤ 1000 * a 2 s + a 12 s) ∧
  (a 0 s = 4 → a 11 s ≠ 0) ∧
  (a 10 s ≠ 0 → own top = s → a 1 s = top → a 11 s ≠ 0) ∧ (a 11 s = 0 → a 12 s = 0)
def jG : Prop := ∀ s, s < 3 → sett (a 2 s) ∧ a 4 s ≤ HL (a 2 s) ∧ I (a 2 s) ≤ a 4 s ∧ ∀ j, j < a 4 s → lg s j = H (a 2 s) j
def jH : Prop := sett top ∧ ∀ e, sett e → e ≤ top ∧ I e ≤ HL e ∧ (∀ j, j < HL e → 1 ≤ mk (H e j) ∧ mk (H e j) < 1000 * (e + 1)) ∧ ∀ i j, i < j → j < HL e → mk (H e i) < mk (H e j)
def jW (s : Nat) : Prop := s < 3 ∧ (top < a 1 s ∨ a 1 s = top ∧ vt s = own top)
def jV : Prop := (own top < 3 → top ≤ a 1 (own top)) ∧ ∃ x y, x ≠ y ∧ jW a top own vt x ∧ jW a top own vt y
def jC : Prop := ce ≤ top ∧ sett ce ∧ (∀ e, sett e → ce ≤ e → cl ≤ HL e ∧ ∀ j, j < cl → H e j = cm j) ∧ (∀ e, sett e → ce < e → cl ≤ I e)
def jg (s : Nat) : Prop := s < 3 ∧ ce ≤ a 2 s ∧ cl ≤ a 4 s
def jQ : Prop := ∃ x y, x ≠ y ∧ jg a cl ce x ∧ jg a cl ce y
def jK (l k : Nat) : Prop := k ≤ cl ∧ (∀ i, i < k → H (a 2 l) i = cm i) ∧ ∀ e, sett e → a 2 l < e → k ≤ I e ∧ ∀ i, i < k → H e i = cm i
def jA : Prop := ∀ s, s < 3 → jK a sett H I cl cm s (a 3 s)
def jM1 : Prop := ∀ f, f < 3 → a 0 f = 2 → a 21 f ≤ a 20 f ∧ a 25 f ≤ a 24 f ∧ 1 ≤ a 20 f ∧ (a 21 f = 0 → a 24 f = 0) ∧ (1 ≤ a 21 f → 1 ≤ a 24 f) ∧
  (1 ≤ a 24 f → a 10 (a 14 f) ≠ 0 ∧ q 22 f 0 = 4 ∧ q 23 f 0 = a 1 (a 14 f)) ∧
  (a 25 f = 0 → a 20 f = 1) ∧ (1 ≤ a 25 f → 2 ≤ a 20 f ∧ a 1 f = a 1 (a 14 f)) ∧ (2 ≤ a 20 f → q 19 f 1 = 1 → vt f = a 14 f) ∧
  (a 16 f = 0 → a 24 f ≤ 1) ∧ (a 25 f ≤ 1 → a 20 f ≤ 2) ∧ (a 15 f ≠ 0 → a 16 f = 0 ∧ 2 ≤ a 21 f) ∧ a 17 f ≤ 1 ∧
  q 18 f 0 = 1 ∧ (2 ≤ a 20 f → q 18 f 1 = 2)
def jM2 : Prop := ∀ f, f < 3 → a 0 f = 2 → a 16 f ≠ 0 → 2 ≤ a 21 f ∧ a 11 (a 14 f) ≠ 0 ∧ 2 ≤ a 24 f ∧ q 22 f 1 = 5 ∧ I (a 2 (a 14 f)) ≤ q 23 f 1 ∧ q 23 f 1 ≤ a 4 (a 14 f) ∧
  n f 2 = q 23 f 1 ∧ n f (a 24 f) = a 4 (a 14 f) ∧ a 24 f + q 23 f 1 ≤ 2 + a 4 (a 14 f) + a 3 (a 14 f) + a 17 f ∧
  (a 25 f ≤ 1 → a 2 f = a 2 (a 14 f) → a 4 f ≤ q 23 f 1)
def jM3 : Prop := ∀ f, f < 3 → a 0 f = 2 → 2 ≤ a 25 f → a 2 f = a 2 (a 14 f) ∧ 3 ≤ a 20 f ∧ a 4 f = n f (a 25 f) ∧ a 20 f ≤ 3 + a 4 f ∧ ∀ j, 2 ≤ j → j < a 20 f → q 18 f j = 3 ∧ q 19 f j ≤ a 4 f
def jM4 : Prop := ∀ f, f < 3 → a 0 f = 2 → ∀ j, 2 ≤ j → j < a 24 f → n f j ≤ n f (j + 1) ∧ ((q 22 f j = 6 ∧ q 23 f j = n f j ∧ n f (j + 1) = n f j + 1) ∨
  (q 22 f j = 7 ∧ q 23 f j ≤ n f j ∧ n f (j + 1) = n f j ∧ jK a sett H I cl cm (a 14 f) (q 23 f j)))
def JG : Prop := jB a ∧ jF a ∧ jL mk a top own vt H HL I ∧ jG a lg sett H HL I ∧ jH mk top sett H HL I ∧ jV a top own vt ∧ jC top sett H HL I cl cm ce ∧ jQ a cl ce ∧ jA a sett H I cl cm ∧ jM1 a q vt ∧ jM2 a q I n ∧ jM3 a q n ∧ jM4 a q sett H I cl cm n
end PR
def u2 (a : Nat → Nat → Nat) (k s v : Nat) : Nat → Nat → Nat := fun k' s' => if k' = k ∧ s' = s then v else a k' s'
def u3 (q : Nat → Nat → Nat → Nat) (k s j v : Nat) : Nat → Nat → Nat → Nat := fun k' s' j' => if k' = k ∧ s' = s ∧ j' = j then v else q k' s' j'
theorem u2a (a : Nat → Nat → Nat) (k s v k' s' : Nat) : u2 a k s v k' s' = if k' = k ∧ s' = s then v else a k' s' := rfl
theorem u3a (q : Nat → Nat → Nat → Nat) (k s j v k' s' j' : Nat) : u3 q k s j v k' s' j' = if k' = k ∧ s' = s ∧ j' = j then v else q k' s' j' := rfl
section PR
variable {X : Type} {mk : X → Nat} {a : Nat → Nat → Nat} {q : Nat → Nat → Nat → Nat} {lg : Nat → Nat → X}
variable {top : Nat} {own vt : Nat → Nat} {sett : Nat → Prop} {H : Nat → Nat → X} {HL I : Nat → Nat} {cl : Nat} {cm : Nat → X} {ce : Nat} {n : Nat → Nat → Nat}
theorem pt_role (h : JG mk a q lg top own vt sett H HL I cl cm ce n) (s v : Nat) (hv : v ≤ 1) (hs : ∀ f, f < 3 → a 0 f = 2 → a 14 f ≠ s) : JG mk (u2 a 0 s v) q lg top own vt sett H HL I cl cm ce n := by
  obtain ⟨hB, hF, hL, hG, hH, hV, hC, hQ, hA, h1, h2, h3, h4⟩ := h
  refine ⟨?_, ?_, ?_, hG, hH, hV, hC, hQ, hA, ?_, ?_, ?_, ?_⟩
  · intro x hx; have := hB x hx; grind [= u2a]
  · intro x hx hr; have := hF x hx; have := hs x hx; grind [= u2a]
  · intro x hx hr
    have e : x ≠ s := by grind [= u2a]
    have e0 : u2 a 0 s v 0 x = a 0 x := by grind [= u2a]
    rw [e0] at hr
    have := hL x hx hr
    rw [e0]; exact this
  · intro x hx hr; have := h1 x hx; exact this (by grind [= u2a])
  · intro x hx hr; have := h2 x hx; exact this (by grind [= u2a])
  · intro x hx hr; have := h3 x hx; exact this (by grind [= u2a])
  · intro x hx hr; have := h4 x hx; exact this (by grind [= u2a])
theorem pt_app0 (h : JG mk a q lg top own vt sett H HL I cl cm ce n) (s : Nat) (hr : a 0 s ≤ 1) : JG mk (u2 a 3 s 0) q lg top own vt sett H HL I cl cm ce n := by
  obtain ⟨hB, hF, hL, hG, hH, hV, hC, hQ, hA, h1, h2, h3, h4⟩ := h
  refine ⟨?_, hF, hL, hG, hH, hV, hC, hQ, ?_, h1, ?_, h3, h4⟩
  · intro x hx; have := hB x hx; grind [= u2a]
  · intro x hx; by_cases e : x = s
    · have e0 : u2 a 3 s 0 3 x = 0 := by grind [= u2a]
      rw [e0]
      exact ⟨Nat.zero_le _, fun i hi => absurd hi (Nat.not_lt_zero _), fun e _ _ => ⟨Nat.zero_le _, fun i hi => absurd hi (Nat.not_lt_zero _)⟩⟩
    · have e0 : u2 a 3 s 0 3 x = a 3 x := by grind [= u2a]
      rw [e0]; exact hA x hx
  · intro x hx hr ht
    have := h2 x hx hr ht
    have hf := hF x hx hr
    have e0 : u2 a 3 s 0 3 (a 14 x) = a 3 (a 14 x) := by grind [= u2a]
    show 2 ≤ a 21 x ∧ a 11 (a 14 x) ≠ 0 ∧ 2 ≤ a 24 x ∧ q 22 x 1 = 5 ∧ I (a 2 (a 14 x)) ≤ q 23 x 1 ∧ q 23 x 1 ≤ a 4 (a 14 x) ∧ n x 2 = q 23 x 1 ∧ n x (a 24 x) = a 4 (a 14 x) ∧ a 24 x + q 23 x 1 ≤ 2 + a 4 (a 14 x) + u2 a 3 s 0 3 (a 14 x) + a 17 x ∧ (a 25 x ≤ 1 → a 2 x = a 2 (a 14 x) → a 4 x ≤ q 23 x 1)
    rw [e0]; exact this
theorem pt_link (h : JG mk a q lg top own vt sett H HL I cl cm ce n) (k s v : Nat) (hk : k = 15 ∨ k = 16 ∨ k = 17 ∨ k = 20 ∨ k = 21 ∨ k = 24 ∨ k = 25) (hr : a 0 s ≠ 2) : JG mk (u2 a k s v) q lg top own vt sett H HL I cl cm ce n := by
  obtain ⟨hB, hF, hL, hG, hH, hV, hC, hQ, hA, h1, h2, h3, h4⟩ := h
  have e : ∀ x, a 0 x = 2 → ∀ k', u2 a k s v k' x = a k' x := by intro x hx k'; grind [= u2a]
  have e' : ∀ k' x, k' < 15 → u2 a k s v k' x = a k' x := by intro x hx k'; grind [= u2a]
  refine ⟨?_, ?_, ?_, ?_, hH, ?_, hC, ?_, ?_, ?_, ?_, ?_, ?_⟩
  · simpa [jB, e'] using hB
  · simpa [jF, e'] using hF
  · simpa [jL, e'] using hL
  · simpa [jG, e'] using hG
  · simpa [jV, jW, e'] using hV
  · simpa [jQ, jg, e'] using hQ
  · simpa [jA, jK, e'] using hA
  · intro x hx hr; rw [e' 0 x (by omega)] at hr; have := h1 x hx hr; simp only [e x hr, e' _ (a 14 x) (by omega : 10 < 15), e' _ (a 14 x) (by omega : 1 < 15)]; exact this
  · intro x hx hr; rw [e' 0 x (by omega)] at hr; have := h2 x hx hr; simp only [e x hr, e' _ (a 14 x) (by omega : 2 < 15), e' _ (a 14 x) (by omega : 4 < 15), e' _ (a 14 x) (by omega : 3 < 15), e' _ (a 14 x) (by omega : 11 < 15)]; exact this
  · intro x hx hr; rw [e' 0 x (by omega)] at hr; have := h3 x hx hr; simp only [e x hr, e' _ (a 14 x) (by omega : 2 < 15)]; exact this
  · intro x hx hr; rw [e' 0 x (by omega)] at hr; have := h4 x hx hr; simp only [e x hr, jK, e' _ (a 14 x) (by omega : 2 < 15)]; exact this
theorem pt_lead (h : JG mk a q lg top own vt sett H HL I cl cm ce n) (s : Nat) (hs : s < 3) (hr : a 0 s ≤ 1) : JG mk (u2 (u2 (u2 (u2 a 0 s 3) 10 s 0) 11 s 0) 12 s 0) q lg top own vt sett H HL I cl cm ce n := by
  obtain ⟨hB, hF, hL, hG, hH, hV, hC, hQ, hA, h1, h2, h3, h4⟩ := h
  have hr2 : ∀ x, (u2 (u2 (u2 (u2 a 0 s 3) 10 s 0) 11 s 0) 12 s 0) 0 x = 2 → a 0 x = 2 := by grind [= u2a]
  have hk : ∀ x, x < 3 → a 0 x = 2 → ∀ k, u2 (u2 (u2 (u2 a 0 s 3) 10 s 0) 11 s 0) 12 s 0 k (a 14 x) = a k (a 14 x) := by
    intro x hx hr k; have := hF x hx hr; grind [= u2a]
  refine ⟨?_, ?_, ?_, hG, hH, hV, hC, hQ, hA, ?_, ?_, ?_, ?_⟩
  · intro x hx; have := hB x hx; grind [= u2a]
  · intro x hx hr; have := hF x hx; grind [= u2a]
  · intro x hx hr; by_cases e : x = s
    · subst e; refine ⟨?_, ?_, ?_, ?_, ?_⟩ <;> grind [= u2a]
    · have e0 : ∀ k, u2 (u2 (u2 (u2 a 0 s 3) 10 s 0) 11 s 0) 12 s 0 k x = a k x := by grind [= u2a]
      simp only [e0] at *
      exact hL x hx hr
  · intro x hx hr; have := h1 x hx (hr2 x hr); have e := hk x hx (hr2 x hr); have e1 := e 10; have e2 := e 1
    change _ at this
    refine ⟨this.1, this.2.1, this.2.2.1, this.2.2.2.1, this.2.2.2.2.1, ?_, this.2.2.2.2.2.2.1, this.2.2.2.2.2.2.2⟩
    intro hd; have := this.2.2.2.2.2.1 hd; exact ⟨by rw [show u2 (u2 (u2 (u2 a 0 s 3) 10 s 0) 11 s 0) 12 s 0 14 x = a 14 x from rfl, e1]; exact this.1, this.2⟩
  · intro x hx hr ht; have := h2 x hx (hr2 x hr) ht; have e := hk x hx (hr2 x hr) 11
    refine ⟨this.1, ?_, this.2.2⟩
    rw [show u2 (u2 (u2 (u2 a 0 s 3) 10 s 0) 11 s 0) 12 s 0 14 x = a 14 x from rfl, e]; exact this.2.1
  · intro x hx hr; exact h3 x hx (hr2 x hr)
  · intro x hx hr; exact h4 x hx (hr2 x hr)
end PR
section PR
variable {X : Type} {mk : X → Nat} {a b : Nat → Nat → Nat} {q r : Nat → Nat → Nat → Nat} {lg : Nat → Nat → X}
variable {top : Nat} {own vt : Nat → Nat} {sett : Nat → Prop} {H : Nat → Nat → X} {HL I : Nat → Nat} {cl : Nat} {cm : Nat → X} {ce : Nat} {n : Nat → Nat → Nat}
-- follow: role, leader and link of s, which was looking
theorem pt_follow (h : JG mk a q lg top own vt sett H HL I cl cm ce n) (s l : Nat) (hs : s < 3) (hl : l < 3) (hr : a 0 s ≤ 1) (hrl : 3 ≤ a 0 l)
    (k0 : b 0 s = 2 ∧ b 14 s = l ∧ b 15 s = 0 ∧ b 16 s = 0 ∧ b 17 s = 0 ∧ b 20 s = 1 ∧ b 21 s = 0 ∧ b 24 s = 0 ∧ b 25 s = 0) (k1 : ∀ x, x ≠ s → ∀ k, b k x = a k x) (k2 : ∀ x k, k ≠ 0 → k < 14 → b k x = a k x) (k3 : ∀ k x j, x ≠ s → r k x j = q k x j) (k4 : r 18 s 0 = 1) : JG mk b r lg top own vt sett H HL I cl cm ce n := by
  obtain ⟨hB, hF, hL, hG, hH, hV, hC, hQ, hA, h1, h2, h3, h4⟩ := h
  have sl : s ≠ l := by intro h; subst h; omega
  refine ⟨?_, ?_, ?_, ?_, hH, ?_, hC, ?_, ?_, ?_, ?_, ?_, ?_⟩
  · intro x hx; have := hB x hx; by_cases e : x = s <;> grind
  · intro x hx hr; have := hF x hx; by_cases e : x = s <;> grind
  · intro x hx hr
    have e : x ≠ s := by intro h; subst h; omega
    have := hL x hx; simp only [k1 x e] at *; exact this hr
  · simpa [jG, k2] using hG
  · simpa [jV, jW, k2] using hV
  · simpa [jQ, jg, k2] using hQ
  · simpa [jA, jK, k2] using hA
  · intro x hx hr; by_cases e : x = s
    · subst e; simp [k0, k4]
    · simp only [k1 x e] at *; have := h1 x hx hr; have := hF x hx hr
      have e2 : a 14 x ≠ s := by intro h; rw [h] at this; omega
      simp only [k1 _ e2, k3 _ _ _ e]; assumption
  · intro x hx hr ht; by_cases e : x = s
    · subst e; omega
    · simp only [k1 x e] at *; have := h2 x hx hr ht; have := hF x hx hr
      have e2 : a 14 x ≠ s := by intro h; rw [h] at this; omega
      simp only [k1 _ e2, k3 _ _ _ e]; assumption
  · intro x hx hr ht; by_cases e : x = s
    · subst e; omega
    · simp only [k1 x e] at *; have := h3 x hx hr ht; have := hF x hx hr
      have e2 : a 14 x ≠ s := by intro h; rw [h] at this; omega
      simp only [k1 _ e2, k3 _ _ _ e]; assumption
  · intro x hx hr; by_cases e : x = s
    · subst e; intro j _ _; omega
    · simp only [k1 x e] at *; have := h4 x hx hr; have := hF x hx hr
      have e2 : a 14 x ≠ s := by intro h; rw [h] at this; omega
      simp only [jK, k1 _ e2, k3 _ _ _ e] at *; assumption
-- the choice of an epoch
theorem pt_choose (h : JG mk a q lg top own vt sett H HL I cl cm ce n) (l p : Nat) (hl : l < 3) (hrl : 3 ≤ a 0 l) (hc : a 10 l = 0) (hp : a 1 l < p)
    (k0 : b 1 l = p ∧ b 10 l = p) (k1 : ∀ x, x ≠ l → ∀ k, b k x = a k x) (k2 : ∀ x k, k ≠ 1 → k ≠ 10 → b k x = a k x) : JG mk b q lg top own (fun x => if x = l then l else vt x) sett H HL I cl cm ce n := by
  obtain ⟨hB, hF, hL, hG, hH, hV, hC, hQ, hA, h1, h2, h3, h4⟩ := h
  refine ⟨?_, ?_, ?_, ?_, hH, ?_, hC, ?_, ?_, ?_, ?_, ?_, ?_⟩
  · intro x hx; have := hB x hx; by_cases e : x = l <;> grind
  · simpa [jF, k2] using hF
  · intro x hx hr; have hx' := hL x hx; by_cases e : x = l
    · subst e; simp only [k2 x 0 (by omega) (by omega), k2 x 2 (by omega) (by omega), k2 x 4 (by omega) (by omega), k2 x 11 (by omega) (by omega), k2 x 12 (by omega) (by omega), k0] at *
      have hx' := hx' hr
      refine ⟨fun _ => by simp, fun h => ?_, hx'.2.2.1, fun _ ho ht => ?_, hx'.2.2.2.2⟩
      · exact absurd hc (hx'.2.1 h).1
      · have := hV.1 (by omega); rw [ho] at this; omega
    · simp only [k1 x e, if_neg e] at *; exact hx' hr
  · simpa [jG, k2] using hG
  · refine ⟨fun ho => ?_, ?_⟩
    · have := hV.1 ho; by_cases e : own top = l
      · rw [e] at this ⊢; omega
      · rw [k1 _ e]; exact this
    · obtain ⟨-, x, y, hxy, wx, wy⟩ := hV
      have key : ∀ z, jW a top own vt z → jW b top own (fun x => if x = l then l else vt x) z := by
        intro z hz; by_cases e : z = l
        · subst e; refine ⟨hz.1, ?_⟩; rcases hz.2 with h | h <;> (left; omega)
        · refine ⟨hz.1, ?_⟩; rw [k1 _ e]; simp only [if_neg e]; exact hz.2
      exact ⟨x, y, hxy, key x wx, key y wy⟩
  · simpa [jQ, jg, k2] using hQ
  · simpa [jA, jK, k2] using hA
  · intro x hx hr
    simp only [k2 _ 0 (by omega) (by omega)] at hr
    have h1' := h1 x hx hr; have hf := hF x hx hr
    have e : x ≠ l := by intro h; subst h; omega
    simp only [k1 x e, if_neg e] at *
    by_cases e2 : a 14 x = l
    · rw [e2] at h1' ⊢
      have : a 24 x = 0 := by
        rcases Nat.eq_zero_or_pos (a 24 x) with h | h
        · exact h
        · exact absurd hc (h1'.2.2.2.2.2.1 h).1
      grind
    · simp only [k1 _ e2]; assumption
  · simpa [jM2, k2] using h2
  · simpa [jM3, k2] using h3
  · simpa [jM4, jK, k2] using h4
-- NEWEPOCH is sent
theorem pt_join (h : JG mk a q lg top own vt sett H HL I cl cm ce n) (f : Nat) (hf : f < 3) (hr : a 0 f = 2) (hu : a 21 f = 0) (hc : a 10 (a 14 f) ≠ 0)
    (k0 : b 21 f = 1 ∧ b 24 f = 1) (k1 : ∀ x, x ≠ f → ∀ k, b k x = a k x) (k2 : ∀ x k, k ≠ 21 → k ≠ 24 → b k x = a k x) (k3 : ∀ k x j, x ≠ f → r k x j = q k x j) (k4 : r 22 f 0 = 4 ∧ r 23 f 0 = a 10 (a 14 f)) (k5 : ∀ k x j, k < 22 → r k x j = q k x j) : JG mk b r lg top own vt sett H HL I cl cm ce n := by
  obtain ⟨hB, hF, hL, hG, hH, hV, hC, hQ, hA, h1, h2, h3, h4⟩ := h
  have g1 := h1 f hf hr
  have g2 := hF f hf hr
  have g3 := (hL _ g2.1 g2.2.2).1 hc
  have z24 : a 24 f = 0 := g1.2.2.2.1 hu
  refine ⟨?_, ?_, ?_, ?_, hH, ?_, hC, ?_, ?_, ?_, ?_, ?_, ?_⟩
  · simpa [jB, k2] using hB
  · simpa [jF, k2] using hF
  · simpa [jL, k2] using hL
  · simpa [jG, k2] using hG
  · simpa [jV, jW, k2] using hV
  · simpa [jQ, jg, k2] using hQ
  · simpa [jA, jK, k2] using hA
  · intro x hx hr; by_cases e : x = f
    · subst e; simp only [k2 _ 0 (by omega) (by omega), k2 _ 1 (by omega) (by omega), k2 _ 10 (by omega) (by omega), k2 _ 14 (by omega) (by omega), k2 _ 15 (by omega) (by omega), k2 _ 16 (by omega) (by omega), k2 _ 17 (by omega) (by omega), k2 _ 20 (by omega) (by omega), k2 _ 25 (by omega) (by omega), k5 _ _ _ (by omega : 18 < 22), k5 _ _ _ (by omega : 19 < 22), k0, k4] at *
      grind
    · have := h1 x hx; simp only [k1 x e, k3 _ x _ e, k2 _ 1 (by omega) (by omega), k2 _ 10 (by omega) (by omega)] at *; exact this hr
  · intro x hx hr ht; by_cases e : x = f
    · subst e; have := h2 x hx; simp only [k2 _ 0 (by omega) (by omega), k2 _ 16 (by omega) (by omega)] at *; have := this hr ht; omega
    · have := h2 x hx; simp only [k1 x e, k3 _ x _ e, k2 _ 2 (by omega) (by omega), k2 _ 3 (by omega) (by omega), k2 _ 4 (by omega) (by omega), k2 _ 11 (by omega) (by omega)] at *; exact this hr ht
  · intro x hx hr ht; by_cases e : x = f
    · subst e; simp only [k2 _ 25 (by omega) (by omega)] at *; omega
    · have := h3 x hx; simp only [k1 x e, k3 _ x _ e, k2 _ 2 (by omega) (by omega)] at *; exact this hr ht
  · intro x hx hr; by_cases e : x = f
    · subst e; intro j _ _; omega
    · have := h4 x hx; simp only [jK, k1 x e, k3 _ x _ e, k2 _ 2 (by omega) (by omega)] at *; exact this hr
end PR
section PR
variable {X : Type} {mk : X → Nat} {a b : Nat → Nat → Nat} {q r : Nat → Nat → Nat → Nat} {lg lh : Nat → Nat → X}
variable {top : Nat} {own vt : Nat → Nat} {sett : Nat → Prop} {H : Nat → Nat → X} {HL I : Nat → Nat} {cl : Nat} {cm : Nat → X} {ce : Nat} {n : Nat → Nat → Nat}
-- a message of the up row is read (not JOIN); f's heard flag may rise; the other keys stay
theorem pt_read (h : JG mk a q lg top own vt sett H HL I cl cm ce n) (f : Nat) (hf : f < 3) (hr : a 0 f = 2) (hu : 1 ≤ a 21 f) (hu2 : a 21 f < a 20 f)
    (k0 : b 21 f = a 21 f + 1) (k0' : a 17 f ≤ b 17 f ∧ b 17 f ≤ 1) (k1 : ∀ x, x ≠ f → ∀ k, b k x = a k x) (k2 : ∀ x k, k ≠ 21 → k ≠ 17 → b k x = a k x) : JG mk b q lg top own vt sett H HL I cl cm ce n := by
  obtain ⟨hB, hF, hL, hG, hH, hV, hC, hQ, hA, h1, h2, h3, h4⟩ := h
  have g1 := h1 f hf hr
  refine ⟨?_, ?_, ?_, ?_, hH, ?_, hC, ?_, ?_, ?_, ?_, ?_, ?_⟩
  · simpa [jB, k2] using hB
  · simpa [jF, k2] using hF
  · simpa [jL, k2] using hL
  · simpa [jG, k2] using hG
  · simpa [jV, jW, k2] using hV
  · simpa [jQ, jg, k2] using hQ
  · simpa [jA, jK, k2] using hA
  · intro x hx hr; by_cases e : x = f
    · subst e; simp only [k2 _ _ (by omega : 0 ≠ 21) (by omega), k2 _ _ (by omega : 1 ≠ 21) (by omega), k2 _ _ (by omega : 10 ≠ 21) (by omega), k2 _ _ (by omega : 14 ≠ 21) (by omega), k2 _ _ (by omega : 15 ≠ 21) (by omega), k2 _ _ (by omega : 16 ≠ 21) (by omega), k2 _ _ (by omega : 20 ≠ 21) (by omega), k2 _ _ (by omega : 24 ≠ 21) (by omega), k2 _ _ (by omega : 25 ≠ 21) (by omega), k0] at *
      grind
    · have := h1 x hx; simp only [k1 x e, k2 _ _ (by omega : 1 ≠ 21) (by omega), k2 _ _ (by omega : 10 ≠ 21) (by omega)] at *; exact this hr
  · intro x hx hr ht; by_cases e : x = f
    · subst e; have := h2 x hx; simp only [k2 _ _ (by omega : 0 ≠ 21) (by omega), k2 _ _ (by omega : 2 ≠ 21) (by omega), k2 _ _ (by omega : 3 ≠ 21) (by omega), k2 _ _ (by omega : 4 ≠ 21) (by omega), k2 _ _ (by omega : 11 ≠ 21) (by omega), k2 _ _ (by omega : 14 ≠ 21) (by omega), k2 _ _ (by omega : 16 ≠ 21) (by omega), k2 _ _ (by omega : 24 ≠ 21) (by omega), k2 _ _ (by omega : 25 ≠ 21) (by omega), k0] at *
      have := this hr ht; grind
    · have := h2 x hx; simp only [k1 x e, k2 _ _ (by omega : 2 ≠ 21) (by omega), k2 _ _ (by omega : 3 ≠ 21) (by omega), k2 _ _ (by omega : 4 ≠ 21) (by omega), k2 _ _ (by omega : 11 ≠ 21) (by omega)] at *; exact this hr ht
  · simpa [jM3, k2] using h3
  · simpa [jM4, jK, k2] using h4
-- f waits
theorem pt_wait (h : JG mk a q lg top own vt sett H HL I cl cm ce n) (f : Nat) (hf : f < 3) (hr : a 0 f = 2) (hu : 2 ≤ a 21 f) (ht : a 16 f = 0)
    (k1 : ∀ x, x ≠ f → ∀ k, b k x = a k x) (k2 : ∀ x k, k ≠ 15 → b k x = a k x) : JG mk b q lg top own vt sett H HL I cl cm ce n := by
  obtain ⟨hB, hF, hL, hG, hH, hV, hC, hQ, hA, h1, h2, h3, h4⟩ := h
  have g1 := h1 f hf hr
  refine ⟨?_, ?_, ?_, ?_, hH, ?_, hC, ?_, ?_, ?_, ?_, ?_, ?_⟩
  · simpa [jB, k2] using hB
  · simpa [jF, k2] using hF
  · simpa [jL, k2] using hL
  · simpa [jG, k2] using hG
  · simpa [jV, jW, k2] using hV
  · simpa [jQ, jg, k2] using hQ
  · simpa [jA, jK, k2] using hA
  · intro x hx hr; by_cases e : x = f
    · subst e; simp only [k2 _ _ (by omega : 0 ≠ 15), k2 _ _ (by omega : 1 ≠ 15), k2 _ _ (by omega : 10 ≠ 15), k2 _ _ (by omega : 14 ≠ 15), k2 _ _ (by omega : 16 ≠ 15), k2 _ _ (by omega : 17 ≠ 15), k2 _ _ (by omega : 20 ≠ 15), k2 _ _ (by omega : 21 ≠ 15), k2 _ _ (by omega : 24 ≠ 15), k2 _ _ (by omega : 25 ≠ 15)] at *
      grind
    · have := h1 x hx; simp only [k1 x e, k2 _ _ (by omega : 1 ≠ 15), k2 _ _ (by omega : 10 ≠ 15)] at *; exact this hr
  · simpa [jM2, k2] using h2
  · simpa [jM3, k2] using h3
  · simpa [jM4, jK, k2] using h4
-- NEWLEADER is sent
set_option maxHeartbeats 1000000 in
theorem pt_tie (h : JG mk a q lg top own vt sett H HL I cl cm ce n) (f : Nat) (hf : f < 3) (hr : a 0 f = 2) (hu : 2 ≤ a 21 f) (ht : a 16 f = 0) (hs : a 11 (a 14 f) ≠ 0)
    (k0 : b 15 f = 0 ∧ b 16 f = 1 ∧ b 24 f = a 24 f + 1) (k1 : ∀ x, x ≠ f → ∀ k, b k x = a k x) (k2 : ∀ x k, k ≠ 15 → k ≠ 16 → k ≠ 24 → b k x = a k x) (k3 : ∀ k x j, x ≠ f → r k x j = q k x j) (k4 : r 22 f (a 24 f) = 5 ∧ r 23 f (a 24 f) = a 4 (a 14 f)) (k5 : ∀ k x j, k < 22 ∨ j < a 24 f → r k x j = q k x j) :
    JG mk b r lg top own vt sett H HL I cl cm ce (fun x j => if x = f ∧ j = 2 then a 4 (a 14 f) else n x j) := by
  obtain ⟨hB, hF, hL, hG, hH, hV, hC, hQ, hA, h1, h2, h3, h4⟩ := h
  have g1 := h1 f hf hr
  have g2 := hF f hf hr
  have g3 := hL _ g2.1 g2.2.2
  have g4 := hG _ g2.1
  have g5 := hG _ hf
  have z24 : a 24 f = 1 := by omega
  rw [z24] at k0 k4 k5
  refine ⟨?_, ?_, ?_, ?_, hH, ?_, hC, ?_, ?_, ?_, ?_, ?_, ?_⟩
  · simpa [jB, k2] using hB
  · simpa [jF, k2] using hF
  · simpa [jL, k2] using hL
  · simpa [jG, k2] using hG
  · simpa [jV, jW, k2] using hV
  · simpa [jQ, jg, k2] using hQ
  · simpa [jA, jK, k2] using hA
  · intro x hx hr; by_cases e : x = f
    · subst e; simp only [k2 _ 0 (by omega) (by omega) (by omega), k2 _ 1 (by omega) (by omega) (by omega), k2 _ 10 (by omega) (by omega) (by omega), k2 _ 14 (by omega) (by omega) (by omega), k2 _ 17 (by omega) (by omega) (by omega), k2 _ 20 (by omega) (by omega) (by omega), k2 _ 21 (by omega) (by omega) (by omega), k2 _ 25 (by omega) (by omega) (by omega), k5 _ _ _ (Or.inl (by omega : 18 < 22)), k5 _ _ _ (Or.inl (by omega : 19 < 22)), k5 _ _ 0 (Or.inr (by omega)), k0, k4] at *
      grind
    · have := h1 x hx; simp only [k1 x e, k3 _ x _ e, k2 _ 1 (by omega) (by omega) (by omega), k2 _ 10 (by omega) (by omega) (by omega)] at *; exact this hr
  · intro x hx hr ht; by_cases e : x = f
    · subst e; have := h2 x hx; simp only [k2 _ 0 (by omega) (by omega) (by omega), k2 _ 2 (by omega) (by omega) (by omega), k2 _ 3 (by omega) (by omega) (by omega), k2 _ 4 (by omega) (by omega) (by omega), k2 _ 11 (by omega) (by omega) (by omega), k2 _ 14 (by omega) (by omega) (by omega), k2 _ 17 (by omega) (by omega) (by omega), k2 _ 21 (by omega) (by omega) (by omega), k2 _ 25 (by omega) (by omega) (by omega), k0, k4] at *
      have g3' := g3.2.1 hs
      refine ⟨hu, hs, by omega, trivial, by omega, by omega, by simp, by simp, by omega, fun _ h => ?_⟩
      have := g5.2.1; rw [h] at this; omega
    · have := h2 x hx; simp only [k1 x e, k3 _ x _ e, e, false_and, if_false, k2 _ 2 (by omega) (by omega) (by omega), k2 _ 3 (by omega) (by omega) (by omega), k2 _ 4 (by omega) (by omega) (by omega), k2 _ 11 (by omega) (by omega) (by omega)] at *; exact this hr ht
  · intro x hx hr ht; by_cases e : x = f
    · subst e; simp only [k2 _ 25 (by omega) (by omega) (by omega)] at *; omega
    · have := h3 x hx; simp only [k1 x e, k3 _ x _ e, e, false_and, if_false, k2 _ 2 (by omega) (by omega) (by omega)] at *; exact this hr ht
  · intro x hx hr; by_cases e : x = f
    · subst e; intro j _ _; omega
    · have := h4 x hx; simp only [jK, k1 x e, k3 _ x _ e, e, false_and, if_false, k2 _ 2 (by omega) (by omega) (by omega)] at *; exact this hr
-- a leader becomes established
theorem pt_est (h : JG mk a q lg top own vt sett H HL I cl cm ce n) (l : Nat) (hr : a 0 l = 3) (hs : a 11 l ≠ 0)
    (k0 : b 0 l = 4) (k1 : ∀ x, x ≠ l → ∀ k, b k x = a k x) (k2 : ∀ x k, k ≠ 0 → b k x = a k x) : JG mk b q lg top own vt sett H HL I cl cm ce n := by
  obtain ⟨hB, hF, hL, hG, hH, hV, hC, hQ, hA, h1, h2, h3, h4⟩ := h
  have e2 : ∀ x, b 0 x = 2 → a 0 x = 2 := by grind
  refine ⟨?_, ?_, ?_, ?_, hH, ?_, hC, ?_, ?_, ?_, ?_, ?_, ?_⟩
  · intro x hx; have := hB x hx; by_cases e : x = l <;> grind
  · intro x hx hr; have := hF x hx (e2 x hr); by_cases e : a 14 x = l <;> grind
  · intro x hx hr; by_cases e : x = l
    · subst e; have := hL x hx (by omega); simp only [k2 _ _ (by omega : 1 ≠ 0), k2 _ _ (by omega : 2 ≠ 0), k2 _ _ (by omega : 4 ≠ 0), k2 _ _ (by omega : 10 ≠ 0), k2 _ _ (by omega : 11 ≠ 0), k2 _ _ (by omega : 12 ≠ 0)]; exact ⟨this.1, this.2.1, fun _ => hs, this.2.2.2⟩
    · have := hL x hx; simp only [k1 x e] at *; exact this hr
  · simpa [jG, k2] using hG
  · simpa [jV, jW, k2] using hV
  · simpa [jQ, jg, k2] using hQ
  · simpa [jA, jK, k2] using hA
  · intro x hx hr; have := h1 x hx (e2 x hr); simpa [k2] using this
  · intro x hx hr ht; have := h2 x hx (e2 x hr); simpa [k2, ht] using this (by simpa [k2] using ht)
  · intro x hx hr ht; have := h3 x hx (e2 x hr); simpa [k2] using this (by simpa [k2] using ht)
  · intro x hx hr; have := h4 x hx (e2 x hr); simpa [jK, k2] using this
end PR
section PR
variable {X : Type} {mk : X → Nat} {a b : Nat → Nat → Nat} {q r : Nat → Nat → Nat → Nat} {lg lh : Nat → Nat → X}
variable {top : Nat} {own vt : Nat → Nat} {sett : Nat → Prop} {H : Nat → Nat → X} {HL I : Nat → Nat} {cl : Nat} {cm : Nat → X} {ce : Nat} {n : Nat → Nat → Nat}
-- two of three
theorem pig {P : Nat → Prop} {x y l f : Nat} (hx : x < 3) (hy : y < 3) (hxy : x ≠ y) (hl : l < 3) (hf : f < 3) (hlf : l ≠ f) (px : P x) (py : P y) : P l ∨ P f := by
  have : x = l ∨ x = f ∨ y = l ∨ y = f := by omega
  rcases this with h | h | h | h <;> subst h <;> simp [*]
def lastm (mk : X → Nat) (a : Nat → Nat → Nat) (lg : Nat → Nat → X) (s : Nat) : Nat := if a 4 s = 0 then 0 else mk (lg s (a 4 s - 1))
def takes (mk : X → Nat) (a : Nat → Nat → Nat) (lg : Nat → Nat → X) (l f : Nat) : Prop := a 2 l < a 2 f ∨ a 2 f = a 2 l ∧ lastm mk a lg l < lastm mk a lg f
theorem lastm_le {s t e : Nat} (hs : a 2 s = e) (ht : a 2 t = e) (hse : sett e) (gs : a 4 s ≤ HL (a 2 s) ∧ I (a 2 s) ≤ a 4 s ∧ ∀ j, j < a 4 s → lg s j = H (a 2 s) j) (gt : a 4 t ≤ HL (a 2 t) ∧ I (a 2 t) ≤ a 4 t ∧ ∀ j, j < a 4 t → lg t j = H (a 2 t) j)
    (hH : jH mk top sett H HL I) (h : lastm mk a lg s ≤ lastm mk a lg t) : a 4 s ≤ a 4 t := by
  rcases Nat.lt_or_ge (a 4 t) (a 4 s) with hlt | hge
  · exfalso
    have h0 := hH.2 e hse
    subst hs
    rw [ht] at gt
    unfold lastm at h
    have e1 := gs.2.2 (a 4 s - 1) (by omega)
    have p1 := (h0.2.2.1 (a 4 s - 1) (by omega)).1
    rw [if_neg (by omega)] at h
    split at h
    · rw [e1] at h; omega
    · have e2 := gt.2.2 (a 4 t - 1) (by omega)
      have p2 := h0.2.2.2 (a 4 t - 1) (a 4 s - 1) (by omega) (by omega)
      rw [e1, e2] at h; omega
  · exact hge
theorem pt_settle (h : JG mk a q lg top own vt sett H HL I cl cm ce n) (l f m : Nat) (hf : f < 3) (hr : a 0 f = 2) (hfl : a 14 f = l) (hd : 1 ≤ a 25 f) (hv : vt f = l) (hc : a 10 l ≠ 0) (hs : a 11 l = 0)
    (hch : (m = a 4 l ∧ (∀ j, j < m → lh l j = lg l j) ∧ ¬ takes mk a lg l f) ∨ (m = a 4 f ∧ (∀ j, j < m → lh l j = lg f j) ∧ takes mk a lg l f))
    (k0 : b 11 l = 1 ∧ b 2 l = a 1 l ∧ b 4 l = m) (k1 : ∀ x, x ≠ l → ∀ k, b k x = a k x) (k2 : ∀ x k, k ≠ 11 → k ≠ 2 → k ≠ 4 → b k x = a k x) (k3 : ∀ x, x ≠ l → lh x = lg x) :
    JG mk b q lh (a 1 l) (fun e => if e = a 1 l then l else own e) vt (fun e => sett e ∨ e = a 1 l) (fun e => if e = a 1 l then lh l else H e) (fun e => if e = a 1 l then m else HL e) (fun e => if e = a 1 l then m else I e) cl cm ce n ∧ a 3 l ≤ m ∧ ∀ j, j < a 3 l → lh l j = lg l j := by
  obtain ⟨hB, hF, hL, hG, hH, hV, hC, hQ, hA, h1, h2, h3, h4⟩ := h
  subst hfl
  generalize hl0 : a 14 f = l at *
  have g1 := h1 f hf hr
  have g2 := hF f hf hr
  rw [hl0] at g1 g2
  have g3 := hL _ g2.1 g2.2.2
  have pf : a 1 f = a 1 l := (g1.2.2.2.2.2.2.2.1 hd).2
  have vl := (g3.1 hc).2
  -- the epoch is new
  have new : top < a 1 l := by
    rcases Nat.lt_or_ge top (a 1 l) with h | h
    · exact h
    · exfalso
      obtain ⟨-, x, y, hxy, wx, wy⟩ := hV
      have := pig (P := jW a top own vt) wx.1 wy.1 hxy g2.1 hf g2.2.1 wx wy
      have ho : a 1 l = top ∧ l = own top := by
        rcases this with w | w
        · rcases w.2 with w | w <;> omega
        · rcases w.2 with w | w <;> omega
      exact g3.2.2.2.1 hc ho.2.symm ho.1 hs
  have old : ∀ e, sett e → e ≠ a 1 l := fun e he => by have := (hH.2 e he).1; omega
  have olds : ∀ x, x < 3 → a 2 x ≠ a 1 l := fun x hx => old _ (hG x hx).1
  have gl := hG l g2.1
  have gf := hG f hf
  -- where the list comes from
  obtain ⟨s, hs3, hms, hcs, hsrc⟩ : ∃ s, s < 3 ∧ m = a 4 s ∧ (∀ j, j < m → lh l j = lg s j) ∧ (cl ≤ a 4 s ∧ ∀ j, j < cl → lg s j = cm j) := by
    have good : ∀ s, s < 3 → ce ≤ a 2 s → cl ≤ a 4 s → (cl ≤ a 4 s ∧ ∀ j, j < cl → lg s j = cm j) := fun s hs h1 h2 => ⟨h2, fun j hj => by
      rw [(hG s hs).2.2.2 j (by omega)]; exact (hC.2.2.1 _ (hG s hs).1 h1).2 j hj⟩
    have later : ∀ s t, s < 3 → t < 3 → jg a cl ce t → (a 2 t < a 2 s ∨ a 2 t = a 2 s ∧ lastm mk a lg t ≤ lastm mk a lg s) → cl ≤ a 4 s ∧ ∀ j, j < cl → lg s j = cm j := by
      intro s t hs ht gt hle
      rcases hle with h | h
      · exact good s hs (by have := gt.2.1; omega) (by have := hC.2.2.2 _ (hG s hs).1 (by have := gt.2.1; omega); have := (hG s hs).2.2.1; omega)
      · have := lastm_le (e := a 2 s) h.1 rfl (hG s hs).1 (hG t ht).2 (hG s hs).2 hH h.2
        exact good s hs (by have := gt.2.1; omega) (by have := gt.2.2; omega)
    obtain ⟨x, y, hxy, wx, wy⟩ := hQ
    have w := pig (P := jg a cl ce) wx.1 wy.1 hxy g2.1 hf g2.2.1 wx wy
    rcases hch with ⟨c1, c2, c3⟩ | ⟨c1, c2, c3⟩
    · refine ⟨l, g2.1, c1, c2, ?_⟩
      rcases w with w | w
      · exact good l g2.1 w.2.1 w.2.2
      · refine later l f g2.1 hf w ?_
        unfold takes at c3; omega
    · refine ⟨f, hf, c1, c2, ?_⟩
      rcases w with w | w
      · refine later f l hf g2.1 w ?_
        unfold takes at c3; omega
      · exact good f hf w.2.1 w.2.2
  have gs := hG s hs3
  have hs0 := hH.2 _ gs.1
  have hcont : ∀ j, j < m → lh l j = H (a 2 s) j := fun j hj => by rw [hcs j hj]; exact gs.2.2.2 j (by omega)
  have hcm : ∀ j, j < cl → lh l j = cm j := fun j hj => by rw [hcs j (by omega)]; exact hsrc.2 j hj
  have al := hA l g2.1
  have fin : a 3 l ≤ m ∧ ∀ j, j < a 3 l → lh l j = lg l j := by
    have := al.1; have hb := hB l g2.1
    refine ⟨by omega, fun j hj => ?_⟩
    rw [hcm j (by omega), gl.2.2.2 j (by omega), al.2.1 j hj]
  have tied : ∀ x, x < 3 → a 0 x = 2 → a 14 x = l → a 16 x = 0 := by
    intro x hx hr he; rcases Nat.eq_zero_or_pos (a 16 x) with h | h
    · exact h
    · have := (h2 x hx hr (by omega)).2.1; rw [he] at this; omega
  have rl : ∀ x, a 0 x = 2 → x ≠ l := fun x hr h => by subst h; omega
  refine ⟨⟨?_, ?_, ?_, ?_, ?_, ?_, ?_, ?_, ?_, ?_, ?_, ?_, ?_⟩, fin⟩
  · intro x hx; have := hB x hx; by_cases e : x = l
    · subst e; have := hB s hs3; simp only [k0, k2 _ 0 (by omega) (by omega) (by omega), k2 _ 1 (by omega) (by omega) (by omega), k2 _ 3 (by omega) (by omega) (by omega)]; omega
    · simp only [k1 x e]; exact this
  · simpa [jF, k2] using hF
  · intro x hx hr; by_cases e : x = l
    · subst e; simp only [k0, k2 _ 0 (by omega) (by omega) (by omega), k2 _ 1 (by omega) (by omega) (by omega), k2 _ 10 (by omega) (by omega) (by omega), k2 _ 12 (by omega) (by omega) (by omega), if_true]
      refine ⟨g3.1, fun _ => ⟨hc, trivial, trivial, trivial, by have := g3.2.2.2.2 hs; omega, fun j hj => ?_⟩, by omega, by omega, by omega⟩
      rw [hcont j hj]; have := (hs0.2.2.1 j (by omega)).2; omega
    · have := hL x hx; simp only [k1 x e] at *
      have := this hr
      refine ⟨this.1, fun h => ?_, this.2.2.1, fun h1 h2 => ?_, this.2.2.2.2⟩
      · simp only [olds x hx, if_false]; exact this.2.1 h
      · simp at h2; omega
  · intro x hx; by_cases e : x = l
    · subst e; simp only [k0, if_true]; exact ⟨Or.inr trivial, Nat.le_refl _, Nat.le_refl _, fun j hj => trivial⟩
    · simp only [k1 x e, k3 x e, olds x hx, if_false]; have := hG x hx; exact ⟨Or.inl this.1, this.2⟩
  · refine ⟨Or.inr rfl, fun e he => ?_⟩
    by_cases h : e = a 1 l
    · subst h; simp only [if_true]
      refine ⟨Nat.le_refl _, Nat.le_refl _, fun j hj => ?_, fun i j hij hj => ?_⟩
      · rw [hcont j hj]; have := hs0.2.2.1 j (by omega); omega
      · rw [hcont j hj, hcont i (by omega)]; exact hs0.2.2.2 i j hij (by omega)
    · have he : sett e := by rcases he with he | he; exact he; exact absurd he h
      simp only [h, if_false]; have := hH.2 e he; exact ⟨by omega, this.2⟩
  · refine ⟨fun _ => ?_, l, f, g2.2.1, ⟨g2.1, Or.inr ?_⟩, ⟨hf, Or.inr ?_⟩⟩
    · simp [k2]
    · simp [k2, vl]
    · simp [k2, hv, pf]
  · refine ⟨by have := hC.1; omega, Or.inl hC.2.1, fun e he hce => ?_, fun e he hce => ?_⟩
    · by_cases h : e = a 1 l
      · subst h; simp only [if_true]; exact ⟨by omega, hcm⟩
      · have he : sett e := by rcases he with he | he; exact he; exact absurd he h
        simp only [h, if_false]; exact hC.2.2.1 e he hce
    · by_cases h : e = a 1 l
      · subst h; simp only [if_true]; omega
      · have he : sett e := by rcases he with he | he; exact he; exact absurd he h
        simp only [h, if_false]; exact hC.2.2.2 e he hce
  · obtain ⟨x, y, hxy, wx, wy⟩ := hQ
    have key : ∀ z, jg a cl ce z → jg b cl ce z := by
      intro z hz; by_cases e : z = l
      · subst e; exact ⟨hz.1, by rw [k0.2.1]; have := hC.1; omega, by rw [k0.2.2]; omega⟩
      · unfold jg; rw [k1 _ e, k1 _ e]; exact hz
    exact ⟨x, y, hxy, key x wx, key y wy⟩
  · intro x hx
    have hax := hA x hx
    have : a 3 x ≤ cl := hax.1
    rw [k2 _ 3 (by omega) (by omega) (by omega)]
    refine ⟨this, fun i hi => ?_, fun e he hlt => ?_⟩
    · by_cases e : x = l
      · subst e; simp only [k0, if_true]; exact hcm i (by omega)
      · simp only [k1 x e, olds x hx, if_false]; exact hax.2.1 i hi
    · by_cases h : e = a 1 l
      · subst h; simp only [if_true]; exact ⟨by omega, fun i hi => hcm i (by omega)⟩
      · have he0 : sett e := by rcases he with he | he; exact he; exact absurd he h
        simp only [h, if_false]
        by_cases e' : x = l
        · subst e'; have := (hH.2 e he0).1; omega
        · rw [k1 _ e'] at hlt; exact hax.2.2 e he0 hlt
  · intro x hx hr; rw [k2 _ 0 (by omega) (by omega) (by omega)] at hr; have := h1 x hx hr; simpa [k2] using this
  · intro x hx hr ht; rw [k2 _ 0 (by omega) (by omega) (by omega)] at hr; rw [k2 _ 16 (by omega) (by omega) (by omega)] at ht
    have := h2 x hx hr ht
    have e : a 14 x ≠ l := fun h => ht (tied x hx hr h)
    have ex := rl x hr
    have hf' := hF x hx hr
    simp only [k1 x ex, k1 _ e, olds _ hf'.1, if_false]; exact this
  · intro x hx hr ht; rw [k2 _ 0 (by omega) (by omega) (by omega)] at hr; rw [k2 _ 25 (by omega) (by omega) (by omega)] at ht
    have := h3 x hx hr ht
    have g1' := h1 x hx hr
    have e : a 14 x ≠ l := fun h => by have := tied x hx hr h; omega
    have ex := rl x hr
    simp only [k1 x ex, k1 _ e]; exact this
  · intro x hx hr j hj1 hj2; rw [k2 _ 0 (by omega) (by omega) (by omega)] at hr; rw [k2 _ 24 (by omega) (by omega) (by omega)] at hj2
    have := h4 x hx hr j hj1 hj2
    have g1' := h1 x hx hr
    have e : a 14 x ≠ l := fun h => by have := tied x hx hr h; omega
    have ex := rl x hr
    have hf' := hF x hx hr
    refine ⟨this.1, this.2.imp id fun ⟨c1, c2, c3, c4⟩ => ⟨c1, c2, c3, ?_⟩⟩
    simp only [k1 x ex]
    refine ⟨c4.1, fun i hi => ?_, fun e' he hlt => ?_⟩
    · simp only [k1 _ e, olds _ hf'.1, if_false]; exact c4.2.1 i hi
    · by_cases h : e' = a 1 l
      · subst h; simp only [if_true]; have := c4.1; exact ⟨by omega, fun i hi => hcm i (by omega)⟩
      · have he : sett e' := by rcases he with he | he; exact he; exact absurd he h
        simp only [h, if_false]; rw [k1 _ e] at hlt; exact c4.2.2 e' he hlt
end PR
section PR
variable {X : Type} {mk : X → Nat} {a b : Nat → Nat → Nat} {q r : Nat → Nat → Nat → Nat} {lg lh : Nat → Nat → X}
variable {top : Nat} {own vt : Nat → Nat} {sett : Nat → Prop} {H : Nat → Nat → X} {HL I : Nat → Nat} {cl : Nat} {cm : Nat → X} {ce : Nat} {n : Nat → Nat → Nat}
-- who reads an ACK leads the newest epoch
theorem ack_top (h : JG mk a q lg top own vt sett H HL I cl cm ce n) (f : Nat) (hf : f < 3) (hr : a 0 f = 2) (hd : 2 ≤ a 25 f) : a 11 (a 14 f) ≠ 0 ∧ a 2 (a 14 f) = top ∧ a 2 f = top ∧ a 4 f ≤ a 4 (a 14 f) ∧ a 4 (a 14 f) = HL top := by
  obtain ⟨hB, hF, hL, hG, hH, hV, hC, hQ, hA, h1, h2, h3, h4⟩ := h
  have g1 := h1 f hf hr
  have g2 := hF f hf hr
  have ht : a 16 f ≠ 0 := by omega
  have m2 := h2 f hf hr ht
  have m3 := h3 f hf hr hd
  have g3 := (hL _ g2.1 g2.2.2).2.1 m2.2.1
  have gl := hG _ g2.1
  have gf := hG f hf
  have e1 := (hH.2 _ gl.1).1
  have pf := (g1.2.2.2.2.2.2.2.1 (by omega)).2
  have : a 2 (a 14 f) = top := by
    rcases Nat.lt_or_ge (a 2 (a 14 f)) top with h | h
    · exfalso
      obtain ⟨-, x, y, hxy, wx, wy⟩ := hV
      have := pig (P := jW a top own vt) wx.1 wy.1 hxy g2.1 hf g2.2.1 wx wy
      rcases this with w | w
      · have := w.2; omega
      · have := w.2; omega
    · omega
  have h5 := gf.2.1
  rw [m3.1, ← g3.2.2.2.1] at h5
  refine ⟨m2.2.1, this, m3.1.trans this, h5, ?_⟩
  rw [g3.2.2.2.1, this]
theorem pt_commit (h : JG mk a q lg top own vt sett H HL I cl cm ce n) (f l k : Nat) (hf : f < 3) (hr : a 0 f = 2) (hl : a 14 f = l) (hd : 2 ≤ a 25 f) (hk : k ≤ a 4 f) (hk2 : a 3 l ≤ k)
    (k0 : b 3 l = k) (k1 : ∀ x, x ≠ l → ∀ k, b k x = a k x) (k2 : ∀ x k, k ≠ 3 → b k x = a k x) :
    ∃ cl' cm' ce', JG mk b q lg top own vt sett H HL I cl' cm' ce' n ∧ jK b sett H I cl' cm' l k := by
  have ht := ack_top h f hf hr hd
  subst hl
  obtain ⟨hB, hF, hL, hG, hH, hV, hC, hQ, hA, h1, h2, h3, h4⟩ := h
  have g2 := hF f hf hr
  have hct := hC.2.2.1 top hH.1 hC.1
  refine ⟨max cl k, fun j => if j < cl then cm j else H top j, if k ≤ cl then ce else top, ?_⟩
  have cmt : ∀ j, j < max cl k → H top j = (fun j => if j < cl then cm j else H top j) j := by
    intro j hj; show _ = if j < cl then cm j else H top j; split
    · rename_i h; exact hct.2 j h
    · rfl
  have jk : ∀ l k', jK a sett H I cl cm l k' → jK b sett H I (max cl k) (fun j => if j < cl then cm j else H top j) l k' := by
    intro l k' ⟨c1, c2, c3⟩
    refine ⟨by omega, fun i hi => ?_, fun e he hlt => ?_⟩
    · rw [k2 _ 2 (by omega)]; show _ = if i < cl then cm i else _; rw [if_pos (by omega)]; exact c2 i hi
    · rw [k2 _ 2 (by omega)] at hlt; have := c3 e he hlt
      refine ⟨this.1, fun i hi => ?_⟩; show _ = if i < cl then cm i else _; rw [if_pos (by omega)]; exact this.2 i hi
  have jkl : jK b sett H I (max cl k) (fun j => if j < cl then cm j else H top j) (a 14 f) k := by
    refine ⟨by omega, fun i hi => ?_, fun e he hlt => ?_⟩
    · rw [k2 _ 2 (by omega), ht.2.1]; exact cmt i (by omega)
    · rw [k2 _ 2 (by omega), ht.2.1] at hlt; have := (hH.2 e he).1; omega
  refine ⟨⟨?_, ?_, ?_, ?_, hH, ?_, ?_, ?_, ?_, ?_, ?_, ?_, ?_⟩, jkl⟩
  · intro x hx; have := hB x hx; by_cases e : x = a 14 f
    · subst e; simp only [k0, k2 _ 0 (by omega), k2 _ 1 (by omega), k2 _ 2 (by omega), k2 _ 4 (by omega)]; omega
    · simp only [k1 x e]; exact this
  · simpa [jF, k2] using hF
  · simpa [jL, k2] using hL
  · simpa [jG, k2] using hG
  · simpa [jV, jW, k2] using hV
  · by_cases hkc : k ≤ cl
    · rw [if_pos hkc, Nat.max_eq_left hkc]
      refine ⟨hC.1, hC.2.1, fun e he hce => ?_, hC.2.2.2⟩
      have := hC.2.2.1 e he hce
      exact ⟨this.1, fun j hj => by show _ = if j < cl then cm j else H top j; rw [if_pos hj]; exact this.2 j hj⟩
    · rw [if_neg hkc]
      refine ⟨Nat.le_refl _, hH.1, fun e he hce => ?_, fun e he hce => ?_⟩
      · have : e = top := by have := (hH.2 e he).1; omega
        subst this; exact ⟨by omega, cmt⟩
      · have := (hH.2 e he).1; omega
  · by_cases hkc : k ≤ cl
    · rw [if_pos hkc, Nat.max_eq_left hkc]; simpa [jQ, jg, k2] using hQ
    · rw [if_neg hkc, Nat.max_eq_right (by omega)]
      exact ⟨a 14 f, f, g2.2.1, ⟨g2.1, by rw [k2 _ 2 (by omega)]; omega, by rw [k2 _ 4 (by omega)]; omega⟩, ⟨hf, by rw [k2 _ 2 (by omega)]; omega, by rw [k2 _ 4 (by omega)]; omega⟩⟩
  · intro x hx; by_cases e : x = a 14 f
    · subst e; rw [k0]; exact jkl
    · rw [k1 x e]; exact jk x _ (hA x hx)
  · simpa [jM1, k2] using h1
  · intro x hx hr ht'
    rw [k2 _ 0 (by omega)] at hr; rw [k2 _ 16 (by omega)] at ht'
    have m := h2 x hx hr ht'
    have : a 3 (a 14 x) ≤ b 3 (a 14 x) := by
      by_cases e : a 14 x = a 14 f
      · rw [e, k0]; exact hk2
      · rw [k1 _ e]; exact Nat.le_refl _
    simp only [k2 _ 2 (by omega : 2 ≠ 3), k2 _ 4 (by omega : 4 ≠ 3), k2 _ 11 (by omega : 11 ≠ 3), k2 _ 14 (by omega : 14 ≠ 3), k2 _ 17 (by omega : 17 ≠ 3), k2 _ 21 (by omega : 21 ≠ 3), k2 _ 24 (by omega : 24 ≠ 3), k2 _ 25 (by omega : 25 ≠ 3)]
    exact ⟨m.1, m.2.1, m.2.2.1, m.2.2.2.1, m.2.2.2.2.1, m.2.2.2.2.2.1, m.2.2.2.2.2.2.1, m.2.2.2.2.2.2.2.1, by omega, m.2.2.2.2.2.2.2.2.2⟩
  · simpa [jM3, k2] using h3
  · intro x hx hr j j1 j2
    rw [k2 _ 0 (by omega)] at hr; rw [k2 _ 24 (by omega)] at j2
    have m := h4 x hx hr j j1 j2
    rw [k2 _ 14 (by omega)]
    exact ⟨m.1, m.2.imp id fun ⟨c1, c2, c3, c4⟩ => ⟨c1, c2, c3, jk _ _ c4⟩⟩
-- COMMIT is sent to g
theorem pt_send7 (h : JG mk a q lg top own vt sett H HL I cl cm ce n) {n' : Nat → Nat → Nat} (g k : Nat) (hg : g < 3) (hr : a 0 g = 2) (ht : a 16 g ≠ 0) (hk : jK a sett H I cl cm (a 14 g) k) (hk2 : k ≤ a 4 (a 14 g)) (hc : a 24 g + q 23 g 1 + 1 ≤ 2 + a 4 (a 14 g) + a 3 (a 14 g) + a 17 g)
    (k0 : b 24 g = a 24 g + 1) (k1 : ∀ x, x ≠ g → ∀ k, b k x = a k x) (k2 : ∀ x k, k ≠ 24 → b k x = a k x) (k3 : ∀ k x j, x ≠ g → r k x j = q k x j) (k4 : r 22 g (a 24 g) = 7 ∧ r 23 g (a 24 g) = k) (k5 : ∀ k x j, k < 22 ∨ j < a 24 g → r k x j = q k x j) (kn : n' g (a 24 g + 1) = n g (a 24 g)) (kn2 : ∀ x j, x ≠ g ∨ j ≤ a 24 g → n' x j = n x j) :
    JG mk b r lg top own vt sett H HL I cl cm ce n' := by
  obtain ⟨hB, hF, hL, hG, hH, hV, hC, hQ, hA, h1, h2, h3, h4⟩ := h
  have g1 := h1 g hg hr
  have m2 := h2 g hg hr ht
  refine ⟨?_, ?_, ?_, ?_, hH, ?_, hC, ?_, ?_, ?_, ?_, ?_, ?_⟩
  · simpa [jB, k2] using hB
  · simpa [jF, k2] using hF
  · simpa [jL, k2] using hL
  · simpa [jG, k2] using hG
  · simpa [jV, jW, k2] using hV
  · simpa [jQ, jg, k2] using hQ
  · simpa [jA, jK, k2] using hA
  · intro x hx hr; by_cases e : x = g
    · subst e; simp only [k2 _ 0 (by omega), k2 _ 1 (by omega), k2 _ 10 (by omega), k2 _ 14 (by omega), k2 _ 15 (by omega), k2 _ 16 (by omega), k2 _ 17 (by omega), k2 _ 20 (by omega), k2 _ 21 (by omega), k2 _ 25 (by omega), k5 _ _ _ (Or.inl (by omega : 18 < 22)), k5 _ _ _ (Or.inl (by omega : 19 < 22)), k5 _ _ 0 (Or.inr (by omega)), k0] at *
      grind
    · have := h1 x hx; simp only [k1 x e, k3 _ x _ e, k2 _ 1 (by omega), k2 _ 10 (by omega)] at *; exact this hr
  · intro x hx hr ht; by_cases e : x = g
    · subst e; simp only [k2 _ 2 (by omega : 2 ≠ 24), k2 _ 3 (by omega : 3 ≠ 24), k2 _ 4 (by omega : 4 ≠ 24), k2 _ 11 (by omega : 11 ≠ 24), k2 _ 14 (by omega : 14 ≠ 24), k2 _ 17 (by omega : 17 ≠ 24), k2 _ 21 (by omega : 21 ≠ 24), k2 _ 25 (by omega : 25 ≠ 24), k5 _ _ 1 (Or.inr (by omega)), k0]
      refine ⟨m2.1, m2.2.1, by omega, m2.2.2.2.1, m2.2.2.2.2.1, m2.2.2.2.2.2.1, ?_, ?_, by omega, m2.2.2.2.2.2.2.2.2.2⟩
      · rw [kn2 _ _ (Or.inr (by omega))]; exact m2.2.2.2.2.2.2.1
      · rw [kn]; exact m2.2.2.2.2.2.2.2.1
    · have := h2 x hx; simp only [k1 x e, k3 _ x _ e, kn2 x _ (Or.inl e), k2 _ 2 (by omega), k2 _ 3 (by omega), k2 _ 4 (by omega), k2 _ 11 (by omega)] at *; exact this hr ht
  · intro x hx hr ht; by_cases e : x = g
    · subst e; have := h3 x hx; simp only [k2 _ 0 (by omega : 0 ≠ 24), k2 _ 2 (by omega : 2 ≠ 24), k2 _ 4 (by omega : 4 ≠ 24), k2 _ 14 (by omega : 14 ≠ 24), k2 _ 20 (by omega : 20 ≠ 24), k2 _ 25 (by omega : 25 ≠ 24), k5 _ _ _ (Or.inl (by omega : 18 < 22)), k5 _ _ _ (Or.inl (by omega : 19 < 22))] at *
      rw [kn2 _ _ (Or.inr (by omega))]; exact this hr ht
    · have := h3 x hx; simp only [k1 x e, k3 _ x _ e, kn2 x _ (Or.inl e), k2 _ 2 (by omega)] at *; exact this hr ht
  · intro x hx hr j j1 j2; by_cases e : x = g
    · subst e; rw [k0] at j2; rw [k2 _ 14 (by omega)]
      have jk : ∀ k', jK a sett H I cl cm (a 14 x) k' → jK b sett H I cl cm (a 14 x) k' := by intro k' h; simpa [jK, k2] using h
      rcases Nat.lt_or_ge j (a 24 x) with hj | hj
      · have m := h4 x hx (by assumption) j j1 hj
        simp only [k5 _ _ j (Or.inr hj)]
        rw [kn2 _ _ (Or.inr (by omega)), kn2 _ _ (Or.inr (by omega))]
        exact ⟨m.1, m.2.imp id fun ⟨c1, c2, c3, c4⟩ => ⟨c1, c2, c3, jk _ c4⟩⟩
      · have : j = a 24 x := by omega
        subst this
        rw [kn, kn2 _ _ (Or.inr (Nat.le_refl _)), k4.1, k4.2, m2.2.2.2.2.2.2.2.1]
        exact ⟨Nat.le_refl _, Or.inr ⟨rfl, hk2, rfl, jk _ hk⟩⟩
    · have := h4 x hx; simp only [jK, k1 x e, k3 _ x _ e, kn2 x _ (Or.inl e), k2 _ 2 (by omega)] at *; exact this hr j j1 j2
end PR
section PR
variable {X : Type} {mk : X → Nat} {a b : Nat → Nat → Nat} {q r : Nat → Nat → Nat → Nat} {lg lh : Nat → Nat → X}
variable {top : Nat} {own vt : Nat → Nat} {sett : Nat → Prop} {H : Nat → Nat → X} {HL I : Nat → Nat} {cl : Nat} {cm : Nat → X} {ce : Nat} {n : Nat → Nat → Nat}
-- NEWEPOCH is read and accepted
theorem pt_newepoch (h : JG mk a q lg top own vt sett H HL I cl cm ce n) (f : Nat) (hf : f < 3) (hr : a 0 f = 2) (hd : a 25 f = 0) (hd2 : 1 ≤ a 24 f) (hv : a 1 f ≤ a 1 (a 14 f))
    (k0 : b 25 f = 1 ∧ b 1 f = a 1 (a 14 f) ∧ b 20 f = a 20 f + 1) (k1 : ∀ x, x ≠ f → ∀ k, b k x = a k x) (k2 : ∀ x k, k ≠ 25 → k ≠ 1 → k ≠ 20 → b k x = a k x) (k3 : ∀ k x j, x ≠ f → r k x j = q k x j) (k4 : r 18 f (a 20 f) = 2 ∧ (r 19 f (a 20 f) = 1 → a 1 f < a 1 (a 14 f))) (k5 : ∀ k x j, (k ≠ 18 ∧ k ≠ 19) ∨ j < a 20 f → r k x j = q k x j) :
    JG mk b r lg top own (fun x => if x = f ∧ a 1 f < a 1 (a 14 f) then a 14 f else vt x) sett H HL I cl cm ce n := by
  obtain ⟨hB, hF, hL, hG, hH, hV, hC, hQ, hA, h1, h2, h3, h4⟩ := h
  have g1 := h1 f hf hr
  have g2 := hF f hf hr
  have rl : ∀ x, 3 ≤ a 0 x → x ≠ f := fun x h e => by subst e; omega
  have fl : ∀ x, x < 3 → a 0 x = 2 → a 14 x ≠ f := fun x hx h e => by have := (hF x hx h).2.2; rw [e] at this; omega
  have z20 : a 20 f = 1 := g1.2.2.2.2.2.2.1 hd
  rw [z20] at k0 k4 k5
  refine ⟨?_, ?_, ?_, ?_, hH, ?_, hC, ?_, ?_, ?_, ?_, ?_, ?_⟩
  · intro x hx; have := hB x hx; by_cases e : x = f
    · subst e; simp only [k0, k2 _ 0 (by omega) (by omega) (by omega), k2 _ 2 (by omega) (by omega) (by omega), k2 _ 3 (by omega) (by omega) (by omega), k2 _ 4 (by omega) (by omega) (by omega)]; omega
    · simp only [k1 x e]; exact this
  · simpa [jF, k2] using hF
  · intro x hx hr; rw [k2 _ 0 (by omega) (by omega) (by omega)] at hr; have e := rl x hr; have := hL x hx hr; simp only [k1 x e, e, false_and, if_false]; exact this
  · simpa [jG, k2] using hG
  · refine ⟨fun ho => ?_, ?_⟩
    · have := hV.1 ho; by_cases e : own top = f
      · rw [e] at this ⊢; omega
      · rw [k1 _ e]; exact this
    · obtain ⟨-, x, y, hxy, wx, wy⟩ := hV
      have key : ∀ z, jW a top own vt z → jW b top own (fun x => if x = f ∧ a 1 f < a 1 (a 14 f) then a 14 f else vt x) z := by
        intro z hz; by_cases e : z = f
        · subst e; refine ⟨hz.1, ?_⟩
          rw [k0.2.1]
          by_cases h : a 1 z < a 1 (a 14 z)
          · left; have := hz.2; omega
          · have := hz.2; simp only [h, and_false, if_false]; omega
        · refine ⟨hz.1, ?_⟩; rw [k1 _ e]; simp only [e, false_and, if_false]; exact hz.2
      exact ⟨x, y, hxy, key x wx, key y wy⟩
  · simpa [jQ, jg, k2] using hQ
  · simpa [jA, jK, k2] using hA
  · intro x hx hr; rw [k2 _ 0 (by omega) (by omega) (by omega)] at hr; have hfl := fl x hx hr
    by_cases e : x = f
    · subst e
      have c1 : r 22 x 0 = q 22 x 0 := k5 _ _ _ (Or.inl (by omega))
      have c2 : r 23 x 0 = q 23 x 0 := k5 _ _ _ (Or.inl (by omega))
      have c3 : r 18 x 0 = q 18 x 0 := k5 _ _ _ (Or.inr (by omega))
      simp only [k2 _ 10 (by omega) (by omega) (by omega), k2 _ 14 (by omega) (by omega) (by omega), k2 _ 15 (by omega) (by omega) (by omega), k2 _ 16 (by omega) (by omega) (by omega), k2 _ 17 (by omega) (by omega) (by omega), k2 _ 21 (by omega) (by omega) (by omega), k2 _ 24 (by omega) (by omega) (by omega), k0, k1 _ hfl]
      grind
    · have := h1 x hx hr; simp only [k1 x e, k3 _ x _ e, k1 _ hfl, e, false_and, if_false]; exact this
  · intro x hx hr ht; rw [k2 _ 0 (by omega) (by omega) (by omega)] at hr; rw [k2 _ 16 (by omega) (by omega) (by omega)] at ht; have hfl := fl x hx hr
    have := h2 x hx hr ht
    by_cases e : x = f
    · subst e; omega
    · simp only [k1 x e, k3 _ x _ e, k1 _ hfl]; exact this
  · intro x hx hr ht; rw [k2 _ 0 (by omega) (by omega) (by omega)] at hr; have hfl := fl x hx hr
    by_cases e : x = f
    · subst e; omega
    · have := h3 x hx hr; simp only [k1 x e, k3 _ x _ e, k1 _ hfl] at *; exact this ht
  · intro x hx hr j j1 j2; rw [k2 _ 0 (by omega) (by omega) (by omega)] at hr; rw [k2 _ 24 (by omega) (by omega) (by omega)] at j2; have hfl := fl x hx hr
    have := h4 x hx hr j j1 j2
    rw [k5 _ _ _ (Or.inl (by omega)), k5 _ _ _ (Or.inl (by omega)), k2 _ 14 (by omega) (by omega) (by omega)]
    simpa [jK, k2] using this
-- NEWLEADER is read
theorem pt_newleader (h : JG mk a q lg top own vt sett H HL I cl cm ce n) (f : Nat) (hf : f < 3) (hr : a 0 f = 2) (hd : a 25 f = 1) (hd2 : 2 ≤ a 24 f)
    (k0 : b 25 f = 2 ∧ b 2 f = a 1 f ∧ b 4 f = q 23 f 1 ∧ b 20 f = a 20 f + 1) (k1 : ∀ x, x ≠ f → ∀ k, b k x = a k x) (k2 : ∀ x k, k ≠ 25 → k ≠ 2 → k ≠ 4 → k ≠ 20 → b k x = a k x) (k3 : ∀ k x j, x ≠ f → r k x j = q k x j) (k4 : r 18 f (a 20 f) = 3 ∧ r 19 f (a 20 f) = q 23 f 1) (k5 : ∀ k x j, (k ≠ 18 ∧ k ≠ 19) ∨ j < a 20 f → r k x j = q k x j)
    (k6 : ∀ x, x ≠ f → lh x = lg x) (k7 : ∀ j, j < q 23 f 1 → lh f j = lg (a 14 f) j) :
    JG mk b r lh top own vt sett H HL I cl cm ce n ∧ q 22 f 1 = 5 ∧ q 23 f 1 ≤ a 4 (a 14 f) ∧ a 3 f ≤ q 23 f 1 ∧ ∀ j, j < a 3 f → lh f j = lg f j := by
  obtain ⟨hB, hF, hL, hG, hH, hV, hC, hQ, hA, h1, h2, h3, h4⟩ := h
  have g1 := h1 f hf hr
  have g2 := hF f hf hr
  have ht : a 16 f ≠ 0 := by omega
  have m2 := h2 f hf hr ht
  have g3 := (hL _ g2.1 g2.2.2).2.1 m2.2.1
  have gl := hG _ g2.1
  have gf := hG f hf
  have pf := (g1.2.2.2.2.2.2.2.1 (by omega)).2
  have rl : ∀ x, 3 ≤ a 0 x → x ≠ f := fun x h e => by subst e; omega
  have fl : ∀ x, x < 3 → a 0 x = 2 → a 14 x ≠ f := fun x hx h e => by have := (hF x hx h).2.2; rw [e] at this; omega
  have z20 : a 20 f = 2 := by omega
  rw [z20] at k0 k4 k5
  have bf := hB f hf
  have bl := hB _ g2.1
  have af := hA f hf
  have ef : a 2 f = a 2 (a 14 f) ∧ a 4 f ≤ q 23 f 1 ∨ a 2 f < a 2 (a 14 f) := by omega
  have app : a 3 f ≤ q 23 f 1 ∧ ∀ j, j < a 3 f → H (a 2 (a 14 f)) j = cm j := by
    rcases ef with ⟨e, h⟩ | h
    · refine ⟨by omega, fun j hj => ?_⟩; rw [← e]; exact af.2.1 j hj
    · have := af.2.2 _ gl.1 h; exact ⟨by omega, this.2⟩
  have fin : a 3 f ≤ q 23 f 1 ∧ ∀ j, j < a 3 f → lh f j = lg f j := by
    refine ⟨app.1, fun j hj => ?_⟩
    rw [k7 j (by omega), gl.2.2.2 j (by omega), gf.2.2.2 j (by omega), app.2 j hj, af.2.1 j hj]
  refine ⟨⟨?_, ?_, ?_, ?_, hH, ?_, hC, ?_, ?_, ?_, ?_, ?_, ?_⟩, m2.2.2.2.1, m2.2.2.2.2.2.1, fin⟩
  · intro x hx; have := hB x hx; by_cases e : x = f
    · subst e; simp only [k0, k2 _ 0 (by omega) (by omega) (by omega) (by omega), k2 _ 1 (by omega) (by omega) (by omega) (by omega), k2 _ 3 (by omega) (by omega) (by omega) (by omega)]; omega
    · simp only [k1 x e]; exact this
  · simpa [jF, k2] using hF
  · intro x hx hr; rw [k2 _ 0 (by omega) (by omega) (by omega) (by omega)] at hr; have e := rl x hr; have := hL x hx hr; simp only [k1 x e]; exact this
  · intro x hx; by_cases e : x = f
    · subst e; rw [k0.2.1, k0.2.2.1, pf, ← g3.2.1]; refine ⟨gl.1, by omega, by omega, fun j hj => ?_⟩
      rw [k7 j hj]; exact gl.2.2.2 j (by omega)
    · simp only [k1 x e, k6 x e]; exact hG x hx
  · simpa [jV, jW, k2] using hV
  · obtain ⟨x, y, hxy, wx, wy⟩ := hQ
    have key : ∀ z, jg a cl ce z → jg b cl ce z := by
      intro z hz; by_cases e : z = f
      · subst e; have h1 := hz.2.1; have h2 := hz.2.2
        refine ⟨hz.1, by rw [k0.2.1]; omega, ?_⟩
        rw [k0.2.2.1]
        rcases ef with ⟨e, h⟩ | h
        · omega
        · have := hC.2.2.2 _ gl.1 (by omega); omega
      · unfold jg; rw [k1 _ e, k1 _ e]; exact hz
    exact ⟨x, y, hxy, key x wx, key y wy⟩
  · intro x hx; rw [k2 _ 3 (by omega) (by omega) (by omega) (by omega)]; by_cases e : x = f
    · subst e; refine ⟨af.1, fun i hi => ?_, fun e he hlt => ?_⟩
      · rw [k0.2.1, pf, ← g3.2.1]; exact app.2 i hi
      · rw [k0.2.1] at hlt; exact af.2.2 e he (by omega)
    · have := hA x hx; unfold jK; rw [k1 x e]; exact this
  · intro x hx hr; rw [k2 _ 0 (by omega) (by omega) (by omega) (by omega)] at hr; have hfl := fl x hx hr
    by_cases e : x = f
    · subst e
      have c1 : r 22 x 0 = q 22 x 0 := k5 _ _ _ (Or.inl (by omega))
      have c2 : r 23 x 0 = q 23 x 0 := k5 _ _ _ (Or.inl (by omega))
      have c3 : r 18 x 0 = q 18 x 0 := k5 _ _ _ (Or.inr (by omega))
      have c4 : r 18 x 1 = q 18 x 1 := k5 _ _ _ (Or.inr (by omega))
      have c5 : r 19 x 1 = q 19 x 1 := k5 _ _ _ (Or.inr (by omega))
      simp only [k2 _ 1 (by omega) (by omega) (by omega) (by omega), k2 _ 10 (by omega) (by omega) (by omega) (by omega), k2 _ 14 (by omega) (by omega) (by omega) (by omega), k2 _ 15 (by omega) (by omega) (by omega) (by omega), k2 _ 16 (by omega) (by omega) (by omega) (by omega), k2 _ 17 (by omega) (by omega) (by omega) (by omega), k2 _ 21 (by omega) (by omega) (by omega) (by omega), k2 _ 24 (by omega) (by omega) (by omega) (by omega), k0]
      grind
    · have := h1 x hx hr; simp only [k1 x e, k3 _ x _ e, k1 _ hfl]; exact this
  · intro x hx hr ht; rw [k2 _ 0 (by omega) (by omega) (by omega) (by omega)] at hr; rw [k2 _ 16 (by omega) (by omega) (by omega) (by omega)] at ht; have hfl := fl x hx hr
    have := h2 x hx hr ht
    by_cases e : x = f
    · subst e
      have c1 : r 22 x 1 = q 22 x 1 := k5 _ _ _ (Or.inl (by omega))
      have c2 : r 23 x 1 = q 23 x 1 := k5 _ _ _ (Or.inl (by omega))
      rw [k2 _ 14 (by omega) (by omega) (by omega) (by omega)]
      simp only [k1 _ hfl, k2 _ 17 (by omega) (by omega) (by omega) (by omega), k2 _ 21 (by omega) (by omega) (by omega) (by omega), k2 _ 24 (by omega) (by omega) (by omega) (by omega), c1, c2, k0]
      exact ⟨this.1, this.2.1, this.2.2.1, this.2.2.2.1, this.2.2.2.2.1, this.2.2.2.2.2.1, this.2.2.2.2.2.2.1, this.2.2.2.2.2.2.2.1, this.2.2.2.2.2.2.2.2.1, by omega⟩
    · simp only [k1 x e, k3 _ x _ e, k1 _ hfl]; exact this
  · intro x hx hr ht; rw [k2 _ 0 (by omega) (by omega) (by omega) (by omega)] at hr; have hfl := fl x hx hr
    by_cases e : x = f
    · subst e
      rw [k2 _ 14 (by omega) (by omega) (by omega) (by omega)]
      simp only [k1 _ hfl, k0]
      refine ⟨by omega, by omega, by omega, by omega, fun j j1 j2 => ?_⟩
      have : j = 2 := by omega
      subst this; rw [k4.1, k4.2]; exact ⟨rfl, Nat.le_refl _⟩
    · have := h3 x hx hr; simp only [k1 x e, k3 _ x _ e, k1 _ hfl] at *; exact this ht
  · intro x hx hr j j1 j2; rw [k2 _ 0 (by omega) (by omega) (by omega) (by omega)] at hr; rw [k2 _ 24 (by omega) (by omega) (by omega) (by omega)] at j2; have hfl := fl x hx hr
    have := h4 x hx hr j j1 j2
    rw [k5 _ _ _ (Or.inl (by omega)), k5 _ _ _ (Or.inl (by omega)), k2 _ 14 (by omega) (by omega) (by omega) (by omega)]
    unfold jK; simp only [k1 _ hfl]; exact this
-- the length simulated grows
theorem n_le (h : jM4 a q sett H I cl cm n) {f : Nat} (hf : f < 3) (hr : a 0 f = 2) : ∀ d i, 2 ≤ i → i + d ≤ a 24 f → n f i ≤ n f (i + d) := by
  intro d; induction d with
  | zero => intro i _ _; exact Nat.le_refl _
  | succ d ih => intro i h1 h2; have := ih i h1 (by omega); have := (h f hf hr (i + d) (by omega) (by omega)).1; rw [show i + (d + 1) = i + d + 1 from rfl]; omega
-- PROPOSE is read
theorem pt_prop (h : JG mk a q lg top own vt sett H HL I cl cm ce n) (f : Nat) (hf : f < 3) (hr : a 0 f = 2) (hd : 2 ≤ a 25 f) (hd2 : a 25 f < a 24 f) (hk : q 22 f (a 25 f) = 6)
    (k0 : b 25 f = a 25 f + 1 ∧ b 4 f = a 4 f + 1 ∧ b 20 f = a 20 f + 1) (k1 : ∀ x, x ≠ f → ∀ k, b k x = a k x) (k2 : ∀ x k, k ≠ 25 → k ≠ 4 → k ≠ 20 → b k x = a k x) (k3 : ∀ k x j, x ≠ f → r k x j = q k x j) (k4 : r 18 f (a 20 f) = 3 ∧ r 19 f (a 20 f) = a 4 f + 1) (k5 : ∀ k x j, (k ≠ 18 ∧ k ≠ 19) ∨ j < a 20 f → r k x j = q k x j)
    (k6 : ∀ x, x ≠ f → lh x = lg x) (k7 : lh f (a 4 f) = lg (a 14 f) (q 23 f (a 25 f))) (k8 : ∀ j, j < a 4 f → lh f j = lg f j) :
    JG mk b r lh top own vt sett H HL I cl cm ce n ∧ q 23 f (a 25 f) = a 4 f ∧ a 4 f < a 4 (a 14 f) := by
  obtain ⟨hB, hF, hL, hG, hH, hV, hC, hQ, hA, h1, h2, h3, h4⟩ := h
  have g1 := h1 f hf hr
  have g2 := hF f hf hr
  have ht : a 16 f ≠ 0 := by omega
  have m2 := h2 f hf hr ht
  have m3 := h3 f hf hr hd
  have m4 := h4 f hf hr _ hd hd2
  have nle := n_le h4 hf hr (a 24 f - (a 25 f + 1)) (a 25 f + 1) (by omega) (by omega)
  rw [show a 25 f + 1 + (a 24 f - (a 25 f + 1)) = a 24 f by omega] at nle
  have m4' : q 23 f (a 25 f) = n f (a 25 f) ∧ n f (a 25 f + 1) = n f (a 25 f) + 1 := by
    rcases m4.2 with h | h
    · exact h.2
    · omega
  have gl := hG _ g2.1
  have gf := hG f hf
  have bf := hB f hf
  have bl := hB _ g2.1
  have rl : ∀ x, 3 ≤ a 0 x → x ≠ f := fun x h e => by subst e; omega
  have fl : ∀ x, x < 3 → a 0 x = 2 → a 14 x ≠ f := fun x hx h e => by have := (hF x hx h).2.2; rw [e] at this; omega
  have hv : q 23 f (a 25 f) = a 4 f := by omega
  have hlt : a 4 f < a 4 (a 14 f) := by omega
  refine ⟨⟨?_, ?_, ?_, ?_, hH, ?_, hC, ?_, ?_, ?_, ?_, ?_, ?_⟩, hv, hlt⟩
  · intro x hx; have := hB x hx; by_cases e : x = f
    · subst e; simp only [k0, k2 _ 0 (by omega) (by omega) (by omega), k2 _ 1 (by omega) (by omega) (by omega), k2 _ 2 (by omega) (by omega) (by omega), k2 _ 3 (by omega) (by omega) (by omega)]; omega
    · simp only [k1 x e]; exact this
  · simpa [jF, k2] using hF
  · intro x hx hr; rw [k2 _ 0 (by omega) (by omega) (by omega)] at hr; have e := rl x hr; have := hL x hx hr; simp only [k1 x e]; exact this
  · intro x hx; by_cases e : x = f
    · subst e; rw [k0.2.1, k2 _ 2 (by omega) (by omega) (by omega)]; refine ⟨gf.1, by rw [m3.1]; omega, by omega, fun j hj => ?_⟩
      rcases Nat.lt_or_ge j (a 4 x) with h | h
      · rw [k8 j h]; exact gf.2.2.2 j h
      · have : j = a 4 x := by omega
        subst this; rw [k7, hv, gl.2.2.2 _ hlt, m3.1]
    · simp only [k1 x e, k6 x e]; exact hG x hx
  · simpa [jV, jW, k2] using hV
  · obtain ⟨x, y, hxy, wx, wy⟩ := hQ
    have key : ∀ z, jg a cl ce z → jg b cl ce z := by
      intro z hz; by_cases e : z = f
      · subst e; have h2 := hz.2.2; refine ⟨hz.1, by rw [k2 _ 2 (by omega) (by omega) (by omega)]; exact hz.2.1, by rw [k0.2.1]; omega⟩
      · unfold jg; rw [k1 _ e, k1 _ e]; exact hz
    exact ⟨x, y, hxy, key x wx, key y wy⟩
  · simpa [jA, jK, k2] using hA
  · intro x hx hr; rw [k2 _ 0 (by omega) (by omega) (by omega)] at hr; have hfl := fl x hx hr
    by_cases e : x = f
    · subst e
      have c1 : r 22 x 0 = q 22 x 0 := k5 _ _ _ (Or.inl (by omega))
      have c2 : r 23 x 0 = q 23 x 0 := k5 _ _ _ (Or.inl (by omega))
      have c3 : r 18 x 0 = q 18 x 0 := k5 _ _ _ (Or.inr (by omega))
      have c4 : r 18 x 1 = q 18 x 1 := k5 _ _ _ (Or.inr (by omega))
      have c5 : r 19 x 1 = q 19 x 1 := k5 _ _ _ (Or.inr (by omega))
      simp only [k2 _ 1 (by omega) (by omega) (by omega), k2 _ 10 (by omega) (by omega) (by omega), k2 _ 14 (by omega) (by omega) (by omega), k2 _ 15 (by omega) (by omega) (by omega), k2 _ 16 (by omega) (by omega) (by omega), k2 _ 17 (by omega) (by omega) (by omega), k2 _ 21 (by omega) (by omega) (by omega), k2 _ 24 (by omega) (by omega) (by omega), k0]
      grind
    · have := h1 x hx hr; simp only [k1 x e, k3 _ x _ e, k1 _ hfl]; exact this
  · intro x hx hr ht; rw [k2 _ 0 (by omega) (by omega) (by omega)] at hr; rw [k2 _ 16 (by omega) (by omega) (by omega)] at ht; have hfl := fl x hx hr
    have := h2 x hx hr ht
    by_cases e : x = f
    · subst e
      have c1 : r 22 x 1 = q 22 x 1 := k5 _ _ _ (Or.inl (by omega))
      have c2 : r 23 x 1 = q 23 x 1 := k5 _ _ _ (Or.inl (by omega))
      rw [k2 _ 14 (by omega) (by omega) (by omega)]
      simp only [k1 _ hfl, k2 _ 17 (by omega) (by omega) (by omega), k2 _ 21 (by omega) (by omega) (by omega), k2 _ 24 (by omega) (by omega) (by omega), c1, c2, k0]
      exact ⟨this.1, this.2.1, this.2.2.1, this.2.2.2.1, this.2.2.2.2.1, this.2.2.2.2.2.1, this.2.2.2.2.2.2.1, this.2.2.2.2.2.2.2.1, this.2.2.2.2.2.2.2.2.1, by omega⟩
    · simp only [k1 x e, k3 _ x _ e, k1 _ hfl]; exact this
  · intro x hx hr ht; rw [k2 _ 0 (by omega) (by omega) (by omega)] at hr; have hfl := fl x hx hr
    by_cases e : x = f
    · subst e
      rw [k2 _ 14 (by omega) (by omega) (by omega), k2 _ 2 (by omega) (by omega) (by omega)]
      simp only [k1 _ hfl, k0]
      refine ⟨m3.1, by omega, by omega, by omega, fun j j1 j2 => ?_⟩
      rcases Nat.lt_or_ge j (a 20 x) with h | h
      · rw [k5 _ _ _ (Or.inr h), k5 _ _ _ (Or.inr h)]; have := m3.2.2.2.2 j j1 h; omega
      · have : j = a 20 x := by omega
        subst this; rw [k4.1, k4.2]; exact ⟨rfl, Nat.le_refl _⟩
    · have := h3 x hx hr; simp only [k1 x e, k3 _ x _ e, k1 _ hfl] at *; exact this ht
  · intro x hx hr j j1 j2; rw [k2 _ 0 (by omega) (by omega) (by omega)] at hr; rw [k2 _ 24 (by omega) (by omega) (by omega)] at j2; have hfl := fl x hx hr
    have := h4 x hx hr j j1 j2
    rw [k5 _ _ _ (Or.inl (by omega)), k5 _ _ _ (Or.inl (by omega)), k2 _ 14 (by omega) (by omega) (by omega)]
    unfold jK; simp only [k1 _ hfl]; exact this
-- COMMIT is read
theorem pt_com (h : JG mk a q lg top own vt sett H HL I cl cm ce n) (f : Nat) (hf : f < 3) (hr : a 0 f = 2) (hd : 2 ≤ a 25 f) (hd2 : a 25 f < a 24 f) (hk : q 22 f (a 25 f) ≠ 6)
    (k0 : b 25 f = a 25 f + 1 ∧ b 3 f = max (q 23 f (a 25 f)) (a 3 f)) (k1 : ∀ x, x ≠ f → ∀ k, b k x = a k x) (k2 : ∀ x k, k ≠ 25 → k ≠ 3 → b k x = a k x) :
    JG mk b q lg top own vt sett H HL I cl cm ce n ∧ q 22 f (a 25 f) = 7 ∧ q 23 f (a 25 f) ≤ a 4 f := by
  obtain ⟨hB, hF, hL, hG, hH, hV, hC, hQ, hA, h1, h2, h3, h4⟩ := h
  have g1 := h1 f hf hr
  have g2 := hF f hf hr
  have m3 := h3 f hf hr hd
  have m4 := h4 f hf hr _ hd hd2
  have m4' : q 22 f (a 25 f) = 7 ∧ q 23 f (a 25 f) ≤ n f (a 25 f) ∧ n f (a 25 f + 1) = n f (a 25 f) ∧ jK a sett H I cl cm (a 14 f) (q 23 f (a 25 f)) := by
    rcases m4.2 with h | h
    · exact absurd h.1 hk
    · exact h
  have bf := hB f hf
  have af := hA f hf
  have rl : ∀ x, 3 ≤ a 0 x → x ≠ f := fun x h e => by subst e; omega
  have fl : ∀ x, x < 3 → a 0 x = 2 → a 14 x ≠ f := fun x hx h e => by have := (hF x hx h).2.2; rw [e] at this; omega
  refine ⟨⟨?_, ?_, ?_, ?_, hH, ?_, hC, ?_, ?_, ?_, ?_, ?_, ?_⟩, m4'.1, by omega⟩
  · intro x hx; have := hB x hx; by_cases e : x = f
    · subst e; simp only [k0, k2 _ 0 (by omega) (by omega), k2 _ 1 (by omega) (by omega), k2 _ 2 (by omega) (by omega), k2 _ 4 (by omega) (by omega)]; omega
    · simp only [k1 x e]; exact this
  · simpa [jF, k2] using hF
  · simpa [jL, k2] using hL
  · simpa [jG, k2] using hG
  · simpa [jV, jW, k2] using hV
  · simpa [jQ, jg, k2] using hQ
  · intro x hx; by_cases e : x = f
    · subst e; rw [k0.2]
      rcases Nat.le_total (q 23 x (a 25 x)) (a 3 x) with h | h
      · rw [Nat.max_eq_right h]; simpa [jK, k2] using af
      · rw [Nat.max_eq_left h]
        have := m4'.2.2.2
        unfold jK at *; rw [k2 _ 2 (by omega) (by omega), m3.1]; exact this
    · have := hA x hx; simp only [jK, k1 x e] at *; exact this
  · intro x hx hr; rw [k2 _ 0 (by omega) (by omega)] at hr; have hfl := fl x hx hr
    by_cases e : x = f
    · subst e
      simp only [k2 _ 1 (by omega : 1 ≠ 25) (by omega), k2 _ 10 (by omega : 10 ≠ 25) (by omega), k2 _ 14 (by omega : 14 ≠ 25) (by omega), k2 _ 15 (by omega : 15 ≠ 25) (by omega), k2 _ 16 (by omega : 16 ≠ 25) (by omega), k2 _ 17 (by omega : 17 ≠ 25) (by omega), k2 _ 20 (by omega : 20 ≠ 25) (by omega), k2 _ 21 (by omega : 21 ≠ 25) (by omega), k2 _ 24 (by omega : 24 ≠ 25) (by omega), k0]
      grind
    · have := h1 x hx hr; simp only [k1 x e, k1 _ hfl]; exact this
  · intro x hx hr ht; rw [k2 _ 0 (by omega) (by omega)] at hr; rw [k2 _ 16 (by omega) (by omega)] at ht; have hfl := fl x hx hr
    have := h2 x hx hr ht
    by_cases e : x = f
    · subst e
      rw [k2 _ 14 (by omega) (by omega)]
      simp only [k1 _ hfl, k2 _ 17 (by omega : 17 ≠ 25) (by omega), k2 _ 21 (by omega : 21 ≠ 25) (by omega), k2 _ 24 (by omega : 24 ≠ 25) (by omega), k0]
      exact ⟨this.1, this.2.1, this.2.2.1, this.2.2.2.1, this.2.2.2.2.1, this.2.2.2.2.2.1, this.2.2.2.2.2.2.1, this.2.2.2.2.2.2.2.1, this.2.2.2.2.2.2.2.2.1, by omega⟩
    · simp only [k1 x e, k1 _ hfl]; exact this
  · intro x hx hr ht; rw [k2 _ 0 (by omega) (by omega)] at hr; have hfl := fl x hx hr
    by_cases e : x = f
    · subst e
      rw [k2 _ 14 (by omega) (by omega), k2 _ 2 (by omega) (by omega), k2 _ 4 (by omega) (by omega), k2 _ 20 (by omega) (by omega)]
      simp only [k1 _ hfl, k0]
      rw [m4'.2.2.1]
      exact m3
    · have := h3 x hx hr; simp only [k1 x e, k1 _ hfl] at *; exact this ht
  · intro x hx hr j j1 j2; rw [k2 _ 0 (by omega) (by omega)] at hr; rw [k2 _ 24 (by omega) (by omega)] at j2; have hfl := fl x hx hr
    have := h4 x hx hr j j1 j2
    rw [k2 _ 14 (by omega) (by omega)]
    unfold jK; simp only [k1 _ hfl]; exact this
-- an entry is made and proposed on the tied links
theorem pt_make (h : JG mk a q lg top own vt sett H HL I cl cm ce n) {n' : Nat → Nat → Nat} (l : Nat) (hl : l < 3) (hr : a 0 l = 4) (hlen : a 4 l < 24) (T : Nat → Prop) (hT : ∀ g, T g ↔ g < 3 ∧ a 0 g = 2 ∧ a 14 g = l ∧ a 16 g ≠ 0)
    (k0 : b 4 l = a 4 l + 1 ∧ b 12 l = a 12 l + 1) (k1 : ∀ x k, ¬ T x → x ≠ l → b k x = a k x) (k1' : ∀ x, T x → b 24 x = a 24 x + 1) (k2 : ∀ x k, k ≠ 4 → k ≠ 12 → k ≠ 24 → b k x = a k x) (k2' : ∀ x, x ≠ l → b 4 x = a 4 x ∧ b 12 x = a 12 x) (k3 : ∀ k x j, ¬ T x → r k x j = q k x j) (k4 : ∀ x, T x → r 22 x (a 24 x) = 6 ∧ r 23 x (a 24 x) = a 4 l) (k5 : ∀ k x j, k < 22 ∨ j < a 24 x → r k x j = q k x j)
    (k6 : ∀ x, x ≠ l → lh x = lg x) (k7 : mk (lh l (a 4 l)) = 1000 * a 2 l + a 12 l + 1) (k8 : ∀ j, j < a 4 l → lh l j = lg l j)
    (kn : ∀ x, T x → n' x (a 24 x + 1) = a 4 l + 1) (kn2 : ∀ x j, ¬ T x ∨ j ≤ a 24 x → n' x j = n x j) :
    JG mk b r lh top own vt sett (fun e j => if e = a 2 l ∧ j = a 4 l then lh l j else H e j) (fun e => if e = a 2 l then a 4 l + 1 else HL e) I cl cm ce n' := by
  obtain ⟨hB, hF, hL, hG, hH, hV, hC, hQ, hA, h1, h2, h3, h4⟩ := h
  have g3 := hL l hl (by omega)
  have st := g3.2.2.1 hr
  have g4 := g3.2.1 st
  have gl := hG l hl
  have bl := hB l hl
  have hle := hH.2 _ gl.1
  have Tr : ∀ x, T x → a 0 x = 2 := fun x h => ((hT x).1 h).2.1
  have nl : ∀ x, T x → x ≠ l := fun x h e => by have := Tr x h; subst e; omega
  have Hold : ∀ e j, j < HL e → (if e = a 2 l ∧ j = a 4 l then lh l j else H e j) = H e j := by
    intro e j hj; rw [if_neg]; intro ⟨h1, h2⟩; subst h1; omega
  have Hol : ∀ j, j ≠ a 4 l → ∀ e, (if e = a 2 l ∧ j = a 4 l then lh l j else H e j) = H e j := by
    intro j hj e; rw [if_neg]; intro ⟨h1, h2⟩; exact hj h2
  have HLle : ∀ e, HL e ≤ if e = a 2 l then a 4 l + 1 else HL e := by
    intro e; split
    · rename_i h; subst h; omega
    · exact Nat.le_refl _
  have jk : ∀ x k', x < 3 → k' ≤ a 4 x → jK a sett H I cl cm x k' → jK b sett (fun e j => if e = a 2 l ∧ j = a 4 l then lh l j else H e j) I cl cm x k' := by
    intro x k' hx hk ⟨c1, c2, c3⟩
    have gx := hG x hx
    refine ⟨c1, fun i hi => ?_, fun e he hlt => ?_⟩
    · rw [k2 _ 2 (by omega) (by omega) (by omega)]; show (if _ then _ else _) = _; rw [Hold _ _ (by omega)]; exact c2 i hi
    · rw [k2 _ 2 (by omega) (by omega) (by omega)] at hlt; have := c3 e he hlt; have h0 := hH.2 e he
      refine ⟨this.1, fun i hi => ?_⟩; show (if _ then _ else _) = _; rw [Hold _ _ (by omega)]; exact this.2 i hi
  refine ⟨?_, ?_, ?_, ?_, ?_, ?_, ?_, ?_, ?_, ?_, ?_, ?_, ?_⟩
  · intro x hx; have := hB x hx; simp only [k2 _ 0 (by omega) (by omega) (by omega), k2 _ 1 (by omega) (by omega) (by omega), k2 _ 2 (by omega) (by omega) (by omega), k2 _ 3 (by omega) (by omega) (by omega)]
    by_cases e : x = l
    · subst e; rw [k0.1]; omega
    · rw [(k2' x e).1]; exact this
  · simpa [jF, k2] using hF
  · intro x hx hr; simp only [k2 _ 0 (by omega) (by omega) (by omega), k2 _ 1 (by omega) (by omega) (by omega), k2 _ 2 (by omega) (by omega) (by omega), k2 _ 10 (by omega) (by omega) (by omega), k2 _ 11 (by omega) (by omega) (by omega)] at *
    by_cases e : x = l
    · subst e; rw [k0.1, k0.2]
      refine ⟨g3.1, fun _ => ⟨g4.1, g4.2.1, g4.2.2.1, by simp, by simp; omega, fun j hj => ?_⟩, g3.2.2.1, g3.2.2.2.1, by omega⟩
      simp only [if_true] at hj
      by_cases hj' : j = a 4 x
      · subst hj'; simp only [and_self, if_true]; omega
      · simp only [hj', and_false, if_false]; have := g4.2.2.2.2.2 j (by omega); omega
    · have := hL x hx hr; rw [(k2' x e).1, (k2' x e).2]
      refine ⟨this.1, fun h => ?_, this.2.2⟩
      have := this.2.1 h
      have ne : a 2 x ≠ a 2 l := fun h => by have h1 := this.2.2.1; have h2 := g4.2.2.1; rw [h] at h1; omega
      simp only [ne, if_false, false_and]; exact this
  · intro x hx; have gx := hG x hx; rw [k2 _ 2 (by omega) (by omega) (by omega)]
    by_cases e : x = l
    · subst e; rw [k0.1]; refine ⟨gx.1, by simp, by omega, fun j hj => ?_⟩
      by_cases hj' : j = a 4 x
      · subst hj'; simp
      · simp only [hj', and_false, if_false]; rw [k8 j (by omega)]; exact gx.2.2.2 j (by omega)
    · rw [(k2' x e).1, k6 x e]; refine ⟨gx.1, Nat.le_trans gx.2.1 (HLle _), gx.2.2.1, fun j hj => ?_⟩
      show _ = if _ then _ else _; rw [Hold _ _ (by omega)]; exact gx.2.2.2 j hj
  · refine ⟨hH.1, fun e he => ?_⟩
    have h0 := hH.2 e he
    by_cases ee : e = a 2 l
    · subst ee; simp only [if_true, true_and]
      refine ⟨h0.1, by omega, fun j hj => ?_, fun i j hij hj => ?_⟩
      · by_cases hj' : j = a 4 l
        · subst hj'; simp only [if_true]; have := g4.2.2.2.2.1; omega
        · simp only [hj', if_false]; exact h0.2.2.1 j (by omega)
      · have hi' : i ≠ a 4 l := by omega
        simp only [hi', if_false]
        by_cases hj' : j = a 4 l
        · subst hj'; simp only [if_true]; have := g4.2.2.2.2.2 i (by omega); omega
        · simp only [hj', if_false]; exact h0.2.2.2 i j hij (by omega)
    · simp only [ee, if_false, false_and]; exact h0
  · simpa [jV, jW, k2] using hV
  · refine ⟨hC.1, hC.2.1, fun e he hce => ?_, hC.2.2.2⟩
    have := hC.2.2.1 e he hce
    refine ⟨Nat.le_trans this.1 (HLle _), fun j hj => ?_⟩
    show (if _ then _ else _) = _; rw [Hold _ _ (by omega)]; exact this.2 j hj
  · obtain ⟨x, y, hxy, wx, wy⟩ := hQ
    have key : ∀ z, jg a cl ce z → jg b cl ce z := by
      intro z hz; refine ⟨hz.1, by rw [k2 _ 2 (by omega) (by omega) (by omega)]; exact hz.2.1, ?_⟩
      have := hz.2.2
      by_cases e : z = l
      · subst e; rw [k0.1]; omega
      · rw [(k2' z e).1]; exact this
    exact ⟨x, y, hxy, key x wx, key y wy⟩
  · intro x hx; rw [k2 _ 3 (by omega) (by omega) (by omega)]; exact jk x _ hx (hB x hx).2.2.2 (hA x hx)
  · intro x hx hr; rw [k2 _ 0 (by omega) (by omega) (by omega)] at hr
    have g := h1 x hx hr
    have nx : x ≠ l := fun e => by subst e; omega
    simp only [k2 _ 1 (by omega) (by omega) (by omega), k2 _ 10 (by omega) (by omega) (by omega), k2 _ 14 (by omega) (by omega) (by omega), k2 _ 15 (by omega) (by omega) (by omega), k2 _ 16 (by omega) (by omega) (by omega), k2 _ 17 (by omega) (by omega) (by omega), k2 _ 20 (by omega) (by omega) (by omega), k2 _ 21 (by omega) (by omega) (by omega), k2 _ 25 (by omega) (by omega) (by omega), k5 _ _ _ (Or.inl (by omega : 18 < 22)), k5 _ _ _ (Or.inl (by omega : 19 < 22))]
    by_cases t : T x
    · have t' := (hT x).1 t
      have m := h2 x hx hr t'.2.2.2
      rw [k1' x t, k5 22 x 0 (Or.inr (by omega)), k5 23 x 0 (Or.inr (by omega))]
      grind
    · rw [k1 x _ t nx, k3 _ _ _ t, k3 _ _ _ t]; exact g
  · intro x hx hr ht; rw [k2 _ 0 (by omega) (by omega) (by omega)] at hr; rw [k2 _ 16 (by omega) (by omega) (by omega)] at ht
    have m := h2 x hx hr ht
    have nx : x ≠ l := fun e => by subst e; omega
    simp only [k2 _ 2 (by omega) (by omega) (by omega), k2 _ 3 (by omega) (by omega) (by omega), k2 _ 11 (by omega) (by omega) (by omega), k2 _ 14 (by omega) (by omega) (by omega), k2 _ 17 (by omega) (by omega) (by omega), k2 _ 21 (by omega) (by omega) (by omega), k2 _ 25 (by omega) (by omega) (by omega), (k2' x nx).1]
    by_cases t : T x
    · have t' := (hT x).1 t
      rw [k1' x t, k5 22 x 1 (Or.inr (by omega)), k5 23 x 1 (Or.inr (by omega)), kn x t, kn2 x 2 (Or.inr (by omega)), t'.2.2.1, k0.1]
      rw [t'.2.2.1] at m
      exact ⟨m.1, m.2.1, by omega, m.2.2.2.1, m.2.2.2.2.1, by omega, m.2.2.2.2.2.2.1, rfl, by omega, m.2.2.2.2.2.2.2.2.2⟩
    · have e : a 14 x ≠ l := fun e => t ((hT x).2 ⟨hx, hr, e, ht⟩)
      rw [k1 x _ t nx, k3 _ _ _ t, k3 _ _ _ t, (k2' _ e).1, kn2 x _ (Or.inl t), kn2 x _ (Or.inl t)]; exact m
  · intro x hx hr ht; rw [k2 _ 0 (by omega) (by omega) (by omega)] at hr; rw [k2 _ 25 (by omega) (by omega) (by omega)] at ht
    have m := h3 x hx hr ht
    have g := h1 x hx hr
    have nx : x ≠ l := fun e => by subst e; omega
    simp only [k2 _ 2 (by omega) (by omega) (by omega), k2 _ 14 (by omega) (by omega) (by omega), k2 _ 20 (by omega) (by omega) (by omega), k2 _ 25 (by omega) (by omega) (by omega), (k2' x nx).1, k5 _ _ _ (Or.inl (by omega : 18 < 22)), k5 _ _ _ (Or.inl (by omega : 19 < 22))]
    rw [kn2 x _ (Or.inr (by omega))]; exact m
  · intro x hx hr j j1 j2; rw [k2 _ 0 (by omega) (by omega) (by omega)] at hr
    have nx : x ≠ l := fun e => by subst e; omega
    have hf := hF x hx hr
    rw [k2 _ 14 (by omega) (by omega) (by omega)]
    have go : j < a 24 x → n' x j ≤ n' x (j + 1) ∧ (r 22 x j = 6 ∧ r 23 x j = n' x j ∧ n' x (j + 1) = n' x j + 1 ∨ r 22 x j = 7 ∧ r 23 x j ≤ n' x j ∧ n' x (j + 1) = n' x j ∧ jK b sett (fun e j => if e = a 2 l ∧ j = a 4 l then lh l j else H e j) I cl cm (a 14 x) (r 23 x j)) := by
      intro hj
      have m := h4 x hx hr j j1 hj
      have g := h1 x hx hr
      have m2 := h2 x hx hr (by omega)
      have nle := n_le h4 hx hr (a 24 x - j) j j1 (by omega)
      rw [show j + (a 24 x - j) = a 24 x by omega] at nle
      rw [kn2 x _ (Or.inr (by omega)), kn2 x _ (Or.inr (by omega)), k5 _ _ _ (Or.inr hj), k5 _ _ _ (Or.inr hj)]
      exact ⟨m.1, m.2.imp id fun ⟨c1, c2, c3, c4⟩ => ⟨c1, c2, c3, jk _ _ hf.1 (by omega) c4⟩⟩
    by_cases t : T x
    · have t' := (hT x).1 t
      have m := h2 x hx hr t'.2.2.2
      rw [k1' x t] at j2
      rcases Nat.lt_or_ge j (a 24 x) with hj | hj
      · exact go hj
      · have : j = a 24 x := by omega
        subst this
        rw [kn x t, kn2 x _ (Or.inr (Nat.le_refl _)), (k4 x t).1, (k4 x t).2, m.2.2.2.2.2.2.2.1, t'.2.2.1]
        exact ⟨by omega, Or.inl ⟨rfl, rfl, rfl⟩⟩
    · rw [k1 x _ t nx] at j2; exact go j2
end PR
end
section
section GN
theorem ofN_add (a b : Nat) : Int32.ofNat a + Int32.ofNat b = Int32.ofNat (a + b) := (Int32.ofNat_add a b).symm
theorem ofN_mul (a b : Nat) : Int32.ofNat a * Int32.ofNat b = Int32.ofNat (a * b) := (Int32.ofNat_mul a b).symm
theorem ofN_toNat {j : Nat} (h : j < 2147483648) : (Int32.ofNat j).toNatClampNeg = j := Int32.toNatClampNeg_ofNat_of_lt h
theorem ofN_lt {a b : Nat} (ha : a < 2147483648) (hb : b < 2147483648) : (Int32.ofNat a < Int32.ofNat b) ↔ a < b := by
  rw [Int32.lt_iff_toInt_lt, Int32.toInt_ofNat_of_lt ha, Int32.toInt_ofNat_of_lt hb]; omega
theorem ofN_le {a b : Nat} (ha : a < 2147483648) (hb : b < 2147483648) : (Int32.ofNat a ≤ Int32.ofNat b) ↔ a ≤ b := by
  rw [Int32.le_iff_toInt_le, Int32.toInt_ofNat_of_lt ha, Int32.toInt_ofNat_of_lt hb]; omega
theorem ofN_eq {a b : Nat} (ha : a < 2147483648) (hb : b < 2147483648) : (Int32.ofNat a = Int32.ofNat b) ↔ a = b := by
  rw [← Int32.toInt_inj, Int32.toInt_ofNat_of_lt ha, Int32.toInt_ofNat_of_lt hb]; omega
theorem ofN_in {j n : Nat} (h : j < n) (hn : n ≤ 2147483648) : vp_in (Int32.ofNat j) n := by
  unfold vp_in
  rw [ofN_toNat (by omega), Int32.lt_iff_toInt_lt, Int32.toInt_ofNat_of_lt (by omega)]
  have : Int32.toInt 0 = 0 := by decide
  omega
def nc (x : Int32) : Nat := x.toUInt32.toNat
theorem ofN_nc (x : Int32) : Int32.ofNat (nc x) = x := Int32.toBitVec.inj (by
  rw [Int32.toBitVec_ofNat']
  show BitVec.ofNat 32 x.toBitVec.toNat = x.toBitVec
  simp)
end GN
section GN2
variable {p : Program} {l : Launch} {e : Env} {R : Room} {s : State} {m : MethodId} {args : Array Value} {below : List Frame} {meth : Method} {c : Code}
variable {nL : Nat} {D : va_G} {cl : List vw_C} {A : Nat → Prop} {Q : State → Prop} {cells slots pc : Nat} {L L' : List (Nat × Value)} {st : List Value} {ws ws' : va_W}
variable {cc : ByteArray} {Ts : List Cond} {t0 : Cond} {own : String} {tys : List (ClassId × FieldType)} {a : Nat}
theorem gf_w (F : gf p s m args meth c nL D cl A cc (t0 :: tb) own tys) {w : Cond} (h : w ∈ tb) : w.before args s = true := F.1.2.2.2.2 _ (List.mem_cons_of_mem _ h)
theorem gf_n (F : gf p s m args meth c nL D cl A cc (t0 :: tb) own tys) {w : Cond} (h : w ∈ nb) : w.before args s = true := NW.use F.2.2.2 h
theorem in_c {C : String} {T : u_T} {N : Nat} (h : ∀ w ∈ u_ws C T N, w ∈ tb) : ∀ w ∈ u_ws C T N, w ∈ t0 :: tb := fun w hw => List.mem_cons_of_mem _ (h w hw)
-- fields
theorem f_get (F : gf p s m args meth c nL D cl A cc (t0 :: tb) own tys) {ref C : String} {T : u_T} {N ci index : Nat} (hin : ∀ w ∈ u_ws C T N, w ∈ tb) {q0 : Nat} {fs : List Value} (he : ws[q0]? = some (a, .inr (ci, fs))) (hc : cl[ci]? = some (C, T, N)) (j : Nat) (hj : j < N) (hlink : Cond.fieldLink own index ref (T j).2.1 (T j).2.2.1 ∈ tb) (hr : (T j).1 = ref) {v : Value} (hv : fs[j]? = some v) (hd : decode cc pc = .ok (.getfield index, 3))
    (k : gw p l e R s m args below meth c nL D cl A Q cells slots (pc + 3) L (v :: st) ws) : gw p l e R s m args below meth c nL D cl A Q cells slots pc L (.ref a :: st) ws :=
  g_get F (in_c hin) q0 he hc j hj (gf_w F hlink) (fun _ h => by rw [hr] at h; exact h) hv hd k
theorem f_getN (F : gf p s m args meth c nL D cl A cc (t0 :: tb) own tys) {ref C : String} {T : u_T} {N ci index : Nat} {host : String} (hin : ∀ w ∈ u_ws C T N, w ∈ tb) {q0 : Nat} {fs : List Value} (he : ws[q0]? = some (a, .inr (ci, fs))) (hc : cl[ci]? = some (C, T, N)) (j : Nat) (hj : j < N) (hlink : Cond.fieldLinkNest own index ref (T j).2.1 (T j).2.2.1 host ∈ nb) (hr : (T j).1 = ref) {v : Value} (hv : fs[j]? = some v) (hd : decode cc pc = .ok (.getfield index, 3))
    (k : gw p l e R s m args below meth c nL D cl A Q cells slots (pc + 3) L (v :: st) ws) : gw p l e R s m args below meth c nL D cl A Q cells slots pc L (.ref a :: st) ws :=
  g_getN F (in_c hin) q0 he hc j hj (gf_n F hlink) (fun _ h => by rw [hr] at h; exact h) hv hd k
theorem f_put (F : gf p s m args meth c nL D cl A cc (t0 :: tb) own tys) {ref C : String} {T : u_T} {N ci index : Nat} (hin : ∀ w ∈ u_ws C T N, w ∈ tb) {ty0 : Nat → FieldType} (hty : ∀ k, k < N → parseFieldDescriptor (T k).2.2.1 = some (ty0 k)) (hnm : ∀ a, a < N → ∀ b, b < N → a ≠ b → (T a).2.1 ≠ (T b).2.1) {q0 : Nat} {fs : List Value} (he : ws[q0]? = some (a, .inr (ci, fs))) (hc : cl[ci]? = some (C, T, N)) (j : Nat) (hj : j < N) (hlink : Cond.fieldLink own index ref (T j).2.1 (T j).2.2.1 ∈ tb) (hr : (T j).1 = ref) (hfin : (T j).2.2.2 = false) {v : Value} (hn : narrow (ty0 j) v = v) (hfit : fits (ty0 j) v = true) (hlen : j < fs.length) (hd : decode cc pc = .ok (.putfield index, 3)) {ws' : va_W} (hws : ws.set q0 (a, .inr (ci, fs.set j v)) = ws')
    (k : gw p l e R s m args below meth c nL D cl A Q cells slots (pc + 3) L st ws') : gw p l e R s m args below meth c nL D cl A Q cells slots pc L (v :: .ref a :: st) ws :=
  g_put F (in_c hin) ty0 hty hnm q0 he hc j hj (gf_w F hlink) (fun _ h => by rw [hr] at h; exact h) hfin (hty j hj) hn hfit hlen hd ws' hws k
theorem f_putN (F : gf p s m args meth c nL D cl A cc (t0 :: tb) own tys) {ref C : String} {T : u_T} {N ci index : Nat} {host : String} (hin : ∀ w ∈ u_ws C T N, w ∈ tb) {ty0 : Nat → FieldType} (hty : ∀ k, k < N → parseFieldDescriptor (T k).2.2.1 = some (ty0 k)) (hnm : ∀ a, a < N → ∀ b, b < N → a ≠ b → (T a).2.1 ≠ (T b).2.1) {q0 : Nat} {fs : List Value} (he : ws[q0]? = some (a, .inr (ci, fs))) (hc : cl[ci]? = some (C, T, N)) (j : Nat) (hj : j < N) (hlink : Cond.fieldLinkNest own index ref (T j).2.1 (T j).2.2.1 host ∈ nb) (hr : (T j).1 = ref) (hfin : (T j).2.2.2 = false) {v : Value} (hn : narrow (ty0 j) v = v) (hfit : fits (ty0 j) v = true) (hlen : j < fs.length) (hd : decode cc pc = .ok (.putfield index, 3)) {ws' : va_W} (hws : ws.set q0 (a, .inr (ci, fs.set j v)) = ws')
    (k : gw p l e R s m args below meth c nL D cl A Q cells slots (pc + 3) L st ws') : gw p l e R s m args below meth c nL D cl A Q cells slots pc L (v :: .ref a :: st) ws :=
  g_putN F (in_c hin) ty0 hty hnm q0 he hc j hj (gf_n F hlink) (fun _ h => by rw [hr] at h; exact h) hfin (hty j hj) hn hfit hlen hd ws' hws k
-- arrays of codes
theorem f_ald (F : gf p s m args meth c nL D cl A cc Ts own tys) {q0 : Nat} (ti : Nat) {cA : ClassId} {n : Nat} {f : Nat → Nat} (ha : ws[q0]? = some (a, .inl (cA, n, .inl (fun t => Int32.ofNat (f t))))) (ht : tys[ti]? = some (cA, .int)) {j : Nat} (hj : j < n) (hn : n ≤ 2147483648) (hd : decode cc pc = .ok (.iaload, 1))
    (k : gw p l e R s m args below meth c nL D cl A Q cells slots (pc + 1) L (.int (Int32.ofNat (f j)) :: st) ws) : gw p l e R s m args below meth c nL D cl A Q cells slots pc L (.int (Int32.ofNat j) :: .ref a :: st) ws :=
  g_iald F q0 ti ha ht (ofN_in hj hn) (by rw [ofN_toNat (by omega)]) hd k
theorem upd_code {f : Nat → Nat} {j v : Nat} (hj : j < 2147483648) : upd (fun t => Int32.ofNat (f t)) (Int32.ofNat j).toNatClampNeg (Int32.ofNat v) = fun t => Int32.ofNat (if t = j then v else f t) := by
  rw [ofN_toNat hj]; funext t; unfold upd; split <;> rfl
theorem f_ast (F : gf p s m args meth c nL D cl A cc Ts own tys) {q0 : Nat} (ti : Nat) {cA : ClassId} {n : Nat} {f : Nat → Nat} (ha : ws[q0]? = some (a, .inl (cA, n, .inl (fun t => Int32.ofNat (f t))))) (ht : tys[ti]? = some (cA, .int)) {j v : Nat} (hj : j < n) (hn : n ≤ 2147483648) (hd : decode cc pc = .ok (.iastore, 1)) {ws' : va_W} (hws : ws.set q0 (a, .inl (cA, n, .inl (fun t => Int32.ofNat (if t = j then v else f t)))) = ws')
    (k : gw p l e R s m args below meth c nL D cl A Q cells slots (pc + 1) L st ws') : gw p l e R s m args below meth c nL D cl A Q cells slots pc L (.int (Int32.ofNat v) :: .int (Int32.ofNat j) :: .ref a :: st) ws :=
  g_iast F q0 ti ha ht (ofN_in hj hn) hd ws' (by rw [upd_code (by omega)]; exact hws) k
theorem f_zald (F : gf p s m args meth c nL D cl A cc Ts own tys) {q0 : Nat} (ti : Nat) {cA : ClassId} {n : Nat} {f : Nat → Nat} (ha : ws[q0]? = some (a, .inl (cA, n, .inl (fun t => Int32.ofNat (f t))))) (ht : tys[ti]? = some (cA, .boolean)) {j : Nat} (hj : j < n) (hn : n ≤ 2147483648) (hd : decode cc pc = .ok (.baload, 1))
    (k : gw p l e R s m args below meth c nL D cl A Q cells slots (pc + 1) L (.int (Int32.ofNat (f j)) :: st) ws) : gw p l e R s m args below meth c nL D cl A Q cells slots pc L (.int (Int32.ofNat j) :: .ref a :: st) ws := by
  intro ls H locs h1 h2 h3 h4
  refine va_zald F.1.1 F.1.2.1 F.2.1 h2 q0 ti ha ht (ofN_in hj hn) hd ?_
  rw [ofN_toNat (by omega)]
  exact k ls H locs h1 h2 h3 h4
theorem f_zast (F : gf p s m args meth c nL D cl A cc Ts own tys) {q0 : Nat} (ti : Nat) {cA : ClassId} {n : Nat} {f : Nat → Nat} (ha : ws[q0]? = some (a, .inl (cA, n, .inl (fun t => Int32.ofNat (f t))))) (ht : tys[ti]? = some (cA, .boolean)) {j v : Nat} (hj : j < n) (hn : n ≤ 2147483648) (hv : vp_nar .boolean (Int32.ofNat v) = Int32.ofNat v) (hd : decode cc pc = .ok (.bastore, 1)) {ws' : va_W} (hws : ws.set q0 (a, .inl (cA, n, .inl (fun t => Int32.ofNat (if t = j then v else f t)))) = ws')
    (k : gw p l e R s m args below meth c nL D cl A Q cells slots (pc + 1) L st ws') : gw p l e R s m args below meth c nL D cl A Q cells slots pc L (.int (Int32.ofNat v) :: .int (Int32.ofNat j) :: .ref a :: st) ws := by
  subst hws
  intro ls H locs h1 h2 h3 h4
  refine va_zast F.1.1 F.1.2.1 F.2.1 h2 h3 h4 q0 ti ha ht (ofN_in hj hn) hd ?_
  rw [hv, upd_code (by omega)]
  exact fun H1 locs1 g1 g2 g3 => k ls H1 locs1 h1 g1 g2 g3
-- arithmetic of codes
theorem f_add (F : gf p s m args meth c nL D cl A cc Ts own tys) {x y : Nat} (hd : decode cc pc = .ok (.iadd, 1))
    (k : gw p l e R s m args below meth c nL D cl A Q cells slots (pc + 1) L (.int (Int32.ofNat (x + y)) :: st) ws) : gw p l e R s m args below meth c nL D cl A Q cells slots pc L (.int (Int32.ofNat y) :: .int (Int32.ofNat x) :: st) ws := by
  rw [← ofN_add] at k; exact g_iadd F hd k
theorem f_mul (F : gf p s m args meth c nL D cl A cc Ts own tys) {x y : Nat} (hd : decode cc pc = .ok (.imul, 1))
    (k : gw p l e R s m args below meth c nL D cl A Q cells slots (pc + 1) L (.int (Int32.ofNat (x * y)) :: st) ws) : gw p l e R s m args below meth c nL D cl A Q cells slots pc L (.int (Int32.ofNat y) :: .int (Int32.ofNat x) :: st) ws := by
  rw [← ofN_mul] at k; exact g_imul F hd k
theorem f_sub (F : gf p s m args meth c nL D cl A cc Ts own tys) {x y : Nat} (hxy : y ≤ x) (hd : decode cc pc = .ok (.isub, 1))
    (k : gw p l e R s m args below meth c nL D cl A Q cells slots (pc + 1) L (.int (Int32.ofNat (x - y)) :: st) ws) : gw p l e R s m args below meth c nL D cl A Q cells slots pc L (.int (Int32.ofNat y) :: .int (Int32.ofNat x) :: st) ws := by
  refine g_isub F hd ?_
  have : Int32.ofNat x - Int32.ofNat y = Int32.ofNat (x - y) := by
    conv => lhs; rw [show x = (x - y) + y by omega, ← ofN_add]
    simp
  rw [this]; exact k
-- a number becomes a code
theorem f_code {x : Int32} (k : gw p l e R s m args below meth c nL D cl A Q cells slots pc L (.int (Int32.ofNat (nc x)) :: st) ws) : gw p l e R s m args below meth c nL D cl A Q cells slots pc L (.int x :: st) ws := by
  rw [ofN_nc] at k; exact k
theorem f_iconst (F : gf p s m args meth c nL D cl A cc Ts own tys) {n : Int} (v : Nat) (hd : decode cc pc = .ok (.iconst n, 1)) (hv : Int32.ofInt n = Int32.ofNat v)
    (k : gw p l e R s m args below meth c nL D cl A Q cells slots (pc + 1) L (.int (Int32.ofNat v) :: st) ws) : gw p l e R s m args below meth c nL D cl A Q cells slots pc L st ws := g_iconst F hd hv k
theorem f_bipush (F : gf p s m args meth c nL D cl A cc Ts own tys) {n : Int} (v : Nat) (hd : decode cc pc = .ok (.bipush n, 2)) (hv : (Int8.ofInt n).toInt32 = Int32.ofNat v)
    (k : gw p l e R s m args below meth c nL D cl A Q cells slots (pc + 2) L (.int (Int32.ofNat v) :: st) ws) : gw p l e R s m args below meth c nL D cl A Q cells slots pc L st ws := g_bipush F hd hv k
theorem f_sipush (F : gf p s m args meth c nL D cl A cc Ts own tys) {n : Int} (v : Nat) (hd : decode cc pc = .ok (.sipush n, 3)) (hv : (Int16.ofInt n).toInt32 = Int32.ofNat v)
    (k : gw p l e R s m args below meth c nL D cl A Q cells slots (pc + 3) L (.int (Int32.ofNat v) :: st) ws) : gw p l e R s m args below meth c nL D cl A Q cells slots pc L st ws := g_sipush F hd hv k
theorem f_iinc (F : gf p s m args meth c nL D cl A cc Ts own tys) {i : Nat} {n : Int} {x : Nat} (v : Nat) (L' : List (Nat × Value)) (hd : decode cc pc = .ok (.iinc i n, 3)) (j : Nat) (hj : L[j]? = some (i, .int (Int32.ofNat x))) (hv : Int32.ofNat x + Int32.ofInt n = Int32.ofNat v) (hn : i < nL) (hl : (i, Value.int (Int32.ofNat v)) :: L.filter (fun q => !(q.1 == i) && !(q.1 + 1 == i && q.2.category == 2)) = L')
    (k : gw p l e R s m args below meth c nL D cl A Q cells slots (pc + 3) L' st ws) : gw p l e R s m args below meth c nL D cl A Q cells slots pc L st ws := g_iinc F L' hd j hj hv hn hl k
theorem ofN_inc (x : Nat) : Int32.ofNat x + Int32.ofInt 1 = Int32.ofNat (x + 1) := ofN_add x 1
-- calls over the whole world; every method's words are its own code and tb
theorem tb_in {t t' : Cond} (h : t' ∈ tb) : GoodIn (t :: tb) (t' :: tb) := by
  intro w hw
  have hw : w ∈ tb := by rcases List.mem_cons.mp hw with e | h'; rw [e]; exact h; exact h'
  exact ⟨List.mem_cons_of_mem _ hw, good_of_word (List.all_eq_true.mp tb_good w hw)⟩
theorem tb_ins {t t' : Cond} {pre : List Cond} (hp : ∀ w ∈ pre, w ∈ tb) (h : t' ∈ tb) : GoodIn (t :: tb) (pre ++ (t' :: tb)) := by
  intro w hw
  have hw : w ∈ tb := by
    rcases List.mem_append.mp hw with h' | h'
    · exact hp w h'
    · rcases List.mem_cons.mp h' with e | h'; rw [e]; exact h; exact h'
  exact ⟨List.mem_cons_of_mem _ hw, good_of_word (List.all_eq_true.mp tb_good w hw)⟩
theorem f_callS (F : gf p s m args meth c nL D cl A cc (t0 :: tb) own tys) {y : MethodName} {bytes : ByteArray} {maxL n index : Nat} {ret : Option FieldType} {rm : Room} {av rest : List Value} {rv : Option Value} (hM : gN l y (Cond.code y bytes maxL ret :: tb) rm D cl tys av ws rv ws') (hcode : Cond.code y bytes maxL ret ∈ tb) (hl : Cond.methodLink own index y ∈ tb) (hst0 : Cond.static y ∈ tb) (hini : Cond.initialized y.cls ∈ tb) (hdd : y.cls ≠ "java/lang/invoke/MethodHandle" ∧ y.cls ≠ "java/lang/invoke/VarHandle" ∧ (parseMethodDescriptor y.desc).map (fun d => d.parameters.length) = some n) (hz : rm.cells = 0 ∧ rm.slots = 0) (hR : rm.frames + 1 ≤ R.frames ∧ 8 + (maxL + 11) + rm.locals ≤ R.locals) (hadr : ws'.map Prod.fst = ws.map Prod.fst) (hn : av.length = n) (hst : st = av.reverse ++ rest) (hW : (rest.map fun v => v.category).sum ≤ 8) (hf : cells ≤ R.cells ∧ slots ≤ R.slots) (hd : decode cc pc = .ok (.invokestatic index, 3)) {st' : List Value} (hst' : rv.toList ++ rest = st')
    (k : gw p l e R s m args below meth c nL D cl A Q cells slots (pc + 3) L st' ws') : gw p l e R s m args below meth c nL D cl A Q cells slots pc L st ws :=
  g_callA F (av := av) hadr (fun ls H locs h1 h2 h3 => va_runS F.1 (hM H.size) ⟨callB_of n F.1.2.2.2.2 (tb_in hcode) rfl hz.1 hz.2 (gf_w F hini) (gf_w F hl) hdd hR, gf_w F hst0⟩ ⟨gP_blind, gP_pre F h2 h3⟩ rfl hn h1.1 hst (lv_room hW) hd hf) (by rw [hst']; exact k)
theorem f_callV (F : gf p s m args meth c nL D cl A cc (t0 :: tb) own tys) {y : MethodName} {bytes : ByteArray} {maxL n index : Nat} {ret : Option FieldType} {rm : Room} {As rest : List Value} {rv : Option Value} {C : vw_C} {ci b q0 : Nat} {fs : List Value} (hM : gN l y (Cond.code y bytes maxL ret :: tb) rm D cl tys (.ref b :: As) ws rv ws') (he : ws[q0]? = some (b, .inr (ci, fs))) (hcl : cl[ci]? = some C) (hcode : Cond.code y bytes maxL ret ∈ tb) (hl : Cond.methodLink own index y ∈ tb) (hi : Cond.instanceMethod y ∈ tb) (hse : Cond.selects C.1 y y ∈ tb) (hini : Cond.initialized y.cls ∈ tb) (hdd : y.cls = C.1 ∧ y.cls ≠ "java/lang/invoke/MethodHandle" ∧ y.cls ≠ "java/lang/invoke/VarHandle" ∧ (parseMethodDescriptor y.desc).map (fun d => d.parameters.length) = some n) (hz : rm.cells = 0 ∧ rm.slots = 0) (hR : rm.frames + 1 ≤ R.frames ∧ 8 + (maxL + 11) + rm.locals ≤ R.locals) (hadr : ws'.map Prod.fst = ws.map Prod.fst) (hn : As.length = n) (hst : st = As.reverse ++ .ref b :: rest) (hW : (rest.map fun v => v.category).sum ≤ 8) (hf : cells ≤ R.cells ∧ slots ≤ R.slots) (hd : decode cc pc = .ok (.invokevirtual index, 3)) {st' : List Value} (hst' : rv.toList ++ rest = st')
    (k : gw p l e R s m args below meth c nL D cl A Q cells slots (pc + 3) L st' ws') : gw p l e R s m args below meth c nL D cl A Q cells slots pc L st ws :=
  g_callA F (av := .ref b :: As) hadr (fun ls H locs h1 h2 h3 => va_runV F.1 (hM H.size) ⟨callB_of n F.1.2.2.2.2 (tb_in hcode) rfl hz.1 hz.2 (gf_w F hini) (gf_w F hl) hdd.2 hR, gf_w F hi, gf_w F hse⟩ ⟨gP_blind, va_recv F.2.1 h2 hcl he, gP_pre F h2 h3⟩ rfl hn h1.1 hst (lv_room hW) hd hf) (by rw [hst']; exact k)
theorem f_callVN (F : gf p s m args meth c nL D cl A cc (t0 :: tb) own tys) {y : MethodName} {bytes : ByteArray} {maxL n index : Nat} {host : String} {ret : Option FieldType} {rm : Room} {As rest : List Value} {rv : Option Value} {C : vw_C} {ci b q0 : Nat} {fs : List Value} (hM : gN l y (Cond.code y bytes maxL ret :: tb) rm D cl tys (.ref b :: As) ws rv ws') (he : ws[q0]? = some (b, .inr (ci, fs))) (hcl : cl[ci]? = some C) (hcode : Cond.code y bytes maxL ret ∈ tb) (hl : Cond.methodLinkNest own index y host ∈ nb) (hi : Cond.instanceMethod y ∈ tb) (hse : Cond.selects C.1 y y ∈ tb) (hini : Cond.initialized y.cls ∈ tb) (hdd : y.cls ≠ "java/lang/invoke/MethodHandle" ∧ y.cls ≠ "java/lang/invoke/VarHandle" ∧ (parseMethodDescriptor y.desc).map (fun d => d.parameters.length) = some n) (hz : rm.cells = 0 ∧ rm.slots = 0) (hR : rm.frames + 1 ≤ R.frames ∧ 8 + (maxL + 11) + rm.locals ≤ R.locals) (hadr : ws'.map Prod.fst = ws.map Prod.fst) (hn : As.length = n) (hst : st = As.reverse ++ .ref b :: rest) (hW : (rest.map fun v => v.category).sum ≤ 8) (hf : cells ≤ R.cells ∧ slots ≤ R.slots) (hd : decode cc pc = .ok (.invokevirtual index, 3)) {st' : List Value} (hst' : rv.toList ++ rest = st')
    (k : gw p l e R s m args below meth c nL D cl A Q cells slots (pc + 3) L st' ws') : gw p l e R s m args below meth c nL D cl A Q cells slots pc L st ws :=
  g_callA F (av := .ref b :: As) hadr (fun ls H locs h1 h2 h3 => va_runVN F.1 (hM H.size) ⟨va_cnB n F.1.2.2.2.2 (tb_in hcode) rfl hz.1 hz.2 (F.2.2.2 _ hl) (gf_w F hini) hdd hR, gf_w F hi, gf_w F hse⟩ ⟨gP_blind, va_recv F.2.1 h2 hcl he, gP_pre F h2 h3⟩ rfl hn h1.1 hst (lv_room hW) hd hf) (by rw [hst']; exact k)
theorem f_callSN (F : gf p s m args meth c nL D cl A cc (t0 :: tb) own tys) {y : MethodName} {bytes : ByteArray} {maxL n index : Nat} {host : String} {ret : Option FieldType} {rm : Room} {av rest : List Value} {rv : Option Value} (hM : gN l y (Cond.code y bytes maxL ret :: tb) rm D cl tys av ws rv ws') (hcode : Cond.code y bytes maxL ret ∈ tb) (hl : Cond.methodLinkNest own index y host ∈ nb) (hst0 : Cond.static y ∈ tb) (hini : Cond.initialized y.cls ∈ tb) (hdd : y.cls ≠ "java/lang/invoke/MethodHandle" ∧ y.cls ≠ "java/lang/invoke/VarHandle" ∧ (parseMethodDescriptor y.desc).map (fun d => d.parameters.length) = some n) (hz : rm.cells = 0 ∧ rm.slots = 0) (hR : rm.frames + 1 ≤ R.frames ∧ 8 + (maxL + 11) + rm.locals ≤ R.locals) (hadr : ws'.map Prod.fst = ws.map Prod.fst) (hn : av.length = n) (hst : st = av.reverse ++ rest) (hW : (rest.map fun v => v.category).sum ≤ 8) (hf : cells ≤ R.cells ∧ slots ≤ R.slots) (hd : decode cc pc = .ok (.invokestatic index, 3)) {st' : List Value} (hst' : rv.toList ++ rest = st')
    (k : gw p l e R s m args below meth c nL D cl A Q cells slots (pc + 3) L st' ws') : gw p l e R s m args below meth c nL D cl A Q cells slots pc L st ws :=
  g_callA F (av := av) hadr (fun ls H locs h1 h2 h3 => va_runSN F.1 (hM H.size) ⟨va_cnB n F.1.2.2.2.2 (tb_in hcode) rfl hz.1 hz.2 (F.2.2.2 _ hl) (gf_w F hini) hdd hR, gf_w F hst0, trivial⟩ ⟨gP_blind, gP_pre F h2 h3⟩ rfl hn h1.1 hst (lv_room hW) hd hf) (by rw [hst']; exact k)
end GN2
end
section
section WC
abbrev CS : Type := Nat → Nat → Nat → Nat
def su3 (c : CS) (k i j v : Nat) : CS := fun k' i' j' => if k' = k then (if i' = i then (if j' = j then v else c k' i' j') else c k' i' j') else c k' i' j'
abbrev tys3 (cI cS cZ : ClassId) : List (ClassId × FieldType) := [(cI, .int), (cS, .object "EpochTree$Server"), (cZ, .boolean)]
variable (cI cS cZ : ClassId) (c : CS) (ad : Nat → Nat)
def fSV (i : Nat) : List Value := [.int (Int32.ofNat (c 0 i 0)), .int (Int32.ofNat (c 1 i 0)), .int (Int32.ofNat (c 2 i 0)), .ref (ad (2 + 22 * i + 1)), .int (Int32.ofNat (c 3 i 0)), .int (Int32.ofNat (c 4 i 0)), .int (Int32.ofNat (c 5 i 0)), .ref (ad (2 + 22 * i + 12)), .ref (ad (2 + 22 * i + 2)), .ref (ad (2 + 22 * i + 3)), .ref (ad (2 + 22 * i + 4))]
def fEL (i : Nat) : List Value := [.ref (ad (2 + 22 * i + 7)), .ref (ad (2 + 22 * i + 8)), .ref (ad (2 + 22 * i + 9)), .ref (ad (2 + 22 * i + 10)), .ref (ad (2 + 22 * i + 11)), .int (Int32.ofNat (c 6 i 0))]
def fTR (i : Nat) : List Value := [.ref (ad (2 + 22 * i + 13)), .ref (ad (2 + 22 * i + 14)), .ref (ad (2 + 22 * i + 15)), .ref (ad (2 + 22 * i + 16)), .int (Int32.ofNat (c 7 i 0)), .int (Int32.ofNat (c 8 i 0))]
def fLK (i : Nat) : List Value := [.ref (ad (2 + 22 * i + 5)), .ref (ad (2 + 22 * i + 6)), .int (Int32.ofNat (c 9 i 0)), .int (Int32.ofNat (c 10 i 0)), .int (Int32.ofNat (c 11 i 0))]
def fTM (i : Nat) : List Value := [.int (Int32.ofNat (c 16 i 0)), .int (Int32.ofNat (c 17 i 0)), .int (Int32.ofNat (c 18 i 0)), .ref (ad (2 + 22 * i + 21))]
def fRU (i : Nat) : List Value := [.ref (ad (2 + 22 * i + 17)), .ref (ad (2 + 22 * i + 18)), .int (Int32.ofNat (c 12 i 0)), .int (Int32.ofNat (c 13 i 0))]
def fRD (i : Nat) : List Value := [.ref (ad (2 + 22 * i + 19)), .ref (ad (2 + 22 * i + 20)), .int (Int32.ofNat (c 14 i 0)), .int (Int32.ofNat (c 15 i 0))]
def svw (i : Nat) : va_W := [(ad (2 + 22 * i), .inr (3, fSV c ad i)), (ad (2 + 22 * i + 1), .inr (0, fEL c ad i)), (ad (2 + 22 * i + 2), .inr (5, fTR c ad i)), (ad (2 + 22 * i + 3), .inr (1, fLK c ad i)), (ad (2 + 22 * i + 4), .inr (4, fTM c ad i)), (ad (2 + 22 * i + 5), .inr (2, fRU c ad i)), (ad (2 + 22 * i + 6), .inr (2, fRD c ad i)), (ad (2 + 22 * i + 7), .inl (cI, 24, .inl (fun t => Int32.ofNat (c 20 i t)))), (ad (2 + 22 * i + 8), .inl (cI, 24, .inl (fun t => Int32.ofNat (c 21 i t)))), (ad (2 + 22 * i + 9), .inl (cI, 24, .inl (fun t => Int32.ofNat (c 22 i t)))), (ad (2 + 22 * i + 10), .inl (cI, 24, .inl (fun t => Int32.ofNat (c 23 i t)))), (ad (2 + 22 * i + 11), .inl (cI, 24, .inl (fun t => Int32.ofNat (c 24 i t)))), (ad (2 + 22 * i + 12), .inl (cI, 24, .inl (fun t => Int32.ofNat (c 25 i t)))), (ad (2 + 22 * i + 13), .inl (cI, 24, .inl (fun t => Int32.ofNat (c 26 i t)))), (ad (2 + 22 * i + 14), .inl (cI, 24, .inl (fun t => Int32.ofNat (c 27 i t)))), (ad (2 + 22 * i + 15), .inl (cI, 24, .inl (fun t => Int32.ofNat (c 28 i t)))), (ad (2 + 22 * i + 16), .inl (cI, 24, .inl (fun t => Int32.ofNat (c 29 i t)))), (ad (2 + 22 * i + 17), .inl (cI, 27, .inl (fun t => Int32.ofNat (c 30 i t)))), (ad (2 + 22 * i + 18), .inl (cI, 27, .inl (fun t => Int32.ofNat (c 31 i t)))), (ad (2 + 22 * i + 19), .inl (cI, 51, .inl (fun t => Int32.ofNat (c 32 i t)))), (ad (2 + 22 * i + 20), .inl (cI, 51, .inl (fun t => Int32.ofNat (c 33 i t)))), (ad (2 + 22 * i + 21), .inl (cI, 5, .inl (fun t => Int32.ofNat (c 34 i t))))]
def srvs (ad : Nat → Nat) : Nat → Option Nat := va_up (va_up (va_up (fun _ => none) 0 (some (ad 2))) 1 (some (ad 24))) 2 (some (ad 46))
def cwld : va_W := (ad 0, .inr (6, [.ref (ad 1)])) :: (ad 1, .inl (cS, 3, .inr (.inr (.inr (.inr (srvs ad)))))) :: (svw cI c ad 0 ++ (svw cI c ad 1 ++ svw cI c ad 2))
variable {cI cS cZ : ClassId} {c : CS} {ad : Nat → Nat} {i : Nat}
theorem cw_adr {c c' : CS} : (cwld cI cS c' ad).map Prod.fst = (cwld cI cS c ad).map Prod.fst := rfl
theorem srvs_at (hi : i < 3) : srvs ad i = some (ad (2 + 22 * i)) := by
  match i, hi with
  | 0, _ => rfl
  | 1, _ => rfl
  | 2, _ => rfl
theorem pl_ET : (cwld cI cS c ad)[0]? = some (ad 0, .inr (6, [.ref (ad 1)])) := rfl
theorem pl_AS : (cwld cI cS c ad)[1]? = some (ad 1, .inl (cS, 3, .inr (.inr (.inr (.inr (srvs ad)))))) := rfl
theorem pl_SV (hi : i < 3) : (cwld cI cS c ad)[2 + 22 * i]? = some (ad (2 + 22 * i), .inr (3, fSV c ad i)) := by
  match i, hi with
  | 0, _ => rfl
  | 1, _ => rfl
  | 2, _ => rfl
theorem ps_0 (hi : i < 3) {v : Nat} : (cwld cI cS c ad).set (2 + 22 * i) (ad (2 + 22 * i), .inr (3, (fSV c ad i).set 0 (.int (Int32.ofNat v)))) = cwld cI cS (su3 c 0 i 0 v) ad := by
  match i, hi with
  | 0, _ => rfl
  | 1, _ => rfl
  | 2, _ => rfl
theorem ps_1 (hi : i < 3) {v : Nat} : (cwld cI cS c ad).set (2 + 22 * i) (ad (2 + 22 * i), .inr (3, (fSV c ad i).set 1 (.int (Int32.ofNat v)))) = cwld cI cS (su3 c 1 i 0 v) ad := by
  match i, hi with
  | 0, _ => rfl
  | 1, _ => rfl
  | 2, _ => rfl
theorem ps_2 (hi : i < 3) {v : Nat} : (cwld cI cS c ad).set (2 + 22 * i) (ad (2 + 22 * i), .inr (3, (fSV c ad i).set 2 (.int (Int32.ofNat v)))) = cwld cI cS (su3 c 2 i 0 v) ad := by
  match i, hi with
  | 0, _ => rfl
  | 1, _ => rfl
  | 2, _ => rfl
theorem ps_3 (hi : i < 3) {v : Nat} : (cwld cI cS c ad).set (2 + 22 * i) (ad (2 + 22 * i), .inr (3, (fSV c ad i).set 4 (.int (Int32.ofNat v)))) = cwld cI cS (su3 c 3 i 0 v) ad := by
  match i, hi with
  | 0, _ => rfl
  | 1, _ => rfl
  | 2, _ => rfl
theorem ps_4 (hi : i < 3) {v : Nat} : (cwld cI cS c ad).set (2 + 22 * i) (ad (2 + 22 * i), .inr (3, (fSV c ad i).set 5 (.int (Int32.ofNat v)))) = cwld cI cS (su3 c 4 i 0 v) ad := by
  match i, hi with
  | 0, _ => rfl
  | 1, _ => rfl
  | 2, _ => rfl
theorem ps_5 (hi : i < 3) {v : Nat} : (cwld cI cS c ad).set (2 + 22 * i) (ad (2 + 22 * i), .inr (3, (fSV c ad i).set 6 (.int (Int32.ofNat v)))) = cwld cI cS (su3 c 5 i 0 v) ad := by
  match i, hi with
  | 0, _ => rfl
  | 1, _ => rfl
  | 2, _ => rfl
theorem pl_EL (hi : i < 3) : (cwld cI cS c ad)[2 + 22 * i + 1]? = some (ad (2 + 22 * i + 1), .inr (0, fEL c ad i)) := by
  match i, hi with
  | 0, _ => rfl
  | 1, _ => rfl
  | 2, _ => rfl
theorem ps_6 (hi : i < 3) {v : Nat} : (cwld cI cS c ad).set (2 + 22 * i + 1) (ad (2 + 22 * i + 1), .inr (0, (fEL c ad i).set 5 (.int (Int32.ofNat v)))) = cwld cI cS (su3 c 6 i 0 v) ad := by
  match i, hi with
  | 0, _ => rfl
  | 1, _ => rfl
  | 2, _ => rfl
theorem pl_TR (hi : i < 3) : (cwld cI cS c ad)[2 + 22 * i + 2]? = some (ad (2 + 22 * i + 2), .inr (5, fTR c ad i)) := by
  match i, hi with
  | 0, _ => rfl
  | 1, _ => rfl
  | 2, _ => rfl
theorem ps_7 (hi : i < 3) {v : Nat} : (cwld cI cS c ad).set (2 + 22 * i + 2) (ad (2 + 22 * i + 2), .inr (5, (fTR c ad i).set 4 (.int (Int32.ofNat v)))) = cwld cI cS (su3 c 7 i 0 v) ad := by
  match i, hi with
  | 0, _ => rfl
  | 1, _ => rfl
  | 2, _ => rfl
theorem ps_8 (hi : i < 3) {v : Nat} : (cwld cI cS c ad).set (2 + 22 * i + 2) (ad (2 + 22 * i + 2), .inr (5, (fTR c ad i).set 5 (.int (Int32.ofNat v)))) = cwld cI cS (su3 c 8 i 0 v) ad := by
  match i, hi with
  | 0, _ => rfl
  | 1, _ => rfl
  | 2, _ => rfl
theorem pl_LK (hi : i < 3) : (cwld cI cS c ad)[2 + 22 * i + 3]? = some (ad (2 + 22 * i + 3), .inr (1, fLK c ad i)) := by
  match i, hi with
  | 0, _ => rfl
  | 1, _ => rfl
  | 2, _ => rfl
theorem ps_9 (hi : i < 3) {v : Nat} : (cwld cI cS c ad).set (2 + 22 * i + 3) (ad (2 + 22 * i + 3), .inr (1, (fLK c ad i).set 2 (.int (Int32.ofNat v)))) = cwld cI cS (su3 c 9 i 0 v) ad := by
  match i, hi with
  | 0, _ => rfl
  | 1, _ => rfl
  | 2, _ => rfl
theorem ps_10 (hi : i < 3) {v : Nat} : (cwld cI cS c ad).set (2 + 22 * i + 3) (ad (2 + 22 * i + 3), .inr (1, (fLK c ad i).set 3 (.int (Int32.ofNat v)))) = cwld cI cS (su3 c 10 i 0 v) ad := by
  match i, hi with
  | 0, _ => rfl
  | 1, _ => rfl
  | 2, _ => rfl
theorem ps_11 (hi : i < 3) {v : Nat} : (cwld cI cS c ad).set (2 + 22 * i + 3) (ad (2 + 22 * i + 3), .inr (1, (fLK c ad i).set 4 (.int (Int32.ofNat v)))) = cwld cI cS (su3 c 11 i 0 v) ad := by
  match i, hi with
  | 0, _ => rfl
  | 1, _ => rfl
  | 2, _ => rfl
theorem pl_TM (hi : i < 3) : (cwld cI cS c ad)[2 + 22 * i + 4]? = some (ad (2 + 22 * i + 4), .inr (4, fTM c ad i)) := by
  match i, hi with
  | 0, _ => rfl
  | 1, _ => rfl
  | 2, _ => rfl
theorem ps_16 (hi : i < 3) {v : Nat} : (cwld cI cS c ad).set (2 + 22 * i + 4) (ad (2 + 22 * i + 4), .inr (4, (fTM c ad i).set 0 (.int (Int32.ofNat v)))) = cwld cI cS (su3 c 16 i 0 v) ad := by
  match i, hi with
  | 0, _ => rfl
  | 1, _ => rfl
  | 2, _ => rfl
theorem ps_17 (hi : i < 3) {v : Nat} : (cwld cI cS c ad).set (2 + 22 * i + 4) (ad (2 + 22 * i + 4), .inr (4, (fTM c ad i).set 1 (.int (Int32.ofNat v)))) = cwld cI cS (su3 c 17 i 0 v) ad := by
  match i, hi with
  | 0, _ => rfl
  | 1, _ => rfl
  | 2, _ => rfl
theorem ps_18 (hi : i < 3) {v : Nat} : (cwld cI cS c ad).set (2 + 22 * i + 4) (ad (2 + 22 * i + 4), .inr (4, (fTM c ad i).set 2 (.int (Int32.ofNat v)))) = cwld cI cS (su3 c 18 i 0 v) ad := by
  match i, hi with
  | 0, _ => rfl
  | 1, _ => rfl
  | 2, _ => rfl
theorem pl_RU (hi : i < 3) : (cwld cI cS c ad)[2 + 22 * i + 5]? = some (ad (2 + 22 * i + 5), .inr (2, fRU c ad i)) := by
  match i, hi with
  | 0, _ => rfl
  | 1, _ => rfl
  | 2, _ => rfl
theorem ps_12 (hi : i < 3) {v : Nat} : (cwld cI cS c ad).set (2 + 22 * i + 5) (ad (2 + 22 * i + 5), .inr (2, (fRU c ad i).set 2 (.int (Int32.ofNat v)))) = cwld cI cS (su3 c 12 i 0 v) ad := by
  match i, hi with
  | 0, _ => rfl
  | 1, _ => rfl
  | 2, _ => rfl
theorem ps_13 (hi : i < 3) {v : Nat} : (cwld cI cS c ad).set (2 + 22 * i + 5) (ad (2 + 22 * i + 5), .inr (2, (fRU c ad i).set 3 (.int (Int32.ofNat v)))) = cwld cI cS (su3 c 13 i 0 v) ad := by
  match i, hi with
  | 0, _ => rfl
  | 1, _ => rfl
  | 2, _ => rfl
theorem pl_RD (hi : i < 3) : (cwld cI cS c ad)[2 + 22 * i + 6]? = some (ad (2 + 22 * i + 6), .inr (2, fRD c ad i)) := by
  match i, hi with
  | 0, _ => rfl
  | 1, _ => rfl
  | 2, _ => rfl
theorem ps_14 (hi : i < 3) {v : Nat} : (cwld cI cS c ad).set (2 + 22 * i + 6) (ad (2 + 22 * i + 6), .inr (2, (fRD c ad i).set 2 (.int (Int32.ofNat v)))) = cwld cI cS (su3 c 14 i 0 v) ad := by
  match i, hi with
  | 0, _ => rfl
  | 1, _ => rfl
  | 2, _ => rfl
theorem ps_15 (hi : i < 3) {v : Nat} : (cwld cI cS c ad).set (2 + 22 * i + 6) (ad (2 + 22 * i + 6), .inr (2, (fRD c ad i).set 3 (.int (Int32.ofNat v)))) = cwld cI cS (su3 c 15 i 0 v) ad := by
  match i, hi with
  | 0, _ => rfl
  | 1, _ => rfl
  | 2, _ => rfl
theorem pl_20 (hi : i < 3) : (cwld cI cS c ad)[2 + 22 * i + 7]? = some (ad (2 + 22 * i + 7), .inl (cI, 24, .inl (fun t => Int32.ofNat (c 20 i t)))) := by
  match i, hi with
  | 0, _ => rfl
  | 1, _ => rfl
  | 2, _ => rfl
theorem ps_20 (hi : i < 3) {j v : Nat} : (cwld cI cS c ad).set (2 + 22 * i + 7) (ad (2 + 22 * i + 7), .inl (cI, 24, .inl (fun t => Int32.ofNat (if t = j then v else c 20 i t)))) = cwld cI cS (su3 c 20 i j v) ad := by
  match i, hi with
  | 0, _ => rfl
  | 1, _ => rfl
  | 2, _ => rfl
theorem pl_21 (hi : i < 3) : (cwld cI cS c ad)[2 + 22 * i + 8]? = some (ad (2 + 22 * i + 8), .inl (cI, 24, .inl (fun t => Int32.ofNat (c 21 i t)))) := by
  match i, hi with
  | 0, _ => rfl
  | 1, _ => rfl
  | 2, _ => rfl
theorem ps_21 (hi : i < 3) {j v : Nat} : (cwld cI cS c ad).set (2 + 22 * i + 8) (ad (2 + 22 * i + 8), .inl (cI, 24, .inl (fun t => Int32.ofNat (if t = j then v else c 21 i t)))) = cwld cI cS (su3 c 21 i j v) ad := by
  match i, hi with
  | 0, _ => rfl
  | 1, _ => rfl
  | 2, _ => rfl
theorem pl_22 (hi : i < 3) : (cwld cI cS c ad)[2 + 22 * i + 9]? = some (ad (2 + 22 * i + 9), .inl (cI, 24, .inl (fun t => Int32.ofNat (c 22 i t)))) := by
  match i, hi with
  | 0, _ => rfl
  | 1, _ => rfl
  | 2, _ => rfl
theorem ps_22 (hi : i < 3) {j v : Nat} : (cwld cI cS c ad).set (2 + 22 * i + 9) (ad (2 + 22 * i + 9), .inl (cI, 24, .inl (fun t => Int32.ofNat (if t = j then v else c 22 i t)))) = cwld cI cS (su3 c 22 i j v) ad := by
  match i, hi with
  | 0, _ => rfl
  | 1, _ => rfl
  | 2, _ => rfl
theorem pl_23 (hi : i < 3) : (cwld cI cS c ad)[2 + 22 * i + 10]? = some (ad (2 + 22 * i + 10), .inl (cI, 24, .inl (fun t => Int32.ofNat (c 23 i t)))) := by
  match i, hi with
  | 0, _ => rfl
  | 1, _ => rfl
  | 2, _ => rfl
theorem ps_23 (hi : i < 3) {j v : Nat} : (cwld cI cS c ad).set (2 + 22 * i + 10) (ad (2 + 22 * i + 10), .inl (cI, 24, .inl (fun t => Int32.ofNat (if t = j then v else c 23 i t)))) = cwld cI cS (su3 c 23 i j v) ad := by
  match i, hi with
  | 0, _ => rfl
  | 1, _ => rfl
  | 2, _ => rfl
theorem pl_24 (hi : i < 3) : (cwld cI cS c ad)[2 + 22 * i + 11]? = some (ad (2 + 22 * i + 11), .inl (cI, 24, .inl (fun t => Int32.ofNat (c 24 i t)))) := by
  match i, hi with
  | 0, _ => rfl
  | 1, _ => rfl
  | 2, _ => rfl
theorem ps_24 (hi : i < 3) {j v : Nat} : (cwld cI cS c ad).set (2 + 22 * i + 11) (ad (2 + 22 * i + 11), .inl (cI, 24, .inl (fun t => Int32.ofNat (if t = j then v else c 24 i t)))) = cwld cI cS (su3 c 24 i j v) ad := by
  match i, hi with
  | 0, _ => rfl
  | 1, _ => rfl
  | 2, _ => rfl
theorem pl_25 (hi : i < 3) : (cwld cI cS c ad)[2 + 22 * i + 12]? = some (ad (2 + 22 * i + 12), .inl (cI, 24, .inl (fun t => Int32.ofNat (c 25 i t)))) := by
  match i, hi with
  | 0, _ => rfl
  | 1, _ => rfl
  | 2, _ => rfl
theorem ps_25 (hi : i < 3) {j v : Nat} : (cwld cI cS c ad).set (2 + 22 * i + 12) (ad (2 + 22 * i + 12), .inl (cI, 24, .inl (fun t => Int32.ofNat (if t = j then v else c 25 i t)))) = cwld cI cS (su3 c 25 i j v) ad := by
  match i, hi with
  | 0, _ => rfl
  | 1, _ => rfl
  | 2, _ => rfl
theorem pl_26 (hi : i < 3) : (cwld cI cS c ad)[2 + 22 * i + 13]? = some (ad (2 + 22 * i + 13), .inl (cI, 24, .inl (fun t => Int32.ofNat (c 26 i t)))) := by
  match i, hi with
  | 0, _ => rfl
  | 1, _ => rfl
  | 2, _ => rfl
theorem ps_26 (hi : i < 3) {j v : Nat} : (cwld cI cS c ad).set (2 + 22 * i + 13) (ad (2 + 22 * i + 13), .inl (cI, 24, .inl (fun t => Int32.ofNat (if t = j then v else c 26 i t)))) = cwld cI cS (su3 c 26 i j v) ad := by
  match i, hi with
  | 0, _ => rfl
  | 1, _ => rfl
  | 2, _ => rfl
theorem pl_27 (hi : i < 3) : (cwld cI cS c ad)[2 + 22 * i + 14]? = some (ad (2 + 22 * i + 14), .inl (cI, 24, .inl (fun t => Int32.ofNat (c 27 i t)))) := by
  match i, hi with
  | 0, _ => rfl
  | 1, _ => rfl
  | 2, _ => rfl
theorem ps_27 (hi : i < 3) {j v : Nat} : (cwld cI cS c ad).set (2 + 22 * i + 14) (ad (2 + 22 * i + 14), .inl (cI, 24, .inl (fun t => Int32.ofNat (if t = j then v else c 27 i t)))) = cwld cI cS (su3 c 27 i j v) ad := by
  match i, hi with
  | 0, _ => rfl
  | 1, _ => rfl
  | 2, _ => rfl
theorem pl_28 (hi : i < 3) : (cwld cI cS c ad)[2 + 22 * i + 15]? = some (ad (2 + 22 * i + 15), .inl (cI, 24, .inl (fun t => Int32.ofNat (c 28 i t)))) := by
  match i, hi with
  | 0, _ => rfl
  | 1, _ => rfl
  | 2, _ => rfl
theorem ps_28 (hi : i < 3) {j v : Nat} : (cwld cI cS c ad).set (2 + 22 * i + 15) (ad (2 + 22 * i + 15), .inl (cI, 24, .inl (fun t => Int32.ofNat (if t = j then v else c 28 i t)))) = cwld cI cS (su3 c 28 i j v) ad := by
  match i, hi with
  | 0, _ => rfl
  | 1, _ => rfl
  | 2, _ => rfl
theorem pl_29 (hi : i < 3) : (cwld cI cS c ad)[2 + 22 * i + 16]? = some (ad (2 + 22 * i + 16), .inl (cI, 24, .inl (fun t => Int32.ofNat (c 29 i t)))) := by
  match i, hi with
  | 0, _ => rfl
  | 1, _ => rfl
  | 2, _ => rfl
theorem ps_29 (hi : i < 3) {j v : Nat} : (cwld cI cS c ad).set (2 + 22 * i + 16) (ad (2 + 22 * i + 16), .inl (cI, 24, .inl (fun t => Int32.ofNat (if t = j then v else c 29 i t)))) = cwld cI cS (su3 c 29 i j v) ad := by
  match i, hi with
  | 0, _ => rfl
  | 1, _ => rfl
  | 2, _ => rfl
theorem pl_30 (hi : i < 3) : (cwld cI cS c ad)[2 + 22 * i + 17]? = some (ad (2 + 22 * i + 17), .inl (cI, 27, .inl (fun t => Int32.ofNat (c 30 i t)))) := by
  match i, hi with
  | 0, _ => rfl
  | 1, _ => rfl
  | 2, _ => rfl
theorem ps_30 (hi : i < 3) {j v : Nat} : (cwld cI cS c ad).set (2 + 22 * i + 17) (ad (2 + 22 * i + 17), .inl (cI, 27, .inl (fun t => Int32.ofNat (if t = j then v else c 30 i t)))) = cwld cI cS (su3 c 30 i j v) ad := by
  match i, hi with
  | 0, _ => rfl
  | 1, _ => rfl
  | 2, _ => rfl
theorem pl_31 (hi : i < 3) : (cwld cI cS c ad)[2 + 22 * i + 18]? = some (ad (2 + 22 * i + 18), .inl (cI, 27, .inl (fun t => Int32.ofNat (c 31 i t)))) := by
  match i, hi with
  | 0, _ => rfl
  | 1, _ => rfl
  | 2, _ => rfl
theorem ps_31 (hi : i < 3) {j v : Nat} : (cwld cI cS c ad).set (2 + 22 * i + 18) (ad (2 + 22 * i + 18), .inl (cI, 27, .inl (fun t => Int32.ofNat (if t = j then v else c 31 i t)))) = cwld cI cS (su3 c 31 i j v) ad := by
  match i, hi with
  | 0, _ => rfl
  | 1, _ => rfl
  | 2, _ => rfl
theorem pl_32 (hi : i < 3) : (cwld cI cS c ad)[2 + 22 * i + 19]? = some (ad (2 + 22 * i + 19), .inl (cI, 51, .inl (fun t => Int32.ofNat (c 32 i t)))) := by
  match i, hi with
  | 0, _ => rfl
  | 1, _ => rfl
  | 2, _ => rfl
theorem ps_32 (hi : i < 3) {j v : Nat} : (cwld cI cS c ad).set (2 + 22 * i + 19) (ad (2 + 22 * i + 19), .inl (cI, 51, .inl (fun t => Int32.ofNat (if t = j then v else c 32 i t)))) = cwld cI cS (su3 c 32 i j v) ad := by
  match i, hi with
  | 0, _ => rfl
  | 1, _ => rfl
  | 2, _ => rfl
theorem pl_33 (hi : i < 3) : (cwld cI cS c ad)[2 + 22 * i + 20]? = some (ad (2 + 22 * i + 20), .inl (cI, 51, .inl (fun t => Int32.ofNat (c 33 i t)))) := by
  match i, hi with
  | 0, _ => rfl
  | 1, _ => rfl
  | 2, _ => rfl
theorem ps_33 (hi : i < 3) {j v : Nat} : (cwld cI cS c ad).set (2 + 22 * i + 20) (ad (2 + 22 * i + 20), .inl (cI, 51, .inl (fun t => Int32.ofNat (if t = j then v else c 33 i t)))) = cwld cI cS (su3 c 33 i j v) ad := by
  match i, hi with
  | 0, _ => rfl
  | 1, _ => rfl
  | 2, _ => rfl
theorem pl_34 (hi : i < 3) : (cwld cI cS c ad)[2 + 22 * i + 21]? = some (ad (2 + 22 * i + 21), .inl (cI, 5, .inl (fun t => Int32.ofNat (c 34 i t)))) := by
  match i, hi with
  | 0, _ => rfl
  | 1, _ => rfl
  | 2, _ => rfl
theorem ps_34 (hi : i < 3) {j v : Nat} : (cwld cI cS c ad).set (2 + 22 * i + 21) (ad (2 + 22 * i + 21), .inl (cI, 5, .inl (fun t => Int32.ofNat (if t = j then v else c 34 i t)))) = cwld cI cS (su3 c 34 i j v) ad := by
  match i, hi with
  | 0, _ => rfl
  | 1, _ => rfl
  | 2, _ => rfl
end WC
end
section
section WR
abbrev RS : Type := Nat → Nat → Nat
def su2 (a : RS) (k j v : Nat) : RS := fun k' j' => if k' = k then (if j' = j then v else a k' j') else a k' j'
variable (cI cZ : ClassId) (a : RS) (ad : Nat → Nat)
def fRM : List Value := [.ref (ad 1), .ref (ad 2), .ref (ad 3), .ref (ad 4), .ref (ad 5), .ref (ad 6), .ref (ad 7), .ref (ad 8), .ref (ad 9), .ref (ad 10), .ref (ad 11), .ref (ad 12), .ref (ad 13), .ref (ad 14), .ref (ad 15), .ref (ad 16), .ref (ad 17), .ref (ad 18), .ref (ad 19), .ref (ad 20), .ref (ad 21), .ref (ad 22), .ref (ad 23), .ref (ad 24), .ref (ad 25), .ref (ad 26), .int (Int32.ofNat (a 32 0)), .ref (ad 27), .ref (ad 28), .ref (ad 29), .ref (ad 30), .ref (ad 31), .ref (ad 32)]
def rwld : va_W := [(ad 0, .inr (7, fRM a ad)), (ad 1, .inl (cI, 3, .inl (fun t => Int32.ofNat (a 0 t)))), (ad 2, .inl (cI, 3, .inl (fun t => Int32.ofNat (a 1 t)))), (ad 3, .inl (cI, 3, .inl (fun t => Int32.ofNat (a 2 t)))), (ad 4, .inl (cI, 3, .inl (fun t => Int32.ofNat (a 3 t)))), (ad 5, .inl (cI, 3, .inl (fun t => Int32.ofNat (a 4 t)))), (ad 6, .inl (cI, 72, .inl (fun t => Int32.ofNat (a 5 t)))), (ad 7, .inl (cI, 72, .inl (fun t => Int32.ofNat (a 6 t)))), (ad 8, .inl (cI, 72, .inl (fun t => Int32.ofNat (a 7 t)))), (ad 9, .inl (cI, 72, .inl (fun t => Int32.ofNat (a 8 t)))), (ad 10, .inl (cI, 72, .inl (fun t => Int32.ofNat (a 9 t)))), (ad 11, .inl (cI, 3, .inl (fun t => Int32.ofNat (a 10 t)))), (ad 12, .inl (cZ, 3, .inl (fun t => Int32.ofNat (a 11 t)))), (ad 13, .inl (cI, 3, .inl (fun t => Int32.ofNat (a 12 t)))), (ad 14, .inl (cI, 15, .inl (fun t => Int32.ofNat (a 13 t)))), (ad 15, .inl (cI, 3, .inl (fun t => Int32.ofNat (a 14 t)))), (ad 16, .inl (cZ, 3, .inl (fun t => Int32.ofNat (a 15 t)))), (ad 17, .inl (cZ, 3, .inl (fun t => Int32.ofNat (a 16 t)))), (ad 18, .inl (cZ, 3, .inl (fun t => Int32.ofNat (a 17 t)))), (ad 19, .inl (cI, 192, .inl (fun t => Int32.ofNat (a 18 t)))), (ad 20, .inl (cI, 192, .inl (fun t => Int32.ofNat (a 19 t)))), (ad 21, .inl (cI, 3, .inl (fun t => Int32.ofNat (a 20 t)))), (ad 22, .inl (cI, 3, .inl (fun t => Int32.ofNat (a 21 t)))), (ad 23, .inl (cI, 192, .inl (fun t => Int32.ofNat (a 22 t)))), (ad 24, .inl (cI, 192, .inl (fun t => Int32.ofNat (a 23 t)))), (ad 25, .inl (cI, 3, .inl (fun t => Int32.ofNat (a 24 t)))), (ad 26, .inl (cI, 3, .inl (fun t => Int32.ofNat (a 25 t)))), (ad 27, .inl (cI, 24, .inl (fun t => Int32.ofNat (a 26 t)))), (ad 28, .inl (cI, 24, .inl (fun t => Int32.ofNat (a 27 t)))), (ad 29, .inl (cI, 24, .inl (fun t => Int32.ofNat (a 28 t)))), (ad 30, .inl (cI, 24, .inl (fun t => Int32.ofNat (a 29 t)))), (ad 31, .inl (cZ, 5, .inl (fun t => Int32.ofNat (a 30 t)))), (ad 32, .inl (cI, 24, .inl (fun t => Int32.ofNat (a 31 t))))]
variable {cI cZ : ClassId} {a : RS} {ad : Nat → Nat}
theorem rw_adr {a a' : RS} : (rwld cI cZ a' ad).map Prod.fst = (rwld cI cZ a ad).map Prod.fst := rfl
theorem ql_RM : (rwld cI cZ a ad)[0]? = some (ad 0, .inr (7, fRM a ad)) := rfl
theorem qs_32 {v : Nat} : (rwld cI cZ a ad).set 0 (ad 0, .inr (7, (fRM a ad).set 26 (.int (Int32.ofNat v)))) = rwld cI cZ (su2 a 32 0 v) ad := rfl
theorem ql_0 : (rwld cI cZ a ad)[1]? = some (ad 1, .inl (cI, 3, .inl (fun t => Int32.ofNat (a 0 t)))) := rfl
theorem qs_0 {j v : Nat} : (rwld cI cZ a ad).set 1 (ad 1, .inl (cI, 3, .inl (fun t => Int32.ofNat (if t = j then v else a 0 t)))) = rwld cI cZ (su2 a 0 j v) ad := rfl
theorem ql_1 : (rwld cI cZ a ad)[2]? = some (ad 2, .inl (cI, 3, .inl (fun t => Int32.ofNat (a 1 t)))) := rfl
theorem qs_1 {j v : Nat} : (rwld cI cZ a ad).set 2 (ad 2, .inl (cI, 3, .inl (fun t => Int32.ofNat (if t = j then v else a 1 t)))) = rwld cI cZ (su2 a 1 j v) ad := rfl
theorem ql_2 : (rwld cI cZ a ad)[3]? = some (ad 3, .inl (cI, 3, .inl (fun t => Int32.ofNat (a 2 t)))) := rfl
theorem qs_2 {j v : Nat} : (rwld cI cZ a ad).set 3 (ad 3, .inl (cI, 3, .inl (fun t => Int32.ofNat (if t = j then v else a 2 t)))) = rwld cI cZ (su2 a 2 j v) ad := rfl
theorem ql_3 : (rwld cI cZ a ad)[4]? = some (ad 4, .inl (cI, 3, .inl (fun t => Int32.ofNat (a 3 t)))) := rfl
theorem qs_3 {j v : Nat} : (rwld cI cZ a ad).set 4 (ad 4, .inl (cI, 3, .inl (fun t => Int32.ofNat (if t = j then v else a 3 t)))) = rwld cI cZ (su2 a 3 j v) ad := rfl
theorem ql_4 : (rwld cI cZ a ad)[5]? = some (ad 5, .inl (cI, 3, .inl (fun t => Int32.ofNat (a 4 t)))) := rfl
theorem qs_4 {j v : Nat} : (rwld cI cZ a ad).set 5 (ad 5, .inl (cI, 3, .inl (fun t => Int32.ofNat (if t = j then v else a 4 t)))) = rwld cI cZ (su2 a 4 j v) ad := rfl
theorem ql_5 : (rwld cI cZ a ad)[6]? = some (ad 6, .inl (cI, 72, .inl (fun t => Int32.ofNat (a 5 t)))) := rfl
theorem qs_5 {j v : Nat} : (rwld cI cZ a ad).set 6 (ad 6, .inl (cI, 72, .inl (fun t => Int32.ofNat (if t = j then v else a 5 t)))) = rwld cI cZ (su2 a 5 j v) ad := rfl
theorem ql_6 : (rwld cI cZ a ad)[7]? = some (ad 7, .inl (cI, 72, .inl (fun t => Int32.ofNat (a 6 t)))) := rfl
theorem qs_6 {j v : Nat} : (rwld cI cZ a ad).set 7 (ad 7, .inl (cI, 72, .inl (fun t => Int32.ofNat (if t = j then v else a 6 t)))) = rwld cI cZ (su2 a 6 j v) ad := rfl
theorem ql_7 : (rwld cI cZ a ad)[8]? = some (ad 8, .inl (cI, 72, .inl (fun t => Int32.ofNat (a 7 t)))) := rfl
theorem qs_7 {j v : Nat} : (rwld cI cZ a ad).set 8 (ad 8, .inl (cI, 72, .inl (fun t => Int32.ofNat (if t = j then v else a 7 t)))) = rwld cI cZ (su2 a 7 j v) ad := rfl
theorem ql_8 : (rwld cI cZ a ad)[9]? = some (ad 9, .inl (cI, 72, .inl (fun t => Int32.ofNat (a 8 t)))) := rfl
theorem qs_8 {j v : Nat} : (rwld cI cZ a ad).set 9 (ad 9, .inl (cI, 72, .inl (fun t => Int32.ofNat (if t = j then v else a 8 t)))) = rwld cI cZ (su2 a 8 j v) ad := rfl
theorem ql_9 : (rwld cI cZ a ad)[10]? = some (ad 10, .inl (cI, 72, .inl (fun t => Int32.ofNat (a 9 t)))) := rfl
theorem qs_9 {j v : Nat} : (rwld cI cZ a ad).set 10 (ad 10, .inl (cI, 72, .inl (fun t => Int32.ofNat (if t = j then v else a 9 t)))) = rwld cI cZ (su2 a 9 j v) ad := rfl
theorem ql_10 : (rwld cI cZ a ad)[11]? = some (ad 11, .inl (cI, 3, .inl (fun t => Int32.ofNat (a 10 t)))) := rfl
theorem qs_10 {j v : Nat} : (rwld cI cZ a ad).set 11 (ad 11, .inl (cI, 3, .inl (fun t => Int32.ofNat (if t = j then v else a 10 t)))) = rwld cI cZ (su2 a 10 j v) ad := rfl
theorem ql_11 : (rwld cI cZ a ad)[12]? = some (ad 12, .inl (cZ, 3, .inl (fun t => Int32.ofNat (a 11 t)))) := rfl
theorem qs_11 {j v : Nat} : (rwld cI cZ a ad).set 12 (ad 12, .inl (cZ, 3, .inl (fun t => Int32.ofNat (if t = j then v else a 11 t)))) = rwld cI cZ (su2 a 11 j v) ad := rfl
theorem ql_12 : (rwld cI cZ a ad)[13]? = some (ad 13, .inl (cI, 3, .inl (fun t => Int32.ofNat (a 12 t)))) := rfl
theorem qs_12 {j v : Nat} : (rwld cI cZ a ad).set 13 (ad 13, .inl (cI, 3, .inl (fun t => Int32.ofNat (if t = j then v else a 12 t)))) = rwld cI cZ (su2 a 12 j v) ad := rfl
theorem ql_13 : (rwld cI cZ a ad)[14]? = some (ad 14, .inl (cI, 15, .inl (fun t => Int32.ofNat (a 13 t)))) := rfl
theorem qs_13 {j v : Nat} : (rwld cI cZ a ad).set 14 (ad 14, .inl (cI, 15, .inl (fun t => Int32.ofNat (if t = j then v else a 13 t)))) = rwld cI cZ (su2 a 13 j v) ad := rfl
theorem ql_14 : (rwld cI cZ a ad)[15]? = some (ad 15, .inl (cI, 3, .inl (fun t => Int32.ofNat (a 14 t)))) := rfl
theorem qs_14 {j v : Nat} : (rwld cI cZ a ad).set 15 (ad 15, .inl (cI, 3, .inl (fun t => Int32.ofNat (if t = j then v else a 14 t)))) = rwld cI cZ (su2 a 14 j v) ad := rfl
theorem ql_15 : (rwld cI cZ a ad)[16]? = some (ad 16, .inl (cZ, 3, .inl (fun t => Int32.ofNat (a 15 t)))) := rfl
theorem qs_15 {j v : Nat} : (rwld cI cZ a ad).set 16 (ad 16, .inl (cZ, 3, .inl (fun t => Int32.ofNat (if t = j then v else a 15 t)))) = rwld cI cZ (su2 a 15 j v) ad := rfl
theorem ql_16 : (rwld cI cZ a ad)[17]? = some (ad 17, .inl (cZ, 3, .inl (fun t => Int32.ofNat (a 16 t)))) := rfl
theorem qs_16 {j v : Nat} : (rwld cI cZ a ad).set 17 (ad 17, .inl (cZ, 3, .inl (fun t => Int32.ofNat (if t = j then v else a 16 t)))) = rwld cI cZ (su2 a 16 j v) ad := rfl
theorem ql_17 : (rwld cI cZ a ad)[18]? = some (ad 18, .inl (cZ, 3, .inl (fun t => Int32.ofNat (a 17 t)))) := rfl
theorem qs_17 {j v : Nat} : (rwld cI cZ a ad).set 18 (ad 18, .inl (cZ, 3, .inl (fun t => Int32.ofNat (if t = j then v else a 17 t)))) = rwld cI cZ (su2 a 17 j v) ad := rfl
theorem ql_18 : (rwld cI cZ a ad)[19]? = some (ad 19, .inl (cI, 192, .inl (fun t => Int32.ofNat (a 18 t)))) := rfl
theorem qs_18 {j v : Nat} : (rwld cI cZ a ad).set 19 (ad 19, .inl (cI, 192, .inl (fun t => Int32.ofNat (if t = j then v else a 18 t)))) = rwld cI cZ (su2 a 18 j v) ad := rfl
theorem ql_19 : (rwld cI cZ a ad)[20]? = some (ad 20, .inl (cI, 192, .inl (fun t => Int32.ofNat (a 19 t)))) := rfl
theorem qs_19 {j v : Nat} : (rwld cI cZ a ad).set 20 (ad 20, .inl (cI, 192, .inl (fun t => Int32.ofNat (if t = j then v else a 19 t)))) = rwld cI cZ (su2 a 19 j v) ad := rfl
theorem ql_20 : (rwld cI cZ a ad)[21]? = some (ad 21, .inl (cI, 3, .inl (fun t => Int32.ofNat (a 20 t)))) := rfl
theorem qs_20 {j v : Nat} : (rwld cI cZ a ad).set 21 (ad 21, .inl (cI, 3, .inl (fun t => Int32.ofNat (if t = j then v else a 20 t)))) = rwld cI cZ (su2 a 20 j v) ad := rfl
theorem ql_21 : (rwld cI cZ a ad)[22]? = some (ad 22, .inl (cI, 3, .inl (fun t => Int32.ofNat (a 21 t)))) := rfl
theorem qs_21 {j v : Nat} : (rwld cI cZ a ad).set 22 (ad 22, .inl (cI, 3, .inl (fun t => Int32.ofNat (if t = j then v else a 21 t)))) = rwld cI cZ (su2 a 21 j v) ad := rfl
theorem ql_22 : (rwld cI cZ a ad)[23]? = some (ad 23, .inl (cI, 192, .inl (fun t => Int32.ofNat (a 22 t)))) := rfl
theorem qs_22 {j v : Nat} : (rwld cI cZ a ad).set 23 (ad 23, .inl (cI, 192, .inl (fun t => Int32.ofNat (if t = j then v else a 22 t)))) = rwld cI cZ (su2 a 22 j v) ad := rfl
theorem ql_23 : (rwld cI cZ a ad)[24]? = some (ad 24, .inl (cI, 192, .inl (fun t => Int32.ofNat (a 23 t)))) := rfl
theorem qs_23 {j v : Nat} : (rwld cI cZ a ad).set 24 (ad 24, .inl (cI, 192, .inl (fun t => Int32.ofNat (if t = j then v else a 23 t)))) = rwld cI cZ (su2 a 23 j v) ad := rfl
theorem ql_24 : (rwld cI cZ a ad)[25]? = some (ad 25, .inl (cI, 3, .inl (fun t => Int32.ofNat (a 24 t)))) := rfl
theorem qs_24 {j v : Nat} : (rwld cI cZ a ad).set 25 (ad 25, .inl (cI, 3, .inl (fun t => Int32.ofNat (if t = j then v else a 24 t)))) = rwld cI cZ (su2 a 24 j v) ad := rfl
theorem ql_25 : (rwld cI cZ a ad)[26]? = some (ad 26, .inl (cI, 3, .inl (fun t => Int32.ofNat (a 25 t)))) := rfl
theorem qs_25 {j v : Nat} : (rwld cI cZ a ad).set 26 (ad 26, .inl (cI, 3, .inl (fun t => Int32.ofNat (if t = j then v else a 25 t)))) = rwld cI cZ (su2 a 25 j v) ad := rfl
theorem ql_26 : (rwld cI cZ a ad)[27]? = some (ad 27, .inl (cI, 24, .inl (fun t => Int32.ofNat (a 26 t)))) := rfl
theorem qs_26 {j v : Nat} : (rwld cI cZ a ad).set 27 (ad 27, .inl (cI, 24, .inl (fun t => Int32.ofNat (if t = j then v else a 26 t)))) = rwld cI cZ (su2 a 26 j v) ad := rfl
theorem ql_27 : (rwld cI cZ a ad)[28]? = some (ad 28, .inl (cI, 24, .inl (fun t => Int32.ofNat (a 27 t)))) := rfl
theorem qs_27 {j v : Nat} : (rwld cI cZ a ad).set 28 (ad 28, .inl (cI, 24, .inl (fun t => Int32.ofNat (if t = j then v else a 27 t)))) = rwld cI cZ (su2 a 27 j v) ad := rfl
theorem ql_28 : (rwld cI cZ a ad)[29]? = some (ad 29, .inl (cI, 24, .inl (fun t => Int32.ofNat (a 28 t)))) := rfl
theorem qs_28 {j v : Nat} : (rwld cI cZ a ad).set 29 (ad 29, .inl (cI, 24, .inl (fun t => Int32.ofNat (if t = j then v else a 28 t)))) = rwld cI cZ (su2 a 28 j v) ad := rfl
theorem ql_29 : (rwld cI cZ a ad)[30]? = some (ad 30, .inl (cI, 24, .inl (fun t => Int32.ofNat (a 29 t)))) := rfl
theorem qs_29 {j v : Nat} : (rwld cI cZ a ad).set 30 (ad 30, .inl (cI, 24, .inl (fun t => Int32.ofNat (if t = j then v else a 29 t)))) = rwld cI cZ (su2 a 29 j v) ad := rfl
theorem ql_30 : (rwld cI cZ a ad)[31]? = some (ad 31, .inl (cZ, 5, .inl (fun t => Int32.ofNat (a 30 t)))) := rfl
theorem qs_30 {j v : Nat} : (rwld cI cZ a ad).set 31 (ad 31, .inl (cZ, 5, .inl (fun t => Int32.ofNat (if t = j then v else a 30 t)))) = rwld cI cZ (su2 a 30 j v) ad := rfl
theorem ql_31 : (rwld cI cZ a ad)[32]? = some (ad 32, .inl (cI, 24, .inl (fun t => Int32.ofNat (a 31 t)))) := rfl
theorem qs_31 {j v : Nat} : (rwld cI cZ a ad).set 32 (ad 32, .inl (cI, 24, .inl (fun t => Int32.ofNat (if t = j then v else a 31 t)))) = rwld cI cZ (su2 a 31 j v) ad := rfl
end WR
end
section
theorem f_srv {p : Program} {l : Launch} {e : Env} {R : Room} {s : State} {m : MethodId} {args : Array Value} {below : List Frame} {meth : Method} {cd : Code} {nL : Nat} {D : va_G} {cl : List vw_C} {A : Nat → Prop} {Q : State → Prop} {cells slots pc : Nat} {L : List (Nat × Value)} {st : List Value} {cc : ByteArray} {Ts : List Cond} {own : String} {cI cS cZ : ClassId} {c : CS} {ad : Nat → Nat} (F : gf p s m args meth cd nL D cl A cc Ts own (tys3 cI cS cZ)) {i : Nat} (hi : i < 3) (hd : decode cc pc = .ok (.aaload, 1))
    (k : gw p l e R s m args below meth cd nL D cl A Q cells slots (pc + 1) L (.ref (ad (2 + 22 * i)) :: st) (cwld cI cS c ad)) : gw p l e R s m args below meth cd nL D cl A Q cells slots pc L (.int (Int32.ofNat i) :: .ref (ad 1) :: st) (cwld cI cS c ad) :=
  g_aald F 1 1 pl_AS rfl (ofN_in hi (by decide)) (by rw [ofN_toNat (by omega)]; exact srvs_at hi) hd k
theorem lt_of_nle {n e : Nat} (h : ¬ Int32.ofNat n ≤ Int32.ofNat e) (hn : n < 2147483648) (he : e < 2147483648) : e < n := by rw [ofN_le hn he] at h; omega
theorem su3_same {c : CS} {k i j v : Nat} : su3 c k i j v k i j = v := by simp [su3]
theorem su2_same {a : RS} {k j v : Nat} : su2 a k j v k j = v := by simp [su2]
theorem nlt_le {n e : Nat} (h : ¬ Int32.ofNat n < Int32.ofNat e) (hn : n < 2147483648) (he : e < 2147483648) : e ≤ n := by rw [ofN_lt hn he] at h; omega
theorem toInt_code {k : Nat} (hk : k < 4294967296) : (Int32.ofNat k).toInt = if k < 2147483648 then (k : Int) else (k : Int) - 4294967296 := by
  rw [Int32.toInt_ofNat', Int.bmod_def, show Int32.size = 4294967296 from rfl]
  rw [Int.emod_eq_of_lt (by omega) (by omega)]
  split <;> split <;> omega
theorem code_ge {k n : Nat} (h : ¬ Int32.ofNat k < Int32.ofNat n) (hk : k < 4294967296) (hn : n < 2147483648) : n ≤ k ∧ k < 2147483648 := by
  rw [Int32.lt_iff_toInt_lt, toInt_code hk, Int32.toInt_ofNat_of_lt hn] at h
  split at h <;> omega
theorem lt_of_lt {n e : Nat} (h : Int32.ofNat e < Int32.ofNat n) (he : e < 2147483648) (hn : n < 2147483648) : e < n := (ofN_lt he hn).mp h
theorem hdX6_init : yX6_init.cls ≠ "java/lang/invoke/MethodHandle" ∧ yX6_init.cls ≠ "java/lang/invoke/VarHandle" ∧ (parseMethodDescriptor yX6_init.desc).map (fun d => d.parameters.length) = some 0 := by decide +kernel
theorem hdX6_lead : yX6_lead.cls ≠ "java/lang/invoke/MethodHandle" ∧ yX6_lead.cls ≠ "java/lang/invoke/VarHandle" ∧ (parseMethodDescriptor yX6_lead.desc).map (fun d => d.parameters.length) = some 1 := by decide +kernel
theorem hdX6_follow : yX6_follow.cls ≠ "java/lang/invoke/MethodHandle" ∧ yX6_follow.cls ≠ "java/lang/invoke/VarHandle" ∧ (parseMethodDescriptor yX6_follow.desc).map (fun d => d.parameters.length) = some 2 := by decide +kernel
theorem hdX6_quit : yX6_quit.cls ≠ "java/lang/invoke/MethodHandle" ∧ yX6_quit.cls ≠ "java/lang/invoke/VarHandle" ∧ (parseMethodDescriptor yX6_quit.desc).map (fun d => d.parameters.length) = some 1 := by decide +kernel
theorem hdX6_crash : yX6_crash.cls ≠ "java/lang/invoke/MethodHandle" ∧ yX6_crash.cls ≠ "java/lang/invoke/VarHandle" ∧ (parseMethodDescriptor yX6_crash.desc).map (fun d => d.parameters.length) = some 1 := by decide +kernel
theorem hdX6_restart : yX6_restart.cls ≠ "java/lang/invoke/MethodHandle" ∧ yX6_restart.cls ≠ "java/lang/invoke/VarHandle" ∧ (parseMethodDescriptor yX6_restart.desc).map (fun d => d.parameters.length) = some 1 := by decide +kernel
theorem hdX6_up : yX6_up.cls ≠ "java/lang/invoke/MethodHandle" ∧ yX6_up.cls ≠ "java/lang/invoke/VarHandle" ∧ (parseMethodDescriptor yX6_up.desc).map (fun d => d.parameters.length) = some 1 := by decide +kernel
theorem hdX6_down : yX6_down.cls ≠ "java/lang/invoke/MethodHandle" ∧ yX6_down.cls ≠ "java/lang/invoke/VarHandle" ∧ (parseMethodDescriptor yX6_down.desc).map (fun d => d.parameters.length) = some 1 := by decide +kernel
theorem hdX6_submit : yX6_submit.cls ≠ "java/lang/invoke/MethodHandle" ∧ yX6_submit.cls ≠ "java/lang/invoke/VarHandle" ∧ (parseMethodDescriptor yX6_submit.desc).map (fun d => d.parameters.length) = some 5 := by decide +kernel
theorem hdX6_tick : yX6_tick.cls ≠ "java/lang/invoke/MethodHandle" ∧ yX6_tick.cls ≠ "java/lang/invoke/VarHandle" ∧ (parseMethodDescriptor yX6_tick.desc).map (fun d => d.parameters.length) = some 0 := by decide +kernel
theorem hdX6_touch : yX6_touch.cls ≠ "java/lang/invoke/MethodHandle" ∧ yX6_touch.cls ≠ "java/lang/invoke/VarHandle" ∧ (parseMethodDescriptor yX6_touch.desc).map (fun d => d.parameters.length) = some 2 := by decide +kernel
theorem hdX6_role : yX6_role.cls ≠ "java/lang/invoke/MethodHandle" ∧ yX6_role.cls ≠ "java/lang/invoke/VarHandle" ∧ (parseMethodDescriptor yX6_role.desc).map (fun d => d.parameters.length) = some 1 := by decide +kernel
theorem hdX6_promise : yX6_promise.cls ≠ "java/lang/invoke/MethodHandle" ∧ yX6_promise.cls ≠ "java/lang/invoke/VarHandle" ∧ (parseMethodDescriptor yX6_promise.desc).map (fun d => d.parameters.length) = some 1 := by decide +kernel
theorem hdX6_epoch : yX6_epoch.cls ≠ "java/lang/invoke/MethodHandle" ∧ yX6_epoch.cls ≠ "java/lang/invoke/VarHandle" ∧ (parseMethodDescriptor yX6_epoch.desc).map (fun d => d.parameters.length) = some 1 := by decide +kernel
theorem hdX6_length : yX6_length.cls ≠ "java/lang/invoke/MethodHandle" ∧ yX6_length.cls ≠ "java/lang/invoke/VarHandle" ∧ (parseMethodDescriptor yX6_length.desc).map (fun d => d.parameters.length) = some 1 := by decide +kernel
theorem hdX6_mark : yX6_mark.cls ≠ "java/lang/invoke/MethodHandle" ∧ yX6_mark.cls ≠ "java/lang/invoke/VarHandle" ∧ (parseMethodDescriptor yX6_mark.desc).map (fun d => d.parameters.length) = some 2 := by decide +kernel
theorem hdX6_applied : yX6_applied.cls ≠ "java/lang/invoke/MethodHandle" ∧ yX6_applied.cls ≠ "java/lang/invoke/VarHandle" ∧ (parseMethodDescriptor yX6_applied.desc).map (fun d => d.parameters.length) = some 1 := by decide +kernel
theorem hdX6_result : yX6_result.cls ≠ "java/lang/invoke/MethodHandle" ∧ yX6_result.cls ≠ "java/lang/invoke/VarHandle" ∧ (parseMethodDescriptor yX6_result.desc).map (fun d => d.parameters.length) = some 2 := by decide +kernel
theorem hdX6_node : yX6_node.cls ≠ "java/lang/invoke/MethodHandle" ∧ yX6_node.cls ≠ "java/lang/invoke/VarHandle" ∧ (parseMethodDescriptor yX6_node.desc).map (fun d => d.parameters.length) = some 3 := by decide +kernel
theorem hdX6_tree : yX6_tree.cls ≠ "java/lang/invoke/MethodHandle" ∧ yX6_tree.cls ≠ "java/lang/invoke/VarHandle" ∧ (parseMethodDescriptor yX6_tree.desc).map (fun d => d.parameters.length) = some 1 := by decide +kernel
theorem hdX6_waiting : yX6_waiting.cls ≠ "java/lang/invoke/MethodHandle" ∧ yX6_waiting.cls ≠ "java/lang/invoke/VarHandle" ∧ (parseMethodDescriptor yX6_waiting.desc).map (fun d => d.parameters.length) = some 2 := by decide +kernel
theorem hdX6_isServer : yX6_isServer.cls ≠ "java/lang/invoke/MethodHandle" ∧ yX6_isServer.cls ≠ "java/lang/invoke/VarHandle" ∧ (parseMethodDescriptor yX6_isServer.desc).map (fun d => d.parameters.length) = some 1 := by decide +kernel
theorem hdX6_isSession : yX6_isSession.cls ≠ "java/lang/invoke/MethodHandle" ∧ yX6_isSession.cls ≠ "java/lang/invoke/VarHandle" ∧ (parseMethodDescriptor yX6_isSession.desc).map (fun d => d.parameters.length) = some 1 := by decide +kernel
theorem hdX6_isNodePath : yX6_isNodePath.cls ≠ "java/lang/invoke/MethodHandle" ∧ yX6_isNodePath.cls ≠ "java/lang/invoke/VarHandle" ∧ (parseMethodDescriptor yX6_isNodePath.desc).map (fun d => d.parameters.length) = some 1 := by decide +kernel
theorem hdX6_isChange : yX6_isChange.cls ≠ "java/lang/invoke/MethodHandle" ∧ yX6_isChange.cls ≠ "java/lang/invoke/VarHandle" ∧ (parseMethodDescriptor yX6_isChange.desc).map (fun d => d.parameters.length) = some 3 := by decide +kernel
theorem hdX6_hasRole : yX6_hasRole.cls ≠ "java/lang/invoke/MethodHandle" ∧ yX6_hasRole.cls ≠ "java/lang/invoke/VarHandle" ∧ (parseMethodDescriptor yX6_hasRole.desc).map (fun d => d.parameters.length) = some 2 := by decide +kernel
theorem hdX6_leads : yX6_leads.cls ≠ "java/lang/invoke/MethodHandle" ∧ yX6_leads.cls ≠ "java/lang/invoke/VarHandle" ∧ (parseMethodDescriptor yX6_leads.desc).map (fun d => d.parameters.length) = some 1 := by decide +kernel
theorem hdX6_isFollowerOf : yX6_isFollowerOf.cls ≠ "java/lang/invoke/MethodHandle" ∧ yX6_isFollowerOf.cls ≠ "java/lang/invoke/VarHandle" ∧ (parseMethodDescriptor yX6_isFollowerOf.desc).map (fun d => d.parameters.length) = some 2 := by decide +kernel
theorem hdX6_stopTo : yX6_stopTo.cls ≠ "java/lang/invoke/MethodHandle" ∧ yX6_stopTo.cls ≠ "java/lang/invoke/VarHandle" ∧ (parseMethodDescriptor yX6_stopTo.desc).map (fun d => d.parameters.length) = some 2 := by decide +kernel
theorem hdX6_readJoin : yX6_readJoin.cls ≠ "java/lang/invoke/MethodHandle" ∧ yX6_readJoin.cls ≠ "java/lang/invoke/VarHandle" ∧ (parseMethodDescriptor yX6_readJoin.desc).map (fun d => d.parameters.length) = some 3 := by decide +kernel
theorem hdX6_readAccepted : yX6_readAccepted.cls ≠ "java/lang/invoke/MethodHandle" ∧ yX6_readAccepted.cls ≠ "java/lang/invoke/VarHandle" ∧ (parseMethodDescriptor yX6_readAccepted.desc).map (fun d => d.parameters.length) = some 3 := by decide +kernel
theorem hdX6_chooseList : yX6_chooseList.cls ≠ "java/lang/invoke/MethodHandle" ∧ yX6_chooseList.cls ≠ "java/lang/invoke/VarHandle" ∧ (parseMethodDescriptor yX6_chooseList.desc).map (fun d => d.parameters.length) = some 2 := by decide +kernel
theorem hdX6_sendNewLeader : yX6_sendNewLeader.cls ≠ "java/lang/invoke/MethodHandle" ∧ yX6_sendNewLeader.cls ≠ "java/lang/invoke/VarHandle" ∧ (parseMethodDescriptor yX6_sendNewLeader.desc).map (fun d => d.parameters.length) = some 2 := by decide +kernel
theorem hdX6_sendNewLeaderToWaiting : yX6_sendNewLeaderToWaiting.cls ≠ "java/lang/invoke/MethodHandle" ∧ yX6_sendNewLeaderToWaiting.cls ≠ "java/lang/invoke/VarHandle" ∧ (parseMethodDescriptor yX6_sendNewLeaderToWaiting.desc).map (fun d => d.parameters.length) = some 1 := by decide +kernel
theorem hdX6_readAck : yX6_readAck.cls ≠ "java/lang/invoke/MethodHandle" ∧ yX6_readAck.cls ≠ "java/lang/invoke/VarHandle" ∧ (parseMethodDescriptor yX6_readAck.desc).map (fun d => d.parameters.length) = some 3 := by decide +kernel
theorem hdX6_sendOnTiedLinks : yX6_sendOnTiedLinks.cls ≠ "java/lang/invoke/MethodHandle" ∧ yX6_sendOnTiedLinks.cls ≠ "java/lang/invoke/VarHandle" ∧ (parseMethodDescriptor yX6_sendOnTiedLinks.desc).map (fun d => d.parameters.length) = some 3 := by decide +kernel
theorem hdX6_readNewEpoch : yX6_readNewEpoch.cls ≠ "java/lang/invoke/MethodHandle" ∧ yX6_readNewEpoch.cls ≠ "java/lang/invoke/VarHandle" ∧ (parseMethodDescriptor yX6_readNewEpoch.desc).map (fun d => d.parameters.length) = some 2 := by decide +kernel
theorem hdX6_readNewLeader : yX6_readNewLeader.cls ≠ "java/lang/invoke/MethodHandle" ∧ yX6_readNewLeader.cls ≠ "java/lang/invoke/VarHandle" ∧ (parseMethodDescriptor yX6_readNewLeader.desc).map (fun d => d.parameters.length) = some 2 := by decide +kernel
theorem hdX6_readProposal : yX6_readProposal.cls ≠ "java/lang/invoke/MethodHandle" ∧ yX6_readProposal.cls ≠ "java/lang/invoke/VarHandle" ∧ (parseMethodDescriptor yX6_readProposal.desc).map (fun d => d.parameters.length) = some 2 := by decide +kernel
theorem hdX6_makeEntry : yX6_makeEntry.cls ≠ "java/lang/invoke/MethodHandle" ∧ yX6_makeEntry.cls ≠ "java/lang/invoke/VarHandle" ∧ (parseMethodDescriptor yX6_makeEntry.desc).map (fun d => d.parameters.length) = some 5 := by decide +kernel
theorem hdX6_growAges : yX6_growAges.cls ≠ "java/lang/invoke/MethodHandle" ∧ yX6_growAges.cls ≠ "java/lang/invoke/VarHandle" ∧ (parseMethodDescriptor yX6_growAges.desc).map (fun d => d.parameters.length) = some 1 := by decide +kernel
theorem hdX6_closeOldSessions : yX6_closeOldSessions.cls ≠ "java/lang/invoke/MethodHandle" ∧ yX6_closeOldSessions.cls ≠ "java/lang/invoke/VarHandle" ∧ (parseMethodDescriptor yX6_closeOldSessions.desc).map (fun d => d.parameters.length) = some 1 := by decide +kernel
theorem hdX7_init : yX7_init.cls ≠ "java/lang/invoke/MethodHandle" ∧ yX7_init.cls ≠ "java/lang/invoke/VarHandle" ∧ (parseMethodDescriptor yX7_init.desc).map (fun d => d.parameters.length) = some 0 := by decide +kernel
theorem hdX7_out : yX7_out.cls ≠ "java/lang/invoke/MethodHandle" ∧ yX7_out.cls ≠ "java/lang/invoke/VarHandle" ∧ (parseMethodDescriptor yX7_out.desc).map (fun d => d.parameters.length) = some 1 := by decide +kernel
theorem hdX7_find : yX7_find.cls ≠ "java/lang/invoke/MethodHandle" ∧ yX7_find.cls ≠ "java/lang/invoke/VarHandle" ∧ (parseMethodDescriptor yX7_find.desc).map (fun d => d.parameters.length) = some 1 := by decide +kernel
theorem hdX7_children : yX7_children.cls ≠ "java/lang/invoke/MethodHandle" ∧ yX7_children.cls ≠ "java/lang/invoke/VarHandle" ∧ (parseMethodDescriptor yX7_children.desc).map (fun d => d.parameters.length) = some 1 := by decide +kernel
theorem hdX7_create : yX7_create.cls ≠ "java/lang/invoke/MethodHandle" ∧ yX7_create.cls ≠ "java/lang/invoke/VarHandle" ∧ (parseMethodDescriptor yX7_create.desc).map (fun d => d.parameters.length) = some 3 := by decide +kernel
theorem hdX7_alter : yX7_alter.cls ≠ "java/lang/invoke/MethodHandle" ∧ yX7_alter.cls ≠ "java/lang/invoke/VarHandle" ∧ (parseMethodDescriptor yX7_alter.desc).map (fun d => d.parameters.length) = some 4 := by decide +kernel
theorem hdX7_session : yX7_session.cls ≠ "java/lang/invoke/MethodHandle" ∧ yX7_session.cls ≠ "java/lang/invoke/VarHandle" ∧ (parseMethodDescriptor yX7_session.desc).map (fun d => d.parameters.length) = some 2 := by decide +kernel
theorem hdX7_work : yX7_work.cls ≠ "java/lang/invoke/MethodHandle" ∧ yX7_work.cls ≠ "java/lang/invoke/VarHandle" ∧ (parseMethodDescriptor yX7_work.desc).map (fun d => d.parameters.length) = some 1 := by decide +kernel
theorem hdX7_cut : yX7_cut.cls ≠ "java/lang/invoke/MethodHandle" ∧ yX7_cut.cls ≠ "java/lang/invoke/VarHandle" ∧ (parseMethodDescriptor yX7_cut.desc).map (fun d => d.parameters.length) = some 1 := by decide +kernel
theorem hdX7_follows : yX7_follows.cls ≠ "java/lang/invoke/MethodHandle" ∧ yX7_follows.cls ≠ "java/lang/invoke/VarHandle" ∧ (parseMethodDescriptor yX7_follows.desc).map (fun d => d.parameters.length) = some 2 := by decide +kernel
theorem hdX7_cease : yX7_cease.cls ≠ "java/lang/invoke/MethodHandle" ∧ yX7_cease.cls ≠ "java/lang/invoke/VarHandle" ∧ (parseMethodDescriptor yX7_cease.desc).map (fun d => d.parameters.length) = some 1 := by decide +kernel
theorem hdX7_lead : yX7_lead.cls ≠ "java/lang/invoke/MethodHandle" ∧ yX7_lead.cls ≠ "java/lang/invoke/VarHandle" ∧ (parseMethodDescriptor yX7_lead.desc).map (fun d => d.parameters.length) = some 1 := by decide +kernel
theorem hdX7_follow : yX7_follow.cls ≠ "java/lang/invoke/MethodHandle" ∧ yX7_follow.cls ≠ "java/lang/invoke/VarHandle" ∧ (parseMethodDescriptor yX7_follow.desc).map (fun d => d.parameters.length) = some 2 := by decide +kernel
theorem hdX7_quit : yX7_quit.cls ≠ "java/lang/invoke/MethodHandle" ∧ yX7_quit.cls ≠ "java/lang/invoke/VarHandle" ∧ (parseMethodDescriptor yX7_quit.desc).map (fun d => d.parameters.length) = some 1 := by decide +kernel
theorem hdX7_crash : yX7_crash.cls ≠ "java/lang/invoke/MethodHandle" ∧ yX7_crash.cls ≠ "java/lang/invoke/VarHandle" ∧ (parseMethodDescriptor yX7_crash.desc).map (fun d => d.parameters.length) = some 1 := by decide +kernel
theorem hdX7_restart : yX7_restart.cls ≠ "java/lang/invoke/MethodHandle" ∧ yX7_restart.cls ≠ "java/lang/invoke/VarHandle" ∧ (parseMethodDescriptor yX7_restart.desc).map (fun d => d.parameters.length) = some 1 := by decide +kernel
theorem hdX7_sendUp : yX7_sendUp.cls ≠ "java/lang/invoke/MethodHandle" ∧ yX7_sendUp.cls ≠ "java/lang/invoke/VarHandle" ∧ (parseMethodDescriptor yX7_sendUp.desc).map (fun d => d.parameters.length) = some 3 := by decide +kernel
theorem hdX7_sendDown : yX7_sendDown.cls ≠ "java/lang/invoke/MethodHandle" ∧ yX7_sendDown.cls ≠ "java/lang/invoke/VarHandle" ∧ (parseMethodDescriptor yX7_sendDown.desc).map (fun d => d.parameters.length) = some 3 := by decide +kernel
theorem hdX7_newLeader : yX7_newLeader.cls ≠ "java/lang/invoke/MethodHandle" ∧ yX7_newLeader.cls ≠ "java/lang/invoke/VarHandle" ∧ (parseMethodDescriptor yX7_newLeader.desc).map (fun d => d.parameters.length) = some 2 := by decide +kernel
theorem hdX7_copy : yX7_copy.cls ≠ "java/lang/invoke/MethodHandle" ∧ yX7_copy.cls ≠ "java/lang/invoke/VarHandle" ∧ (parseMethodDescriptor yX7_copy.desc).map (fun d => d.parameters.length) = some 3 := by decide +kernel
theorem hdX7_copyEntry : yX7_copyEntry.cls ≠ "java/lang/invoke/MethodHandle" ∧ yX7_copyEntry.cls ≠ "java/lang/invoke/VarHandle" ∧ (parseMethodDescriptor yX7_copyEntry.desc).map (fun d => d.parameters.length) = some 2 := by decide +kernel
theorem hdX7_lastMark : yX7_lastMark.cls ≠ "java/lang/invoke/MethodHandle" ∧ yX7_lastMark.cls ≠ "java/lang/invoke/VarHandle" ∧ (parseMethodDescriptor yX7_lastMark.desc).map (fun d => d.parameters.length) = some 1 := by decide +kernel
theorem hdX7_accepted : yX7_accepted.cls ≠ "java/lang/invoke/MethodHandle" ∧ yX7_accepted.cls ≠ "java/lang/invoke/VarHandle" ∧ (parseMethodDescriptor yX7_accepted.desc).map (fun d => d.parameters.length) = some 3 := by decide +kernel
theorem hdX7_acknowledged : yX7_acknowledged.cls ≠ "java/lang/invoke/MethodHandle" ∧ yX7_acknowledged.cls ≠ "java/lang/invoke/VarHandle" ∧ (parseMethodDescriptor yX7_acknowledged.desc).map (fun d => d.parameters.length) = some 3 := by decide +kernel
theorem hdX7_up : yX7_up.cls ≠ "java/lang/invoke/MethodHandle" ∧ yX7_up.cls ≠ "java/lang/invoke/VarHandle" ∧ (parseMethodDescriptor yX7_up.desc).map (fun d => d.parameters.length) = some 1 := by decide +kernel
theorem hdX7_down : yX7_down.cls ≠ "java/lang/invoke/MethodHandle" ∧ yX7_down.cls ≠ "java/lang/invoke/VarHandle" ∧ (parseMethodDescriptor yX7_down.desc).map (fun d => d.parameters.length) = some 1 := by decide +kernel
theorem hdX7_make : yX7_make.cls ≠ "java/lang/invoke/MethodHandle" ∧ yX7_make.cls ≠ "java/lang/invoke/VarHandle" ∧ (parseMethodDescriptor yX7_make.desc).map (fun d => d.parameters.length) = some 5 := by decide +kernel
theorem hdX7_isPath : yX7_isPath.cls ≠ "java/lang/invoke/MethodHandle" ∧ yX7_isPath.cls ≠ "java/lang/invoke/VarHandle" ∧ (parseMethodDescriptor yX7_isPath.desc).map (fun d => d.parameters.length) = some 1 := by decide +kernel
theorem hdX7_submit : yX7_submit.cls ≠ "java/lang/invoke/MethodHandle" ∧ yX7_submit.cls ≠ "java/lang/invoke/VarHandle" ∧ (parseMethodDescriptor yX7_submit.desc).map (fun d => d.parameters.length) = some 5 := by decide +kernel
theorem hdX7_tick : yX7_tick.cls ≠ "java/lang/invoke/MethodHandle" ∧ yX7_tick.cls ≠ "java/lang/invoke/VarHandle" ∧ (parseMethodDescriptor yX7_tick.desc).map (fun d => d.parameters.length) = some 0 := by decide +kernel
theorem hdX7_touch : yX7_touch.cls ≠ "java/lang/invoke/MethodHandle" ∧ yX7_touch.cls ≠ "java/lang/invoke/VarHandle" ∧ (parseMethodDescriptor yX7_touch.desc).map (fun d => d.parameters.length) = some 2 := by decide +kernel
theorem hdX7_role : yX7_role.cls ≠ "java/lang/invoke/MethodHandle" ∧ yX7_role.cls ≠ "java/lang/invoke/VarHandle" ∧ (parseMethodDescriptor yX7_role.desc).map (fun d => d.parameters.length) = some 1 := by decide +kernel
theorem hdX7_promise : yX7_promise.cls ≠ "java/lang/invoke/MethodHandle" ∧ yX7_promise.cls ≠ "java/lang/invoke/VarHandle" ∧ (parseMethodDescriptor yX7_promise.desc).map (fun d => d.parameters.length) = some 1 := by decide +kernel
theorem hdX7_epoch : yX7_epoch.cls ≠ "java/lang/invoke/MethodHandle" ∧ yX7_epoch.cls ≠ "java/lang/invoke/VarHandle" ∧ (parseMethodDescriptor yX7_epoch.desc).map (fun d => d.parameters.length) = some 1 := by decide +kernel
theorem hdX7_length : yX7_length.cls ≠ "java/lang/invoke/MethodHandle" ∧ yX7_length.cls ≠ "java/lang/invoke/VarHandle" ∧ (parseMethodDescriptor yX7_length.desc).map (fun d => d.parameters.length) = some 1 := by decide +kernel
theorem hdX7_mark : yX7_mark.cls ≠ "java/lang/invoke/MethodHandle" ∧ yX7_mark.cls ≠ "java/lang/invoke/VarHandle" ∧ (parseMethodDescriptor yX7_mark.desc).map (fun d => d.parameters.length) = some 2 := by decide +kernel
theorem hdX7_applied : yX7_applied.cls ≠ "java/lang/invoke/MethodHandle" ∧ yX7_applied.cls ≠ "java/lang/invoke/VarHandle" ∧ (parseMethodDescriptor yX7_applied.desc).map (fun d => d.parameters.length) = some 1 := by decide +kernel
theorem hdX7_result : yX7_result.cls ≠ "java/lang/invoke/MethodHandle" ∧ yX7_result.cls ≠ "java/lang/invoke/VarHandle" ∧ (parseMethodDescriptor yX7_result.desc).map (fun d => d.parameters.length) = some 2 := by decide +kernel
theorem hdX7_node : yX7_node.cls ≠ "java/lang/invoke/MethodHandle" ∧ yX7_node.cls ≠ "java/lang/invoke/VarHandle" ∧ (parseMethodDescriptor yX7_node.desc).map (fun d => d.parameters.length) = some 3 := by decide +kernel
theorem hdX7_tree : yX7_tree.cls ≠ "java/lang/invoke/MethodHandle" ∧ yX7_tree.cls ≠ "java/lang/invoke/VarHandle" ∧ (parseMethodDescriptor yX7_tree.desc).map (fun d => d.parameters.length) = some 1 := by decide +kernel
theorem hdX7_waiting : yX7_waiting.cls ≠ "java/lang/invoke/MethodHandle" ∧ yX7_waiting.cls ≠ "java/lang/invoke/VarHandle" ∧ (parseMethodDescriptor yX7_waiting.desc).map (fun d => d.parameters.length) = some 2 := by decide +kernel
theorem hdX0_init : yX0_init.cls ≠ "java/lang/invoke/MethodHandle" ∧ yX0_init.cls ≠ "java/lang/invoke/VarHandle" ∧ (parseMethodDescriptor yX0_init.desc).map (fun d => d.parameters.length) = some 0 := by decide +kernel
theorem hdX0_isFull : yX0_isFull.cls ≠ "java/lang/invoke/MethodHandle" ∧ yX0_isFull.cls ≠ "java/lang/invoke/VarHandle" ∧ (parseMethodDescriptor yX0_isFull.desc).map (fun d => d.parameters.length) = some 0 := by decide +kernel
theorem hdX0_markAt : yX0_markAt.cls ≠ "java/lang/invoke/MethodHandle" ∧ yX0_markAt.cls ≠ "java/lang/invoke/VarHandle" ∧ (parseMethodDescriptor yX0_markAt.desc).map (fun d => d.parameters.length) = some 1 := by decide +kernel
theorem hdX0_lastMark : yX0_lastMark.cls ≠ "java/lang/invoke/MethodHandle" ∧ yX0_lastMark.cls ≠ "java/lang/invoke/VarHandle" ∧ (parseMethodDescriptor yX0_lastMark.desc).map (fun d => d.parameters.length) = some 0 := by decide +kernel
theorem hdX0_append : yX0_append.cls ≠ "java/lang/invoke/MethodHandle" ∧ yX0_append.cls ≠ "java/lang/invoke/VarHandle" ∧ (parseMethodDescriptor yX0_append.desc).map (fun d => d.parameters.length) = some 5 := by decide +kernel
theorem hdX0_appendFrom : yX0_appendFrom.cls ≠ "java/lang/invoke/MethodHandle" ∧ yX0_appendFrom.cls ≠ "java/lang/invoke/VarHandle" ∧ (parseMethodDescriptor yX0_appendFrom.desc).map (fun d => d.parameters.length) = some 2 := by decide +kernel
theorem hdX0_becomeFirst : yX0_becomeFirst.cls ≠ "java/lang/invoke/MethodHandle" ∧ yX0_becomeFirst.cls ≠ "java/lang/invoke/VarHandle" ∧ (parseMethodDescriptor yX0_becomeFirst.desc).map (fun d => d.parameters.length) = some 2 := by decide +kernel
theorem hdX1_init : yX1_init.cls ≠ "java/lang/invoke/MethodHandle" ∧ yX1_init.cls ≠ "java/lang/invoke/VarHandle" ∧ (parseMethodDescriptor yX1_init.desc).map (fun d => d.parameters.length) = some 0 := by decide +kernel
theorem hdX1_clear : yX1_clear.cls ≠ "java/lang/invoke/MethodHandle" ∧ yX1_clear.cls ≠ "java/lang/invoke/VarHandle" ∧ (parseMethodDescriptor yX1_clear.desc).map (fun d => d.parameters.length) = some 0 := by decide +kernel
theorem hdX2_init : yX2_init.cls ≠ "java/lang/invoke/MethodHandle" ∧ yX2_init.cls ≠ "java/lang/invoke/VarHandle" ∧ (parseMethodDescriptor yX2_init.desc).map (fun d => d.parameters.length) = some 1 := by decide +kernel
theorem hdX2_clear : yX2_clear.cls ≠ "java/lang/invoke/MethodHandle" ∧ yX2_clear.cls ≠ "java/lang/invoke/VarHandle" ∧ (parseMethodDescriptor yX2_clear.desc).map (fun d => d.parameters.length) = some 0 := by decide +kernel
theorem hdX2_count : yX2_count.cls ≠ "java/lang/invoke/MethodHandle" ∧ yX2_count.cls ≠ "java/lang/invoke/VarHandle" ∧ (parseMethodDescriptor yX2_count.desc).map (fun d => d.parameters.length) = some 0 := by decide +kernel
theorem hdX2_send : yX2_send.cls ≠ "java/lang/invoke/MethodHandle" ∧ yX2_send.cls ≠ "java/lang/invoke/VarHandle" ∧ (parseMethodDescriptor yX2_send.desc).map (fun d => d.parameters.length) = some 2 := by decide +kernel
theorem hdX2_firstKind : yX2_firstKind.cls ≠ "java/lang/invoke/MethodHandle" ∧ yX2_firstKind.cls ≠ "java/lang/invoke/VarHandle" ∧ (parseMethodDescriptor yX2_firstKind.desc).map (fun d => d.parameters.length) = some 0 := by decide +kernel
theorem hdX2_firstValue : yX2_firstValue.cls ≠ "java/lang/invoke/MethodHandle" ∧ yX2_firstValue.cls ≠ "java/lang/invoke/VarHandle" ∧ (parseMethodDescriptor yX2_firstValue.desc).map (fun d => d.parameters.length) = some 0 := by decide +kernel
theorem hdX2_dropFirst : yX2_dropFirst.cls ≠ "java/lang/invoke/MethodHandle" ∧ yX2_dropFirst.cls ≠ "java/lang/invoke/VarHandle" ∧ (parseMethodDescriptor yX2_dropFirst.desc).map (fun d => d.parameters.length) = some 0 := by decide +kernel
theorem hdX3_init : yX3_init.cls ≠ "java/lang/invoke/MethodHandle" ∧ yX3_init.cls ≠ "java/lang/invoke/VarHandle" ∧ (parseMethodDescriptor yX3_init.desc).map (fun d => d.parameters.length) = some 1 := by decide +kernel
theorem hdX3_applyUpTo : yX3_applyUpTo.cls ≠ "java/lang/invoke/MethodHandle" ∧ yX3_applyUpTo.cls ≠ "java/lang/invoke/VarHandle" ∧ (parseMethodDescriptor yX3_applyUpTo.desc).map (fun d => d.parameters.length) = some 1 := by decide +kernel
theorem hdX3_forgetApplied : yX3_forgetApplied.cls ≠ "java/lang/invoke/MethodHandle" ∧ yX3_forgetApplied.cls ≠ "java/lang/invoke/VarHandle" ∧ (parseMethodDescriptor yX3_forgetApplied.desc).map (fun d => d.parameters.length) = some 0 := by decide +kernel
theorem hdX4_init : yX4_init.cls ≠ "java/lang/invoke/MethodHandle" ∧ yX4_init.cls ≠ "java/lang/invoke/VarHandle" ∧ (parseMethodDescriptor yX4_init.desc).map (fun d => d.parameters.length) = some 0 := by decide +kernel
theorem hdX4_begin : yX4_begin.cls ≠ "java/lang/invoke/MethodHandle" ∧ yX4_begin.cls ≠ "java/lang/invoke/VarHandle" ∧ (parseMethodDescriptor yX4_begin.desc).map (fun d => d.parameters.length) = some 0 := by decide +kernel
theorem hdX5_init : yX5_init.cls ≠ "java/lang/invoke/MethodHandle" ∧ yX5_init.cls ≠ "java/lang/invoke/VarHandle" ∧ (parseMethodDescriptor yX5_init.desc).map (fun d => d.parameters.length) = some 0 := by decide +kernel
theorem hdX5_clear : yX5_clear.cls ≠ "java/lang/invoke/MethodHandle" ∧ yX5_clear.cls ≠ "java/lang/invoke/VarHandle" ∧ (parseMethodDescriptor yX5_clear.desc).map (fun d => d.parameters.length) = some 0 := by decide +kernel
theorem hdX5_summary : yX5_summary.cls ≠ "java/lang/invoke/MethodHandle" ∧ yX5_summary.cls ≠ "java/lang/invoke/VarHandle" ∧ (parseMethodDescriptor yX5_summary.desc).map (fun d => d.parameters.length) = some 0 := by decide +kernel
theorem hdX5_isOpen : yX5_isOpen.cls ≠ "java/lang/invoke/MethodHandle" ∧ yX5_isOpen.cls ≠ "java/lang/invoke/VarHandle" ∧ (parseMethodDescriptor yX5_isOpen.desc).map (fun d => d.parameters.length) = some 1 := by decide +kernel
theorem hdX5_look : yX5_look.cls ≠ "java/lang/invoke/MethodHandle" ∧ yX5_look.cls ≠ "java/lang/invoke/VarHandle" ∧ (parseMethodDescriptor yX5_look.desc).map (fun d => d.parameters.length) = some 2 := by decide +kernel
theorem hdX5_lookAtRoot : yX5_lookAtRoot.cls ≠ "java/lang/invoke/MethodHandle" ∧ yX5_lookAtRoot.cls ≠ "java/lang/invoke/VarHandle" ∧ (parseMethodDescriptor yX5_lookAtRoot.desc).map (fun d => d.parameters.length) = some 1 := by decide +kernel
theorem hdX5_find : yX5_find.cls ≠ "java/lang/invoke/MethodHandle" ∧ yX5_find.cls ≠ "java/lang/invoke/VarHandle" ∧ (parseMethodDescriptor yX5_find.desc).map (fun d => d.parameters.length) = some 1 := by decide +kernel
theorem hdX5_countChildren : yX5_countChildren.cls ≠ "java/lang/invoke/MethodHandle" ∧ yX5_countChildren.cls ≠ "java/lang/invoke/VarHandle" ∧ (parseMethodDescriptor yX5_countChildren.desc).map (fun d => d.parameters.length) = some 1 := by decide +kernel
theorem hdX5_change : yX5_change.cls ≠ "java/lang/invoke/MethodHandle" ∧ yX5_change.cls ≠ "java/lang/invoke/VarHandle" ∧ (parseMethodDescriptor yX5_change.desc).map (fun d => d.parameters.length) = some 4 := by decide +kernel
theorem hdX5_create : yX5_create.cls ≠ "java/lang/invoke/MethodHandle" ∧ yX5_create.cls ≠ "java/lang/invoke/VarHandle" ∧ (parseMethodDescriptor yX5_create.desc).map (fun d => d.parameters.length) = some 3 := by decide +kernel
theorem hdX5_add : yX5_add.cls ≠ "java/lang/invoke/MethodHandle" ∧ yX5_add.cls ≠ "java/lang/invoke/VarHandle" ∧ (parseMethodDescriptor yX5_add.desc).map (fun d => d.parameters.length) = some 3 := by decide +kernel
theorem hdX5_set : yX5_set.cls ≠ "java/lang/invoke/MethodHandle" ∧ yX5_set.cls ≠ "java/lang/invoke/VarHandle" ∧ (parseMethodDescriptor yX5_set.desc).map (fun d => d.parameters.length) = some 3 := by decide +kernel
theorem hdX5_delete : yX5_delete.cls ≠ "java/lang/invoke/MethodHandle" ∧ yX5_delete.cls ≠ "java/lang/invoke/VarHandle" ∧ (parseMethodDescriptor yX5_delete.desc).map (fun d => d.parameters.length) = some 2 := by decide +kernel
theorem hdX5_remove : yX5_remove.cls ≠ "java/lang/invoke/MethodHandle" ∧ yX5_remove.cls ≠ "java/lang/invoke/VarHandle" ∧ (parseMethodDescriptor yX5_remove.desc).map (fun d => d.parameters.length) = some 1 := by decide +kernel
theorem hdX5_open : yX5_open.cls ≠ "java/lang/invoke/MethodHandle" ∧ yX5_open.cls ≠ "java/lang/invoke/VarHandle" ∧ (parseMethodDescriptor yX5_open.desc).map (fun d => d.parameters.length) = some 1 := by decide +kernel
theorem hdX5_close : yX5_close.cls ≠ "java/lang/invoke/MethodHandle" ∧ yX5_close.cls ≠ "java/lang/invoke/VarHandle" ∧ (parseMethodDescriptor yX5_close.desc).map (fun d => d.parameters.length) = some 1 := by decide +kernel
theorem hdXA_fill : yXA_fill.cls ≠ "java/lang/invoke/MethodHandle" ∧ yXA_fill.cls ≠ "java/lang/invoke/VarHandle" ∧ (parseMethodDescriptor yXA_fill.desc).map (fun d => d.parameters.length) = some 2 := by decide +kernel
end
section
def w_X2_clear_u (c : CS) (i : Nat) : CS := su3 (su3 c 12 i 0 0) 13 i 0 0
abbrev rm_X2_clear_u : Room := { frames := 0, cells := 0, slots := 0, locals := 0 }
set_option maxHeartbeats 4000000 in
set_option maxRecDepth 100000 in
theorem k_X2_clear_u (l : Launch) (D : va_G) (cI cS cZ : ClassId) (ad : Nat → Nat) (c : CS) (i : Nat) (h_i : i < 3) : gN l yX2_clear (Cond.code yX2_clear cX2_clear 1 none :: tb) rm_X2_clear_u D cls8 (tys3 cI cS cZ) [.ref (ad (2 + 22 * i + 5))] (cwld cI cS c ad) none (cwld cI cS (w_X2_clear_u c i) ad) := by
  unfold gN
  refine g_head (by decide) rfl (Nat.le_of_ble_eq_true rfl) ?_
  intro p e s m args below meth cd A F hr hlk hnm
  refine g_eq rfl (L' := [(0, .ref (ad (2 + 22 * i + 5)))]) rfl rfl rfl ?_
  refine g_aload_n F dX2_clear_0 0 rfl ?_
  refine f_iconst F 0 dX2_clear_1 rfl ?_
  refine f_put F inX2 tyX2_ok nmX2 (pl_RU h_i) rfl 2 (by decide) tb_68 rfl rfl rfl rfl (Nat.le_of_ble_eq_true rfl) dX2_clear_2 (ps_12 h_i) ?_
  refine g_aload_n F dX2_clear_5 0 rfl ?_
  refine f_iconst F 0 dX2_clear_6 rfl ?_
  refine f_put F inX2 tyX2_ok nmX2 (pl_RU h_i) rfl 3 (by decide) tb_69 rfl rfl rfl rfl (Nat.le_of_ble_eq_true rfl) dX2_clear_7 (ps_13 h_i) ?_
  exact g_vret F hr hlk dX2_clear_10 ⟨rfl, congrArg (fun t => cwld cI cS t ad) rfl⟩
def r_X2_count_u (c : CS) (i : Nat) : Nat := nc ((Int32.ofNat (c 13 i 0)) - (Int32.ofNat (c 12 i 0)))
abbrev rm_X2_count_u : Room := { frames := 0, cells := 0, slots := 0, locals := 0 }
set_option maxHeartbeats 4000000 in
set_option maxRecDepth 100000 in
theorem k_X2_count_u (l : Launch) (D : va_G) (cI cS cZ : ClassId) (ad : Nat → Nat) (c : CS) (i : Nat) (h_i : i < 3) : gN l yX2_count (Cond.code yX2_count cX2_count 1 (some .int) :: tb) rm_X2_count_u D cls8 (tys3 cI cS cZ) [.ref (ad (2 + 22 * i + 5))] (cwld cI cS c ad) (some (.int (Int32.ofNat (r_X2_count_u c i)))) (cwld cI cS c ad) := by
  unfold gN
  refine g_head (by decide) rfl (Nat.le_of_ble_eq_true rfl) ?_
  intro p e s m args below meth cd A F hr hlk hnm
  refine g_eq rfl (L' := [(0, .ref (ad (2 + 22 * i + 5)))]) rfl rfl rfl ?_
  refine g_aload_n F dX2_count_0 0 rfl ?_
  refine f_get F inX2 (pl_RU h_i) rfl 3 (by decide) tb_69 rfl (v := .int (Int32.ofNat (c 13 i 0))) rfl dX2_count_1 ?_
  refine g_aload_n F dX2_count_4 0 rfl ?_
  refine f_get F inX2 (pl_RU h_i) rfl 2 (by decide) tb_68 rfl (v := .int (Int32.ofNat (c 12 i 0))) rfl dX2_count_5 ?_
  refine g_isub F dX2_count_8 ?_
  refine f_code ?_
  exact g_iret F hr hlk dX2_count_9 ⟨congrArg (fun t => some (Value.int (Int32.ofNat t))) rfl, rfl⟩
def w_X2_send_u (c : CS) (i kd vl : Nat) : CS := if Int32.ofNat 27 ≤ Int32.ofNat (c 13 i 0) then c else (su3 (su3 (su3 c 30 i (c 13 i 0) kd) 31 i (c 13 i 0) vl) 13 i 0 ((c 13 i 0) + 1))
abbrev rm_X2_send_u : Room := { frames := 0, cells := 0, slots := 0, locals := 0 }
set_option maxHeartbeats 4000000 in
set_option maxRecDepth 100000 in
theorem k_X2_send_u (l : Launch) (D : va_G) (cI cS cZ : ClassId) (ad : Nat → Nat) (c : CS) (i kd vl : Nat) (h_i : i < 3) (hb : c 13 i 0 ≤ 27) : gN l yX2_send (Cond.code yX2_send cX2_send 3 none :: tb) rm_X2_send_u D cls8 (tys3 cI cS cZ) [.ref (ad (2 + 22 * i + 5)), .int (Int32.ofNat kd), .int (Int32.ofNat vl)] (cwld cI cS c ad) none (cwld cI cS (w_X2_send_u c i kd vl) ad) := by
  unfold gN
  refine g_head (by decide) rfl (Nat.le_of_ble_eq_true rfl) ?_
  intro p e s m args below meth cd A F hr hlk hnm
  refine g_eq rfl (L' := [(0, .ref (ad (2 + 22 * i + 5))), (1, .int (Int32.ofNat kd)), (2, .int (Int32.ofNat vl))]) rfl rfl rfl ?_
  refine g_aload_n F dX2_send_0 0 rfl ?_
  refine f_get F inX2 (pl_RU h_i) rfl 3 (by decide) tb_69 rfl (v := .int (Int32.ofNat (c 13 i 0))) rfl dX2_send_1 ?_
  refine g_aload_n F dX2_send_4 0 rfl ?_
  refine f_get F inX2 (pl_RU h_i) rfl 0 (by decide) tb_66 rfl (v := .ref (ad (2 + 22 * i + 17))) rfl dX2_send_5 ?_
  refine g_alen F _ 0 (pl_30 h_i) rfl (v := Int32.ofNat 27) rfl dX2_send_8 ?_
  refine g_icmp_ge F dX2_send_9 (tgt := 42) rfl (fun h9 => ?_) (fun h9 => ?_)
  · exact g_vret F hr hlk dX2_send_42 ⟨rfl, congrArg (fun t => cwld cI cS t ad) (Eq.symm (by unfold w_X2_send_u; first | simp only [if_pos h9] | rfl))⟩
  · refine g_aload_n F dX2_send_12 0 rfl ?_
    refine f_get F inX2 (pl_RU h_i) rfl 0 (by decide) tb_66 rfl (v := .ref (ad (2 + 22 * i + 17))) rfl dX2_send_13 ?_
    refine g_aload_n F dX2_send_16 0 rfl ?_
    refine f_get F inX2 (pl_RU h_i) rfl 3 (by decide) tb_69 rfl (v := .int (Int32.ofNat (c 13 i 0))) rfl dX2_send_17 ?_
    refine g_iload_n F dX2_send_20 1 rfl ?_
    refine f_ast F 0 (pl_30 h_i) rfl (j := c 13 i 0) (v := kd) (lt_of_nle h9 (by decide) (by omega)) (by decide) dX2_send_21 (ps_30 h_i) ?_
    refine g_aload_n F dX2_send_22 0 rfl ?_
    refine f_get F inX2 (pl_RU h_i) rfl 1 (by decide) tb_67 rfl (v := .ref (ad (2 + 22 * i + 18))) rfl dX2_send_23 ?_
    refine g_aload_n F dX2_send_26 0 rfl ?_
    refine f_get F inX2 (pl_RU h_i) rfl 3 (by decide) tb_69 rfl (v := .int (Int32.ofNat (c 13 i 0))) rfl dX2_send_27 ?_
    refine g_iload_n F dX2_send_30 2 rfl ?_
    refine f_ast F 0 (pl_31 h_i) rfl (j := c 13 i 0) (v := vl) (lt_of_nle h9 (by decide) (by omega)) (by decide) dX2_send_31 (ps_31 h_i) ?_
    refine g_aload_n F dX2_send_32 0 rfl ?_
    refine g_dup F dX2_send_33 rfl ?_
    refine f_get F inX2 (pl_RU h_i) rfl 3 (by decide) tb_69 rfl (v := .int (Int32.ofNat (c 13 i 0))) rfl dX2_send_34 ?_
    refine f_iconst F 1 dX2_send_37 rfl ?_
    refine f_add F dX2_send_38 ?_
    refine f_put F inX2 tyX2_ok nmX2 (pl_RU h_i) rfl 3 (by decide) tb_69 rfl rfl rfl rfl (Nat.le_of_ble_eq_true rfl) dX2_send_39 (ps_13 h_i) ?_
    exact g_vret F hr hlk dX2_send_42 ⟨rfl, congrArg (fun t => cwld cI cS t ad) (Eq.symm (by unfold w_X2_send_u; first | simp only [if_neg h9] | rfl))⟩
def r_X2_firstKind_u (c : CS) (i : Nat) : Nat := if Int32.ofNat (c 13 i 0) ≤ Int32.ofNat (c 12 i 0) then 0 else (c 30 i (c 12 i 0))
abbrev rm_X2_firstKind_u : Room := { frames := 0, cells := 0, slots := 0, locals := 0 }
set_option maxHeartbeats 4000000 in
set_option maxRecDepth 100000 in
theorem k_X2_firstKind_u (l : Launch) (D : va_G) (cI cS cZ : ClassId) (ad : Nat → Nat) (c : CS) (i : Nat) (h_i : i < 3) (hb : c 13 i 0 ≤ 27) (hb2 : c 12 i 0 ≤ 27) : gN l yX2_firstKind (Cond.code yX2_firstKind cX2_firstKind 1 (some .int) :: tb) rm_X2_firstKind_u D cls8 (tys3 cI cS cZ) [.ref (ad (2 + 22 * i + 5))] (cwld cI cS c ad) (some (.int (Int32.ofNat (r_X2_firstKind_u c i)))) (cwld cI cS c ad) := by
  unfold gN
  refine g_head (by decide) rfl (Nat.le_of_ble_eq_true rfl) ?_
  intro p e s m args below meth cd A F hr hlk hnm
  refine g_eq rfl (L' := [(0, .ref (ad (2 + 22 * i + 5)))]) rfl rfl rfl ?_
  refine g_aload_n F dX2_firstKind_0 0 rfl ?_
  refine f_get F inX2 (pl_RU h_i) rfl 2 (by decide) tb_68 rfl (v := .int (Int32.ofNat (c 12 i 0))) rfl dX2_firstKind_1 ?_
  refine g_aload_n F dX2_firstKind_4 0 rfl ?_
  refine f_get F inX2 (pl_RU h_i) rfl 3 (by decide) tb_69 rfl (v := .int (Int32.ofNat (c 13 i 0))) rfl dX2_firstKind_5 ?_
  refine g_icmp_ge F dX2_firstKind_8 (tgt := 23) rfl (fun h8 => ?_) (fun h8 => ?_)
  · refine f_iconst F 0 dX2_firstKind_23 rfl ?_
    exact g_iret F hr hlk dX2_firstKind_24 ⟨congrArg (fun t => some (Value.int (Int32.ofNat t))) (Eq.symm (by unfold r_X2_firstKind_u; first | simp only [if_pos h8] | rfl)), rfl⟩
  · refine g_aload_n F dX2_firstKind_11 0 rfl ?_
    refine f_get F inX2 (pl_RU h_i) rfl 0 (by decide) tb_66 rfl (v := .ref (ad (2 + 22 * i + 17))) rfl dX2_firstKind_12 ?_
    refine g_aload_n F dX2_firstKind_15 0 rfl ?_
    refine f_get F inX2 (pl_RU h_i) rfl 2 (by decide) tb_68 rfl (v := .int (Int32.ofNat (c 12 i 0))) rfl dX2_firstKind_16 ?_
    refine f_ald F 0 (pl_30 h_i) rfl (j := c 12 i 0) (Nat.lt_of_lt_of_le (lt_of_nle h8 (by omega) (by omega)) hb) (by decide) dX2_firstKind_19 ?_
    refine g_goto F dX2_firstKind_20 (tgt := 24) rfl ?_
    exact g_iret F hr hlk dX2_firstKind_24 ⟨congrArg (fun t => some (Value.int (Int32.ofNat t))) (Eq.symm (by unfold r_X2_firstKind_u; first | simp only [if_neg h8] | rfl)), rfl⟩
def r_X2_firstValue_u (c : CS) (i : Nat) : Nat := if Int32.ofNat (c 13 i 0) ≤ Int32.ofNat (c 12 i 0) then 0 else (c 31 i (c 12 i 0))
abbrev rm_X2_firstValue_u : Room := { frames := 0, cells := 0, slots := 0, locals := 0 }
set_option maxHeartbeats 4000000 in
set_option maxRecDepth 100000 in
theorem k_X2_firstValue_u (l : Launch) (D : va_G) (cI cS cZ : ClassId) (ad : Nat → Nat) (c : CS) (i : Nat) (h_i : i < 3) (hb : c 13 i 0 ≤ 27) (hb2 : c 12 i 0 ≤ 27) : gN l yX2_firstValue (Cond.code yX2_firstValue cX2_firstValue 1 (some .int) :: tb) rm_X2_firstValue_u D cls8 (tys3 cI cS cZ) [.ref (ad (2 + 22 * i + 5))] (cwld cI cS c ad) (some (.int (Int32.ofNat (r_X2_firstValue_u c i)))) (cwld cI cS c ad) := by
  unfold gN
  refine g_head (by decide) rfl (Nat.le_of_ble_eq_true rfl) ?_
  intro p e s m args below meth cd A F hr hlk hnm
  refine g_eq rfl (L' := [(0, .ref (ad (2 + 22 * i + 5)))]) rfl rfl rfl ?_
  refine g_aload_n F dX2_firstValue_0 0 rfl ?_
  refine f_get F inX2 (pl_RU h_i) rfl 2 (by decide) tb_68 rfl (v := .int (Int32.ofNat (c 12 i 0))) rfl dX2_firstValue_1 ?_
  refine g_aload_n F dX2_firstValue_4 0 rfl ?_
  refine f_get F inX2 (pl_RU h_i) rfl 3 (by decide) tb_69 rfl (v := .int (Int32.ofNat (c 13 i 0))) rfl dX2_firstValue_5 ?_
  refine g_icmp_ge F dX2_firstValue_8 (tgt := 23) rfl (fun h8 => ?_) (fun h8 => ?_)
  · refine f_iconst F 0 dX2_firstValue_23 rfl ?_
    exact g_iret F hr hlk dX2_firstValue_24 ⟨congrArg (fun t => some (Value.int (Int32.ofNat t))) (Eq.symm (by unfold r_X2_firstValue_u; first | simp only [if_pos h8] | rfl)), rfl⟩
  · refine g_aload_n F dX2_firstValue_11 0 rfl ?_
    refine f_get F inX2 (pl_RU h_i) rfl 1 (by decide) tb_67 rfl (v := .ref (ad (2 + 22 * i + 18))) rfl dX2_firstValue_12 ?_
    refine g_aload_n F dX2_firstValue_15 0 rfl ?_
    refine f_get F inX2 (pl_RU h_i) rfl 2 (by decide) tb_68 rfl (v := .int (Int32.ofNat (c 12 i 0))) rfl dX2_firstValue_16 ?_
    refine f_ald F 0 (pl_31 h_i) rfl (j := c 12 i 0) (Nat.lt_of_lt_of_le (lt_of_nle h8 (by omega) (by omega)) hb) (by decide) dX2_firstValue_19 ?_
    refine g_goto F dX2_firstValue_20 (tgt := 24) rfl ?_
    exact g_iret F hr hlk dX2_firstValue_24 ⟨congrArg (fun t => some (Value.int (Int32.ofNat t))) (Eq.symm (by unfold r_X2_firstValue_u; first | simp only [if_neg h8] | rfl)), rfl⟩
def w_X2_dropFirst_u (c : CS) (i : Nat) : CS := if Int32.ofNat (c 13 i 0) ≤ Int32.ofNat (c 12 i 0) then c else (su3 c 12 i 0 ((c 12 i 0) + 1))
abbrev rm_X2_dropFirst_u : Room := { frames := 0, cells := 0, slots := 0, locals := 0 }
set_option maxHeartbeats 4000000 in
set_option maxRecDepth 100000 in
theorem k_X2_dropFirst_u (l : Launch) (D : va_G) (cI cS cZ : ClassId) (ad : Nat → Nat) (c : CS) (i : Nat) (h_i : i < 3) : gN l yX2_dropFirst (Cond.code yX2_dropFirst cX2_dropFirst 1 none :: tb) rm_X2_dropFirst_u D cls8 (tys3 cI cS cZ) [.ref (ad (2 + 22 * i + 5))] (cwld cI cS c ad) none (cwld cI cS (w_X2_dropFirst_u c i) ad) := by
  unfold gN
  refine g_head (by decide) rfl (Nat.le_of_ble_eq_true rfl) ?_
  intro p e s m args below meth cd A F hr hlk hnm
  refine g_eq rfl (L' := [(0, .ref (ad (2 + 22 * i + 5)))]) rfl rfl rfl ?_
  refine g_aload_n F dX2_dropFirst_0 0 rfl ?_
  refine f_get F inX2 (pl_RU h_i) rfl 2 (by decide) tb_68 rfl (v := .int (Int32.ofNat (c 12 i 0))) rfl dX2_dropFirst_1 ?_
  refine g_aload_n F dX2_dropFirst_4 0 rfl ?_
  refine f_get F inX2 (pl_RU h_i) rfl 3 (by decide) tb_69 rfl (v := .int (Int32.ofNat (c 13 i 0))) rfl dX2_dropFirst_5 ?_
  refine g_icmp_ge F dX2_dropFirst_8 (tgt := 21) rfl (fun h8 => ?_) (fun h8 => ?_)
  · exact g_vret F hr hlk dX2_dropFirst_21 ⟨rfl, congrArg (fun t => cwld cI cS t ad) (Eq.symm (by unfold w_X2_dropFirst_u; first | simp only [if_pos h8] | rfl))⟩
  · refine g_aload_n F dX2_dropFirst_11 0 rfl ?_
    refine g_dup F dX2_dropFirst_12 rfl ?_
    refine f_get F inX2 (pl_RU h_i) rfl 2 (by decide) tb_68 rfl (v := .int (Int32.ofNat (c 12 i 0))) rfl dX2_dropFirst_13 ?_
    refine f_iconst F 1 dX2_dropFirst_16 rfl ?_
    refine f_add F dX2_dropFirst_17 ?_
    refine f_put F inX2 tyX2_ok nmX2 (pl_RU h_i) rfl 2 (by decide) tb_68 rfl rfl rfl rfl (Nat.le_of_ble_eq_true rfl) dX2_dropFirst_18 (ps_12 h_i) ?_
    exact g_vret F hr hlk dX2_dropFirst_21 ⟨rfl, congrArg (fun t => cwld cI cS t ad) (Eq.symm (by unfold w_X2_dropFirst_u; first | simp only [if_neg h8] | rfl))⟩
def w_X2_clear_d (c : CS) (i : Nat) : CS := su3 (su3 c 14 i 0 0) 15 i 0 0
abbrev rm_X2_clear_d : Room := { frames := 0, cells := 0, slots := 0, locals := 0 }
set_option maxHeartbeats 4000000 in
set_option maxRecDepth 100000 in
theorem k_X2_clear_d (l : Launch) (D : va_G) (cI cS cZ : ClassId) (ad : Nat → Nat) (c : CS) (i : Nat) (h_i : i < 3) : gN l yX2_clear (Cond.code yX2_clear cX2_clear 1 none :: tb) rm_X2_clear_d D cls8 (tys3 cI cS cZ) [.ref (ad (2 + 22 * i + 6))] (cwld cI cS c ad) none (cwld cI cS (w_X2_clear_d c i) ad) := by
  unfold gN
  refine g_head (by decide) rfl (Nat.le_of_ble_eq_true rfl) ?_
  intro p e s m args below meth cd A F hr hlk hnm
  refine g_eq rfl (L' := [(0, .ref (ad (2 + 22 * i + 6)))]) rfl rfl rfl ?_
  refine g_aload_n F dX2_clear_0 0 rfl ?_
  refine f_iconst F 0 dX2_clear_1 rfl ?_
  refine f_put F inX2 tyX2_ok nmX2 (pl_RD h_i) rfl 2 (by decide) tb_68 rfl rfl rfl rfl (Nat.le_of_ble_eq_true rfl) dX2_clear_2 (ps_14 h_i) ?_
  refine g_aload_n F dX2_clear_5 0 rfl ?_
  refine f_iconst F 0 dX2_clear_6 rfl ?_
  refine f_put F inX2 tyX2_ok nmX2 (pl_RD h_i) rfl 3 (by decide) tb_69 rfl rfl rfl rfl (Nat.le_of_ble_eq_true rfl) dX2_clear_7 (ps_15 h_i) ?_
  exact g_vret F hr hlk dX2_clear_10 ⟨rfl, congrArg (fun t => cwld cI cS t ad) rfl⟩
def r_X2_count_d (c : CS) (i : Nat) : Nat := nc ((Int32.ofNat (c 15 i 0)) - (Int32.ofNat (c 14 i 0)))
abbrev rm_X2_count_d : Room := { frames := 0, cells := 0, slots := 0, locals := 0 }
set_option maxHeartbeats 4000000 in
set_option maxRecDepth 100000 in
theorem k_X2_count_d (l : Launch) (D : va_G) (cI cS cZ : ClassId) (ad : Nat → Nat) (c : CS) (i : Nat) (h_i : i < 3) : gN l yX2_count (Cond.code yX2_count cX2_count 1 (some .int) :: tb) rm_X2_count_d D cls8 (tys3 cI cS cZ) [.ref (ad (2 + 22 * i + 6))] (cwld cI cS c ad) (some (.int (Int32.ofNat (r_X2_count_d c i)))) (cwld cI cS c ad) := by
  unfold gN
  refine g_head (by decide) rfl (Nat.le_of_ble_eq_true rfl) ?_
  intro p e s m args below meth cd A F hr hlk hnm
  refine g_eq rfl (L' := [(0, .ref (ad (2 + 22 * i + 6)))]) rfl rfl rfl ?_
  refine g_aload_n F dX2_count_0 0 rfl ?_
  refine f_get F inX2 (pl_RD h_i) rfl 3 (by decide) tb_69 rfl (v := .int (Int32.ofNat (c 15 i 0))) rfl dX2_count_1 ?_
  refine g_aload_n F dX2_count_4 0 rfl ?_
  refine f_get F inX2 (pl_RD h_i) rfl 2 (by decide) tb_68 rfl (v := .int (Int32.ofNat (c 14 i 0))) rfl dX2_count_5 ?_
  refine g_isub F dX2_count_8 ?_
  refine f_code ?_
  exact g_iret F hr hlk dX2_count_9 ⟨congrArg (fun t => some (Value.int (Int32.ofNat t))) rfl, rfl⟩
def w_X2_send_d (c : CS) (i kd vl : Nat) : CS := if Int32.ofNat 51 ≤ Int32.ofNat (c 15 i 0) then c else (su3 (su3 (su3 c 32 i (c 15 i 0) kd) 33 i (c 15 i 0) vl) 15 i 0 ((c 15 i 0) + 1))
abbrev rm_X2_send_d : Room := { frames := 0, cells := 0, slots := 0, locals := 0 }
set_option maxHeartbeats 4000000 in
set_option maxRecDepth 100000 in
theorem k_X2_send_d (l : Launch) (D : va_G) (cI cS cZ : ClassId) (ad : Nat → Nat) (c : CS) (i kd vl : Nat) (h_i : i < 3) (hb : c 15 i 0 ≤ 51) : gN l yX2_send (Cond.code yX2_send cX2_send 3 none :: tb) rm_X2_send_d D cls8 (tys3 cI cS cZ) [.ref (ad (2 + 22 * i + 6)), .int (Int32.ofNat kd), .int (Int32.ofNat vl)] (cwld cI cS c ad) none (cwld cI cS (w_X2_send_d c i kd vl) ad) := by
  unfold gN
  refine g_head (by decide) rfl (Nat.le_of_ble_eq_true rfl) ?_
  intro p e s m args below meth cd A F hr hlk hnm
  refine g_eq rfl (L' := [(0, .ref (ad (2 + 22 * i + 6))), (1, .int (Int32.ofNat kd)), (2, .int (Int32.ofNat vl))]) rfl rfl rfl ?_
  refine g_aload_n F dX2_send_0 0 rfl ?_
  refine f_get F inX2 (pl_RD h_i) rfl 3 (by decide) tb_69 rfl (v := .int (Int32.ofNat (c 15 i 0))) rfl dX2_send_1 ?_
  refine g_aload_n F dX2_send_4 0 rfl ?_
  refine f_get F inX2 (pl_RD h_i) rfl 0 (by decide) tb_66 rfl (v := .ref (ad (2 + 22 * i + 19))) rfl dX2_send_5 ?_
  refine g_alen F _ 0 (pl_32 h_i) rfl (v := Int32.ofNat 51) rfl dX2_send_8 ?_
  refine g_icmp_ge F dX2_send_9 (tgt := 42) rfl (fun h9 => ?_) (fun h9 => ?_)
  · exact g_vret F hr hlk dX2_send_42 ⟨rfl, congrArg (fun t => cwld cI cS t ad) (Eq.symm (by unfold w_X2_send_d; first | simp only [if_pos h9] | rfl))⟩
  · refine g_aload_n F dX2_send_12 0 rfl ?_
    refine f_get F inX2 (pl_RD h_i) rfl 0 (by decide) tb_66 rfl (v := .ref (ad (2 + 22 * i + 19))) rfl dX2_send_13 ?_
    refine g_aload_n F dX2_send_16 0 rfl ?_
    refine f_get F inX2 (pl_RD h_i) rfl 3 (by decide) tb_69 rfl (v := .int (Int32.ofNat (c 15 i 0))) rfl dX2_send_17 ?_
    refine g_iload_n F dX2_send_20 1 rfl ?_
    refine f_ast F 0 (pl_32 h_i) rfl (j := c 15 i 0) (v := kd) (lt_of_nle h9 (by decide) (by omega)) (by decide) dX2_send_21 (ps_32 h_i) ?_
    refine g_aload_n F dX2_send_22 0 rfl ?_
    refine f_get F inX2 (pl_RD h_i) rfl 1 (by decide) tb_67 rfl (v := .ref (ad (2 + 22 * i + 20))) rfl dX2_send_23 ?_
    refine g_aload_n F dX2_send_26 0 rfl ?_
    refine f_get F inX2 (pl_RD h_i) rfl 3 (by decide) tb_69 rfl (v := .int (Int32.ofNat (c 15 i 0))) rfl dX2_send_27 ?_
    refine g_iload_n F dX2_send_30 2 rfl ?_
    refine f_ast F 0 (pl_33 h_i) rfl (j := c 15 i 0) (v := vl) (lt_of_nle h9 (by decide) (by omega)) (by decide) dX2_send_31 (ps_33 h_i) ?_
    refine g_aload_n F dX2_send_32 0 rfl ?_
    refine g_dup F dX2_send_33 rfl ?_
    refine f_get F inX2 (pl_RD h_i) rfl 3 (by decide) tb_69 rfl (v := .int (Int32.ofNat (c 15 i 0))) rfl dX2_send_34 ?_
    refine f_iconst F 1 dX2_send_37 rfl ?_
    refine f_add F dX2_send_38 ?_
    refine f_put F inX2 tyX2_ok nmX2 (pl_RD h_i) rfl 3 (by decide) tb_69 rfl rfl rfl rfl (Nat.le_of_ble_eq_true rfl) dX2_send_39 (ps_15 h_i) ?_
    exact g_vret F hr hlk dX2_send_42 ⟨rfl, congrArg (fun t => cwld cI cS t ad) (Eq.symm (by unfold w_X2_send_d; first | simp only [if_neg h9] | rfl))⟩
def r_X2_firstKind_d (c : CS) (i : Nat) : Nat := if Int32.ofNat (c 15 i 0) ≤ Int32.ofNat (c 14 i 0) then 0 else (c 32 i (c 14 i 0))
abbrev rm_X2_firstKind_d : Room := { frames := 0, cells := 0, slots := 0, locals := 0 }
set_option maxHeartbeats 4000000 in
set_option maxRecDepth 100000 in
theorem k_X2_firstKind_d (l : Launch) (D : va_G) (cI cS cZ : ClassId) (ad : Nat → Nat) (c : CS) (i : Nat) (h_i : i < 3) (hb : c 15 i 0 ≤ 51) (hb2 : c 14 i 0 ≤ 51) : gN l yX2_firstKind (Cond.code yX2_firstKind cX2_firstKind 1 (some .int) :: tb) rm_X2_firstKind_d D cls8 (tys3 cI cS cZ) [.ref (ad (2 + 22 * i + 6))] (cwld cI cS c ad) (some (.int (Int32.ofNat (r_X2_firstKind_d c i)))) (cwld cI cS c ad) := by
  unfold gN
  refine g_head (by decide) rfl (Nat.le_of_ble_eq_true rfl) ?_
  intro p e s m args below meth cd A F hr hlk hnm
  refine g_eq rfl (L' := [(0, .ref (ad (2 + 22 * i + 6)))]) rfl rfl rfl ?_
  refine g_aload_n F dX2_firstKind_0 0 rfl ?_
  refine f_get F inX2 (pl_RD h_i) rfl 2 (by decide) tb_68 rfl (v := .int (Int32.ofNat (c 14 i 0))) rfl dX2_firstKind_1 ?_
  refine g_aload_n F dX2_firstKind_4 0 rfl ?_
  refine f_get F inX2 (pl_RD h_i) rfl 3 (by decide) tb_69 rfl (v := .int (Int32.ofNat (c 15 i 0))) rfl dX2_firstKind_5 ?_
  refine g_icmp_ge F dX2_firstKind_8 (tgt := 23) rfl (fun h8 => ?_) (fun h8 => ?_)
  · refine f_iconst F 0 dX2_firstKind_23 rfl ?_
    exact g_iret F hr hlk dX2_firstKind_24 ⟨congrArg (fun t => some (Value.int (Int32.ofNat t))) (Eq.symm (by unfold r_X2_firstKind_d; first | simp only [if_pos h8] | rfl)), rfl⟩
  · refine g_aload_n F dX2_firstKind_11 0 rfl ?_
    refine f_get F inX2 (pl_RD h_i) rfl 0 (by decide) tb_66 rfl (v := .ref (ad (2 + 22 * i + 19))) rfl dX2_firstKind_12 ?_
    refine g_aload_n F dX2_firstKind_15 0 rfl ?_
    refine f_get F inX2 (pl_RD h_i) rfl 2 (by decide) tb_68 rfl (v := .int (Int32.ofNat (c 14 i 0))) rfl dX2_firstKind_16 ?_
    refine f_ald F 0 (pl_32 h_i) rfl (j := c 14 i 0) (Nat.lt_of_lt_of_le (lt_of_nle h8 (by omega) (by omega)) hb) (by decide) dX2_firstKind_19 ?_
    refine g_goto F dX2_firstKind_20 (tgt := 24) rfl ?_
    exact g_iret F hr hlk dX2_firstKind_24 ⟨congrArg (fun t => some (Value.int (Int32.ofNat t))) (Eq.symm (by unfold r_X2_firstKind_d; first | simp only [if_neg h8] | rfl)), rfl⟩
def r_X2_firstValue_d (c : CS) (i : Nat) : Nat := if Int32.ofNat (c 15 i 0) ≤ Int32.ofNat (c 14 i 0) then 0 else (c 33 i (c 14 i 0))
abbrev rm_X2_firstValue_d : Room := { frames := 0, cells := 0, slots := 0, locals := 0 }
set_option maxHeartbeats 4000000 in
set_option maxRecDepth 100000 in
theorem k_X2_firstValue_d (l : Launch) (D : va_G) (cI cS cZ : ClassId) (ad : Nat → Nat) (c : CS) (i : Nat) (h_i : i < 3) (hb : c 15 i 0 ≤ 51) (hb2 : c 14 i 0 ≤ 51) : gN l yX2_firstValue (Cond.code yX2_firstValue cX2_firstValue 1 (some .int) :: tb) rm_X2_firstValue_d D cls8 (tys3 cI cS cZ) [.ref (ad (2 + 22 * i + 6))] (cwld cI cS c ad) (some (.int (Int32.ofNat (r_X2_firstValue_d c i)))) (cwld cI cS c ad) := by
  unfold gN
  refine g_head (by decide) rfl (Nat.le_of_ble_eq_true rfl) ?_
  intro p e s m args below meth cd A F hr hlk hnm
  refine g_eq rfl (L' := [(0, .ref (ad (2 + 22 * i + 6)))]) rfl rfl rfl ?_
  refine g_aload_n F dX2_firstValue_0 0 rfl ?_
  refine f_get F inX2 (pl_RD h_i) rfl 2 (by decide) tb_68 rfl (v := .int (Int32.ofNat (c 14 i 0))) rfl dX2_firstValue_1 ?_
  refine g_aload_n F dX2_firstValue_4 0 rfl ?_
  refine f_get F inX2 (pl_RD h_i) rfl 3 (by decide) tb_69 rfl (v := .int (Int32.ofNat (c 15 i 0))) rfl dX2_firstValue_5 ?_
  refine g_icmp_ge F dX2_firstValue_8 (tgt := 23) rfl (fun h8 => ?_) (fun h8 => ?_)
  · refine f_iconst F 0 dX2_firstValue_23 rfl ?_
    exact g_iret F hr hlk dX2_firstValue_24 ⟨congrArg (fun t => some (Value.int (Int32.ofNat t))) (Eq.symm (by unfold r_X2_firstValue_d; first | simp only [if_pos h8] | rfl)), rfl⟩
  · refine g_aload_n F dX2_firstValue_11 0 rfl ?_
    refine f_get F inX2 (pl_RD h_i) rfl 1 (by decide) tb_67 rfl (v := .ref (ad (2 + 22 * i + 20))) rfl dX2_firstValue_12 ?_
    refine g_aload_n F dX2_firstValue_15 0 rfl ?_
    refine f_get F inX2 (pl_RD h_i) rfl 2 (by decide) tb_68 rfl (v := .int (Int32.ofNat (c 14 i 0))) rfl dX2_firstValue_16 ?_
    refine f_ald F 0 (pl_33 h_i) rfl (j := c 14 i 0) (Nat.lt_of_lt_of_le (lt_of_nle h8 (by omega) (by omega)) hb) (by decide) dX2_firstValue_19 ?_
    refine g_goto F dX2_firstValue_20 (tgt := 24) rfl ?_
    exact g_iret F hr hlk dX2_firstValue_24 ⟨congrArg (fun t => some (Value.int (Int32.ofNat t))) (Eq.symm (by unfold r_X2_firstValue_d; first | simp only [if_neg h8] | rfl)), rfl⟩
def w_X2_dropFirst_d (c : CS) (i : Nat) : CS := if Int32.ofNat (c 15 i 0) ≤ Int32.ofNat (c 14 i 0) then c else (su3 c 14 i 0 ((c 14 i 0) + 1))
abbrev rm_X2_dropFirst_d : Room := { frames := 0, cells := 0, slots := 0, locals := 0 }
set_option maxHeartbeats 4000000 in
set_option maxRecDepth 100000 in
theorem k_X2_dropFirst_d (l : Launch) (D : va_G) (cI cS cZ : ClassId) (ad : Nat → Nat) (c : CS) (i : Nat) (h_i : i < 3) : gN l yX2_dropFirst (Cond.code yX2_dropFirst cX2_dropFirst 1 none :: tb) rm_X2_dropFirst_d D cls8 (tys3 cI cS cZ) [.ref (ad (2 + 22 * i + 6))] (cwld cI cS c ad) none (cwld cI cS (w_X2_dropFirst_d c i) ad) := by
  unfold gN
  refine g_head (by decide) rfl (Nat.le_of_ble_eq_true rfl) ?_
  intro p e s m args below meth cd A F hr hlk hnm
  refine g_eq rfl (L' := [(0, .ref (ad (2 + 22 * i + 6)))]) rfl rfl rfl ?_
  refine g_aload_n F dX2_dropFirst_0 0 rfl ?_
  refine f_get F inX2 (pl_RD h_i) rfl 2 (by decide) tb_68 rfl (v := .int (Int32.ofNat (c 14 i 0))) rfl dX2_dropFirst_1 ?_
  refine g_aload_n F dX2_dropFirst_4 0 rfl ?_
  refine f_get F inX2 (pl_RD h_i) rfl 3 (by decide) tb_69 rfl (v := .int (Int32.ofNat (c 15 i 0))) rfl dX2_dropFirst_5 ?_
  refine g_icmp_ge F dX2_dropFirst_8 (tgt := 21) rfl (fun h8 => ?_) (fun h8 => ?_)
  · exact g_vret F hr hlk dX2_dropFirst_21 ⟨rfl, congrArg (fun t => cwld cI cS t ad) (Eq.symm (by unfold w_X2_dropFirst_d; first | simp only [if_pos h8] | rfl))⟩
  · refine g_aload_n F dX2_dropFirst_11 0 rfl ?_
    refine g_dup F dX2_dropFirst_12 rfl ?_
    refine f_get F inX2 (pl_RD h_i) rfl 2 (by decide) tb_68 rfl (v := .int (Int32.ofNat (c 14 i 0))) rfl dX2_dropFirst_13 ?_
    refine f_iconst F 1 dX2_dropFirst_16 rfl ?_
    refine f_add F dX2_dropFirst_17 ?_
    refine f_put F inX2 tyX2_ok nmX2 (pl_RD h_i) rfl 2 (by decide) tb_68 rfl rfl rfl rfl (Nat.le_of_ble_eq_true rfl) dX2_dropFirst_18 (ps_14 h_i) ?_
    exact g_vret F hr hlk dX2_dropFirst_21 ⟨rfl, congrArg (fun t => cwld cI cS t ad) (Eq.symm (by unfold w_X2_dropFirst_d; first | simp only [if_neg h8] | rfl))⟩
end
section
def w_X4_begin (c : CS) (i : Nat) : CS := su3 (su3 (su3 c 16 i 0 0) 17 i 0 0) 18 i 0 0
abbrev rm_X4_begin : Room := { frames := 0, cells := 0, slots := 0, locals := 0 }
set_option maxHeartbeats 4000000 in
set_option maxRecDepth 100000 in
theorem k_X4_begin (l : Launch) (D : va_G) (cI cS cZ : ClassId) (ad : Nat → Nat) (c : CS) (i : Nat) (h_i : i < 3) : gN l yX4_begin (Cond.code yX4_begin cX4_begin 1 none :: tb) rm_X4_begin D cls8 (tys3 cI cS cZ) [.ref (ad (2 + 22 * i + 4))] (cwld cI cS c ad) none (cwld cI cS (w_X4_begin c i) ad) := by
  unfold gN
  refine g_head (by decide) rfl (Nat.le_of_ble_eq_true rfl) ?_
  intro p e s m args below meth cd A F hr hlk hnm
  refine g_eq rfl (L' := [(0, .ref (ad (2 + 22 * i + 4)))]) rfl rfl rfl ?_
  refine g_aload_n F dX4_begin_0 0 rfl ?_
  refine f_iconst F 0 dX4_begin_1 rfl ?_
  refine f_put F inX4 tyX4_ok nmX4 (pl_TM h_i) rfl 0 (by decide) tb_89 rfl rfl rfl rfl (Nat.le_of_ble_eq_true rfl) dX4_begin_2 (ps_16 h_i) ?_
  refine g_aload_n F dX4_begin_5 0 rfl ?_
  refine f_iconst F 0 dX4_begin_6 rfl ?_
  refine f_put F inX4 tyX4_ok nmX4 (pl_TM h_i) rfl 1 (by decide) tb_90 rfl rfl rfl rfl (Nat.le_of_ble_eq_true rfl) dX4_begin_7 (ps_17 h_i) ?_
  refine g_aload_n F dX4_begin_10 0 rfl ?_
  refine f_iconst F 0 dX4_begin_11 rfl ?_
  refine f_put F inX4 tyX4_ok nmX4 (pl_TM h_i) rfl 2 (by decide) tb_91 rfl rfl rfl rfl (Nat.le_of_ble_eq_true rfl) dX4_begin_12 (ps_18 h_i) ?_
  exact g_vret F hr hlk dX4_begin_15 ⟨rfl, congrArg (fun t => cwld cI cS t ad) rfl⟩
def w_X1_clear (c : CS) (i : Nat) : CS := su3 (su3 (su3 (w_X2_clear_d (w_X2_clear_u c i) i) 9 i 0 0) 10 i 0 0) 11 i 0 0
abbrev rm_X1_clear : Room := { frames := 1, cells := 0, slots := 0, locals := 20 }
set_option maxHeartbeats 4000000 in
set_option maxRecDepth 100000 in
theorem k_X1_clear (l : Launch) (D : va_G) (cI cS cZ : ClassId) (ad : Nat → Nat) (c : CS) (i : Nat) (h_i : i < 3) : gN l yX1_clear (Cond.code yX1_clear cX1_clear 1 none :: tb) rm_X1_clear D cls8 (tys3 cI cS cZ) [.ref (ad (2 + 22 * i + 3))] (cwld cI cS c ad) none (cwld cI cS (w_X1_clear c i) ad) := by
  unfold gN
  refine g_head (by decide) rfl (Nat.le_of_ble_eq_true rfl) ?_
  intro p e s m args below meth cd A F hr hlk hnm
  refine g_eq rfl (L' := [(0, .ref (ad (2 + 22 * i + 3)))]) rfl rfl rfl ?_
  refine g_aload_n F dX1_clear_0 0 rfl ?_
  refine f_get F inX1 (pl_LK h_i) rfl 0 (by decide) tb_74 rfl (v := .ref (ad (2 + 22 * i + 5))) rfl dX1_clear_1 ?_
  refine f_callVN F (As := []) (rest := []) (st' := []) (k_X2_clear_u l D cI cS cZ ad c i h_i) (pl_RU h_i) rfl tb_149 nb_36 tb_148 tb_525 tb_5 hdX2_clear ⟨rfl, rfl⟩ ⟨Nat.le_of_ble_eq_true rfl, Nat.le_of_ble_eq_true rfl⟩ cw_adr rfl rfl (Nat.le_of_ble_eq_true rfl) ⟨Nat.le_refl _, Nat.le_refl _⟩ dX1_clear_4 rfl ?_
  refine g_aload_n F dX1_clear_7 0 rfl ?_
  refine f_get F inX1 (pl_LK h_i) rfl 1 (by decide) tb_75 rfl (v := .ref (ad (2 + 22 * i + 6))) rfl dX1_clear_8 ?_
  refine f_callVN F (As := []) (rest := []) (st' := []) (k_X2_clear_d l D cI cS cZ ad (w_X2_clear_u c i) i h_i) (pl_RD h_i) rfl tb_149 nb_36 tb_148 tb_525 tb_5 hdX2_clear ⟨rfl, rfl⟩ ⟨Nat.le_of_ble_eq_true rfl, Nat.le_of_ble_eq_true rfl⟩ cw_adr rfl rfl (Nat.le_of_ble_eq_true rfl) ⟨Nat.le_refl _, Nat.le_refl _⟩ dX1_clear_11 rfl ?_
  refine g_aload_n F dX1_clear_14 0 rfl ?_
  refine f_iconst F 0 dX1_clear_15 rfl ?_
  refine f_put F inX1 tyX1_ok nmX1 (pl_LK h_i) rfl 2 (by decide) tb_76 rfl rfl rfl rfl (Nat.le_of_ble_eq_true rfl) dX1_clear_16 (ps_9 h_i) ?_
  refine g_aload_n F dX1_clear_19 0 rfl ?_
  refine f_iconst F 0 dX1_clear_20 rfl ?_
  refine f_put F inX1 tyX1_ok nmX1 (pl_LK h_i) rfl 3 (by decide) tb_77 rfl rfl rfl rfl (Nat.le_of_ble_eq_true rfl) dX1_clear_21 (ps_10 h_i) ?_
  refine g_aload_n F dX1_clear_24 0 rfl ?_
  refine f_iconst F 0 dX1_clear_25 rfl ?_
  refine f_put F inX1 tyX1_ok nmX1 (pl_LK h_i) rfl 4 (by decide) tb_78 rfl rfl rfl rfl (Nat.le_of_ble_eq_true rfl) dX1_clear_26 (ps_11 h_i) ?_
  exact g_vret F hr hlk dX1_clear_29 ⟨rfl, congrArg (fun t => cwld cI cS t ad) rfl⟩
def r_X0_isFull (c : CS) (i : Nat) : Nat := if Int32.ofNat (c 6 i 0) < Int32.ofNat 24 then 0 else 1
abbrev rm_X0_isFull : Room := { frames := 0, cells := 0, slots := 0, locals := 0 }
set_option maxHeartbeats 4000000 in
set_option maxRecDepth 100000 in
theorem k_X0_isFull (l : Launch) (D : va_G) (cI cS cZ : ClassId) (ad : Nat → Nat) (c : CS) (i : Nat) (h_i : i < 3) : gN l yX0_isFull (Cond.code yX0_isFull cX0_isFull 1 (some .boolean) :: tb) rm_X0_isFull D cls8 (tys3 cI cS cZ) [.ref (ad (2 + 22 * i + 1))] (cwld cI cS c ad) (some (.int (Int32.ofNat (r_X0_isFull c i)))) (cwld cI cS c ad) := by
  unfold gN
  refine g_head (by decide) rfl (Nat.le_of_ble_eq_true rfl) ?_
  intro p e s m args below meth cd A F hr hlk hnm
  refine g_eq rfl (L' := [(0, .ref (ad (2 + 22 * i + 1)))]) rfl rfl rfl ?_
  refine g_aload_n F dX0_isFull_0 0 rfl ?_
  refine f_get F inX0 (pl_EL h_i) rfl 5 (by decide) tb_31 rfl (v := .int (Int32.ofNat (c 6 i 0))) rfl dX0_isFull_1 ?_
  refine f_bipush F 24 dX0_isFull_4 rfl ?_
  refine g_icmp_lt F dX0_isFull_6 (tgt := 13) rfl (fun h6 => ?_) (fun h6 => ?_)
  · refine f_iconst F 0 dX0_isFull_13 rfl ?_
    exact g_zret F hr hlk rfl dX0_isFull_14 ⟨congrArg (fun t => some (Value.int (Int32.ofNat t))) (Eq.symm (by unfold r_X0_isFull; first | simp only [if_pos h6] | rfl)), rfl⟩
  · refine f_iconst F 1 dX0_isFull_9 rfl ?_
    refine g_goto F dX0_isFull_10 (tgt := 14) rfl ?_
    exact g_zret F hr hlk rfl dX0_isFull_14 ⟨congrArg (fun t => some (Value.int (Int32.ofNat t))) (Eq.symm (by unfold r_X0_isFull; first | simp only [if_neg h6] | rfl)), rfl⟩
theorem isFull0 {c : CS} {i : Nat} (hb : c 6 i 0 ≤ 24) (h : Int32.ofNat (r_X0_isFull c i) = 0) : c 6 i 0 < 24 := by
  unfold r_X0_isFull at h
  split at h
  · rename_i h1; rw [ofN_lt (by omega) (by decide)] at h1; exact h1
  · exact absurd h (by decide)
def r_X0_markAt (c : CS) (i k : Nat) : Nat := if Int32.ofNat k < Int32.ofNat 1 then 0 else (if Int32.ofNat (c 6 i 0) < Int32.ofNat k then 0 else (c 20 i (k - 1)))
abbrev rm_X0_markAt : Room := { frames := 0, cells := 0, slots := 0, locals := 0 }
set_option maxHeartbeats 4000000 in
set_option maxRecDepth 100000 in
theorem k_X0_markAt (l : Launch) (D : va_G) (cI cS cZ : ClassId) (ad : Nat → Nat) (c : CS) (i k : Nat) (h_i : i < 3) (hb : c 6 i 0 ≤ 24) (hk : k < 4294967296) : gN l yX0_markAt (Cond.code yX0_markAt cX0_markAt 2 (some .int) :: tb) rm_X0_markAt D cls8 (tys3 cI cS cZ) [.ref (ad (2 + 22 * i + 1)), .int (Int32.ofNat k)] (cwld cI cS c ad) (some (.int (Int32.ofNat (r_X0_markAt c i k)))) (cwld cI cS c ad) := by
  unfold gN
  refine g_head (by decide) rfl (Nat.le_of_ble_eq_true rfl) ?_
  intro p e s m args below meth cd A F hr hlk hnm
  refine g_eq rfl (L' := [(0, .ref (ad (2 + 22 * i + 1))), (1, .int (Int32.ofNat k))]) rfl rfl rfl ?_
  refine g_iload_n F dX0_markAt_0 1 rfl ?_
  refine f_iconst F 1 dX0_markAt_1 rfl ?_
  refine g_icmp_lt F dX0_markAt_2 (tgt := 24) rfl (fun h2 => ?_) (fun h2 => ?_)
  · refine f_iconst F 0 dX0_markAt_24 rfl ?_
    exact g_iret F hr hlk dX0_markAt_25 ⟨congrArg (fun t => some (Value.int (Int32.ofNat t))) (Eq.symm (by unfold r_X0_markAt; first | simp only [if_pos h2] | rfl)), rfl⟩
  · refine g_iload_n F dX0_markAt_5 1 rfl ?_
    refine g_aload_n F dX0_markAt_6 0 rfl ?_
    refine f_get F inX0 (pl_EL h_i) rfl 5 (by decide) tb_31 rfl (v := .int (Int32.ofNat (c 6 i 0))) rfl dX0_markAt_7 ?_
    refine g_icmp_gt F dX0_markAt_10 (tgt := 24) rfl (fun h10 => ?_) (fun h10 => ?_)
    · refine f_iconst F 0 dX0_markAt_24 rfl ?_
      exact g_iret F hr hlk dX0_markAt_25 ⟨congrArg (fun t => some (Value.int (Int32.ofNat t))) (Eq.symm (by unfold r_X0_markAt; first | simp only [if_neg h2, if_pos h10] | rfl)), rfl⟩
    · refine g_aload_n F dX0_markAt_13 0 rfl ?_
      refine f_get F inX0 (pl_EL h_i) rfl 0 (by decide) tb_26 rfl (v := .ref (ad (2 + 22 * i + 7))) rfl dX0_markAt_14 ?_
      refine g_iload_n F dX0_markAt_17 1 rfl ?_
      refine f_iconst F 1 dX0_markAt_18 rfl ?_
      refine f_sub F (code_ge h2 hk (by decide)).1 dX0_markAt_19 ?_
      refine f_ald F 0 (pl_20 h_i) rfl (j := k - 1) (by have := code_ge h2 hk (by decide); have := nlt_le h10 (by omega) (by omega); omega) (by decide) dX0_markAt_20 ?_
      refine g_goto F dX0_markAt_21 (tgt := 25) rfl ?_
      exact g_iret F hr hlk dX0_markAt_25 ⟨congrArg (fun t => some (Value.int (Int32.ofNat t))) (Eq.symm (by unfold r_X0_markAt; first | simp only [if_neg h2, if_neg h10] | rfl)), rfl⟩
def r_X0_lastMark (c : CS) (i : Nat) : Nat := r_X0_markAt c i (c 6 i 0)
abbrev rm_X0_lastMark : Room := { frames := 1, cells := 0, slots := 0, locals := 21 }
set_option maxHeartbeats 4000000 in
set_option maxRecDepth 100000 in
theorem k_X0_lastMark (l : Launch) (D : va_G) (cI cS cZ : ClassId) (ad : Nat → Nat) (c : CS) (i : Nat) (h_i : i < 3) (hb : c 6 i 0 ≤ 24) : gN l yX0_lastMark (Cond.code yX0_lastMark cX0_lastMark 1 (some .int) :: tb) rm_X0_lastMark D cls8 (tys3 cI cS cZ) [.ref (ad (2 + 22 * i + 1))] (cwld cI cS c ad) (some (.int (Int32.ofNat (r_X0_lastMark c i)))) (cwld cI cS c ad) := by
  unfold gN
  refine g_head (by decide) rfl (Nat.le_of_ble_eq_true rfl) ?_
  intro p e s m args below meth cd A F hr hlk hnm
  refine g_eq rfl (L' := [(0, .ref (ad (2 + 22 * i + 1)))]) rfl rfl rfl ?_
  refine g_aload_n F dX0_lastMark_0 0 rfl ?_
  refine g_aload_n F dX0_lastMark_1 0 rfl ?_
  refine f_get F inX0 (pl_EL h_i) rfl 5 (by decide) tb_31 rfl (v := .int (Int32.ofNat (c 6 i 0))) rfl dX0_lastMark_2 ?_
  refine f_callV F (As := [.int (Int32.ofNat (c 6 i 0))]) (rest := []) (st' := [.int (Int32.ofNat (r_X0_markAt c i (c 6 i 0)))]) (k_X0_markAt l D cI cS cZ ad c i (c 6 i 0) h_i (by assumption) (by omega)) (pl_EL h_i) rfl tb_190 tb_188 tb_189 tb_534 tb_2 ⟨rfl, hdX0_markAt⟩ ⟨rfl, rfl⟩ ⟨Nat.le_of_ble_eq_true rfl, Nat.le_of_ble_eq_true rfl⟩ cw_adr rfl rfl (Nat.le_of_ble_eq_true rfl) ⟨Nat.le_refl _, Nat.le_refl _⟩ dX0_lastMark_5 rfl ?_
  exact g_iret F hr hlk dX0_lastMark_8 ⟨congrArg (fun t => some (Value.int (Int32.ofNat t))) rfl, rfl⟩
def w_X0_append (c : CS) (i mk kd pa va vb : Nat) : CS := if Int32.ofNat (r_X0_isFull c i) = 0 then (su3 (su3 (su3 (su3 (su3 (su3 c 20 i (c 6 i 0) mk) 21 i (c 6 i 0) kd) 22 i (c 6 i 0) pa) 23 i (c 6 i 0) va) 24 i (c 6 i 0) vb) 6 i 0 ((c 6 i 0) + 1)) else c
abbrev rm_X0_append : Room := { frames := 1, cells := 0, slots := 0, locals := 20 }
set_option maxHeartbeats 4000000 in
set_option maxRecDepth 100000 in
theorem k_X0_append (l : Launch) (D : va_G) (cI cS cZ : ClassId) (ad : Nat → Nat) (c : CS) (i mk kd pa va vb : Nat) (h_i : i < 3) (hb : c 6 i 0 ≤ 24) : gN l yX0_append (Cond.code yX0_append cX0_append 6 none :: tb) rm_X0_append D cls8 (tys3 cI cS cZ) [.ref (ad (2 + 22 * i + 1)), .int (Int32.ofNat mk), .int (Int32.ofNat kd), .int (Int32.ofNat pa), .int (Int32.ofNat va), .int (Int32.ofNat vb)] (cwld cI cS c ad) none (cwld cI cS (w_X0_append c i mk kd pa va vb) ad) := by
  unfold gN
  refine g_head (by decide) rfl (Nat.le_of_ble_eq_true rfl) ?_
  intro p e s m args below meth cd A F hr hlk hnm
  refine g_eq rfl (L' := [(0, .ref (ad (2 + 22 * i + 1))), (1, .int (Int32.ofNat mk)), (2, .int (Int32.ofNat kd)), (3, .int (Int32.ofNat pa)), (4, .int (Int32.ofNat va)), (5, .int (Int32.ofNat vb))]) rfl rfl rfl ?_
  refine g_aload_n F dX0_append_0 0 rfl ?_
  refine f_callV F (As := []) (rest := []) (st' := [.int (Int32.ofNat (r_X0_isFull c i))]) (k_X0_isFull l D cI cS cZ ad c i h_i) (pl_EL h_i) rfl tb_201 tb_199 tb_200 tb_538 tb_2 ⟨rfl, hdX0_isFull⟩ ⟨rfl, rfl⟩ ⟨Nat.le_of_ble_eq_true rfl, Nat.le_of_ble_eq_true rfl⟩ cw_adr rfl rfl (Nat.le_of_ble_eq_true rfl) ⟨Nat.le_refl _, Nat.le_refl _⟩ dX0_append_1 rfl ?_
  refine g_if_eq F dX0_append_4 (tgt := 8) rfl (fun h4 => ?_) (fun h4 => ?_)
  · refine g_aload_n F dX0_append_8 0 rfl ?_
    refine f_get F inX0 (pl_EL h_i) rfl 0 (by decide) tb_26 rfl (v := .ref (ad (2 + 22 * i + 7))) rfl dX0_append_9 ?_
    refine g_aload_n F dX0_append_12 0 rfl ?_
    refine f_get F inX0 (pl_EL h_i) rfl 5 (by decide) tb_31 rfl (v := .int (Int32.ofNat (c 6 i 0))) rfl dX0_append_13 ?_
    refine g_iload_n F dX0_append_16 1 rfl ?_
    refine f_ast F 0 (pl_20 h_i) rfl (j := c 6 i 0) (v := mk) (isFull0 hb h4) (by decide) dX0_append_17 (ps_20 h_i) ?_
    refine g_aload_n F dX0_append_18 0 rfl ?_
    refine f_get F inX0 (pl_EL h_i) rfl 1 (by decide) tb_27 rfl (v := .ref (ad (2 + 22 * i + 8))) rfl dX0_append_19 ?_
    refine g_aload_n F dX0_append_22 0 rfl ?_
    refine f_get F inX0 (pl_EL h_i) rfl 5 (by decide) tb_31 rfl (v := .int (Int32.ofNat (c 6 i 0))) rfl dX0_append_23 ?_
    refine g_iload_n F dX0_append_26 2 rfl ?_
    refine f_ast F 0 (pl_21 h_i) rfl (j := c 6 i 0) (v := kd) (isFull0 hb h4) (by decide) dX0_append_27 (ps_21 h_i) ?_
    refine g_aload_n F dX0_append_28 0 rfl ?_
    refine f_get F inX0 (pl_EL h_i) rfl 2 (by decide) tb_28 rfl (v := .ref (ad (2 + 22 * i + 9))) rfl dX0_append_29 ?_
    refine g_aload_n F dX0_append_32 0 rfl ?_
    refine f_get F inX0 (pl_EL h_i) rfl 5 (by decide) tb_31 rfl (v := .int (Int32.ofNat (c 6 i 0))) rfl dX0_append_33 ?_
    refine g_iload_n F dX0_append_36 3 rfl ?_
    refine f_ast F 0 (pl_22 h_i) rfl (j := c 6 i 0) (v := pa) (isFull0 hb h4) (by decide) dX0_append_37 (ps_22 h_i) ?_
    refine g_aload_n F dX0_append_38 0 rfl ?_
    refine f_get F inX0 (pl_EL h_i) rfl 3 (by decide) tb_29 rfl (v := .ref (ad (2 + 22 * i + 10))) rfl dX0_append_39 ?_
    refine g_aload_n F dX0_append_42 0 rfl ?_
    refine f_get F inX0 (pl_EL h_i) rfl 5 (by decide) tb_31 rfl (v := .int (Int32.ofNat (c 6 i 0))) rfl dX0_append_43 ?_
    refine g_iload F dX0_append_46 4 rfl ?_
    refine f_ast F 0 (pl_23 h_i) rfl (j := c 6 i 0) (v := va) (isFull0 hb h4) (by decide) dX0_append_48 (ps_23 h_i) ?_
    refine g_aload_n F dX0_append_49 0 rfl ?_
    refine f_get F inX0 (pl_EL h_i) rfl 4 (by decide) tb_30 rfl (v := .ref (ad (2 + 22 * i + 11))) rfl dX0_append_50 ?_
    refine g_aload_n F dX0_append_53 0 rfl ?_
    refine f_get F inX0 (pl_EL h_i) rfl 5 (by decide) tb_31 rfl (v := .int (Int32.ofNat (c 6 i 0))) rfl dX0_append_54 ?_
    refine g_iload F dX0_append_57 5 rfl ?_
    refine f_ast F 0 (pl_24 h_i) rfl (j := c 6 i 0) (v := vb) (isFull0 hb h4) (by decide) dX0_append_59 (ps_24 h_i) ?_
    refine g_aload_n F dX0_append_60 0 rfl ?_
    refine g_dup F dX0_append_61 rfl ?_
    refine f_get F inX0 (pl_EL h_i) rfl 5 (by decide) tb_31 rfl (v := .int (Int32.ofNat (c 6 i 0))) rfl dX0_append_62 ?_
    refine f_iconst F 1 dX0_append_65 rfl ?_
    refine f_add F dX0_append_66 ?_
    refine f_put F inX0 tyX0_ok nmX0 (pl_EL h_i) rfl 5 (by decide) tb_31 rfl rfl rfl rfl (Nat.le_of_ble_eq_true rfl) dX0_append_67 (ps_6 h_i) ?_
    exact g_vret F hr hlk dX0_append_70 ⟨rfl, congrArg (fun t => cwld cI cS t ad) (Eq.symm (by unfold w_X0_append; first | simp only [if_pos h4] | rfl))⟩
  · exact g_vret F hr hlk dX0_append_7 ⟨rfl, congrArg (fun t => cwld cI cS t ad) (Eq.symm (by unfold w_X0_append; first | simp only [if_neg h4] | rfl))⟩
def w_X0_appendFrom (c : CS) (i o k : Nat) : CS := if Int32.ofNat k < Int32.ofNat 1 then c else (if Int32.ofNat (c 6 o 0) < Int32.ofNat k then c else (w_X0_append c i (c 20 o (k - 1)) (c 21 o (k - 1)) (c 22 o (k - 1)) (c 23 o (k - 1)) (c 24 o (k - 1))))
abbrev rm_X0_appendFrom : Room := { frames := 2, cells := 0, slots := 0, locals := 45 }
set_option maxHeartbeats 4000000 in
set_option maxRecDepth 100000 in
theorem k_X0_appendFrom (l : Launch) (D : va_G) (cI cS cZ : ClassId) (ad : Nat → Nat) (c : CS) (i o k : Nat) (h_i : i < 3) (h_o : o < 3) (hb : c 6 i 0 ≤ 24) (hb2 : c 6 o 0 ≤ 24) (hk : k < 4294967296) : gN l yX0_appendFrom (Cond.code yX0_appendFrom cX0_appendFrom 4 none :: tb) rm_X0_appendFrom D cls8 (tys3 cI cS cZ) [.ref (ad (2 + 22 * i + 1)), .ref (ad (2 + 22 * o + 1)), .int (Int32.ofNat k)] (cwld cI cS c ad) none (cwld cI cS (w_X0_appendFrom c i o k) ad) := by
  unfold gN
  refine g_head (by decide) rfl (Nat.le_of_ble_eq_true rfl) ?_
  intro p e s m args below meth cd A F hr hlk hnm
  refine g_eq rfl (L' := [(0, .ref (ad (2 + 22 * i + 1))), (1, .ref (ad (2 + 22 * o + 1))), (2, .int (Int32.ofNat k))]) rfl rfl rfl ?_
  refine g_iload_n F dX0_appendFrom_0 2 rfl ?_
  refine f_iconst F 1 dX0_appendFrom_1 rfl ?_
  refine g_icmp_lt F dX0_appendFrom_2 (tgt := 51) rfl (fun h2 => ?_) (fun h2 => ?_)
  · exact g_vret F hr hlk dX0_appendFrom_51 ⟨rfl, congrArg (fun t => cwld cI cS t ad) (Eq.symm (by unfold w_X0_appendFrom; first | simp only [if_pos h2] | rfl))⟩
  · refine g_iload_n F dX0_appendFrom_5 2 rfl ?_
    refine g_aload_n F dX0_appendFrom_6 1 rfl ?_
    refine f_get F inX0 (pl_EL h_o) rfl 5 (by decide) tb_31 rfl (v := .int (Int32.ofNat (c 6 o 0))) rfl dX0_appendFrom_7 ?_
    refine g_icmp_gt F dX0_appendFrom_10 (tgt := 51) rfl (fun h10 => ?_) (fun h10 => ?_)
    · exact g_vret F hr hlk dX0_appendFrom_51 ⟨rfl, congrArg (fun t => cwld cI cS t ad) (Eq.symm (by unfold w_X0_appendFrom; first | simp only [if_neg h2, if_pos h10] | rfl))⟩
    · refine g_iload_n F dX0_appendFrom_13 2 rfl ?_
      refine f_iconst F 1 dX0_appendFrom_14 rfl ?_
      refine f_sub F (code_ge h2 hk (by decide)).1 dX0_appendFrom_15 ?_
      refine g_istore_n F [(3, .int (Int32.ofNat (k - 1))), (0, .ref (ad (2 + 22 * i + 1))), (1, .ref (ad (2 + 22 * o + 1))), (2, .int (Int32.ofNat k))] dX0_appendFrom_16 (by decide) rfl ?_
      refine g_aload_n F dX0_appendFrom_17 1 rfl ?_
      refine g_aload_n F dX0_appendFrom_18 2 rfl ?_
      refine f_get F inX0 (pl_EL h_o) rfl 0 (by decide) tb_26 rfl (v := .ref (ad (2 + 22 * o + 7))) rfl dX0_appendFrom_19 ?_
      refine g_iload_n F dX0_appendFrom_22 0 rfl ?_
      refine f_ald F 0 (pl_20 h_o) rfl (j := k - 1) (by have := code_ge h2 hk (by decide); have := nlt_le h10 (by omega) (by omega); omega) (by decide) dX0_appendFrom_23 ?_
      refine g_aload_n F dX0_appendFrom_24 2 rfl ?_
      refine f_get F inX0 (pl_EL h_o) rfl 1 (by decide) tb_27 rfl (v := .ref (ad (2 + 22 * o + 8))) rfl dX0_appendFrom_25 ?_
      refine g_iload_n F dX0_appendFrom_28 0 rfl ?_
      refine f_ald F 0 (pl_21 h_o) rfl (j := k - 1) (by have := code_ge h2 hk (by decide); have := nlt_le h10 (by omega) (by omega); omega) (by decide) dX0_appendFrom_29 ?_
      refine g_aload_n F dX0_appendFrom_30 2 rfl ?_
      refine f_get F inX0 (pl_EL h_o) rfl 2 (by decide) tb_28 rfl (v := .ref (ad (2 + 22 * o + 9))) rfl dX0_appendFrom_31 ?_
      refine g_iload_n F dX0_appendFrom_34 0 rfl ?_
      refine f_ald F 0 (pl_22 h_o) rfl (j := k - 1) (by have := code_ge h2 hk (by decide); have := nlt_le h10 (by omega) (by omega); omega) (by decide) dX0_appendFrom_35 ?_
      refine g_aload_n F dX0_appendFrom_36 2 rfl ?_
      refine f_get F inX0 (pl_EL h_o) rfl 3 (by decide) tb_29 rfl (v := .ref (ad (2 + 22 * o + 10))) rfl dX0_appendFrom_37 ?_
      refine g_iload_n F dX0_appendFrom_40 0 rfl ?_
      refine f_ald F 0 (pl_23 h_o) rfl (j := k - 1) (by have := code_ge h2 hk (by decide); have := nlt_le h10 (by omega) (by omega); omega) (by decide) dX0_appendFrom_41 ?_
      refine g_aload_n F dX0_appendFrom_42 2 rfl ?_
      refine f_get F inX0 (pl_EL h_o) rfl 4 (by decide) tb_30 rfl (v := .ref (ad (2 + 22 * o + 11))) rfl dX0_appendFrom_43 ?_
      refine g_iload_n F dX0_appendFrom_46 0 rfl ?_
      refine f_ald F 0 (pl_24 h_o) rfl (j := k - 1) (by have := code_ge h2 hk (by decide); have := nlt_le h10 (by omega) (by omega); omega) (by decide) dX0_appendFrom_47 ?_
      refine f_callV F (As := [.int (Int32.ofNat (c 20 o (k - 1))), .int (Int32.ofNat (c 21 o (k - 1))), .int (Int32.ofNat (c 22 o (k - 1))), .int (Int32.ofNat (c 23 o (k - 1))), .int (Int32.ofNat (c 24 o (k - 1)))]) (rest := []) (st' := []) (k_X0_append l D cI cS cZ ad c i (c 20 o (k - 1)) (c 21 o (k - 1)) (c 22 o (k - 1)) (c 23 o (k - 1)) (c 24 o (k - 1)) h_i (by assumption)) (pl_EL h_i) rfl tb_198 tb_196 tb_197 tb_537 tb_2 ⟨rfl, hdX0_append⟩ ⟨rfl, rfl⟩ ⟨Nat.le_of_ble_eq_true rfl, Nat.le_of_ble_eq_true rfl⟩ cw_adr rfl rfl (Nat.le_of_ble_eq_true rfl) ⟨Nat.le_refl _, Nat.le_refl _⟩ dX0_appendFrom_48 rfl ?_
      exact g_vret F hr hlk dX0_appendFrom_51 ⟨rfl, congrArg (fun t => cwld cI cS t ad) (Eq.symm (by unfold w_X0_appendFrom; first | simp only [if_neg h2, if_neg h10] | rfl))⟩
def r_X6_isServer (c : CS) (v : Nat) : Nat := if Int32.ofNat v < 0 then 0 else (if Int32.ofNat 3 ≤ Int32.ofNat v then 0 else 1)
abbrev rm_X6_isServer : Room := { frames := 0, cells := 0, slots := 0, locals := 0 }
set_option maxHeartbeats 4000000 in
set_option maxRecDepth 100000 in
theorem k_X6_isServer (l : Launch) (D : va_G) (cI cS cZ : ClassId) (ad : Nat → Nat) (c : CS) (v : Nat) : gN l yX6_isServer (Cond.code yX6_isServer cX6_isServer 1 (some .boolean) :: tb) rm_X6_isServer D cls8 (tys3 cI cS cZ) [.int (Int32.ofNat v)] (cwld cI cS c ad) (some (.int (Int32.ofNat (r_X6_isServer c v)))) (cwld cI cS c ad) := by
  unfold gN
  refine g_head (by decide) rfl (Nat.le_of_ble_eq_true rfl) ?_
  intro p e s m args below meth cd A F hr hlk hnm
  refine g_eq rfl (L' := [(0, .int (Int32.ofNat v))]) rfl rfl rfl ?_
  refine g_iload_n F dX6_isServer_0 0 rfl ?_
  refine g_if_lt F dX6_isServer_1 (tgt := 13) rfl (fun h1 => ?_) (fun h1 => ?_)
  · refine f_iconst F 0 dX6_isServer_13 rfl ?_
    exact g_zret F hr hlk rfl dX6_isServer_14 ⟨congrArg (fun t => some (Value.int (Int32.ofNat t))) (Eq.symm (by unfold r_X6_isServer; first | simp only [if_pos h1] | rfl)), rfl⟩
  · refine g_iload_n F dX6_isServer_4 0 rfl ?_
    refine f_iconst F 3 dX6_isServer_5 rfl ?_
    refine g_icmp_ge F dX6_isServer_6 (tgt := 13) rfl (fun h6 => ?_) (fun h6 => ?_)
    · refine f_iconst F 0 dX6_isServer_13 rfl ?_
      exact g_zret F hr hlk rfl dX6_isServer_14 ⟨congrArg (fun t => some (Value.int (Int32.ofNat t))) (Eq.symm (by unfold r_X6_isServer; first | simp only [if_neg h1, if_pos h6] | rfl)), rfl⟩
    · refine f_iconst F 1 dX6_isServer_9 rfl ?_
      refine g_goto F dX6_isServer_10 (tgt := 14) rfl ?_
      exact g_zret F hr hlk rfl dX6_isServer_14 ⟨congrArg (fun t => some (Value.int (Int32.ofNat t))) (Eq.symm (by unfold r_X6_isServer; first | simp only [if_neg h1, if_neg h6] | rfl)), rfl⟩
def r_X6_isSession (c : CS) (v : Nat) : Nat := if Int32.ofNat v < Int32.ofNat 1 then 0 else (if Int32.ofNat 4 < Int32.ofNat v then 0 else 1)
abbrev rm_X6_isSession : Room := { frames := 0, cells := 0, slots := 0, locals := 0 }
set_option maxHeartbeats 4000000 in
set_option maxRecDepth 100000 in
theorem k_X6_isSession (l : Launch) (D : va_G) (cI cS cZ : ClassId) (ad : Nat → Nat) (c : CS) (v : Nat) : gN l yX6_isSession (Cond.code yX6_isSession cX6_isSession 1 (some .boolean) :: tb) rm_X6_isSession D cls8 (tys3 cI cS cZ) [.int (Int32.ofNat v)] (cwld cI cS c ad) (some (.int (Int32.ofNat (r_X6_isSession c v)))) (cwld cI cS c ad) := by
  unfold gN
  refine g_head (by decide) rfl (Nat.le_of_ble_eq_true rfl) ?_
  intro p e s m args below meth cd A F hr hlk hnm
  refine g_eq rfl (L' := [(0, .int (Int32.ofNat v))]) rfl rfl rfl ?_
  refine g_iload_n F dX6_isSession_0 0 rfl ?_
  refine f_iconst F 1 dX6_isSession_1 rfl ?_
  refine g_icmp_lt F dX6_isSession_2 (tgt := 14) rfl (fun h2 => ?_) (fun h2 => ?_)
  · refine f_iconst F 0 dX6_isSession_14 rfl ?_
    exact g_zret F hr hlk rfl dX6_isSession_15 ⟨congrArg (fun t => some (Value.int (Int32.ofNat t))) (Eq.symm (by unfold r_X6_isSession; first | simp only [if_pos h2] | rfl)), rfl⟩
  · refine g_iload_n F dX6_isSession_5 0 rfl ?_
    refine f_iconst F 4 dX6_isSession_6 rfl ?_
    refine g_icmp_gt F dX6_isSession_7 (tgt := 14) rfl (fun h7 => ?_) (fun h7 => ?_)
    · refine f_iconst F 0 dX6_isSession_14 rfl ?_
      exact g_zret F hr hlk rfl dX6_isSession_15 ⟨congrArg (fun t => some (Value.int (Int32.ofNat t))) (Eq.symm (by unfold r_X6_isSession; first | simp only [if_neg h2, if_pos h7] | rfl)), rfl⟩
    · refine f_iconst F 1 dX6_isSession_10 rfl ?_
      refine g_goto F dX6_isSession_11 (tgt := 15) rfl ?_
      exact g_zret F hr hlk rfl dX6_isSession_15 ⟨congrArg (fun t => some (Value.int (Int32.ofNat t))) (Eq.symm (by unfold r_X6_isSession; first | simp only [if_neg h2, if_neg h7] | rfl)), rfl⟩
end
section
theorem isServer1 {c : CS} {v : Nat} (h : ¬ Int32.ofNat (r_X6_isServer c v) = 0) (hk : v < 4294967296) : v < 3 := by
  unfold r_X6_isServer at h
  split at h
  · exact absurd rfl h
  · rename_i h1
    split at h
    · exact absurd rfl h
    · rename_i h2
      have g1 : ¬ Int32.ofNat v < Int32.ofNat 0 := h1
      have := code_ge g1 hk (by decide)
      exact lt_of_nle h2 (by decide) this.2
def r_X6_hasRole (c : CS) (v ro : Nat) : Nat := if Int32.ofNat (r_X6_isServer c v) = 0 then 0 else (if Int32.ofNat (c 3 v 0) = Int32.ofNat ro then 1 else 0)
abbrev rm_X6_hasRole : Room := { frames := 1, cells := 0, slots := 0, locals := 20 }
set_option maxHeartbeats 4000000 in
set_option maxRecDepth 100000 in
theorem k_X6_hasRole (l : Launch) (D : va_G) (cI cS cZ : ClassId) (ad : Nat → Nat) (c : CS) (v ro : Nat) (hk : v < 4294967296) : gN l yX6_hasRole (Cond.code yX6_hasRole cX6_hasRole 3 (some .boolean) :: tb) rm_X6_hasRole D cls8 (tys3 cI cS cZ) [.ref (ad 0), .int (Int32.ofNat v), .int (Int32.ofNat ro)] (cwld cI cS c ad) (some (.int (Int32.ofNat (r_X6_hasRole c v ro)))) (cwld cI cS c ad) := by
  unfold gN
  refine g_head (by decide) rfl (Nat.le_of_ble_eq_true rfl) ?_
  intro p e s m args below meth cd A F hr hlk hnm
  refine g_eq rfl (L' := [(0, .ref (ad 0)), (1, .int (Int32.ofNat v)), (2, .int (Int32.ofNat ro))]) rfl rfl rfl ?_
  refine g_iload_n F dX6_hasRole_0 1 rfl ?_
  refine f_callS F (av := [.int (Int32.ofNat v)]) (rest := []) (st' := [.int (Int32.ofNat (r_X6_isServer c v))]) (k_X6_isServer l D cI cS cZ ad c v) tb_126 tb_124 tb_125 tb_0 hdX6_isServer ⟨rfl, rfl⟩ ⟨Nat.le_of_ble_eq_true rfl, Nat.le_of_ble_eq_true rfl⟩ cw_adr rfl rfl (Nat.le_of_ble_eq_true rfl) ⟨Nat.le_refl _, Nat.le_refl _⟩ dX6_hasRole_1 rfl ?_
  refine g_if_eq F dX6_hasRole_4 (tgt := 24) rfl (fun h4 => ?_) (fun h4 => ?_)
  · refine f_iconst F 0 dX6_hasRole_24 rfl ?_
    exact g_zret F hr hlk rfl dX6_hasRole_25 ⟨congrArg (fun t => some (Value.int (Int32.ofNat t))) (Eq.symm (by unfold r_X6_hasRole; first | simp only [if_pos h4] | rfl)), rfl⟩
  · refine g_aload_n F dX6_hasRole_7 0 rfl ?_
    refine f_get F inX6 pl_ET rfl 0 (by decide) tb_116 rfl (v := .ref (ad 1)) rfl dX6_hasRole_8 ?_
    refine g_iload_n F dX6_hasRole_11 1 rfl ?_
    refine f_srv F (isServer1 h4 hk) dX6_hasRole_12 ?_
    refine f_getN F inX3 (pl_SV (isServer1 h4 hk)) rfl 4 (by decide) nb_26 rfl (v := .int (Int32.ofNat (c 3 v 0))) rfl dX6_hasRole_13 ?_
    refine g_iload_n F dX6_hasRole_16 2 rfl ?_
    refine g_icmp_ne F dX6_hasRole_17 (tgt := 24) rfl (fun h17 => ?_) (fun h17 => ?_)
    · refine f_iconst F 0 dX6_hasRole_24 rfl ?_
      exact g_zret F hr hlk rfl dX6_hasRole_25 ⟨congrArg (fun t => some (Value.int (Int32.ofNat t))) (Eq.symm (by unfold r_X6_hasRole; first | simp only [if_neg h4, if_neg h17] | rfl)), rfl⟩
    · refine f_iconst F 1 dX6_hasRole_20 rfl ?_
      refine g_goto F dX6_hasRole_21 (tgt := 25) rfl ?_
      exact g_zret F hr hlk rfl dX6_hasRole_25 ⟨congrArg (fun t => some (Value.int (Int32.ofNat t))) (Eq.symm (by unfold r_X6_hasRole; first | simp only [if_neg h4, if_pos h17] | rfl)), rfl⟩
def r_X6_leads (c : CS) (v : Nat) : Nat := if Int32.ofNat (r_X6_hasRole c v 3) = 0 then (if Int32.ofNat (r_X6_hasRole c v 4) = 0 then 0 else 1) else 1
abbrev rm_X6_leads : Room := { frames := 2, cells := 0, slots := 0, locals := 42 }
set_option maxHeartbeats 4000000 in
set_option maxRecDepth 100000 in
theorem k_X6_leads (l : Launch) (D : va_G) (cI cS cZ : ClassId) (ad : Nat → Nat) (c : CS) (v : Nat) (hk : v < 4294967296) : gN l yX6_leads (Cond.code yX6_leads cX6_leads 2 (some .boolean) :: tb) rm_X6_leads D cls8 (tys3 cI cS cZ) [.ref (ad 0), .int (Int32.ofNat v)] (cwld cI cS c ad) (some (.int (Int32.ofNat (r_X6_leads c v)))) (cwld cI cS c ad) := by
  unfold gN
  refine g_head (by decide) rfl (Nat.le_of_ble_eq_true rfl) ?_
  intro p e s m args below meth cd A F hr hlk hnm
  refine g_eq rfl (L' := [(0, .ref (ad 0)), (1, .int (Int32.ofNat v))]) rfl rfl rfl ?_
  refine g_aload_n F dX6_leads_0 0 rfl ?_
  refine g_iload_n F dX6_leads_1 1 rfl ?_
  refine f_iconst F 3 dX6_leads_2 rfl ?_
  refine f_callV F (As := [.int (Int32.ofNat v), .int (Int32.ofNat 3)]) (rest := []) (st' := [.int (Int32.ofNat (r_X6_hasRole c v 3))]) (k_X6_hasRole l D cI cS cZ ad c v 3 (by assumption)) pl_ET rfl tb_123 tb_121 tb_122 tb_519 tb_0 ⟨rfl, hdX6_hasRole⟩ ⟨rfl, rfl⟩ ⟨Nat.le_of_ble_eq_true rfl, Nat.le_of_ble_eq_true rfl⟩ cw_adr rfl rfl (Nat.le_of_ble_eq_true rfl) ⟨Nat.le_refl _, Nat.le_refl _⟩ dX6_leads_3 rfl ?_
  refine g_if_ne F dX6_leads_6 (tgt := 18) rfl (fun h6 => ?_) (fun h6 => ?_)
  · refine f_iconst F 1 dX6_leads_18 rfl ?_
    refine g_goto F dX6_leads_19 (tgt := 23) rfl ?_
    exact g_zret F hr hlk rfl dX6_leads_23 ⟨congrArg (fun t => some (Value.int (Int32.ofNat t))) (Eq.symm (by unfold r_X6_leads; first | simp only [if_neg h6] | rfl)), rfl⟩
  · refine g_aload_n F dX6_leads_9 0 rfl ?_
    refine g_iload_n F dX6_leads_10 1 rfl ?_
    refine f_iconst F 4 dX6_leads_11 rfl ?_
    refine f_callV F (As := [.int (Int32.ofNat v), .int (Int32.ofNat 4)]) (rest := []) (st' := [.int (Int32.ofNat (r_X6_hasRole c v 4))]) (k_X6_hasRole l D cI cS cZ ad c v 4 (by assumption)) pl_ET rfl tb_123 tb_121 tb_122 tb_519 tb_0 ⟨rfl, hdX6_hasRole⟩ ⟨rfl, rfl⟩ ⟨Nat.le_of_ble_eq_true rfl, Nat.le_of_ble_eq_true rfl⟩ cw_adr rfl rfl (Nat.le_of_ble_eq_true rfl) ⟨Nat.le_refl _, Nat.le_refl _⟩ dX6_leads_12 rfl ?_
    refine g_if_eq F dX6_leads_15 (tgt := 22) rfl (fun h15 => ?_) (fun h15 => ?_)
    · refine f_iconst F 0 dX6_leads_22 rfl ?_
      exact g_zret F hr hlk rfl dX6_leads_23 ⟨congrArg (fun t => some (Value.int (Int32.ofNat t))) (Eq.symm (by unfold r_X6_leads; first | simp only [if_pos h6, if_pos h15] | rfl)), rfl⟩
    · refine f_iconst F 1 dX6_leads_18 rfl ?_
      refine g_goto F dX6_leads_19 (tgt := 23) rfl ?_
      exact g_zret F hr hlk rfl dX6_leads_23 ⟨congrArg (fun t => some (Value.int (Int32.ofNat t))) (Eq.symm (by unfold r_X6_leads; first | simp only [if_pos h6, if_neg h15] | rfl)), rfl⟩
def r_X6_isFollowerOf (c : CS) (f g : Nat) : Nat := if Int32.ofNat (c 3 f 0) = Int32.ofNat 2 then (if Int32.ofNat (c 4 f 0) = Int32.ofNat (c 0 g 0) then 1 else 0) else 0
abbrev rm_X6_isFollowerOf : Room := { frames := 0, cells := 0, slots := 0, locals := 0 }
set_option maxHeartbeats 4000000 in
set_option maxRecDepth 100000 in
theorem k_X6_isFollowerOf (l : Launch) (D : va_G) (cI cS cZ : ClassId) (ad : Nat → Nat) (c : CS) (f g : Nat) (h_f : f < 3) (h_g : g < 3) : gN l yX6_isFollowerOf (Cond.code yX6_isFollowerOf cX6_isFollowerOf 2 (some .boolean) :: tb) rm_X6_isFollowerOf D cls8 (tys3 cI cS cZ) [.ref (ad (2 + 22 * f)), .ref (ad (2 + 22 * g))] (cwld cI cS c ad) (some (.int (Int32.ofNat (r_X6_isFollowerOf c f g)))) (cwld cI cS c ad) := by
  unfold gN
  refine g_head (by decide) rfl (Nat.le_of_ble_eq_true rfl) ?_
  intro p e s m args below meth cd A F hr hlk hnm
  refine g_eq rfl (L' := [(0, .ref (ad (2 + 22 * f))), (1, .ref (ad (2 + 22 * g)))]) rfl rfl rfl ?_
  refine g_aload_n F dX6_isFollowerOf_0 0 rfl ?_
  refine f_getN F inX3 (pl_SV h_f) rfl 4 (by decide) nb_26 rfl (v := .int (Int32.ofNat (c 3 f 0))) rfl dX6_isFollowerOf_1 ?_
  refine f_iconst F 2 dX6_isFollowerOf_4 rfl ?_
  refine g_icmp_ne F dX6_isFollowerOf_5 (tgt := 23) rfl (fun h5 => ?_) (fun h5 => ?_)
  · refine f_iconst F 0 dX6_isFollowerOf_23 rfl ?_
    exact g_zret F hr hlk rfl dX6_isFollowerOf_24 ⟨congrArg (fun t => some (Value.int (Int32.ofNat t))) (Eq.symm (by unfold r_X6_isFollowerOf; first | simp only [if_neg h5] | rfl)), rfl⟩
  · refine g_aload_n F dX6_isFollowerOf_8 0 rfl ?_
    refine f_getN F inX3 (pl_SV h_f) rfl 5 (by decide) nb_27 rfl (v := .int (Int32.ofNat (c 4 f 0))) rfl dX6_isFollowerOf_9 ?_
    refine g_aload_n F dX6_isFollowerOf_12 1 rfl ?_
    refine f_getN F inX3 (pl_SV h_g) rfl 0 (by decide) nb_22 rfl (v := .int (Int32.ofNat (c 0 g 0))) rfl dX6_isFollowerOf_13 ?_
    refine g_icmp_ne F dX6_isFollowerOf_16 (tgt := 23) rfl (fun h16 => ?_) (fun h16 => ?_)
    · refine f_iconst F 0 dX6_isFollowerOf_23 rfl ?_
      exact g_zret F hr hlk rfl dX6_isFollowerOf_24 ⟨congrArg (fun t => some (Value.int (Int32.ofNat t))) (Eq.symm (by unfold r_X6_isFollowerOf; first | simp only [if_pos h5, if_neg h16] | rfl)), rfl⟩
    · refine f_iconst F 1 dX6_isFollowerOf_19 rfl ?_
      refine g_goto F dX6_isFollowerOf_20 (tgt := 24) rfl ?_
      exact g_zret F hr hlk rfl dX6_isFollowerOf_24 ⟨congrArg (fun t => some (Value.int (Int32.ofNat t))) (Eq.symm (by unfold r_X6_isFollowerOf; first | simp only [if_pos h5, if_pos h16] | rfl)), rfl⟩
def w_X6_sendNewLeader (c : CS) (g f : Nat) : CS := w_X2_send_d (su3 (su3 c 9 f 0 1) 11 f 0 0) f 5 (c 6 g 0)
abbrev rm_X6_sendNewLeader : Room := { frames := 1, cells := 0, slots := 0, locals := 22 }
set_option maxHeartbeats 4000000 in
set_option maxRecDepth 100000 in
theorem k_X6_sendNewLeader (l : Launch) (D : va_G) (cI cS cZ : ClassId) (ad : Nat → Nat) (c : CS) (g f : Nat) (h_g : g < 3) (h_f : f < 3) (hb : c 15 f 0 ≤ 51) : gN l yX6_sendNewLeader (Cond.code yX6_sendNewLeader cX6_sendNewLeader 2 none :: tb) rm_X6_sendNewLeader D cls8 (tys3 cI cS cZ) [.ref (ad (2 + 22 * g)), .ref (ad (2 + 22 * f))] (cwld cI cS c ad) none (cwld cI cS (w_X6_sendNewLeader c g f) ad) := by
  unfold gN
  refine g_head (by decide) rfl (Nat.le_of_ble_eq_true rfl) ?_
  intro p e s m args below meth cd A F hr hlk hnm
  refine g_eq rfl (L' := [(0, .ref (ad (2 + 22 * g))), (1, .ref (ad (2 + 22 * f)))]) rfl rfl rfl ?_
  refine g_aload_n F dX6_sendNewLeader_0 1 rfl ?_
  refine f_getN F inX3 (pl_SV h_f) rfl 9 (by decide) nb_31 rfl (v := .ref (ad (2 + 22 * f + 3))) rfl dX6_sendNewLeader_1 ?_
  refine f_iconst F 1 dX6_sendNewLeader_4 rfl ?_
  refine f_putN F inX1 tyX1_ok nmX1 (pl_LK h_f) rfl 2 (by decide) nb_14 rfl rfl rfl rfl (Nat.le_of_ble_eq_true rfl) dX6_sendNewLeader_5 (ps_9 h_f) ?_
  refine g_aload_n F dX6_sendNewLeader_8 1 rfl ?_
  refine f_getN F inX3 (pl_SV h_f) rfl 9 (by decide) nb_31 rfl (v := .ref (ad (2 + 22 * f + 3))) rfl dX6_sendNewLeader_9 ?_
  refine f_iconst F 0 dX6_sendNewLeader_12 rfl ?_
  refine f_putN F inX1 tyX1_ok nmX1 (pl_LK h_f) rfl 4 (by decide) nb_16 rfl rfl rfl rfl (Nat.le_of_ble_eq_true rfl) dX6_sendNewLeader_13 (ps_11 h_f) ?_
  refine g_aload_n F dX6_sendNewLeader_16 1 rfl ?_
  refine f_getN F inX3 (pl_SV h_f) rfl 9 (by decide) nb_31 rfl (v := .ref (ad (2 + 22 * f + 3))) rfl dX6_sendNewLeader_17 ?_
  refine f_getN F inX1 (pl_LK h_f) rfl 1 (by decide) nb_13 rfl (v := .ref (ad (2 + 22 * f + 6))) rfl dX6_sendNewLeader_20 ?_
  refine f_iconst F 5 dX6_sendNewLeader_23 rfl ?_
  refine g_aload_n F dX6_sendNewLeader_24 0 rfl ?_
  refine f_getN F inX3 (pl_SV h_g) rfl 3 (by decide) nb_25 rfl (v := .ref (ad (2 + 22 * g + 1))) rfl dX6_sendNewLeader_25 ?_
  refine f_getN F inX0 (pl_EL h_g) rfl 5 (by decide) nb_8 rfl (v := .int (Int32.ofNat (c 6 g 0))) rfl dX6_sendNewLeader_28 ?_
  refine f_callVN F (As := [.int (Int32.ofNat 5), .int (Int32.ofNat (c 6 g 0))]) (rest := []) (st' := []) (k_X2_send_d l D cI cS cZ ad (su3 (su3 c 9 f 0 1) 11 f 0 0) f 5 (c 6 g 0) h_f (by assumption)) (pl_RD h_f) rfl tb_136 nb_34 tb_135 tb_522 tb_5 hdX2_send ⟨rfl, rfl⟩ ⟨Nat.le_of_ble_eq_true rfl, Nat.le_of_ble_eq_true rfl⟩ cw_adr rfl rfl (Nat.le_of_ble_eq_true rfl) ⟨Nat.le_refl _, Nat.le_refl _⟩ dX6_sendNewLeader_31 rfl ?_
  exact g_vret F hr hlk dX6_sendNewLeader_34 ⟨rfl, congrArg (fun t => cwld cI cS t ad) rfl⟩
def w_X6_readJoin (c : CS) (g f v : Nat) : CS := if Int32.ofNat (c 16 g 0) = 0 then (w_X2_send_d (su3 (su3 c 16 g 0 1) 1 g 0 ((if Int32.ofNat v < Int32.ofNat (c 1 g 0) then (c 1 g 0) else v) + 1)) f 4 ((if Int32.ofNat v < Int32.ofNat (c 1 g 0) then (c 1 g 0) else v) + 1)) else (w_X2_send_d c f 4 (c 1 g 0))
abbrev rm_X6_readJoin : Room := { frames := 1, cells := 0, slots := 0, locals := 22 }
set_option maxHeartbeats 4000000 in
set_option maxRecDepth 100000 in
theorem k_X6_readJoin (l : Launch) (D : va_G) (cI cS cZ : ClassId) (ad : Nat → Nat) (c : CS) (g f v : Nat) (h_g : g < 3) (h_f : f < 3) (hb : c 15 f 0 ≤ 51) : gN l yX6_readJoin (Cond.code yX6_readJoin cX6_readJoin 3 none :: tb) rm_X6_readJoin D cls8 (tys3 cI cS cZ) [.ref (ad (2 + 22 * g)), .ref (ad (2 + 22 * f)), .int (Int32.ofNat v)] (cwld cI cS c ad) none (cwld cI cS (w_X6_readJoin c g f v) ad) := by
  unfold gN
  refine g_head (by decide) rfl (Nat.le_of_ble_eq_true rfl) ?_
  intro p e s m args below meth cd A F hr hlk hnm
  refine g_eq rfl (L' := [(0, .ref (ad (2 + 22 * g))), (1, .ref (ad (2 + 22 * f))), (2, .int (Int32.ofNat v))]) rfl rfl rfl ?_
  refine g_aload_n F dX6_readJoin_0 0 rfl ?_
  refine f_getN F inX3 (pl_SV h_g) rfl 10 (by decide) nb_32 rfl (v := .ref (ad (2 + 22 * g + 4))) rfl dX6_readJoin_1 ?_
  refine f_getN F inX4 (pl_TM h_g) rfl 0 (by decide) nb_18 rfl (v := .int (Int32.ofNat (c 16 g 0))) rfl dX6_readJoin_4 ?_
  refine g_if_ne F dX6_readJoin_7 (tgt := 32) rfl (fun h7 => ?_) (fun h7 => ?_)
  · refine g_aload_n F dX6_readJoin_32 1 rfl ?_
    refine f_getN F inX3 (pl_SV h_f) rfl 9 (by decide) nb_31 rfl (v := .ref (ad (2 + 22 * f + 3))) rfl dX6_readJoin_33 ?_
    refine f_getN F inX1 (pl_LK h_f) rfl 1 (by decide) nb_13 rfl (v := .ref (ad (2 + 22 * f + 6))) rfl dX6_readJoin_36 ?_
    refine f_iconst F 4 dX6_readJoin_39 rfl ?_
    refine g_aload_n F dX6_readJoin_40 0 rfl ?_
    refine f_getN F inX3 (pl_SV h_g) rfl 1 (by decide) nb_23 rfl (v := .int (Int32.ofNat (c 1 g 0))) rfl dX6_readJoin_41 ?_
    refine f_callVN F (As := [.int (Int32.ofNat 4), .int (Int32.ofNat (c 1 g 0))]) (rest := []) (st' := []) (k_X2_send_d l D cI cS cZ ad c f 4 (c 1 g 0) h_f (by assumption)) (pl_RD h_f) rfl tb_136 nb_34 tb_135 tb_522 tb_5 hdX2_send ⟨rfl, rfl⟩ ⟨Nat.le_of_ble_eq_true rfl, Nat.le_of_ble_eq_true rfl⟩ cw_adr rfl rfl (Nat.le_of_ble_eq_true rfl) ⟨Nat.le_refl _, Nat.le_refl _⟩ dX6_readJoin_44 rfl ?_
    exact g_vret F hr hlk dX6_readJoin_47 ⟨rfl, congrArg (fun t => cwld cI cS t ad) (Eq.symm (by unfold w_X6_readJoin; first | simp only [if_neg h7] | rfl))⟩
  · refine g_aload_n F dX6_readJoin_10 0 rfl ?_
    refine f_getN F inX3 (pl_SV h_g) rfl 10 (by decide) nb_32 rfl (v := .ref (ad (2 + 22 * g + 4))) rfl dX6_readJoin_11 ?_
    refine f_iconst F 1 dX6_readJoin_14 rfl ?_
    refine f_putN F inX4 tyX4_ok nmX4 (pl_TM h_g) rfl 0 (by decide) nb_18 rfl rfl rfl rfl (Nat.le_of_ble_eq_true rfl) dX6_readJoin_15 (ps_16 h_g) ?_
    refine g_aload_n F dX6_readJoin_18 0 rfl ?_
    refine g_iload_n F dX6_readJoin_19 2 rfl ?_
    refine g_aload_n F dX6_readJoin_20 0 rfl ?_
    refine f_getN F inX3 (pl_SV h_g) rfl 1 (by decide) nb_23 rfl (v := .int (Int32.ofNat (c 1 g 0))) rfl dX6_readJoin_21 ?_
    refine g_mmax F (gf_w F tb_174) (gf_w F tb_175) (gf_w F tb_8) (gf_w F tb_176) (Nat.le_of_ble_eq_true rfl) (Nat.le_of_ble_eq_true rfl) (Nat.le_refl _) (Nat.le_refl _) dX6_readJoin_24 ?_
    rw [← apply_ite Int32.ofNat]
    refine f_iconst F 1 dX6_readJoin_27 rfl ?_
    refine f_add F dX6_readJoin_28 ?_
    refine f_putN F inX3 tyX3_ok nmX3 (pl_SV h_g) rfl 1 (by decide) nb_23 rfl rfl rfl rfl (Nat.le_of_ble_eq_true rfl) dX6_readJoin_29 (ps_1 h_g) ?_
    refine g_aload_n F dX6_readJoin_32 1 rfl ?_
    refine f_getN F inX3 (pl_SV h_f) rfl 9 (by decide) nb_31 rfl (v := .ref (ad (2 + 22 * f + 3))) rfl dX6_readJoin_33 ?_
    refine f_getN F inX1 (pl_LK h_f) rfl 1 (by decide) nb_13 rfl (v := .ref (ad (2 + 22 * f + 6))) rfl dX6_readJoin_36 ?_
    refine f_iconst F 4 dX6_readJoin_39 rfl ?_
    refine g_aload_n F dX6_readJoin_40 0 rfl ?_
    refine f_getN F inX3 (pl_SV h_g) rfl 1 (by decide) nb_23 rfl (v := .int (Int32.ofNat ((su3 (su3 c 16 g 0 1) 1 g 0 ((if Int32.ofNat v < Int32.ofNat (c 1 g 0) then (c 1 g 0) else v) + 1)) 1 g 0))) rfl dX6_readJoin_41 ?_
    refine g_eq rfl rfl (st' := [.int (Int32.ofNat ((if Int32.ofNat v < Int32.ofNat (c 1 g 0) then (c 1 g 0) else v) + 1)), .int (Int32.ofNat 4), .ref (ad (2 + 22 * f + 6))]) (by rw [su3_same]) rfl ?_
    refine f_callVN F (As := [.int (Int32.ofNat 4), .int (Int32.ofNat ((if Int32.ofNat v < Int32.ofNat (c 1 g 0) then (c 1 g 0) else v) + 1))]) (rest := []) (st' := []) (k_X2_send_d l D cI cS cZ ad (su3 (su3 c 16 g 0 1) 1 g 0 ((if Int32.ofNat v < Int32.ofNat (c 1 g 0) then (c 1 g 0) else v) + 1)) f 4 ((if Int32.ofNat v < Int32.ofNat (c 1 g 0) then (c 1 g 0) else v) + 1) h_f (by assumption)) (pl_RD h_f) rfl tb_136 nb_34 tb_135 tb_522 tb_5 hdX2_send ⟨rfl, rfl⟩ ⟨Nat.le_of_ble_eq_true rfl, Nat.le_of_ble_eq_true rfl⟩ cw_adr rfl rfl (Nat.le_of_ble_eq_true rfl) ⟨Nat.le_refl _, Nat.le_refl _⟩ dX6_readJoin_44 rfl ?_
    exact g_vret F hr hlk dX6_readJoin_47 ⟨rfl, congrArg (fun t => cwld cI cS t ad) (Eq.symm (by unfold w_X6_readJoin; first | simp only [if_pos h7] | rfl))⟩
end
section
def w_X5_clear (c : CS) (i : Nat) : CS := su3 (su3 c 7 i 0 0) 8 i 0 0
abbrev rm_X5_clear : Room := { frames := 0, cells := 0, slots := 0, locals := 0 }
set_option maxHeartbeats 4000000 in
set_option maxRecDepth 100000 in
theorem k_X5_clear (l : Launch) (D : va_G) (cI cS cZ : ClassId) (ad : Nat → Nat) (c : CS) (i : Nat) (h_i : i < 3) : gN l yX5_clear (Cond.code yX5_clear cX5_clear 1 none :: tb) rm_X5_clear D cls8 (tys3 cI cS cZ) [.ref (ad (2 + 22 * i + 2))] (cwld cI cS c ad) none (cwld cI cS (w_X5_clear c i) ad) := by
  unfold gN
  refine g_head (by decide) rfl (Nat.le_of_ble_eq_true rfl) ?_
  intro p e s m args below meth cd A F hr hlk hnm
  refine g_eq rfl (L' := [(0, .ref (ad (2 + 22 * i + 2)))]) rfl rfl rfl ?_
  refine g_aload_n F dX5_clear_0 0 rfl ?_
  refine f_iconst F 0 dX5_clear_1 rfl ?_
  refine f_put F inX5 tyX5_ok nmX5 (pl_TR h_i) rfl 4 (by decide) tb_48 rfl rfl rfl rfl (Nat.le_of_ble_eq_true rfl) dX5_clear_2 (ps_7 h_i) ?_
  refine g_aload_n F dX5_clear_5 0 rfl ?_
  refine f_iconst F 0 dX5_clear_6 rfl ?_
  refine f_put F inX5 tyX5_ok nmX5 (pl_TR h_i) rfl 5 (by decide) tb_49 rfl rfl rfl rfl (Nat.le_of_ble_eq_true rfl) dX5_clear_7 (ps_8 h_i) ?_
  exact g_vret F hr hlk dX5_clear_10 ⟨rfl, congrArg (fun t => cwld cI cS t ad) rfl⟩
def r_X5_summary (c : CS) (i : Nat) : Nat := (c 7 i 0) + (64 * (c 8 i 0))
abbrev rm_X5_summary : Room := { frames := 0, cells := 0, slots := 0, locals := 0 }
set_option maxHeartbeats 4000000 in
set_option maxRecDepth 100000 in
theorem k_X5_summary (l : Launch) (D : va_G) (cI cS cZ : ClassId) (ad : Nat → Nat) (c : CS) (i : Nat) (h_i : i < 3) : gN l yX5_summary (Cond.code yX5_summary cX5_summary 1 (some .int) :: tb) rm_X5_summary D cls8 (tys3 cI cS cZ) [.ref (ad (2 + 22 * i + 2))] (cwld cI cS c ad) (some (.int (Int32.ofNat (r_X5_summary c i)))) (cwld cI cS c ad) := by
  unfold gN
  refine g_head (by decide) rfl (Nat.le_of_ble_eq_true rfl) ?_
  intro p e s m args below meth cd A F hr hlk hnm
  refine g_eq rfl (L' := [(0, .ref (ad (2 + 22 * i + 2)))]) rfl rfl rfl ?_
  refine g_aload_n F dX5_summary_0 0 rfl ?_
  refine f_get F inX5 (pl_TR h_i) rfl 4 (by decide) tb_48 rfl (v := .int (Int32.ofNat (c 7 i 0))) rfl dX5_summary_1 ?_
  refine f_bipush F 64 dX5_summary_4 rfl ?_
  refine g_aload_n F dX5_summary_6 0 rfl ?_
  refine f_get F inX5 (pl_TR h_i) rfl 5 (by decide) tb_49 rfl (v := .int (Int32.ofNat (c 8 i 0))) rfl dX5_summary_7 ?_
  refine f_mul F dX5_summary_10 ?_
  refine f_add F dX5_summary_11 ?_
  exact g_iret F hr hlk dX5_summary_12 ⟨congrArg (fun t => some (Value.int (Int32.ofNat t))) rfl, rfl⟩
def r_X5_isOpen (c : CS) (i v : Nat) : Nat := if Int32.ofNat (r_X6_isSession c v) = 0 then 0 else (if Int32.ofNat (nc ((Int32.ofNat (c 8 i 0)) &&& (Int32.ofNat (nc ((Int32.ofNat 1) <<< ((Int32.ofNat v) &&& 31)))))) = 0 then 0 else 1)
abbrev rm_X5_isOpen : Room := { frames := 1, cells := 0, slots := 0, locals := 20 }
set_option maxHeartbeats 4000000 in
set_option maxRecDepth 100000 in
theorem k_X5_isOpen (l : Launch) (D : va_G) (cI cS cZ : ClassId) (ad : Nat → Nat) (c : CS) (i v : Nat) (h_i : i < 3) : gN l yX5_isOpen (Cond.code yX5_isOpen cX5_isOpen 2 (some .boolean) :: tb) rm_X5_isOpen D cls8 (tys3 cI cS cZ) [.ref (ad (2 + 22 * i + 2)), .int (Int32.ofNat v)] (cwld cI cS c ad) (some (.int (Int32.ofNat (r_X5_isOpen c i v)))) (cwld cI cS c ad) := by
  unfold gN
  refine g_head (by decide) rfl (Nat.le_of_ble_eq_true rfl) ?_
  intro p e s m args below meth cd A F hr hlk hnm
  refine g_eq rfl (L' := [(0, .ref (ad (2 + 22 * i + 2))), (1, .int (Int32.ofNat v))]) rfl rfl rfl ?_
  refine g_iload_n F dX5_isOpen_0 1 rfl ?_
  refine f_callSN F (av := [.int (Int32.ofNat v)]) (rest := []) (st' := [.int (Int32.ofNat (r_X6_isSession c v))]) (k_X6_isSession l D cI cS cZ ad c v) tb_225 nb_47 tb_224 tb_0 hdX6_isSession ⟨rfl, rfl⟩ ⟨Nat.le_of_ble_eq_true rfl, Nat.le_of_ble_eq_true rfl⟩ cw_adr rfl rfl (Nat.le_of_ble_eq_true rfl) ⟨Nat.le_refl _, Nat.le_refl _⟩ dX5_isOpen_1 rfl ?_
  refine g_if_eq F dX5_isOpen_4 (tgt := 22) rfl (fun h4 => ?_) (fun h4 => ?_)
  · refine f_iconst F 0 dX5_isOpen_22 rfl ?_
    exact g_zret F hr hlk rfl dX5_isOpen_23 ⟨congrArg (fun t => some (Value.int (Int32.ofNat t))) (Eq.symm (by unfold r_X5_isOpen; first | simp only [if_pos h4] | rfl)), rfl⟩
  · refine g_aload_n F dX5_isOpen_7 0 rfl ?_
    refine f_get F inX5 (pl_TR h_i) rfl 5 (by decide) tb_49 rfl (v := .int (Int32.ofNat (c 8 i 0))) rfl dX5_isOpen_8 ?_
    refine f_iconst F 1 dX5_isOpen_11 rfl ?_
    refine g_iload_n F dX5_isOpen_12 1 rfl ?_
    refine g_ishl F dX5_isOpen_13 ?_
    refine f_code ?_
    refine g_iand F dX5_isOpen_14 ?_
    refine f_code ?_
    refine g_if_eq F dX5_isOpen_15 (tgt := 22) rfl (fun h15 => ?_) (fun h15 => ?_)
    · refine f_iconst F 0 dX5_isOpen_22 rfl ?_
      exact g_zret F hr hlk rfl dX5_isOpen_23 ⟨congrArg (fun t => some (Value.int (Int32.ofNat t))) (Eq.symm (by unfold r_X5_isOpen; first | simp only [if_neg h4, if_pos h15] | rfl)), rfl⟩
    · refine f_iconst F 1 dX5_isOpen_18 rfl ?_
      refine g_goto F dX5_isOpen_19 (tgt := 23) rfl ?_
      exact g_zret F hr hlk rfl dX5_isOpen_23 ⟨congrArg (fun t => some (Value.int (Int32.ofNat t))) (Eq.symm (by unfold r_X5_isOpen; first | simp only [if_neg h4, if_neg h15] | rfl)), rfl⟩
def lpr_X5_find_2 (c : CS) (i pa : Nat) : Nat → Nat → Nat
  | 0, k => 4294967295
  | d + 1, k => if Int32.ofNat (c 26 i k) = Int32.ofNat pa then k else (lpr_X5_find_2 c i pa d (k + 1))
def r_X5_find (c : CS) (i pa : Nat) : Nat := lpr_X5_find_2 c i pa (c 7 i 0) 0
abbrev rm_X5_find : Room := { frames := 0, cells := 0, slots := 0, locals := 0 }
set_option maxHeartbeats 4000000 in
set_option maxRecDepth 100000 in
theorem k_X5_find (l : Launch) (D : va_G) (cI cS cZ : ClassId) (ad : Nat → Nat) (c : CS) (i pa : Nat) (h_i : i < 3) (hb : c 7 i 0 ≤ 24) : gN l yX5_find (Cond.code yX5_find cX5_find 3 (some .int) :: tb) rm_X5_find D cls8 (tys3 cI cS cZ) [.ref (ad (2 + 22 * i + 2)), .int (Int32.ofNat pa)] (cwld cI cS c ad) (some (.int (Int32.ofNat (r_X5_find c i pa)))) (cwld cI cS c ad) := by
  unfold gN
  refine g_head (by decide) rfl (Nat.le_of_ble_eq_true rfl) ?_
  intro p e s m args below meth cd A F hr hlk hnm
  refine g_eq rfl (L' := [(0, .ref (ad (2 + 22 * i + 2))), (1, .int (Int32.ofNat pa))]) rfl rfl rfl ?_
  refine f_iconst F 0 dX5_find_0 rfl ?_
  refine g_istore_n F [(2, .int (Int32.ofNat 0)), (0, .ref (ad (2 + 22 * i + 2))), (1, .int (Int32.ofNat pa))] dX5_find_1 (by decide) rfl ?_
  have loop2 : ∀ (d k : Nat), k + d = c 7 i 0 → r_X5_find c i pa = lpr_X5_find_2 c i pa d k → gw p l e (headSpec (Cond.code yX5_find cX5_find 3 (some .int) :: tb) rm_X5_find).room s m args below meth cd 3 D cls8 A (MQ below (gQ D cls8 (tys3 cI cS cZ) (fun v w => v = (some (.int (Int32.ofNat (r_X5_find c i pa)))) ∧ w = cwld cI cS c ad) A) args s 0 0 A) 0 0 2 [(2, .int (Int32.ofNat k)), (0, .ref (ad (2 + 22 * i + 2))), (1, .int (Int32.ofNat pa))] [] (cwld cI cS c ad) := by
    intro d
    induction d with
    | zero =>
      intro k hk Er
      refine g_iload_n F dX5_find_2 0 rfl ?_
      refine g_aload_n F dX5_find_3 1 rfl ?_
      refine f_get F inX5 (pl_TR h_i) rfl 4 (by decide) tb_48 rfl (v := .int (Int32.ofNat (c 7 i 0))) rfl dX5_find_4 ?_
      refine g_icmp_ge F dX5_find_7 (tgt := 28) rfl (fun h7 => ?_) (fun h7 => ?_)
      rotate_left
      · exact absurd h7 (by rw [ofN_le (by omega) (by omega)]; omega)
      refine f_iconst F 4294967295 dX5_find_28 rfl ?_
      exact g_iret F hr hlk dX5_find_29 ⟨congrArg (fun t => some (Value.int (Int32.ofNat t))) (Eq.symm (Er.trans (by simp only [lpr_X5_find_2]))), rfl⟩
    | succ d ih =>
      intro k hk Er
      refine g_iload_n F dX5_find_2 0 rfl ?_
      refine g_aload_n F dX5_find_3 1 rfl ?_
      refine f_get F inX5 (pl_TR h_i) rfl 4 (by decide) tb_48 rfl (v := .int (Int32.ofNat (c 7 i 0))) rfl dX5_find_4 ?_
      refine g_icmp_ge F dX5_find_7 (tgt := 28) rfl (fun h7 => ?_) (fun h7 => ?_)
      · exact absurd h7 (by rw [ofN_le (by omega) (by omega)]; omega)
      refine g_aload_n F dX5_find_10 1 rfl ?_
      refine f_get F inX5 (pl_TR h_i) rfl 0 (by decide) tb_44 rfl (v := .ref (ad (2 + 22 * i + 13))) rfl dX5_find_11 ?_
      refine g_iload_n F dX5_find_14 0 rfl ?_
      refine f_ald F 0 (pl_26 h_i) rfl (j := k) (by omega) (by decide) dX5_find_15 ?_
      refine g_iload_n F dX5_find_16 2 rfl ?_
      refine g_icmp_ne F dX5_find_17 (tgt := 22) rfl (fun h17 => ?_) (fun h17 => ?_)
      · refine f_iinc F (k + 1) [(2, .int (Int32.ofNat (k + 1))), (0, .ref (ad (2 + 22 * i + 2))), (1, .int (Int32.ofNat pa))] dX5_find_22 0 rfl (ofN_inc _) (by decide) rfl ?_
        refine g_goto F dX5_find_25 (tgt := 2) rfl ?_
        exact ih (k + 1) (by omega) (Er.trans (by simp only [lpr_X5_find_2, if_neg h17]))
      · refine g_iload_n F dX5_find_20 0 rfl ?_
        exact g_iret F hr hlk dX5_find_21 ⟨congrArg (fun t => some (Value.int (Int32.ofNat t))) (Eq.symm (Er.trans (by simp only [lpr_X5_find_2, if_pos h17]))), rfl⟩
  exact loop2 (c 7 i 0) 0 (Nat.zero_add _) rfl
def lpn_X5_countChildren_4 (c : CS) (i pa : Nat) : Nat → Nat → Nat → Nat
  | 0, k, n => n
  | d + 1, k, n => if Int32.ofNat (nc ((Int32.ofNat (c 26 i k)) / (Int32.ofNat 8))) = Int32.ofNat pa then (lpn_X5_countChildren_4 c i pa d (k + 1) (n + 1)) else (lpn_X5_countChildren_4 c i pa d (k + 1) n)
def r_X5_countChildren (c : CS) (i pa : Nat) : Nat := lpn_X5_countChildren_4 c i pa (c 7 i 0) 0 0
abbrev rm_X5_countChildren : Room := { frames := 0, cells := 0, slots := 0, locals := 0 }
set_option maxHeartbeats 4000000 in
set_option maxRecDepth 100000 in
theorem k_X5_countChildren (l : Launch) (D : va_G) (cI cS cZ : ClassId) (ad : Nat → Nat) (c : CS) (i pa : Nat) (h_i : i < 3) (hb : c 7 i 0 ≤ 24) : gN l yX5_countChildren (Cond.code yX5_countChildren cX5_countChildren 4 (some .int) :: tb) rm_X5_countChildren D cls8 (tys3 cI cS cZ) [.ref (ad (2 + 22 * i + 2)), .int (Int32.ofNat pa)] (cwld cI cS c ad) (some (.int (Int32.ofNat (r_X5_countChildren c i pa)))) (cwld cI cS c ad) := by
  unfold gN
  refine g_head (by decide) rfl (Nat.le_of_ble_eq_true rfl) ?_
  intro p e s m args below meth cd A F hr hlk hnm
  refine g_eq rfl (L' := [(0, .ref (ad (2 + 22 * i + 2))), (1, .int (Int32.ofNat pa))]) rfl rfl rfl ?_
  refine f_iconst F 0 dX5_countChildren_0 rfl ?_
  refine g_istore_n F [(2, .int (Int32.ofNat 0)), (0, .ref (ad (2 + 22 * i + 2))), (1, .int (Int32.ofNat pa))] dX5_countChildren_1 (by decide) rfl ?_
  refine f_iconst F 0 dX5_countChildren_2 rfl ?_
  refine g_istore_n F [(3, .int (Int32.ofNat 0)), (2, .int (Int32.ofNat 0)), (0, .ref (ad (2 + 22 * i + 2))), (1, .int (Int32.ofNat pa))] dX5_countChildren_3 (by decide) rfl ?_
  have loop4 : ∀ (Q : State → Prop) (d k n : Nat), k + d = c 7 i 0 → gw p l e (headSpec (Cond.code yX5_countChildren cX5_countChildren 4 (some .int) :: tb) rm_X5_countChildren).room s m args below meth cd 4 D cls8 A Q 0 0 34 [(2, .int (Int32.ofNat (lpn_X5_countChildren_4 c i pa d k n))), (0, .ref (ad (2 + 22 * i + 2))), (1, .int (Int32.ofNat pa))] [] (cwld cI cS c ad) → gw p l e (headSpec (Cond.code yX5_countChildren cX5_countChildren 4 (some .int) :: tb) rm_X5_countChildren).room s m args below meth cd 4 D cls8 A Q 0 0 4 [(3, .int (Int32.ofNat k)), (2, .int (Int32.ofNat n)), (0, .ref (ad (2 + 22 * i + 2))), (1, .int (Int32.ofNat pa))] [] (cwld cI cS c ad) := by
    intro Q d
    induction d with
    | zero =>
      intro k n hk K
      refine g_iload_n F dX5_countChildren_4 0 rfl ?_
      refine g_aload_n F dX5_countChildren_5 2 rfl ?_
      refine f_get F inX5 (pl_TR h_i) rfl 4 (by decide) tb_48 rfl (v := .int (Int32.ofNat (c 7 i 0))) rfl dX5_countChildren_6 ?_
      refine g_icmp_ge F dX5_countChildren_9 (tgt := 34) rfl (fun h9 => ?_) (fun h9 => ?_)
      rotate_left
      · exact absurd h9 (by rw [ofN_le (by omega) (by omega)]; omega)
      refine g_locals [(2, .int (Int32.ofNat n)), (0, .ref (ad (2 + 22 * i + 2))), (1, .int (Int32.ofNat pa))] [1, 2, 3] rfl ?_
      exact K
    | succ d ih =>
      intro k n hk K
      refine g_iload_n F dX5_countChildren_4 0 rfl ?_
      refine g_aload_n F dX5_countChildren_5 2 rfl ?_
      refine f_get F inX5 (pl_TR h_i) rfl 4 (by decide) tb_48 rfl (v := .int (Int32.ofNat (c 7 i 0))) rfl dX5_countChildren_6 ?_
      refine g_icmp_ge F dX5_countChildren_9 (tgt := 34) rfl (fun h9 => ?_) (fun h9 => ?_)
      · exact absurd h9 (by rw [ofN_le (by omega) (by omega)]; omega)
      refine g_aload_n F dX5_countChildren_12 2 rfl ?_
      refine f_get F inX5 (pl_TR h_i) rfl 0 (by decide) tb_44 rfl (v := .ref (ad (2 + 22 * i + 13))) rfl dX5_countChildren_13 ?_
      refine g_iload_n F dX5_countChildren_16 0 rfl ?_
      refine f_ald F 0 (pl_26 h_i) rfl (j := k) (by omega) (by decide) dX5_countChildren_17 ?_
      refine f_bipush F 8 dX5_countChildren_18 rfl ?_
      refine g_idiv F dX5_countChildren_20 (by decide) ?_
      refine f_code ?_
      refine g_iload_n F dX5_countChildren_21 3 rfl ?_
      refine g_icmp_ne F dX5_countChildren_22 (tgt := 28) rfl (fun h22 => ?_) (fun h22 => ?_)
      · refine f_iinc F (k + 1) [(3, .int (Int32.ofNat (k + 1))), (2, .int (Int32.ofNat n)), (0, .ref (ad (2 + 22 * i + 2))), (1, .int (Int32.ofNat pa))] dX5_countChildren_28 0 rfl (ofN_inc _) (by decide) rfl ?_
        refine g_goto F dX5_countChildren_31 (tgt := 4) rfl ?_
        exact ih (k + 1) n (by omega) (g_eq rfl (by simp only [lpn_X5_countChildren_4, if_neg h22]) rfl rfl K)
      · refine f_iinc F (n + 1) [(2, .int (Int32.ofNat (n + 1))), (3, .int (Int32.ofNat k)), (0, .ref (ad (2 + 22 * i + 2))), (1, .int (Int32.ofNat pa))] dX5_countChildren_25 1 rfl (ofN_inc _) (by decide) rfl ?_
        refine f_iinc F (k + 1) [(3, .int (Int32.ofNat (k + 1))), (2, .int (Int32.ofNat (n + 1))), (0, .ref (ad (2 + 22 * i + 2))), (1, .int (Int32.ofNat pa))] dX5_countChildren_28 1 rfl (ofN_inc _) (by decide) rfl ?_
        refine g_goto F dX5_countChildren_31 (tgt := 4) rfl ?_
        exact ih (k + 1) (n + 1) (by omega) (g_eq rfl (by simp only [lpn_X5_countChildren_4, if_pos h22]) rfl rfl K)
  refine loop4 _ (c 7 i 0) 0 0 (Nat.zero_add _) ?_
  refine g_iload_n F dX5_countChildren_34 0 rfl ?_
  exact g_iret F hr hlk dX5_countChildren_35 ⟨congrArg (fun t => some (Value.int (Int32.ofNat t))) rfl, rfl⟩
def r_X5_lookAtRoot (c : CS) (i wh : Nat) : Nat := if Int32.ofNat wh = 0 then 1 else (if Int32.ofNat wh = Int32.ofNat 3 then (r_X5_countChildren c i 0) else 0)
abbrev rm_X5_lookAtRoot : Room := { frames := 1, cells := 0, slots := 0, locals := 23 }
set_option maxHeartbeats 4000000 in
set_option maxRecDepth 100000 in
theorem k_X5_lookAtRoot (l : Launch) (D : va_G) (cI cS cZ : ClassId) (ad : Nat → Nat) (c : CS) (i wh : Nat) (h_i : i < 3) (hb : c 7 i 0 ≤ 24) : gN l yX5_lookAtRoot (Cond.code yX5_lookAtRoot cX5_lookAtRoot 2 (some .int) :: tb) rm_X5_lookAtRoot D cls8 (tys3 cI cS cZ) [.ref (ad (2 + 22 * i + 2)), .int (Int32.ofNat wh)] (cwld cI cS c ad) (some (.int (Int32.ofNat (r_X5_lookAtRoot c i wh)))) (cwld cI cS c ad) := by
  unfold gN
  refine g_head (by decide) rfl (Nat.le_of_ble_eq_true rfl) ?_
  intro p e s m args below meth cd A F hr hlk hnm
  refine g_eq rfl (L' := [(0, .ref (ad (2 + 22 * i + 2))), (1, .int (Int32.ofNat wh))]) rfl rfl rfl ?_
  refine g_iload_n F dX5_lookAtRoot_0 1 rfl ?_
  refine g_if_ne F dX5_lookAtRoot_1 (tgt := 6) rfl (fun h1 => ?_) (fun h1 => ?_)
  · refine g_iload_n F dX5_lookAtRoot_6 1 rfl ?_
    refine f_iconst F 3 dX5_lookAtRoot_7 rfl ?_
    refine g_icmp_ne F dX5_lookAtRoot_8 (tgt := 19) rfl (fun h8 => ?_) (fun h8 => ?_)
    · refine f_iconst F 0 dX5_lookAtRoot_19 rfl ?_
      exact g_iret F hr hlk dX5_lookAtRoot_20 ⟨congrArg (fun t => some (Value.int (Int32.ofNat t))) (Eq.symm (by unfold r_X5_lookAtRoot; first | simp only [if_neg h1, if_neg h8] | rfl)), rfl⟩
    · refine g_aload_n F dX5_lookAtRoot_11 0 rfl ?_
      refine f_iconst F 0 dX5_lookAtRoot_12 rfl ?_
      refine f_callV F (As := [.int (Int32.ofNat 0)]) (rest := []) (st' := [.int (Int32.ofNat (r_X5_countChildren c i 0))]) (k_X5_countChildren l D cI cS cZ ad c i 0 h_i (by assumption)) (pl_TR h_i) rfl tb_240 tb_238 tb_239 tb_549 tb_3 ⟨rfl, hdX5_countChildren⟩ ⟨rfl, rfl⟩ ⟨Nat.le_of_ble_eq_true rfl, Nat.le_of_ble_eq_true rfl⟩ cw_adr rfl rfl (Nat.le_of_ble_eq_true rfl) ⟨Nat.le_refl _, Nat.le_refl _⟩ dX5_lookAtRoot_13 rfl ?_
      refine g_goto F dX5_lookAtRoot_16 (tgt := 20) rfl ?_
      exact g_iret F hr hlk dX5_lookAtRoot_20 ⟨congrArg (fun t => some (Value.int (Int32.ofNat t))) (Eq.symm (by unfold r_X5_lookAtRoot; first | simp only [if_neg h1, if_pos h8] | rfl)), rfl⟩
  · refine f_iconst F 1 dX5_lookAtRoot_4 rfl ?_
    exact g_iret F hr hlk dX5_lookAtRoot_5 ⟨congrArg (fun t => some (Value.int (Int32.ofNat t))) (Eq.symm (by unfold r_X5_lookAtRoot; first | simp only [if_pos h1] | rfl)), rfl⟩
end
section
theorem find_lt {c : CS} {i pa : Nat} (h : ¬ Int32.ofNat (r_X5_find c i pa) = Int32.ofNat 4294967295) : r_X5_find c i pa < c 7 i 0 := by
  have key : ∀ (d k : Nat), k + d = c 7 i 0 → lpr_X5_find_2 c i pa d k = 4294967295 ∨ lpr_X5_find_2 c i pa d k < c 7 i 0 := by
    intro d
    induction d with
    | zero => intro k _; left; simp only [lpr_X5_find_2]
    | succ d ih =>
      intro k hk
      simp only [lpr_X5_find_2]
      split
      · right; omega
      · exact ih (k + 1) (by omega)
  rcases key (c 7 i 0) 0 (Nat.zero_add _) with h1 | h1
  · exact absurd (by unfold r_X5_find; rw [h1]) h
  · exact h1
theorem nonneg_code {k : Nat} (h : k < 2147483648) : ¬ Int32.ofNat k < 0 := by
  rw [Int32.lt_iff_toInt_lt, Int32.toInt_ofNat_of_lt h]
  have : Int32.toInt 0 = 0 := by decide
  omega
theorem nc_ofN {k : Nat} (h : k < 4294967296) : nc (Int32.ofNat k) = k := by
  unfold nc
  rw [Int32.toUInt32_ofNat']
  exact UInt32.toNat_ofNat_of_lt' h
theorem sub1_code {n : Nat} (h : n < 2147483648) : nc (Int32.ofNat n - Int32.ofNat 1) = if n = 0 then 4294967295 else n - 1 := by
  cases n with
  | zero => decide
  | succ n =>
    rw [show Int32.ofNat (n + 1) - Int32.ofNat 1 = Int32.ofNat n by rw [← ofN_add]; simp, nc_ofN (by omega)]
    simp
theorem dec_code {k d : Nat} (h : k = d) : Int32.ofNat k + Int32.ofInt (-1) = Int32.ofNat (if d = 0 then 4294967295 else d - 1) := by
  subst h
  cases k with
  | zero => decide
  | succ n =>
    rw [← ofN_add]
    have : Int32.ofNat 1 + Int32.ofInt (-1) = 0 := by decide
    rw [Int32.add_assoc, this]
    simp
def r_X5_look (c : CS) (i pa wh : Nat) : Nat := if Int32.ofNat pa = 0 then (r_X5_lookAtRoot c i wh) else (if Int32.ofNat (r_X5_find c i pa) = Int32.ofNat 4294967295 then 0 else (if Int32.ofNat wh = Int32.ofNat 0 then 1 else (if Int32.ofNat wh = Int32.ofNat 1 then (c 27 i (r_X5_find c i pa)) else (if Int32.ofNat wh = Int32.ofNat 2 then (c 28 i (r_X5_find c i pa)) else (if Int32.ofNat wh = Int32.ofNat 3 then (r_X5_countChildren c i pa) else (if Int32.ofNat wh = Int32.ofNat 4 then (c 29 i (r_X5_find c i pa)) else 0))))))
abbrev rm_X5_look : Room := { frames := 2, cells := 0, slots := 0, locals := 44 }
set_option maxHeartbeats 4000000 in
set_option maxRecDepth 100000 in
theorem k_X5_look (l : Launch) (D : va_G) (cI cS cZ : ClassId) (ad : Nat → Nat) (c : CS) (i pa wh : Nat) (h_i : i < 3) (hb : c 7 i 0 ≤ 24) : gN l yX5_look (Cond.code yX5_look cX5_look 4 (some .int) :: tb) rm_X5_look D cls8 (tys3 cI cS cZ) [.ref (ad (2 + 22 * i + 2)), .int (Int32.ofNat pa), .int (Int32.ofNat wh)] (cwld cI cS c ad) (some (.int (Int32.ofNat (r_X5_look c i pa wh)))) (cwld cI cS c ad) := by
  unfold gN
  refine g_head (by decide) rfl (Nat.le_of_ble_eq_true rfl) ?_
  intro p e s m args below meth cd A F hr hlk hnm
  refine g_eq rfl (L' := [(0, .ref (ad (2 + 22 * i + 2))), (1, .int (Int32.ofNat pa)), (2, .int (Int32.ofNat wh))]) rfl rfl rfl ?_
  refine g_iload_n F dX5_look_0 1 rfl ?_
  refine g_if_ne F dX5_look_1 (tgt := 10) rfl (fun h1 => ?_) (fun h1 => ?_)
  · refine g_aload_n F dX5_look_10 0 rfl ?_
    refine g_iload_n F dX5_look_11 1 rfl ?_
    refine f_callV F (As := [.int (Int32.ofNat pa)]) (rest := []) (st' := [.int (Int32.ofNat (r_X5_find c i pa))]) (k_X5_find l D cI cS cZ ad c i pa h_i (by assumption)) (pl_TR h_i) rfl tb_228 tb_226 tb_227 tb_545 tb_3 ⟨rfl, hdX5_find⟩ ⟨rfl, rfl⟩ ⟨Nat.le_of_ble_eq_true rfl, Nat.le_of_ble_eq_true rfl⟩ cw_adr rfl rfl (Nat.le_of_ble_eq_true rfl) ⟨Nat.le_refl _, Nat.le_refl _⟩ dX5_look_12 rfl ?_
    refine g_istore_n F [(3, .int (Int32.ofNat (r_X5_find c i pa))), (0, .ref (ad (2 + 22 * i + 2))), (1, .int (Int32.ofNat pa)), (2, .int (Int32.ofNat wh))] dX5_look_15 (by decide) rfl ?_
    refine g_iload_n F dX5_look_16 0 rfl ?_
    refine f_iconst F 4294967295 dX5_look_17 rfl ?_
    refine g_icmp_ne F dX5_look_18 (tgt := 23) rfl (fun h18 => ?_) (fun h18 => ?_)
    · refine g_iload_n F dX5_look_23 3 rfl ?_
      by_cases h24_0 : Int32.ofNat wh = Int32.ofNat 0
      · refine g_tableIn F dX5_look_24 (by rw [h24_0]; decide) (by rw [h24_0]; decide) (off := 36) (by rw [h24_0]; rfl) (tgt := 60) rfl ?_
        refine f_iconst F 1 dX5_look_60 rfl ?_
        exact g_iret F hr hlk dX5_look_61 ⟨congrArg (fun t => some (Value.int (Int32.ofNat t))) (Eq.symm (by unfold r_X5_look; first | simp only [if_neg h1, if_neg h18, if_pos h24_0] | rfl)), rfl⟩
      by_cases h24_1 : Int32.ofNat wh = Int32.ofNat 1
      · refine g_tableIn F dX5_look_24 (by rw [h24_1]; decide) (by rw [h24_1]; decide) (off := 38) (by rw [h24_1]; rfl) (tgt := 62) rfl ?_
        refine g_aload_n F dX5_look_62 1 rfl ?_
        refine f_get F inX5 (pl_TR h_i) rfl 1 (by decide) tb_45 rfl (v := .ref (ad (2 + 22 * i + 14))) rfl dX5_look_63 ?_
        refine g_iload_n F dX5_look_66 0 rfl ?_
        refine f_ald F 0 (pl_27 h_i) rfl (j := r_X5_find c i pa) (by have := find_lt h18; omega) (by decide) dX5_look_67 ?_
        exact g_iret F hr hlk dX5_look_68 ⟨congrArg (fun t => some (Value.int (Int32.ofNat t))) (Eq.symm (by unfold r_X5_look; first | simp only [if_neg h1, if_neg h18, if_neg h24_0, if_pos h24_1] | rfl)), rfl⟩
      by_cases h24_2 : Int32.ofNat wh = Int32.ofNat 2
      · refine g_tableIn F dX5_look_24 (by rw [h24_2]; decide) (by rw [h24_2]; decide) (off := 45) (by rw [h24_2]; rfl) (tgt := 69) rfl ?_
        refine g_aload_n F dX5_look_69 1 rfl ?_
        refine f_get F inX5 (pl_TR h_i) rfl 2 (by decide) tb_46 rfl (v := .ref (ad (2 + 22 * i + 15))) rfl dX5_look_70 ?_
        refine g_iload_n F dX5_look_73 0 rfl ?_
        refine f_ald F 0 (pl_28 h_i) rfl (j := r_X5_find c i pa) (by have := find_lt h18; omega) (by decide) dX5_look_74 ?_
        exact g_iret F hr hlk dX5_look_75 ⟨congrArg (fun t => some (Value.int (Int32.ofNat t))) (Eq.symm (by unfold r_X5_look; first | simp only [if_neg h1, if_neg h18, if_neg h24_0, if_neg h24_1, if_pos h24_2] | rfl)), rfl⟩
      by_cases h24_3 : Int32.ofNat wh = Int32.ofNat 3
      · refine g_tableIn F dX5_look_24 (by rw [h24_3]; decide) (by rw [h24_3]; decide) (off := 52) (by rw [h24_3]; rfl) (tgt := 76) rfl ?_
        refine g_aload_n F dX5_look_76 1 rfl ?_
        refine g_iload_n F dX5_look_77 2 rfl ?_
        refine f_callV F (As := [.int (Int32.ofNat pa)]) (rest := []) (st' := [.int (Int32.ofNat (r_X5_countChildren c i pa))]) (k_X5_countChildren l D cI cS cZ ad c i pa h_i (by assumption)) (pl_TR h_i) rfl tb_240 tb_238 tb_239 tb_549 tb_3 ⟨rfl, hdX5_countChildren⟩ ⟨rfl, rfl⟩ ⟨Nat.le_of_ble_eq_true rfl, Nat.le_of_ble_eq_true rfl⟩ cw_adr rfl rfl (Nat.le_of_ble_eq_true rfl) ⟨Nat.le_refl _, Nat.le_refl _⟩ dX5_look_78 rfl ?_
        exact g_iret F hr hlk dX5_look_81 ⟨congrArg (fun t => some (Value.int (Int32.ofNat t))) (Eq.symm (by unfold r_X5_look; first | simp only [if_neg h1, if_neg h18, if_neg h24_0, if_neg h24_1, if_neg h24_2, if_pos h24_3] | rfl)), rfl⟩
      by_cases h24_4 : Int32.ofNat wh = Int32.ofNat 4
      · refine g_tableIn F dX5_look_24 (by rw [h24_4]; decide) (by rw [h24_4]; decide) (off := 58) (by rw [h24_4]; rfl) (tgt := 82) rfl ?_
        refine g_aload_n F dX5_look_82 1 rfl ?_
        refine f_get F inX5 (pl_TR h_i) rfl 3 (by decide) tb_47 rfl (v := .ref (ad (2 + 22 * i + 16))) rfl dX5_look_83 ?_
        refine g_iload_n F dX5_look_86 0 rfl ?_
        refine f_ald F 0 (pl_29 h_i) rfl (j := r_X5_find c i pa) (by have := find_lt h18; omega) (by decide) dX5_look_87 ?_
        exact g_iret F hr hlk dX5_look_88 ⟨congrArg (fun t => some (Value.int (Int32.ofNat t))) (Eq.symm (by unfold r_X5_look; first | simp only [if_neg h1, if_neg h18, if_neg h24_0, if_neg h24_1, if_neg h24_2, if_neg h24_3, if_pos h24_4] | rfl)), rfl⟩
      refine g_tableOut F dX5_look_24 (by have e0 : (Int32.ofNat wh).toInt ≠ 0 := fun h => h24_0 (Int32.toInt_inj.mp (h.trans (by decide))); have e1 : (Int32.ofNat wh).toInt ≠ 1 := fun h => h24_1 (Int32.toInt_inj.mp (h.trans (by decide))); have e2 : (Int32.ofNat wh).toInt ≠ 2 := fun h => h24_2 (Int32.toInt_inj.mp (h.trans (by decide))); have e3 : (Int32.ofNat wh).toInt ≠ 3 := fun h => h24_3 (Int32.toInt_inj.mp (h.trans (by decide))); have e4 : (Int32.ofNat wh).toInt ≠ 4 := fun h => h24_4 (Int32.toInt_inj.mp (h.trans (by decide))); omega) (tgt := 89) rfl ?_
      refine f_iconst F 0 dX5_look_89 rfl ?_
      exact g_iret F hr hlk dX5_look_90 ⟨congrArg (fun t => some (Value.int (Int32.ofNat t))) (Eq.symm (by unfold r_X5_look; first | simp only [if_neg h1, if_neg h18, if_neg h24_0, if_neg h24_1, if_neg h24_2, if_neg h24_3, if_neg h24_4] | rfl)), rfl⟩
    · refine f_iconst F 0 dX5_look_21 rfl ?_
      exact g_iret F hr hlk dX5_look_22 ⟨congrArg (fun t => some (Value.int (Int32.ofNat t))) (Eq.symm (by unfold r_X5_look; first | simp only [if_neg h1, if_pos h18] | rfl)), rfl⟩
  · refine g_aload_n F dX5_look_4 0 rfl ?_
    refine g_iload_n F dX5_look_5 2 rfl ?_
    refine f_callV F (As := [.int (Int32.ofNat wh)]) (rest := []) (st' := [.int (Int32.ofNat (r_X5_lookAtRoot c i wh))]) (k_X5_lookAtRoot l D cI cS cZ ad c i wh h_i (by assumption)) (pl_TR h_i) rfl tb_319 tb_317 tb_318 tb_560 tb_3 ⟨rfl, hdX5_lookAtRoot⟩ ⟨rfl, rfl⟩ ⟨Nat.le_of_ble_eq_true rfl, Nat.le_of_ble_eq_true rfl⟩ cw_adr rfl rfl (Nat.le_of_ble_eq_true rfl) ⟨Nat.le_refl _, Nat.le_refl _⟩ dX5_look_6 rfl ?_
    exact g_iret F hr hlk dX5_look_9 ⟨congrArg (fun t => some (Value.int (Int32.ofNat t))) (Eq.symm (by unfold r_X5_look; first | simp only [if_pos h1] | rfl)), rfl⟩
def w_X5_add (c : CS) (i pa va ow : Nat) : CS := if Int32.ofNat 24 ≤ Int32.ofNat (c 7 i 0) then c else (su3 (su3 (su3 (su3 (su3 c 26 i (c 7 i 0) pa) 27 i (c 7 i 0) va) 28 i (c 7 i 0) 0) 29 i (c 7 i 0) ow) 7 i 0 ((c 7 i 0) + 1))
abbrev rm_X5_add : Room := { frames := 0, cells := 0, slots := 0, locals := 0 }
set_option maxHeartbeats 4000000 in
set_option maxRecDepth 100000 in
theorem k_X5_add (l : Launch) (D : va_G) (cI cS cZ : ClassId) (ad : Nat → Nat) (c : CS) (i pa va ow : Nat) (h_i : i < 3) (hb : c 7 i 0 ≤ 24) : gN l yX5_add (Cond.code yX5_add cX5_add 4 none :: tb) rm_X5_add D cls8 (tys3 cI cS cZ) [.ref (ad (2 + 22 * i + 2)), .int (Int32.ofNat pa), .int (Int32.ofNat va), .int (Int32.ofNat ow)] (cwld cI cS c ad) none (cwld cI cS (w_X5_add c i pa va ow) ad) := by
  unfold gN
  refine g_head (by decide) rfl (Nat.le_of_ble_eq_true rfl) ?_
  intro p e s m args below meth cd A F hr hlk hnm
  refine g_eq rfl (L' := [(0, .ref (ad (2 + 22 * i + 2))), (1, .int (Int32.ofNat pa)), (2, .int (Int32.ofNat va)), (3, .int (Int32.ofNat ow))]) rfl rfl rfl ?_
  refine g_aload_n F dX5_add_0 0 rfl ?_
  refine f_get F inX5 (pl_TR h_i) rfl 4 (by decide) tb_48 rfl (v := .int (Int32.ofNat (c 7 i 0))) rfl dX5_add_1 ?_
  refine f_bipush F 24 dX5_add_4 rfl ?_
  refine g_icmp_ge F dX5_add_6 (tgt := 59) rfl (fun h6 => ?_) (fun h6 => ?_)
  · exact g_vret F hr hlk dX5_add_59 ⟨rfl, congrArg (fun t => cwld cI cS t ad) (Eq.symm (by unfold w_X5_add; first | simp only [if_pos h6] | rfl))⟩
  · refine g_aload_n F dX5_add_9 0 rfl ?_
    refine f_get F inX5 (pl_TR h_i) rfl 0 (by decide) tb_44 rfl (v := .ref (ad (2 + 22 * i + 13))) rfl dX5_add_10 ?_
    refine g_aload_n F dX5_add_13 0 rfl ?_
    refine f_get F inX5 (pl_TR h_i) rfl 4 (by decide) tb_48 rfl (v := .int (Int32.ofNat (c 7 i 0))) rfl dX5_add_14 ?_
    refine g_iload_n F dX5_add_17 1 rfl ?_
    refine f_ast F 0 (pl_26 h_i) rfl (j := c 7 i 0) (v := pa) (lt_of_nle h6 (by decide) (by omega)) (by decide) dX5_add_18 (ps_26 h_i) ?_
    refine g_aload_n F dX5_add_19 0 rfl ?_
    refine f_get F inX5 (pl_TR h_i) rfl 1 (by decide) tb_45 rfl (v := .ref (ad (2 + 22 * i + 14))) rfl dX5_add_20 ?_
    refine g_aload_n F dX5_add_23 0 rfl ?_
    refine f_get F inX5 (pl_TR h_i) rfl 4 (by decide) tb_48 rfl (v := .int (Int32.ofNat (c 7 i 0))) rfl dX5_add_24 ?_
    refine g_iload_n F dX5_add_27 2 rfl ?_
    refine f_ast F 0 (pl_27 h_i) rfl (j := c 7 i 0) (v := va) (lt_of_nle h6 (by decide) (by omega)) (by decide) dX5_add_28 (ps_27 h_i) ?_
    refine g_aload_n F dX5_add_29 0 rfl ?_
    refine f_get F inX5 (pl_TR h_i) rfl 2 (by decide) tb_46 rfl (v := .ref (ad (2 + 22 * i + 15))) rfl dX5_add_30 ?_
    refine g_aload_n F dX5_add_33 0 rfl ?_
    refine f_get F inX5 (pl_TR h_i) rfl 4 (by decide) tb_48 rfl (v := .int (Int32.ofNat (c 7 i 0))) rfl dX5_add_34 ?_
    refine f_iconst F 0 dX5_add_37 rfl ?_
    refine f_ast F 0 (pl_28 h_i) rfl (j := c 7 i 0) (v := 0) (lt_of_nle h6 (by decide) (by omega)) (by decide) dX5_add_38 (ps_28 h_i) ?_
    refine g_aload_n F dX5_add_39 0 rfl ?_
    refine f_get F inX5 (pl_TR h_i) rfl 3 (by decide) tb_47 rfl (v := .ref (ad (2 + 22 * i + 16))) rfl dX5_add_40 ?_
    refine g_aload_n F dX5_add_43 0 rfl ?_
    refine f_get F inX5 (pl_TR h_i) rfl 4 (by decide) tb_48 rfl (v := .int (Int32.ofNat (c 7 i 0))) rfl dX5_add_44 ?_
    refine g_iload_n F dX5_add_47 3 rfl ?_
    refine f_ast F 0 (pl_29 h_i) rfl (j := c 7 i 0) (v := ow) (lt_of_nle h6 (by decide) (by omega)) (by decide) dX5_add_48 (ps_29 h_i) ?_
    refine g_aload_n F dX5_add_49 0 rfl ?_
    refine g_dup F dX5_add_50 rfl ?_
    refine f_get F inX5 (pl_TR h_i) rfl 4 (by decide) tb_48 rfl (v := .int (Int32.ofNat (c 7 i 0))) rfl dX5_add_51 ?_
    refine f_iconst F 1 dX5_add_54 rfl ?_
    refine f_add F dX5_add_55 ?_
    refine f_put F inX5 tyX5_ok nmX5 (pl_TR h_i) rfl 4 (by decide) tb_48 rfl rfl rfl rfl (Nat.le_of_ble_eq_true rfl) dX5_add_56 (ps_7 h_i) ?_
    exact g_vret F hr hlk dX5_add_59 ⟨rfl, congrArg (fun t => cwld cI cS t ad) (Eq.symm (by unfold w_X5_add; first | simp only [if_neg h6] | rfl))⟩
def w_X5_remove (c : CS) (i at_ : Nat) : CS := su3 (su3 (su3 (su3 (su3 c 7 i 0 ((c 7 i 0) - 1)) 26 i at_ (c 26 i ((c 7 i 0) - 1))) 27 i at_ (c 27 i ((c 7 i 0) - 1))) 28 i at_ (c 28 i ((c 7 i 0) - 1))) 29 i at_ (c 29 i ((c 7 i 0) - 1))
abbrev rm_X5_remove : Room := { frames := 0, cells := 0, slots := 0, locals := 0 }
set_option maxHeartbeats 4000000 in
set_option maxRecDepth 100000 in
theorem k_X5_remove (l : Launch) (D : va_G) (cI cS cZ : ClassId) (ad : Nat → Nat) (c : CS) (i at_ : Nat) (h_i : i < 3) (hb : c 7 i 0 ≤ 24) (hp : 1 ≤ c 7 i 0) (hat : at_ < 24) : gN l yX5_remove (Cond.code yX5_remove cX5_remove 2 none :: tb) rm_X5_remove D cls8 (tys3 cI cS cZ) [.ref (ad (2 + 22 * i + 2)), .int (Int32.ofNat at_)] (cwld cI cS c ad) none (cwld cI cS (w_X5_remove c i at_) ad) := by
  unfold gN
  refine g_head (by decide) rfl (Nat.le_of_ble_eq_true rfl) ?_
  intro p e s m args below meth cd A F hr hlk hnm
  refine g_eq rfl (L' := [(0, .ref (ad (2 + 22 * i + 2))), (1, .int (Int32.ofNat at_))]) rfl rfl rfl ?_
  refine g_aload_n F dX5_remove_0 0 rfl ?_
  refine g_dup F dX5_remove_1 rfl ?_
  refine f_get F inX5 (pl_TR h_i) rfl 4 (by decide) tb_48 rfl (v := .int (Int32.ofNat (c 7 i 0))) rfl dX5_remove_2 ?_
  refine f_iconst F 1 dX5_remove_5 rfl ?_
  refine f_sub F hp dX5_remove_6 ?_
  refine f_put F inX5 tyX5_ok nmX5 (pl_TR h_i) rfl 4 (by decide) tb_48 rfl rfl rfl rfl (Nat.le_of_ble_eq_true rfl) dX5_remove_7 (ps_7 h_i) ?_
  refine g_aload_n F dX5_remove_10 0 rfl ?_
  refine f_get F inX5 (pl_TR h_i) rfl 0 (by decide) tb_44 rfl (v := .ref (ad (2 + 22 * i + 13))) rfl dX5_remove_11 ?_
  refine g_iload_n F dX5_remove_14 1 rfl ?_
  refine g_aload_n F dX5_remove_15 0 rfl ?_
  refine f_get F inX5 (pl_TR h_i) rfl 0 (by decide) tb_44 rfl (v := .ref (ad (2 + 22 * i + 13))) rfl dX5_remove_16 ?_
  refine g_aload_n F dX5_remove_19 0 rfl ?_
  refine f_get F inX5 (pl_TR h_i) rfl 4 (by decide) tb_48 rfl (v := .int (Int32.ofNat ((su3 c 7 i 0 ((c 7 i 0) - 1)) 7 i 0))) rfl dX5_remove_20 ?_
  refine g_eq rfl rfl (st' := [.int (Int32.ofNat ((c 7 i 0) - 1)), .ref (ad (2 + 22 * i + 13)), .int (Int32.ofNat at_), .ref (ad (2 + 22 * i + 13))]) (by rw [su3_same]) rfl ?_
  refine f_ald F 0 (pl_26 h_i) rfl (j := (c 7 i 0) - 1) (by omega) (by decide) dX5_remove_23 ?_
  refine g_eq rfl rfl (st' := [.int (Int32.ofNat (c 26 i ((c 7 i 0) - 1))), .int (Int32.ofNat at_), .ref (ad (2 + 22 * i + 13))]) rfl rfl ?_
  refine f_ast F 0 (pl_26 h_i) rfl (j := at_) (v := c 26 i ((c 7 i 0) - 1)) (by omega) (by decide) dX5_remove_24 (ps_26 h_i) ?_
  refine g_aload_n F dX5_remove_25 0 rfl ?_
  refine f_get F inX5 (pl_TR h_i) rfl 1 (by decide) tb_45 rfl (v := .ref (ad (2 + 22 * i + 14))) rfl dX5_remove_26 ?_
  refine g_iload_n F dX5_remove_29 1 rfl ?_
  refine g_aload_n F dX5_remove_30 0 rfl ?_
  refine f_get F inX5 (pl_TR h_i) rfl 1 (by decide) tb_45 rfl (v := .ref (ad (2 + 22 * i + 14))) rfl dX5_remove_31 ?_
  refine g_aload_n F dX5_remove_34 0 rfl ?_
  refine f_get F inX5 (pl_TR h_i) rfl 4 (by decide) tb_48 rfl (v := .int (Int32.ofNat ((su3 c 7 i 0 ((c 7 i 0) - 1)) 7 i 0))) rfl dX5_remove_35 ?_
  refine g_eq rfl rfl (st' := [.int (Int32.ofNat ((c 7 i 0) - 1)), .ref (ad (2 + 22 * i + 14)), .int (Int32.ofNat at_), .ref (ad (2 + 22 * i + 14))]) (by rw [su3_same]) rfl ?_
  refine f_ald F 0 (pl_27 h_i) rfl (j := (c 7 i 0) - 1) (by omega) (by decide) dX5_remove_38 ?_
  refine g_eq rfl rfl (st' := [.int (Int32.ofNat (c 27 i ((c 7 i 0) - 1))), .int (Int32.ofNat at_), .ref (ad (2 + 22 * i + 14))]) rfl rfl ?_
  refine f_ast F 0 (pl_27 h_i) rfl (j := at_) (v := c 27 i ((c 7 i 0) - 1)) (by omega) (by decide) dX5_remove_39 (ps_27 h_i) ?_
  refine g_aload_n F dX5_remove_40 0 rfl ?_
  refine f_get F inX5 (pl_TR h_i) rfl 2 (by decide) tb_46 rfl (v := .ref (ad (2 + 22 * i + 15))) rfl dX5_remove_41 ?_
  refine g_iload_n F dX5_remove_44 1 rfl ?_
  refine g_aload_n F dX5_remove_45 0 rfl ?_
  refine f_get F inX5 (pl_TR h_i) rfl 2 (by decide) tb_46 rfl (v := .ref (ad (2 + 22 * i + 15))) rfl dX5_remove_46 ?_
  refine g_aload_n F dX5_remove_49 0 rfl ?_
  refine f_get F inX5 (pl_TR h_i) rfl 4 (by decide) tb_48 rfl (v := .int (Int32.ofNat ((su3 c 7 i 0 ((c 7 i 0) - 1)) 7 i 0))) rfl dX5_remove_50 ?_
  refine g_eq rfl rfl (st' := [.int (Int32.ofNat ((c 7 i 0) - 1)), .ref (ad (2 + 22 * i + 15)), .int (Int32.ofNat at_), .ref (ad (2 + 22 * i + 15))]) (by rw [su3_same]) rfl ?_
  refine f_ald F 0 (pl_28 h_i) rfl (j := (c 7 i 0) - 1) (by omega) (by decide) dX5_remove_53 ?_
  refine g_eq rfl rfl (st' := [.int (Int32.ofNat (c 28 i ((c 7 i 0) - 1))), .int (Int32.ofNat at_), .ref (ad (2 + 22 * i + 15))]) rfl rfl ?_
  refine f_ast F 0 (pl_28 h_i) rfl (j := at_) (v := c 28 i ((c 7 i 0) - 1)) (by omega) (by decide) dX5_remove_54 (ps_28 h_i) ?_
  refine g_aload_n F dX5_remove_55 0 rfl ?_
  refine f_get F inX5 (pl_TR h_i) rfl 3 (by decide) tb_47 rfl (v := .ref (ad (2 + 22 * i + 16))) rfl dX5_remove_56 ?_
  refine g_iload_n F dX5_remove_59 1 rfl ?_
  refine g_aload_n F dX5_remove_60 0 rfl ?_
  refine f_get F inX5 (pl_TR h_i) rfl 3 (by decide) tb_47 rfl (v := .ref (ad (2 + 22 * i + 16))) rfl dX5_remove_61 ?_
  refine g_aload_n F dX5_remove_64 0 rfl ?_
  refine f_get F inX5 (pl_TR h_i) rfl 4 (by decide) tb_48 rfl (v := .int (Int32.ofNat ((su3 c 7 i 0 ((c 7 i 0) - 1)) 7 i 0))) rfl dX5_remove_65 ?_
  refine g_eq rfl rfl (st' := [.int (Int32.ofNat ((c 7 i 0) - 1)), .ref (ad (2 + 22 * i + 16)), .int (Int32.ofNat at_), .ref (ad (2 + 22 * i + 16))]) (by rw [su3_same]) rfl ?_
  refine f_ald F 0 (pl_29 h_i) rfl (j := (c 7 i 0) - 1) (by omega) (by decide) dX5_remove_68 ?_
  refine g_eq rfl rfl (st' := [.int (Int32.ofNat (c 29 i ((c 7 i 0) - 1))), .int (Int32.ofNat at_), .ref (ad (2 + 22 * i + 16))]) rfl rfl ?_
  refine f_ast F 0 (pl_29 h_i) rfl (j := at_) (v := c 29 i ((c 7 i 0) - 1)) (by omega) (by decide) dX5_remove_69 (ps_29 h_i) ?_
  exact g_vret F hr hlk dX5_remove_70 ⟨rfl, congrArg (fun t => cwld cI cS t ad) rfl⟩
def r_X5_create (c : CS) (i pa va ow : Nat) : Nat := if Int32.ofNat ow = 0 then (if Int32.ofNat (r_X5_find c i pa) = Int32.ofNat 4294967295 then (if Int32.ofNat (nc ((Int32.ofNat pa) / (Int32.ofNat 8))) = 0 then (if Int32.ofNat (r_X5_find c i (nc ((Int32.ofNat pa) / (Int32.ofNat 8)))) = Int32.ofNat 4294967295 then 0 else (if Int32.ofNat (c 29 i (r_X5_find c i (nc ((Int32.ofNat pa) / (Int32.ofNat 8))))) = 0 then 0 else 3)) else (if Int32.ofNat (r_X5_find c i (nc ((Int32.ofNat pa) / (Int32.ofNat 8)))) = Int32.ofNat 4294967295 then 1 else (if Int32.ofNat (c 29 i (r_X5_find c i (nc ((Int32.ofNat pa) / (Int32.ofNat 8))))) = 0 then 0 else 3))) else 2) else (if Int32.ofNat (r_X5_isOpen c i ow) = 0 then 6 else (if Int32.ofNat (r_X5_find c i pa) = Int32.ofNat 4294967295 then (if Int32.ofNat (nc ((Int32.ofNat pa) / (Int32.ofNat 8))) = 0 then (if Int32.ofNat (r_X5_find c i (nc ((Int32.ofNat pa) / (Int32.ofNat 8)))) = Int32.ofNat 4294967295 then 0 else (if Int32.ofNat (c 29 i (r_X5_find c i (nc ((Int32.ofNat pa) / (Int32.ofNat 8))))) = 0 then 0 else 3)) else (if Int32.ofNat (r_X5_find c i (nc ((Int32.ofNat pa) / (Int32.ofNat 8)))) = Int32.ofNat 4294967295 then 1 else (if Int32.ofNat (c 29 i (r_X5_find c i (nc ((Int32.ofNat pa) / (Int32.ofNat 8))))) = 0 then 0 else 3))) else 2))
def w_X5_create (c : CS) (i pa va ow : Nat) : CS := if Int32.ofNat ow = 0 then (if Int32.ofNat (r_X5_find c i pa) = Int32.ofNat 4294967295 then (if Int32.ofNat (nc ((Int32.ofNat pa) / (Int32.ofNat 8))) = 0 then (if Int32.ofNat (r_X5_find c i (nc ((Int32.ofNat pa) / (Int32.ofNat 8)))) = Int32.ofNat 4294967295 then (w_X5_add c i pa va ow) else (if Int32.ofNat (c 29 i (r_X5_find c i (nc ((Int32.ofNat pa) / (Int32.ofNat 8))))) = 0 then (w_X5_add c i pa va ow) else c)) else (if Int32.ofNat (r_X5_find c i (nc ((Int32.ofNat pa) / (Int32.ofNat 8)))) = Int32.ofNat 4294967295 then c else (if Int32.ofNat (c 29 i (r_X5_find c i (nc ((Int32.ofNat pa) / (Int32.ofNat 8))))) = 0 then (w_X5_add c i pa va ow) else c))) else c) else (if Int32.ofNat (r_X5_isOpen c i ow) = 0 then c else (if Int32.ofNat (r_X5_find c i pa) = Int32.ofNat 4294967295 then (if Int32.ofNat (nc ((Int32.ofNat pa) / (Int32.ofNat 8))) = 0 then (if Int32.ofNat (r_X5_find c i (nc ((Int32.ofNat pa) / (Int32.ofNat 8)))) = Int32.ofNat 4294967295 then (w_X5_add c i pa va ow) else (if Int32.ofNat (c 29 i (r_X5_find c i (nc ((Int32.ofNat pa) / (Int32.ofNat 8))))) = 0 then (w_X5_add c i pa va ow) else c)) else (if Int32.ofNat (r_X5_find c i (nc ((Int32.ofNat pa) / (Int32.ofNat 8)))) = Int32.ofNat 4294967295 then c else (if Int32.ofNat (c 29 i (r_X5_find c i (nc ((Int32.ofNat pa) / (Int32.ofNat 8))))) = 0 then (w_X5_add c i pa va ow) else c))) else c))
abbrev rm_X5_create : Room := { frames := 2, cells := 0, slots := 0, locals := 41 }
set_option maxHeartbeats 4000000 in
set_option maxRecDepth 100000 in
theorem k_X5_create (l : Launch) (D : va_G) (cI cS cZ : ClassId) (ad : Nat → Nat) (c : CS) (i pa va ow : Nat) (h_i : i < 3) (hb : c 7 i 0 ≤ 24) : gN l yX5_create (Cond.code yX5_create cX5_create 6 (some .int) :: tb) rm_X5_create D cls8 (tys3 cI cS cZ) [.ref (ad (2 + 22 * i + 2)), .int (Int32.ofNat pa), .int (Int32.ofNat va), .int (Int32.ofNat ow)] (cwld cI cS c ad) (some (.int (Int32.ofNat (r_X5_create c i pa va ow)))) (cwld cI cS (w_X5_create c i pa va ow) ad) := by
  unfold gN
  refine g_head (by decide) rfl (Nat.le_of_ble_eq_true rfl) ?_
  intro p e s m args below meth cd A F hr hlk hnm
  refine g_eq rfl (L' := [(0, .ref (ad (2 + 22 * i + 2))), (1, .int (Int32.ofNat pa)), (2, .int (Int32.ofNat va)), (3, .int (Int32.ofNat ow))]) rfl rfl rfl ?_
  refine g_iload_n F dX5_create_0 3 rfl ?_
  refine g_if_eq F dX5_create_1 (tgt := 15) rfl (fun h1 => ?_) (fun h1 => ?_)
  · refine g_aload_n F dX5_create_15 0 rfl ?_
    refine g_iload_n F dX5_create_16 1 rfl ?_
    refine f_callV F (As := [.int (Int32.ofNat pa)]) (rest := []) (st' := [.int (Int32.ofNat (r_X5_find c i pa))]) (k_X5_find l D cI cS cZ ad c i pa h_i (by assumption)) (pl_TR h_i) rfl tb_228 tb_226 tb_227 tb_545 tb_3 ⟨rfl, hdX5_find⟩ ⟨rfl, rfl⟩ ⟨Nat.le_of_ble_eq_true rfl, Nat.le_of_ble_eq_true rfl⟩ cw_adr rfl rfl (Nat.le_of_ble_eq_true rfl) ⟨Nat.le_refl _, Nat.le_refl _⟩ dX5_create_17 rfl ?_
    refine f_iconst F 4294967295 dX5_create_20 rfl ?_
    refine g_icmp_eq F dX5_create_21 (tgt := 26) rfl (fun h21 => ?_) (fun h21 => ?_)
    · refine g_iload_n F dX5_create_26 1 rfl ?_
      refine f_bipush F 8 dX5_create_27 rfl ?_
      refine g_idiv F dX5_create_29 (by decide) ?_
      refine f_code ?_
      refine g_istore F [(4, .int (Int32.ofNat (nc ((Int32.ofNat pa) / (Int32.ofNat 8))))), (0, .ref (ad (2 + 22 * i + 2))), (1, .int (Int32.ofNat pa)), (2, .int (Int32.ofNat va)), (3, .int (Int32.ofNat ow))] dX5_create_30 (by decide) rfl ?_
      refine g_aload_n F dX5_create_32 1 rfl ?_
      refine g_iload F dX5_create_33 0 rfl ?_
      refine f_callV F (As := [.int (Int32.ofNat (nc ((Int32.ofNat pa) / (Int32.ofNat 8))))]) (rest := []) (st' := [.int (Int32.ofNat (r_X5_find c i (nc ((Int32.ofNat pa) / (Int32.ofNat 8)))))]) (k_X5_find l D cI cS cZ ad c i (nc ((Int32.ofNat pa) / (Int32.ofNat 8))) h_i (by assumption)) (pl_TR h_i) rfl tb_228 tb_226 tb_227 tb_545 tb_3 ⟨rfl, hdX5_find⟩ ⟨rfl, rfl⟩ ⟨Nat.le_of_ble_eq_true rfl, Nat.le_of_ble_eq_true rfl⟩ cw_adr rfl rfl (Nat.le_of_ble_eq_true rfl) ⟨Nat.le_refl _, Nat.le_refl _⟩ dX5_create_35 rfl ?_
      refine g_istore F [(5, .int (Int32.ofNat (r_X5_find c i (nc ((Int32.ofNat pa) / (Int32.ofNat 8)))))), (4, .int (Int32.ofNat (nc ((Int32.ofNat pa) / (Int32.ofNat 8))))), (0, .ref (ad (2 + 22 * i + 2))), (1, .int (Int32.ofNat pa)), (2, .int (Int32.ofNat va)), (3, .int (Int32.ofNat ow))] dX5_create_38 (by decide) rfl ?_
      refine g_iload F dX5_create_40 1 rfl ?_
      refine g_if_eq F dX5_create_42 (tgt := 53) rfl (fun h42 => ?_) (fun h42 => ?_)
      · refine g_iload F dX5_create_53 0 rfl ?_
        refine f_iconst F 4294967295 dX5_create_55 rfl ?_
        refine g_icmp_eq F dX5_create_56 (tgt := 71) rfl (fun h56 => ?_) (fun h56 => ?_)
        · refine g_aload_n F dX5_create_71 2 rfl ?_
          refine g_iload_n F dX5_create_72 3 rfl ?_
          refine g_iload_n F dX5_create_73 4 rfl ?_
          refine g_iload_n F dX5_create_74 5 rfl ?_
          refine f_callV F (As := [.int (Int32.ofNat pa), .int (Int32.ofNat va), .int (Int32.ofNat ow)]) (rest := []) (st' := []) (k_X5_add l D cI cS cZ ad c i pa va ow h_i (by assumption)) (pl_TR h_i) rfl tb_231 tb_229 tb_230 tb_546 tb_3 ⟨rfl, hdX5_add⟩ ⟨rfl, rfl⟩ ⟨Nat.le_of_ble_eq_true rfl, Nat.le_of_ble_eq_true rfl⟩ cw_adr rfl rfl (Nat.le_of_ble_eq_true rfl) ⟨Nat.le_refl _, Nat.le_refl _⟩ dX5_create_75 rfl ?_
          refine f_iconst F 0 dX5_create_78 rfl ?_
          exact g_iret F hr hlk dX5_create_79 ⟨congrArg (fun t => some (Value.int (Int32.ofNat t))) (Eq.symm (by unfold r_X5_create; first | simp only [if_pos h1, if_pos h21, if_pos h42, if_pos h56] | rfl)), congrArg (fun t => cwld cI cS t ad) (Eq.symm (by unfold w_X5_create; first | simp only [if_pos h1, if_pos h21, if_pos h42, if_pos h56] | rfl))⟩
        · refine g_aload_n F dX5_create_59 2 rfl ?_
          refine f_get F inX5 (pl_TR h_i) rfl 3 (by decide) tb_47 rfl (v := .ref (ad (2 + 22 * i + 16))) rfl dX5_create_60 ?_
          refine g_iload F dX5_create_63 0 rfl ?_
          refine f_ald F 0 (pl_29 h_i) rfl (j := r_X5_find c i (nc ((Int32.ofNat pa) / (Int32.ofNat 8)))) (by have := find_lt h56; omega) (by decide) dX5_create_65 ?_
          refine g_if_eq F dX5_create_66 (tgt := 71) rfl (fun h66 => ?_) (fun h66 => ?_)
          · refine g_aload_n F dX5_create_71 2 rfl ?_
            refine g_iload_n F dX5_create_72 3 rfl ?_
            refine g_iload_n F dX5_create_73 4 rfl ?_
            refine g_iload_n F dX5_create_74 5 rfl ?_
            refine f_callV F (As := [.int (Int32.ofNat pa), .int (Int32.ofNat va), .int (Int32.ofNat ow)]) (rest := []) (st' := []) (k_X5_add l D cI cS cZ ad c i pa va ow h_i (by assumption)) (pl_TR h_i) rfl tb_231 tb_229 tb_230 tb_546 tb_3 ⟨rfl, hdX5_add⟩ ⟨rfl, rfl⟩ ⟨Nat.le_of_ble_eq_true rfl, Nat.le_of_ble_eq_true rfl⟩ cw_adr rfl rfl (Nat.le_of_ble_eq_true rfl) ⟨Nat.le_refl _, Nat.le_refl _⟩ dX5_create_75 rfl ?_
            refine f_iconst F 0 dX5_create_78 rfl ?_
            exact g_iret F hr hlk dX5_create_79 ⟨congrArg (fun t => some (Value.int (Int32.ofNat t))) (Eq.symm (by unfold r_X5_create; first | simp only [if_pos h1, if_pos h21, if_pos h42, if_neg h56, if_pos h66] | rfl)), congrArg (fun t => cwld cI cS t ad) (Eq.symm (by unfold w_X5_create; first | simp only [if_pos h1, if_pos h21, if_pos h42, if_neg h56, if_pos h66] | rfl))⟩
          · refine f_iconst F 3 dX5_create_69 rfl ?_
            exact g_iret F hr hlk dX5_create_70 ⟨congrArg (fun t => some (Value.int (Int32.ofNat t))) (Eq.symm (by unfold r_X5_create; first | simp only [if_pos h1, if_pos h21, if_pos h42, if_neg h56, if_neg h66] | rfl)), congrArg (fun t => cwld cI cS t ad) (Eq.symm (by unfold w_X5_create; first | simp only [if_pos h1, if_pos h21, if_pos h42, if_neg h56, if_neg h66] | rfl))⟩
      · refine g_iload F dX5_create_45 0 rfl ?_
        refine f_iconst F 4294967295 dX5_create_47 rfl ?_
        refine g_icmp_ne F dX5_create_48 (tgt := 53) rfl (fun h48 => ?_) (fun h48 => ?_)
        · refine g_iload F dX5_create_53 0 rfl ?_
          refine f_iconst F 4294967295 dX5_create_55 rfl ?_
          refine g_icmp_eq F dX5_create_56 (tgt := 71) rfl (fun h56 => ?_) (fun h56 => ?_)
          · exact absurd h56 h48
          refine g_aload_n F dX5_create_59 2 rfl ?_
          refine f_get F inX5 (pl_TR h_i) rfl 3 (by decide) tb_47 rfl (v := .ref (ad (2 + 22 * i + 16))) rfl dX5_create_60 ?_
          refine g_iload F dX5_create_63 0 rfl ?_
          refine f_ald F 0 (pl_29 h_i) rfl (j := r_X5_find c i (nc ((Int32.ofNat pa) / (Int32.ofNat 8)))) (by have := find_lt h56; omega) (by decide) dX5_create_65 ?_
          refine g_if_eq F dX5_create_66 (tgt := 71) rfl (fun h66 => ?_) (fun h66 => ?_)
          · refine g_aload_n F dX5_create_71 2 rfl ?_
            refine g_iload_n F dX5_create_72 3 rfl ?_
            refine g_iload_n F dX5_create_73 4 rfl ?_
            refine g_iload_n F dX5_create_74 5 rfl ?_
            refine f_callV F (As := [.int (Int32.ofNat pa), .int (Int32.ofNat va), .int (Int32.ofNat ow)]) (rest := []) (st' := []) (k_X5_add l D cI cS cZ ad c i pa va ow h_i (by assumption)) (pl_TR h_i) rfl tb_231 tb_229 tb_230 tb_546 tb_3 ⟨rfl, hdX5_add⟩ ⟨rfl, rfl⟩ ⟨Nat.le_of_ble_eq_true rfl, Nat.le_of_ble_eq_true rfl⟩ cw_adr rfl rfl (Nat.le_of_ble_eq_true rfl) ⟨Nat.le_refl _, Nat.le_refl _⟩ dX5_create_75 rfl ?_
            refine f_iconst F 0 dX5_create_78 rfl ?_
            exact g_iret F hr hlk dX5_create_79 ⟨congrArg (fun t => some (Value.int (Int32.ofNat t))) (Eq.symm (by unfold r_X5_create; first | simp only [if_pos h1, if_pos h21, if_neg h42, if_neg h48, if_pos h66] | rfl)), congrArg (fun t => cwld cI cS t ad) (Eq.symm (by unfold w_X5_create; first | simp only [if_pos h1, if_pos h21, if_neg h42, if_neg h48, if_pos h66] | rfl))⟩
          · refine f_iconst F 3 dX5_create_69 rfl ?_
            exact g_iret F hr hlk dX5_create_70 ⟨congrArg (fun t => some (Value.int (Int32.ofNat t))) (Eq.symm (by unfold r_X5_create; first | simp only [if_pos h1, if_pos h21, if_neg h42, if_neg h48, if_neg h66] | rfl)), congrArg (fun t => cwld cI cS t ad) (Eq.symm (by unfold w_X5_create; first | simp only [if_pos h1, if_pos h21, if_neg h42, if_neg h48, if_neg h66] | rfl))⟩
        · refine f_iconst F 1 dX5_create_51 rfl ?_
          exact g_iret F hr hlk dX5_create_52 ⟨congrArg (fun t => some (Value.int (Int32.ofNat t))) (Eq.symm (by unfold r_X5_create; first | simp only [if_pos h1, if_pos h21, if_neg h42, if_pos h48] | rfl)), congrArg (fun t => cwld cI cS t ad) (Eq.symm (by unfold w_X5_create; first | simp only [if_pos h1, if_pos h21, if_neg h42, if_pos h48] | rfl))⟩
    · refine f_iconst F 2 dX5_create_24 rfl ?_
      exact g_iret F hr hlk dX5_create_25 ⟨congrArg (fun t => some (Value.int (Int32.ofNat t))) (Eq.symm (by unfold r_X5_create; first | simp only [if_pos h1, if_neg h21] | rfl)), congrArg (fun t => cwld cI cS t ad) (Eq.symm (by unfold w_X5_create; first | simp only [if_pos h1, if_neg h21] | rfl))⟩
  · refine g_aload_n F dX5_create_4 0 rfl ?_
    refine g_iload_n F dX5_create_5 3 rfl ?_
    refine f_callV F (As := [.int (Int32.ofNat ow)]) (rest := []) (st' := [.int (Int32.ofNat (r_X5_isOpen c i ow))]) (k_X5_isOpen l D cI cS cZ ad c i ow h_i) (pl_TR h_i) rfl tb_223 tb_221 tb_222 tb_544 tb_3 ⟨rfl, hdX5_isOpen⟩ ⟨rfl, rfl⟩ ⟨Nat.le_of_ble_eq_true rfl, Nat.le_of_ble_eq_true rfl⟩ cw_adr rfl rfl (Nat.le_of_ble_eq_true rfl) ⟨Nat.le_refl _, Nat.le_refl _⟩ dX5_create_6 rfl ?_
    refine g_if_ne F dX5_create_9 (tgt := 15) rfl (fun h9 => ?_) (fun h9 => ?_)
    · refine g_aload_n F dX5_create_15 0 rfl ?_
      refine g_iload_n F dX5_create_16 1 rfl ?_
      refine f_callV F (As := [.int (Int32.ofNat pa)]) (rest := []) (st' := [.int (Int32.ofNat (r_X5_find c i pa))]) (k_X5_find l D cI cS cZ ad c i pa h_i (by assumption)) (pl_TR h_i) rfl tb_228 tb_226 tb_227 tb_545 tb_3 ⟨rfl, hdX5_find⟩ ⟨rfl, rfl⟩ ⟨Nat.le_of_ble_eq_true rfl, Nat.le_of_ble_eq_true rfl⟩ cw_adr rfl rfl (Nat.le_of_ble_eq_true rfl) ⟨Nat.le_refl _, Nat.le_refl _⟩ dX5_create_17 rfl ?_
      refine f_iconst F 4294967295 dX5_create_20 rfl ?_
      refine g_icmp_eq F dX5_create_21 (tgt := 26) rfl (fun h21 => ?_) (fun h21 => ?_)
      · refine g_iload_n F dX5_create_26 1 rfl ?_
        refine f_bipush F 8 dX5_create_27 rfl ?_
        refine g_idiv F dX5_create_29 (by decide) ?_
        refine f_code ?_
        refine g_istore F [(4, .int (Int32.ofNat (nc ((Int32.ofNat pa) / (Int32.ofNat 8))))), (0, .ref (ad (2 + 22 * i + 2))), (1, .int (Int32.ofNat pa)), (2, .int (Int32.ofNat va)), (3, .int (Int32.ofNat ow))] dX5_create_30 (by decide) rfl ?_
        refine g_aload_n F dX5_create_32 1 rfl ?_
        refine g_iload F dX5_create_33 0 rfl ?_
        refine f_callV F (As := [.int (Int32.ofNat (nc ((Int32.ofNat pa) / (Int32.ofNat 8))))]) (rest := []) (st' := [.int (Int32.ofNat (r_X5_find c i (nc ((Int32.ofNat pa) / (Int32.ofNat 8)))))]) (k_X5_find l D cI cS cZ ad c i (nc ((Int32.ofNat pa) / (Int32.ofNat 8))) h_i (by assumption)) (pl_TR h_i) rfl tb_228 tb_226 tb_227 tb_545 tb_3 ⟨rfl, hdX5_find⟩ ⟨rfl, rfl⟩ ⟨Nat.le_of_ble_eq_true rfl, Nat.le_of_ble_eq_true rfl⟩ cw_adr rfl rfl (Nat.le_of_ble_eq_true rfl) ⟨Nat.le_refl _, Nat.le_refl _⟩ dX5_create_35 rfl ?_
        refine g_istore F [(5, .int (Int32.ofNat (r_X5_find c i (nc ((Int32.ofNat pa) / (Int32.ofNat 8)))))), (4, .int (Int32.ofNat (nc ((Int32.ofNat pa) / (Int32.ofNat 8))))), (0, .ref (ad (2 + 22 * i + 2))), (1, .int (Int32.ofNat pa)), (2, .int (Int32.ofNat va)), (3, .int (Int32.ofNat ow))] dX5_create_38 (by decide) rfl ?_
        refine g_iload F dX5_create_40 1 rfl ?_
        refine g_if_eq F dX5_create_42 (tgt := 53) rfl (fun h42 => ?_) (fun h42 => ?_)
        · refine g_iload F dX5_create_53 0 rfl ?_
          refine f_iconst F 4294967295 dX5_create_55 rfl ?_
          refine g_icmp_eq F dX5_create_56 (tgt := 71) rfl (fun h56 => ?_) (fun h56 => ?_)
          · refine g_aload_n F dX5_create_71 2 rfl ?_
            refine g_iload_n F dX5_create_72 3 rfl ?_
            refine g_iload_n F dX5_create_73 4 rfl ?_
            refine g_iload_n F dX5_create_74 5 rfl ?_
            refine f_callV F (As := [.int (Int32.ofNat pa), .int (Int32.ofNat va), .int (Int32.ofNat ow)]) (rest := []) (st' := []) (k_X5_add l D cI cS cZ ad c i pa va ow h_i (by assumption)) (pl_TR h_i) rfl tb_231 tb_229 tb_230 tb_546 tb_3 ⟨rfl, hdX5_add⟩ ⟨rfl, rfl⟩ ⟨Nat.le_of_ble_eq_true rfl, Nat.le_of_ble_eq_true rfl⟩ cw_adr rfl rfl (Nat.le_of_ble_eq_true rfl) ⟨Nat.le_refl _, Nat.le_refl _⟩ dX5_create_75 rfl ?_
            refine f_iconst F 0 dX5_create_78 rfl ?_
            exact g_iret F hr hlk dX5_create_79 ⟨congrArg (fun t => some (Value.int (Int32.ofNat t))) (Eq.symm (by unfold r_X5_create; first | simp only [if_neg h1, if_neg h9, if_pos h21, if_pos h42, if_pos h56] | rfl)), congrArg (fun t => cwld cI cS t ad) (Eq.symm (by unfold w_X5_create; first | simp only [if_neg h1, if_neg h9, if_pos h21, if_pos h42, if_pos h56] | rfl))⟩
          · refine g_aload_n F dX5_create_59 2 rfl ?_
            refine f_get F inX5 (pl_TR h_i) rfl 3 (by decide) tb_47 rfl (v := .ref (ad (2 + 22 * i + 16))) rfl dX5_create_60 ?_
            refine g_iload F dX5_create_63 0 rfl ?_
            refine f_ald F 0 (pl_29 h_i) rfl (j := r_X5_find c i (nc ((Int32.ofNat pa) / (Int32.ofNat 8)))) (by have := find_lt h56; omega) (by decide) dX5_create_65 ?_
            refine g_if_eq F dX5_create_66 (tgt := 71) rfl (fun h66 => ?_) (fun h66 => ?_)
            · refine g_aload_n F dX5_create_71 2 rfl ?_
              refine g_iload_n F dX5_create_72 3 rfl ?_
              refine g_iload_n F dX5_create_73 4 rfl ?_
              refine g_iload_n F dX5_create_74 5 rfl ?_
              refine f_callV F (As := [.int (Int32.ofNat pa), .int (Int32.ofNat va), .int (Int32.ofNat ow)]) (rest := []) (st' := []) (k_X5_add l D cI cS cZ ad c i pa va ow h_i (by assumption)) (pl_TR h_i) rfl tb_231 tb_229 tb_230 tb_546 tb_3 ⟨rfl, hdX5_add⟩ ⟨rfl, rfl⟩ ⟨Nat.le_of_ble_eq_true rfl, Nat.le_of_ble_eq_true rfl⟩ cw_adr rfl rfl (Nat.le_of_ble_eq_true rfl) ⟨Nat.le_refl _, Nat.le_refl _⟩ dX5_create_75 rfl ?_
              refine f_iconst F 0 dX5_create_78 rfl ?_
              exact g_iret F hr hlk dX5_create_79 ⟨congrArg (fun t => some (Value.int (Int32.ofNat t))) (Eq.symm (by unfold r_X5_create; first | simp only [if_neg h1, if_neg h9, if_pos h21, if_pos h42, if_neg h56, if_pos h66] | rfl)), congrArg (fun t => cwld cI cS t ad) (Eq.symm (by unfold w_X5_create; first | simp only [if_neg h1, if_neg h9, if_pos h21, if_pos h42, if_neg h56, if_pos h66] | rfl))⟩
            · refine f_iconst F 3 dX5_create_69 rfl ?_
              exact g_iret F hr hlk dX5_create_70 ⟨congrArg (fun t => some (Value.int (Int32.ofNat t))) (Eq.symm (by unfold r_X5_create; first | simp only [if_neg h1, if_neg h9, if_pos h21, if_pos h42, if_neg h56, if_neg h66] | rfl)), congrArg (fun t => cwld cI cS t ad) (Eq.symm (by unfold w_X5_create; first | simp only [if_neg h1, if_neg h9, if_pos h21, if_pos h42, if_neg h56, if_neg h66] | rfl))⟩
        · refine g_iload F dX5_create_45 0 rfl ?_
          refine f_iconst F 4294967295 dX5_create_47 rfl ?_
          refine g_icmp_ne F dX5_create_48 (tgt := 53) rfl (fun h48 => ?_) (fun h48 => ?_)
          · refine g_iload F dX5_create_53 0 rfl ?_
            refine f_iconst F 4294967295 dX5_create_55 rfl ?_
            refine g_icmp_eq F dX5_create_56 (tgt := 71) rfl (fun h56 => ?_) (fun h56 => ?_)
            · exact absurd h56 h48
            refine g_aload_n F dX5_create_59 2 rfl ?_
            refine f_get F inX5 (pl_TR h_i) rfl 3 (by decide) tb_47 rfl (v := .ref (ad (2 + 22 * i + 16))) rfl dX5_create_60 ?_
            refine g_iload F dX5_create_63 0 rfl ?_
            refine f_ald F 0 (pl_29 h_i) rfl (j := r_X5_find c i (nc ((Int32.ofNat pa) / (Int32.ofNat 8)))) (by have := find_lt h56; omega) (by decide) dX5_create_65 ?_
            refine g_if_eq F dX5_create_66 (tgt := 71) rfl (fun h66 => ?_) (fun h66 => ?_)
            · refine g_aload_n F dX5_create_71 2 rfl ?_
              refine g_iload_n F dX5_create_72 3 rfl ?_
              refine g_iload_n F dX5_create_73 4 rfl ?_
              refine g_iload_n F dX5_create_74 5 rfl ?_
              refine f_callV F (As := [.int (Int32.ofNat pa), .int (Int32.ofNat va), .int (Int32.ofNat ow)]) (rest := []) (st' := []) (k_X5_add l D cI cS cZ ad c i pa va ow h_i (by assumption)) (pl_TR h_i) rfl tb_231 tb_229 tb_230 tb_546 tb_3 ⟨rfl, hdX5_add⟩ ⟨rfl, rfl⟩ ⟨Nat.le_of_ble_eq_true rfl, Nat.le_of_ble_eq_true rfl⟩ cw_adr rfl rfl (Nat.le_of_ble_eq_true rfl) ⟨Nat.le_refl _, Nat.le_refl _⟩ dX5_create_75 rfl ?_
              refine f_iconst F 0 dX5_create_78 rfl ?_
              exact g_iret F hr hlk dX5_create_79 ⟨congrArg (fun t => some (Value.int (Int32.ofNat t))) (Eq.symm (by unfold r_X5_create; first | simp only [if_neg h1, if_neg h9, if_pos h21, if_neg h42, if_neg h48, if_pos h66] | rfl)), congrArg (fun t => cwld cI cS t ad) (Eq.symm (by unfold w_X5_create; first | simp only [if_neg h1, if_neg h9, if_pos h21, if_neg h42, if_neg h48, if_pos h66] | rfl))⟩
            · refine f_iconst F 3 dX5_create_69 rfl ?_
              exact g_iret F hr hlk dX5_create_70 ⟨congrArg (fun t => some (Value.int (Int32.ofNat t))) (Eq.symm (by unfold r_X5_create; first | simp only [if_neg h1, if_neg h9, if_pos h21, if_neg h42, if_neg h48, if_neg h66] | rfl)), congrArg (fun t => cwld cI cS t ad) (Eq.symm (by unfold w_X5_create; first | simp only [if_neg h1, if_neg h9, if_pos h21, if_neg h42, if_neg h48, if_neg h66] | rfl))⟩
          · refine f_iconst F 1 dX5_create_51 rfl ?_
            exact g_iret F hr hlk dX5_create_52 ⟨congrArg (fun t => some (Value.int (Int32.ofNat t))) (Eq.symm (by unfold r_X5_create; first | simp only [if_neg h1, if_neg h9, if_pos h21, if_neg h42, if_pos h48] | rfl)), congrArg (fun t => cwld cI cS t ad) (Eq.symm (by unfold w_X5_create; first | simp only [if_neg h1, if_neg h9, if_pos h21, if_neg h42, if_pos h48] | rfl))⟩
      · refine f_iconst F 2 dX5_create_24 rfl ?_
        exact g_iret F hr hlk dX5_create_25 ⟨congrArg (fun t => some (Value.int (Int32.ofNat t))) (Eq.symm (by unfold r_X5_create; first | simp only [if_neg h1, if_neg h9, if_neg h21] | rfl)), congrArg (fun t => cwld cI cS t ad) (Eq.symm (by unfold w_X5_create; first | simp only [if_neg h1, if_neg h9, if_neg h21] | rfl))⟩
    · refine f_bipush F 6 dX5_create_12 rfl ?_
      exact g_iret F hr hlk dX5_create_14 ⟨congrArg (fun t => some (Value.int (Int32.ofNat t))) (Eq.symm (by unfold r_X5_create; first | simp only [if_neg h1, if_pos h9] | rfl)), congrArg (fun t => cwld cI cS t ad) (Eq.symm (by unfold w_X5_create; first | simp only [if_neg h1, if_pos h9] | rfl))⟩
def r_X5_set (c : CS) (i pa va ve : Nat) : Nat := if Int32.ofNat (r_X5_find c i pa) = Int32.ofNat 4294967295 then 1 else (if Int32.ofNat ve = Int32.ofNat 4294967295 then 0 else (if Int32.ofNat ve = Int32.ofNat (c 28 i (r_X5_find c i pa)) then 0 else 5))
def w_X5_set (c : CS) (i pa va ve : Nat) : CS := if Int32.ofNat (r_X5_find c i pa) = Int32.ofNat 4294967295 then c else (if Int32.ofNat ve = Int32.ofNat 4294967295 then (su3 (su3 c 27 i (r_X5_find c i pa) va) 28 i (r_X5_find c i pa) ((c 28 i (r_X5_find c i pa)) + 1)) else (if Int32.ofNat ve = Int32.ofNat (c 28 i (r_X5_find c i pa)) then (su3 (su3 c 27 i (r_X5_find c i pa) va) 28 i (r_X5_find c i pa) ((c 28 i (r_X5_find c i pa)) + 1)) else c))
abbrev rm_X5_set : Room := { frames := 1, cells := 0, slots := 0, locals := 22 }
set_option maxHeartbeats 4000000 in
set_option maxRecDepth 100000 in
theorem k_X5_set (l : Launch) (D : va_G) (cI cS cZ : ClassId) (ad : Nat → Nat) (c : CS) (i pa va ve : Nat) (h_i : i < 3) (hb : c 7 i 0 ≤ 24) : gN l yX5_set (Cond.code yX5_set cX5_set 5 (some .int) :: tb) rm_X5_set D cls8 (tys3 cI cS cZ) [.ref (ad (2 + 22 * i + 2)), .int (Int32.ofNat pa), .int (Int32.ofNat va), .int (Int32.ofNat ve)] (cwld cI cS c ad) (some (.int (Int32.ofNat (r_X5_set c i pa va ve)))) (cwld cI cS (w_X5_set c i pa va ve) ad) := by
  unfold gN
  refine g_head (by decide) rfl (Nat.le_of_ble_eq_true rfl) ?_
  intro p e s m args below meth cd A F hr hlk hnm
  refine g_eq rfl (L' := [(0, .ref (ad (2 + 22 * i + 2))), (1, .int (Int32.ofNat pa)), (2, .int (Int32.ofNat va)), (3, .int (Int32.ofNat ve))]) rfl rfl rfl ?_
  refine g_aload_n F dX5_set_0 0 rfl ?_
  refine g_iload_n F dX5_set_1 1 rfl ?_
  refine f_callV F (As := [.int (Int32.ofNat pa)]) (rest := []) (st' := [.int (Int32.ofNat (r_X5_find c i pa))]) (k_X5_find l D cI cS cZ ad c i pa h_i (by assumption)) (pl_TR h_i) rfl tb_228 tb_226 tb_227 tb_545 tb_3 ⟨rfl, hdX5_find⟩ ⟨rfl, rfl⟩ ⟨Nat.le_of_ble_eq_true rfl, Nat.le_of_ble_eq_true rfl⟩ cw_adr rfl rfl (Nat.le_of_ble_eq_true rfl) ⟨Nat.le_refl _, Nat.le_refl _⟩ dX5_set_2 rfl ?_
  refine g_istore F [(4, .int (Int32.ofNat (r_X5_find c i pa))), (0, .ref (ad (2 + 22 * i + 2))), (1, .int (Int32.ofNat pa)), (2, .int (Int32.ofNat va)), (3, .int (Int32.ofNat ve))] dX5_set_5 (by decide) rfl ?_
  refine g_iload F dX5_set_7 0 rfl ?_
  refine f_iconst F 4294967295 dX5_set_9 rfl ?_
  refine g_icmp_ne F dX5_set_10 (tgt := 15) rfl (fun h10 => ?_) (fun h10 => ?_)
  · refine g_iload_n F dX5_set_15 4 rfl ?_
    refine f_iconst F 4294967295 dX5_set_16 rfl ?_
    refine g_icmp_eq F dX5_set_17 (tgt := 33) rfl (fun h17 => ?_) (fun h17 => ?_)
    · refine g_aload_n F dX5_set_33 1 rfl ?_
      refine f_get F inX5 (pl_TR h_i) rfl 1 (by decide) tb_45 rfl (v := .ref (ad (2 + 22 * i + 14))) rfl dX5_set_34 ?_
      refine g_iload F dX5_set_37 0 rfl ?_
      refine g_iload_n F dX5_set_39 3 rfl ?_
      refine f_ast F 0 (pl_27 h_i) rfl (j := r_X5_find c i pa) (v := va) (by have := find_lt h10; omega) (by decide) dX5_set_40 (ps_27 h_i) ?_
      refine g_aload_n F dX5_set_41 1 rfl ?_
      refine f_get F inX5 (pl_TR h_i) rfl 2 (by decide) tb_46 rfl (v := .ref (ad (2 + 22 * i + 15))) rfl dX5_set_42 ?_
      refine g_iload F dX5_set_45 0 rfl ?_
      refine g_dup2 F dX5_set_47 rfl rfl ?_
      refine f_ald F 0 (pl_28 h_i) rfl (j := r_X5_find c i pa) (by have := find_lt h10; omega) (by decide) dX5_set_48 ?_
      refine g_eq rfl rfl (st' := [.int (Int32.ofNat (c 28 i (r_X5_find c i pa))), .int (Int32.ofNat (r_X5_find c i pa)), .ref (ad (2 + 22 * i + 15))]) rfl rfl ?_
      refine f_iconst F 1 dX5_set_49 rfl ?_
      refine f_add F dX5_set_50 ?_
      refine f_ast F 0 (pl_28 h_i) rfl (j := r_X5_find c i pa) (v := (c 28 i (r_X5_find c i pa)) + 1) (by have := find_lt h10; omega) (by decide) dX5_set_51 (ps_28 h_i) ?_
      refine f_iconst F 0 dX5_set_52 rfl ?_
      exact g_iret F hr hlk dX5_set_53 ⟨congrArg (fun t => some (Value.int (Int32.ofNat t))) (Eq.symm (by unfold r_X5_set; first | simp only [if_neg h10, if_pos h17] | rfl)), congrArg (fun t => cwld cI cS t ad) (Eq.symm (by unfold w_X5_set; first | simp only [if_neg h10, if_pos h17] | rfl))⟩
    · refine g_iload_n F dX5_set_20 4 rfl ?_
      refine g_aload_n F dX5_set_21 1 rfl ?_
      refine f_get F inX5 (pl_TR h_i) rfl 2 (by decide) tb_46 rfl (v := .ref (ad (2 + 22 * i + 15))) rfl dX5_set_22 ?_
      refine g_iload F dX5_set_25 0 rfl ?_
      refine f_ald F 0 (pl_28 h_i) rfl (j := r_X5_find c i pa) (by have := find_lt h10; omega) (by decide) dX5_set_27 ?_
      refine g_icmp_eq F dX5_set_28 (tgt := 33) rfl (fun h28 => ?_) (fun h28 => ?_)
      · refine g_aload_n F dX5_set_33 1 rfl ?_
        refine f_get F inX5 (pl_TR h_i) rfl 1 (by decide) tb_45 rfl (v := .ref (ad (2 + 22 * i + 14))) rfl dX5_set_34 ?_
        refine g_iload F dX5_set_37 0 rfl ?_
        refine g_iload_n F dX5_set_39 3 rfl ?_
        refine f_ast F 0 (pl_27 h_i) rfl (j := r_X5_find c i pa) (v := va) (by have := find_lt h10; omega) (by decide) dX5_set_40 (ps_27 h_i) ?_
        refine g_aload_n F dX5_set_41 1 rfl ?_
        refine f_get F inX5 (pl_TR h_i) rfl 2 (by decide) tb_46 rfl (v := .ref (ad (2 + 22 * i + 15))) rfl dX5_set_42 ?_
        refine g_iload F dX5_set_45 0 rfl ?_
        refine g_dup2 F dX5_set_47 rfl rfl ?_
        refine f_ald F 0 (pl_28 h_i) rfl (j := r_X5_find c i pa) (by have := find_lt h10; omega) (by decide) dX5_set_48 ?_
        refine g_eq rfl rfl (st' := [.int (Int32.ofNat (c 28 i (r_X5_find c i pa))), .int (Int32.ofNat (r_X5_find c i pa)), .ref (ad (2 + 22 * i + 15))]) rfl rfl ?_
        refine f_iconst F 1 dX5_set_49 rfl ?_
        refine f_add F dX5_set_50 ?_
        refine f_ast F 0 (pl_28 h_i) rfl (j := r_X5_find c i pa) (v := (c 28 i (r_X5_find c i pa)) + 1) (by have := find_lt h10; omega) (by decide) dX5_set_51 (ps_28 h_i) ?_
        refine f_iconst F 0 dX5_set_52 rfl ?_
        exact g_iret F hr hlk dX5_set_53 ⟨congrArg (fun t => some (Value.int (Int32.ofNat t))) (Eq.symm (by unfold r_X5_set; first | simp only [if_neg h10, if_neg h17, if_pos h28] | rfl)), congrArg (fun t => cwld cI cS t ad) (Eq.symm (by unfold w_X5_set; first | simp only [if_neg h10, if_neg h17, if_pos h28] | rfl))⟩
      · refine f_iconst F 5 dX5_set_31 rfl ?_
        exact g_iret F hr hlk dX5_set_32 ⟨congrArg (fun t => some (Value.int (Int32.ofNat t))) (Eq.symm (by unfold r_X5_set; first | simp only [if_neg h10, if_neg h17, if_neg h28] | rfl)), congrArg (fun t => cwld cI cS t ad) (Eq.symm (by unfold w_X5_set; first | simp only [if_neg h10, if_neg h17, if_neg h28] | rfl))⟩
  · refine f_iconst F 1 dX5_set_13 rfl ?_
    exact g_iret F hr hlk dX5_set_14 ⟨congrArg (fun t => some (Value.int (Int32.ofNat t))) (Eq.symm (by unfold r_X5_set; first | simp only [if_pos h10] | rfl)), congrArg (fun t => cwld cI cS t ad) (Eq.symm (by unfold w_X5_set; first | simp only [if_pos h10] | rfl))⟩
def r_X5_delete (c : CS) (i pa ve : Nat) : Nat := if Int32.ofNat (r_X5_find c i pa) = Int32.ofNat 4294967295 then 1 else (if Int32.ofNat ve = Int32.ofNat 4294967295 then (if Int32.ofNat (r_X5_countChildren c i pa) ≤ 0 then 0 else 4) else (if Int32.ofNat ve = Int32.ofNat (c 28 i (r_X5_find c i pa)) then (if Int32.ofNat (r_X5_countChildren c i pa) ≤ 0 then 0 else 4) else 5))
def w_X5_delete (c : CS) (i pa ve : Nat) : CS := if Int32.ofNat (r_X5_find c i pa) = Int32.ofNat 4294967295 then c else (if Int32.ofNat ve = Int32.ofNat 4294967295 then (if Int32.ofNat (r_X5_countChildren c i pa) ≤ 0 then (w_X5_remove c i (r_X5_find c i pa)) else c) else (if Int32.ofNat ve = Int32.ofNat (c 28 i (r_X5_find c i pa)) then (if Int32.ofNat (r_X5_countChildren c i pa) ≤ 0 then (w_X5_remove c i (r_X5_find c i pa)) else c) else c))
abbrev rm_X5_delete : Room := { frames := 1, cells := 0, slots := 0, locals := 23 }
set_option maxHeartbeats 4000000 in
set_option maxRecDepth 100000 in
theorem k_X5_delete (l : Launch) (D : va_G) (cI cS cZ : ClassId) (ad : Nat → Nat) (c : CS) (i pa ve : Nat) (h_i : i < 3) (hb : c 7 i 0 ≤ 24) : gN l yX5_delete (Cond.code yX5_delete cX5_delete 4 (some .int) :: tb) rm_X5_delete D cls8 (tys3 cI cS cZ) [.ref (ad (2 + 22 * i + 2)), .int (Int32.ofNat pa), .int (Int32.ofNat ve)] (cwld cI cS c ad) (some (.int (Int32.ofNat (r_X5_delete c i pa ve)))) (cwld cI cS (w_X5_delete c i pa ve) ad) := by
  unfold gN
  refine g_head (by decide) rfl (Nat.le_of_ble_eq_true rfl) ?_
  intro p e s m args below meth cd A F hr hlk hnm
  refine g_eq rfl (L' := [(0, .ref (ad (2 + 22 * i + 2))), (1, .int (Int32.ofNat pa)), (2, .int (Int32.ofNat ve))]) rfl rfl rfl ?_
  refine g_aload_n F dX5_delete_0 0 rfl ?_
  refine g_iload_n F dX5_delete_1 1 rfl ?_
  refine f_callV F (As := [.int (Int32.ofNat pa)]) (rest := []) (st' := [.int (Int32.ofNat (r_X5_find c i pa))]) (k_X5_find l D cI cS cZ ad c i pa h_i (by assumption)) (pl_TR h_i) rfl tb_228 tb_226 tb_227 tb_545 tb_3 ⟨rfl, hdX5_find⟩ ⟨rfl, rfl⟩ ⟨Nat.le_of_ble_eq_true rfl, Nat.le_of_ble_eq_true rfl⟩ cw_adr rfl rfl (Nat.le_of_ble_eq_true rfl) ⟨Nat.le_refl _, Nat.le_refl _⟩ dX5_delete_2 rfl ?_
  refine g_istore_n F [(3, .int (Int32.ofNat (r_X5_find c i pa))), (0, .ref (ad (2 + 22 * i + 2))), (1, .int (Int32.ofNat pa)), (2, .int (Int32.ofNat ve))] dX5_delete_5 (by decide) rfl ?_
  refine g_iload_n F dX5_delete_6 0 rfl ?_
  refine f_iconst F 4294967295 dX5_delete_7 rfl ?_
  refine g_icmp_ne F dX5_delete_8 (tgt := 13) rfl (fun h8 => ?_) (fun h8 => ?_)
  · refine g_iload_n F dX5_delete_13 3 rfl ?_
    refine f_iconst F 4294967295 dX5_delete_14 rfl ?_
    refine g_icmp_eq F dX5_delete_15 (tgt := 30) rfl (fun h15 => ?_) (fun h15 => ?_)
    · refine g_aload_n F dX5_delete_30 1 rfl ?_
      refine g_iload_n F dX5_delete_31 2 rfl ?_
      refine f_callV F (As := [.int (Int32.ofNat pa)]) (rest := []) (st' := [.int (Int32.ofNat (r_X5_countChildren c i pa))]) (k_X5_countChildren l D cI cS cZ ad c i pa h_i (by assumption)) (pl_TR h_i) rfl tb_240 tb_238 tb_239 tb_549 tb_3 ⟨rfl, hdX5_countChildren⟩ ⟨rfl, rfl⟩ ⟨Nat.le_of_ble_eq_true rfl, Nat.le_of_ble_eq_true rfl⟩ cw_adr rfl rfl (Nat.le_of_ble_eq_true rfl) ⟨Nat.le_refl _, Nat.le_refl _⟩ dX5_delete_32 rfl ?_
      refine g_if_le F dX5_delete_35 (tgt := 40) rfl (fun h35 => ?_) (fun h35 => ?_)
      · refine g_aload_n F dX5_delete_40 1 rfl ?_
        refine g_iload_n F dX5_delete_41 0 rfl ?_
        refine f_callV F (As := [.int (Int32.ofNat (r_X5_find c i pa))]) (rest := []) (st' := []) (k_X5_remove l D cI cS cZ ad c i (r_X5_find c i pa) h_i (by assumption) (by have := find_lt h8; omega) (by have := find_lt h8; omega)) (pl_TR h_i) rfl tb_243 tb_241 tb_242 tb_550 tb_3 ⟨rfl, hdX5_remove⟩ ⟨rfl, rfl⟩ ⟨Nat.le_of_ble_eq_true rfl, Nat.le_of_ble_eq_true rfl⟩ cw_adr rfl rfl (Nat.le_of_ble_eq_true rfl) ⟨Nat.le_refl _, Nat.le_refl _⟩ dX5_delete_42 rfl ?_
        refine f_iconst F 0 dX5_delete_45 rfl ?_
        exact g_iret F hr hlk dX5_delete_46 ⟨congrArg (fun t => some (Value.int (Int32.ofNat t))) (Eq.symm (by unfold r_X5_delete; first | simp only [if_neg h8, if_pos h15, if_pos h35] | rfl)), congrArg (fun t => cwld cI cS t ad) (Eq.symm (by unfold w_X5_delete; first | simp only [if_neg h8, if_pos h15, if_pos h35] | rfl))⟩
      · refine f_iconst F 4 dX5_delete_38 rfl ?_
        exact g_iret F hr hlk dX5_delete_39 ⟨congrArg (fun t => some (Value.int (Int32.ofNat t))) (Eq.symm (by unfold r_X5_delete; first | simp only [if_neg h8, if_pos h15, if_neg h35] | rfl)), congrArg (fun t => cwld cI cS t ad) (Eq.symm (by unfold w_X5_delete; first | simp only [if_neg h8, if_pos h15, if_neg h35] | rfl))⟩
    · refine g_iload_n F dX5_delete_18 3 rfl ?_
      refine g_aload_n F dX5_delete_19 1 rfl ?_
      refine f_get F inX5 (pl_TR h_i) rfl 2 (by decide) tb_46 rfl (v := .ref (ad (2 + 22 * i + 15))) rfl dX5_delete_20 ?_
      refine g_iload_n F dX5_delete_23 0 rfl ?_
      refine f_ald F 0 (pl_28 h_i) rfl (j := r_X5_find c i pa) (by have := find_lt h8; omega) (by decide) dX5_delete_24 ?_
      refine g_icmp_eq F dX5_delete_25 (tgt := 30) rfl (fun h25 => ?_) (fun h25 => ?_)
      · refine g_aload_n F dX5_delete_30 1 rfl ?_
        refine g_iload_n F dX5_delete_31 2 rfl ?_
        refine f_callV F (As := [.int (Int32.ofNat pa)]) (rest := []) (st' := [.int (Int32.ofNat (r_X5_countChildren c i pa))]) (k_X5_countChildren l D cI cS cZ ad c i pa h_i (by assumption)) (pl_TR h_i) rfl tb_240 tb_238 tb_239 tb_549 tb_3 ⟨rfl, hdX5_countChildren⟩ ⟨rfl, rfl⟩ ⟨Nat.le_of_ble_eq_true rfl, Nat.le_of_ble_eq_true rfl⟩ cw_adr rfl rfl (Nat.le_of_ble_eq_true rfl) ⟨Nat.le_refl _, Nat.le_refl _⟩ dX5_delete_32 rfl ?_
        refine g_if_le F dX5_delete_35 (tgt := 40) rfl (fun h35 => ?_) (fun h35 => ?_)
        · refine g_aload_n F dX5_delete_40 1 rfl ?_
          refine g_iload_n F dX5_delete_41 0 rfl ?_
          refine f_callV F (As := [.int (Int32.ofNat (r_X5_find c i pa))]) (rest := []) (st' := []) (k_X5_remove l D cI cS cZ ad c i (r_X5_find c i pa) h_i (by assumption) (by have := find_lt h8; omega) (by have := find_lt h8; omega)) (pl_TR h_i) rfl tb_243 tb_241 tb_242 tb_550 tb_3 ⟨rfl, hdX5_remove⟩ ⟨rfl, rfl⟩ ⟨Nat.le_of_ble_eq_true rfl, Nat.le_of_ble_eq_true rfl⟩ cw_adr rfl rfl (Nat.le_of_ble_eq_true rfl) ⟨Nat.le_refl _, Nat.le_refl _⟩ dX5_delete_42 rfl ?_
          refine f_iconst F 0 dX5_delete_45 rfl ?_
          exact g_iret F hr hlk dX5_delete_46 ⟨congrArg (fun t => some (Value.int (Int32.ofNat t))) (Eq.symm (by unfold r_X5_delete; first | simp only [if_neg h8, if_neg h15, if_pos h25, if_pos h35] | rfl)), congrArg (fun t => cwld cI cS t ad) (Eq.symm (by unfold w_X5_delete; first | simp only [if_neg h8, if_neg h15, if_pos h25, if_pos h35] | rfl))⟩
        · refine f_iconst F 4 dX5_delete_38 rfl ?_
          exact g_iret F hr hlk dX5_delete_39 ⟨congrArg (fun t => some (Value.int (Int32.ofNat t))) (Eq.symm (by unfold r_X5_delete; first | simp only [if_neg h8, if_neg h15, if_pos h25, if_neg h35] | rfl)), congrArg (fun t => cwld cI cS t ad) (Eq.symm (by unfold w_X5_delete; first | simp only [if_neg h8, if_neg h15, if_pos h25, if_neg h35] | rfl))⟩
      · refine f_iconst F 5 dX5_delete_28 rfl ?_
        exact g_iret F hr hlk dX5_delete_29 ⟨congrArg (fun t => some (Value.int (Int32.ofNat t))) (Eq.symm (by unfold r_X5_delete; first | simp only [if_neg h8, if_neg h15, if_neg h25] | rfl)), congrArg (fun t => cwld cI cS t ad) (Eq.symm (by unfold w_X5_delete; first | simp only [if_neg h8, if_neg h15, if_neg h25] | rfl))⟩
  · refine f_iconst F 1 dX5_delete_11 rfl ?_
    exact g_iret F hr hlk dX5_delete_12 ⟨congrArg (fun t => some (Value.int (Int32.ofNat t))) (Eq.symm (by unfold r_X5_delete; first | simp only [if_pos h8] | rfl)), congrArg (fun t => cwld cI cS t ad) (Eq.symm (by unfold w_X5_delete; first | simp only [if_pos h8] | rfl))⟩
def r_X5_open (c : CS) (i v : Nat) : Nat := if Int32.ofNat (r_X5_isOpen c i v) = 0 then 0 else 2
def w_X5_open (c : CS) (i v : Nat) : CS := if Int32.ofNat (r_X5_isOpen c i v) = 0 then (su3 c 8 i 0 (nc ((Int32.ofNat (c 8 i 0)) ||| (Int32.ofNat (nc ((Int32.ofNat 1) <<< ((Int32.ofNat v) &&& 31))))))) else c
abbrev rm_X5_open : Room := { frames := 2, cells := 0, slots := 0, locals := 41 }
set_option maxHeartbeats 4000000 in
set_option maxRecDepth 100000 in
theorem k_X5_open (l : Launch) (D : va_G) (cI cS cZ : ClassId) (ad : Nat → Nat) (c : CS) (i v : Nat) (h_i : i < 3) : gN l yX5_open (Cond.code yX5_open cX5_open 2 (some .int) :: tb) rm_X5_open D cls8 (tys3 cI cS cZ) [.ref (ad (2 + 22 * i + 2)), .int (Int32.ofNat v)] (cwld cI cS c ad) (some (.int (Int32.ofNat (r_X5_open c i v)))) (cwld cI cS (w_X5_open c i v) ad) := by
  unfold gN
  refine g_head (by decide) rfl (Nat.le_of_ble_eq_true rfl) ?_
  intro p e s m args below meth cd A F hr hlk hnm
  refine g_eq rfl (L' := [(0, .ref (ad (2 + 22 * i + 2))), (1, .int (Int32.ofNat v))]) rfl rfl rfl ?_
  refine g_aload_n F dX5_open_0 0 rfl ?_
  refine g_iload_n F dX5_open_1 1 rfl ?_
  refine f_callV F (As := [.int (Int32.ofNat v)]) (rest := []) (st' := [.int (Int32.ofNat (r_X5_isOpen c i v))]) (k_X5_isOpen l D cI cS cZ ad c i v h_i) (pl_TR h_i) rfl tb_223 tb_221 tb_222 tb_544 tb_3 ⟨rfl, hdX5_isOpen⟩ ⟨rfl, rfl⟩ ⟨Nat.le_of_ble_eq_true rfl, Nat.le_of_ble_eq_true rfl⟩ cw_adr rfl rfl (Nat.le_of_ble_eq_true rfl) ⟨Nat.le_refl _, Nat.le_refl _⟩ dX5_open_2 rfl ?_
  refine g_if_eq F dX5_open_5 (tgt := 10) rfl (fun h5 => ?_) (fun h5 => ?_)
  · refine g_aload_n F dX5_open_10 0 rfl ?_
    refine g_dup F dX5_open_11 rfl ?_
    refine f_get F inX5 (pl_TR h_i) rfl 5 (by decide) tb_49 rfl (v := .int (Int32.ofNat (c 8 i 0))) rfl dX5_open_12 ?_
    refine f_iconst F 1 dX5_open_15 rfl ?_
    refine g_iload_n F dX5_open_16 1 rfl ?_
    refine g_ishl F dX5_open_17 ?_
    refine f_code ?_
    refine g_ior F dX5_open_18 ?_
    refine f_code ?_
    refine f_put F inX5 tyX5_ok nmX5 (pl_TR h_i) rfl 5 (by decide) tb_49 rfl rfl rfl rfl (Nat.le_of_ble_eq_true rfl) dX5_open_19 (ps_8 h_i) ?_
    refine f_iconst F 0 dX5_open_22 rfl ?_
    exact g_iret F hr hlk dX5_open_23 ⟨congrArg (fun t => some (Value.int (Int32.ofNat t))) (Eq.symm (by unfold r_X5_open; first | simp only [if_pos h5] | rfl)), congrArg (fun t => cwld cI cS t ad) (Eq.symm (by unfold w_X5_open; first | simp only [if_pos h5] | rfl))⟩
  · refine f_iconst F 2 dX5_open_8 rfl ?_
    exact g_iret F hr hlk dX5_open_9 ⟨congrArg (fun t => some (Value.int (Int32.ofNat t))) (Eq.symm (by unfold r_X5_open; first | simp only [if_neg h5] | rfl)), congrArg (fun t => cwld cI cS t ad) (Eq.symm (by unfold w_X5_open; first | simp only [if_neg h5] | rfl))⟩
theorem remove_size {c : CS} {i at_ : Nat} : w_X5_remove c i at_ 7 i 0 = c 7 i 0 - 1 := by
  unfold w_X5_remove; simp [su3]
def lpw_X5_close_18 (c : CS) (i v : Nat) : Nat → Nat → CS → CS
  | 0, k, x => x
  | d + 1, k, x => if Int32.ofNat (x 29 i k) = Int32.ofNat v then (lpw_X5_close_18 c i v d (if d = 0 then 4294967295 else d - 1) (w_X5_remove x i k)) else (lpw_X5_close_18 c i v d (if d = 0 then 4294967295 else d - 1) x)
def r_X5_close (c : CS) (i v : Nat) : Nat := if Int32.ofNat (r_X5_isOpen c i v) = 0 then 6 else 0
def w_X5_close (c : CS) (i v : Nat) : CS := if Int32.ofNat (r_X5_isOpen c i v) = 0 then c else (su3 (lpw_X5_close_18 c i v (c 7 i 0) (nc ((Int32.ofNat (c 7 i 0)) - (Int32.ofNat 1))) c) 8 i 0 (nc ((Int32.ofNat ((lpw_X5_close_18 c i v (c 7 i 0) (nc ((Int32.ofNat (c 7 i 0)) - (Int32.ofNat 1))) c) 8 i 0)) &&& (Int32.ofNat (nc ((Int32.ofNat (nc ((Int32.ofNat 1) <<< ((Int32.ofNat v) &&& 31)))) ^^^ (Int32.ofNat 4294967295)))))))
abbrev rm_X5_close : Room := { frames := 2, cells := 0, slots := 0, locals := 41 }
set_option maxHeartbeats 4000000 in
set_option maxRecDepth 100000 in
theorem k_X5_close (l : Launch) (D : va_G) (cI cS cZ : ClassId) (ad : Nat → Nat) (c : CS) (i v : Nat) (h_i : i < 3) (hb : c 7 i 0 ≤ 24) : gN l yX5_close (Cond.code yX5_close cX5_close 3 (some .int) :: tb) rm_X5_close D cls8 (tys3 cI cS cZ) [.ref (ad (2 + 22 * i + 2)), .int (Int32.ofNat v)] (cwld cI cS c ad) (some (.int (Int32.ofNat (r_X5_close c i v)))) (cwld cI cS (w_X5_close c i v) ad) := by
  unfold gN
  refine g_head (by decide) rfl (Nat.le_of_ble_eq_true rfl) ?_
  intro p e s m args below meth cd A F hr hlk hnm
  refine g_eq rfl (L' := [(0, .ref (ad (2 + 22 * i + 2))), (1, .int (Int32.ofNat v))]) rfl rfl rfl ?_
  refine g_aload_n F dX5_close_0 0 rfl ?_
  refine g_iload_n F dX5_close_1 1 rfl ?_
  refine f_callV F (As := [.int (Int32.ofNat v)]) (rest := []) (st' := [.int (Int32.ofNat (r_X5_isOpen c i v))]) (k_X5_isOpen l D cI cS cZ ad c i v h_i) (pl_TR h_i) rfl tb_223 tb_221 tb_222 tb_544 tb_3 ⟨rfl, hdX5_isOpen⟩ ⟨rfl, rfl⟩ ⟨Nat.le_of_ble_eq_true rfl, Nat.le_of_ble_eq_true rfl⟩ cw_adr rfl rfl (Nat.le_of_ble_eq_true rfl) ⟨Nat.le_refl _, Nat.le_refl _⟩ dX5_close_2 rfl ?_
  refine g_if_ne F dX5_close_5 (tgt := 11) rfl (fun h5 => ?_) (fun h5 => ?_)
  · refine g_aload_n F dX5_close_11 0 rfl ?_
    refine f_get F inX5 (pl_TR h_i) rfl 4 (by decide) tb_48 rfl (v := .int (Int32.ofNat (c 7 i 0))) rfl dX5_close_12 ?_
    refine f_iconst F 1 dX5_close_15 rfl ?_
    refine g_isub F dX5_close_16 ?_
    refine f_code ?_
    refine g_istore_n F [(2, .int (Int32.ofNat (nc ((Int32.ofNat (c 7 i 0)) - (Int32.ofNat 1))))), (0, .ref (ad (2 + 22 * i + 2))), (1, .int (Int32.ofNat v))] dX5_close_17 (by decide) rfl ?_
    have loop18 : ∀ (Q : State → Prop) (d k : Nat) (x : CS), k = (if d = 0 then 4294967295 else d - 1) → d ≤ x 7 i 0 ∧ x 7 i 0 ≤ 24 → gw p l e (headSpec (Cond.code yX5_close cX5_close 3 (some .int) :: tb) rm_X5_close).room s m args below meth cd 3 D cls8 A Q 0 0 43 [(0, .ref (ad (2 + 22 * i + 2))), (1, .int (Int32.ofNat v))] [] (cwld cI cS (lpw_X5_close_18 c i v d k x) ad) → gw p l e (headSpec (Cond.code yX5_close cX5_close 3 (some .int) :: tb) rm_X5_close).room s m args below meth cd 3 D cls8 A Q 0 0 18 [(2, .int (Int32.ofNat k)), (0, .ref (ad (2 + 22 * i + 2))), (1, .int (Int32.ofNat v))] [] (cwld cI cS x ad) := by
      intro Q d
      induction d with
      | zero =>
        intro k x hk hs K
        refine g_iload_n F dX5_close_18 0 rfl ?_
        refine g_if_lt F dX5_close_19 (tgt := 43) rfl (fun h19 => ?_) (fun h19 => ?_)
        rotate_left
        · exact absurd h19 (by rw [hk]; decide)
        refine g_locals [(0, .ref (ad (2 + 22 * i + 2))), (1, .int (Int32.ofNat v))] [1, 2] rfl ?_
        exact K
      | succ d ih =>
        intro k x hk hs K
        have hk' : k = d := by simpa using hk
        refine g_iload_n F dX5_close_18 0 rfl ?_
        refine g_if_lt F dX5_close_19 (tgt := 43) rfl (fun h19 => ?_) (fun h19 => ?_)
        · exact absurd h19 (nonneg_code (by omega))
        refine g_aload_n F dX5_close_22 1 rfl ?_
        refine f_get F inX5 (pl_TR h_i) rfl 3 (by decide) tb_47 rfl (v := .ref (ad (2 + 22 * i + 16))) rfl dX5_close_23 ?_
        refine g_iload_n F dX5_close_26 0 rfl ?_
        refine f_ald F 0 (pl_29 h_i) rfl (j := k) (by omega) (by decide) dX5_close_27 ?_
        refine g_iload_n F dX5_close_28 2 rfl ?_
        refine g_icmp_ne F dX5_close_29 (tgt := 37) rfl (fun h29 => ?_) (fun h29 => ?_)
        · refine f_iinc F (if d = 0 then 4294967295 else d - 1) [(2, .int (Int32.ofNat (if d = 0 then 4294967295 else d - 1))), (0, .ref (ad (2 + 22 * i + 2))), (1, .int (Int32.ofNat v))] dX5_close_37 0 rfl (dec_code hk') (by decide) rfl ?_
          refine g_goto F dX5_close_40 (tgt := 18) rfl ?_
          exact ih (if d = 0 then 4294967295 else d - 1) x rfl (by omega) (g_eq rfl rfl rfl (congrArg (fun t => cwld cI cS t ad) (by simp only [lpw_X5_close_18, if_neg h29])) K)
        · refine g_aload_n F dX5_close_32 1 rfl ?_
          refine g_iload_n F dX5_close_33 0 rfl ?_
          refine f_callV F (As := [.int (Int32.ofNat k)]) (rest := []) (st' := []) (k_X5_remove l D cI cS cZ ad x i k h_i hs.2 (by omega) (by omega)) (pl_TR h_i) rfl tb_243 tb_241 tb_242 tb_550 tb_3 ⟨rfl, hdX5_remove⟩ ⟨rfl, rfl⟩ ⟨Nat.le_of_ble_eq_true rfl, Nat.le_of_ble_eq_true rfl⟩ cw_adr rfl rfl (Nat.le_of_ble_eq_true rfl) ⟨Nat.le_refl _, Nat.le_refl _⟩ dX5_close_34 rfl ?_
          refine f_iinc F (if d = 0 then 4294967295 else d - 1) [(2, .int (Int32.ofNat (if d = 0 then 4294967295 else d - 1))), (0, .ref (ad (2 + 22 * i + 2))), (1, .int (Int32.ofNat v))] dX5_close_37 0 rfl (dec_code hk') (by decide) rfl ?_
          refine g_goto F dX5_close_40 (tgt := 18) rfl ?_
          exact ih (if d = 0 then 4294967295 else d - 1) (w_X5_remove x i k) rfl (by rw [remove_size]; omega) (g_eq rfl rfl rfl (congrArg (fun t => cwld cI cS t ad) (by simp only [lpw_X5_close_18, if_pos h29])) K)
    refine loop18 _ (c 7 i 0) (nc ((Int32.ofNat (c 7 i 0)) - (Int32.ofNat 1))) c (sub1_code (by omega)) ⟨Nat.le_refl _, hb⟩ ?_
    refine g_aload_n F dX5_close_43 0 rfl ?_
    refine g_dup F dX5_close_44 rfl ?_
    refine f_get F inX5 (pl_TR h_i) rfl 5 (by decide) tb_49 rfl (v := .int (Int32.ofNat ((lpw_X5_close_18 c i v (c 7 i 0) (nc ((Int32.ofNat (c 7 i 0)) - (Int32.ofNat 1))) c) 8 i 0))) rfl dX5_close_45 ?_
    refine f_iconst F 1 dX5_close_48 rfl ?_
    refine g_iload_n F dX5_close_49 1 rfl ?_
    refine g_ishl F dX5_close_50 ?_
    refine f_code ?_
    refine f_iconst F 4294967295 dX5_close_51 rfl ?_
    refine g_ixor F dX5_close_52 ?_
    refine f_code ?_
    refine g_iand F dX5_close_53 ?_
    refine f_code ?_
    refine f_put F inX5 tyX5_ok nmX5 (pl_TR h_i) rfl 5 (by decide) tb_49 rfl rfl rfl rfl (Nat.le_of_ble_eq_true rfl) dX5_close_54 (ps_8 h_i) ?_
    refine f_iconst F 0 dX5_close_57 rfl ?_
    exact g_iret F hr hlk dX5_close_58 ⟨congrArg (fun t => some (Value.int (Int32.ofNat t))) (Eq.symm (by unfold r_X5_close; first | simp only [if_neg h5] | rfl)), congrArg (fun t => cwld cI cS t ad) (Eq.symm (by unfold w_X5_close; first | simp only [if_neg h5] | rfl))⟩
  · refine f_bipush F 6 dX5_close_8 rfl ?_
    exact g_iret F hr hlk dX5_close_10 ⟨congrArg (fun t => some (Value.int (Int32.ofNat t))) (Eq.symm (by unfold r_X5_close; first | simp only [if_pos h5] | rfl)), congrArg (fun t => cwld cI cS t ad) (Eq.symm (by unfold w_X5_close; first | simp only [if_pos h5] | rfl))⟩
def r_X5_change (c : CS) (i kd pa va vb : Nat) : Nat := if Int32.ofNat kd = Int32.ofNat 1 then (r_X5_create c i pa va vb) else (if Int32.ofNat kd = Int32.ofNat 2 then (r_X5_set c i pa va vb) else (if Int32.ofNat kd = Int32.ofNat 3 then (r_X5_delete c i pa vb) else (if Int32.ofNat kd = Int32.ofNat 4 then (r_X5_open c i vb) else (r_X5_close c i vb))))
def w_X5_change (c : CS) (i kd pa va vb : Nat) : CS := if Int32.ofNat kd = Int32.ofNat 1 then (w_X5_create c i pa va vb) else (if Int32.ofNat kd = Int32.ofNat 2 then (w_X5_set c i pa va vb) else (if Int32.ofNat kd = Int32.ofNat 3 then (w_X5_delete c i pa vb) else (if Int32.ofNat kd = Int32.ofNat 4 then (w_X5_open c i vb) else (w_X5_close c i vb))))
abbrev rm_X5_change : Room := { frames := 3, cells := 0, slots := 0, locals := 66 }
set_option maxHeartbeats 4000000 in
set_option maxRecDepth 100000 in
theorem k_X5_change (l : Launch) (D : va_G) (cI cS cZ : ClassId) (ad : Nat → Nat) (c : CS) (i kd pa va vb : Nat) (h_i : i < 3) (hb : c 7 i 0 ≤ 24) : gN l yX5_change (Cond.code yX5_change cX5_change 5 (some .int) :: tb) rm_X5_change D cls8 (tys3 cI cS cZ) [.ref (ad (2 + 22 * i + 2)), .int (Int32.ofNat kd), .int (Int32.ofNat pa), .int (Int32.ofNat va), .int (Int32.ofNat vb)] (cwld cI cS c ad) (some (.int (Int32.ofNat (r_X5_change c i kd pa va vb)))) (cwld cI cS (w_X5_change c i kd pa va vb) ad) := by
  unfold gN
  refine g_head (by decide) rfl (Nat.le_of_ble_eq_true rfl) ?_
  intro p e s m args below meth cd A F hr hlk hnm
  refine g_eq rfl (L' := [(0, .ref (ad (2 + 22 * i + 2))), (1, .int (Int32.ofNat kd)), (2, .int (Int32.ofNat pa)), (3, .int (Int32.ofNat va)), (4, .int (Int32.ofNat vb))]) rfl rfl rfl ?_
  refine g_iload_n F dX5_change_0 1 rfl ?_
  by_cases h1_1 : Int32.ofNat kd = Int32.ofNat 1
  · refine g_tableIn F dX5_change_1 (by rw [h1_1]; decide) (by rw [h1_1]; decide) (off := 31) (by rw [h1_1]; rfl) (tgt := 32) rfl ?_
    refine g_aload_n F dX5_change_32 0 rfl ?_
    refine g_iload_n F dX5_change_33 2 rfl ?_
    refine g_iload_n F dX5_change_34 3 rfl ?_
    refine g_iload F dX5_change_35 4 rfl ?_
    refine f_callV F (As := [.int (Int32.ofNat pa), .int (Int32.ofNat va), .int (Int32.ofNat vb)]) (rest := []) (st' := [.int (Int32.ofNat (r_X5_create c i pa va vb))]) (k_X5_create l D cI cS cZ ad c i pa va vb h_i (by assumption)) (pl_TR h_i) rfl tb_220 tb_218 tb_219 tb_543 tb_3 ⟨rfl, hdX5_create⟩ ⟨rfl, rfl⟩ ⟨Nat.le_of_ble_eq_true rfl, Nat.le_of_ble_eq_true rfl⟩ cw_adr rfl rfl (Nat.le_of_ble_eq_true rfl) ⟨Nat.le_refl _, Nat.le_refl _⟩ dX5_change_37 rfl ?_
    exact g_iret F hr hlk dX5_change_40 ⟨congrArg (fun t => some (Value.int (Int32.ofNat t))) (Eq.symm (by unfold r_X5_change; first | simp only [if_pos h1_1] | rfl)), congrArg (fun t => cwld cI cS t ad) (Eq.symm (by unfold w_X5_change; first | simp only [if_pos h1_1] | rfl))⟩
  by_cases h1_2 : Int32.ofNat kd = Int32.ofNat 2
  · refine g_tableIn F dX5_change_1 (by rw [h1_2]; decide) (by rw [h1_2]; decide) (off := 40) (by rw [h1_2]; rfl) (tgt := 41) rfl ?_
    refine g_aload_n F dX5_change_41 0 rfl ?_
    refine g_iload_n F dX5_change_42 2 rfl ?_
    refine g_iload_n F dX5_change_43 3 rfl ?_
    refine g_iload F dX5_change_44 4 rfl ?_
    refine f_callV F (As := [.int (Int32.ofNat pa), .int (Int32.ofNat va), .int (Int32.ofNat vb)]) (rest := []) (st' := [.int (Int32.ofNat (r_X5_set c i pa va vb))]) (k_X5_set l D cI cS cZ ad c i pa va vb h_i (by assumption)) (pl_TR h_i) rfl tb_234 tb_232 tb_233 tb_547 tb_3 ⟨rfl, hdX5_set⟩ ⟨rfl, rfl⟩ ⟨Nat.le_of_ble_eq_true rfl, Nat.le_of_ble_eq_true rfl⟩ cw_adr rfl rfl (Nat.le_of_ble_eq_true rfl) ⟨Nat.le_refl _, Nat.le_refl _⟩ dX5_change_46 rfl ?_
    exact g_iret F hr hlk dX5_change_49 ⟨congrArg (fun t => some (Value.int (Int32.ofNat t))) (Eq.symm (by unfold r_X5_change; first | simp only [if_neg h1_1, if_pos h1_2] | rfl)), congrArg (fun t => cwld cI cS t ad) (Eq.symm (by unfold w_X5_change; first | simp only [if_neg h1_1, if_pos h1_2] | rfl))⟩
  by_cases h1_3 : Int32.ofNat kd = Int32.ofNat 3
  · refine g_tableIn F dX5_change_1 (by rw [h1_3]; decide) (by rw [h1_3]; decide) (off := 49) (by rw [h1_3]; rfl) (tgt := 50) rfl ?_
    refine g_aload_n F dX5_change_50 0 rfl ?_
    refine g_iload_n F dX5_change_51 2 rfl ?_
    refine g_iload F dX5_change_52 4 rfl ?_
    refine f_callV F (As := [.int (Int32.ofNat pa), .int (Int32.ofNat vb)]) (rest := []) (st' := [.int (Int32.ofNat (r_X5_delete c i pa vb))]) (k_X5_delete l D cI cS cZ ad c i pa vb h_i (by assumption)) (pl_TR h_i) rfl tb_237 tb_235 tb_236 tb_548 tb_3 ⟨rfl, hdX5_delete⟩ ⟨rfl, rfl⟩ ⟨Nat.le_of_ble_eq_true rfl, Nat.le_of_ble_eq_true rfl⟩ cw_adr rfl rfl (Nat.le_of_ble_eq_true rfl) ⟨Nat.le_refl _, Nat.le_refl _⟩ dX5_change_54 rfl ?_
    exact g_iret F hr hlk dX5_change_57 ⟨congrArg (fun t => some (Value.int (Int32.ofNat t))) (Eq.symm (by unfold r_X5_change; first | simp only [if_neg h1_1, if_neg h1_2, if_pos h1_3] | rfl)), congrArg (fun t => cwld cI cS t ad) (Eq.symm (by unfold w_X5_change; first | simp only [if_neg h1_1, if_neg h1_2, if_pos h1_3] | rfl))⟩
  by_cases h1_4 : Int32.ofNat kd = Int32.ofNat 4
  · refine g_tableIn F dX5_change_1 (by rw [h1_4]; decide) (by rw [h1_4]; decide) (off := 57) (by rw [h1_4]; rfl) (tgt := 58) rfl ?_
    refine g_aload_n F dX5_change_58 0 rfl ?_
    refine g_iload F dX5_change_59 4 rfl ?_
    refine f_callV F (As := [.int (Int32.ofNat vb)]) (rest := []) (st' := [.int (Int32.ofNat (r_X5_open c i vb))]) (k_X5_open l D cI cS cZ ad c i vb h_i) (pl_TR h_i) rfl tb_246 tb_244 tb_245 tb_551 tb_3 ⟨rfl, hdX5_open⟩ ⟨rfl, rfl⟩ ⟨Nat.le_of_ble_eq_true rfl, Nat.le_of_ble_eq_true rfl⟩ cw_adr rfl rfl (Nat.le_of_ble_eq_true rfl) ⟨Nat.le_refl _, Nat.le_refl _⟩ dX5_change_61 rfl ?_
    exact g_iret F hr hlk dX5_change_64 ⟨congrArg (fun t => some (Value.int (Int32.ofNat t))) (Eq.symm (by unfold r_X5_change; first | simp only [if_neg h1_1, if_neg h1_2, if_neg h1_3, if_pos h1_4] | rfl)), congrArg (fun t => cwld cI cS t ad) (Eq.symm (by unfold w_X5_change; first | simp only [if_neg h1_1, if_neg h1_2, if_neg h1_3, if_pos h1_4] | rfl))⟩
  refine g_tableOut F dX5_change_1 (by have e1 : (Int32.ofNat kd).toInt ≠ 1 := fun h => h1_1 (Int32.toInt_inj.mp (h.trans (by decide))); have e2 : (Int32.ofNat kd).toInt ≠ 2 := fun h => h1_2 (Int32.toInt_inj.mp (h.trans (by decide))); have e3 : (Int32.ofNat kd).toInt ≠ 3 := fun h => h1_3 (Int32.toInt_inj.mp (h.trans (by decide))); have e4 : (Int32.ofNat kd).toInt ≠ 4 := fun h => h1_4 (Int32.toInt_inj.mp (h.trans (by decide))); omega) (tgt := 65) rfl ?_
  refine g_aload_n F dX5_change_65 0 rfl ?_
  refine g_iload F dX5_change_66 4 rfl ?_
  refine f_callV F (As := [.int (Int32.ofNat vb)]) (rest := []) (st' := [.int (Int32.ofNat (r_X5_close c i vb))]) (k_X5_close l D cI cS cZ ad c i vb h_i (by assumption)) (pl_TR h_i) rfl tb_249 tb_247 tb_248 tb_552 tb_3 ⟨rfl, hdX5_close⟩ ⟨rfl, rfl⟩ ⟨Nat.le_of_ble_eq_true rfl, Nat.le_of_ble_eq_true rfl⟩ cw_adr rfl rfl (Nat.le_of_ble_eq_true rfl) ⟨Nat.le_refl _, Nat.le_refl _⟩ dX5_change_68 rfl ?_
  exact g_iret F hr hlk dX5_change_71 ⟨congrArg (fun t => some (Value.int (Int32.ofNat t))) (Eq.symm (by unfold r_X5_change; first | simp only [if_neg h1_1, if_neg h1_2, if_neg h1_3, if_neg h1_4] | rfl)), congrArg (fun t => cwld cI cS t ad) (Eq.symm (by unfold w_X5_change; first | simp only [if_neg h1_1, if_neg h1_2, if_neg h1_3, if_neg h1_4] | rfl))⟩
end
section
def CB (c : CS) : Prop := ∀ i, i < 3 → c 4 i 0 < 3 ∧ c 5 i 0 ≤ 24 ∧ c 6 i 0 ≤ 24 ∧ c 7 i 0 ≤ 24 ∧ c 12 i 0 ≤ 27 ∧ c 13 i 0 ≤ 27 ∧ c 14 i 0 ≤ 51 ∧ c 15 i 0 ≤ 51
theorem cb4 {c : CS} (h : CB c) {i : Nat} (hi : i < 3) : c 4 i 0 < 3 := (h i hi).1
theorem cb5 {c : CS} (h : CB c) {i : Nat} (hi : i < 3) : c 5 i 0 ≤ 24 := (h i hi).2.1
theorem cb6 {c : CS} (h : CB c) {i : Nat} (hi : i < 3) : c 6 i 0 ≤ 24 := (h i hi).2.2.1
theorem cb7 {c : CS} (h : CB c) {i : Nat} (hi : i < 3) : c 7 i 0 ≤ 24 := (h i hi).2.2.2.1
theorem cb12 {c : CS} (h : CB c) {i : Nat} (hi : i < 3) : c 12 i 0 ≤ 27 := (h i hi).2.2.2.2.1
theorem cb13 {c : CS} (h : CB c) {i : Nat} (hi : i < 3) : c 13 i 0 ≤ 27 := (h i hi).2.2.2.2.2.1
theorem cb14 {c : CS} (h : CB c) {i : Nat} (hi : i < 3) : c 14 i 0 ≤ 51 := (h i hi).2.2.2.2.2.2.1
theorem cb15 {c : CS} (h : CB c) {i : Nat} (hi : i < 3) : c 15 i 0 ≤ 51 := (h i hi).2.2.2.2.2.2.2
def bnd (k v : Nat) : Prop := (k = 4 → v < 3) ∧ (k = 5 → v ≤ 24) ∧ (k = 6 → v ≤ 24) ∧ (k = 7 → v ≤ 24) ∧ (k = 12 → v ≤ 27) ∧ (k = 13 → v ≤ 27) ∧ (k = 14 → v ≤ 51) ∧ (k = 15 → v ≤ 51)
theorem bnd_no {k v : Nat} (h : k ≠ 4 ∧ k ≠ 5 ∧ k ≠ 6 ∧ k ≠ 7 ∧ k ≠ 12 ∧ k ≠ 13 ∧ k ≠ 14 ∧ k ≠ 15) : bnd k v := by unfold bnd; omega
theorem su3_b {c : CS} {k i j v k0 i0 B : Nat} (h : c k0 i0 0 ≤ B) (hv : k = k0 → v ≤ B) : su3 c k i j v k0 i0 0 ≤ B := by
  unfold su3; split
  · split
    · split
      · exact hv (by omega)
      · exact h
    · exact h
  · exact h
theorem cb_su {c : CS} {k i j v : Nat} (h : CB c) (hv : bnd k v) : CB (su3 c k i j v) := by
  intro t ht
  obtain ⟨g1, g2, g3, g4, g5, g6, g7, g8⟩ := h t ht
  obtain ⟨v1, v2, v3, v4, v5, v6, v7, v8⟩ := hv
  exact ⟨Nat.lt_of_le_of_lt (su3_b (B := 2) (by omega) (by omega)) (by decide), su3_b g2 v2, su3_b g3 v3, su3_b g4 v4, su3_b g5 v5, su3_b g6 v6, su3_b g7 v7, su3_b g8 v8⟩
theorem cb_if {P : Prop} [Decidable P] {a b : CS} (ha : P → CB a) (hb : ¬ P → CB b) : CB (if P then a else b) := by
  split
  · rename_i h; exact ha h
  · rename_i h; exact hb h
theorem cb_X2_clear_u {c : CS} {i : Nat} (h : CB c) : CB (w_X2_clear_u c i) := cb_su (cb_su h (by unfold bnd; omega)) (by unfold bnd; omega)
theorem cb_X2_clear_d {c : CS} {i : Nat} (h : CB c) : CB (w_X2_clear_d c i) := cb_su (cb_su h (by unfold bnd; omega)) (by unfold bnd; omega)
theorem cb_X1_clear {c : CS} {i : Nat} (h : CB c) : CB (w_X1_clear c i) := cb_su (cb_su (cb_su (cb_X2_clear_d (cb_X2_clear_u h)) (bnd_no (by decide))) (bnd_no (by decide))) (bnd_no (by decide))
theorem lt_of_guard {n e : Nat} (h : ¬ Int32.ofNat n ≤ Int32.ofNat e) (hn : n < 2147483648) (he : e ≤ n) : e < n := lt_of_nle h hn (by omega)
theorem cb_out {c : CS} {k i j v : Nat} (h : CB c) (hi : ¬ i < 3) : CB (su3 c k i j v) := by
  intro t ht
  have e : ∀ k', su3 c k i j v k' t 0 = c k' t 0 := by
    intro k'; unfold su3; rw [if_neg (by omega : ¬ t = i)]; split <;> rfl
  simp only [e]; exact h t ht
theorem cb_X2_send_u {c : CS} {i kd vl : Nat} (h : CB c) : CB (w_X2_send_u c i kd vl) := by
  unfold w_X2_send_u
  refine cb_if (fun _ => h) (fun g => ?_)
  by_cases hi : i < 3
  · have := lt_of_guard g (by decide) (cb13 h hi)
    exact cb_su (cb_su (cb_su h (bnd_no (by decide))) (bnd_no (by decide))) (by unfold bnd; omega)
  · exact cb_out (cb_out (cb_out h hi) hi) hi
theorem cb_X2_send_d {c : CS} {i kd vl : Nat} (h : CB c) : CB (w_X2_send_d c i kd vl) := by
  unfold w_X2_send_d
  refine cb_if (fun _ => h) (fun g => ?_)
  by_cases hi : i < 3
  · have := lt_of_guard g (by decide) (cb15 h hi)
    exact cb_su (cb_su (cb_su h (bnd_no (by decide))) (bnd_no (by decide))) (by unfold bnd; omega)
  · exact cb_out (cb_out (cb_out h hi) hi) hi
theorem cb_X0_append {c : CS} {i mk kd pa va vb : Nat} (h : CB c) : CB (w_X0_append c i mk kd pa va vb) := by
  unfold w_X0_append
  by_cases hi : i < 3
  · refine cb_if (fun g => ?_) (fun g => h)
    have := isFull0 (cb6 h hi) g
    exact cb_su (cb_su (cb_su (cb_su (cb_su (cb_su h (bnd_no (by decide))) (bnd_no (by decide))) (bnd_no (by decide))) (bnd_no (by decide))) (bnd_no (by decide))) (by unfold bnd; omega)
  · exact cb_if (fun _ => cb_out (cb_out (cb_out (cb_out (cb_out (cb_out h hi) hi) hi) hi) hi) hi) (fun _ => h)
theorem cb_X0_appendFrom {c : CS} {i o k : Nat} (h : CB c) : CB (w_X0_appendFrom c i o k) := by
  unfold w_X0_appendFrom
  repeat' (first | exact h | exact cb_X0_append h | refine cb_if (fun _ => ?_) (fun _ => ?_))
theorem cb_X4_begin {c : CS} {i : Nat} (h : CB c) : CB (w_X4_begin c i) := cb_su (cb_su (cb_su h (bnd_no (by decide))) (bnd_no (by decide))) (bnd_no (by decide))
theorem cb_X5_clear {c : CS} {i : Nat} (h : CB c) : CB (w_X5_clear c i) := cb_su (cb_su h (by unfold bnd; omega)) (bnd_no (by decide))
theorem cb_X5_add {c : CS} {i pa va ow : Nat} (h : CB c) : CB (w_X5_add c i pa va ow) := by
  unfold w_X5_add
  refine cb_if (fun _ => h) (fun g => ?_)
  by_cases hi : i < 3
  · have := lt_of_guard g (by decide) (cb7 h hi)
    exact cb_su (cb_su (cb_su (cb_su (cb_su h (bnd_no (by decide))) (bnd_no (by decide))) (bnd_no (by decide))) (bnd_no (by decide))) (by unfold bnd; omega)
  · exact cb_out (cb_out (cb_out (cb_out (cb_out h hi) hi) hi) hi) hi
theorem cb_X5_remove {c : CS} {i at_ : Nat} (h : CB c) : CB (w_X5_remove c i at_) := by
  unfold w_X5_remove
  by_cases hi : i < 3
  · have := cb7 h hi
    exact cb_su (cb_su (cb_su (cb_su (cb_su h (by unfold bnd; omega)) (bnd_no (by decide))) (bnd_no (by decide))) (bnd_no (by decide))) (bnd_no (by decide))
  · exact cb_out (cb_out (cb_out (cb_out (cb_out h hi) hi) hi) hi) hi
theorem cb_X5_create {c : CS} {i pa va ow : Nat} (h : CB c) : CB (w_X5_create c i pa va ow) := by
  unfold w_X5_create
  repeat' (first | exact h | exact cb_X5_add h | refine cb_if (fun _ => ?_) (fun _ => ?_))
theorem cb_X5_set {c : CS} {i pa va ve : Nat} (h : CB c) : CB (w_X5_set c i pa va ve) := by
  unfold w_X5_set
  repeat' (first | exact h | exact cb_su (cb_su h (bnd_no (by decide))) (bnd_no (by decide)) | refine cb_if (fun _ => ?_) (fun _ => ?_))
theorem cb_X5_delete {c : CS} {i pa ve : Nat} (h : CB c) : CB (w_X5_delete c i pa ve) := by
  unfold w_X5_delete
  repeat' (first | exact h | exact cb_X5_remove h | refine cb_if (fun _ => ?_) (fun _ => ?_))
theorem cb_X5_open {c : CS} {i v : Nat} (h : CB c) : CB (w_X5_open c i v) := by
  unfold w_X5_open
  repeat' (first | exact h | exact cb_su h (bnd_no (by decide)) | refine cb_if (fun _ => ?_) (fun _ => ?_))
theorem cb_lpw_close {c : CS} {i v : Nat} : ∀ (d k : Nat) (x : CS), CB x → CB (lpw_X5_close_18 c i v d k x) := by
  intro d
  induction d with
  | zero => intro k x hx; exact hx
  | succ d ih =>
    intro k x hx
    simp only [lpw_X5_close_18]
    split
    · exact ih _ _ (cb_X5_remove hx)
    · exact ih _ _ hx
theorem cb_X5_close {c : CS} {i v : Nat} (h : CB c) : CB (w_X5_close c i v) := by
  unfold w_X5_close
  repeat' (first | exact h | exact cb_su (cb_lpw_close _ _ _ h) (bnd_no (by decide)) | refine cb_if (fun _ => ?_) (fun _ => ?_))
theorem cb_X5_change {c : CS} {i kd pa va vb : Nat} (h : CB c) : CB (w_X5_change c i kd pa va vb) := by
  unfold w_X5_change
  repeat' (first | exact cb_X5_create h | exact cb_X5_set h | exact cb_X5_delete h | exact cb_X5_open h | exact cb_X5_close h | refine cb_if (fun _ => ?_) (fun _ => ?_))
theorem cb_X6_sendNewLeader {c : CS} {g f : Nat} (h : CB c) : CB (w_X6_sendNewLeader c g f) := cb_X2_send_d (cb_su (cb_su h (bnd_no (by decide))) (bnd_no (by decide)))
theorem cb_X6_readJoin {c : CS} {g f v : Nat} (h : CB c) : CB (w_X6_readJoin c g f v) := by
  unfold w_X6_readJoin
  exact cb_if (fun _ => cb_X2_send_d (cb_su (cb_su h (bnd_no (by decide))) (bnd_no (by decide)))) (fun _ => cb_X2_send_d h)
end
section
def lpw_XA_fill_5 (c : CS) (i v : Nat) : Nat → Nat → CS → CS
  | 0, k, x => x
  | d + 1, k, x => lpw_XA_fill_5 c i v d (k + 1) (su3 x 34 i k v)
def w_XA_fill (c : CS) (i v : Nat) : CS := lpw_XA_fill_5 c i v 5 0 c
abbrev rm_XA_fill : Room := { frames := 0, cells := 0, slots := 0, locals := 0 }
set_option maxHeartbeats 4000000 in
set_option maxRecDepth 100000 in
theorem k_XA_fill (l : Launch) (D : va_G) (cI cS cZ : ClassId) (ad : Nat → Nat) (c : CS) (i v : Nat) (h_i : i < 3) : gN l yXA_fill (Cond.code yXA_fill cXA_fill 4 none :: tb) rm_XA_fill D cls8 (tys3 cI cS cZ) [.ref (ad (2 + 22 * i + 21)), .int (Int32.ofNat v)] (cwld cI cS c ad) none (cwld cI cS (w_XA_fill c i v) ad) := by
  unfold gN
  refine g_head (by decide) rfl (Nat.le_of_ble_eq_true rfl) ?_
  intro p e s m args below meth cd A F hr hlk hnm
  refine g_eq rfl (L' := [(0, .ref (ad (2 + 22 * i + 21))), (1, .int (Int32.ofNat v))]) rfl rfl rfl ?_
  refine f_iconst F 0 dXA_fill_0 rfl ?_
  refine g_istore_n F [(2, .int (Int32.ofNat 0)), (0, .ref (ad (2 + 22 * i + 21))), (1, .int (Int32.ofNat v))] dXA_fill_1 (by decide) rfl ?_
  refine g_aload_n F dXA_fill_2 1 rfl ?_
  refine g_alen F _ 0 (pl_34 h_i) rfl (v := Int32.ofNat 5) rfl dXA_fill_3 ?_
  refine g_istore_n F [(3, .int (Int32.ofNat 5)), (2, .int (Int32.ofNat 0)), (0, .ref (ad (2 + 22 * i + 21))), (1, .int (Int32.ofNat v))] dXA_fill_4 (by decide) rfl ?_
  have loop5 : ∀ (Q : State → Prop) (d k : Nat) (x : CS), k + d = 5 → gw p l e (headSpec (Cond.code yXA_fill cXA_fill 4 none :: tb) rm_XA_fill).room s m args below meth cd 4 D cls8 A Q 0 0 20 [(3, .int (Int32.ofNat 5)), (0, .ref (ad (2 + 22 * i + 21))), (1, .int (Int32.ofNat v))] [] (cwld cI cS (lpw_XA_fill_5 c i v d k x) ad) → gw p l e (headSpec (Cond.code yXA_fill cXA_fill 4 none :: tb) rm_XA_fill).room s m args below meth cd 4 D cls8 A Q 0 0 5 [(3, .int (Int32.ofNat 5)), (2, .int (Int32.ofNat k)), (0, .ref (ad (2 + 22 * i + 21))), (1, .int (Int32.ofNat v))] [] (cwld cI cS x ad) := by
    intro Q d
    induction d with
    | zero =>
      intro k x hk K
      refine g_iload_n F dXA_fill_5 1 rfl ?_
      refine g_iload_n F dXA_fill_6 0 rfl ?_
      refine g_icmp_ge F dXA_fill_7 (tgt := 20) rfl (fun h7 => ?_) (fun h7 => ?_)
      rotate_left
      · exact absurd h7 (by rw [ofN_le (by omega) (by omega)]; omega)
      refine g_locals [(3, .int (Int32.ofNat 5)), (0, .ref (ad (2 + 22 * i + 21))), (1, .int (Int32.ofNat v))] [0, 2, 3] rfl ?_
      exact K
    | succ d ih =>
      intro k x hk K
      refine g_iload_n F dXA_fill_5 1 rfl ?_
      refine g_iload_n F dXA_fill_6 0 rfl ?_
      refine g_icmp_ge F dXA_fill_7 (tgt := 20) rfl (fun h7 => ?_) (fun h7 => ?_)
      · exact absurd h7 (by rw [ofN_le (by omega) (by omega)]; omega)
      refine g_aload_n F dXA_fill_10 2 rfl ?_
      refine g_iload_n F dXA_fill_11 1 rfl ?_
      refine g_iload_n F dXA_fill_12 3 rfl ?_
      refine f_ast F 0 (pl_34 h_i) rfl (j := k) (v := v) (by omega) (by decide) dXA_fill_13 (ps_34 h_i) ?_
      refine f_iinc F (k + 1) [(2, .int (Int32.ofNat (k + 1))), (3, .int (Int32.ofNat 5)), (0, .ref (ad (2 + 22 * i + 21))), (1, .int (Int32.ofNat v))] dXA_fill_14 1 rfl (ofN_inc _) (by decide) rfl ?_
      refine g_goto F dXA_fill_17 (tgt := 5) rfl ?_
      refine g_locals [(3, .int (Int32.ofNat 5)), (2, .int (Int32.ofNat (k + 1))), (0, .ref (ad (2 + 22 * i + 21))), (1, .int (Int32.ofNat v))] [1, 0, 2, 3] rfl ?_
      exact ih (k + 1) (su3 x 34 i k v) (by omega) (g_eq rfl rfl rfl (congrArg (fun t => cwld cI cS t ad) (by simp only [lpw_XA_fill_5])) K)
  refine loop5 _ 5 0 c (Nat.zero_add _) ?_
  exact g_vret F hr hlk dXA_fill_20 ⟨rfl, congrArg (fun t => cwld cI cS t ad) rfl⟩
theorem cb_XA_fill {c : CS} {i v : Nat} (h : CB c) : CB (w_XA_fill c i v) := by
  have key : ∀ (d k : Nat) (x : CS), CB x → CB (lpw_XA_fill_5 c i v d k x) := by
    intro d
    induction d with
    | zero => intro k x hx; exact hx
    | succ d ih => intro k x hx; exact ih _ _ (cb_su hx (bnd_no (by decide)))
  exact key _ _ _ h
def w_X3_forgetApplied (c : CS) (i : Nat) : CS := w_X5_clear (su3 c 5 i 0 0) i
abbrev rm_X3_forgetApplied : Room := { frames := 1, cells := 0, slots := 0, locals := 20 }
set_option maxHeartbeats 4000000 in
set_option maxRecDepth 100000 in
theorem k_X3_forgetApplied (l : Launch) (D : va_G) (cI cS cZ : ClassId) (ad : Nat → Nat) (c : CS) (i : Nat) (h_i : i < 3) : gN l yX3_forgetApplied (Cond.code yX3_forgetApplied cX3_forgetApplied 1 none :: tb) rm_X3_forgetApplied D cls8 (tys3 cI cS cZ) [.ref (ad (2 + 22 * i))] (cwld cI cS c ad) none (cwld cI cS (w_X3_forgetApplied c i) ad) := by
  unfold gN
  refine g_head (by decide) rfl (Nat.le_of_ble_eq_true rfl) ?_
  intro p e s m args below meth cd A F hr hlk hnm
  refine g_eq rfl (L' := [(0, .ref (ad (2 + 22 * i)))]) rfl rfl rfl ?_
  refine g_aload_n F dX3_forgetApplied_0 0 rfl ?_
  refine f_iconst F 0 dX3_forgetApplied_1 rfl ?_
  refine f_put F inX3 tyX3_ok nmX3 (pl_SV h_i) rfl 6 (by decide) tb_100 rfl rfl rfl rfl (Nat.le_of_ble_eq_true rfl) dX3_forgetApplied_2 (ps_5 h_i) ?_
  refine g_aload_n F dX3_forgetApplied_5 0 rfl ?_
  refine f_get F inX3 (pl_SV h_i) rfl 8 (by decide) tb_102 rfl (v := .ref (ad (2 + 22 * i + 2))) rfl dX3_forgetApplied_6 ?_
  refine f_callVN F (As := []) (rest := []) (st' := []) (k_X5_clear l D cI cS cZ ad (su3 c 5 i 0 0) i h_i) (pl_TR h_i) rfl tb_156 nb_38 tb_155 tb_527 tb_3 hdX5_clear ⟨rfl, rfl⟩ ⟨Nat.le_of_ble_eq_true rfl, Nat.le_of_ble_eq_true rfl⟩ cw_adr rfl rfl (Nat.le_of_ble_eq_true rfl) ⟨Nat.le_refl _, Nat.le_refl _⟩ dX3_forgetApplied_9 rfl ?_
  exact g_vret F hr hlk dX3_forgetApplied_12 ⟨rfl, congrArg (fun t => cwld cI cS t ad) rfl⟩
theorem cb_X3_forgetApplied {c : CS} {i : Nat} (h : CB c) : CB (w_X3_forgetApplied c i) := cb_X5_clear (cb_su h (by unfold bnd; omega))
theorem min_end {a b B : Nat} (ha : a ≤ B) (hB : B < 2147483648) (hb : b < 2147483648) : (if Int32.ofNat a < Int32.ofNat b then a else b) ≤ B := by
  split
  · exact ha
  · rename_i h; have := nlt_le h (by omega) hb; omega
def lpw_X3_applyUpTo_17 (c : CS) (i k : Nat) : Nat → Nat → CS → CS
  | 0, t, x => x
  | d + 1, t, x => lpw_X3_applyUpTo_17 c i k d (t + 1) (su3 (su3 (w_X5_change x i (x 21 i t) (x 22 i t) (x 23 i t) (x 24 i t)) 25 i t (r_X5_change x i (x 21 i t) (x 22 i t) (x 23 i t) (x 24 i t))) 5 i 0 (t + 1))
def w_X3_applyUpTo (c : CS) (i k : Nat) : CS := lpw_X3_applyUpTo_17 c i k ((if Int32.ofNat (c 6 i 0) < Int32.ofNat k then (c 6 i 0) else k) - c 5 i 0) (c 5 i 0) c
abbrev rm_X3_applyUpTo : Room := { frames := 4, cells := 0, slots := 0, locals := 90 }
set_option maxHeartbeats 4000000 in
set_option maxRecDepth 100000 in
theorem k_X3_applyUpTo (l : Launch) (D : va_G) (cI cS cZ : ClassId) (ad : Nat → Nat) (c : CS) (i k : Nat) (h_i : i < 3) (hc : CB c) (hk : k < 2147483648) : gN l yX3_applyUpTo (Cond.code yX3_applyUpTo cX3_applyUpTo 4 none :: tb) rm_X3_applyUpTo D cls8 (tys3 cI cS cZ) [.ref (ad (2 + 22 * i)), .int (Int32.ofNat k)] (cwld cI cS c ad) none (cwld cI cS (w_X3_applyUpTo c i k) ad) := by
  unfold gN
  refine g_head (by decide) rfl (Nat.le_of_ble_eq_true rfl) ?_
  intro p e s m args below meth cd A F hr hlk hnm
  refine g_eq rfl (L' := [(0, .ref (ad (2 + 22 * i))), (1, .int (Int32.ofNat k))]) rfl rfl rfl ?_
  have he : (if Int32.ofNat (c 6 i 0) < Int32.ofNat k then (c 6 i 0) else k) ≤ 24 := min_end (cb6 hc h_i) (by decide) hk
  refine g_iload_n F dX3_applyUpTo_0 1 rfl ?_
  refine g_aload_n F dX3_applyUpTo_1 0 rfl ?_
  refine f_get F inX3 (pl_SV h_i) rfl 3 (by decide) tb_98 rfl (v := .ref (ad (2 + 22 * i + 1))) rfl dX3_applyUpTo_2 ?_
  refine f_getN F inX0 (pl_EL h_i) rfl 5 (by decide) nb_7 rfl (v := .int (Int32.ofNat (c 6 i 0))) rfl dX3_applyUpTo_5 ?_
  refine g_mmin F (gf_w F tb_213) (gf_w F tb_214) (gf_w F tb_8) (gf_w F tb_215) (Nat.le_of_ble_eq_true rfl) (Nat.le_of_ble_eq_true rfl) (Nat.le_refl _) (Nat.le_refl _) dX3_applyUpTo_8 ?_
  rw [← apply_ite Int32.ofNat]
  refine g_istore_n F [(2, .int (Int32.ofNat (if Int32.ofNat (c 6 i 0) < Int32.ofNat k then (c 6 i 0) else k))), (0, .ref (ad (2 + 22 * i))), (1, .int (Int32.ofNat k))] dX3_applyUpTo_11 (by decide) rfl ?_
  refine g_aload_n F dX3_applyUpTo_12 1 rfl ?_
  refine f_get F inX3 (pl_SV h_i) rfl 6 (by decide) tb_100 rfl (v := .int (Int32.ofNat (c 5 i 0))) rfl dX3_applyUpTo_13 ?_
  refine g_istore_n F [(3, .int (Int32.ofNat (c 5 i 0))), (2, .int (Int32.ofNat (if Int32.ofNat (c 6 i 0) < Int32.ofNat k then (c 6 i 0) else k))), (0, .ref (ad (2 + 22 * i))), (1, .int (Int32.ofNat k))] dX3_applyUpTo_16 (by decide) rfl ?_
  have loop17 : ∀ (Q : State → Prop) (d t : Nat) (x : CS), d = (if Int32.ofNat (c 6 i 0) < Int32.ofNat k then (c 6 i 0) else k) - t → CB x → t ≤ 24 → gw p l e (headSpec (Cond.code yX3_applyUpTo cX3_applyUpTo 4 none :: tb) rm_X3_applyUpTo).room s m args below meth cd 4 D cls8 A Q 0 0 84 [(2, .int (Int32.ofNat (if Int32.ofNat (c 6 i 0) < Int32.ofNat k then (c 6 i 0) else k))), (0, .ref (ad (2 + 22 * i))), (1, .int (Int32.ofNat k))] [] (cwld cI cS (lpw_X3_applyUpTo_17 c i k d t x) ad) → gw p l e (headSpec (Cond.code yX3_applyUpTo cX3_applyUpTo 4 none :: tb) rm_X3_applyUpTo).room s m args below meth cd 4 D cls8 A Q 0 0 17 [(3, .int (Int32.ofNat t)), (2, .int (Int32.ofNat (if Int32.ofNat (c 6 i 0) < Int32.ofNat k then (c 6 i 0) else k))), (0, .ref (ad (2 + 22 * i))), (1, .int (Int32.ofNat k))] [] (cwld cI cS x ad) := by
    intro Q d
    induction d with
    | zero =>
      intro t x hd hx ht K
      refine g_iload_n F dX3_applyUpTo_17 0 rfl ?_
      refine g_iload_n F dX3_applyUpTo_18 1 rfl ?_
      refine g_icmp_ge F dX3_applyUpTo_19 (tgt := 84) rfl (fun h19 => ?_) (fun h19 => ?_)
      rotate_left
      · exact absurd h19 (by rw [ofN_le (by omega) (by omega)]; omega)
      refine g_locals [(2, .int (Int32.ofNat (if Int32.ofNat (c 6 i 0) < Int32.ofNat k then (c 6 i 0) else k))), (0, .ref (ad (2 + 22 * i))), (1, .int (Int32.ofNat k))] [1, 2, 3] rfl ?_
      exact K
    | succ d ih =>
      intro t x hd hx ht K
      refine g_iload_n F dX3_applyUpTo_17 0 rfl ?_
      refine g_iload_n F dX3_applyUpTo_18 1 rfl ?_
      refine g_icmp_ge F dX3_applyUpTo_19 (tgt := 84) rfl (fun h19 => ?_) (fun h19 => ?_)
      · exact absurd h19 (by rw [ofN_le (by omega) (by omega)]; omega)
      refine g_aload_n F dX3_applyUpTo_22 2 rfl ?_
      refine f_get F inX3 (pl_SV h_i) rfl 7 (by decide) tb_101 rfl (v := .ref (ad (2 + 22 * i + 12))) rfl dX3_applyUpTo_23 ?_
      refine g_iload_n F dX3_applyUpTo_26 0 rfl ?_
      refine g_aload_n F dX3_applyUpTo_27 2 rfl ?_
      refine f_get F inX3 (pl_SV h_i) rfl 8 (by decide) tb_102 rfl (v := .ref (ad (2 + 22 * i + 2))) rfl dX3_applyUpTo_28 ?_
      refine g_aload_n F dX3_applyUpTo_31 2 rfl ?_
      refine f_get F inX3 (pl_SV h_i) rfl 3 (by decide) tb_98 rfl (v := .ref (ad (2 + 22 * i + 1))) rfl dX3_applyUpTo_32 ?_
      refine f_getN F inX0 (pl_EL h_i) rfl 1 (by decide) nb_3 rfl (v := .ref (ad (2 + 22 * i + 8))) rfl dX3_applyUpTo_35 ?_
      refine g_iload_n F dX3_applyUpTo_38 0 rfl ?_
      refine f_ald F 0 (pl_21 h_i) rfl (j := t) (by omega) (by decide) dX3_applyUpTo_39 ?_
      refine g_aload_n F dX3_applyUpTo_40 2 rfl ?_
      refine f_get F inX3 (pl_SV h_i) rfl 3 (by decide) tb_98 rfl (v := .ref (ad (2 + 22 * i + 1))) rfl dX3_applyUpTo_41 ?_
      refine f_getN F inX0 (pl_EL h_i) rfl 2 (by decide) nb_4 rfl (v := .ref (ad (2 + 22 * i + 9))) rfl dX3_applyUpTo_44 ?_
      refine g_iload_n F dX3_applyUpTo_47 0 rfl ?_
      refine f_ald F 0 (pl_22 h_i) rfl (j := t) (by omega) (by decide) dX3_applyUpTo_48 ?_
      refine g_aload_n F dX3_applyUpTo_49 2 rfl ?_
      refine f_get F inX3 (pl_SV h_i) rfl 3 (by decide) tb_98 rfl (v := .ref (ad (2 + 22 * i + 1))) rfl dX3_applyUpTo_50 ?_
      refine f_getN F inX0 (pl_EL h_i) rfl 3 (by decide) nb_5 rfl (v := .ref (ad (2 + 22 * i + 10))) rfl dX3_applyUpTo_53 ?_
      refine g_iload_n F dX3_applyUpTo_56 0 rfl ?_
      refine f_ald F 0 (pl_23 h_i) rfl (j := t) (by omega) (by decide) dX3_applyUpTo_57 ?_
      refine g_aload_n F dX3_applyUpTo_58 2 rfl ?_
      refine f_get F inX3 (pl_SV h_i) rfl 3 (by decide) tb_98 rfl (v := .ref (ad (2 + 22 * i + 1))) rfl dX3_applyUpTo_59 ?_
      refine f_getN F inX0 (pl_EL h_i) rfl 4 (by decide) nb_6 rfl (v := .ref (ad (2 + 22 * i + 11))) rfl dX3_applyUpTo_62 ?_
      refine g_iload_n F dX3_applyUpTo_65 0 rfl ?_
      refine f_ald F 0 (pl_24 h_i) rfl (j := t) (by omega) (by decide) dX3_applyUpTo_66 ?_
      refine f_callVN F (As := [.int (Int32.ofNat (x 21 i t)), .int (Int32.ofNat (x 22 i t)), .int (Int32.ofNat (x 23 i t)), .int (Int32.ofNat (x 24 i t))]) (rest := [.int (Int32.ofNat t), .ref (ad (2 + 22 * i + 12))]) (st' := [.int (Int32.ofNat (r_X5_change x i (x 21 i t) (x 22 i t) (x 23 i t) (x 24 i t))), .int (Int32.ofNat t), .ref (ad (2 + 22 * i + 12))]) (k_X5_change l D cI cS cZ ad x i (x 21 i t) (x 22 i t) (x 23 i t) (x 24 i t) h_i (cb7 hx h_i)) (pl_TR h_i) rfl tb_217 nb_46 tb_216 tb_542 tb_3 hdX5_change ⟨rfl, rfl⟩ ⟨Nat.le_of_ble_eq_true rfl, Nat.le_of_ble_eq_true rfl⟩ cw_adr rfl rfl (Nat.le_of_ble_eq_true rfl) ⟨Nat.le_refl _, Nat.le_refl _⟩ dX3_applyUpTo_67 rfl ?_
      refine f_ast F 0 (pl_25 h_i) rfl (j := t) (v := r_X5_change x i (x 21 i t) (x 22 i t) (x 23 i t) (x 24 i t)) (by omega) (by decide) dX3_applyUpTo_70 (ps_25 h_i) ?_
      refine g_aload_n F dX3_applyUpTo_71 2 rfl ?_
      refine g_iload_n F dX3_applyUpTo_72 0 rfl ?_
      refine f_iconst F 1 dX3_applyUpTo_73 rfl ?_
      refine f_add F dX3_applyUpTo_74 ?_
      refine f_put F inX3 tyX3_ok nmX3 (pl_SV h_i) rfl 6 (by decide) tb_100 rfl rfl rfl rfl (Nat.le_of_ble_eq_true rfl) dX3_applyUpTo_75 (ps_5 h_i) ?_
      refine f_iinc F (t + 1) [(3, .int (Int32.ofNat (t + 1))), (2, .int (Int32.ofNat (if Int32.ofNat (c 6 i 0) < Int32.ofNat k then (c 6 i 0) else k))), (0, .ref (ad (2 + 22 * i))), (1, .int (Int32.ofNat k))] dX3_applyUpTo_78 0 rfl (ofN_inc _) (by decide) rfl ?_
      refine g_goto F dX3_applyUpTo_81 (tgt := 17) rfl ?_
      exact ih (t + 1) (su3 (su3 (w_X5_change x i (x 21 i t) (x 22 i t) (x 23 i t) (x 24 i t)) 25 i t (r_X5_change x i (x 21 i t) (x 22 i t) (x 23 i t) (x 24 i t))) 5 i 0 (t + 1)) (by omega) (cb_su (cb_su (cb_X5_change hx) (bnd_no (by decide))) (by unfold bnd; omega)) (by omega) (g_eq rfl rfl rfl (congrArg (fun t => cwld cI cS t ad) (by simp only [lpw_X3_applyUpTo_17])) K)
  refine loop17 _ ((if Int32.ofNat (c 6 i 0) < Int32.ofNat k then (c 6 i 0) else k) - c 5 i 0) (c 5 i 0) c rfl hc (cb5 hc h_i) ?_
  exact g_vret F hr hlk dX3_applyUpTo_84 ⟨rfl, congrArg (fun t => cwld cI cS t ad) rfl⟩
end
