def R_A : String := "XmppPair$Account"
def F_A : u_T := fun k => match k with
  | 0 => ("XmppPair$Account", "marks", "[I", true)
  | 1 => ("XmppPair$Account", "kept", "LXmppPair$StanzaQueue;", true)
  | 2 => ("XmppPair$Account", "registered", "Z", false)
  | _ => ("XmppPair$Account", "password", "I", false)
def t_A : Nat → FieldType := fun k => match k with
  | 0 => .array .int
  | 1 => .object "XmppPair$StanzaQueue"
  | 2 => .boolean
  | _ => .int
theorem n_A : ∀ a, a < 4 → ∀ b, b < 4 → a ≠ b → (F_A a).2.1 ≠ (F_A b).2.1 := by decide +kernel
theorem t_A_ok : ∀ k, k < 4 → parseFieldDescriptor (F_A k).2.2.1 = some (t_A k) := by decide +kernel
def R_C : String := "XmppPair$Connection"
def F_C : u_T := fun k => match k with
  | 0 => ("XmppPair$Connection", "inbox", "LXmppPair$StanzaQueue;", true)
  | 1 => ("XmppPair$Connection", "stage", "I", false)
  | 2 => ("XmppPair$Connection", "account", "I", false)
  | 3 => ("XmppPair$Connection", "resource", "I", false)
  | 4 => ("XmppPair$Connection", "priority", "I", false)
  | 5 => ("XmppPair$Connection", "challenge", "I", false)
  | _ => ("XmppPair$Connection", "available", "Z", false)
def t_C : Nat → FieldType := fun k => match k with
  | 0 => .object "XmppPair$StanzaQueue"
  | 1 => .int
  | 2 => .int
  | 3 => .int
  | 4 => .int
  | 5 => .int
  | _ => .boolean
theorem n_C : ∀ a, a < 7 → ∀ b, b < 7 → a ≠ b → (F_C a).2.1 ≠ (F_C b).2.1 := by decide +kernel
theorem t_C_ok : ∀ k, k < 7 → parseFieldDescriptor (F_C k).2.2.1 = some (t_C k) := by decide +kernel
def R_Z : String := "XmppPair$Stanza"
def F_Z : u_T := fun k => match k with
  | 0 => ("XmppPair$Stanza", "kind", "I", true)
  | 1 => ("XmppPair$Stanza", "from", "I", true)
  | 2 => ("XmppPair$Stanza", "resource", "I", true)
  | 3 => ("XmppPair$Stanza", "value", "I", true)
  | 4 => ("XmppPair$Stanza", "to", "I", true)
  | _ => ("XmppPair$Stanza", "target", "I", true)
def t_Z : Nat → FieldType := fun k => match k with
  | 0 => .int
  | 1 => .int
  | 2 => .int
  | 3 => .int
  | 4 => .int
  | _ => .int
theorem n_Z : ∀ a, a < 6 → ∀ b, b < 6 → a ≠ b → (F_Z a).2.1 ≠ (F_Z b).2.1 := by decide +kernel
theorem t_Z_ok : ∀ k, k < 6 → parseFieldDescriptor (F_Z k).2.2.1 = some (t_Z k) := by decide +kernel
def R_Q : String := "XmppPair$StanzaQueue"
def F_Q : u_T := fun k => match k with
  | 0 => ("XmppPair$StanzaQueue", "places", "[LXmppPair$Stanza;", true)
  | 1 => ("XmppPair$StanzaQueue", "size", "I", false)
  | _ => ("XmppPair$StanzaQueue", "lost", "I", false)
def t_Q : Nat → FieldType := fun k => match k with
  | 0 => .array (.object "XmppPair$Stanza")
  | 1 => .int
  | _ => .int
theorem n_Q : ∀ a, a < 3 → ∀ b, b < 3 → a ≠ b → (F_Q a).2.1 ≠ (F_Q b).2.1 := by decide +kernel
theorem t_Q_ok : ∀ k, k < 3 → parseFieldDescriptor (F_Q k).2.2.1 = some (t_Q k) := by decide +kernel
def R_X : String := "XmppPair"
def F_X : u_T := fun k => match k with
  | 0 => ("XmppPair", "accounts", "[LXmppPair$Account;", true)
  | 1 => ("XmppPair", "connections", "[LXmppPair$Connection;", true)
  | 2 => ("XmppPair", "waiting", "LXmppPair$StanzaQueue;", true)
  | 3 => ("XmppPair", "linkUp", "Z", false)
  | 4 => ("XmppPair", "nextChallenge", "I", false)
  | _ => ("XmppPair", "lastTaken", "LXmppPair$Stanza;", false)
def t_X : Nat → FieldType := fun k => match k with
  | 0 => .array (.object "XmppPair$Account")
  | 1 => .array (.object "XmppPair$Connection")
  | 2 => .object "XmppPair$StanzaQueue"
  | 3 => .boolean
  | 4 => .int
  | _ => .object "XmppPair$Stanza"
theorem n_X : ∀ a, a < 6 → ∀ b, b < 6 → a ≠ b → (F_X a).2.1 ≠ (F_X b).2.1 := by decide +kernel
theorem t_X_ok : ∀ k, k < 6 → parseFieldDescriptor (F_X k).2.2.1 = some (t_X k) := by decide +kernel
def R_U : String := "XmppPairModel"
def F_U : u_T := fun k => match k with
  | 0 => ("XmppPairModel", "thrown", "I", false)
  | 1 => ("XmppPairModel", "registered", "[Z", true)
  | 2 => ("XmppPairModel", "password", "[I", true)
  | 3 => ("XmppPairModel", "marks", "[I", true)
  | 4 => ("XmppPairModel", "stage", "[I", true)
  | 5 => ("XmppPairModel", "account", "[I", true)
  | 6 => ("XmppPairModel", "resource", "[I", true)
  | 7 => ("XmppPairModel", "available", "[Z", true)
  | 8 => ("XmppPairModel", "priority", "[I", true)
  | 9 => ("XmppPairModel", "challenge", "[I", true)
  | 10 => ("XmppPairModel", "challenges", "I", false)
  | 11 => ("XmppPairModel", "inKind", "[I", true)
  | 12 => ("XmppPairModel", "inFrom", "[I", true)
  | 13 => ("XmppPairModel", "inResource", "[I", true)
  | 14 => ("XmppPairModel", "inValue", "[I", true)
  | 15 => ("XmppPairModel", "held", "[I", true)
  | 16 => ("XmppPairModel", "keptFrom", "[I", true)
  | 17 => ("XmppPairModel", "keptResource", "[I", true)
  | 18 => ("XmppPairModel", "keptBody", "[I", true)
  | 19 => ("XmppPairModel", "kept", "[I", true)
  | 20 => ("XmppPairModel", "wKind", "[I", true)
  | 21 => ("XmppPairModel", "wFrom", "[I", true)
  | 22 => ("XmppPairModel", "wTo", "[I", true)
  | 23 => ("XmppPairModel", "wResource", "[I", true)
  | 24 => ("XmppPairModel", "wValue", "[I", true)
  | 25 => ("XmppPairModel", "wTarget", "[I", true)
  | 26 => ("XmppPairModel", "waiting", "I", false)
  | 27 => ("XmppPairModel", "up", "Z", false)
  | 28 => ("XmppPairModel", "lost", "I", false)
  | 29 => ("XmppPairModel", "reply", "I", false)
  | 30 => ("XmppPairModel", "took", "Z", false)
  | 31 => ("XmppPairModel", "tookFrom", "I", false)
  | 32 => ("XmppPairModel", "tookResource", "I", false)
  | _ => ("XmppPairModel", "tookValue", "I", false)
def t_U : Nat → FieldType := fun k => match k with
  | 0 => .int
  | 1 => .array .boolean
  | 2 => .array .int
  | 3 => .array .int
  | 4 => .array .int
  | 5 => .array .int
  | 6 => .array .int
  | 7 => .array .boolean
  | 8 => .array .int
  | 9 => .array .int
  | 10 => .int
  | 11 => .array .int
  | 12 => .array .int
  | 13 => .array .int
  | 14 => .array .int
  | 15 => .array .int
  | 16 => .array .int
  | 17 => .array .int
  | 18 => .array .int
  | 19 => .array .int
  | 20 => .array .int
  | 21 => .array .int
  | 22 => .array .int
  | 23 => .array .int
  | 24 => .array .int
  | 25 => .array .int
  | 26 => .int
  | 27 => .boolean
  | 28 => .int
  | 29 => .int
  | 30 => .boolean
  | 31 => .int
  | 32 => .int
  | _ => .int
theorem n_U : ∀ a, a < 34 → ∀ b, b < 34 → a ≠ b → (F_U a).2.1 ≠ (F_U b).2.1 := by decide +kernel
theorem t_U_ok : ∀ k, k < 34 → parseFieldDescriptor (F_U k).2.2.1 = some (t_U k) := by decide +kernel
def R_L : String := "XmppPairLaw"
def y_X_init : MethodName := ⟨"XmppPair", "<init>", "()V"⟩
abbrev b_X_init : ByteArray := prog_1_method_1_code
def y_Z_init : MethodName := ⟨"XmppPair$Stanza", "<init>", "(IIIIII)V"⟩
abbrev b_Z_init : ByteArray := prog_4_method_1_code
def y_A_init : MethodName := ⟨"XmppPair$Account", "<init>", "(LXmppPair$Stanza;)V"⟩
abbrev b_A_init : ByteArray := prog_2_method_1_code
def y_Q_init : MethodName := ⟨"XmppPair$StanzaQueue", "<init>", "(ILXmppPair$Stanza;)V"⟩
abbrev b_Q_init : ByteArray := prog_5_method_1_code
def y_C_init : MethodName := ⟨"XmppPair$Connection", "<init>", "(LXmppPair$Stanza;)V"⟩
abbrev b_C_init : ByteArray := prog_3_method_1_code
def y_X_link : MethodName := ⟨"XmppPair", "link", "(Z)I"⟩
abbrev b_X_link : ByteArray := prog_1_method_12_code
def y_Q_removeFirst : MethodName := ⟨"XmppPair$StanzaQueue", "removeFirst", "()LXmppPair$Stanza;"⟩
abbrev b_Q_removeFirst : ByteArray := prog_5_method_4_code
def y_X_arrive : MethodName := ⟨"XmppPair", "arrive", "(LXmppPair$Stanza;)V"⟩
abbrev b_X_arrive : ByteArray := prog_1_method_37_code
def y_X_messageArrives : MethodName := ⟨"XmppPair", "messageArrives", "(LXmppPair$Stanza;)V"⟩
abbrev b_X_messageArrives : ByteArray := prog_1_method_38_code
def y_X_boundWith : MethodName := ⟨"XmppPair", "boundWith", "(II)LXmppPair$Connection;"⟩
abbrev b_X_boundWith : ByteArray := prog_1_method_25_code
def y_Q_add : MethodName := ⟨"XmppPair$StanzaQueue", "add", "(LXmppPair$Stanza;)V"⟩
abbrev b_Q_add : ByteArray := prog_5_method_3_code
def y_X_greatestPriority : MethodName := ⟨"XmppPair", "greatestPriority", "(I)I"⟩
abbrev b_X_greatestPriority : ByteArray := prog_1_method_39_code
def y_C_isAvailableFor : MethodName := ⟨"XmppPair$Connection", "isAvailableFor", "(I)Z"⟩
abbrev b_C_isAvailableFor : ByteArray := prog_3_method_2_code
def y_X_giveToPriority : MethodName := ⟨"XmppPair", "giveToPriority", "(LXmppPair$Stanza;I)V"⟩
abbrev b_X_giveToPriority : ByteArray := prog_1_method_40_code
def y_Q_isFull : MethodName := ⟨"XmppPair$StanzaQueue", "isFull", "()Z"⟩
abbrev b_Q_isFull : ByteArray := prog_5_method_2_code
def y_X_returnError : MethodName := ⟨"XmppPair", "returnError", "(LXmppPair$Stanza;)V"⟩
abbrev b_X_returnError : ByteArray := prog_1_method_35_code
def y_X_giveToAvailable : MethodName := ⟨"XmppPair", "giveToAvailable", "(LXmppPair$Stanza;)V"⟩
abbrev b_X_giveToAvailable : ByteArray := prog_1_method_36_code
def y_X_askArrives : MethodName := ⟨"XmppPair", "askArrives", "(LXmppPair$Stanza;)V"⟩
abbrev b_X_askArrives : ByteArray := prog_1_method_41_code
def y_A_hasAny : MethodName := ⟨"XmppPair$Account", "hasAny", "(II)Z"⟩
abbrev b_A_hasAny : ByteArray := prog_2_method_2_code
def y_X_grantArrives : MethodName := ⟨"XmppPair", "grantArrives", "(LXmppPair$Stanza;)V"⟩
abbrev b_X_grantArrives : ByteArray := prog_1_method_42_code
def y_A_addMark : MethodName := ⟨"XmppPair$Account", "addMark", "(II)V"⟩
abbrev b_A_addMark : ByteArray := prog_2_method_3_code
def y_A_dropMarks : MethodName := ⟨"XmppPair$Account", "dropMarks", "(II)V"⟩
abbrev b_A_dropMarks : ByteArray := prog_2_method_4_code
def y_X_endingArrives : MethodName := ⟨"XmppPair", "endingArrives", "(LXmppPair$Stanza;I)V"⟩
abbrev b_X_endingArrives : ByteArray := prog_1_method_43_code
def y_X_register : MethodName := ⟨"XmppPair", "register", "(II)I"⟩
abbrev b_X_register : ByteArray := prog_1_method_2_code
def y_X_isAccount : MethodName := ⟨"XmppPair", "isAccount", "(I)Z"⟩
abbrev b_X_isAccount : ByteArray := prog_1_method_20_code
def y_X_checkArgument : MethodName := ⟨"XmppPair", "checkArgument", "(Z)V"⟩
abbrev b_X_checkArgument : ByteArray := prog_1_method_18_code
def y_X_checkState : MethodName := ⟨"XmppPair", "checkState", "(Z)V"⟩
abbrev b_X_checkState : ByteArray := prog_1_method_19_code
def y_X_connect : MethodName := ⟨"XmppPair", "connect", "(I)I"⟩
abbrev b_X_connect : ByteArray := prog_1_method_3_code
def y_X_isConnection : MethodName := ⟨"XmppPair", "isConnection", "(I)Z"⟩
abbrev b_X_isConnection : ByteArray := prog_1_method_21_code
def y_Q_clear : MethodName := ⟨"XmppPair$StanzaQueue", "clear", "()V"⟩
abbrev b_Q_clear : ByteArray := prog_5_method_5_code
def y_X_login : MethodName := ⟨"XmppPair", "login", "(II)I"⟩
abbrev b_X_login : ByteArray := prog_1_method_4_code
def y_X_prove : MethodName := ⟨"XmppPair", "prove", "(II)I"⟩
abbrev b_X_prove : ByteArray := prog_1_method_5_code
def y_X_isRightProof : MethodName := ⟨"XmppPair", "isRightProof", "(LXmppPair$Connection;I)Z"⟩
abbrev b_X_isRightProof : ByteArray := prog_1_method_24_code
def y_X_bind : MethodName := ⟨"XmppPair", "bind", "(II)I"⟩
abbrev b_X_bind : ByteArray := prog_1_method_6_code
def y_X_shut : MethodName := ⟨"XmppPair", "shut", "(LXmppPair$Connection;)V"⟩
abbrev b_X_shut : ByteArray := prog_1_method_26_code
def y_X_sendToWatchers : MethodName := ⟨"XmppPair", "sendToWatchers", "(LXmppPair$Connection;I)V"⟩
abbrev b_X_sendToWatchers : ByteArray := prog_1_method_28_code
def y_X_presenceOf : MethodName := ⟨"XmppPair", "presenceOf", "(LXmppPair$Connection;II)LXmppPair$Stanza;"⟩
abbrev b_X_presenceOf : ByteArray := prog_1_method_27_code
def y_X_send : MethodName := ⟨"XmppPair", "send", "(LXmppPair$Stanza;)V"⟩
abbrev b_X_send : ByteArray := prog_1_method_34_code
def y_X_canReach : MethodName := ⟨"XmppPair", "canReach", "(II)Z"⟩
abbrev b_X_canReach : ByteArray := prog_1_method_23_code
def y_X_onOneServer : MethodName := ⟨"XmppPair", "onOneServer", "(II)Z"⟩
abbrev b_X_onOneServer : ByteArray := prog_1_method_22_code
def y_X_here : MethodName := ⟨"XmppPair", "here", "(II)I"⟩
abbrev b_X_here : ByteArray := prog_1_method_7_code
def y_X_showOthers : MethodName := ⟨"XmppPair", "showOthers", "(LXmppPair$Connection;)V"⟩
abbrev b_X_showOthers : ByteArray := prog_1_method_30_code
def y_X_showConnectionsOf : MethodName := ⟨"XmppPair", "showConnectionsOf", "(ILXmppPair$Connection;)V"⟩
abbrev b_X_showConnectionsOf : ByteArray := prog_1_method_31_code
def y_X_handOverKept : MethodName := ⟨"XmppPair", "handOverKept", "(LXmppPair$Connection;)V"⟩
abbrev b_X_handOverKept : ByteArray := prog_1_method_32_code
def y_X_gone : MethodName := ⟨"XmppPair", "gone", "(I)I"⟩
abbrev b_X_gone : ByteArray := prog_1_method_8_code
def y_X_close : MethodName := ⟨"XmppPair", "close", "(I)I"⟩
abbrev b_X_close : ByteArray := prog_1_method_9_code
def y_X_message : MethodName := ⟨"XmppPair", "message", "(IIII)I"⟩
abbrev b_X_message : ByteArray := prog_1_method_10_code
def y_X_subscribe : MethodName := ⟨"XmppPair", "subscribe", "(III)I"⟩
abbrev b_X_subscribe : ByteArray := prog_1_method_11_code
def y_X_sendPresences : MethodName := ⟨"XmppPair", "sendPresences", "(III)V"⟩
abbrev b_X_sendPresences : ByteArray := prog_1_method_29_code
def y_X_changeOwnMarks : MethodName := ⟨"XmppPair", "changeOwnMarks", "(LXmppPair$Account;II)V"⟩
abbrev b_X_changeOwnMarks : ByteArray := prog_1_method_33_code
def y_X_take : MethodName := ⟨"XmppPair", "take", "(I)I"⟩
abbrev b_X_take : ByteArray := prog_1_method_13_code
def y_X_taken : MethodName := ⟨"XmppPair", "taken", "(I)I"⟩
abbrev b_X_taken : ByteArray := prog_1_method_14_code
def y_X_roster : MethodName := ⟨"XmppPair", "roster", "(II)I"⟩
abbrev b_X_roster : ByteArray := prog_1_method_15_code
def y_X_connection : MethodName := ⟨"XmppPair", "connection", "(II)I"⟩
abbrev b_X_connection : ByteArray := prog_1_method_16_code
def y_X_count : MethodName := ⟨"XmppPair", "count", "(I)I"⟩
abbrev b_X_count : ByteArray := prog_1_method_17_code
def y_X_keptForAll : MethodName := ⟨"XmppPair", "keptForAll", "()I"⟩
abbrev b_X_keptForAll : ByteArray := prog_1_method_44_code
def y_X_lostByAll : MethodName := ⟨"XmppPair", "lostByAll", "()I"⟩
abbrev b_X_lostByAll : ByteArray := prog_1_method_45_code
def y_U_init : MethodName := ⟨"XmppPairModel", "<init>", "()V"⟩
abbrev b_U_init : ByteArray := prog_7_method_1_code
def y_U_thrown : MethodName := ⟨"XmppPairModel", "thrown", "()I"⟩
abbrev b_U_thrown : ByteArray := prog_7_method_2_code
def y_U_register : MethodName := ⟨"XmppPairModel", "register", "(II)I"⟩
abbrev b_U_register : ByteArray := prog_7_method_17_code
def y_U_isAccount : MethodName := ⟨"XmppPairModel", "isAccount", "(I)Z"⟩
abbrev b_U_isAccount : ByteArray := prog_7_method_6_code
def y_U_in : MethodName := ⟨"XmppPairModel", "in", "(III)Z"⟩
abbrev b_U_in : ByteArray := prog_7_method_4_code
def y_U_raise : MethodName := ⟨"XmppPairModel", "raise", "(I)I"⟩
abbrev b_U_raise : ByteArray := prog_7_method_3_code
def y_U_connect : MethodName := ⟨"XmppPairModel", "connect", "(I)I"⟩
abbrev b_U_connect : ByteArray := prog_7_method_18_code
def y_U_isConnection : MethodName := ⟨"XmppPairModel", "isConnection", "(I)Z"⟩
abbrev b_U_isConnection : ByteArray := prog_7_method_5_code
def y_U_login : MethodName := ⟨"XmppPairModel", "login", "(II)I"⟩
abbrev b_U_login : ByteArray := prog_7_method_19_code
def y_U_prove : MethodName := ⟨"XmppPairModel", "prove", "(II)I"⟩
abbrev b_U_prove : ByteArray := prog_7_method_20_code
def y_U_bind : MethodName := ⟨"XmppPairModel", "bind", "(II)I"⟩
abbrev b_U_bind : ByteArray := prog_7_method_23_code
def y_U_shut : MethodName := ⟨"XmppPairModel", "shut", "(I)V"⟩
abbrev b_U_shut : ByteArray := prog_7_method_22_code
def y_U_tell : MethodName := ⟨"XmppPairModel", "tell", "(II)V"⟩
abbrev b_U_tell : ByteArray := prog_7_method_21_code
def y_U_marked : MethodName := ⟨"XmppPairModel", "marked", "(III)Z"⟩
abbrev b_U_marked : ByteArray := prog_7_method_7_code
def y_U_send : MethodName := ⟨"XmppPairModel", "send", "(IIIIII)V"⟩
abbrev b_U_send : ByteArray := prog_7_method_16_code
def y_U_hold : MethodName := ⟨"XmppPairModel", "hold", "(IIIIII)V"⟩
abbrev b_U_hold : ByteArray := prog_7_method_15_code
def y_U_putAll : MethodName := ⟨"XmppPairModel", "putAll", "(IIIII)V"⟩
abbrev b_U_putAll : ByteArray := prog_7_method_11_code
def y_U_put : MethodName := ⟨"XmppPairModel", "put", "(IIIII)V"⟩
abbrev b_U_put : ByteArray := prog_7_method_10_code
def y_U_arrive : MethodName := ⟨"XmppPairModel", "arrive", "(IIIIII)V"⟩
abbrev b_U_arrive : ByteArray := prog_7_method_14_code
def y_U_route : MethodName := ⟨"XmppPairModel", "route", "(IIIII)I"⟩
abbrev b_U_route : ByteArray := prog_7_method_12_code
def y_U_mark : MethodName := ⟨"XmppPairModel", "mark", "(III)V"⟩
abbrev b_U_mark : ByteArray := prog_7_method_8_code
def y_U_unmark : MethodName := ⟨"XmppPairModel", "unmark", "(III)V"⟩
abbrev b_U_unmark : ByteArray := prog_7_method_9_code
def y_U_end : MethodName := ⟨"XmppPairModel", "end", "(IIII)V"⟩
abbrev b_U_end : ByteArray := prog_7_method_13_code
def y_U_here : MethodName := ⟨"XmppPairModel", "here", "(II)I"⟩
abbrev b_U_here : ByteArray := prog_7_method_25_code
def y_U_welcome : MethodName := ⟨"XmppPairModel", "welcome", "(I)V"⟩
abbrev b_U_welcome : ByteArray := prog_7_method_24_code
def y_U_gone : MethodName := ⟨"XmppPairModel", "gone", "(I)I"⟩
abbrev b_U_gone : ByteArray := prog_7_method_26_code
def y_U_close : MethodName := ⟨"XmppPairModel", "close", "(I)I"⟩
abbrev b_U_close : ByteArray := prog_7_method_27_code
def y_U_message : MethodName := ⟨"XmppPairModel", "message", "(IIII)I"⟩
abbrev b_U_message : ByteArray := prog_7_method_28_code
def y_U_subscribe : MethodName := ⟨"XmppPairModel", "subscribe", "(III)I"⟩
abbrev b_U_subscribe : ByteArray := prog_7_method_30_code
def y_U_show : MethodName := ⟨"XmppPairModel", "show", "(III)V"⟩
abbrev b_U_show : ByteArray := prog_7_method_29_code
def y_U_link : MethodName := ⟨"XmppPairModel", "link", "(Z)I"⟩
abbrev b_U_link : ByteArray := prog_7_method_31_code
def y_U_take : MethodName := ⟨"XmppPairModel", "take", "(I)I"⟩
abbrev b_U_take : ByteArray := prog_7_method_32_code
def y_U_taken : MethodName := ⟨"XmppPairModel", "taken", "(I)I"⟩
abbrev b_U_taken : ByteArray := prog_7_method_33_code
def y_U_roster : MethodName := ⟨"XmppPairModel", "roster", "(II)I"⟩
abbrev b_U_roster : ByteArray := prog_7_method_34_code
def y_U_connection : MethodName := ⟨"XmppPairModel", "connection", "(II)I"⟩
abbrev b_U_connection : ByteArray := prog_7_method_35_code
def y_U_count : MethodName := ⟨"XmppPairModel", "count", "(I)I"⟩
abbrev b_U_count : ByteArray := prog_7_method_36_code
def y_L_register : MethodName := ⟨"XmppPairLaw", "register", "(LXmppPair;II[J)I"⟩
abbrev b_L_register : ByteArray := method_3_code
def y_L_connect : MethodName := ⟨"XmppPairLaw", "connect", "(LXmppPair;I[J)I"⟩
abbrev b_L_connect : ByteArray := method_4_code
def y_L_login : MethodName := ⟨"XmppPairLaw", "login", "(LXmppPair;II[J)I"⟩
abbrev b_L_login : ByteArray := method_5_code
def y_L_prove : MethodName := ⟨"XmppPairLaw", "prove", "(LXmppPair;II[J)I"⟩
abbrev b_L_prove : ByteArray := method_6_code
def y_L_bind : MethodName := ⟨"XmppPairLaw", "bind", "(LXmppPair;II[J)I"⟩
abbrev b_L_bind : ByteArray := method_7_code
def y_L_here : MethodName := ⟨"XmppPairLaw", "here", "(LXmppPair;II[J)I"⟩
abbrev b_L_here : ByteArray := method_8_code
def y_L_gone : MethodName := ⟨"XmppPairLaw", "gone", "(LXmppPair;I[J)I"⟩
abbrev b_L_gone : ByteArray := method_9_code
def y_L_close : MethodName := ⟨"XmppPairLaw", "close", "(LXmppPair;I[J)I"⟩
abbrev b_L_close : ByteArray := method_10_code
def y_L_message : MethodName := ⟨"XmppPairLaw", "message", "(LXmppPair;IIII[J)I"⟩
abbrev b_L_message : ByteArray := method_11_code
def y_L_subscribe : MethodName := ⟨"XmppPairLaw", "subscribe", "(LXmppPair;III[J)I"⟩
abbrev b_L_subscribe : ByteArray := method_12_code
def y_L_take : MethodName := ⟨"XmppPairLaw", "take", "(LXmppPair;I[J)I"⟩
abbrev b_L_take : ByteArray := method_13_code
def y_L_taken : MethodName := ⟨"XmppPairLaw", "taken", "(LXmppPair;I[J)I"⟩
abbrev b_L_taken : ByteArray := method_14_code
def y_L_roster : MethodName := ⟨"XmppPairLaw", "roster", "(LXmppPair;II[J)I"⟩
abbrev b_L_roster : ByteArray := method_15_code
def y_L_connection : MethodName := ⟨"XmppPairLaw", "connection", "(LXmppPair;II[J)I"⟩
abbrev b_L_connection : ByteArray := method_16_code
def y_L_count : MethodName := ⟨"XmppPairLaw", "count", "(LXmppPair;I[J)I"⟩
abbrev b_L_count : ByteArray := method_17_code
abbrev vwCl : List vw_C := [(R_A, F_A, 4), (R_C, F_C, 7), (R_Z, F_Z, 6), (R_Q, F_Q, 3), (R_X, F_X, 6), (R_U, F_U, 34)]
/-- the words that every method here gets: those of the tables that a callee may be handed -/
def xw_ws : List Cond := lw_tbl.filter goodWord
theorem xw_t {w : Cond} (k : Nat) (h : tables_1[k]? = some w) (hg : goodWord w = true) : w ∈ xw_ws := List.mem_filter.mpr ⟨List.mem_append_right _ (List.mem_of_getElem? h), hg⟩
theorem xw_p {w : Cond} (k : Nat) (h : (k2_sels lw_privs)[k]? = some w) (hg : goodWord w = true) : w ∈ xw_ws := List.mem_filter.mpr ⟨List.mem_append_left _ (List.mem_of_getElem? h), hg⟩
theorem xw_good {c : Cond} (h : c ∈ xw_ws) : GoodIn xw_ws (c :: xw_ws) := fun w hw => by
  rcases List.mem_cons.mp hw with rfl | hw
  · exact ⟨h, good_of_word (List.mem_filter.mp h).2⟩
  · exact ⟨hw, good_of_word (List.mem_filter.mp hw).2⟩
theorem xw_goodV {c : Cond} {own C : String} {idx : Nat} {y : MethodName} (h : c ∈ xw_ws) (h1 : Cond.methodLink own idx y ∈ xw_ws) (h2 : Cond.instanceMethod y ∈ xw_ws) (h3 : Cond.selects C y y ∈ xw_ws) (h4 : Cond.initialized C ∈ xw_ws) : GoodIn xw_ws (wsV own idx C y (c :: xw_ws)) := fun w hw => by
  rcases List.mem_append.mp hw with hw | hw
  · rcases List.mem_cons.mp hw with rfl | hw
    · exact ⟨h1, good_of_word (List.mem_filter.mp h1).2⟩
    · rcases List.mem_cons.mp hw with rfl | hw
      · exact ⟨h2, good_of_word (List.mem_filter.mp h2).2⟩
      · rcases List.mem_cons.mp hw with rfl | hw
        · exact ⟨h3, good_of_word (List.mem_filter.mp h3).2⟩
        · rcases List.mem_cons.mp hw with rfl | hw
          · exact ⟨h4, good_of_word (List.mem_filter.mp h4).2⟩
          · cases hw
  · exact xw_good h w hw
theorem xw_goodS {c : Cond} {own : String} {idx : Nat} {y : MethodName} (h : c ∈ xw_ws) (h1 : Cond.methodLink own idx y ∈ xw_ws) (h2 : Cond.static y ∈ xw_ws) (h4 : Cond.initialized own ∈ xw_ws) : GoodIn xw_ws (wsS own idx y (c :: xw_ws)) := fun w hw => by
  rcases List.mem_append.mp hw with hw | hw
  · rcases List.mem_cons.mp hw with rfl | hw
    · exact ⟨h1, good_of_word (List.mem_filter.mp h1).2⟩
    · rcases List.mem_cons.mp hw with rfl | hw
      · exact ⟨h2, good_of_word (List.mem_filter.mp h2).2⟩
      · rcases List.mem_cons.mp hw with rfl | hw
        · exact ⟨h4, good_of_word (List.mem_filter.mp h4).2⟩
        · cases hw
  · exact xw_good h w hw
theorem ii_L : Cond.initialized "XmppPairLaw" ∈ xw_ws := xw_t 0 rfl rfl
theorem ii_X : Cond.initialized "XmppPair" ∈ xw_ws := xw_t 1 rfl rfl
theorem ii_Z : Cond.initialized "XmppPair$Stanza" ∈ xw_ws := xw_t 2 rfl rfl
theorem ii_A : Cond.initialized "XmppPair$Account" ∈ xw_ws := xw_t 3 rfl rfl
theorem ii_Q : Cond.initialized "XmppPair$StanzaQueue" ∈ xw_ws := xw_t 4 rfl rfl
theorem ii_C : Cond.initialized "XmppPair$Connection" ∈ xw_ws := xw_t 5 rfl rfl
theorem ii_U : Cond.initialized "XmppPairModel" ∈ xw_ws := xw_t 6 rfl rfl
theorem cl_L_8 : Cond.classLink "XmppPairLaw" 8 "XmppPair" ∈ xw_ws := xw_t 14 rfl rfl
theorem is_X : Cond.instantiable "XmppPair" 6 ∈ xw_ws := xw_t 15 rfl rfl
theorem ml_L_66 : Cond.methodLink "XmppPairLaw" 66 y_X_init ∈ xw_ws := xw_t 16 rfl rfl
theorem im_X_init : Cond.instanceMethod y_X_init ∈ xw_ws := xw_t 17 rfl rfl
theorem cd_X_init : Cond.code y_X_init b_X_init 3 none ∈ xw_ws := xw_t 18 rfl rfl
theorem ml_X_1 : Cond.methodLink "XmppPair" 1 objectInit ∈ xw_ws := xw_t 19 rfl rfl
theorem im_obj : Cond.instanceMethod objectInit ∈ xw_ws := xw_t 20 rfl rfl
theorem cd_obj : Cond.code objectInit ⟨#[0xb1]⟩ 1 none ∈ xw_ws := xw_t 21 rfl rfl
theorem cl_X_7 : Cond.classLink "XmppPair" 7 "XmppPair$Stanza" ∈ xw_ws := xw_t 22 rfl rfl
theorem is_Z : Cond.instantiable "XmppPair$Stanza" 6 ∈ xw_ws := xw_t 23 rfl rfl
theorem ml_X_11 : Cond.methodLink "XmppPair" 11 y_Z_init ∈ xw_ws := xw_t 24 rfl rfl
theorem im_Z_init : Cond.instanceMethod y_Z_init ∈ xw_ws := xw_t 25 rfl rfl
theorem cd_Z_init : Cond.code y_Z_init b_Z_init 7 none ∈ xw_ws := xw_t 26 rfl rfl
theorem ml_Z_1 : Cond.methodLink "XmppPair$Stanza" 1 objectInit ∈ xw_ws := xw_t 27 rfl rfl
theorem lk_Z_7 : Cond.fieldLink "XmppPair$Stanza" 7 "XmppPair$Stanza" "kind" "I" ∈ xw_ws := xw_t 28 rfl rfl
theorem lk_X_148 : Cond.fieldLink "XmppPair" 148 "XmppPair$Stanza" "kind" "I" ∈ xw_ws := xw_t 29 rfl rfl
theorem lk_Z_13 : Cond.fieldLink "XmppPair$Stanza" 13 "XmppPair$Stanza" "from" "I" ∈ xw_ws := xw_t 30 rfl rfl
theorem lk_X_151 : Cond.fieldLink "XmppPair" 151 "XmppPair$Stanza" "from" "I" ∈ xw_ws := xw_t 31 rfl rfl
theorem lk_Z_16 : Cond.fieldLink "XmppPair$Stanza" 16 "XmppPair$Stanza" "resource" "I" ∈ xw_ws := xw_t 32 rfl rfl
theorem lk_X_154 : Cond.fieldLink "XmppPair" 154 "XmppPair$Stanza" "resource" "I" ∈ xw_ws := xw_t 33 rfl rfl
theorem lk_Z_19 : Cond.fieldLink "XmppPair$Stanza" 19 "XmppPair$Stanza" "value" "I" ∈ xw_ws := xw_t 34 rfl rfl
theorem lk_X_155 : Cond.fieldLink "XmppPair" 155 "XmppPair$Stanza" "value" "I" ∈ xw_ws := xw_t 35 rfl rfl
theorem lk_Z_22 : Cond.fieldLink "XmppPair$Stanza" 22 "XmppPair$Stanza" "to" "I" ∈ xw_ws := xw_t 36 rfl rfl
theorem lk_X_205 : Cond.fieldLink "XmppPair" 205 "XmppPair$Stanza" "to" "I" ∈ xw_ws := xw_t 37 rfl rfl
theorem lk_Z_25 : Cond.fieldLink "XmppPair$Stanza" 25 "XmppPair$Stanza" "target" "I" ∈ xw_ws := xw_t 38 rfl rfl
theorem lk_X_231 : Cond.fieldLink "XmppPair" 231 "XmppPair$Stanza" "target" "I" ∈ xw_ws := xw_t 39 rfl rfl
theorem cl_X_14 : Cond.classLink "XmppPair" 14 "XmppPair$Account" ∈ xw_ws := xw_t 53 rfl rfl
theorem ao_A : Cond.arrayOver (.object "XmppPair$Account") ∈ lw_tbl := List.mem_append_right _ (List.mem_of_getElem? (i := 54) rfl)
theorem is_A : Cond.instantiable "XmppPair$Account" 4 ∈ xw_ws := xw_t 55 rfl rfl
theorem ml_X_20 : Cond.methodLink "XmppPair" 20 y_A_init ∈ xw_ws := xw_t 56 rfl rfl
theorem im_A_init : Cond.instanceMethod y_A_init ∈ xw_ws := xw_t 57 rfl rfl
theorem cd_A_init : Cond.code y_A_init b_A_init 2 none ∈ xw_ws := xw_t 58 rfl rfl
theorem ml_A_3 : Cond.methodLink "XmppPair$Account" 3 objectInit ∈ xw_ws := xw_t 59 rfl rfl
theorem cl_A_15 : Cond.classLink "XmppPair$Account" 15 "XmppPair$StanzaQueue" ∈ xw_ws := xw_t 60 rfl rfl
theorem is_Q : Cond.instantiable "XmppPair$StanzaQueue" 3 ∈ xw_ws := xw_t 61 rfl rfl
theorem ml_A_17 : Cond.methodLink "XmppPair$Account" 17 y_Q_init ∈ xw_ws := xw_t 62 rfl rfl
theorem im_Q_init : Cond.instanceMethod y_Q_init ∈ xw_ws := xw_t 63 rfl rfl
theorem cd_Q_init : Cond.code y_Q_init b_Q_init 4 none ∈ xw_ws := xw_t 64 rfl rfl
theorem ml_Q_1 : Cond.methodLink "XmppPair$StanzaQueue" 1 objectInit ∈ xw_ws := xw_t 65 rfl rfl
theorem cl_Q_7 : Cond.classLink "XmppPair$StanzaQueue" 7 "XmppPair$Stanza" ∈ xw_ws := xw_t 66 rfl rfl
theorem ao_Z : Cond.arrayOver (.object "XmppPair$Stanza") ∈ lw_tbl := List.mem_append_right _ (List.mem_of_getElem? (i := 67) rfl)
theorem lk_Q_9 : Cond.fieldLink "XmppPair$StanzaQueue" 9 "XmppPair$StanzaQueue" "places" "[LXmppPair$Stanza;" ∈ xw_ws := xw_t 68 rfl rfl
theorem lk_Q_15 : Cond.fieldLink "XmppPair$StanzaQueue" 15 "XmppPair$StanzaQueue" "size" "I" ∈ xw_ws := xw_t 69 rfl rfl
theorem lk_X_120 : Cond.fieldLink "XmppPair" 120 "XmppPair$StanzaQueue" "size" "I" ∈ xw_ws := xw_t 70 rfl rfl
theorem lk_Q_19 : Cond.fieldLink "XmppPair$StanzaQueue" 19 "XmppPair$StanzaQueue" "lost" "I" ∈ xw_ws := xw_t 71 rfl rfl
theorem lk_X_241 : Cond.fieldLink "XmppPair" 241 "XmppPair$StanzaQueue" "lost" "I" ∈ xw_ws := xw_t 72 rfl rfl
theorem ar_int : Cond.arrayClass .int ∈ xw_ws := xw_t 80 rfl rfl
theorem lk_A_9 : Cond.fieldLink "XmppPair$Account" 9 "XmppPair$Account" "marks" "[I" ∈ xw_ws := xw_t 81 rfl rfl
theorem lk_X_161 : Cond.fieldLink "XmppPair" 161 "XmppPair$Account" "marks" "[I" ∈ xw_ws := xw_t 82 rfl rfl
theorem lk_A_20 : Cond.fieldLink "XmppPair$Account" 20 "XmppPair$Account" "kept" "LXmppPair$StanzaQueue;" ∈ xw_ws := xw_t 83 rfl rfl
theorem lk_X_172 : Cond.fieldLink "XmppPair" 172 "XmppPair$Account" "kept" "LXmppPair$StanzaQueue;" ∈ xw_ws := xw_t 84 rfl rfl
theorem lk_A_24 : Cond.fieldLink "XmppPair$Account" 24 "XmppPair$Account" "registered" "Z" ∈ xw_ws := xw_t 85 rfl rfl
theorem lk_X_59 : Cond.fieldLink "XmppPair" 59 "XmppPair$Account" "registered" "Z" ∈ xw_ws := xw_t 86 rfl rfl
theorem lk_A_28 : Cond.fieldLink "XmppPair$Account" 28 "XmppPair$Account" "password" "I" ∈ xw_ws := xw_t 87 rfl rfl
theorem lk_X_65 : Cond.fieldLink "XmppPair" 65 "XmppPair$Account" "password" "I" ∈ xw_ws := xw_t 88 rfl rfl
theorem cl_X_23 : Cond.classLink "XmppPair" 23 "XmppPair$Connection" ∈ xw_ws := xw_t 98 rfl rfl
theorem ao_C : Cond.arrayOver (.object "XmppPair$Connection") ∈ lw_tbl := List.mem_append_right _ (List.mem_of_getElem? (i := 99) rfl)
theorem is_C : Cond.instantiable "XmppPair$Connection" 7 ∈ xw_ws := xw_t 100 rfl rfl
theorem ml_X_29 : Cond.methodLink "XmppPair" 29 y_C_init ∈ xw_ws := xw_t 101 rfl rfl
theorem im_C_init : Cond.instanceMethod y_C_init ∈ xw_ws := xw_t 102 rfl rfl
theorem cd_C_init : Cond.code y_C_init b_C_init 2 none ∈ xw_ws := xw_t 103 rfl rfl
theorem ml_C_3 : Cond.methodLink "XmppPair$Connection" 3 objectInit ∈ xw_ws := xw_t 104 rfl rfl
theorem cl_C_9 : Cond.classLink "XmppPair$Connection" 9 "XmppPair$StanzaQueue" ∈ xw_ws := xw_t 105 rfl rfl
theorem ml_C_11 : Cond.methodLink "XmppPair$Connection" 11 y_Q_init ∈ xw_ws := xw_t 106 rfl rfl
theorem lk_C_14 : Cond.fieldLink "XmppPair$Connection" 14 "XmppPair$Connection" "inbox" "LXmppPair$StanzaQueue;" ∈ xw_ws := xw_t 107 rfl rfl
theorem lk_X_74 : Cond.fieldLink "XmppPair" 74 "XmppPair$Connection" "inbox" "LXmppPair$StanzaQueue;" ∈ xw_ws := xw_t 108 rfl rfl
theorem lk_C_20 : Cond.fieldLink "XmppPair$Connection" 20 "XmppPair$Connection" "stage" "I" ∈ xw_ws := xw_t 109 rfl rfl
theorem lk_X_71 : Cond.fieldLink "XmppPair" 71 "XmppPair$Connection" "stage" "I" ∈ xw_ws := xw_t 110 rfl rfl
theorem lk_C_24 : Cond.fieldLink "XmppPair$Connection" 24 "XmppPair$Connection" "account" "I" ∈ xw_ws := xw_t 111 rfl rfl
theorem lk_X_80 : Cond.fieldLink "XmppPair" 80 "XmppPair$Connection" "account" "I" ∈ xw_ws := xw_t 112 rfl rfl
theorem lk_C_27 : Cond.fieldLink "XmppPair$Connection" 27 "XmppPair$Connection" "resource" "I" ∈ xw_ws := xw_t 113 rfl rfl
theorem lk_X_101 : Cond.fieldLink "XmppPair" 101 "XmppPair$Connection" "resource" "I" ∈ xw_ws := xw_t 114 rfl rfl
theorem lk_C_30 : Cond.fieldLink "XmppPair$Connection" 30 "XmppPair$Connection" "priority" "I" ∈ xw_ws := xw_t 115 rfl rfl
theorem lk_X_107 : Cond.fieldLink "XmppPair" 107 "XmppPair$Connection" "priority" "I" ∈ xw_ws := xw_t 116 rfl rfl
theorem lk_C_33 : Cond.fieldLink "XmppPair$Connection" 33 "XmppPair$Connection" "challenge" "I" ∈ xw_ws := xw_t 117 rfl rfl
theorem lk_X_83 : Cond.fieldLink "XmppPair" 83 "XmppPair$Connection" "challenge" "I" ∈ xw_ws := xw_t 118 rfl rfl
theorem lk_C_36 : Cond.fieldLink "XmppPair$Connection" 36 "XmppPair$Connection" "available" "Z" ∈ xw_ws := xw_t 119 rfl rfl
theorem lk_X_104 : Cond.fieldLink "XmppPair" 104 "XmppPair$Connection" "available" "Z" ∈ xw_ws := xw_t 120 rfl rfl
theorem cl_X_30 : Cond.classLink "XmppPair" 30 "XmppPair$StanzaQueue" ∈ xw_ws := xw_t 136 rfl rfl
theorem ml_X_32 : Cond.methodLink "XmppPair" 32 y_Q_init ∈ xw_ws := xw_t 137 rfl rfl
theorem lk_X_16 : Cond.fieldLink "XmppPair" 16 "XmppPair" "accounts" "[LXmppPair$Account;" ∈ xw_ws := xw_t 138 rfl rfl
theorem lk_X_25 : Cond.fieldLink "XmppPair" 25 "XmppPair" "connections" "[LXmppPair$Connection;" ∈ xw_ws := xw_t 139 rfl rfl
theorem lk_X_35 : Cond.fieldLink "XmppPair" 35 "XmppPair" "waiting" "LXmppPair$StanzaQueue;" ∈ xw_ws := xw_t 140 rfl rfl
theorem lk_X_39 : Cond.fieldLink "XmppPair" 39 "XmppPair" "linkUp" "Z" ∈ xw_ws := xw_t 141 rfl rfl
theorem lk_X_43 : Cond.fieldLink "XmppPair" 43 "XmppPair" "nextChallenge" "I" ∈ xw_ws := xw_t 142 rfl rfl
theorem lk_X_47 : Cond.fieldLink "XmppPair" 47 "XmppPair" "lastTaken" "LXmppPair$Stanza;" ∈ xw_ws := xw_t 143 rfl rfl
theorem ml_L_110 : Cond.methodLink "XmppPairLaw" 110 y_X_link ∈ xw_ws := xw_t 157 rfl rfl
theorem im_X_link : Cond.instanceMethod y_X_link ∈ xw_ws := xw_t 158 rfl rfl
theorem sl_X_link : Cond.selects "XmppPair" y_X_link y_X_link ∈ xw_ws := xw_t 159 rfl rfl
theorem cd_X_link : Cond.code y_X_link b_X_link 4 (some .int) ∈ xw_ws := xw_t 160 rfl rfl
theorem ml_X_138 : Cond.methodLink "XmppPair" 138 y_Q_removeFirst ∈ xw_ws := xw_t 161 rfl rfl
theorem im_Q_removeFirst : Cond.instanceMethod y_Q_removeFirst ∈ xw_ws := xw_t 162 rfl rfl
theorem sl_Q_removeFirst : Cond.selects "XmppPair$StanzaQueue" y_Q_removeFirst y_Q_removeFirst ∈ xw_ws := xw_t 163 rfl rfl
theorem cd_Q_removeFirst : Cond.code y_Q_removeFirst b_Q_removeFirst 3 (some (.object "XmppPair$Stanza")) ∈ xw_ws := xw_t 164 rfl rfl
theorem ml_X_142 : Cond.methodLink "XmppPair" 142 y_X_arrive ∈ xw_ws := xw_t 165 rfl rfl
theorem im_X_arrive : Cond.instanceMethod y_X_arrive ∈ xw_ws := xw_t 167 rfl rfl
theorem cd_X_arrive : Cond.code y_X_arrive b_X_arrive 2 none ∈ xw_ws := xw_t 168 rfl rfl
theorem ml_X_218 : Cond.methodLink "XmppPair" 218 y_X_messageArrives ∈ xw_ws := xw_t 169 rfl rfl
theorem im_X_messageArrives : Cond.instanceMethod y_X_messageArrives ∈ xw_ws := xw_t 171 rfl rfl
theorem cd_X_messageArrives : Cond.code y_X_messageArrives b_X_messageArrives 5 none ∈ xw_ws := xw_t 172 rfl rfl
theorem ml_X_93 : Cond.methodLink "XmppPair" 93 y_X_boundWith ∈ xw_ws := xw_t 173 rfl rfl
theorem im_X_boundWith : Cond.instanceMethod y_X_boundWith ∈ xw_ws := xw_t 175 rfl rfl
theorem cd_X_boundWith : Cond.code y_X_boundWith b_X_boundWith 7 (some (.object "XmppPair$Connection")) ∈ xw_ws := xw_t 176 rfl rfl
theorem ml_X_195 : Cond.methodLink "XmppPair" 195 y_Q_add ∈ xw_ws := xw_t 177 rfl rfl
theorem im_Q_add : Cond.instanceMethod y_Q_add ∈ xw_ws := xw_t 178 rfl rfl
theorem sl_Q_add : Cond.selects "XmppPair$StanzaQueue" y_Q_add y_Q_add ∈ xw_ws := xw_t 179 rfl rfl
theorem cd_Q_add : Cond.code y_Q_add b_Q_add 2 none ∈ xw_ws := xw_t 180 rfl rfl
theorem ml_X_234 : Cond.methodLink "XmppPair" 234 y_X_greatestPriority ∈ xw_ws := xw_t 181 rfl rfl
theorem im_X_greatestPriority : Cond.instanceMethod y_X_greatestPriority ∈ xw_ws := xw_t 183 rfl rfl
theorem cd_X_greatestPriority : Cond.code y_X_greatestPriority b_X_greatestPriority 7 (some .int) ∈ xw_ws := xw_t 184 rfl rfl
theorem ml_X_185 : Cond.methodLink "XmppPair" 185 y_C_isAvailableFor ∈ xw_ws := xw_t 185 rfl rfl
theorem im_C_isAvailableFor : Cond.instanceMethod y_C_isAvailableFor ∈ xw_ws := xw_t 186 rfl rfl
theorem sl_C_isAvailableFor : Cond.selects "XmppPair$Connection" y_C_isAvailableFor y_C_isAvailableFor ∈ xw_ws := xw_t 187 rfl rfl
theorem cd_C_isAvailableFor : Cond.code y_C_isAvailableFor b_C_isAvailableFor 2 (some .boolean) ∈ xw_ws := xw_t 188 rfl rfl
theorem ml_X_238 : Cond.methodLink "XmppPair" 238 y_X_giveToPriority ∈ xw_ws := xw_t 189 rfl rfl
theorem im_X_giveToPriority : Cond.instanceMethod y_X_giveToPriority ∈ xw_ws := xw_t 191 rfl rfl
theorem cd_X_giveToPriority : Cond.code y_X_giveToPriority b_X_giveToPriority 7 none ∈ xw_ws := xw_t 192 rfl rfl
theorem ml_X_208 : Cond.methodLink "XmppPair" 208 y_Q_isFull ∈ xw_ws := xw_t 193 rfl rfl
theorem im_Q_isFull : Cond.instanceMethod y_Q_isFull ∈ xw_ws := xw_t 194 rfl rfl
theorem sl_Q_isFull : Cond.selects "XmppPair$StanzaQueue" y_Q_isFull y_Q_isFull ∈ xw_ws := xw_t 195 rfl rfl
theorem cd_Q_isFull : Cond.code y_Q_isFull b_Q_isFull 1 (some .boolean) ∈ xw_ws := xw_t 196 rfl rfl
theorem ml_X_212 : Cond.methodLink "XmppPair" 212 y_X_returnError ∈ xw_ws := xw_t 197 rfl rfl
theorem im_X_returnError : Cond.instanceMethod y_X_returnError ∈ xw_ws := xw_t 199 rfl rfl
theorem cd_X_returnError : Cond.code y_X_returnError b_X_returnError 2 none ∈ xw_ws := xw_t 200 rfl rfl
theorem ml_X_215 : Cond.methodLink "XmppPair" 215 y_X_giveToAvailable ∈ xw_ws := xw_t 201 rfl rfl
theorem im_X_giveToAvailable : Cond.instanceMethod y_X_giveToAvailable ∈ xw_ws := xw_t 203 rfl rfl
theorem cd_X_giveToAvailable : Cond.code y_X_giveToAvailable b_X_giveToAvailable 6 none ∈ xw_ws := xw_t 204 rfl rfl
theorem ml_X_221 : Cond.methodLink "XmppPair" 221 y_X_askArrives ∈ xw_ws := xw_t 205 rfl rfl
theorem im_X_askArrives : Cond.instanceMethod y_X_askArrives ∈ xw_ws := xw_t 207 rfl rfl
theorem cd_X_askArrives : Cond.code y_X_askArrives b_X_askArrives 3 none ∈ xw_ws := xw_t 208 rfl rfl
theorem ml_X_126 : Cond.methodLink "XmppPair" 126 y_A_hasAny ∈ xw_ws := xw_t 209 rfl rfl
theorem im_A_hasAny : Cond.instanceMethod y_A_hasAny ∈ xw_ws := xw_t 210 rfl rfl
theorem sl_A_hasAny : Cond.selects "XmppPair$Account" y_A_hasAny y_A_hasAny ∈ xw_ws := xw_t 211 rfl rfl
theorem cd_A_hasAny : Cond.code y_A_hasAny b_A_hasAny 3 (some .boolean) ∈ xw_ws := xw_t 212 rfl rfl
theorem ml_X_224 : Cond.methodLink "XmppPair" 224 y_X_grantArrives ∈ xw_ws := xw_t 213 rfl rfl
theorem im_X_grantArrives : Cond.instanceMethod y_X_grantArrives ∈ xw_ws := xw_t 215 rfl rfl
theorem cd_X_grantArrives : Cond.code y_X_grantArrives b_X_grantArrives 3 none ∈ xw_ws := xw_t 216 rfl rfl
theorem ml_X_198 : Cond.methodLink "XmppPair" 198 y_A_addMark ∈ xw_ws := xw_t 217 rfl rfl
theorem im_A_addMark : Cond.instanceMethod y_A_addMark ∈ xw_ws := xw_t 218 rfl rfl
theorem sl_A_addMark : Cond.selects "XmppPair$Account" y_A_addMark y_A_addMark ∈ xw_ws := xw_t 219 rfl rfl
theorem cd_A_addMark : Cond.code y_A_addMark b_A_addMark 3 none ∈ xw_ws := xw_t 220 rfl rfl
theorem ml_X_202 : Cond.methodLink "XmppPair" 202 y_A_dropMarks ∈ xw_ws := xw_t 221 rfl rfl
theorem im_A_dropMarks : Cond.instanceMethod y_A_dropMarks ∈ xw_ws := xw_t 222 rfl rfl
theorem sl_A_dropMarks : Cond.selects "XmppPair$Account" y_A_dropMarks y_A_dropMarks ∈ xw_ws := xw_t 223 rfl rfl
theorem cd_A_dropMarks : Cond.code y_A_dropMarks b_A_dropMarks 3 none ∈ xw_ws := xw_t 224 rfl rfl
theorem ml_X_227 : Cond.methodLink "XmppPair" 227 y_X_endingArrives ∈ xw_ws := xw_t 225 rfl rfl
theorem im_X_endingArrives : Cond.instanceMethod y_X_endingArrives ∈ xw_ws := xw_t 227 rfl rfl
theorem cd_X_endingArrives : Cond.code y_X_endingArrives b_X_endingArrives 4 none ∈ xw_ws := xw_t 228 rfl rfl
theorem ml_L_70 : Cond.methodLink "XmppPairLaw" 70 y_L_register ∈ xw_ws := xw_t 229 rfl rfl
theorem sm_L_register : Cond.static y_L_register ∈ xw_ws := xw_t 230 rfl rfl
theorem cw_L_register : Cond.codeWith y_L_register b_L_register 5 (some .int) [(0, 10, 13, 13), (0, 10, 17, 15)] ∈ xw_ws := xw_t 231 rfl rfl
theorem cl_L_13 : Cond.classLink "XmppPairLaw" 13 "java/lang/IllegalArgumentException" ∈ xw_ws := xw_t 232 rfl rfl
theorem cl_L_15 : Cond.classLink "XmppPairLaw" 15 "java/lang/IllegalStateException" ∈ xw_ws := xw_t 233 rfl rfl
theorem ml_L_7 : Cond.methodLink "XmppPairLaw" 7 y_X_register ∈ xw_ws := xw_t 234 rfl rfl
theorem im_X_register : Cond.instanceMethod y_X_register ∈ xw_ws := xw_t 235 rfl rfl
theorem sl_X_register : Cond.selects "XmppPair" y_X_register y_X_register ∈ xw_ws := xw_t 236 rfl rfl
theorem cd_X_register : Cond.code y_X_register b_X_register 4 (some .int) ∈ xw_ws := xw_t 237 rfl rfl
theorem ml_X_51 : Cond.methodLink "XmppPair" 51 y_X_isAccount ∈ xw_ws := xw_t 238 rfl rfl
theorem sm_X_isAccount : Cond.static y_X_isAccount ∈ xw_ws := xw_t 239 rfl rfl
theorem cd_X_isAccount : Cond.code y_X_isAccount b_X_isAccount 1 (some .boolean) ∈ xw_ws := xw_t 240 rfl rfl
theorem ml_X_55 : Cond.methodLink "XmppPair" 55 y_X_checkArgument ∈ xw_ws := xw_t 241 rfl rfl
theorem sm_X_checkArgument : Cond.static y_X_checkArgument ∈ xw_ws := xw_t 242 rfl rfl
theorem cd_X_checkArgument : Cond.code y_X_checkArgument b_X_checkArgument 1 none ∈ xw_ws := xw_t 243 rfl rfl
theorem cl_X_158 : Cond.classLink "XmppPair" 158 "java/lang/IllegalArgumentException" ∈ xw_ws := xw_t 244 rfl rfl
theorem ml_X_62 : Cond.methodLink "XmppPair" 62 y_X_checkState ∈ xw_ws := xw_t 308 rfl rfl
theorem sm_X_checkState : Cond.static y_X_checkState ∈ xw_ws := xw_t 309 rfl rfl
theorem cd_X_checkState : Cond.code y_X_checkState b_X_checkState 1 none ∈ xw_ws := xw_t 310 rfl rfl
theorem cl_X_175 : Cond.classLink "XmppPair" 175 "java/lang/IllegalStateException" ∈ xw_ws := xw_t 311 rfl rfl
theorem ml_L_80 : Cond.methodLink "XmppPairLaw" 80 y_L_connect ∈ xw_ws := xw_t 326 rfl rfl
theorem sm_L_connect : Cond.static y_L_connect ∈ xw_ws := xw_t 327 rfl rfl
theorem cw_L_connect : Cond.codeWith y_L_connect b_L_connect 4 (some .int) [(0, 9, 12, 13), (0, 9, 15, 15)] ∈ xw_ws := xw_t 328 rfl rfl
theorem ml_L_17 : Cond.methodLink "XmppPairLaw" 17 y_X_connect ∈ xw_ws := xw_t 329 rfl rfl
theorem im_X_connect : Cond.instanceMethod y_X_connect ∈ xw_ws := xw_t 330 rfl rfl
theorem sl_X_connect : Cond.selects "XmppPair" y_X_connect y_X_connect ∈ xw_ws := xw_t 331 rfl rfl
theorem cd_X_connect : Cond.code y_X_connect b_X_connect 3 (some .int) ∈ xw_ws := xw_t 332 rfl rfl
theorem ml_X_68 : Cond.methodLink "XmppPair" 68 y_X_isConnection ∈ xw_ws := xw_t 333 rfl rfl
theorem sm_X_isConnection : Cond.static y_X_isConnection ∈ xw_ws := xw_t 334 rfl rfl
theorem cd_X_isConnection : Cond.code y_X_isConnection b_X_isConnection 1 (some .boolean) ∈ xw_ws := xw_t 335 rfl rfl
theorem ml_X_77 : Cond.methodLink "XmppPair" 77 y_Q_clear ∈ xw_ws := xw_t 336 rfl rfl
theorem im_Q_clear : Cond.instanceMethod y_Q_clear ∈ xw_ws := xw_t 337 rfl rfl
theorem sl_Q_clear : Cond.selects "XmppPair$StanzaQueue" y_Q_clear y_Q_clear ∈ xw_ws := xw_t 338 rfl rfl
theorem cd_Q_clear : Cond.code y_Q_clear b_Q_clear 1 none ∈ xw_ws := xw_t 339 rfl rfl
theorem ml_L_84 : Cond.methodLink "XmppPairLaw" 84 y_L_login ∈ xw_ws := xw_t 340 rfl rfl
theorem sm_L_login : Cond.static y_L_login ∈ xw_ws := xw_t 341 rfl rfl
theorem cw_L_login : Cond.codeWith y_L_login b_L_login 5 (some .int) [(0, 10, 13, 13), (0, 10, 17, 15)] ∈ xw_ws := xw_t 342 rfl rfl
theorem ml_L_21 : Cond.methodLink "XmppPairLaw" 21 y_X_login ∈ xw_ws := xw_t 343 rfl rfl
theorem im_X_login : Cond.instanceMethod y_X_login ∈ xw_ws := xw_t 344 rfl rfl
theorem sl_X_login : Cond.selects "XmppPair" y_X_login y_X_login ∈ xw_ws := xw_t 345 rfl rfl
theorem cd_X_login : Cond.code y_X_login b_X_login 4 (some .int) ∈ xw_ws := xw_t 346 rfl rfl
theorem ml_L_87 : Cond.methodLink "XmppPairLaw" 87 y_L_prove ∈ xw_ws := xw_t 347 rfl rfl
theorem sm_L_prove : Cond.static y_L_prove ∈ xw_ws := xw_t 348 rfl rfl
theorem cw_L_prove : Cond.codeWith y_L_prove b_L_prove 5 (some .int) [(0, 10, 13, 13), (0, 10, 17, 15), (0, 10, 21, 27)] ∈ xw_ws := xw_t 349 rfl rfl
theorem cl_L_27 : Cond.classLink "XmppPairLaw" 27 "java/lang/UnsupportedOperationException" ∈ xw_ws := xw_t 350 rfl rfl
theorem ml_L_24 : Cond.methodLink "XmppPairLaw" 24 y_X_prove ∈ xw_ws := xw_t 351 rfl rfl
theorem im_X_prove : Cond.instanceMethod y_X_prove ∈ xw_ws := xw_t 352 rfl rfl
theorem sl_X_prove : Cond.selects "XmppPair" y_X_prove y_X_prove ∈ xw_ws := xw_t 353 rfl rfl
theorem cd_X_prove : Cond.code y_X_prove b_X_prove 4 (some .int) ∈ xw_ws := xw_t 354 rfl rfl
theorem ml_X_86 : Cond.methodLink "XmppPair" 86 y_X_isRightProof ∈ xw_ws := xw_t 355 rfl rfl
theorem im_X_isRightProof : Cond.instanceMethod y_X_isRightProof ∈ xw_ws := xw_t 357 rfl rfl
theorem cd_X_isRightProof : Cond.code y_X_isRightProof b_X_isRightProof 4 (some .boolean) ∈ xw_ws := xw_t 358 rfl rfl
theorem cl_X_90 : Cond.classLink "XmppPair" 90 "java/lang/UnsupportedOperationException" ∈ xw_ws := xw_t 359 rfl rfl
theorem ml_L_90 : Cond.methodLink "XmppPairLaw" 90 y_L_bind ∈ xw_ws := xw_t 374 rfl rfl
theorem sm_L_bind : Cond.static y_L_bind ∈ xw_ws := xw_t 375 rfl rfl
theorem cw_L_bind : Cond.codeWith y_L_bind b_L_bind 5 (some .int) [(0, 10, 13, 13), (0, 10, 17, 15)] ∈ xw_ws := xw_t 376 rfl rfl
theorem ml_L_29 : Cond.methodLink "XmppPairLaw" 29 y_X_bind ∈ xw_ws := xw_t 377 rfl rfl
theorem im_X_bind : Cond.instanceMethod y_X_bind ∈ xw_ws := xw_t 378 rfl rfl
theorem sl_X_bind : Cond.selects "XmppPair" y_X_bind y_X_bind ∈ xw_ws := xw_t 379 rfl rfl
theorem cd_X_bind : Cond.code y_X_bind b_X_bind 5 (some .int) ∈ xw_ws := xw_t 380 rfl rfl
theorem ml_X_97 : Cond.methodLink "XmppPair" 97 y_X_shut ∈ xw_ws := xw_t 381 rfl rfl
theorem im_X_shut : Cond.instanceMethod y_X_shut ∈ xw_ws := xw_t 383 rfl rfl
theorem cd_X_shut : Cond.code y_X_shut b_X_shut 2 none ∈ xw_ws := xw_t 384 rfl rfl
theorem ml_X_110 : Cond.methodLink "XmppPair" 110 y_X_sendToWatchers ∈ xw_ws := xw_t 385 rfl rfl
theorem im_X_sendToWatchers : Cond.instanceMethod y_X_sendToWatchers ∈ xw_ws := xw_t 387 rfl rfl
theorem cd_X_sendToWatchers : Cond.code y_X_sendToWatchers b_X_sendToWatchers 5 none ∈ xw_ws := xw_t 388 rfl rfl
theorem ml_X_181 : Cond.methodLink "XmppPair" 181 y_X_presenceOf ∈ xw_ws := xw_t 389 rfl rfl
theorem sm_X_presenceOf : Cond.static y_X_presenceOf ∈ xw_ws := xw_t 390 rfl rfl
theorem cd_X_presenceOf : Cond.code y_X_presenceOf b_X_presenceOf 4 (some (.object "XmppPair$Stanza")) ∈ xw_ws := xw_t 391 rfl rfl
theorem ml_X_123 : Cond.methodLink "XmppPair" 123 y_X_send ∈ xw_ws := xw_t 392 rfl rfl
theorem im_X_send : Cond.instanceMethod y_X_send ∈ xw_ws := xw_t 394 rfl rfl
theorem cd_X_send : Cond.code y_X_send b_X_send 2 none ∈ xw_ws := xw_t 395 rfl rfl
theorem ml_X_188 : Cond.methodLink "XmppPair" 188 y_X_canReach ∈ xw_ws := xw_t 396 rfl rfl
theorem im_X_canReach : Cond.instanceMethod y_X_canReach ∈ xw_ws := xw_t 398 rfl rfl
theorem cd_X_canReach : Cond.code y_X_canReach b_X_canReach 3 (some .boolean) ∈ xw_ws := xw_t 399 rfl rfl
theorem ml_X_178 : Cond.methodLink "XmppPair" 178 y_X_onOneServer ∈ xw_ws := xw_t 400 rfl rfl
set_option maxRecDepth 20000 in
theorem sm_X_onOneServer : Cond.static y_X_onOneServer ∈ xw_ws := xw_t 401 rfl rfl
set_option maxRecDepth 20000 in
theorem cd_X_onOneServer : Cond.code y_X_onOneServer b_X_onOneServer 2 (some .boolean) ∈ xw_ws := xw_t 402 rfl rfl
set_option maxRecDepth 20000 in
theorem ml_L_93 : Cond.methodLink "XmppPairLaw" 93 y_L_here ∈ xw_ws := xw_t 403 rfl rfl
set_option maxRecDepth 20000 in
theorem sm_L_here : Cond.static y_L_here ∈ xw_ws := xw_t 404 rfl rfl
set_option maxRecDepth 20000 in
theorem cw_L_here : Cond.codeWith y_L_here b_L_here 5 (some .int) [(0, 10, 13, 13), (0, 10, 17, 15)] ∈ xw_ws := xw_t 405 rfl rfl
set_option maxRecDepth 20000 in
theorem ml_L_32 : Cond.methodLink "XmppPairLaw" 32 y_X_here ∈ xw_ws := xw_t 406 rfl rfl
set_option maxRecDepth 20000 in
theorem im_X_here : Cond.instanceMethod y_X_here ∈ xw_ws := xw_t 407 rfl rfl
set_option maxRecDepth 20000 in
theorem sl_X_here : Cond.selects "XmppPair" y_X_here y_X_here ∈ xw_ws := xw_t 408 rfl rfl
set_option maxRecDepth 20000 in
theorem cd_X_here : Cond.code y_X_here b_X_here 5 (some .int) ∈ xw_ws := xw_t 409 rfl rfl
set_option maxRecDepth 20000 in
theorem ml_X_114 : Cond.methodLink "XmppPair" 114 y_X_showOthers ∈ xw_ws := xw_t 410 rfl rfl
set_option maxRecDepth 20000 in
theorem im_X_showOthers : Cond.instanceMethod y_X_showOthers ∈ xw_ws := xw_t 412 rfl rfl
set_option maxRecDepth 20000 in
theorem cd_X_showOthers : Cond.code y_X_showOthers b_X_showOthers 4 none ∈ xw_ws := xw_t 413 rfl rfl
set_option maxRecDepth 20000 in
theorem ml_X_191 : Cond.methodLink "XmppPair" 191 y_X_showConnectionsOf ∈ xw_ws := xw_t 414 rfl rfl
set_option maxRecDepth 20000 in
theorem im_X_showConnectionsOf : Cond.instanceMethod y_X_showConnectionsOf ∈ xw_ws := xw_t 416 rfl rfl
set_option maxRecDepth 20000 in
theorem cd_X_showConnectionsOf : Cond.code y_X_showConnectionsOf b_X_showConnectionsOf 7 none ∈ xw_ws := xw_t 417 rfl rfl
set_option maxRecDepth 20000 in
theorem ml_X_117 : Cond.methodLink "XmppPair" 117 y_X_handOverKept ∈ xw_ws := xw_t 418 rfl rfl
set_option maxRecDepth 20000 in
theorem im_X_handOverKept : Cond.instanceMethod y_X_handOverKept ∈ xw_ws := xw_t 420 rfl rfl
set_option maxRecDepth 20000 in
theorem cd_X_handOverKept : Cond.code y_X_handOverKept b_X_handOverKept 5 none ∈ xw_ws := xw_t 421 rfl rfl
set_option maxRecDepth 20000 in
theorem ml_L_96 : Cond.methodLink "XmppPairLaw" 96 y_L_gone ∈ xw_ws := xw_t 422 rfl rfl
set_option maxRecDepth 20000 in
theorem sm_L_gone : Cond.static y_L_gone ∈ xw_ws := xw_t 423 rfl rfl
set_option maxRecDepth 20000 in
theorem cw_L_gone : Cond.codeWith y_L_gone b_L_gone 4 (some .int) [(0, 9, 12, 13), (0, 9, 15, 15)] ∈ xw_ws := xw_t 424 rfl rfl
set_option maxRecDepth 20000 in
theorem ml_L_35 : Cond.methodLink "XmppPairLaw" 35 y_X_gone ∈ xw_ws := xw_t 425 rfl rfl
set_option maxRecDepth 20000 in
theorem im_X_gone : Cond.instanceMethod y_X_gone ∈ xw_ws := xw_t 426 rfl rfl
set_option maxRecDepth 20000 in
theorem sl_X_gone : Cond.selects "XmppPair" y_X_gone y_X_gone ∈ xw_ws := xw_t 427 rfl rfl
set_option maxRecDepth 20000 in
theorem cd_X_gone : Cond.code y_X_gone b_X_gone 3 (some .int) ∈ xw_ws := xw_t 428 rfl rfl
set_option maxRecDepth 20000 in
theorem ml_L_99 : Cond.methodLink "XmppPairLaw" 99 y_L_close ∈ xw_ws := xw_t 429 rfl rfl
set_option maxRecDepth 20000 in
theorem sm_L_close : Cond.static y_L_close ∈ xw_ws := xw_t 430 rfl rfl
set_option maxRecDepth 20000 in
theorem cw_L_close : Cond.codeWith y_L_close b_L_close 4 (some .int) [(0, 9, 12, 13), (0, 9, 15, 15)] ∈ xw_ws := xw_t 431 rfl rfl
set_option maxRecDepth 20000 in
theorem ml_L_38 : Cond.methodLink "XmppPairLaw" 38 y_X_close ∈ xw_ws := xw_t 432 rfl rfl
set_option maxRecDepth 20000 in
theorem im_X_close : Cond.instanceMethod y_X_close ∈ xw_ws := xw_t 433 rfl rfl
set_option maxRecDepth 20000 in
theorem sl_X_close : Cond.selects "XmppPair" y_X_close y_X_close ∈ xw_ws := xw_t 434 rfl rfl
set_option maxRecDepth 20000 in
theorem cd_X_close : Cond.code y_X_close b_X_close 4 (some .int) ∈ xw_ws := xw_t 435 rfl rfl
set_option maxRecDepth 20000 in
theorem ml_L_102 : Cond.methodLink "XmppPairLaw" 102 y_L_message ∈ xw_ws := xw_t 436 rfl rfl
set_option maxRecDepth 20000 in
theorem sm_L_message : Cond.static y_L_message ∈ xw_ws := xw_t 437 rfl rfl
set_option maxRecDepth 20000 in
theorem cw_L_message : Cond.codeWith y_L_message b_L_message 7 (some .int) [(0, 14, 17, 13), (0, 14, 21, 15)] ∈ xw_ws := xw_t 438 rfl rfl
set_option maxRecDepth 20000 in
theorem ml_L_41 : Cond.methodLink "XmppPairLaw" 41 y_X_message ∈ xw_ws := xw_t 439 rfl rfl
set_option maxRecDepth 20000 in
theorem im_X_message : Cond.instanceMethod y_X_message ∈ xw_ws := xw_t 440 rfl rfl
set_option maxRecDepth 20000 in
theorem sl_X_message : Cond.selects "XmppPair" y_X_message y_X_message ∈ xw_ws := xw_t 441 rfl rfl
set_option maxRecDepth 20000 in
theorem cd_X_message : Cond.code y_X_message b_X_message 6 (some .int) ∈ xw_ws := xw_t 442 rfl rfl
set_option maxRecDepth 20000 in
theorem ml_L_106 : Cond.methodLink "XmppPairLaw" 106 y_L_subscribe ∈ xw_ws := xw_t 443 rfl rfl
set_option maxRecDepth 20000 in
theorem sm_L_subscribe : Cond.static y_L_subscribe ∈ xw_ws := xw_t 444 rfl rfl
set_option maxRecDepth 20000 in
theorem cw_L_subscribe : Cond.codeWith y_L_subscribe b_L_subscribe 6 (some .int) [(0, 12, 15, 13), (0, 12, 19, 15)] ∈ xw_ws := xw_t 445 rfl rfl
set_option maxRecDepth 20000 in
theorem ml_L_45 : Cond.methodLink "XmppPairLaw" 45 y_X_subscribe ∈ xw_ws := xw_t 446 rfl rfl
set_option maxRecDepth 20000 in
theorem im_X_subscribe : Cond.instanceMethod y_X_subscribe ∈ xw_ws := xw_t 447 rfl rfl
set_option maxRecDepth 20000 in
theorem sl_X_subscribe : Cond.selects "XmppPair" y_X_subscribe y_X_subscribe ∈ xw_ws := xw_t 448 rfl rfl
set_option maxRecDepth 20000 in
theorem cd_X_subscribe : Cond.code y_X_subscribe b_X_subscribe 6 (some .int) ∈ xw_ws := xw_t 449 rfl rfl
set_option maxRecDepth 20000 in
theorem ml_X_130 : Cond.methodLink "XmppPair" 130 y_X_sendPresences ∈ xw_ws := xw_t 450 rfl rfl
set_option maxRecDepth 20000 in
theorem im_X_sendPresences : Cond.instanceMethod y_X_sendPresences ∈ xw_ws := xw_t 452 rfl rfl
set_option maxRecDepth 20000 in
theorem cd_X_sendPresences : Cond.code y_X_sendPresences b_X_sendPresences 8 none ∈ xw_ws := xw_t 453 rfl rfl
set_option maxRecDepth 20000 in
theorem ml_X_134 : Cond.methodLink "XmppPair" 134 y_X_changeOwnMarks ∈ xw_ws := xw_t 454 rfl rfl
set_option maxRecDepth 20000 in
theorem sm_X_changeOwnMarks : Cond.static y_X_changeOwnMarks ∈ xw_ws := xw_t 455 rfl rfl
set_option maxRecDepth 20000 in
theorem cd_X_changeOwnMarks : Cond.code y_X_changeOwnMarks b_X_changeOwnMarks 3 none ∈ xw_ws := xw_t 456 rfl rfl
set_option maxRecDepth 20000 in
theorem ml_L_115 : Cond.methodLink "XmppPairLaw" 115 y_L_take ∈ xw_ws := xw_t 457 rfl rfl
set_option maxRecDepth 20000 in
theorem sm_L_take : Cond.static y_L_take ∈ xw_ws := xw_t 458 rfl rfl
set_option maxRecDepth 20000 in
theorem cw_L_take : Cond.codeWith y_L_take b_L_take 4 (some .int) [(0, 9, 12, 13), (0, 9, 15, 52)] ∈ xw_ws := xw_t 459 rfl rfl
set_option maxRecDepth 20000 in
theorem cl_L_52 : Cond.classLink "XmppPairLaw" 52 "java/util/NoSuchElementException" ∈ xw_ws := xw_t 460 rfl rfl
set_option maxRecDepth 20000 in
theorem ml_L_49 : Cond.methodLink "XmppPairLaw" 49 y_X_take ∈ xw_ws := xw_t 461 rfl rfl
set_option maxRecDepth 20000 in
theorem im_X_take : Cond.instanceMethod y_X_take ∈ xw_ws := xw_t 462 rfl rfl
set_option maxRecDepth 20000 in
theorem sl_X_take : Cond.selects "XmppPair" y_X_take y_X_take ∈ xw_ws := xw_t 463 rfl rfl
set_option maxRecDepth 20000 in
theorem cd_X_take : Cond.code y_X_take b_X_take 4 (some .int) ∈ xw_ws := xw_t 464 rfl rfl
set_option maxRecDepth 20000 in
theorem cl_X_145 : Cond.classLink "XmppPair" 145 "java/util/NoSuchElementException" ∈ xw_ws := xw_t 465 rfl rfl
set_option maxRecDepth 20000 in
theorem ml_L_118 : Cond.methodLink "XmppPairLaw" 118 y_L_taken ∈ xw_ws := xw_t 480 rfl rfl
set_option maxRecDepth 20000 in
theorem sm_L_taken : Cond.static y_L_taken ∈ xw_ws := xw_t 481 rfl rfl
set_option maxRecDepth 20000 in
theorem cw_L_taken : Cond.codeWith y_L_taken b_L_taken 4 (some .int) [(0, 9, 12, 52), (0, 9, 15, 13)] ∈ xw_ws := xw_t 482 rfl rfl
set_option maxRecDepth 20000 in
theorem ml_L_54 : Cond.methodLink "XmppPairLaw" 54 y_X_taken ∈ xw_ws := xw_t 483 rfl rfl
set_option maxRecDepth 20000 in
theorem im_X_taken : Cond.instanceMethod y_X_taken ∈ xw_ws := xw_t 484 rfl rfl
set_option maxRecDepth 20000 in
theorem sl_X_taken : Cond.selects "XmppPair" y_X_taken y_X_taken ∈ xw_ws := xw_t 485 rfl rfl
set_option maxRecDepth 20000 in
theorem cd_X_taken : Cond.code y_X_taken b_X_taken 3 (some .int) ∈ xw_ws := xw_t 486 rfl rfl
set_option maxRecDepth 20000 in
theorem ml_L_121 : Cond.methodLink "XmppPairLaw" 121 y_L_roster ∈ xw_ws := xw_t 487 rfl rfl
set_option maxRecDepth 20000 in
theorem sm_L_roster : Cond.static y_L_roster ∈ xw_ws := xw_t 488 rfl rfl
set_option maxRecDepth 20000 in
theorem cw_L_roster : Cond.codeWith y_L_roster b_L_roster 5 (some .int) [(0, 10, 13, 13)] ∈ xw_ws := xw_t 489 rfl rfl
set_option maxRecDepth 20000 in
theorem ml_L_57 : Cond.methodLink "XmppPairLaw" 57 y_X_roster ∈ xw_ws := xw_t 490 rfl rfl
set_option maxRecDepth 20000 in
theorem im_X_roster : Cond.instanceMethod y_X_roster ∈ xw_ws := xw_t 491 rfl rfl
set_option maxRecDepth 20000 in
theorem sl_X_roster : Cond.selects "XmppPair" y_X_roster y_X_roster ∈ xw_ws := xw_t 492 rfl rfl
set_option maxRecDepth 20000 in
theorem cd_X_roster : Cond.code y_X_roster b_X_roster 3 (some .int) ∈ xw_ws := xw_t 493 rfl rfl
set_option maxRecDepth 20000 in
theorem ml_L_124 : Cond.methodLink "XmppPairLaw" 124 y_L_connection ∈ xw_ws := xw_t 494 rfl rfl
set_option maxRecDepth 20000 in
theorem sm_L_connection : Cond.static y_L_connection ∈ xw_ws := xw_t 495 rfl rfl
set_option maxRecDepth 20000 in
theorem cw_L_connection : Cond.codeWith y_L_connection b_L_connection 5 (some .int) [(0, 10, 13, 13)] ∈ xw_ws := xw_t 496 rfl rfl
set_option maxRecDepth 20000 in
theorem ml_L_60 : Cond.methodLink "XmppPairLaw" 60 y_X_connection ∈ xw_ws := xw_t 497 rfl rfl
set_option maxRecDepth 20000 in
theorem im_X_connection : Cond.instanceMethod y_X_connection ∈ xw_ws := xw_t 498 rfl rfl
set_option maxRecDepth 20000 in
theorem sl_X_connection : Cond.selects "XmppPair" y_X_connection y_X_connection ∈ xw_ws := xw_t 499 rfl rfl
set_option maxRecDepth 20000 in
theorem cd_X_connection : Cond.code y_X_connection b_X_connection 4 (some .int) ∈ xw_ws := xw_t 500 rfl rfl
set_option maxRecDepth 20000 in
theorem ml_L_127 : Cond.methodLink "XmppPairLaw" 127 y_L_count ∈ xw_ws := xw_t 501 rfl rfl
set_option maxRecDepth 20000 in
theorem sm_L_count : Cond.static y_L_count ∈ xw_ws := xw_t 502 rfl rfl
set_option maxRecDepth 20000 in
theorem cw_L_count : Cond.codeWith y_L_count b_L_count 4 (some .int) [(0, 9, 12, 13)] ∈ xw_ws := xw_t 503 rfl rfl
set_option maxRecDepth 20000 in
theorem ml_L_63 : Cond.methodLink "XmppPairLaw" 63 y_X_count ∈ xw_ws := xw_t 504 rfl rfl
set_option maxRecDepth 20000 in
theorem im_X_count : Cond.instanceMethod y_X_count ∈ xw_ws := xw_t 505 rfl rfl
set_option maxRecDepth 20000 in
theorem sl_X_count : Cond.selects "XmppPair" y_X_count y_X_count ∈ xw_ws := xw_t 506 rfl rfl
set_option maxRecDepth 20000 in
theorem cd_X_count : Cond.code y_X_count b_X_count 2 (some .int) ∈ xw_ws := xw_t 507 rfl rfl
set_option maxRecDepth 20000 in
theorem ml_X_165 : Cond.methodLink "XmppPair" 165 y_X_keptForAll ∈ xw_ws := xw_t 508 rfl rfl
set_option maxRecDepth 20000 in
theorem im_X_keptForAll : Cond.instanceMethod y_X_keptForAll ∈ xw_ws := xw_t 510 rfl rfl
set_option maxRecDepth 20000 in
theorem cd_X_keptForAll : Cond.code y_X_keptForAll b_X_keptForAll 6 (some .int) ∈ xw_ws := xw_t 511 rfl rfl
set_option maxRecDepth 20000 in
theorem ml_X_169 : Cond.methodLink "XmppPair" 169 y_X_lostByAll ∈ xw_ws := xw_t 512 rfl rfl
set_option maxRecDepth 20000 in
theorem im_X_lostByAll : Cond.instanceMethod y_X_lostByAll ∈ xw_ws := xw_t 514 rfl rfl
set_option maxRecDepth 20000 in
theorem cd_X_lostByAll : Cond.code y_X_lostByAll b_X_lostByAll 6 (some .int) ∈ xw_ws := xw_t 515 rfl rfl
set_option maxRecDepth 20000 in
theorem cl_L_67 : Cond.classLink "XmppPairLaw" 67 "XmppPairModel" ∈ xw_ws := xw_t 516 rfl rfl
set_option maxRecDepth 20000 in
theorem is_U : Cond.instantiable "XmppPairModel" 34 ∈ xw_ws := xw_t 517 rfl rfl
set_option maxRecDepth 20000 in
theorem ml_L_69 : Cond.methodLink "XmppPairLaw" 69 y_U_init ∈ xw_ws := xw_t 518 rfl rfl
set_option maxRecDepth 20000 in
theorem im_U_init : Cond.instanceMethod y_U_init ∈ xw_ws := xw_t 519 rfl rfl
set_option maxRecDepth 20000 in
theorem cd_U_init : Cond.code y_U_init b_U_init 1 none ∈ xw_ws := xw_t 520 rfl rfl
set_option maxRecDepth 20000 in
theorem ml_U_1 : Cond.methodLink "XmppPairModel" 1 objectInit ∈ xw_ws := xw_t 521 rfl rfl
set_option maxRecDepth 20000 in
theorem lk_U_87 : Cond.fieldLink "XmppPairModel" 87 "XmppPairModel" "thrown" "I" ∈ xw_ws := xw_t 522 rfl rfl
set_option maxRecDepth 20000 in
theorem lk_U_7 : Cond.fieldLink "XmppPairModel" 7 "XmppPairModel" "registered" "[Z" ∈ xw_ws := xw_t 523 rfl rfl
set_option maxRecDepth 20000 in
theorem lk_U_13 : Cond.fieldLink "XmppPairModel" 13 "XmppPairModel" "password" "[I" ∈ xw_ws := xw_t 524 rfl rfl
set_option maxRecDepth 20000 in
theorem lk_U_17 : Cond.fieldLink "XmppPairModel" 17 "XmppPairModel" "marks" "[I" ∈ xw_ws := xw_t 525 rfl rfl
set_option maxRecDepth 20000 in
theorem lk_U_20 : Cond.fieldLink "XmppPairModel" 20 "XmppPairModel" "stage" "[I" ∈ xw_ws := xw_t 526 rfl rfl
set_option maxRecDepth 20000 in
theorem lk_U_23 : Cond.fieldLink "XmppPairModel" 23 "XmppPairModel" "account" "[I" ∈ xw_ws := xw_t 527 rfl rfl
set_option maxRecDepth 20000 in
theorem lk_U_26 : Cond.fieldLink "XmppPairModel" 26 "XmppPairModel" "resource" "[I" ∈ xw_ws := xw_t 528 rfl rfl
set_option maxRecDepth 20000 in
theorem lk_U_29 : Cond.fieldLink "XmppPairModel" 29 "XmppPairModel" "available" "[Z" ∈ xw_ws := xw_t 529 rfl rfl
set_option maxRecDepth 20000 in
theorem lk_U_32 : Cond.fieldLink "XmppPairModel" 32 "XmppPairModel" "priority" "[I" ∈ xw_ws := xw_t 530 rfl rfl
set_option maxRecDepth 20000 in
theorem lk_U_35 : Cond.fieldLink "XmppPairModel" 35 "XmppPairModel" "challenge" "[I" ∈ xw_ws := xw_t 531 rfl rfl
set_option maxRecDepth 20000 in
theorem lk_U_149 : Cond.fieldLink "XmppPairModel" 149 "XmppPairModel" "challenges" "I" ∈ xw_ws := xw_t 532 rfl rfl
set_option maxRecDepth 20000 in
theorem lk_U_38 : Cond.fieldLink "XmppPairModel" 38 "XmppPairModel" "inKind" "[I" ∈ xw_ws := xw_t 533 rfl rfl
set_option maxRecDepth 20000 in
theorem lk_U_41 : Cond.fieldLink "XmppPairModel" 41 "XmppPairModel" "inFrom" "[I" ∈ xw_ws := xw_t 534 rfl rfl
set_option maxRecDepth 20000 in
theorem lk_U_44 : Cond.fieldLink "XmppPairModel" 44 "XmppPairModel" "inResource" "[I" ∈ xw_ws := xw_t 535 rfl rfl
set_option maxRecDepth 20000 in
theorem lk_U_47 : Cond.fieldLink "XmppPairModel" 47 "XmppPairModel" "inValue" "[I" ∈ xw_ws := xw_t 536 rfl rfl
set_option maxRecDepth 20000 in
theorem lk_U_50 : Cond.fieldLink "XmppPairModel" 50 "XmppPairModel" "held" "[I" ∈ xw_ws := xw_t 537 rfl rfl
set_option maxRecDepth 20000 in
theorem lk_U_53 : Cond.fieldLink "XmppPairModel" 53 "XmppPairModel" "keptFrom" "[I" ∈ xw_ws := xw_t 538 rfl rfl
set_option maxRecDepth 20000 in
theorem lk_U_56 : Cond.fieldLink "XmppPairModel" 56 "XmppPairModel" "keptResource" "[I" ∈ xw_ws := xw_t 539 rfl rfl
set_option maxRecDepth 20000 in
theorem lk_U_59 : Cond.fieldLink "XmppPairModel" 59 "XmppPairModel" "keptBody" "[I" ∈ xw_ws := xw_t 540 rfl rfl
set_option maxRecDepth 20000 in
theorem lk_U_62 : Cond.fieldLink "XmppPairModel" 62 "XmppPairModel" "kept" "[I" ∈ xw_ws := xw_t 541 rfl rfl
set_option maxRecDepth 20000 in
theorem lk_U_65 : Cond.fieldLink "XmppPairModel" 65 "XmppPairModel" "wKind" "[I" ∈ xw_ws := xw_t 542 rfl rfl
set_option maxRecDepth 20000 in
theorem lk_U_68 : Cond.fieldLink "XmppPairModel" 68 "XmppPairModel" "wFrom" "[I" ∈ xw_ws := xw_t 543 rfl rfl
set_option maxRecDepth 20000 in
theorem lk_U_71 : Cond.fieldLink "XmppPairModel" 71 "XmppPairModel" "wTo" "[I" ∈ xw_ws := xw_t 544 rfl rfl
set_option maxRecDepth 20000 in
theorem lk_U_74 : Cond.fieldLink "XmppPairModel" 74 "XmppPairModel" "wResource" "[I" ∈ xw_ws := xw_t 545 rfl rfl
set_option maxRecDepth 20000 in
theorem lk_U_77 : Cond.fieldLink "XmppPairModel" 77 "XmppPairModel" "wValue" "[I" ∈ xw_ws := xw_t 546 rfl rfl
set_option maxRecDepth 20000 in
theorem lk_U_80 : Cond.fieldLink "XmppPairModel" 80 "XmppPairModel" "wTarget" "[I" ∈ xw_ws := xw_t 547 rfl rfl
set_option maxRecDepth 20000 in
theorem lk_U_126 : Cond.fieldLink "XmppPairModel" 126 "XmppPairModel" "waiting" "I" ∈ xw_ws := xw_t 548 rfl rfl
set_option maxRecDepth 20000 in
theorem lk_U_83 : Cond.fieldLink "XmppPairModel" 83 "XmppPairModel" "up" "Z" ∈ xw_ws := xw_t 549 rfl rfl
set_option maxRecDepth 20000 in
theorem lk_U_95 : Cond.fieldLink "XmppPairModel" 95 "XmppPairModel" "lost" "I" ∈ xw_ws := xw_t 550 rfl rfl
set_option maxRecDepth 20000 in
theorem lk_U_112 : Cond.fieldLink "XmppPairModel" 112 "XmppPairModel" "reply" "I" ∈ xw_ws := xw_t 551 rfl rfl
set_option maxRecDepth 20000 in
theorem lk_U_173 : Cond.fieldLink "XmppPairModel" 173 "XmppPairModel" "took" "Z" ∈ xw_ws := xw_t 552 rfl rfl
set_option maxRecDepth 20000 in
theorem lk_U_176 : Cond.fieldLink "XmppPairModel" 176 "XmppPairModel" "tookFrom" "I" ∈ xw_ws := xw_t 553 rfl rfl
set_option maxRecDepth 20000 in
theorem lk_U_179 : Cond.fieldLink "XmppPairModel" 179 "XmppPairModel" "tookResource" "I" ∈ xw_ws := xw_t 554 rfl rfl
set_option maxRecDepth 20000 in
theorem lk_U_182 : Cond.fieldLink "XmppPairModel" 182 "XmppPairModel" "tookValue" "I" ∈ xw_ws := xw_t 555 rfl rfl
set_option maxRecDepth 20000 in
theorem ar_boolean : Cond.arrayClass .boolean ∈ xw_ws := xw_t 625 rfl rfl
set_option maxRecDepth 20000 in
theorem ml_L_76 : Cond.methodLink "XmppPairLaw" 76 y_U_thrown ∈ xw_ws := xw_t 626 rfl rfl
set_option maxRecDepth 20000 in
theorem im_U_thrown : Cond.instanceMethod y_U_thrown ∈ xw_ws := xw_t 627 rfl rfl
set_option maxRecDepth 20000 in
theorem sl_U_thrown : Cond.selects "XmppPairModel" y_U_thrown y_U_thrown ∈ xw_ws := xw_t 628 rfl rfl
set_option maxRecDepth 20000 in
theorem cd_U_thrown : Cond.code y_U_thrown b_U_thrown 1 (some .int) ∈ xw_ws := xw_t 629 rfl rfl
set_option maxRecDepth 20000 in
theorem ml_L_75 : Cond.methodLink "XmppPairLaw" 75 y_U_register ∈ xw_ws := xw_t 630 rfl rfl
set_option maxRecDepth 20000 in
theorem im_U_register : Cond.instanceMethod y_U_register ∈ xw_ws := xw_t 631 rfl rfl
set_option maxRecDepth 20000 in
theorem sl_U_register : Cond.selects "XmppPairModel" y_U_register y_U_register ∈ xw_ws := xw_t 632 rfl rfl
set_option maxRecDepth 20000 in
theorem cd_U_register : Cond.code y_U_register b_U_register 3 (some .int) ∈ xw_ws := xw_t 633 rfl rfl
set_option maxRecDepth 20000 in
theorem ml_U_136 : Cond.methodLink "XmppPairModel" 136 y_U_isAccount ∈ xw_ws := xw_t 634 rfl rfl
set_option maxRecDepth 20000 in
theorem sm_U_isAccount : Cond.static y_U_isAccount ∈ xw_ws := xw_t 635 rfl rfl
set_option maxRecDepth 20000 in
theorem cd_U_isAccount : Cond.code y_U_isAccount b_U_isAccount 1 (some .boolean) ∈ xw_ws := xw_t 636 rfl rfl
set_option maxRecDepth 20000 in
theorem ml_U_91 : Cond.methodLink "XmppPairModel" 91 y_U_in ∈ xw_ws := xw_t 637 rfl rfl
set_option maxRecDepth 20000 in
theorem sm_U_in : Cond.static y_U_in ∈ xw_ws := xw_t 638 rfl rfl
set_option maxRecDepth 20000 in
theorem cd_U_in : Cond.code y_U_in b_U_in 3 (some .boolean) ∈ xw_ws := xw_t 639 rfl rfl
set_option maxRecDepth 20000 in
theorem ml_U_140 : Cond.methodLink "XmppPairModel" 140 y_U_raise ∈ xw_ws := xw_t 640 rfl rfl
set_option maxRecDepth 20000 in
theorem im_U_raise : Cond.instanceMethod y_U_raise ∈ xw_ws := xw_t 642 rfl rfl
set_option maxRecDepth 20000 in
theorem cd_U_raise : Cond.code y_U_raise b_U_raise 2 (some .int) ∈ xw_ws := xw_t 643 rfl rfl
set_option maxRecDepth 20000 in
theorem ml_L_83 : Cond.methodLink "XmppPairLaw" 83 y_U_connect ∈ xw_ws := xw_t 644 rfl rfl
set_option maxRecDepth 20000 in
theorem im_U_connect : Cond.instanceMethod y_U_connect ∈ xw_ws := xw_t 645 rfl rfl
set_option maxRecDepth 20000 in
theorem sl_U_connect : Cond.selects "XmppPairModel" y_U_connect y_U_connect ∈ xw_ws := xw_t 646 rfl rfl
set_option maxRecDepth 20000 in
theorem cd_U_connect : Cond.code y_U_connect b_U_connect 2 (some .int) ∈ xw_ws := xw_t 647 rfl rfl
set_option maxRecDepth 20000 in
theorem ml_U_144 : Cond.methodLink "XmppPairModel" 144 y_U_isConnection ∈ xw_ws := xw_t 648 rfl rfl
set_option maxRecDepth 20000 in
theorem sm_U_isConnection : Cond.static y_U_isConnection ∈ xw_ws := xw_t 649 rfl rfl
set_option maxRecDepth 20000 in
theorem cd_U_isConnection : Cond.code y_U_isConnection b_U_isConnection 1 (some .boolean) ∈ xw_ws := xw_t 650 rfl rfl
set_option maxRecDepth 20000 in
theorem ml_L_86 : Cond.methodLink "XmppPairLaw" 86 y_U_login ∈ xw_ws := xw_t 651 rfl rfl
set_option maxRecDepth 20000 in
theorem im_U_login : Cond.instanceMethod y_U_login ∈ xw_ws := xw_t 652 rfl rfl
set_option maxRecDepth 20000 in
theorem sl_U_login : Cond.selects "XmppPairModel" y_U_login y_U_login ∈ xw_ws := xw_t 653 rfl rfl
set_option maxRecDepth 20000 in
theorem cd_U_login : Cond.code y_U_login b_U_login 3 (some .int) ∈ xw_ws := xw_t 654 rfl rfl
set_option maxRecDepth 20000 in
theorem kl_147 : Cond.constantLong "XmppPairModel" 147 7919 ∈ xw_ws := xw_t 655 rfl rfl
set_option maxRecDepth 20000 in
theorem kl_152 : Cond.constantLong "XmppPairModel" 152 4242 ∈ xw_ws := xw_t 656 rfl rfl
set_option maxRecDepth 20000 in
theorem kl_154 : Cond.constantLong "XmppPairModel" 154 10000 ∈ xw_ws := xw_t 657 rfl rfl
set_option maxRecDepth 20000 in
theorem ml_L_89 : Cond.methodLink "XmppPairLaw" 89 y_U_prove ∈ xw_ws := xw_t 658 rfl rfl
set_option maxRecDepth 20000 in
theorem im_U_prove : Cond.instanceMethod y_U_prove ∈ xw_ws := xw_t 659 rfl rfl
set_option maxRecDepth 20000 in
theorem sl_U_prove : Cond.selects "XmppPairModel" y_U_prove y_U_prove ∈ xw_ws := xw_t 660 rfl rfl
set_option maxRecDepth 20000 in
theorem cd_U_prove : Cond.code y_U_prove b_U_prove 4 (some .int) ∈ xw_ws := xw_t 661 rfl rfl
set_option maxRecDepth 20000 in
theorem ml_L_92 : Cond.methodLink "XmppPairLaw" 92 y_U_bind ∈ xw_ws := xw_t 662 rfl rfl
set_option maxRecDepth 20000 in
theorem im_U_bind : Cond.instanceMethod y_U_bind ∈ xw_ws := xw_t 663 rfl rfl
set_option maxRecDepth 20000 in
theorem sl_U_bind : Cond.selects "XmppPairModel" y_U_bind y_U_bind ∈ xw_ws := xw_t 664 rfl rfl
set_option maxRecDepth 20000 in
theorem cd_U_bind : Cond.code y_U_bind b_U_bind 5 (some .int) ∈ xw_ws := xw_t 665 rfl rfl
set_option maxRecDepth 20000 in
theorem ml_U_163 : Cond.methodLink "XmppPairModel" 163 y_U_shut ∈ xw_ws := xw_t 666 rfl rfl
set_option maxRecDepth 20000 in
theorem im_U_shut : Cond.instanceMethod y_U_shut ∈ xw_ws := xw_t 668 rfl rfl
set_option maxRecDepth 20000 in
theorem cd_U_shut : Cond.code y_U_shut b_U_shut 2 none ∈ xw_ws := xw_t 669 rfl rfl
set_option maxRecDepth 20000 in
theorem ml_U_159 : Cond.methodLink "XmppPairModel" 159 y_U_tell ∈ xw_ws := xw_t 670 rfl rfl
set_option maxRecDepth 20000 in
theorem im_U_tell : Cond.instanceMethod y_U_tell ∈ xw_ws := xw_t 672 rfl rfl
set_option maxRecDepth 20000 in
theorem cd_U_tell : Cond.code y_U_tell b_U_tell 5 none ∈ xw_ws := xw_t 673 rfl rfl
set_option maxRecDepth 20000 in
theorem ml_U_102 : Cond.methodLink "XmppPairModel" 102 y_U_marked ∈ xw_ws := xw_t 674 rfl rfl
set_option maxRecDepth 20000 in
theorem im_U_marked : Cond.instanceMethod y_U_marked ∈ xw_ws := xw_t 676 rfl rfl
set_option maxRecDepth 20000 in
theorem cd_U_marked : Cond.code y_U_marked b_U_marked 4 (some .boolean) ∈ xw_ws := xw_t 677 rfl rfl
set_option maxRecDepth 20000 in
theorem ml_U_156 : Cond.methodLink "XmppPairModel" 156 y_U_send ∈ xw_ws := xw_t 678 rfl rfl
set_option maxRecDepth 20000 in
theorem im_U_send : Cond.instanceMethod y_U_send ∈ xw_ws := xw_t 680 rfl rfl
set_option maxRecDepth 20000 in
theorem cd_U_send : Cond.code y_U_send b_U_send 12 none ∈ xw_ws := xw_t 681 rfl rfl
set_option maxRecDepth 20000 in
theorem ml_U_129 : Cond.methodLink "XmppPairModel" 129 y_U_hold ∈ xw_ws := xw_t 682 rfl rfl
set_option maxRecDepth 20000 in
theorem im_U_hold : Cond.instanceMethod y_U_hold ∈ xw_ws := xw_t 684 rfl rfl
set_option maxRecDepth 20000 in
theorem cd_U_hold : Cond.code y_U_hold b_U_hold 7 none ∈ xw_ws := xw_t 685 rfl rfl
set_option maxRecDepth 20000 in
theorem ml_U_109 : Cond.methodLink "XmppPairModel" 109 y_U_putAll ∈ xw_ws := xw_t 686 rfl rfl
set_option maxRecDepth 20000 in
theorem im_U_putAll : Cond.instanceMethod y_U_putAll ∈ xw_ws := xw_t 688 rfl rfl
set_option maxRecDepth 20000 in
theorem cd_U_putAll : Cond.code y_U_putAll b_U_putAll 7 none ∈ xw_ws := xw_t 689 rfl rfl
set_option maxRecDepth 20000 in
theorem ml_U_98 : Cond.methodLink "XmppPairModel" 98 y_U_put ∈ xw_ws := xw_t 690 rfl rfl
set_option maxRecDepth 20000 in
theorem im_U_put : Cond.instanceMethod y_U_put ∈ xw_ws := xw_t 692 rfl rfl
set_option maxRecDepth 20000 in
theorem cd_U_put : Cond.code y_U_put b_U_put 7 none ∈ xw_ws := xw_t 693 rfl rfl
set_option maxRecDepth 20000 in
theorem ml_U_133 : Cond.methodLink "XmppPairModel" 133 y_U_arrive ∈ xw_ws := xw_t 694 rfl rfl
set_option maxRecDepth 20000 in
theorem im_U_arrive : Cond.instanceMethod y_U_arrive ∈ xw_ws := xw_t 696 rfl rfl
set_option maxRecDepth 20000 in
theorem cd_U_arrive : Cond.code y_U_arrive b_U_arrive 7 none ∈ xw_ws := xw_t 697 rfl rfl
set_option maxRecDepth 20000 in
theorem ml_U_115 : Cond.methodLink "XmppPairModel" 115 y_U_route ∈ xw_ws := xw_t 698 rfl rfl
set_option maxRecDepth 20000 in
theorem im_U_route : Cond.instanceMethod y_U_route ∈ xw_ws := xw_t 700 rfl rfl
set_option maxRecDepth 20000 in
theorem cd_U_route : Cond.code y_U_route b_U_route 8 (some .int) ∈ xw_ws := xw_t 701 rfl rfl
set_option maxRecDepth 20000 in
theorem ml_U_119 : Cond.methodLink "XmppPairModel" 119 y_U_mark ∈ xw_ws := xw_t 702 rfl rfl
set_option maxRecDepth 20000 in
theorem im_U_mark : Cond.instanceMethod y_U_mark ∈ xw_ws := xw_t 704 rfl rfl
set_option maxRecDepth 20000 in
theorem cd_U_mark : Cond.code y_U_mark b_U_mark 4 none ∈ xw_ws := xw_t 705 rfl rfl
set_option maxRecDepth 20000 in
theorem ml_U_105 : Cond.methodLink "XmppPairModel" 105 y_U_unmark ∈ xw_ws := xw_t 706 rfl rfl
set_option maxRecDepth 20000 in
theorem im_U_unmark : Cond.instanceMethod y_U_unmark ∈ xw_ws := xw_t 708 rfl rfl
set_option maxRecDepth 20000 in
theorem cd_U_unmark : Cond.code y_U_unmark b_U_unmark 4 none ∈ xw_ws := xw_t 709 rfl rfl
set_option maxRecDepth 20000 in
theorem ml_U_122 : Cond.methodLink "XmppPairModel" 122 y_U_end ∈ xw_ws := xw_t 710 rfl rfl
set_option maxRecDepth 20000 in
theorem im_U_end : Cond.instanceMethod y_U_end ∈ xw_ws := xw_t 712 rfl rfl
set_option maxRecDepth 20000 in
theorem cd_U_end : Cond.code y_U_end b_U_end 5 none ∈ xw_ws := xw_t 713 rfl rfl
set_option maxRecDepth 20000 in
theorem ml_L_95 : Cond.methodLink "XmppPairLaw" 95 y_U_here ∈ xw_ws := xw_t 714 rfl rfl
set_option maxRecDepth 20000 in
theorem im_U_here : Cond.instanceMethod y_U_here ∈ xw_ws := xw_t 715 rfl rfl
set_option maxRecDepth 20000 in
theorem sl_U_here : Cond.selects "XmppPairModel" y_U_here y_U_here ∈ xw_ws := xw_t 716 rfl rfl
set_option maxRecDepth 20000 in
theorem cd_U_here : Cond.code y_U_here b_U_here 4 (some .int) ∈ xw_ws := xw_t 717 rfl rfl
set_option maxRecDepth 20000 in
theorem ml_U_167 : Cond.methodLink "XmppPairModel" 167 y_U_welcome ∈ xw_ws := xw_t 718 rfl rfl
set_option maxRecDepth 20000 in
theorem im_U_welcome : Cond.instanceMethod y_U_welcome ∈ xw_ws := xw_t 720 rfl rfl
set_option maxRecDepth 20000 in
theorem cd_U_welcome : Cond.code y_U_welcome b_U_welcome 5 none ∈ xw_ws := xw_t 721 rfl rfl
set_option maxRecDepth 20000 in
theorem ml_L_98 : Cond.methodLink "XmppPairLaw" 98 y_U_gone ∈ xw_ws := xw_t 722 rfl rfl
set_option maxRecDepth 20000 in
theorem im_U_gone : Cond.instanceMethod y_U_gone ∈ xw_ws := xw_t 723 rfl rfl
set_option maxRecDepth 20000 in
theorem sl_U_gone : Cond.selects "XmppPairModel" y_U_gone y_U_gone ∈ xw_ws := xw_t 724 rfl rfl
set_option maxRecDepth 20000 in
theorem cd_U_gone : Cond.code y_U_gone b_U_gone 2 (some .int) ∈ xw_ws := xw_t 725 rfl rfl
set_option maxRecDepth 20000 in
theorem ml_L_101 : Cond.methodLink "XmppPairLaw" 101 y_U_close ∈ xw_ws := xw_t 726 rfl rfl
set_option maxRecDepth 20000 in
theorem im_U_close : Cond.instanceMethod y_U_close ∈ xw_ws := xw_t 727 rfl rfl
set_option maxRecDepth 20000 in
theorem sl_U_close : Cond.selects "XmppPairModel" y_U_close y_U_close ∈ xw_ws := xw_t 728 rfl rfl
set_option maxRecDepth 20000 in
theorem cd_U_close : Cond.code y_U_close b_U_close 3 (some .int) ∈ xw_ws := xw_t 729 rfl rfl
set_option maxRecDepth 20000 in
theorem ml_L_105 : Cond.methodLink "XmppPairLaw" 105 y_U_message ∈ xw_ws := xw_t 730 rfl rfl
set_option maxRecDepth 20000 in
theorem im_U_message : Cond.instanceMethod y_U_message ∈ xw_ws := xw_t 731 rfl rfl
set_option maxRecDepth 20000 in
theorem sl_U_message : Cond.selects "XmppPairModel" y_U_message y_U_message ∈ xw_ws := xw_t 732 rfl rfl
set_option maxRecDepth 20000 in
theorem cd_U_message : Cond.code y_U_message b_U_message 5 (some .int) ∈ xw_ws := xw_t 733 rfl rfl
set_option maxRecDepth 20000 in
theorem ml_L_109 : Cond.methodLink "XmppPairLaw" 109 y_U_subscribe ∈ xw_ws := xw_t 734 rfl rfl
set_option maxRecDepth 20000 in
theorem im_U_subscribe : Cond.instanceMethod y_U_subscribe ∈ xw_ws := xw_t 735 rfl rfl
set_option maxRecDepth 20000 in
theorem sl_U_subscribe : Cond.selects "XmppPairModel" y_U_subscribe y_U_subscribe ∈ xw_ws := xw_t 736 rfl rfl
set_option maxRecDepth 20000 in
theorem cd_U_subscribe : Cond.code y_U_subscribe b_U_subscribe 5 (some .int) ∈ xw_ws := xw_t 737 rfl rfl
set_option maxRecDepth 20000 in
theorem ml_U_170 : Cond.methodLink "XmppPairModel" 170 y_U_show ∈ xw_ws := xw_t 738 rfl rfl
set_option maxRecDepth 20000 in
theorem im_U_show : Cond.instanceMethod y_U_show ∈ xw_ws := xw_t 740 rfl rfl
set_option maxRecDepth 20000 in
theorem cd_U_show : Cond.code y_U_show b_U_show 5 none ∈ xw_ws := xw_t 741 rfl rfl
set_option maxRecDepth 20000 in
theorem ml_L_114 : Cond.methodLink "XmppPairLaw" 114 y_U_link ∈ xw_ws := xw_t 742 rfl rfl
set_option maxRecDepth 20000 in
theorem im_U_link : Cond.instanceMethod y_U_link ∈ xw_ws := xw_t 743 rfl rfl
set_option maxRecDepth 20000 in
theorem sl_U_link : Cond.selects "XmppPairModel" y_U_link y_U_link ∈ xw_ws := xw_t 744 rfl rfl
set_option maxRecDepth 20000 in
theorem cd_U_link : Cond.code y_U_link b_U_link 4 (some .int) ∈ xw_ws := xw_t 745 rfl rfl
set_option maxRecDepth 20000 in
theorem ml_L_117 : Cond.methodLink "XmppPairLaw" 117 y_U_take ∈ xw_ws := xw_t 746 rfl rfl
set_option maxRecDepth 20000 in
theorem im_U_take : Cond.instanceMethod y_U_take ∈ xw_ws := xw_t 747 rfl rfl
set_option maxRecDepth 20000 in
theorem sl_U_take : Cond.selects "XmppPairModel" y_U_take y_U_take ∈ xw_ws := xw_t 748 rfl rfl
set_option maxRecDepth 20000 in
theorem cd_U_take : Cond.code y_U_take b_U_take 5 (some .int) ∈ xw_ws := xw_t 749 rfl rfl
set_option maxRecDepth 20000 in
theorem ml_L_120 : Cond.methodLink "XmppPairLaw" 120 y_U_taken ∈ xw_ws := xw_t 750 rfl rfl
set_option maxRecDepth 20000 in
theorem im_U_taken : Cond.instanceMethod y_U_taken ∈ xw_ws := xw_t 751 rfl rfl
set_option maxRecDepth 20000 in
theorem sl_U_taken : Cond.selects "XmppPairModel" y_U_taken y_U_taken ∈ xw_ws := xw_t 752 rfl rfl
set_option maxRecDepth 20000 in
theorem cd_U_taken : Cond.code y_U_taken b_U_taken 2 (some .int) ∈ xw_ws := xw_t 753 rfl rfl
set_option maxRecDepth 20000 in
theorem ml_L_123 : Cond.methodLink "XmppPairLaw" 123 y_U_roster ∈ xw_ws := xw_t 754 rfl rfl
set_option maxRecDepth 20000 in
theorem im_U_roster : Cond.instanceMethod y_U_roster ∈ xw_ws := xw_t 755 rfl rfl
set_option maxRecDepth 20000 in
theorem sl_U_roster : Cond.selects "XmppPairModel" y_U_roster y_U_roster ∈ xw_ws := xw_t 756 rfl rfl
set_option maxRecDepth 20000 in
theorem cd_U_roster : Cond.code y_U_roster b_U_roster 3 (some .int) ∈ xw_ws := xw_t 757 rfl rfl
set_option maxRecDepth 20000 in
theorem ml_L_126 : Cond.methodLink "XmppPairLaw" 126 y_U_connection ∈ xw_ws := xw_t 758 rfl rfl
set_option maxRecDepth 20000 in
theorem im_U_connection : Cond.instanceMethod y_U_connection ∈ xw_ws := xw_t 759 rfl rfl
set_option maxRecDepth 20000 in
theorem sl_U_connection : Cond.selects "XmppPairModel" y_U_connection y_U_connection ∈ xw_ws := xw_t 760 rfl rfl
set_option maxRecDepth 20000 in
theorem cd_U_connection : Cond.code y_U_connection b_U_connection 3 (some .int) ∈ xw_ws := xw_t 761 rfl rfl
set_option maxRecDepth 20000 in
theorem ml_L_129 : Cond.methodLink "XmppPairLaw" 129 y_U_count ∈ xw_ws := xw_t 762 rfl rfl
set_option maxRecDepth 20000 in
theorem im_U_count : Cond.instanceMethod y_U_count ∈ xw_ws := xw_t 763 rfl rfl
set_option maxRecDepth 20000 in
theorem sl_U_count : Cond.selects "XmppPairModel" y_U_count y_U_count ∈ xw_ws := xw_t 764 rfl rfl
set_option maxRecDepth 20000 in
theorem cd_U_count : Cond.code y_U_count b_U_count 4 (some .int) ∈ xw_ws := xw_t 765 rfl rfl
set_option maxRecDepth 20000 in
theorem ar_long : Cond.arrayClass .long ∈ xw_ws := xw_t 766 rfl rfl
theorem sl_X_arrive : Cond.selects "XmppPair" y_X_arrive y_X_arrive ∈ xw_ws := xw_p 0 rfl rfl
theorem sl_X_messageArrives : Cond.selects "XmppPair" y_X_messageArrives y_X_messageArrives ∈ xw_ws := xw_p 1 rfl rfl
theorem sl_X_boundWith : Cond.selects "XmppPair" y_X_boundWith y_X_boundWith ∈ xw_ws := xw_p 2 rfl rfl
theorem sl_X_greatestPriority : Cond.selects "XmppPair" y_X_greatestPriority y_X_greatestPriority ∈ xw_ws := xw_p 3 rfl rfl
theorem sl_X_giveToPriority : Cond.selects "XmppPair" y_X_giveToPriority y_X_giveToPriority ∈ xw_ws := xw_p 4 rfl rfl
theorem sl_X_returnError : Cond.selects "XmppPair" y_X_returnError y_X_returnError ∈ xw_ws := xw_p 5 rfl rfl
theorem sl_X_giveToAvailable : Cond.selects "XmppPair" y_X_giveToAvailable y_X_giveToAvailable ∈ xw_ws := xw_p 6 rfl rfl
theorem sl_X_askArrives : Cond.selects "XmppPair" y_X_askArrives y_X_askArrives ∈ xw_ws := xw_p 7 rfl rfl
theorem sl_X_grantArrives : Cond.selects "XmppPair" y_X_grantArrives y_X_grantArrives ∈ xw_ws := xw_p 8 rfl rfl
theorem sl_X_endingArrives : Cond.selects "XmppPair" y_X_endingArrives y_X_endingArrives ∈ xw_ws := xw_p 9 rfl rfl
theorem sl_X_isRightProof : Cond.selects "XmppPair" y_X_isRightProof y_X_isRightProof ∈ xw_ws := xw_p 11 rfl rfl
theorem sl_X_shut : Cond.selects "XmppPair" y_X_shut y_X_shut ∈ xw_ws := xw_p 12 rfl rfl
theorem sl_X_sendToWatchers : Cond.selects "XmppPair" y_X_sendToWatchers y_X_sendToWatchers ∈ xw_ws := xw_p 13 rfl rfl
theorem sl_X_send : Cond.selects "XmppPair" y_X_send y_X_send ∈ xw_ws := xw_p 14 rfl rfl
theorem sl_X_canReach : Cond.selects "XmppPair" y_X_canReach y_X_canReach ∈ xw_ws := xw_p 15 rfl rfl
theorem sl_X_showOthers : Cond.selects "XmppPair" y_X_showOthers y_X_showOthers ∈ xw_ws := xw_p 16 rfl rfl
theorem sl_X_showConnectionsOf : Cond.selects "XmppPair" y_X_showConnectionsOf y_X_showConnectionsOf ∈ xw_ws := xw_p 17 rfl rfl
theorem sl_X_handOverKept : Cond.selects "XmppPair" y_X_handOverKept y_X_handOverKept ∈ xw_ws := xw_p 18 rfl rfl
theorem sl_X_sendPresences : Cond.selects "XmppPair" y_X_sendPresences y_X_sendPresences ∈ xw_ws := xw_p 19 rfl rfl
theorem sl_X_keptForAll : Cond.selects "XmppPair" y_X_keptForAll y_X_keptForAll ∈ xw_ws := xw_p 20 rfl rfl
theorem sl_X_lostByAll : Cond.selects "XmppPair" y_X_lostByAll y_X_lostByAll ∈ xw_ws := xw_p 21 rfl rfl
theorem sl_U_raise : Cond.selects "XmppPairModel" y_U_raise y_U_raise ∈ xw_ws := xw_p 22 rfl rfl
theorem sl_U_shut : Cond.selects "XmppPairModel" y_U_shut y_U_shut ∈ xw_ws := xw_p 23 rfl rfl
theorem sl_U_tell : Cond.selects "XmppPairModel" y_U_tell y_U_tell ∈ xw_ws := xw_p 24 rfl rfl
theorem sl_U_marked : Cond.selects "XmppPairModel" y_U_marked y_U_marked ∈ xw_ws := xw_p 25 rfl rfl
theorem sl_U_send : Cond.selects "XmppPairModel" y_U_send y_U_send ∈ xw_ws := xw_p 26 rfl rfl
theorem sl_U_hold : Cond.selects "XmppPairModel" y_U_hold y_U_hold ∈ xw_ws := xw_p 27 rfl rfl
theorem sl_U_putAll : Cond.selects "XmppPairModel" y_U_putAll y_U_putAll ∈ xw_ws := xw_p 28 rfl rfl
theorem sl_U_put : Cond.selects "XmppPairModel" y_U_put y_U_put ∈ xw_ws := xw_p 29 rfl rfl
theorem sl_U_arrive : Cond.selects "XmppPairModel" y_U_arrive y_U_arrive ∈ xw_ws := xw_p 30 rfl rfl
theorem sl_U_route : Cond.selects "XmppPairModel" y_U_route y_U_route ∈ xw_ws := xw_p 31 rfl rfl
theorem sl_U_mark : Cond.selects "XmppPairModel" y_U_mark y_U_mark ∈ xw_ws := xw_p 32 rfl rfl
theorem sl_U_unmark : Cond.selects "XmppPairModel" y_U_unmark y_U_unmark ∈ xw_ws := xw_p 33 rfl rfl
theorem sl_U_end : Cond.selects "XmppPairModel" y_U_end y_U_end ∈ xw_ws := xw_p 34 rfl rfl
theorem sl_U_welcome : Cond.selects "XmppPairModel" y_U_welcome y_U_welcome ∈ xw_ws := xw_p 35 rfl rfl
theorem sl_U_show : Cond.selects "XmppPairModel" y_U_show y_U_show ∈ xw_ws := xw_p 36 rfl rfl
set_option maxRecDepth 20000 in
theorem xw_in_X : ∀ w ∈ u_ws R_X F_X 6, w ∈ xw_ws := by
  intro w hw
  obtain ⟨k, hk, rfl⟩ := List.mem_map.mp hw
  have hk := List.mem_range.mp hk
  match k, hk with
  | 0, _ => exact xw_t 144 rfl rfl
  | 1, _ => exact xw_t 146 rfl rfl
  | 2, _ => exact xw_t 148 rfl rfl
  | 3, _ => exact xw_t 150 rfl rfl
  | 4, _ => exact xw_t 152 rfl rfl
  | 5, _ => exact xw_t 154 rfl rfl
  | k + 6, hk => exact absurd hk (by omega)
set_option maxRecDepth 20000 in
theorem xw_in_A : ∀ w ∈ u_ws R_A F_A 4, w ∈ xw_ws := by
  intro w hw
  obtain ⟨k, hk, rfl⟩ := List.mem_map.mp hw
  have hk := List.mem_range.mp hk
  match k, hk with
  | 0, _ => exact xw_t 89 rfl rfl
  | 1, _ => exact xw_t 91 rfl rfl
  | 2, _ => exact xw_t 93 rfl rfl
  | 3, _ => exact xw_t 95 rfl rfl
  | k + 4, hk => exact absurd hk (by omega)
set_option maxRecDepth 20000 in
theorem xw_in_C : ∀ w ∈ u_ws R_C F_C 7, w ∈ xw_ws := by
  intro w hw
  obtain ⟨k, hk, rfl⟩ := List.mem_map.mp hw
  have hk := List.mem_range.mp hk
  match k, hk with
  | 0, _ => exact xw_t 121 rfl rfl
  | 1, _ => exact xw_t 123 rfl rfl
  | 2, _ => exact xw_t 125 rfl rfl
  | 3, _ => exact xw_t 127 rfl rfl
  | 4, _ => exact xw_t 129 rfl rfl
  | 5, _ => exact xw_t 131 rfl rfl
  | 6, _ => exact xw_t 133 rfl rfl
  | k + 7, hk => exact absurd hk (by omega)
set_option maxRecDepth 20000 in
theorem xw_in_Q : ∀ w ∈ u_ws R_Q F_Q 3, w ∈ xw_ws := by
  intro w hw
  obtain ⟨k, hk, rfl⟩ := List.mem_map.mp hw
  have hk := List.mem_range.mp hk
  match k, hk with
  | 0, _ => exact xw_t 73 rfl rfl
  | 1, _ => exact xw_t 75 rfl rfl
  | 2, _ => exact xw_t 77 rfl rfl
  | k + 3, hk => exact absurd hk (by omega)
set_option maxRecDepth 20000 in
theorem xw_in_Z : ∀ w ∈ u_ws R_Z F_Z 6, w ∈ xw_ws := by
  intro w hw
  obtain ⟨k, hk, rfl⟩ := List.mem_map.mp hw
  have hk := List.mem_range.mp hk
  match k, hk with
  | 0, _ => exact xw_t 40 rfl rfl
  | 1, _ => exact xw_t 42 rfl rfl
  | 2, _ => exact xw_t 44 rfl rfl
  | 3, _ => exact xw_t 46 rfl rfl
  | 4, _ => exact xw_t 48 rfl rfl
  | 5, _ => exact xw_t 50 rfl rfl
  | k + 6, hk => exact absurd hk (by omega)
set_option maxRecDepth 20000 in
theorem xw_in_U : ∀ w ∈ u_ws R_U F_U 34, w ∈ xw_ws := by
  intro w hw
  obtain ⟨k, hk, rfl⟩ := List.mem_map.mp hw
  have hk := List.mem_range.mp hk
  match k, hk with
  | 0, _ => exact xw_t 556 rfl rfl
  | 1, _ => exact xw_t 558 rfl rfl
  | 2, _ => exact xw_t 560 rfl rfl
  | 3, _ => exact xw_t 562 rfl rfl
  | 4, _ => exact xw_t 564 rfl rfl
  | 5, _ => exact xw_t 566 rfl rfl
  | 6, _ => exact xw_t 568 rfl rfl
  | 7, _ => exact xw_t 570 rfl rfl
  | 8, _ => exact xw_t 572 rfl rfl
  | 9, _ => exact xw_t 574 rfl rfl
  | 10, _ => exact xw_t 576 rfl rfl
  | 11, _ => exact xw_t 578 rfl rfl
  | 12, _ => exact xw_t 580 rfl rfl
  | 13, _ => exact xw_t 582 rfl rfl
  | 14, _ => exact xw_t 584 rfl rfl
  | 15, _ => exact xw_t 586 rfl rfl
  | 16, _ => exact xw_t 588 rfl rfl
  | 17, _ => exact xw_t 590 rfl rfl
  | 18, _ => exact xw_t 592 rfl rfl
  | 19, _ => exact xw_t 594 rfl rfl
  | 20, _ => exact xw_t 596 rfl rfl
  | 21, _ => exact xw_t 598 rfl rfl
  | 22, _ => exact xw_t 600 rfl rfl
  | 23, _ => exact xw_t 602 rfl rfl
  | 24, _ => exact xw_t 604 rfl rfl
  | 25, _ => exact xw_t 606 rfl rfl
  | 26, _ => exact xw_t 608 rfl rfl
  | 27, _ => exact xw_t 610 rfl rfl
  | 28, _ => exact xw_t 612 rfl rfl
  | 29, _ => exact xw_t 614 rfl rfl
  | 30, _ => exact xw_t 616 rfl rfl
  | 31, _ => exact xw_t 618 rfl rfl
  | 32, _ => exact xw_t 620 rfl rfl
  | 33, _ => exact xw_t 622 rfl rfl
  | k + 34, hk => exact absurd hk (by omega)
theorem gd_X_X_isAccount : GoodIn xw_ws (wsS "XmppPair" 51 y_X_isAccount (Cond.code y_X_isAccount b_X_isAccount 1 (some .boolean) :: xw_ws)) := xw_goodS cd_X_isAccount ml_X_51 sm_X_isAccount ii_X
theorem hd_X_isAccount : y_X_isAccount.cls = "XmppPair" ∧ y_X_isAccount.cls ≠ "java/lang/invoke/MethodHandle" ∧ y_X_isAccount.cls ≠ "java/lang/invoke/VarHandle" ∧ (parseMethodDescriptor y_X_isAccount.desc).map (fun d => d.parameters.length) = some 1 := by decide +kernel
theorem gd_X_X_checkArgument : GoodIn xw_ws (wsS "XmppPair" 55 y_X_checkArgument (Cond.code y_X_checkArgument b_X_checkArgument 1 none :: xw_ws)) := xw_goodS cd_X_checkArgument ml_X_55 sm_X_checkArgument ii_X
theorem hd_X_checkArgument : y_X_checkArgument.cls = "XmppPair" ∧ y_X_checkArgument.cls ≠ "java/lang/invoke/MethodHandle" ∧ y_X_checkArgument.cls ≠ "java/lang/invoke/VarHandle" ∧ (parseMethodDescriptor y_X_checkArgument.desc).map (fun d => d.parameters.length) = some 1 := by decide +kernel
theorem gd_X_X_checkState : GoodIn xw_ws (wsS "XmppPair" 62 y_X_checkState (Cond.code y_X_checkState b_X_checkState 1 none :: xw_ws)) := xw_goodS cd_X_checkState ml_X_62 sm_X_checkState ii_X
theorem hd_X_checkState : y_X_checkState.cls = "XmppPair" ∧ y_X_checkState.cls ≠ "java/lang/invoke/MethodHandle" ∧ y_X_checkState.cls ≠ "java/lang/invoke/VarHandle" ∧ (parseMethodDescriptor y_X_checkState.desc).map (fun d => d.parameters.length) = some 1 := by decide +kernel
theorem gd_X_X_isConnection : GoodIn xw_ws (wsS "XmppPair" 68 y_X_isConnection (Cond.code y_X_isConnection b_X_isConnection 1 (some .boolean) :: xw_ws)) := xw_goodS cd_X_isConnection ml_X_68 sm_X_isConnection ii_X
theorem hd_X_isConnection : y_X_isConnection.cls = "XmppPair" ∧ y_X_isConnection.cls ≠ "java/lang/invoke/MethodHandle" ∧ y_X_isConnection.cls ≠ "java/lang/invoke/VarHandle" ∧ (parseMethodDescriptor y_X_isConnection.desc).map (fun d => d.parameters.length) = some 1 := by decide +kernel
theorem gd_X_Q_clear : GoodIn xw_ws (wsV "XmppPair" 77 "XmppPair$StanzaQueue" y_Q_clear (Cond.code y_Q_clear b_Q_clear 1 none :: xw_ws)) := xw_goodV cd_Q_clear ml_X_77 im_Q_clear sl_Q_clear ii_Q
theorem hd_Q_clear : y_Q_clear.cls = "XmppPair$StanzaQueue" ∧ y_Q_clear.cls ≠ "java/lang/invoke/MethodHandle" ∧ y_Q_clear.cls ≠ "java/lang/invoke/VarHandle" ∧ (parseMethodDescriptor y_Q_clear.desc).map (fun d => d.parameters.length) = some 0 := by decide +kernel
theorem gd_X_X_isRightProof : GoodIn xw_ws (wsV "XmppPair" 86 "XmppPair" y_X_isRightProof (Cond.code y_X_isRightProof b_X_isRightProof 4 (some .boolean) :: xw_ws)) := xw_goodV cd_X_isRightProof ml_X_86 im_X_isRightProof sl_X_isRightProof ii_X
theorem hd_X_isRightProof : y_X_isRightProof.cls = "XmppPair" ∧ y_X_isRightProof.cls ≠ "java/lang/invoke/MethodHandle" ∧ y_X_isRightProof.cls ≠ "java/lang/invoke/VarHandle" ∧ (parseMethodDescriptor y_X_isRightProof.desc).map (fun d => d.parameters.length) = some 2 := by decide +kernel
theorem gd_X_X_boundWith : GoodIn xw_ws (wsV "XmppPair" 93 "XmppPair" y_X_boundWith (Cond.code y_X_boundWith b_X_boundWith 7 (some (.object "XmppPair$Connection")) :: xw_ws)) := xw_goodV cd_X_boundWith ml_X_93 im_X_boundWith sl_X_boundWith ii_X
theorem hd_X_boundWith : y_X_boundWith.cls = "XmppPair" ∧ y_X_boundWith.cls ≠ "java/lang/invoke/MethodHandle" ∧ y_X_boundWith.cls ≠ "java/lang/invoke/VarHandle" ∧ (parseMethodDescriptor y_X_boundWith.desc).map (fun d => d.parameters.length) = some 2 := by decide +kernel
theorem gd_X_X_shut : GoodIn xw_ws (wsV "XmppPair" 97 "XmppPair" y_X_shut (Cond.code y_X_shut b_X_shut 2 none :: xw_ws)) := xw_goodV cd_X_shut ml_X_97 im_X_shut sl_X_shut ii_X
theorem hd_X_shut : y_X_shut.cls = "XmppPair" ∧ y_X_shut.cls ≠ "java/lang/invoke/MethodHandle" ∧ y_X_shut.cls ≠ "java/lang/invoke/VarHandle" ∧ (parseMethodDescriptor y_X_shut.desc).map (fun d => d.parameters.length) = some 1 := by decide +kernel
theorem gd_X_X_sendToWatchers : GoodIn xw_ws (wsV "XmppPair" 110 "XmppPair" y_X_sendToWatchers (Cond.code y_X_sendToWatchers b_X_sendToWatchers 5 none :: xw_ws)) := xw_goodV cd_X_sendToWatchers ml_X_110 im_X_sendToWatchers sl_X_sendToWatchers ii_X
theorem hd_X_sendToWatchers : y_X_sendToWatchers.cls = "XmppPair" ∧ y_X_sendToWatchers.cls ≠ "java/lang/invoke/MethodHandle" ∧ y_X_sendToWatchers.cls ≠ "java/lang/invoke/VarHandle" ∧ (parseMethodDescriptor y_X_sendToWatchers.desc).map (fun d => d.parameters.length) = some 2 := by decide +kernel
theorem gd_X_X_showOthers : GoodIn xw_ws (wsV "XmppPair" 114 "XmppPair" y_X_showOthers (Cond.code y_X_showOthers b_X_showOthers 4 none :: xw_ws)) := xw_goodV cd_X_showOthers ml_X_114 im_X_showOthers sl_X_showOthers ii_X
theorem hd_X_showOthers : y_X_showOthers.cls = "XmppPair" ∧ y_X_showOthers.cls ≠ "java/lang/invoke/MethodHandle" ∧ y_X_showOthers.cls ≠ "java/lang/invoke/VarHandle" ∧ (parseMethodDescriptor y_X_showOthers.desc).map (fun d => d.parameters.length) = some 1 := by decide +kernel
theorem gd_X_X_handOverKept : GoodIn xw_ws (wsV "XmppPair" 117 "XmppPair" y_X_handOverKept (Cond.code y_X_handOverKept b_X_handOverKept 5 none :: xw_ws)) := xw_goodV cd_X_handOverKept ml_X_117 im_X_handOverKept sl_X_handOverKept ii_X
theorem hd_X_handOverKept : y_X_handOverKept.cls = "XmppPair" ∧ y_X_handOverKept.cls ≠ "java/lang/invoke/MethodHandle" ∧ y_X_handOverKept.cls ≠ "java/lang/invoke/VarHandle" ∧ (parseMethodDescriptor y_X_handOverKept.desc).map (fun d => d.parameters.length) = some 1 := by decide +kernel
theorem gd_X_X_send : GoodIn xw_ws (wsV "XmppPair" 123 "XmppPair" y_X_send (Cond.code y_X_send b_X_send 2 none :: xw_ws)) := xw_goodV cd_X_send ml_X_123 im_X_send sl_X_send ii_X
theorem hd_X_send : y_X_send.cls = "XmppPair" ∧ y_X_send.cls ≠ "java/lang/invoke/MethodHandle" ∧ y_X_send.cls ≠ "java/lang/invoke/VarHandle" ∧ (parseMethodDescriptor y_X_send.desc).map (fun d => d.parameters.length) = some 1 := by decide +kernel
theorem gd_X_A_hasAny : GoodIn xw_ws (wsV "XmppPair" 126 "XmppPair$Account" y_A_hasAny (Cond.code y_A_hasAny b_A_hasAny 3 (some .boolean) :: xw_ws)) := xw_goodV cd_A_hasAny ml_X_126 im_A_hasAny sl_A_hasAny ii_A
theorem hd_A_hasAny : y_A_hasAny.cls = "XmppPair$Account" ∧ y_A_hasAny.cls ≠ "java/lang/invoke/MethodHandle" ∧ y_A_hasAny.cls ≠ "java/lang/invoke/VarHandle" ∧ (parseMethodDescriptor y_A_hasAny.desc).map (fun d => d.parameters.length) = some 2 := by decide +kernel
theorem gd_X_X_sendPresences : GoodIn xw_ws (wsV "XmppPair" 130 "XmppPair" y_X_sendPresences (Cond.code y_X_sendPresences b_X_sendPresences 8 none :: xw_ws)) := xw_goodV cd_X_sendPresences ml_X_130 im_X_sendPresences sl_X_sendPresences ii_X
theorem hd_X_sendPresences : y_X_sendPresences.cls = "XmppPair" ∧ y_X_sendPresences.cls ≠ "java/lang/invoke/MethodHandle" ∧ y_X_sendPresences.cls ≠ "java/lang/invoke/VarHandle" ∧ (parseMethodDescriptor y_X_sendPresences.desc).map (fun d => d.parameters.length) = some 3 := by decide +kernel
theorem gd_X_X_changeOwnMarks : GoodIn xw_ws (wsS "XmppPair" 134 y_X_changeOwnMarks (Cond.code y_X_changeOwnMarks b_X_changeOwnMarks 3 none :: xw_ws)) := xw_goodS cd_X_changeOwnMarks ml_X_134 sm_X_changeOwnMarks ii_X
theorem hd_X_changeOwnMarks : y_X_changeOwnMarks.cls = "XmppPair" ∧ y_X_changeOwnMarks.cls ≠ "java/lang/invoke/MethodHandle" ∧ y_X_changeOwnMarks.cls ≠ "java/lang/invoke/VarHandle" ∧ (parseMethodDescriptor y_X_changeOwnMarks.desc).map (fun d => d.parameters.length) = some 3 := by decide +kernel
theorem gd_X_Q_removeFirst : GoodIn xw_ws (wsV "XmppPair" 138 "XmppPair$StanzaQueue" y_Q_removeFirst (Cond.code y_Q_removeFirst b_Q_removeFirst 3 (some (.object "XmppPair$Stanza")) :: xw_ws)) := xw_goodV cd_Q_removeFirst ml_X_138 im_Q_removeFirst sl_Q_removeFirst ii_Q
theorem hd_Q_removeFirst : y_Q_removeFirst.cls = "XmppPair$StanzaQueue" ∧ y_Q_removeFirst.cls ≠ "java/lang/invoke/MethodHandle" ∧ y_Q_removeFirst.cls ≠ "java/lang/invoke/VarHandle" ∧ (parseMethodDescriptor y_Q_removeFirst.desc).map (fun d => d.parameters.length) = some 0 := by decide +kernel
theorem gd_X_X_arrive : GoodIn xw_ws (wsV "XmppPair" 142 "XmppPair" y_X_arrive (Cond.code y_X_arrive b_X_arrive 2 none :: xw_ws)) := xw_goodV cd_X_arrive ml_X_142 im_X_arrive sl_X_arrive ii_X
theorem hd_X_arrive : y_X_arrive.cls = "XmppPair" ∧ y_X_arrive.cls ≠ "java/lang/invoke/MethodHandle" ∧ y_X_arrive.cls ≠ "java/lang/invoke/VarHandle" ∧ (parseMethodDescriptor y_X_arrive.desc).map (fun d => d.parameters.length) = some 1 := by decide +kernel
theorem gd_X_X_keptForAll : GoodIn xw_ws (wsV "XmppPair" 165 "XmppPair" y_X_keptForAll (Cond.code y_X_keptForAll b_X_keptForAll 6 (some .int) :: xw_ws)) := xw_goodV cd_X_keptForAll ml_X_165 im_X_keptForAll sl_X_keptForAll ii_X
theorem hd_X_keptForAll : y_X_keptForAll.cls = "XmppPair" ∧ y_X_keptForAll.cls ≠ "java/lang/invoke/MethodHandle" ∧ y_X_keptForAll.cls ≠ "java/lang/invoke/VarHandle" ∧ (parseMethodDescriptor y_X_keptForAll.desc).map (fun d => d.parameters.length) = some 0 := by decide +kernel
theorem gd_X_X_lostByAll : GoodIn xw_ws (wsV "XmppPair" 169 "XmppPair" y_X_lostByAll (Cond.code y_X_lostByAll b_X_lostByAll 6 (some .int) :: xw_ws)) := xw_goodV cd_X_lostByAll ml_X_169 im_X_lostByAll sl_X_lostByAll ii_X
theorem hd_X_lostByAll : y_X_lostByAll.cls = "XmppPair" ∧ y_X_lostByAll.cls ≠ "java/lang/invoke/MethodHandle" ∧ y_X_lostByAll.cls ≠ "java/lang/invoke/VarHandle" ∧ (parseMethodDescriptor y_X_lostByAll.desc).map (fun d => d.parameters.length) = some 0 := by decide +kernel
theorem gd_X_X_onOneServer : GoodIn xw_ws (wsS "XmppPair" 178 y_X_onOneServer (Cond.code y_X_onOneServer b_X_onOneServer 2 (some .boolean) :: xw_ws)) := xw_goodS cd_X_onOneServer ml_X_178 sm_X_onOneServer ii_X
theorem hd_X_onOneServer : y_X_onOneServer.cls = "XmppPair" ∧ y_X_onOneServer.cls ≠ "java/lang/invoke/MethodHandle" ∧ y_X_onOneServer.cls ≠ "java/lang/invoke/VarHandle" ∧ (parseMethodDescriptor y_X_onOneServer.desc).map (fun d => d.parameters.length) = some 2 := by decide +kernel
theorem gd_X_X_presenceOf : GoodIn xw_ws (wsS "XmppPair" 181 y_X_presenceOf (Cond.code y_X_presenceOf b_X_presenceOf 4 (some (.object "XmppPair$Stanza")) :: xw_ws)) := xw_goodS cd_X_presenceOf ml_X_181 sm_X_presenceOf ii_X
theorem hd_X_presenceOf : y_X_presenceOf.cls = "XmppPair" ∧ y_X_presenceOf.cls ≠ "java/lang/invoke/MethodHandle" ∧ y_X_presenceOf.cls ≠ "java/lang/invoke/VarHandle" ∧ (parseMethodDescriptor y_X_presenceOf.desc).map (fun d => d.parameters.length) = some 3 := by decide +kernel
theorem gd_X_C_isAvailableFor : GoodIn xw_ws (wsV "XmppPair" 185 "XmppPair$Connection" y_C_isAvailableFor (Cond.code y_C_isAvailableFor b_C_isAvailableFor 2 (some .boolean) :: xw_ws)) := xw_goodV cd_C_isAvailableFor ml_X_185 im_C_isAvailableFor sl_C_isAvailableFor ii_C
theorem hd_C_isAvailableFor : y_C_isAvailableFor.cls = "XmppPair$Connection" ∧ y_C_isAvailableFor.cls ≠ "java/lang/invoke/MethodHandle" ∧ y_C_isAvailableFor.cls ≠ "java/lang/invoke/VarHandle" ∧ (parseMethodDescriptor y_C_isAvailableFor.desc).map (fun d => d.parameters.length) = some 1 := by decide +kernel
theorem gd_X_X_canReach : GoodIn xw_ws (wsV "XmppPair" 188 "XmppPair" y_X_canReach (Cond.code y_X_canReach b_X_canReach 3 (some .boolean) :: xw_ws)) := xw_goodV cd_X_canReach ml_X_188 im_X_canReach sl_X_canReach ii_X
theorem hd_X_canReach : y_X_canReach.cls = "XmppPair" ∧ y_X_canReach.cls ≠ "java/lang/invoke/MethodHandle" ∧ y_X_canReach.cls ≠ "java/lang/invoke/VarHandle" ∧ (parseMethodDescriptor y_X_canReach.desc).map (fun d => d.parameters.length) = some 2 := by decide +kernel
theorem gd_X_X_showConnectionsOf : GoodIn xw_ws (wsV "XmppPair" 191 "XmppPair" y_X_showConnectionsOf (Cond.code y_X_showConnectionsOf b_X_showConnectionsOf 7 none :: xw_ws)) := xw_goodV cd_X_showConnectionsOf ml_X_191 im_X_showConnectionsOf sl_X_showConnectionsOf ii_X
theorem hd_X_showConnectionsOf : y_X_showConnectionsOf.cls = "XmppPair" ∧ y_X_showConnectionsOf.cls ≠ "java/lang/invoke/MethodHandle" ∧ y_X_showConnectionsOf.cls ≠ "java/lang/invoke/VarHandle" ∧ (parseMethodDescriptor y_X_showConnectionsOf.desc).map (fun d => d.parameters.length) = some 2 := by decide +kernel
theorem gd_X_Q_add : GoodIn xw_ws (wsV "XmppPair" 195 "XmppPair$StanzaQueue" y_Q_add (Cond.code y_Q_add b_Q_add 2 none :: xw_ws)) := xw_goodV cd_Q_add ml_X_195 im_Q_add sl_Q_add ii_Q
theorem hd_Q_add : y_Q_add.cls = "XmppPair$StanzaQueue" ∧ y_Q_add.cls ≠ "java/lang/invoke/MethodHandle" ∧ y_Q_add.cls ≠ "java/lang/invoke/VarHandle" ∧ (parseMethodDescriptor y_Q_add.desc).map (fun d => d.parameters.length) = some 1 := by decide +kernel
theorem gd_X_A_addMark : GoodIn xw_ws (wsV "XmppPair" 198 "XmppPair$Account" y_A_addMark (Cond.code y_A_addMark b_A_addMark 3 none :: xw_ws)) := xw_goodV cd_A_addMark ml_X_198 im_A_addMark sl_A_addMark ii_A
theorem hd_A_addMark : y_A_addMark.cls = "XmppPair$Account" ∧ y_A_addMark.cls ≠ "java/lang/invoke/MethodHandle" ∧ y_A_addMark.cls ≠ "java/lang/invoke/VarHandle" ∧ (parseMethodDescriptor y_A_addMark.desc).map (fun d => d.parameters.length) = some 2 := by decide +kernel
theorem gd_X_A_dropMarks : GoodIn xw_ws (wsV "XmppPair" 202 "XmppPair$Account" y_A_dropMarks (Cond.code y_A_dropMarks b_A_dropMarks 3 none :: xw_ws)) := xw_goodV cd_A_dropMarks ml_X_202 im_A_dropMarks sl_A_dropMarks ii_A
theorem hd_A_dropMarks : y_A_dropMarks.cls = "XmppPair$Account" ∧ y_A_dropMarks.cls ≠ "java/lang/invoke/MethodHandle" ∧ y_A_dropMarks.cls ≠ "java/lang/invoke/VarHandle" ∧ (parseMethodDescriptor y_A_dropMarks.desc).map (fun d => d.parameters.length) = some 2 := by decide +kernel
theorem gd_X_Q_isFull : GoodIn xw_ws (wsV "XmppPair" 208 "XmppPair$StanzaQueue" y_Q_isFull (Cond.code y_Q_isFull b_Q_isFull 1 (some .boolean) :: xw_ws)) := xw_goodV cd_Q_isFull ml_X_208 im_Q_isFull sl_Q_isFull ii_Q
theorem hd_Q_isFull : y_Q_isFull.cls = "XmppPair$StanzaQueue" ∧ y_Q_isFull.cls ≠ "java/lang/invoke/MethodHandle" ∧ y_Q_isFull.cls ≠ "java/lang/invoke/VarHandle" ∧ (parseMethodDescriptor y_Q_isFull.desc).map (fun d => d.parameters.length) = some 0 := by decide +kernel
theorem gd_X_X_returnError : GoodIn xw_ws (wsV "XmppPair" 212 "XmppPair" y_X_returnError (Cond.code y_X_returnError b_X_returnError 2 none :: xw_ws)) := xw_goodV cd_X_returnError ml_X_212 im_X_returnError sl_X_returnError ii_X
theorem hd_X_returnError : y_X_returnError.cls = "XmppPair" ∧ y_X_returnError.cls ≠ "java/lang/invoke/MethodHandle" ∧ y_X_returnError.cls ≠ "java/lang/invoke/VarHandle" ∧ (parseMethodDescriptor y_X_returnError.desc).map (fun d => d.parameters.length) = some 1 := by decide +kernel
theorem gd_X_X_giveToAvailable : GoodIn xw_ws (wsV "XmppPair" 215 "XmppPair" y_X_giveToAvailable (Cond.code y_X_giveToAvailable b_X_giveToAvailable 6 none :: xw_ws)) := xw_goodV cd_X_giveToAvailable ml_X_215 im_X_giveToAvailable sl_X_giveToAvailable ii_X
theorem hd_X_giveToAvailable : y_X_giveToAvailable.cls = "XmppPair" ∧ y_X_giveToAvailable.cls ≠ "java/lang/invoke/MethodHandle" ∧ y_X_giveToAvailable.cls ≠ "java/lang/invoke/VarHandle" ∧ (parseMethodDescriptor y_X_giveToAvailable.desc).map (fun d => d.parameters.length) = some 1 := by decide +kernel
theorem gd_X_X_messageArrives : GoodIn xw_ws (wsV "XmppPair" 218 "XmppPair" y_X_messageArrives (Cond.code y_X_messageArrives b_X_messageArrives 5 none :: xw_ws)) := xw_goodV cd_X_messageArrives ml_X_218 im_X_messageArrives sl_X_messageArrives ii_X
theorem hd_X_messageArrives : y_X_messageArrives.cls = "XmppPair" ∧ y_X_messageArrives.cls ≠ "java/lang/invoke/MethodHandle" ∧ y_X_messageArrives.cls ≠ "java/lang/invoke/VarHandle" ∧ (parseMethodDescriptor y_X_messageArrives.desc).map (fun d => d.parameters.length) = some 1 := by decide +kernel
theorem gd_X_X_askArrives : GoodIn xw_ws (wsV "XmppPair" 221 "XmppPair" y_X_askArrives (Cond.code y_X_askArrives b_X_askArrives 3 none :: xw_ws)) := xw_goodV cd_X_askArrives ml_X_221 im_X_askArrives sl_X_askArrives ii_X
theorem hd_X_askArrives : y_X_askArrives.cls = "XmppPair" ∧ y_X_askArrives.cls ≠ "java/lang/invoke/MethodHandle" ∧ y_X_askArrives.cls ≠ "java/lang/invoke/VarHandle" ∧ (parseMethodDescriptor y_X_askArrives.desc).map (fun d => d.parameters.length) = some 1 := by decide +kernel
theorem gd_X_X_grantArrives : GoodIn xw_ws (wsV "XmppPair" 224 "XmppPair" y_X_grantArrives (Cond.code y_X_grantArrives b_X_grantArrives 3 none :: xw_ws)) := xw_goodV cd_X_grantArrives ml_X_224 im_X_grantArrives sl_X_grantArrives ii_X
theorem hd_X_grantArrives : y_X_grantArrives.cls = "XmppPair" ∧ y_X_grantArrives.cls ≠ "java/lang/invoke/MethodHandle" ∧ y_X_grantArrives.cls ≠ "java/lang/invoke/VarHandle" ∧ (parseMethodDescriptor y_X_grantArrives.desc).map (fun d => d.parameters.length) = some 1 := by decide +kernel
theorem gd_X_X_endingArrives : GoodIn xw_ws (wsV "XmppPair" 227 "XmppPair" y_X_endingArrives (Cond.code y_X_endingArrives b_X_endingArrives 4 none :: xw_ws)) := xw_goodV cd_X_endingArrives ml_X_227 im_X_endingArrives sl_X_endingArrives ii_X
theorem hd_X_endingArrives : y_X_endingArrives.cls = "XmppPair" ∧ y_X_endingArrives.cls ≠ "java/lang/invoke/MethodHandle" ∧ y_X_endingArrives.cls ≠ "java/lang/invoke/VarHandle" ∧ (parseMethodDescriptor y_X_endingArrives.desc).map (fun d => d.parameters.length) = some 2 := by decide +kernel
theorem gd_X_X_greatestPriority : GoodIn xw_ws (wsV "XmppPair" 234 "XmppPair" y_X_greatestPriority (Cond.code y_X_greatestPriority b_X_greatestPriority 7 (some .int) :: xw_ws)) := xw_goodV cd_X_greatestPriority ml_X_234 im_X_greatestPriority sl_X_greatestPriority ii_X
theorem hd_X_greatestPriority : y_X_greatestPriority.cls = "XmppPair" ∧ y_X_greatestPriority.cls ≠ "java/lang/invoke/MethodHandle" ∧ y_X_greatestPriority.cls ≠ "java/lang/invoke/VarHandle" ∧ (parseMethodDescriptor y_X_greatestPriority.desc).map (fun d => d.parameters.length) = some 1 := by decide +kernel
theorem gd_X_X_giveToPriority : GoodIn xw_ws (wsV "XmppPair" 238 "XmppPair" y_X_giveToPriority (Cond.code y_X_giveToPriority b_X_giveToPriority 7 none :: xw_ws)) := xw_goodV cd_X_giveToPriority ml_X_238 im_X_giveToPriority sl_X_giveToPriority ii_X
theorem hd_X_giveToPriority : y_X_giveToPriority.cls = "XmppPair" ∧ y_X_giveToPriority.cls ≠ "java/lang/invoke/MethodHandle" ∧ y_X_giveToPriority.cls ≠ "java/lang/invoke/VarHandle" ∧ (parseMethodDescriptor y_X_giveToPriority.desc).map (fun d => d.parameters.length) = some 2 := by decide +kernel
theorem gd_U_U_in : GoodIn xw_ws (wsS "XmppPairModel" 91 y_U_in (Cond.code y_U_in b_U_in 3 (some .boolean) :: xw_ws)) := xw_goodS cd_U_in ml_U_91 sm_U_in ii_U
theorem hd_U_in : y_U_in.cls = "XmppPairModel" ∧ y_U_in.cls ≠ "java/lang/invoke/MethodHandle" ∧ y_U_in.cls ≠ "java/lang/invoke/VarHandle" ∧ (parseMethodDescriptor y_U_in.desc).map (fun d => d.parameters.length) = some 3 := by decide +kernel
theorem gd_U_U_put : GoodIn xw_ws (wsV "XmppPairModel" 98 "XmppPairModel" y_U_put (Cond.code y_U_put b_U_put 7 none :: xw_ws)) := xw_goodV cd_U_put ml_U_98 im_U_put sl_U_put ii_U
theorem hd_U_put : y_U_put.cls = "XmppPairModel" ∧ y_U_put.cls ≠ "java/lang/invoke/MethodHandle" ∧ y_U_put.cls ≠ "java/lang/invoke/VarHandle" ∧ (parseMethodDescriptor y_U_put.desc).map (fun d => d.parameters.length) = some 5 := by decide +kernel
theorem gd_U_U_marked : GoodIn xw_ws (wsV "XmppPairModel" 102 "XmppPairModel" y_U_marked (Cond.code y_U_marked b_U_marked 4 (some .boolean) :: xw_ws)) := xw_goodV cd_U_marked ml_U_102 im_U_marked sl_U_marked ii_U
theorem hd_U_marked : y_U_marked.cls = "XmppPairModel" ∧ y_U_marked.cls ≠ "java/lang/invoke/MethodHandle" ∧ y_U_marked.cls ≠ "java/lang/invoke/VarHandle" ∧ (parseMethodDescriptor y_U_marked.desc).map (fun d => d.parameters.length) = some 3 := by decide +kernel
theorem gd_U_U_unmark : GoodIn xw_ws (wsV "XmppPairModel" 105 "XmppPairModel" y_U_unmark (Cond.code y_U_unmark b_U_unmark 4 none :: xw_ws)) := xw_goodV cd_U_unmark ml_U_105 im_U_unmark sl_U_unmark ii_U
theorem hd_U_unmark : y_U_unmark.cls = "XmppPairModel" ∧ y_U_unmark.cls ≠ "java/lang/invoke/MethodHandle" ∧ y_U_unmark.cls ≠ "java/lang/invoke/VarHandle" ∧ (parseMethodDescriptor y_U_unmark.desc).map (fun d => d.parameters.length) = some 3 := by decide +kernel
theorem gd_U_U_putAll : GoodIn xw_ws (wsV "XmppPairModel" 109 "XmppPairModel" y_U_putAll (Cond.code y_U_putAll b_U_putAll 7 none :: xw_ws)) := xw_goodV cd_U_putAll ml_U_109 im_U_putAll sl_U_putAll ii_U
theorem hd_U_putAll : y_U_putAll.cls = "XmppPairModel" ∧ y_U_putAll.cls ≠ "java/lang/invoke/MethodHandle" ∧ y_U_putAll.cls ≠ "java/lang/invoke/VarHandle" ∧ (parseMethodDescriptor y_U_putAll.desc).map (fun d => d.parameters.length) = some 5 := by decide +kernel
theorem gd_U_U_route : GoodIn xw_ws (wsV "XmppPairModel" 115 "XmppPairModel" y_U_route (Cond.code y_U_route b_U_route 8 (some .int) :: xw_ws)) := xw_goodV cd_U_route ml_U_115 im_U_route sl_U_route ii_U
theorem hd_U_route : y_U_route.cls = "XmppPairModel" ∧ y_U_route.cls ≠ "java/lang/invoke/MethodHandle" ∧ y_U_route.cls ≠ "java/lang/invoke/VarHandle" ∧ (parseMethodDescriptor y_U_route.desc).map (fun d => d.parameters.length) = some 5 := by decide +kernel
theorem gd_U_U_mark : GoodIn xw_ws (wsV "XmppPairModel" 119 "XmppPairModel" y_U_mark (Cond.code y_U_mark b_U_mark 4 none :: xw_ws)) := xw_goodV cd_U_mark ml_U_119 im_U_mark sl_U_mark ii_U
theorem hd_U_mark : y_U_mark.cls = "XmppPairModel" ∧ y_U_mark.cls ≠ "java/lang/invoke/MethodHandle" ∧ y_U_mark.cls ≠ "java/lang/invoke/VarHandle" ∧ (parseMethodDescriptor y_U_mark.desc).map (fun d => d.parameters.length) = some 3 := by decide +kernel
theorem gd_U_U_end : GoodIn xw_ws (wsV "XmppPairModel" 122 "XmppPairModel" y_U_end (Cond.code y_U_end b_U_end 5 none :: xw_ws)) := xw_goodV cd_U_end ml_U_122 im_U_end sl_U_end ii_U
theorem hd_U_end : y_U_end.cls = "XmppPairModel" ∧ y_U_end.cls ≠ "java/lang/invoke/MethodHandle" ∧ y_U_end.cls ≠ "java/lang/invoke/VarHandle" ∧ (parseMethodDescriptor y_U_end.desc).map (fun d => d.parameters.length) = some 4 := by decide +kernel
theorem gd_U_U_hold : GoodIn xw_ws (wsV "XmppPairModel" 129 "XmppPairModel" y_U_hold (Cond.code y_U_hold b_U_hold 7 none :: xw_ws)) := xw_goodV cd_U_hold ml_U_129 im_U_hold sl_U_hold ii_U
theorem hd_U_hold : y_U_hold.cls = "XmppPairModel" ∧ y_U_hold.cls ≠ "java/lang/invoke/MethodHandle" ∧ y_U_hold.cls ≠ "java/lang/invoke/VarHandle" ∧ (parseMethodDescriptor y_U_hold.desc).map (fun d => d.parameters.length) = some 6 := by decide +kernel
theorem gd_U_U_arrive : GoodIn xw_ws (wsV "XmppPairModel" 133 "XmppPairModel" y_U_arrive (Cond.code y_U_arrive b_U_arrive 7 none :: xw_ws)) := xw_goodV cd_U_arrive ml_U_133 im_U_arrive sl_U_arrive ii_U
theorem hd_U_arrive : y_U_arrive.cls = "XmppPairModel" ∧ y_U_arrive.cls ≠ "java/lang/invoke/MethodHandle" ∧ y_U_arrive.cls ≠ "java/lang/invoke/VarHandle" ∧ (parseMethodDescriptor y_U_arrive.desc).map (fun d => d.parameters.length) = some 6 := by decide +kernel
theorem gd_U_U_isAccount : GoodIn xw_ws (wsS "XmppPairModel" 136 y_U_isAccount (Cond.code y_U_isAccount b_U_isAccount 1 (some .boolean) :: xw_ws)) := xw_goodS cd_U_isAccount ml_U_136 sm_U_isAccount ii_U
theorem hd_U_isAccount : y_U_isAccount.cls = "XmppPairModel" ∧ y_U_isAccount.cls ≠ "java/lang/invoke/MethodHandle" ∧ y_U_isAccount.cls ≠ "java/lang/invoke/VarHandle" ∧ (parseMethodDescriptor y_U_isAccount.desc).map (fun d => d.parameters.length) = some 1 := by decide +kernel
theorem gd_U_U_raise : GoodIn xw_ws (wsV "XmppPairModel" 140 "XmppPairModel" y_U_raise (Cond.code y_U_raise b_U_raise 2 (some .int) :: xw_ws)) := xw_goodV cd_U_raise ml_U_140 im_U_raise sl_U_raise ii_U
theorem hd_U_raise : y_U_raise.cls = "XmppPairModel" ∧ y_U_raise.cls ≠ "java/lang/invoke/MethodHandle" ∧ y_U_raise.cls ≠ "java/lang/invoke/VarHandle" ∧ (parseMethodDescriptor y_U_raise.desc).map (fun d => d.parameters.length) = some 1 := by decide +kernel
theorem gd_U_U_isConnection : GoodIn xw_ws (wsS "XmppPairModel" 144 y_U_isConnection (Cond.code y_U_isConnection b_U_isConnection 1 (some .boolean) :: xw_ws)) := xw_goodS cd_U_isConnection ml_U_144 sm_U_isConnection ii_U
theorem hd_U_isConnection : y_U_isConnection.cls = "XmppPairModel" ∧ y_U_isConnection.cls ≠ "java/lang/invoke/MethodHandle" ∧ y_U_isConnection.cls ≠ "java/lang/invoke/VarHandle" ∧ (parseMethodDescriptor y_U_isConnection.desc).map (fun d => d.parameters.length) = some 1 := by decide +kernel
theorem gd_U_U_send : GoodIn xw_ws (wsV "XmppPairModel" 156 "XmppPairModel" y_U_send (Cond.code y_U_send b_U_send 12 none :: xw_ws)) := xw_goodV cd_U_send ml_U_156 im_U_send sl_U_send ii_U
theorem hd_U_send : y_U_send.cls = "XmppPairModel" ∧ y_U_send.cls ≠ "java/lang/invoke/MethodHandle" ∧ y_U_send.cls ≠ "java/lang/invoke/VarHandle" ∧ (parseMethodDescriptor y_U_send.desc).map (fun d => d.parameters.length) = some 6 := by decide +kernel
theorem gd_U_U_tell : GoodIn xw_ws (wsV "XmppPairModel" 159 "XmppPairModel" y_U_tell (Cond.code y_U_tell b_U_tell 5 none :: xw_ws)) := xw_goodV cd_U_tell ml_U_159 im_U_tell sl_U_tell ii_U
theorem hd_U_tell : y_U_tell.cls = "XmppPairModel" ∧ y_U_tell.cls ≠ "java/lang/invoke/MethodHandle" ∧ y_U_tell.cls ≠ "java/lang/invoke/VarHandle" ∧ (parseMethodDescriptor y_U_tell.desc).map (fun d => d.parameters.length) = some 2 := by decide +kernel
theorem gd_U_U_shut : GoodIn xw_ws (wsV "XmppPairModel" 163 "XmppPairModel" y_U_shut (Cond.code y_U_shut b_U_shut 2 none :: xw_ws)) := xw_goodV cd_U_shut ml_U_163 im_U_shut sl_U_shut ii_U
theorem hd_U_shut : y_U_shut.cls = "XmppPairModel" ∧ y_U_shut.cls ≠ "java/lang/invoke/MethodHandle" ∧ y_U_shut.cls ≠ "java/lang/invoke/VarHandle" ∧ (parseMethodDescriptor y_U_shut.desc).map (fun d => d.parameters.length) = some 1 := by decide +kernel
theorem gd_U_U_welcome : GoodIn xw_ws (wsV "XmppPairModel" 167 "XmppPairModel" y_U_welcome (Cond.code y_U_welcome b_U_welcome 5 none :: xw_ws)) := xw_goodV cd_U_welcome ml_U_167 im_U_welcome sl_U_welcome ii_U
theorem hd_U_welcome : y_U_welcome.cls = "XmppPairModel" ∧ y_U_welcome.cls ≠ "java/lang/invoke/MethodHandle" ∧ y_U_welcome.cls ≠ "java/lang/invoke/VarHandle" ∧ (parseMethodDescriptor y_U_welcome.desc).map (fun d => d.parameters.length) = some 1 := by decide +kernel
theorem gd_U_U_show : GoodIn xw_ws (wsV "XmppPairModel" 170 "XmppPairModel" y_U_show (Cond.code y_U_show b_U_show 5 none :: xw_ws)) := xw_goodV cd_U_show ml_U_170 im_U_show sl_U_show ii_U
theorem hd_U_show : y_U_show.cls = "XmppPairModel" ∧ y_U_show.cls ≠ "java/lang/invoke/MethodHandle" ∧ y_U_show.cls ≠ "java/lang/invoke/VarHandle" ∧ (parseMethodDescriptor y_U_show.desc).map (fun d => d.parameters.length) = some 3 := by decide +kernel
theorem gd_L_X_register : GoodIn xw_ws (wsV "XmppPairLaw" 7 "XmppPair" y_X_register (Cond.code y_X_register b_X_register 4 (some .int) :: xw_ws)) := xw_goodV cd_X_register ml_L_7 im_X_register sl_X_register ii_X
theorem hd_X_register : y_X_register.cls = "XmppPair" ∧ y_X_register.cls ≠ "java/lang/invoke/MethodHandle" ∧ y_X_register.cls ≠ "java/lang/invoke/VarHandle" ∧ (parseMethodDescriptor y_X_register.desc).map (fun d => d.parameters.length) = some 2 := by decide +kernel
theorem gd_L_X_connect : GoodIn xw_ws (wsV "XmppPairLaw" 17 "XmppPair" y_X_connect (Cond.code y_X_connect b_X_connect 3 (some .int) :: xw_ws)) := xw_goodV cd_X_connect ml_L_17 im_X_connect sl_X_connect ii_X
theorem hd_X_connect : y_X_connect.cls = "XmppPair" ∧ y_X_connect.cls ≠ "java/lang/invoke/MethodHandle" ∧ y_X_connect.cls ≠ "java/lang/invoke/VarHandle" ∧ (parseMethodDescriptor y_X_connect.desc).map (fun d => d.parameters.length) = some 1 := by decide +kernel
theorem gd_L_X_login : GoodIn xw_ws (wsV "XmppPairLaw" 21 "XmppPair" y_X_login (Cond.code y_X_login b_X_login 4 (some .int) :: xw_ws)) := xw_goodV cd_X_login ml_L_21 im_X_login sl_X_login ii_X
theorem hd_X_login : y_X_login.cls = "XmppPair" ∧ y_X_login.cls ≠ "java/lang/invoke/MethodHandle" ∧ y_X_login.cls ≠ "java/lang/invoke/VarHandle" ∧ (parseMethodDescriptor y_X_login.desc).map (fun d => d.parameters.length) = some 2 := by decide +kernel
theorem gd_L_X_prove : GoodIn xw_ws (wsV "XmppPairLaw" 24 "XmppPair" y_X_prove (Cond.code y_X_prove b_X_prove 4 (some .int) :: xw_ws)) := xw_goodV cd_X_prove ml_L_24 im_X_prove sl_X_prove ii_X
theorem hd_X_prove : y_X_prove.cls = "XmppPair" ∧ y_X_prove.cls ≠ "java/lang/invoke/MethodHandle" ∧ y_X_prove.cls ≠ "java/lang/invoke/VarHandle" ∧ (parseMethodDescriptor y_X_prove.desc).map (fun d => d.parameters.length) = some 2 := by decide +kernel
theorem gd_L_X_bind : GoodIn xw_ws (wsV "XmppPairLaw" 29 "XmppPair" y_X_bind (Cond.code y_X_bind b_X_bind 5 (some .int) :: xw_ws)) := xw_goodV cd_X_bind ml_L_29 im_X_bind sl_X_bind ii_X
theorem hd_X_bind : y_X_bind.cls = "XmppPair" ∧ y_X_bind.cls ≠ "java/lang/invoke/MethodHandle" ∧ y_X_bind.cls ≠ "java/lang/invoke/VarHandle" ∧ (parseMethodDescriptor y_X_bind.desc).map (fun d => d.parameters.length) = some 2 := by decide +kernel
theorem gd_L_X_here : GoodIn xw_ws (wsV "XmppPairLaw" 32 "XmppPair" y_X_here (Cond.code y_X_here b_X_here 5 (some .int) :: xw_ws)) := xw_goodV cd_X_here ml_L_32 im_X_here sl_X_here ii_X
theorem hd_X_here : y_X_here.cls = "XmppPair" ∧ y_X_here.cls ≠ "java/lang/invoke/MethodHandle" ∧ y_X_here.cls ≠ "java/lang/invoke/VarHandle" ∧ (parseMethodDescriptor y_X_here.desc).map (fun d => d.parameters.length) = some 2 := by decide +kernel
theorem gd_L_X_gone : GoodIn xw_ws (wsV "XmppPairLaw" 35 "XmppPair" y_X_gone (Cond.code y_X_gone b_X_gone 3 (some .int) :: xw_ws)) := xw_goodV cd_X_gone ml_L_35 im_X_gone sl_X_gone ii_X
theorem hd_X_gone : y_X_gone.cls = "XmppPair" ∧ y_X_gone.cls ≠ "java/lang/invoke/MethodHandle" ∧ y_X_gone.cls ≠ "java/lang/invoke/VarHandle" ∧ (parseMethodDescriptor y_X_gone.desc).map (fun d => d.parameters.length) = some 1 := by decide +kernel
theorem gd_L_X_close : GoodIn xw_ws (wsV "XmppPairLaw" 38 "XmppPair" y_X_close (Cond.code y_X_close b_X_close 4 (some .int) :: xw_ws)) := xw_goodV cd_X_close ml_L_38 im_X_close sl_X_close ii_X
theorem hd_X_close : y_X_close.cls = "XmppPair" ∧ y_X_close.cls ≠ "java/lang/invoke/MethodHandle" ∧ y_X_close.cls ≠ "java/lang/invoke/VarHandle" ∧ (parseMethodDescriptor y_X_close.desc).map (fun d => d.parameters.length) = some 1 := by decide +kernel
theorem gd_L_X_message : GoodIn xw_ws (wsV "XmppPairLaw" 41 "XmppPair" y_X_message (Cond.code y_X_message b_X_message 6 (some .int) :: xw_ws)) := xw_goodV cd_X_message ml_L_41 im_X_message sl_X_message ii_X
theorem hd_X_message : y_X_message.cls = "XmppPair" ∧ y_X_message.cls ≠ "java/lang/invoke/MethodHandle" ∧ y_X_message.cls ≠ "java/lang/invoke/VarHandle" ∧ (parseMethodDescriptor y_X_message.desc).map (fun d => d.parameters.length) = some 4 := by decide +kernel
theorem gd_L_X_subscribe : GoodIn xw_ws (wsV "XmppPairLaw" 45 "XmppPair" y_X_subscribe (Cond.code y_X_subscribe b_X_subscribe 6 (some .int) :: xw_ws)) := xw_goodV cd_X_subscribe ml_L_45 im_X_subscribe sl_X_subscribe ii_X
theorem hd_X_subscribe : y_X_subscribe.cls = "XmppPair" ∧ y_X_subscribe.cls ≠ "java/lang/invoke/MethodHandle" ∧ y_X_subscribe.cls ≠ "java/lang/invoke/VarHandle" ∧ (parseMethodDescriptor y_X_subscribe.desc).map (fun d => d.parameters.length) = some 3 := by decide +kernel
theorem gd_L_X_take : GoodIn xw_ws (wsV "XmppPairLaw" 49 "XmppPair" y_X_take (Cond.code y_X_take b_X_take 4 (some .int) :: xw_ws)) := xw_goodV cd_X_take ml_L_49 im_X_take sl_X_take ii_X
theorem hd_X_take : y_X_take.cls = "XmppPair" ∧ y_X_take.cls ≠ "java/lang/invoke/MethodHandle" ∧ y_X_take.cls ≠ "java/lang/invoke/VarHandle" ∧ (parseMethodDescriptor y_X_take.desc).map (fun d => d.parameters.length) = some 1 := by decide +kernel
theorem gd_L_X_taken : GoodIn xw_ws (wsV "XmppPairLaw" 54 "XmppPair" y_X_taken (Cond.code y_X_taken b_X_taken 3 (some .int) :: xw_ws)) := xw_goodV cd_X_taken ml_L_54 im_X_taken sl_X_taken ii_X
theorem hd_X_taken : y_X_taken.cls = "XmppPair" ∧ y_X_taken.cls ≠ "java/lang/invoke/MethodHandle" ∧ y_X_taken.cls ≠ "java/lang/invoke/VarHandle" ∧ (parseMethodDescriptor y_X_taken.desc).map (fun d => d.parameters.length) = some 1 := by decide +kernel
theorem gd_L_X_roster : GoodIn xw_ws (wsV "XmppPairLaw" 57 "XmppPair" y_X_roster (Cond.code y_X_roster b_X_roster 3 (some .int) :: xw_ws)) := xw_goodV cd_X_roster ml_L_57 im_X_roster sl_X_roster ii_X
theorem hd_X_roster : y_X_roster.cls = "XmppPair" ∧ y_X_roster.cls ≠ "java/lang/invoke/MethodHandle" ∧ y_X_roster.cls ≠ "java/lang/invoke/VarHandle" ∧ (parseMethodDescriptor y_X_roster.desc).map (fun d => d.parameters.length) = some 2 := by decide +kernel
theorem gd_L_X_connection : GoodIn xw_ws (wsV "XmppPairLaw" 60 "XmppPair" y_X_connection (Cond.code y_X_connection b_X_connection 4 (some .int) :: xw_ws)) := xw_goodV cd_X_connection ml_L_60 im_X_connection sl_X_connection ii_X
theorem hd_X_connection : y_X_connection.cls = "XmppPair" ∧ y_X_connection.cls ≠ "java/lang/invoke/MethodHandle" ∧ y_X_connection.cls ≠ "java/lang/invoke/VarHandle" ∧ (parseMethodDescriptor y_X_connection.desc).map (fun d => d.parameters.length) = some 2 := by decide +kernel
theorem gd_L_X_count : GoodIn xw_ws (wsV "XmppPairLaw" 63 "XmppPair" y_X_count (Cond.code y_X_count b_X_count 2 (some .int) :: xw_ws)) := xw_goodV cd_X_count ml_L_63 im_X_count sl_X_count ii_X
theorem hd_X_count : y_X_count.cls = "XmppPair" ∧ y_X_count.cls ≠ "java/lang/invoke/MethodHandle" ∧ y_X_count.cls ≠ "java/lang/invoke/VarHandle" ∧ (parseMethodDescriptor y_X_count.desc).map (fun d => d.parameters.length) = some 1 := by decide +kernel
theorem gd_L_U_register : GoodIn xw_ws (wsV "XmppPairLaw" 75 "XmppPairModel" y_U_register (Cond.code y_U_register b_U_register 3 (some .int) :: xw_ws)) := xw_goodV cd_U_register ml_L_75 im_U_register sl_U_register ii_U
theorem hd_U_register : y_U_register.cls = "XmppPairModel" ∧ y_U_register.cls ≠ "java/lang/invoke/MethodHandle" ∧ y_U_register.cls ≠ "java/lang/invoke/VarHandle" ∧ (parseMethodDescriptor y_U_register.desc).map (fun d => d.parameters.length) = some 2 := by decide +kernel
theorem gd_L_U_thrown : GoodIn xw_ws (wsV "XmppPairLaw" 76 "XmppPairModel" y_U_thrown (Cond.code y_U_thrown b_U_thrown 1 (some .int) :: xw_ws)) := xw_goodV cd_U_thrown ml_L_76 im_U_thrown sl_U_thrown ii_U
theorem hd_U_thrown : y_U_thrown.cls = "XmppPairModel" ∧ y_U_thrown.cls ≠ "java/lang/invoke/MethodHandle" ∧ y_U_thrown.cls ≠ "java/lang/invoke/VarHandle" ∧ (parseMethodDescriptor y_U_thrown.desc).map (fun d => d.parameters.length) = some 0 := by decide +kernel
theorem gd_L_U_connect : GoodIn xw_ws (wsV "XmppPairLaw" 83 "XmppPairModel" y_U_connect (Cond.code y_U_connect b_U_connect 2 (some .int) :: xw_ws)) := xw_goodV cd_U_connect ml_L_83 im_U_connect sl_U_connect ii_U
theorem hd_U_connect : y_U_connect.cls = "XmppPairModel" ∧ y_U_connect.cls ≠ "java/lang/invoke/MethodHandle" ∧ y_U_connect.cls ≠ "java/lang/invoke/VarHandle" ∧ (parseMethodDescriptor y_U_connect.desc).map (fun d => d.parameters.length) = some 1 := by decide +kernel
theorem gd_L_U_login : GoodIn xw_ws (wsV "XmppPairLaw" 86 "XmppPairModel" y_U_login (Cond.code y_U_login b_U_login 3 (some .int) :: xw_ws)) := xw_goodV cd_U_login ml_L_86 im_U_login sl_U_login ii_U
theorem hd_U_login : y_U_login.cls = "XmppPairModel" ∧ y_U_login.cls ≠ "java/lang/invoke/MethodHandle" ∧ y_U_login.cls ≠ "java/lang/invoke/VarHandle" ∧ (parseMethodDescriptor y_U_login.desc).map (fun d => d.parameters.length) = some 2 := by decide +kernel
theorem gd_L_U_prove : GoodIn xw_ws (wsV "XmppPairLaw" 89 "XmppPairModel" y_U_prove (Cond.code y_U_prove b_U_prove 4 (some .int) :: xw_ws)) := xw_goodV cd_U_prove ml_L_89 im_U_prove sl_U_prove ii_U
theorem hd_U_prove : y_U_prove.cls = "XmppPairModel" ∧ y_U_prove.cls ≠ "java/lang/invoke/MethodHandle" ∧ y_U_prove.cls ≠ "java/lang/invoke/VarHandle" ∧ (parseMethodDescriptor y_U_prove.desc).map (fun d => d.parameters.length) = some 2 := by decide +kernel
theorem gd_L_U_bind : GoodIn xw_ws (wsV "XmppPairLaw" 92 "XmppPairModel" y_U_bind (Cond.code y_U_bind b_U_bind 5 (some .int) :: xw_ws)) := xw_goodV cd_U_bind ml_L_92 im_U_bind sl_U_bind ii_U
theorem hd_U_bind : y_U_bind.cls = "XmppPairModel" ∧ y_U_bind.cls ≠ "java/lang/invoke/MethodHandle" ∧ y_U_bind.cls ≠ "java/lang/invoke/VarHandle" ∧ (parseMethodDescriptor y_U_bind.desc).map (fun d => d.parameters.length) = some 2 := by decide +kernel
theorem gd_L_U_here : GoodIn xw_ws (wsV "XmppPairLaw" 95 "XmppPairModel" y_U_here (Cond.code y_U_here b_U_here 4 (some .int) :: xw_ws)) := xw_goodV cd_U_here ml_L_95 im_U_here sl_U_here ii_U
theorem hd_U_here : y_U_here.cls = "XmppPairModel" ∧ y_U_here.cls ≠ "java/lang/invoke/MethodHandle" ∧ y_U_here.cls ≠ "java/lang/invoke/VarHandle" ∧ (parseMethodDescriptor y_U_here.desc).map (fun d => d.parameters.length) = some 2 := by decide +kernel
theorem gd_L_U_gone : GoodIn xw_ws (wsV "XmppPairLaw" 98 "XmppPairModel" y_U_gone (Cond.code y_U_gone b_U_gone 2 (some .int) :: xw_ws)) := xw_goodV cd_U_gone ml_L_98 im_U_gone sl_U_gone ii_U
theorem hd_U_gone : y_U_gone.cls = "XmppPairModel" ∧ y_U_gone.cls ≠ "java/lang/invoke/MethodHandle" ∧ y_U_gone.cls ≠ "java/lang/invoke/VarHandle" ∧ (parseMethodDescriptor y_U_gone.desc).map (fun d => d.parameters.length) = some 1 := by decide +kernel
theorem gd_L_U_close : GoodIn xw_ws (wsV "XmppPairLaw" 101 "XmppPairModel" y_U_close (Cond.code y_U_close b_U_close 3 (some .int) :: xw_ws)) := xw_goodV cd_U_close ml_L_101 im_U_close sl_U_close ii_U
theorem hd_U_close : y_U_close.cls = "XmppPairModel" ∧ y_U_close.cls ≠ "java/lang/invoke/MethodHandle" ∧ y_U_close.cls ≠ "java/lang/invoke/VarHandle" ∧ (parseMethodDescriptor y_U_close.desc).map (fun d => d.parameters.length) = some 1 := by decide +kernel
theorem gd_L_U_message : GoodIn xw_ws (wsV "XmppPairLaw" 105 "XmppPairModel" y_U_message (Cond.code y_U_message b_U_message 5 (some .int) :: xw_ws)) := xw_goodV cd_U_message ml_L_105 im_U_message sl_U_message ii_U
theorem hd_U_message : y_U_message.cls = "XmppPairModel" ∧ y_U_message.cls ≠ "java/lang/invoke/MethodHandle" ∧ y_U_message.cls ≠ "java/lang/invoke/VarHandle" ∧ (parseMethodDescriptor y_U_message.desc).map (fun d => d.parameters.length) = some 4 := by decide +kernel
theorem gd_L_U_subscribe : GoodIn xw_ws (wsV "XmppPairLaw" 109 "XmppPairModel" y_U_subscribe (Cond.code y_U_subscribe b_U_subscribe 5 (some .int) :: xw_ws)) := xw_goodV cd_U_subscribe ml_L_109 im_U_subscribe sl_U_subscribe ii_U
theorem hd_U_subscribe : y_U_subscribe.cls = "XmppPairModel" ∧ y_U_subscribe.cls ≠ "java/lang/invoke/MethodHandle" ∧ y_U_subscribe.cls ≠ "java/lang/invoke/VarHandle" ∧ (parseMethodDescriptor y_U_subscribe.desc).map (fun d => d.parameters.length) = some 3 := by decide +kernel
theorem gd_L_X_link : GoodIn xw_ws (wsV "XmppPairLaw" 110 "XmppPair" y_X_link (Cond.code y_X_link b_X_link 4 (some .int) :: xw_ws)) := xw_goodV cd_X_link ml_L_110 im_X_link sl_X_link ii_X
theorem hd_X_link : y_X_link.cls = "XmppPair" ∧ y_X_link.cls ≠ "java/lang/invoke/MethodHandle" ∧ y_X_link.cls ≠ "java/lang/invoke/VarHandle" ∧ (parseMethodDescriptor y_X_link.desc).map (fun d => d.parameters.length) = some 1 := by decide +kernel
theorem gd_L_U_link : GoodIn xw_ws (wsV "XmppPairLaw" 114 "XmppPairModel" y_U_link (Cond.code y_U_link b_U_link 4 (some .int) :: xw_ws)) := xw_goodV cd_U_link ml_L_114 im_U_link sl_U_link ii_U
theorem hd_U_link : y_U_link.cls = "XmppPairModel" ∧ y_U_link.cls ≠ "java/lang/invoke/MethodHandle" ∧ y_U_link.cls ≠ "java/lang/invoke/VarHandle" ∧ (parseMethodDescriptor y_U_link.desc).map (fun d => d.parameters.length) = some 1 := by decide +kernel
theorem gd_L_U_take : GoodIn xw_ws (wsV "XmppPairLaw" 117 "XmppPairModel" y_U_take (Cond.code y_U_take b_U_take 5 (some .int) :: xw_ws)) := xw_goodV cd_U_take ml_L_117 im_U_take sl_U_take ii_U
theorem hd_U_take : y_U_take.cls = "XmppPairModel" ∧ y_U_take.cls ≠ "java/lang/invoke/MethodHandle" ∧ y_U_take.cls ≠ "java/lang/invoke/VarHandle" ∧ (parseMethodDescriptor y_U_take.desc).map (fun d => d.parameters.length) = some 1 := by decide +kernel
theorem gd_L_U_taken : GoodIn xw_ws (wsV "XmppPairLaw" 120 "XmppPairModel" y_U_taken (Cond.code y_U_taken b_U_taken 2 (some .int) :: xw_ws)) := xw_goodV cd_U_taken ml_L_120 im_U_taken sl_U_taken ii_U
theorem hd_U_taken : y_U_taken.cls = "XmppPairModel" ∧ y_U_taken.cls ≠ "java/lang/invoke/MethodHandle" ∧ y_U_taken.cls ≠ "java/lang/invoke/VarHandle" ∧ (parseMethodDescriptor y_U_taken.desc).map (fun d => d.parameters.length) = some 1 := by decide +kernel
theorem gd_L_U_roster : GoodIn xw_ws (wsV "XmppPairLaw" 123 "XmppPairModel" y_U_roster (Cond.code y_U_roster b_U_roster 3 (some .int) :: xw_ws)) := xw_goodV cd_U_roster ml_L_123 im_U_roster sl_U_roster ii_U
theorem hd_U_roster : y_U_roster.cls = "XmppPairModel" ∧ y_U_roster.cls ≠ "java/lang/invoke/MethodHandle" ∧ y_U_roster.cls ≠ "java/lang/invoke/VarHandle" ∧ (parseMethodDescriptor y_U_roster.desc).map (fun d => d.parameters.length) = some 2 := by decide +kernel
theorem gd_L_U_connection : GoodIn xw_ws (wsV "XmppPairLaw" 126 "XmppPairModel" y_U_connection (Cond.code y_U_connection b_U_connection 3 (some .int) :: xw_ws)) := xw_goodV cd_U_connection ml_L_126 im_U_connection sl_U_connection ii_U
theorem hd_U_connection : y_U_connection.cls = "XmppPairModel" ∧ y_U_connection.cls ≠ "java/lang/invoke/MethodHandle" ∧ y_U_connection.cls ≠ "java/lang/invoke/VarHandle" ∧ (parseMethodDescriptor y_U_connection.desc).map (fun d => d.parameters.length) = some 2 := by decide +kernel
theorem gd_L_U_count : GoodIn xw_ws (wsV "XmppPairLaw" 129 "XmppPairModel" y_U_count (Cond.code y_U_count b_U_count 4 (some .int) :: xw_ws)) := xw_goodV cd_U_count ml_L_129 im_U_count sl_U_count ii_U
theorem hd_U_count : y_U_count.cls = "XmppPairModel" ∧ y_U_count.cls ≠ "java/lang/invoke/MethodHandle" ∧ y_U_count.cls ≠ "java/lang/invoke/VarHandle" ∧ (parseMethodDescriptor y_U_count.desc).map (fun d => d.parameters.length) = some 1 := by decide +kernel
